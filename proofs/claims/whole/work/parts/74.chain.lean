/-! WHAT CHAINS DO -/
def s_R (h : hS) (a : Nat) (F : Nat → Option Nat) : hS := (h.1, h.2.1, h.2.2.1, h.2.2.2.1, va_up h.2.2.2.2.1 a F, h.2.2.2.2.2)
theorem h_r_sR (h : hS) (a : Nat) (F : Nat → Option Nat) (b : Nat) : h_r (s_R h a F) b = if b = a then F else h_r h b := rfl
theorem s_r_sR (h : hS) (a k : Nat) (v : Option Nat) (F : Nat → Option Nat) : s_r (s_R h a F) a k v = s_R h a (va_up F k v) := by
  simp only [s_r, s_R]
  congr 5
  funext b
  by_cases hb : b = a <;> simp [va_up, hb]
theorem s_R_self (h : hS) (a : Nat) : s_R h a (h_r h a) = h := by
  have : va_up h.2.2.2.2.1 a (h.2.2.2.2.1 a) = h.2.2.2.2.1 := by
    funext b
    by_cases hb : b = a
    · subst hb; simp [va_up]
    · simp [va_up, hb]
  show (h.1, h.2.1, h.2.2.1, h.2.2.2.1, va_up h.2.2.2.2.1 a (h.2.2.2.2.1 a), h.2.2.2.2.2) = h
  rw [this]
theorem tr_sR {ρ : Nat → Nat} {h : hS} {a : Nat} {F : Nat → Option Nat} {R : Nat → Prop} (ha : R (ρ a)) : tr ρ h R ρ (s_R h a F) := ⟨Nat.le_refl _, fun q _ => ⟨rfl, rfl, rfl, fun hR => ⟨rfl, rfl, by rw [h_r_sR, if_neg (fun e => hR (by rw [e]; exact ha))]⟩⟩⟩
theorem uR_i {β : Type} {h : hS} {kd ci a m j : Nat} {v : Option Nat} {f : hS → Option β} (hk : h_k h a = kd) (hn : h_n h a = m) (hj : j < m) (hm : m < 2 ^ 31) (hv : ∀ b, v = some b → h_k h b = ci + 1) : uR h kd ci (some a) (iI j) v f = f (s_r h a j v) := by
  have h1 : inb (iI j) (h_n h a) := by rw [hn, ← nI_iI]; exact nI_in hj hm
  show (if h_k h a = kd ∧ inb (iI j) (h_n h a) ∧ (∀ b, v = some b → h_k h b = ci + 1) then f (s_r h a (iI j).toNatClampNeg v) else none) = _
  rw [if_pos ⟨hk, h1, hv⟩, ← nI_iI, nI_clamp (by omega)]
/-- how long a chain's row is; how much room it may take yet -/
def chN (h : hS) (c : Nat) : Nat := match h_r h c 0 with
  | some sa => h_n h sa
  | none => 0
def rch (h : hS) (c : Nat) : Nat := if chN h c = 0 then 53 else 0
theorem chN_of {h : hS} {c sa : Nat} (q : h_r h c 0 = some sa) : chN h c = h_n h sa := by unfold chN; rw [q]
section
variable {ρ : Nat → Nat} {l c n : Nat} {p : Nat → Int × Int × Int} {Y : Nat → Nat → Int}
theorem CH.cap {ρ' : Nat → Nat} {h g : hS} {R : Nat → Prop} (C : CH ρ l h c n p Y) (t : tr ρ h R ρ' g) (hR : ¬ R l) : chN g c = chN h c := by
  obtain ⟨sa, q1, q2, q3, q4, q5⟩ := C
  obtain ⟨a1, a2, a3, a4⟩ := t.2 c q1.2.2
  obtain ⟨b1, b2, b3, b4⟩ := t.2 sa q2.2.2.2.1
  obtain ⟨a5, a6, a7⟩ := a4 (by rw [q1.2.1]; exact hR)
  rw [chN_of q2.1, chN_of (by rw [a7]; exact q2.1), b2]
theorem CH.le {h : hS} (C : CH ρ l h c n p Y) : n ≤ chN h c ∧ (chN h c = 0 ∨ chN h c = 40) := by
  obtain ⟨sa, q1, q2, q3, q4, q5⟩ := C
  rw [chN_of q2.1]
  exact ⟨q4, q2.2.2.2.2⟩
theorem makeRoom_is (N : Nat) (hN : 100 ≤ N) {h : hS} (C : CH ρ l h c n p Y) {room : Nat} (hr : room ≤ 40) : ∃ ρ' g, f_Chain_makeRoom N h c (iI room) = some ((), g) ∧ tr ρ h (rg l) ρ' g ∧ CH ρ' l g c n p Y ∧ room ≤ chN g c ∧ hm g + rch g c ≤ hm h + rch h c := by
  have hC := C
  have hk := C.k
  obtain ⟨sa, q1, q2, q3, q4, q5⟩ := C
  have hcap := chN_of q2.1
  have h40 : h_n h sa ≤ 40 := by rcases q2.2.2.2.2 with z | z <;> omega
  unfold f_Chain_makeRoom f_Chain_makeRoom_19
  rw [gR_k hk, q2.1, lnR q2.2.1 rfl]
  by_cases h1 : room ≤ h_n h sa
  · rw [if_pos ((iI_le (by omega) (by omega)).mpr (by omega))]
    exact ⟨ρ, h, rfl, tr.rf, hC, by rw [hcap]; exact h1, Nat.le_refl _⟩
  · have h0 : h_n h sa = 0 := by rcases q2.2.2.2.2 with z | z <;> omega
    have hn0 : n = 0 := by omega
    subst hn0
    rw [if_neg (fun q => absurd ((iI_le (by omega) (by omega)).mp q) (by omega)), gR_k hk, q2.1, lnR q2.2.1 rfl, if_pos (show iI (h_n h sa : Int) < (40 : Int32) from (iI_lt (b := 40) (by omega) (by omega)).mpr (by omega)), show (40 : Int32) = iI ((40 : Nat) : Int) from rfl, nwA_n (by omega)]
    have hne : ¬ c = h_x h := by have := q1.2.2; omega
    have hec : ext ρ h l c = l := by unfold ext; rw [if_pos q1.2.2]; exact q1.2.1
    have her : h_r (s_r (nw h 64 40 40) c 0 (some (h_x h))) c 0 = some (h_x h) := by simp [h_r_sr, va_up]
    have hen : h_n (s_r (nw h 64 40 40) c 0 (some (h_x h))) (h_x h) = 40 := by rw [h_n_sr, n_nw, if_pos rfl]
    have hk1 : h_k (nw h 64 40 40) c = 2 + 1 := by rw [k_nw, if_neg hne]; exact hk
    have hi1 : h_i (nw h 64 40 40) c 1 = iI ((0 : Nat) : Int) := by rw [i_nw, if_neg hne]; exact q3
    refine ⟨ext ρ h l, s_r (nw h 64 40 40) c 0 (some (h_x h)), ?_, tr_nw.trans (tr_sr hec), ⟨h_x h, ⟨?_, hec, ?_⟩, ⟨her, ?_, ?_, ?_, Or.inr hen⟩, ?_, by omega, fun i hi => by omega⟩, ?_, ?_⟩
    · unfold f_Chain_makeRoom_25
      obtain ⟨N', rfl⟩ : ∃ q, N = q + 1 := ⟨N - 1, by omega⟩
      unfold f_Chain_makeRoom_28 f_Chain_makeRoom_60
      rw [gI_k hk1, hi1, if_pos (by decide), pR_k hk1]
    · rw [h_k_sr, k_nw, if_neg hne]; exact q1.1
    · show c < h_x h + 1; have := q1.2.2; omega
    · rw [h_k_sr, k_nw, if_pos rfl]
    · unfold ext; rw [if_neg (Nat.lt_irrefl _)]
    · show h_x h < h_x h + 1; omega
    · show h_i (nw h 64 40 40) c 1 = _; exact hi1
    · rw [chN_of her, hen]; exact hr
    · unfold rch
      rw [chN_of her, hen, hcap, h0]
      show 13 * (h_x h + 1) + (h_s h + 40) + 0 ≤ 13 * h_x h + h_s h + 53
      omega
/-- the steps that a row holds -/
def hold (ρ : Nat → Nat) (h : hS) (F : Nat → Option Nat) (n : Nat) (p : Nat → Int × Int × Int) (Y : Nat → Nat → Int) : Prop := ∀ i, i < n → ∃ st, F i = some st ∧ ST ρ h st (p i) (Y i)
theorem CH.put {h : hS} {sa : Nat} {F : Nat → Option Nat} {m : Nat} {p' : Nat → Int × Int × Int} {Y' : Nat → Nat → Int} (C : CH ρ l h c n p Y) (hl : l ≠ 9) (hs : h_r h c 0 = some sa) (hm : m ≤ h_n h sa) (hF : hold ρ h F m p' Y') : CH ρ l (s_i (s_R h sa F) c 1 (iI m)) c m p' Y' := by
  obtain ⟨s1, q1, q2, q3, q4, q5⟩ := C
  have he : s1 = sa := by rw [q2.1] at hs; cases hs; rfl
  subst he
  have hcs : ¬ c = s1 := fun e => by have := q1.1; rw [e, q2.2.1] at this; cases this
  have T : tr ρ h (rg l) ρ (s_i (s_R h s1 F) c 1 (iI m)) := (tr_sR q2.2.2.1).trans (tr_si q1.2.1)
  refine ⟨s1, q1, ⟨?_, q2.2⟩, by simp [h_i_si, upd], hm, fun i hi => ?_⟩
  · show h_r (s_R h s1 F) c 0 = some s1
    rw [h_r_sR, if_neg hcs]; exact q2.1
  · obtain ⟨st, z1, z2⟩ := hF i hi
    refine ⟨st, ?_, z2.keep T (fun e => hl e.symm)⟩
    show h_r (s_R h s1 F) s1 i = some st
    rw [h_r_sR, if_pos rfl]; exact z1
theorem take_loop (N : Nat) (hl : l ≠ 9) {l' o : Nat} (hll : l' ≠ l) {sa m : Nat} {h : hS} (hsk : h_k h sa = 64 ∧ h_n h sa = m ∧ m ≤ 40 ∧ ρ sa = l) (hck : h_k h c = 3) (hcs : ¬ c = sa) (hr : h_r h c 0 = some sa) (hz : h_i h c 1 = iI n) (hn : n ≤ m) (O : CH ρ l' h o n p Y) : ∀ (q i fuel : Nat) (F : Nat → Option Nat), i + q = n → hold ρ h F i p Y → ∃ G, f_Chain_take_26 N (q + (fuel + 1)) (s_R h sa F) c (some o) (iI i) = some ((), s_R h sa G) ∧ hold ρ h G n p Y := by
  intro q
  induction q with
  | zero =>
    intro i fuel F hi hF
    refine ⟨F, ?_, by rw [show n = i by omega]; exact hF⟩
    rw [Nat.zero_add]
    unfold f_Chain_take_26
    rw [gI_k (h := s_R h sa F) (show h_k h c = 2 + 1 from hck), show h_i (s_R h sa F) c 1 = iI n from hz, if_pos ((iI_le (by omega) (by omega)).mpr (by omega))]
  | succ q ih =>
    intro i fuel F hi hF
    have T : tr ρ h (rg l) ρ (s_R h sa F) := tr_sR hsk.2.2.2
    have O1 := O.keep T (fun e => hl e.symm) (fun e => hll e)
    obtain ⟨st, s1, s2⟩ := stepAt_in N O1 (show i < n by omega)
    obtain ⟨st', s1', s2'⟩ := stepAt_in N O (show i < n by omega)
    have hst : st' = st := by
      obtain ⟨s3, z1, z2, z3, z4, z5⟩ := O
      obtain ⟨u, u1, u2⟩ := z5 i (by omega)
      obtain ⟨s4, w1, w2, w3, w4, w5⟩ := O1
      have : s4 ≠ sa := fun e => hll (by rw [← w2.2.2.1, e]; exact hsk.2.2.2)
      obtain ⟨u', u1', u2'⟩ := w5 i (by omega)
      have e1 : f_Chain_stepAt N h o (iI i) = some (some u, h) := by
        obtain ⟨v, v1, v2⟩ := stepAt_in N (⟨s3, z1, z2, z3, z4, z5⟩ : CH ρ l' h o n p Y) (show i < n by omega)
        rw [v1]
        have h40 : h_n h s3 ≤ 40 := by rcases z2.2.2.2.2 with z | z <;> omega
        unfold f_Chain_stepAt f_Chain_stepAt_31 at v1
        rw [if_neg (show ¬ iI i < (0 : Int32) from fun q => absurd ((iI_lt (b := 0) (by omega) (by omega)).mp q) (by omega)), gI_k (show h_k h o = 2 + 1 from z1.1), z3, if_neg (fun q => absurd ((iI_le (by omega) (by omega)).mp q) (by omega)), gR_k (show h_k h o = 2 + 1 from z1.1), z2.1, lnR z2.2.1 rfl, if_neg (fun q => absurd ((iI_le (by omega) (by omega)).mp q) (by omega)), gR_k (show h_k h o = 2 + 1 from z1.1), z2.1, aR_i z2.2.1 rfl (by omega) (by omega), u1] at v1
        cases v1; rfl
      have hos : ¬ o = sa := fun e => hll (by rw [← z1.2.1, e]; exact hsk.2.2.2)
      have hss : s4 = s3 := by
        have : h_r (s_R h sa F) o 0 = h_r h o 0 := by rw [h_r_sR, if_neg hos]
        rw [this, z2.1] at w2
        have := w2.1
        cases this; rfl
      have e2 : u' = u := by
        have : h_r (s_R h sa F) s4 i = h_r h s4 i := by rw [h_r_sR, if_neg this]
        rw [this, hss, u1] at u1'
        cases u1'; rfl
      rw [e1] at s1'
      cases s1'
      have h40 : h_n (s_R h sa F) s4 ≤ 40 := by rcases w2.2.2.2.2 with z | z <;> omega
      unfold f_Chain_stepAt f_Chain_stepAt_31 at s1
      rw [if_neg (show ¬ iI i < (0 : Int32) from fun q => absurd ((iI_lt (b := 0) (by omega) (by omega)).mp q) (by omega)), gI_k (show h_k (s_R h sa F) o = 2 + 1 from w1.1), w3, if_neg (fun q => absurd ((iI_le (by omega) (by omega)).mp q) (by omega)), gR_k (show h_k (s_R h sa F) o = 2 + 1 from w1.1), w2.1, lnR w2.2.1 rfl, if_neg (fun q => absurd ((iI_le (by omega) (by omega)).mp q) (by omega)), gR_k (show h_k (s_R h sa F) o = 2 + 1 from w1.1), w2.1, aR_i w2.2.1 rfl (by omega) (by omega), u1', e2] at s1
      cases s1; rfl
    subst hst
    obtain ⟨G, e1, e2⟩ := ih (i + 1) fuel (va_up F i (some st')) (by omega) (fun j hj => by
      unfold va_up
      by_cases hji : j = i
      · rw [if_pos hji, hji]; exact ⟨st', rfl, s2'⟩
      · rw [if_neg hji]; exact hF j (by omega))
    refine ⟨G, ?_, e2⟩
    rw [show q + 1 + (fuel + 1) = (q + (fuel + 1)) + 1 by omega]
    unfold f_Chain_take_26
    rw [gI_k (h := s_R h sa F) (show h_k h c = 2 + 1 from hck), show h_i (s_R h sa F) c 1 = iI n from hz, if_neg (fun q => absurd ((iI_le (by omega) (by omega)).mp q) (by omega)), gR_k (h := s_R h sa F) (show h_k h c = 2 + 1 from hck), show h_r (s_R h sa F) c 0 = some sa from by rw [h_r_sR, if_neg hcs]; exact hr, cv_k O1.k, s1, cl_s, uR_i (h := s_R h sa F) hsk.1 hsk.2.1 (by omega) (by omega) (fun b hb => by cases hb; exact s2.1.1), s_r_sR, bn_i, show (1 : Int32) = iI 1 from rfl, iI_add, show (i : Int) + 1 = ((i + 1 : Nat) : Int) by omega]
    exact e1
end
