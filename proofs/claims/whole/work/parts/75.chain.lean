def ins {α : Type} (f : Nat → α) (i : Nat) (v : α) (j : Nat) : α := if j < i then f j else if j = i then v else f (j - 1)
def del {α : Type} (f : Nat → α) (i : Nat) (j : Nat) : α := if j < i then f j else f (j + 1)
theorem rch_le {h : hS} {c : Nat} (q : 1 ≤ chN h c) : rch h c = 0 := by unfold rch; rw [if_neg (by omega)]
section
variable {ρ : Nat → Nat} {l c n : Nat} {p : Nat → Int × Int × Int} {Y : Nat → Nat → Int}
theorem chtake_is (N : Nat) (hN : 100 ≤ N) (hl : l ≠ 9) {h : hS} {n0 : Nat} {p0 : Nat → Int × Int × Int} {Y0 : Nat → Nat → Int} (C : CH ρ l h c n0 p0 Y0) {l' o : Nat} (hll : l' ≠ l) (O : CH ρ l' h o n p Y) : ∃ ρ' g, f_Chain_take N h c (some o) = some ((), g) ∧ tr ρ h (rg l) ρ' g ∧ CH ρ' l g c n p Y ∧ hm g + rch g c ≤ hm h + rch h c := by
  have hn := O.sz.2
  obtain ⟨ρ1, g1, e1, e2, e3, e4, e5⟩ := makeRoom_is N hN C hn
  have O1 := O.keep e2 (fun e => hl e.symm) (fun e => hll e)
  obtain ⟨sa, q1, q2, q3, q4, q5⟩ := id e3
  have hcap := chN_of q2.1
  have hcs : ¬ c = sa := fun e => by have := q1.1; rw [e, q2.2.1] at this; cases this
  have h40 : h_n g1 sa ≤ 40 := by rcases q2.2.2.2.2 with z | z <;> omega
  have T1 : tr ρ1 g1 (rg l) ρ1 (s_i g1 c 1 (iI n)) := tr_si q1.2.1
  have O2 := O1.keep T1 (fun e => hl e.symm) (fun e => hll e)
  obtain ⟨fuel, hfu⟩ : ∃ fuel, N = n + (fuel + 1) := ⟨N - n - 1, by omega⟩
  obtain ⟨G, a1, a2⟩ := take_loop N hl hll (h := s_i g1 c 1 (iI n)) (sa := sa) (m := h_n g1 sa) ⟨q2.2.1, rfl, h40, q2.2.2.1⟩ q1.1 hcs q2.1 (by simp [h_i_si, upd]) (by rw [← hcap]; exact e4) O2 n 0 fuel (h_r (s_i g1 c 1 (iI n)) sa) (by omega) (fun i hi => by omega)
  rw [s_R_self] at a1
  have C2 : CH ρ1 l (s_R (s_i g1 c 1 (iI n)) sa G) c n p Y := by
    refine ⟨sa, q1, ⟨?_, q2.2⟩, ?_, by show n ≤ h_n g1 sa; rw [← hcap]; exact e4, fun i hi => ?_⟩
    · show h_r (s_R (s_i g1 c 1 (iI n)) sa G) c 0 = some sa
      rw [h_r_sR, if_neg hcs]; exact q2.1
    · show h_i (s_i g1 c 1 (iI n)) c 1 = iI n
      simp [h_i_si, upd]
    · obtain ⟨st, z1, z2⟩ := a2 i hi
      refine ⟨st, ?_, z2.keep (tr_sR (R := rg l) q2.2.2.1) (fun e => hl e.symm)⟩
      rw [h_r_sR, if_pos rfl]; exact z1
  refine ⟨ρ1, s_R (s_i g1 c 1 (iI n)) sa G, ?_, e2.trans (T1.trans (tr_sR q2.2.2.1)), C2, ?_⟩
  · unfold f_Chain_take f_Chain_take_8
    rw [gI_k O.k, O.sz.1, cv_k C.k, e1, cl_s, gI_k O1.k, O1.sz.1, gR_k e3.k, q2.1, lnR q2.2.1 rfl, jmn_is (by omega) (by omega), show min (n : Int) (h_n g1 sa : Int) = (n : Int) by omega, pI_k e3.k]
    rw [← hfu] at a1
    exact a1
  · have : chN (s_R (s_i g1 c 1 (iI n)) sa G) c = chN g1 c := by
      rw [hcap]
      have : h_r (s_R (s_i g1 c 1 (iI n)) sa G) c 0 = some sa := by rw [h_r_sR, if_neg hcs]; exact q2.1
      rw [chN_of this]; rfl
    unfold rch at e5 ⊢
    rw [this]
    exact e5
theorem insert_loop (N : Nat) {h : hS} {sa i n : Nat} {st : Nat} (hsk : h_k h sa = 64 ∧ h_n h sa = 40) (hck : h_k h c = 3) (hcs : ¬ c = sa) (hr : h_r h c 0 = some sa) (hz : h_i h c 1 = iI n) (hn : n < 40) (hi : i ≤ n) (hst : h_k h st = 9) (F0 : Nat → Option Nat) (hF0 : ∀ j, j < n → ∃ a, F0 j = some a ∧ h_k h a = 9) : ∀ (q fuel : Nat), q ≤ n - i → f_Chain_insert_40 N (q + (fuel + 1)) (s_R h sa (fun j => if i + q < j ∧ j ≤ n then F0 (j - 1) else F0 j)) c (iI i) (some st) (iI ((i + q : Nat) : Int)) = some ((), s_i (s_R h sa (fun j => if i < j ∧ j ≤ n then F0 (j - 1) else if j = i then some st else F0 j)) c 1 (iI ((n + 1 : Nat) : Int))) := by
  intro q
  induction q with
  | zero =>
    intro fuel hq
    rw [Nat.zero_add]
    unfold f_Chain_insert_40
    rw [if_pos ((iI_le (by omega) (by omega)).mpr (by omega)), gR_k (h := s_R h sa _) (show h_k h c = 2 + 1 from hck), show h_r (s_R h sa (fun j => if i + 0 < j ∧ j ≤ n then F0 (j - 1) else F0 j)) c 0 = some sa from by rw [h_r_sR, if_neg hcs]; exact hr, uR_i (h := s_R h sa _) hsk.1 hsk.2 (by omega) (by omega) (fun b hb => by cases hb; exact hst), s_r_sR, gI_k (h := s_R h sa _) (show h_k h c = 2 + 1 from hck), pI_k (h := s_R h sa _) (show h_k h c = 2 + 1 from hck), show h_i (s_R h sa (va_up (fun j => if i + 0 < j ∧ j ≤ n then F0 (j - 1) else F0 j) i (some st))) c 1 = iI n from hz, show (1 : Int32) = iI 1 from rfl, iI_add, show (n : Int) + 1 = ((n + 1 : Nat) : Int) by omega]
    congr 4
    funext j
    unfold va_up
    by_cases h1 : j = i
    · rw [if_pos h1, if_neg (by omega), if_pos h1]
    · rw [if_neg h1, if_neg h1]; simp
  | succ q ih =>
    intro fuel hq
    obtain ⟨a, ha1, ha2⟩ := hF0 (i + q) (by omega)
    rw [show q + 1 + (fuel + 1) = (q + (fuel + 1)) + 1 by omega, ← ih fuel (by omega)]
    generalize hF : f_Chain_insert_40 N (q + (fuel + 1)) = F
    unfold f_Chain_insert_40
    rw [if_neg (fun z => absurd ((iI_le (by omega) (by omega)).mp z) (by omega)), gR_k (h := s_R h sa _) (show h_k h c = 2 + 1 from hck), gR_k (h := s_R h sa _) (show h_k h c = 2 + 1 from hck), show h_r (s_R h sa (fun j => if i + (q + 1) < j ∧ j ≤ n then F0 (j - 1) else F0 j)) c 0 = some sa from by rw [h_r_sR, if_neg hcs]; exact hr, show (1 : Int32) = iI 1 from rfl, iI_sub, show ((i + (q + 1) : Nat) : Int) - 1 = ((i + q : Nat) : Int) by omega, aR_i (h := s_R h sa _) hsk.1 hsk.2 (by omega) (by omega)]
    have hv : h_r (s_R h sa (fun j => if i + (q + 1) < j ∧ j ≤ n then F0 (j - 1) else F0 j)) sa (i + q) = some a := by
      rw [h_r_sR, if_pos rfl]
      show (if i + (q + 1) < i + q ∧ i + q ≤ n then F0 (i + q - 1) else F0 (i + q)) = some a
      rw [if_neg (by omega)]; exact ha1
    rw [hv, uR_i (h := s_R h sa _) hsk.1 hsk.2 (by omega) (by omega) (fun b hb => by cases hb; exact ha2), s_r_sR, bn_i, iI_neg, iI_add, show ((i + (q + 1) : Nat) : Int) + -1 = ((i + q : Nat) : Int) by omega, hF]
    congr 2
    funext j
    unfold va_up
    by_cases h1 : j = i + (q + 1)
    · rw [if_pos h1, if_pos (by omega), h1, show i + (q + 1) - 1 = i + q by omega, ha1]
    · rw [if_neg h1]
      by_cases h2 : i + (q + 1) < j ∧ j ≤ n
      · show (if i + (q + 1) < j ∧ j ≤ n then F0 (j - 1) else F0 j) = _
        rw [if_pos h2, if_pos (by omega)]
      · show (if i + (q + 1) < j ∧ j ≤ n then F0 (j - 1) else F0 j) = _
        rw [if_neg h2, if_neg (by omega)]
theorem chinsert_is (N : Nat) (hN : 100 ≤ N) (hl : l ≠ 9) {h : hS} (C : CH ρ l h c n p Y) (hn : n < 40) {i : Nat} (hi : i ≤ n) {st : Nat} {q : Int × Int × Int} {Yq : Nat → Int} (S : ST ρ h st q Yq) : ∃ ρ' g, f_Chain_insert N h c (iI i) (some st) = some ((), g) ∧ tr ρ h (rg l) ρ' g ∧ CH ρ' l g c (n + 1) (ins p i q) (ins Y i Yq) ∧ hm g + rch g c ≤ hm h + rch h c := by
  obtain ⟨ρ1, g1, e1, e2, e3, e4, e5⟩ := makeRoom_is N hN C (room := n + 1) (by omega)
  have S1 := S.keep e2 (fun e => hl e.symm)
  have hk1 := e3.k
  obtain ⟨sa, q1, q2, q3, q4, q5⟩ := id e3
  have hcap := chN_of q2.1
  have hcs : ¬ c = sa := fun e => by have := q1.1; rw [e, q2.2.1] at this; cases this
  have h40 : h_n g1 sa = 40 := by rcases q2.2.2.2.2 with z | z <;> omega
  obtain ⟨fuel, hfu⟩ : ∃ fuel, N = (n - i) + (fuel + 1) := ⟨N - (n - i) - 1, by omega⟩
  have hlo := insert_loop N (h := g1) (c := c) (sa := sa) (i := i) (n := n) (st := st) ⟨q2.2.1, h40⟩ q1.1 hcs q2.1 q3 hn hi S1.1.1 (h_r g1 sa) (fun j hj => by obtain ⟨a, z1, z2⟩ := q5 j hj; exact ⟨a, z1, z2.1.1⟩) (n - i) fuel (Nat.le_refl _)
  have hself : (fun j => if i + (n - i) < j ∧ j ≤ n then h_r g1 sa (j - 1) else h_r g1 sa j) = h_r g1 sa := by
    funext j; rw [if_neg (by omega)]
  rw [hself, s_R_self, ← hfu, show i + (n - i) = n by omega] at hlo
  have hold1 : hold ρ1 g1 (fun j => if i < j ∧ j ≤ n then h_r g1 sa (j - 1) else if j = i then some st else h_r g1 sa j) (n + 1) (ins p i q) (ins Y i Yq) := by
    intro j hj
    unfold ins
    by_cases h1 : j < i
    · simp only [h1, if_true, show ¬ (i < j ∧ j ≤ n) by omega, if_false, show ¬ j = i by omega]
      exact q5 j (by omega)
    · by_cases h2 : j = i
      · simp only [h1, if_false, h2, if_true, show ¬ (i < i ∧ i ≤ n) by omega]
        simp only [Nat.lt_irrefl, if_false]
        exact ⟨st, rfl, S1⟩
      · simp only [h1, if_false, h2, show (i < j ∧ j ≤ n) by omega, if_true]
        exact q5 (j - 1) (by omega)
  have C2 := e3.put hl q2.1 (m := n + 1) (by omega) hold1
  refine ⟨ρ1, _, ?_, e2.trans ((tr_sR q2.2.2.1).trans (tr_si q1.2.1)), C2, ?_⟩
  · unfold f_Chain_insert f_Chain_insert_10
    rw [gI_k C.k, C.sz.1, cv_k C.k, show (1 : Int32) = iI 1 from rfl, iI_add, show (n : Int) + 1 = ((n + 1 : Nat) : Int) by omega, e1, cl_s, if_neg (show ¬ iI i < (0 : Int32) from fun z => absurd ((iI_lt (b := 0) (by omega) (by omega)).mp z) (by omega)), gI_k hk1, q3, if_neg (fun z => absurd ((iI_lt (by omega) (by omega)).mp z) (by omega)), gI_k hk1, q3, gR_k hk1, q2.1, lnR q2.2.1 h40, if_pos ((iI_lt (by omega) (by omega)).mpr (by omega)), gI_k hk1, q3]
    exact hlo
  · rw [rch_le (by have := C2.le; omega)]
    have : hm (s_i (s_R g1 sa (fun j => if i < j ∧ j ≤ n then h_r g1 sa (j - 1) else if j = i then some st else h_r g1 sa j)) c 1 (iI ((n + 1 : Nat) : Int))) = hm g1 := rfl
    rw [this]
    omega
theorem remove_loop (N : Nat) {h : hS} {sa i n : Nat} (hsk : h_k h sa = 64 ∧ h_n h sa = 40) (hck : h_k h c = 3) (hcs : ¬ c = sa) (hr : h_r h c 0 = some sa) (hz : h_i h c 1 = iI n) (hn : n < 40) (F0 : Nat → Option Nat) (hF0 : ∀ j, j < n + 1 → ∃ a, F0 j = some a ∧ h_k h a = 9) : ∀ (q k fuel : Nat), i ≤ k → k + q = n → f_Chain_remove_25 N (q + (fuel + 1)) (s_R h sa (fun j => if i ≤ j ∧ j < k then F0 (j + 1) else F0 j)) c (iI k) = some ((), s_R h sa (fun j => if i ≤ j ∧ j < n then F0 (j + 1) else F0 j)) := by
  intro q
  induction q with
  | zero =>
    intro k fuel hk hq
    rw [Nat.zero_add, show k = n by omega]
    unfold f_Chain_remove_25 f_Chain_remove_64
    rw [gI_k (h := s_R h sa _) (show h_k h c = 2 + 1 from hck), show h_i (s_R h sa (fun j => if i ≤ j ∧ j < n then F0 (j + 1) else F0 j)) c 1 = iI n from hz, if_pos ((iI_le (by omega) (by omega)).mpr (by omega))]
  | succ q ih =>
    intro k fuel hk hq
    obtain ⟨a, ha1, ha2⟩ := hF0 (k + 1) (by omega)
    rw [show q + 1 + (fuel + 1) = (q + (fuel + 1)) + 1 by omega, ← ih (k + 1) fuel (by omega) (by omega)]
    generalize hF : f_Chain_remove_25 N (q + (fuel + 1)) = F
    have hr' : h_r (s_R h sa (fun j => if i ≤ j ∧ j < k then F0 (j + 1) else F0 j)) c 0 = some sa := by rw [h_r_sR, if_neg hcs]; exact hr
    unfold f_Chain_remove_25
    rw [gI_k (h := s_R h sa _) (show h_k h c = 2 + 1 from hck), show h_i (s_R h sa (fun j => if i ≤ j ∧ j < k then F0 (j + 1) else F0 j)) c 1 = iI n from hz, if_neg (fun z => absurd ((iI_le (by omega) (by omega)).mp z) (by omega)), gR_k (h := s_R h sa _) (show h_k h c = 2 + 1 from hck), hr', lnR (h := s_R h sa _) hsk.1 hsk.2, show (1 : Int32) = iI 1 from rfl, iI_add, show (k : Int) + 1 = ((k + 1 : Nat) : Int) by omega, if_neg (fun z => absurd ((iI_le (by omega) (by omega)).mp z) (by omega)), gR_k (h := s_R h sa _) (show h_k h c = 2 + 1 from hck), gR_k (h := s_R h sa _) (show h_k h c = 2 + 1 from hck), hr', aR_i (h := s_R h sa _) hsk.1 hsk.2 (by omega) (by omega)]
    have hv : h_r (s_R h sa (fun j => if i ≤ j ∧ j < k then F0 (j + 1) else F0 j)) sa (k + 1) = some a := by
      rw [h_r_sR, if_pos rfl]
      show (if i ≤ k + 1 ∧ k + 1 < k then F0 (k + 1 + 1) else F0 (k + 1)) = some a
      rw [if_neg (by omega)]; exact ha1
    rw [hv, uR_i (h := s_R h sa _) hsk.1 hsk.2 (by omega) (by omega) (fun b hb => by cases hb; exact ha2), s_r_sR, bn_i, hF]
    congr 2
    funext j
    unfold va_up
    by_cases h1 : j = k
    · rw [if_pos h1, if_pos (by omega), h1, ha1]
    · rw [if_neg h1]
      by_cases h2 : i ≤ j ∧ j < k
      · show (if i ≤ j ∧ j < k then F0 (j + 1) else F0 j) = _
        rw [if_pos h2, if_pos (by omega)]
      · show (if i ≤ j ∧ j < k then F0 (j + 1) else F0 j) = _
        rw [if_neg h2, if_neg (by omega)]
theorem chremove_is (N : Nat) (hN : 100 ≤ N) (hl : l ≠ 9) {h : hS} (C : CH ρ l h c n p Y) {i : Nat} (hi : i < n) : ∃ g, f_Chain_remove N h c (iI i) = some ((), g) ∧ tr ρ h (rg l) ρ g ∧ CH ρ l g c (n - 1) (del p i) (del Y i) ∧ hm g = hm h ∧ chN g c = chN h c := by
  have hC := C
  have hk1 := C.k
  have hn := C.sz.2
  obtain ⟨sa, q1, q2, q3, q4, q5⟩ := C
  have hcap := chN_of q2.1
  have hcs : ¬ c = sa := fun e => by have := q1.1; rw [e, q2.2.1] at this; cases this
  have h40 : h_n h sa = 40 := by rcases q2.2.2.2.2 with z | z <;> omega
  obtain ⟨fuel, hfu⟩ : ∃ fuel, N = (n - 1 - i) + (fuel + 1) := ⟨N - (n - 1 - i) - 1, by omega⟩
  have hlo := remove_loop N (h := s_i h c 1 (iI ((n - 1 : Nat) : Int))) (c := c) (sa := sa) (i := i) (n := n - 1) ⟨q2.2.1, h40⟩ q1.1 hcs q2.1 (by simp [h_i_si, upd]) (by omega) (h_r h sa) (fun j hj => by obtain ⟨a, z1, z2⟩ := q5 j (by omega); exact ⟨a, z1, z2.1.1⟩) (n - 1 - i) i fuel (Nat.le_refl _) (by omega)
  have hself : (fun j => if i ≤ j ∧ j < i then h_r h sa (j + 1) else h_r h sa j) = h_r (s_i h c 1 (iI ((n - 1 : Nat) : Int))) sa := by
    funext j; rw [if_neg (by omega)]; rfl
  rw [hself, s_R_self, ← hfu] at hlo
  have T : tr ρ h (rg l) ρ (s_R (s_i h c 1 (iI ((n - 1 : Nat) : Int))) sa (fun j => if i ≤ j ∧ j < n - 1 then h_r h sa (j + 1) else h_r h sa j)) := (tr_si q1.2.1).trans (tr_sR q2.2.2.1)
  have hr0 : h_r (s_R (s_i h c 1 (iI ((n - 1 : Nat) : Int))) sa (fun j => if i ≤ j ∧ j < n - 1 then h_r h sa (j + 1) else h_r h sa j)) c 0 = some sa := by rw [h_r_sR, if_neg hcs]; exact q2.1
  refine ⟨_, ?_, T, ⟨sa, q1, ⟨hr0, q2.2⟩, ?_, by show n - 1 ≤ h_n h sa; omega, fun j hj => ?_⟩, rfl, ?_⟩
  · unfold f_Chain_remove
    rw [if_neg (show ¬ iI i < (0 : Int32) from fun z => absurd ((iI_lt (b := 0) (by omega) (by omega)).mp z) (by omega)), gI_k hk1, q3, if_pos ((iI_lt (by omega) (by omega)).mpr (by omega)), gI_k hk1, q3, pI_k hk1, show (1 : Int32) = iI 1 from rfl, iI_sub, show (n : Int) - 1 = ((n - 1 : Nat) : Int) by omega]
    exact hlo
  · show h_i (s_i h c 1 (iI ((n - 1 : Nat) : Int))) c 1 = _
    simp [h_i_si, upd]
  · rw [h_r_sR, if_pos rfl]
    unfold del
    by_cases h1 : j < i
    · simp only [h1, if_true, show ¬ (i ≤ j ∧ j < n - 1) by omega, if_false]
      obtain ⟨st, z1, z2⟩ := q5 j (by omega)
      exact ⟨st, z1, z2.keep T (fun e => hl e.symm)⟩
    · simp only [h1, if_false, show (i ≤ j ∧ j < n - 1) by omega, if_true]
      obtain ⟨st, z1, z2⟩ := q5 (j + 1) (by omega)
      exact ⟨st, z1, z2.keep T (fun e => hl e.symm)⟩
  · rw [hcap, chN_of hr0]; rfl
theorem chclear_is (N : Nat) {h : hS} (C : CH ρ l h c n p Y) (p' : Nat → Int × Int × Int) (Y' : Nat → Nat → Int) : ∃ g, f_Chain_clear N h c = some ((), g) ∧ tr ρ h (rg l) ρ g ∧ CH ρ l g c 0 p' Y' ∧ hm g = hm h ∧ chN g c = chN h c := by
  have hk1 := C.k
  obtain ⟨sa, q1, q2, q3, q4, q5⟩ := C
  refine ⟨s_i h c 1 (0 : Int32), ?_, tr_si q1.2.1, ⟨sa, q1, q2, ?_, Nat.zero_le _, fun i hi => by omega⟩, rfl, rfl⟩
  · unfold f_Chain_clear
    rw [pI_k hk1]
  · simp [h_i_si, upd]; rfl
theorem onTop_loop (N : Nat) {h : hS} (C : CH ρ l h c n p Y) (k : Int32) : ∀ (q i fuel : Nat), i + q = n → ∃ v : Int32, f_Chain_hasOnTop_2 N (q + (fuel + 1)) h c k (iI i) = some (v, h) ∧ ((∃ j, i ≤ j ∧ j < n ∧ (p j).1 = 8 ∧ iI (p j).2.1 = k) → v = 1) ∧ (¬ (∃ j, i ≤ j ∧ j < n ∧ (p j).1 = 8 ∧ iI (p j).2.1 = k) → v = 0) := by
  have hs := C.sz
  intro q
  induction q with
  | zero =>
    intro i fuel hi
    refine ⟨0, ?_, fun ⟨j, z⟩ => by omega, fun _ => rfl⟩
    rw [Nat.zero_add]
    unfold f_Chain_hasOnTop_2
    rw [gI_k C.k, hs.1, if_pos ((iI_le (by omega) (by omega)).mpr (by omega)), bz_0]
  | succ q ih =>
    intro i fuel hi
    obtain ⟨st, s1, s2⟩ := stepAt_in N C (show i < n by omega)
    obtain ⟨t1, t2, t3, t4⟩ := id s2
    have hkk : h_k h st = 8 + 1 := t1.1
    have k0 := t3.1
    rw [show q + 1 + (fuel + 1) = (q + (fuel + 1)) + 1 by omega]
    unfold f_Chain_hasOnTop_2 f_Chain_hasOnTop_39
    rw [gI_k C.k, hs.1, if_neg (fun z => absurd ((iI_le (by omega) (by omega)).mp z) (by omega)), cv_k C.k, s1, cl_s, if_neg (by simp), gI_k hkk, t2.1, gI_k hkk, t2.2.1]
    obtain ⟨v, a1, a2, a3⟩ := ih (i + 1) fuel (by omega)
    have hnx : (bn (iI i + 1) fun v1 => f_Chain_hasOnTop_2 N (q + (fuel + 1)) h c k v1) = some (v, h) := by
      rw [bn_i, show (1 : Int32) = iI 1 from rfl, iI_add, show (i : Int) + 1 = ((i + 1 : Nat) : Int) by omega]; exact a1
    rw [hnx]
    by_cases h8 : (p i).1 = 8
    · rw [if_pos (show iI (p i).1 = (8 : Int32) by rw [h8]; rfl)]
      by_cases hk : iI (p i).2.1 = k
      · rw [if_pos hk, bz_1]
        exact ⟨1, rfl, fun _ => rfl, fun z => absurd ⟨i, Nat.le_refl _, by omega, h8, hk⟩ z⟩
      · rw [if_neg hk]
        refine ⟨v, rfl, fun ⟨j, z1, z2, z3, z4⟩ => a2 ⟨j, ?_, z2, z3, z4⟩, fun z => a3 (fun ⟨j, z1, z2⟩ => z ⟨j, by omega, z2⟩)⟩
        by_cases hj : j = i
        · rw [hj] at z4; exact absurd z4 hk
        · omega
    · rw [if_neg (show ¬ iI (p i).1 = (8 : Int32) from fun z => h8 ((iI_eq (b := 8) (by omega) (by omega)).mp z))]
      refine ⟨v, rfl, fun ⟨j, z1, z2, z3, z4⟩ => a2 ⟨j, ?_, z2, z3, z4⟩, fun z => a3 (fun ⟨j, z1, z2⟩ => z ⟨j, by omega, z2⟩)⟩
      by_cases hj : j = i
      · rw [hj] at z3; exact absurd z3 h8
      · omega
theorem onTop_is (N : Nat) (hN : 100 ≤ N) {h : hS} (C : CH ρ l h c n p Y) (k : Int32) : ∃ v : Int32, f_Chain_hasOnTop N h c k = some (v, h) ∧ ((∃ j, j < n ∧ (p j).1 = 8 ∧ iI (p j).2.1 = k) → v = 1) ∧ (¬ (∃ j, j < n ∧ (p j).1 = 8 ∧ iI (p j).2.1 = k) → v = 0) := by
  have hs := C.sz
  obtain ⟨fuel, hfu⟩ : ∃ fuel, N = n + (fuel + 1) := ⟨N - n - 1, by omega⟩
  obtain ⟨v, a1, a2, a3⟩ := onTop_loop N C k n 0 fuel (by omega)
  rw [← hfu] at a1
  exact ⟨v, a1, fun ⟨j, z⟩ => a2 ⟨j, Nat.zero_le _, z⟩, fun z => a3 (fun ⟨j, _, w⟩ => z ⟨j, w⟩)⟩
end
/-! WHAT A STEP COSTS; a step that is left out where it is too much -/
section
variable {ρ : Nat → Nat} {h : hS} {b ba ad : Nat}
theorem jmx0 {z : Int} (hz : -2147483648 ≤ z ∧ z ≤ 2147483647) : jmx (iI z) (0 : Int32) = iI (max z 0) := by
  rw [show (0 : Int32) = iI 0 from rfl, jmx_is hz (by omega)]
/-- what the step adds at x -/
def zPay (kd a w : Int) (Y : Nat → Int) (x : Int) : Int := if kd = 0 then w * (if x - a < 0 then -(x - a) else x - a) else if kd = 1 then w * max (x - a) 0 else if kd = 2 then w * max (a - x) 0 else if kd = 7 then a else if kd = 8 then zVal Y x else 0
theorem costBy_is (N : Nat) (hN : 20000 ≤ N) (B : BX ρ h b ba ad) {st : Nat} {p : Int × Int × Int} {Y : Nat → Int} (S : ST ρ h st p Y) {x : Int} (hx : -1000000 ≤ x ∧ x ≤ 1000000) :
    ∃ ρ' g, f_Bench_costBy N h b (some st) (iI x) = some (lI (zPay p.1 p.2.1 p.2.2 Y x), g) ∧ tr ρ h RW ρ' g ∧ hm g + brs g b ≤ hm h + brs h b ∧ BX ρ' g b ba ad := by
  obtain ⟨⟨kd, a, w⟩, hp⟩ : ∃ q, p = q := ⟨_, rfl⟩
  subst hp
  obtain ⟨t1, t2, t3, t4⟩ := S
  have hk : h_k h st = 8 + 1 := t1.1
  simp only [] at t2 t3 t4 ⊢
  obtain ⟨k0, k1, k2, k3, k4⟩ := t3
  unfold f_Bench_costBy f_Bench_costBy_125 f_Bench_costBy_124
  rw [gI_k hk, t2.1]
  rcases (show kd = 0 ∨ kd = 1 ∨ kd = 2 ∨ kd = 3 ∨ kd = 4 ∨ kd = 5 ∨ kd = 6 ∨ kd = 7 ∨ kd = 8 by omega) with e | e | e | e | e | e | e | e | e <;> subst e
  · have k1' := k1 (by omega)
    refine ⟨ρ, h, ?_, tr.rf, Nat.le_refl _, B⟩
    rw [if_pos (show iI 0 = (0 : Int32) from rfl), gI_k hk, gI_k hk, t2.2.1, t2.2.2, iI_sub, jab_is (by omega), iI_l (by omega) (by omega), iI_l (by split <;> omega) (by split <;> omega), lI_mul]
    rfl
  · have k1' := k1 (by omega)
    refine ⟨ρ, h, ?_, tr.rf, Nat.le_refl _, B⟩
    rw [if_neg (show ¬ iI 1 = (0 : Int32) by decide), if_pos (show iI 1 = (1 : Int32) from rfl), gI_k hk, gI_k hk, t2.2.1, t2.2.2, iI_sub, jmx0 (by omega), iI_l (by omega) (by omega), iI_l (by omega) (by omega), lI_mul]
    rfl
  · have k1' := k1 (by omega)
    refine ⟨ρ, h, ?_, tr.rf, Nat.le_refl _, B⟩
    rw [if_neg (show ¬ iI 2 = (0 : Int32) by decide), if_neg (show ¬ iI 2 = (1 : Int32) by decide), if_pos (show iI 2 = (2 : Int32) from rfl), gI_k hk, gI_k hk, t2.2.1, t2.2.2, iI_sub, jmx0 (by omega), iI_l (by omega) (by omega), iI_l (by omega) (by omega), lI_mul]
    rfl
  · exact ⟨ρ, h, rfl, tr.rf, Nat.le_refl _, B⟩
  · exact ⟨ρ, h, rfl, tr.rf, Nat.le_refl _, B⟩
  · exact ⟨ρ, h, rfl, tr.rf, Nat.le_refl _, B⟩
  · exact ⟨ρ, h, rfl, tr.rf, Nat.le_refl _, B⟩
  · have k7 := k4 rfl
    refine ⟨ρ, h, ?_, tr.rf, Nat.le_refl _, B⟩
    rw [if_neg (show ¬ iI 7 = (0 : Int32) by decide), if_neg (show ¬ iI 7 = (1 : Int32) by decide), if_neg (show ¬ iI 7 = (2 : Int32) by decide), if_neg (show ¬ iI 7 = (3 : Int32) by decide), if_neg (show ¬ iI 7 = (4 : Int32) by decide), if_neg (show ¬ iI 7 = (5 : Int32) by decide), if_neg (show ¬ iI 7 = (6 : Int32) by decide), if_pos (show iI 7 = (7 : Int32) from rfl), gI_k hk, t2.2.1, iI_l (by omega) (by omega)]
    rfl
  · obtain ⟨k, z1, z2, z3⟩ := t4 rfl
    obtain ⟨w0, s0, lw, ls, BB, c1, c2, c3, c4⟩ := id B
    have hne := BB.ne
    obtain ⟨ρ', g, e1, e2, e3, e4⟩ := show_is N (by omega) z2 c4 (by decide)
    have B1 := BB.keep e2 (fun z => by cases z)
    obtain ⟨d1, f1⟩ := c1.keep e2 (fun z => hne.2.2.2.2.2.1 z)
    obtain ⟨d2, f2⟩ := c2.keep e2 (fun z => hne.2.2.2.2.2.2 z)
    obtain ⟨d3, f3⟩ := c3.keep e2 (fun z => by cases z)
    refine ⟨ρ', g, ?_, e2.mono (fun z hz => Or.inr (Or.inr (Or.inr hz))), ?_, ⟨w0, s0, lw, ls, B1, d1, d2, d3, e3.b⟩⟩
    · rw [if_neg (show ¬ iI 8 = (0 : Int32) by decide), if_neg (show ¬ iI 8 = (1 : Int32) by decide), if_neg (show ¬ iI 8 = (2 : Int32) by decide), if_neg (show ¬ iI 8 = (3 : Int32) by decide), if_neg (show ¬ iI 8 = (4 : Int32) by decide), if_neg (show ¬ iI 8 = (5 : Int32) by decide), if_neg (show ¬ iI 8 = (6 : Int32) by decide), if_neg (show ¬ iI 8 = (7 : Int32) by decide), if_pos (show iI 8 = (8 : Int32) from rfl), gR_k hk, z1, cv_k BB.k]
      unfold f_Bench_costOnTop f_Bench_costOnTop_14
      have hkk : h_k h k = 4 + 1 := by obtain ⟨bb, q, _⟩ := z2; exact q.1
      rw [if_neg (by simp), gR_k BB.k, BB.2.1.2.2.2, cv_k hkk, e1, cl_s, gR_k B1.k, B1.2.1.2.2.2, cv_k e3.k, cval_is N (by omega) e3 (by omega), cl_s, cl_s, kv_val z3.1]
      rfl
    · rw [B1.rs, BB.rs, f1, f2, f3]; omega
theorem ifNot_is (N : Nat) (hN : 20000 ≤ N) {Z : Nat → Int} (S : BS ρ h b ba ad Z) {kd a w : Int} (hk : okArg kd a w) (hk8 : kd ≠ 8) (Y : Nat → Int) :
    ∃ ρ' g Z', f_Bench_applyIfNotTooMuch N h b (iI kd) (iI a) (iI w) = some ((), g) ∧ tr ρ h RB ρ' g ∧ hm g + brs g b ≤ hm h + brs h b ∧ BS ρ' g b ba ad Z' ∧ (stOk Z Y kd a w → Z' = zStep Z Y kd a w) ∧ (¬ stOk Z Y kd a w → Z' = Z) := by
  obtain ⟨w0, s0, lw, ls, B, c1, c2, c3, c4⟩ := id S
  have hne := B.ne
  obtain ⟨ρ1, g1, w', d1, d2, d3, d4, d5, d6⟩ := take_from N S c3 (fun q => by unfold RW at q; omega)
  have hwe : w' = w0 := by have := B.2.1.1; rw [d1] at this; cases this; rfl
  subst hwe
  have B1 := B.keep d4 (fun q => by cases q)
  have f1 := c1.keep d4 (fun q => hne.2.2.2.1 q)
  obtain ⟨f2, k2⟩ := c2.keep d4 (fun q => hne.2.2.2.2.1 q)
  obtain ⟨f4, k4⟩ := c4.keep d4 (fun q => by cases q)
  have k1 := c1.1.cap d4 (fun q => hne.2.2.2.1 q)
  have S1 : BS ρ1 g1 b ba ad Z := ⟨w', s0, lw, ls, B1, f1, f2, d6.1.b, f4⟩
  have hm1 : hm g1 + brs g1 b ≤ hm h + brs h b := by
    rw [B1.rs, B.rs, k1, k2, k4]; omega
  obtain ⟨ρ2, g2, v, a1, a2, a3, a4, a5⟩ := apply_is N hN S1 hk (o := none) (Y := Y) (fun q => absurd q hk8)
  have hst : f_Bench_applyIfNotTooMuch N h b (iI kd) (iI a) (iI w) = f_Bench_applyIfNotTooMuch_19 N g2 b v := by
    unfold f_Bench_applyIfNotTooMuch f_Bench_applyIfNotTooMuch_11
    rw [gR_k B.k, B.2.1.2.2.1, gR_k B.k, d1, cv_k d2, d3, cl_s, cv_k B1.k, a1, cl_s]
  have T1 : tr ρ h RB ρ1 g1 := d4.mono (fun q hq => by have : q = 4 := hq; unfold RB; omega)
  rw [hst]
  unfold f_Bench_applyIfNotTooMuch_19 f_Bench_applyIfNotTooMuch_33
  by_cases hz : stOk Z Y kd a w
  · obtain ⟨v1, S2⟩ := a4 hz
    rw [v1, if_neg (by decide)]
    exact ⟨ρ2, g2, _, rfl, T1.trans (a2.mono RW_B), by omega, S2, fun _ => rfl, fun q => absurd hz q⟩
  · obtain ⟨v1, S2⟩ := a5 hz
    rw [v1, if_pos rfl]
    have C4 := d6.keep a2 (fun q => by unfold RW at q; omega)
    obtain ⟨ρ3, g3, w3, b1, b2, b3, b4, b5, b6⟩ := take_work N S2 C4 (fun q => by unfold RW at q; omega)
    have hba : h_r g2 b 2 = some ba := by obtain ⟨_, _, _, _, BB, _⟩ := S2; exact BB.2.1.2.2.1
    refine ⟨ρ3, g3, Z, ?_, T1.trans ((a2.mono RW_B).trans (b4.mono RW_B)), by omega, b6, fun q => absurd q hz, fun _ => rfl⟩
    rw [gR_k S2.k, b1, gR_k S2.k, hba, cv_k b2, b3, cl_s]
end
