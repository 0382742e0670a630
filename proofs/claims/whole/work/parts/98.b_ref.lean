/-! THE REFERENCE'S READER: a clause, all clauses -/
section
variable {ρ : Nat → Nat} {A : Nat → Nat} {m : Nat} {h g u : hS} {F F' : FT} {B : Nat → Int} {n : Nat} {R P U V : Nat → Int32} {β : Type}
theorem rc_tail (N : Nat) (hN : 1000 ≤ N) (T : TQ A m h B n) {e : Nat} (he : e ≤ n) {k : Nat} (hk : k < 40) {kd cost : Int} (hkd : 0 ≤ kd ∧ kd ≤ 8) (f0 : zFf B n kd cost e = 0) (t : tokR B U (zTok B n (zFe B n kd e))) (h27 : U 27 = 0) (h22 : U 22 = iI n) : (zCf B n kd cost e = 0 → OkS A m h B n U (zCe B n kd e) (upd (upd (upd (upd R (2 + 4 * k) (iI (zFw B n kd e))) (3 + 4 * k) (iI (zSw B n kd (zFe B n kd e)))) (4 + 4 * k) 0) 0 (R 0 + 1)) P (f_M_readClause_147 N (hW A m h R P U) m (iI kd) (iI ((1 + 4 * k : Nat) : Int)) (some (A 18)) (iI ((2 + 4 * k : Nat) : Int)) (iI (zFw B n kd e)))) ∧ (zCf B n kd cost e ≠ 0 → FltS A m h U (zCf B n kd cost e) (zCp B n kd cost e) (f_M_readClause_147 N (hW A m h R P U) m (iI kd) (iI ((1 + 4 * k : Nat) : Int)) (some (A 18)) (iI ((2 + 4 * k : Nat) : Int)) (iI (zFw B n kd e)))) := by
  have he2 := zFe_rng (B := B) kd he
  obtain ⟨c1, c2, c3⟩ := rc147_u N hN T he2.2 t h27 h22 hk hkd (iI (zFw B n kd e)) (R := R) (P := P)
  unfold zCf zCp zCe
  rw [if_pos f0, if_pos f0]
  by_cases q1 : zSf B n kd (zFe B n kd e) = 0
  · rw [if_pos q1, if_pos q1]
    by_cases q2 : zEnd B n (zSe B n kd (zFe B n kd e)) = true
    · rw [if_pos q2]
      exact ⟨fun _ => c1 q1 q2, fun z => absurd rfl z⟩
    · rw [if_neg q2]
      exact ⟨fun z => absurd z (by decide), fun _ => c2 q1 q2⟩
  · rw [if_neg q1, if_neg q1]
    exact ⟨fun z => absurd z q1, fun _ => c3 q1⟩
theorem rc_num (N : Nat) (hN : 1000 ≤ N) (T : TQ A m h B n) {e : Nat} (he : e ≤ n) {k : Nat} (hk : k < 40) {kd cost : Int} (hkd : 0 ≤ kd ∧ kd ≤ 8) (h27 : U 27 = 0) (h22 : U 22 = iI n) {r : Option (Int32 × hS)} (num : NumS m (s_w (s_w h (A 18) R) (A 19) P) B n e U (zFf B n kd cost e) (zFw B n kd e) (zFa B n kd e) (zFe B n kd e) r) : (zCf B n kd cost e = 0 → OkS A m h B n U (zCe B n kd e) (upd (upd (upd (upd R (2 + 4 * k) (iI (zFw B n kd e))) (3 + 4 * k) (iI (zSw B n kd (zFe B n kd e)))) (4 + 4 * k) 0) 0 (R 0 + 1)) P (cl r fun v h2 => f_M_readClause_147 N h2 m (iI kd) (iI ((1 + 4 * k : Nat) : Int)) (some (A 18)) (iI ((2 + 4 * k : Nat) : Int)) v)) ∧ (zCf B n kd cost e ≠ 0 → FltS A m h U (zCf B n kd cost e) (zCp B n kd cost e) (cl r fun v h2 => f_M_readClause_147 N h2 m (iI kd) (iI ((1 + 4 * k : Nat) : Int)) (some (A 18)) (iI ((2 + 4 * k : Nat) : Int)) v)) := by
  have ff := zFf_rng B n kd cost e
  by_cases f0 : zFf B n kd cost e = 0
  · obtain ⟨V, v1, v2, v3⟩ := num.1 f0
    rw [v1, cl_s]
    obtain ⟨c1, c2⟩ := rc_tail N hN T he hk hkd f0 v3 (by rw [v2 27 (by decide), h27]) (by rw [v2 22 (by decide), h22]) (R := R) (P := P)
    exact ⟨fun z => (c1 z).up v2, fun z => (c2 z).up (fun j j1 _ _ => v2 j j1)⟩
  · obtain ⟨V, a, v1, v2, v3, v4⟩ := num.2 f0
    rw [v1, cl_s]
    obtain ⟨R', r'⟩ := rc147_f N T.1 (U := V) (R := R) (P := P) (by rw [v3]; exact fun z => f0 ((iI_eq (b := 0) (by omega) (by omega)).mp z)) hk (iI kd) a
    unfold zCf zCp
    rw [if_neg f0, if_neg f0]
    exact ⟨fun z => absurd z f0, fun _ => ⟨R', P, V, r', v2, v3, v4⟩⟩
theorem rc38 (N : Nat) (hN : 1000 ≤ N) (T : TQ A m h B n) {e : Nat} (he : e ≤ n) (t : tokR B U (zTok B n e)) (h27 : U 27 = 0) (h22 : U 22 = iI n) {k : Nat} (hk : k < 40) (hR : R 0 = iI k) {kd cost : Int} (hkd : 0 ≤ kd ∧ kd ≤ 8) (hc : 0 ≤ cost ∧ cost ≤ 3) : (zCf B n kd cost (zTok B n e).2.2 = 0 → OkS A m h B n U (zCe B n kd (zTok B n e).2.2) (rcR R k kd (zFw B n kd (zTok B n e).2.2) (zSw B n kd (zFe B n kd (zTok B n e).2.2))) (upd P k (iI (zTok B n e).2.1)) (f_M_readClause_38 N (hW A m h R P U) m (iI cost) (iI kd))) ∧ (zCf B n kd cost (zTok B n e).2.2 ≠ 0 → FltS A m h U (zCf B n kd cost (zTok B n e).2.2) (zCp B n kd cost (zTok B n e).2.2) (f_M_readClause_38 N (hW A m h R P U) m (iI cost) (iI kd))) := by
  have M := T.1
  have hr := zTok_rng (B := B) he
  obtain ⟨e2, he2⟩ : ∃ e2, e2 = (zTok B n e).2.2 := ⟨_, rfl⟩
  have e2n : e2 ≤ n := by rw [he2]; exact hr.1.2.2
  have k4 : (1 : Int32) + (4 : Int32) * iI (k : Int) = iI ((1 + 4 * k : Nat) : Int) := by rw [show (4 : Int32) = iI 4 from rfl, iI_mul, show (1 : Int32) = iI 1 from rfl, iI_add]; rfl
  obtain ⟨V, v1, v2, v3⟩ := stepOn_u N hN (T.w R (upd P k (iI (zTok B n e).2.1))) hr.1.2.2 U t.1 h22
  have v1' : f_M_stepOn N (hW A m h R (upd P k (iI (zTok B n e).2.1)) U) m = some ((), hW A m h R (upd P k (iI (zTok B n e).2.1)) V) := v1
  rw [← he2] at v3
  have V27 : V 27 = 0 := by rw [v2 27 (by decide), h27]
  have V22 : V 22 = iI n := by rw [v2 22 (by decide), h22]
  have T' := T.w (upd R (1 + 4 * k) (iI kd)) (upd P k (iI (zTok B n e).2.1))
  have st : f_M_readClause_38 N (hW A m h R P U) m (iI cost) (iI kd) = if (3 : Int32) < iI kd then (if iI kd = (4 : Int32) then (cl (f_M_readNumber N (hW A m h (upd R (1 + 4 * k) (iI kd)) (upd P k (iI (zTok B n e).2.1)) V) m (99 : Int32)) fun v19 h20 => f_M_readClause_147 N h20 m (iI kd) (iI ((1 + 4 * k : Nat) : Int)) (some (A 18)) (iI ((2 + 4 * k : Nat) : Int)) v19) else (if iI kd = (7 : Int32) then (cl (f_M_readNumber N (hW A m h (upd R (1 + 4 * k) (iI kd)) (upd P k (iI (zTok B n e).2.1)) V) m (999 : Int32)) fun v17 h18 => f_M_readClause_147 N h18 m (iI kd) (iI ((1 + 4 * k : Nat) : Int)) (some (A 18)) (iI ((2 + 4 * k : Nat) : Int)) v17) else (if iI kd = (8 : Int32) then (cl (f_M_readCost N (hW A m h (upd R (1 + 4 * k) (iI kd)) (upd P k (iI (zTok B n e).2.1)) V) m (iI cost)) fun v15 h16 => f_M_readClause_147 N h16 m (iI kd) (iI ((1 + 4 * k : Nat) : Int)) (some (A 18)) (iI ((2 + 4 * k : Nat) : Int)) v15) else (f_M_readClause_147 N (hW A m h (upd R (1 + 4 * k) (iI kd)) (upd P k (iI (zTok B n e).2.1)) V) m (iI kd) (iI ((1 + 4 * k : Nat) : Int)) (some (A 18)) (iI ((2 + 4 * k : Nat) : Int)) (0 : Int32))))) else (cl (f_M_readPlace N (hW A m h (upd R (1 + 4 * k) (iI kd)) (upd P k (iI (zTok B n e).2.1)) V) m) fun v21 h22 => f_M_readClause_147 N h22 m (iI kd) (iI ((1 + 4 * k : Nat) : Int)) (some (A 18)) (iI ((2 + 4 * k : Nat) : Int)) v21) := by
    unfold f_M_readClause_38
    rw [gI_w M, h27, if_pos rfl, g18 M, aI_18 M, hR, bn_i, k4, g19 M, g18 M, aI_18 M, hR, gI_w M, t.2.2.1, uI_19 M hk, cv_w M, v1', cl_s, g18 M, uI_18 M (by omega), g18 M]
    simp only [cv_w M, k1]
  have rr : ∀ a b, upd (upd (upd (upd (upd R (1 + 4 * k) (iI kd)) (2 + 4 * k) (iI a)) (3 + 4 * k) (iI b)) (4 + 4 * k) 0) 0 (upd R (1 + 4 * k) (iI kd) 0 + 1) = rcR R k kd a b := fun a b => by
    unfold rcR
    rw [show upd R (1 + 4 * k) (iI kd) 0 = R 0 from upd_o (by omega)]
  have go : ∀ r : Option (Int32 × hS), NumS m (s_w (s_w h (A 18) (upd R (1 + 4 * k) (iI kd))) (A 19) (upd P k (iI (zTok B n e).2.1))) B n e2 V (zFf B n kd cost e2) (zFw B n kd e2) (zFa B n kd e2) (zFe B n kd e2) r → (f_M_readClause_38 N (hW A m h R P U) m (iI cost) (iI kd)) = (cl r fun v h2 => f_M_readClause_147 N h2 m (iI kd) (iI ((1 + 4 * k : Nat) : Int)) (some (A 18)) (iI ((2 + 4 * k : Nat) : Int)) v) → (zCf B n kd cost e2 = 0 → OkS A m h B n U (zCe B n kd e2) (rcR R k kd (zFw B n kd e2) (zSw B n kd (zFe B n kd e2))) (upd P k (iI (zTok B n e).2.1)) (f_M_readClause_38 N (hW A m h R P U) m (iI cost) (iI kd))) ∧ (zCf B n kd cost e2 ≠ 0 → FltS A m h U (zCf B n kd cost e2) (zCp B n kd cost e2) (f_M_readClause_38 N (hW A m h R P U) m (iI cost) (iI kd))) := fun r nm e3 => by
    obtain ⟨c1, c2⟩ := rc_num N hN T e2n hk hkd V27 V22 nm
    rw [rr] at c1
    rw [e3]
    exact ⟨fun z => (c1 z).up v2, fun z => (c2 z).up (fun j j1 _ _ => v2 j j1)⟩
  rw [← he2]
  have lt3 := iI_lt (a := 3) (b := kd) (by omega) (by omega)
  by_cases k3' : kd ≤ 3
  · have e1 : zNum kd ≠ 0 := by unfold zNum; repeat' split; all_goals omega
    have l1 : decide (loF kd < 0) = true := decide_eq_true (by unfold loF; rw [if_pos k3']; omega)
    have l2 : hiF kd = 500 := by unfold hiF; rw [if_pos k3']
    have nm := readPlace_u N hN T' e2n v3 V27 V22
    refine go _ ?_ (by rw [st, if_neg (show ¬ (3 : Int32) < iI kd from fun z => by have := lt3.mp z; omega)])
    unfold zFf zFw zFa zFe
    rw [if_neg e1, if_neg e1, if_neg e1, l1, l2, show (if zNf B n true 500 e2 = 0 then (if kd = 8 ∧ zNw B n true 500 e2 = cost then (3 : Int) else 0) else zNf B n true 500 e2) = zNf B n true 500 e2 by
      by_cases z : zNf B n true 500 e2 = 0
      · rw [if_pos z, if_neg (fun y => by have := y.1; omega), z]
      · rw [if_neg z]]
    exact nm
  · have l1 : decide (loF kd < 0) = false := decide_eq_false (by unfold loF; rw [if_neg k3']; omega)
    rw [if_pos (show (3 : Int32) < iI kd from lt3.mpr (by omega))] at st
    have sim : ∀ hi : Int, hiF kd = hi → zNum kd ≠ 0 → kd ≠ 8 → NumS m (s_w (s_w h (A 18) (upd R (1 + 4 * k) (iI kd))) (A 19) (upd P k (iI (zTok B n e).2.1))) B n e2 V (zNf B n false hi e2) (zNw B n false hi e2) (zNt B n false e2).2.1 (zNt B n false e2).2.2 (f_M_readNumber N (hW A m h (upd R (1 + 4 * k) (iI kd)) (upd P k (iI (zTok B n e).2.1)) V) m (iI hi)) → NumS m (s_w (s_w h (A 18) (upd R (1 + 4 * k) (iI kd))) (A 19) (upd P k (iI (zTok B n e).2.1))) B n e2 V (zFf B n kd cost e2) (zFw B n kd e2) (zFa B n kd e2) (zFe B n kd e2) (f_M_readNumber N (hW A m h (upd R (1 + 4 * k) (iI kd)) (upd P k (iI (zTok B n e).2.1)) V) m (iI hi)) := fun hi l2 e1 n8 nm => by
      unfold zFf zFw zFa zFe
      rw [if_neg e1, if_neg e1, if_neg e1, l1, l2, show (if zNf B n false hi e2 = 0 then (if kd = 8 ∧ zNw B n false hi e2 = cost then (3 : Int) else 0) else zNf B n false hi e2) = zNf B n false hi e2 by
        by_cases z : zNf B n false hi e2 = 0
        · rw [if_pos z, if_neg (fun y => n8 y.1), z]
        · rw [if_neg z]]
      exact nm
    by_cases q4 : kd = 4
    · refine go _ (sim 99 (by rw [q4]; rfl) (by rw [q4]; decide) (by omega) (readNumber_u N hN T' e2n v3 V27 V22 (by omega))) ?_
      rw [st, if_pos (show iI kd = (4 : Int32) by rw [q4]; rfl)]
      rfl
    rw [if_neg (show ¬ iI kd = (4 : Int32) from fun z => q4 ((iI_eq (b := 4) (by omega) (by omega)).mp z))] at st
    by_cases q7 : kd = 7
    · refine go _ (sim 999 (by rw [q7]; rfl) (by rw [q7]; decide) (by omega) (readNumber_u N hN T' e2n v3 V27 V22 (by omega))) ?_
      rw [st, if_pos (show iI kd = (7 : Int32) by rw [q7]; rfl)]
      rfl
    rw [if_neg (show ¬ iI kd = (7 : Int32) from fun z => q7 ((iI_eq (b := 7) (by omega) (by omega)).mp z))] at st
    by_cases q8 : kd = 8
    · have nm := readCost_u N hN T' e2n v3 V27 V22 hc
      refine go _ ?_ (by rw [st, if_pos (show iI kd = (8 : Int32) by rw [q8]; rfl)])
      have e1 : zNum kd ≠ 0 := by rw [q8]; decide
      have l2 : hiF kd = 3 := by rw [q8]; rfl
      unfold zFf zFw zFa zFe
      rw [if_neg e1, if_neg e1, if_neg e1, l1, l2, show (if kd = 8 ∧ zNw B n false 3 e2 = cost then (3 : Int) else 0) = if zNw B n false 3 e2 = cost then 3 else 0 by
        by_cases z : zNw B n false 3 e2 = cost
        · rw [if_pos ⟨q8, z⟩, if_pos z]
        · rw [if_neg (fun y => z y.2), if_neg z]]
      exact nm
    rw [if_neg (show ¬ iI kd = (8 : Int32) from fun z => q8 ((iI_eq (b := 8) (by omega) (by omega)).mp z))] at st
    have e1 : zNum kd = 0 := by unfold zNum; rw [if_neg (by omega), if_pos (by omega)]
    refine go (some (0, hW A m h (upd R (1 + 4 * k) (iI kd)) (upd P k (iI (zTok B n e).2.1)) V)) ?_ (by rw [st, cl_s])
    unfold zFf zFw zFe
    rw [if_pos e1, if_pos e1, if_pos e1]
    exact ⟨fun _ => ⟨V, rfl, fun _ _ => rfl, v3⟩, fun z => absurd rfl z⟩
end
