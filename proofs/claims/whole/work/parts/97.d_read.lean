/-! THE CLASS'S READER: clauses, a text -/
/-- the reader with its four rows -/
def RDQ (ρ : Nat → Nat) (h : hS) (Q : Nat → Nat) (tp : Nat) (B : Nat → Int) (n : Nat) : Prop := RD h (Q 3) tp B n ∧ (ro h (Q 28) 40 ∧ ro h (Q 29) 40 ∧ ro h (Q 30) 40 ∧ ro h (Q 31) 40) ∧ (h_r h (Q 3) 0 = some (Q 28) ∧ h_r h (Q 3) 1 = some (Q 29) ∧ h_r h (Q 3) 2 = some (Q 30) ∧ h_r h (Q 3) 3 = some (Q 31)) ∧ (ρ (Q 28) = 18 ∧ ρ (Q 29) = 18 ∧ ρ (Q 30) = 18 ∧ ρ (Q 31) = 18 ∧ ρ (Q 3) = 18) ∧ (Q 28 ≠ Q 29 ∧ Q 28 ≠ Q 30 ∧ Q 28 ≠ Q 31 ∧ Q 29 ≠ Q 30 ∧ Q 29 ≠ Q 31 ∧ Q 30 ≠ Q 31)
def RW4 (h : hS) (Q : Nat → Nat) (k : Nat) (c : Nat × Int × Int × Int) : Prop := h_i h (Q 31) k = iI c.1 ∧ h_i h (Q 28) k = iI c.2.1 ∧ h_i h (Q 29) k = iI c.2.2.1 ∧ h_i h (Q 30) k = iI c.2.2.2
/-- rows ahead of k are as they were -/
def sm4 (h h' : hS) (Q : Nat → Nat) (k : Nat) : Prop := ∀ i, i < k → h_i h' (Q 28) i = h_i h (Q 28) i ∧ h_i h' (Q 29) i = h_i h (Q 29) i ∧ h_i h' (Q 30) i = h_i h (Q 30) i ∧ h_i h' (Q 31) i = h_i h (Q 31) i
theorem s_i_sw {h : hS} {a r k : Nat} {v : Int32} {F : Nat → Int32} (hne : a ≠ r) : s_i (s_w h r F) a k v = s_w (s_i h a k v) r F := by
  unfold s_i s_w
  simp only []
  congr 3
  funext q
  unfold va_up
  by_cases e1 : q = a
  · rw [if_pos e1, if_neg (fun e => hne (e1.symm.trans e)), if_pos e1, if_neg hne]
  · rw [if_neg e1]
    by_cases e2 : q = r
    · rw [if_pos e2, if_pos e2]
    · rw [if_neg e2, if_neg e2, if_neg e1]
section
variable {ρ : Nat → Nat} {h : hS} {Q : Nat → Nat} {tp n : Nat} {B : Nat → Int} {F : Nat → Int32}
theorem RD.si (D : RD h (Q 3) tp B n) {a k : Nat} {v : Int32} (ha : h_k h a = 50) : RD (s_i h a k v) (Q 3) tp B n := by
  obtain ⟨d1, d2, d3, d4, d5⟩ := D
  have ne : tp ≠ a := fun e => by rw [e, ha] at d3; exact absurd d3 (by decide)
  exact ⟨d1, d2, d3, d4, fun i hi => by rw [h_i_si, if_neg ne]; exact d5 i hi⟩
theorem RDQ.si (X : RDQ ρ h Q tp B n) {a k : Nat} {v : Int32} (ha : h_k h a = 50) : RDQ ρ (s_i h a k v) Q tp B n := ⟨X.1.si ha, X.2⟩
theorem uW {β : Type} (D : RD h (Q 3) tp B n) {a k m : Nat} {v : Int32} {f : hS → Option β} (ha : ro h a m) (hk : k < m) (hm : m < 2 ^ 31) : uI (s_w h (Q 3) F) (some a) (iI k) v f = f (s_w (s_i h a k v) (Q 3) F) := by
  have ne : a ≠ Q 3 := fun e => by have := ha.1; rw [e, D.1] at this; exact absurd this (by decide)
  rw [uI_iI (h := s_w h (Q 3) F) (z := (k : Int)) ha (by omega) (by omega) hm, Int.toNat_natCast, s_i_sw ne]
theorem rW {β : Type} (D : RD h (Q 3) tp B n) {k : Nat} {f : Option Nat → Option β} : gR (s_w h (Q 3) F) (some (Q 3)) 5 k f = f (h_r h (Q 3) k) := by
  rw [gR_k (show h_k (s_w h (Q 3) F) (Q 3) = 5 + 1 from D.1)]
  rfl
/-- what a clause leaves -/
def clE (ρ : Nat → Nat) (h : hS) (Q : Nat → Nat) (tp : Nat) (B : Nat → Int) (n : Nat) (F : Nat → Int32) (k : Nat) (f : Int) (pl : Nat) (en : Nat) (c : Nat × Int × Int × Int) (r : Option (Unit × hS)) : Prop := ∃ h' F', r = some ((), s_w h' (Q 3) F') ∧ tr ρ h (rg 18) ρ h' ∧ RDQ ρ h' Q tp B n ∧ sm4 h h' Q k ∧ hm h' = hm h ∧ h_r h' = h_r h ∧ h_j h' = h_j h ∧ (F' 8 = F 8 ∧ F' 9 = F 9) ∧ F' 5 = iI f ∧ (f ≠ 0 → F' 6 = iI pl ∧ F' 4 = iI k) ∧ (f = 0 → F' 4 = iI ((k + 1 : Nat) : Int) ∧ F' 12 = iI en ∧ RW4 h' Q k c)
/-- the sign at a clause's end -/
theorem cl114 (N : Nat) (hN : 1000 ≤ N) (X : RDQ ρ h Q tp B n) {k e : Nat} (hk : k < 40) (he : e ≤ n) (h8 : F 8 = iI n) (h4 : F 4 = iI k) (h12 : F 12 = iI e) {f0 : Int} (h5 : F 5 = iI f0) (hf : -100 ≤ f0 ∧ f0 ≤ 100) {pl : Nat} (h6 : f0 ≠ 0 → F 6 = iI pl) {c : Nat × Int × Int × Int} (c1 : h_i h (Q 31) k = iI c.1 ∧ h_i h (Q 28) k = iI c.2.1 ∧ h_i h (Q 29) k = iI c.2.2.1) {v : Int32} (hv : f0 = 0 → v = iI c.2.2.2) : clE ρ h Q tp B n F k (if f0 = 0 then (if zEnd B n e = true then 0 else 1) else f0) (if f0 = 0 then (zTok B n e).2.1 else pl) (zTok B n e).2.2 c (f_Reader_readClause_114 N (s_w h (Q 3) F) (Q 3) (some (Q 30)) (iI k) v) := by
  obtain ⟨D, ⟨ro1, ro2, ro3, ro4⟩, rf, lb, ne1, ne2, ne3, ne4, ne5, ne6⟩ := id X
  have X1 : RDQ ρ (s_i h (Q 30) k v) Q tp B n := X.si ro3.1
  have D1 := X1.1
  have t1 : tr ρ h (rg 18) ρ (s_i h (Q 30) k v) := tr_si lb.2.2.1
  have s1 : sm4 h (s_i h (Q 30) k v) Q k := fun i hi => by
    refine ⟨by rw [h_i_si, if_neg ne2], by rw [h_i_si, if_neg ne4], ?_, by rw [h_i_si, if_neg (fun e => ne6 e.symm)]⟩
    rw [h_i_si, if_pos rfl, upd_o (by omega)]
  unfold f_Reader_readClause_114
  rw [uW D ro3 hk (by omega), gW D1, h5]
  by_cases q : f0 = 0
  · have h1 := zTok_rng (B := B) he
    have k8 : tokF F (zTok B n e) 8 = iI n := by rw [tokF_o (by decide) (by decide) (by decide)]; exact h8
    rw [if_pos (show iI f0 = (0 : Int32) by rw [q]; rfl), if_pos q, if_pos q, vW D1, next_is N hN D1 he h8 h12, cl_s]
    obtain ⟨v', v1, v2, v3⟩ := sign_is N D1 (F := tokF F (zTok B n e)) (t := zTok B n e) k8 (tokF_at _).1 (tokF_at _).2.1 h1.2.1 (fun z => (h1.2.2 z).2.1) (c := 59) (by omega)
    rw [vW D1, show (59 : Int32) = iI 59 from rfl, v1, cl_s]
    by_cases q2 : (zTok B n e).1 = 3 ∧ B (zTok B n e).2.1 = 59
    · have e1 : iI (k : Int) + (1 : Int32) = iI ((k + 1 : Nat) : Int) := by rw [show (1 : Int32) = iI 1 from rfl, iI_add]; rfl
      rw [if_neg (show ¬ v' = 0 by rw [v2 q2]; decide), gW D1, tokF_o (by decide) (by decide) (by decide), h4, pW' D1, e1, if_pos (show zEnd B n e = true from decide_eq_true q2)]
      refine ⟨_, _, rfl, t1, X1, s1, rfl, rfl, rfl, ⟨?_, ?_⟩, ?_, fun z => absurd rfl z, fun _ => ⟨upd_a _ _ _, ?_, ?_, ?_, ?_, ?_⟩⟩
      · rw [upd_o (by decide), tokF_o (by decide) (by decide) (by decide)]
      · rw [upd_o (by decide), tokF_o (by decide) (by decide) (by decide)]
      · rw [upd_o (by decide), tokF_o (by decide) (by decide) (by decide), h5, q]
      · rw [upd_o (by decide)]; exact (tokF_at _).2.2
      · rw [h_i_si, if_neg (fun e => ne6 e.symm)]; exact c1.1
      · rw [h_i_si, if_neg ne2]; exact c1.2.1
      · rw [h_i_si, if_neg ne4]; exact c1.2.2
      · rw [h_i_si, if_pos rfl, upd_a]; exact hv q
    · rw [if_pos (show v' = 0 from v3 q2), vW D1, failR_is N D1, cl_s, if_neg (show ¬ zEnd B n e = true from fun z => q2 (of_decide_eq_true z))]
      refine ⟨_, _, rfl, t1, X1, s1, rfl, rfl, rfl, ⟨?_, ?_⟩, ?_, fun _ => ⟨?_, ?_⟩, fun z => absurd z (by decide)⟩
      · rw [upd_o (by decide), upd_o (by decide), tokF_o (by decide) (by decide) (by decide)]
      · rw [upd_o (by decide), upd_o (by decide), tokF_o (by decide) (by decide) (by decide)]
      · rw [upd_o (by decide), upd_a]; rfl
      · rw [upd_a]; exact (tokF_at _).2.1
      · rw [upd_o (by decide), upd_o (by decide), tokF_o (by decide) (by decide) (by decide)]; exact h4
  · rw [if_neg (show ¬ iI f0 = (0 : Int32) from fun z => q ((iI_eq (b := 0) (by omega) (by omega)).mp z)), if_neg q, if_neg q]
    exact ⟨_, _, rfl, t1, X1, s1, rfl, rfl, rfl, ⟨rfl, rfl⟩, h5, fun _ => ⟨h6 q, h4⟩, fun z => absurd z q⟩
theorem zNf_rng (B : Nat → Int) (n : Nat) (bl : Bool) (hi : Int) (e : Nat) : 0 ≤ zNf B n bl hi e ∧ zNf B n bl hi e ≤ 2 := by
  unfold zNf
  repeat' split
  all_goals omega
theorem zFf_rng (B : Nat → Int) (n : Nat) (kd cost : Int) (e : Nat) : 0 ≤ zFf B n kd cost e ∧ zFf B n kd cost e ≤ 3 := by
  have := zNf_rng B n (decide (loF kd < 0)) (hiF kd) e
  unfold zFf
  repeat' split
  all_goals omega
theorem zSf_rng (B : Nat → Int) (n : Nat) (kd : Int) (e : Nat) : 0 ≤ zSf B n kd e ∧ zSf B n kd e ≤ 2 := by
  have := zNf_rng B n false 99 e
  unfold zSf
  split <;> omega
/-- a clause, its word read -/
theorem cl16 (N : Nat) (hN : 1000 ≤ N) (X : RDQ ρ h Q tp B n) (C : CN ρ h) {k e a : Nat} (hk : k < 40) (he : e ≤ n) (h8 : F 8 = iI n) (h4 : F 4 = iI k) (h11 : F 11 = iI a) (h12 : F 12 = iI e) (h5 : F 5 = 0) {cost : Int} (hc : 0 ≤ cost ∧ cost ≤ 3) (h9 : F 9 = iI cost) {kd : Int} (hkd : 0 ≤ kd ∧ kd ≤ 8) : clE ρ h Q tp B n F k (zCf B n kd cost e) (zCp B n kd cost e) (zCe B n kd e) (a, kd, zFw B n kd e, zSw B n kd (zFe B n kd e)) (f_Reader_readClause_16 N (s_w h (Q 3) F) (Q 3) (iI kd)) := by
  obtain ⟨D, ⟨ro1, ro2, ro3, ro4⟩, rf, lb, ne1, ne2, ne3, ne4, ne5, ne6⟩ := id X
  -- word's place, kind
  have X1 : RDQ ρ (s_i h (Q 31) k (iI a)) Q tp B n := X.si ro4.1
  have X2 : RDQ ρ (s_i (s_i h (Q 31) k (iI a)) (Q 28) k (iI kd)) Q tp B n := X1.si ro1.1
  have t2 : tr ρ h (rg 18) ρ (s_i (s_i h (Q 31) k (iI a)) (Q 28) k (iI kd)) := (tr_si lb.2.2.2.1).trans (tr_si lb.1)
  have C2 : CN ρ (s_i (s_i h (Q 31) k (iI a)) (Q 28) k (iI kd)) := C.keep t2 (fun z => by have : (30 : Nat) = 18 := z; omega)
  have D1 := X1.1
  have D2 := X2.1
  obtain ⟨F3, a1, a2, a3, a4, a5, a6, a7⟩ := readFirst_is N hN D2 (C2.sw (F := F) lb.2.2.2.2) he h8 h12 h5 hc h9 hkd
  have X3 : RDQ ρ (s_i (s_i (s_i h (Q 31) k (iI a)) (Q 28) k (iI kd)) (Q 29) k (iI (zFw B n kd e))) Q tp B n := X2.si ro2.1
  have t3 : tr ρ h (rg 18) ρ (s_i (s_i (s_i h (Q 31) k (iI a)) (Q 28) k (iI kd)) (Q 29) k (iI (zFw B n kd e))) := t2.trans (tr_si lb.2.1)
  have C3 : CN ρ (s_i (s_i (s_i h (Q 31) k (iI a)) (Q 28) k (iI kd)) (Q 29) k (iI (zFw B n kd e))) := C.keep t3 (fun z => by have : (30 : Nat) = 18 := z; omega)
  have D3 := X3.1
  have s3 : sm4 h (s_i (s_i (s_i h (Q 31) k (iI a)) (Q 28) k (iI kd)) (Q 29) k (iI (zFw B n kd e))) Q k := fun i hi => by
    refine ⟨?_, ?_, ?_, ?_⟩
    · rw [h_i_si, if_neg ne1, h_i_si, if_pos rfl, upd_o (by omega), h_i_si, if_neg ne3]
    · rw [h_i_si, if_pos rfl, upd_o (by omega), h_i_si, if_neg (fun e => ne1 e.symm), h_i_si, if_neg ne5]
    · rw [h_i_si, if_neg (fun e => ne4 e.symm), h_i_si, if_neg (fun e => ne2 e.symm), h_i_si, if_neg ne6]
    · rw [h_i_si, if_neg (fun e => ne5 e.symm), h_i_si, if_neg (fun e => ne3 e.symm), h_i_si, if_pos rfl, upd_o (by omega)]
  have v3 : h_i (s_i (s_i (s_i h (Q 31) k (iI a)) (Q 28) k (iI kd)) (Q 29) k (iI (zFw B n kd e))) (Q 31) k = iI a ∧ h_i (s_i (s_i (s_i h (Q 31) k (iI a)) (Q 28) k (iI kd)) (Q 29) k (iI (zFw B n kd e))) (Q 28) k = iI kd ∧ h_i (s_i (s_i (s_i h (Q 31) k (iI a)) (Q 28) k (iI kd)) (Q 29) k (iI (zFw B n kd e))) (Q 29) k = iI (zFw B n kd e) := by
    refine ⟨?_, ?_, ?_⟩
    · rw [h_i_si, if_neg (fun e => ne5 e.symm), h_i_si, if_neg (fun e => ne3 e.symm), h_i_si, if_pos rfl, upd_a]
    · rw [h_i_si, if_neg ne1, h_i_si, if_pos rfl, upd_a]
    · rw [h_i_si, if_pos rfl, upd_a]
  have hz := zNum_rng kd
  have rF := zFf_rng B n kd cost e
  have re := zFe_rng (B := B) kd he
  have rS := zSf_rng B n kd (zFe B n kd e)
  have rs := zSe_rng (B := B) kd re.2
  have st : f_Reader_readClause_16 N (s_w h (Q 3) F) (Q 3) (iI kd) = (if iI (zNum kd) = (2 : Int32) then (gI (s_w (s_i (s_i (s_i h (Q 31) k (iI a)) (Q 28) k (iI kd)) (Q 29) k (iI (zFw B n kd e))) (Q 3) F3) (some (Q 3)) 5 5 fun v18 => if v18 = (0 : Int32) then (cv (s_w (s_i (s_i (s_i h (Q 31) k (iI a)) (Q 28) k (iI kd)) (Q 29) k (iI (zFw B n kd e))) (Q 3) F3) (some (Q 3)) 5 (fun a' => f_Reader_readNumber N (s_w (s_i (s_i (s_i h (Q 31) k (iI a)) (Q 28) k (iI kd)) (Q 29) k (iI (zFw B n kd e))) (Q 3) F3) a' (0 : Int32) (99 : Int32)) fun v19 h20 => f_Reader_readClause_114 N h20 (Q 3) (some (Q 30)) (iI k) v19) else (f_Reader_readClause_113 N (s_w (s_i (s_i (s_i h (Q 31) k (iI a)) (Q 28) k (iI kd)) (Q 29) k (iI (zFw B n kd e))) (Q 3) F3) (Q 3) (some (Q 30)) (iI k))) else (f_Reader_readClause_113 N (s_w (s_i (s_i (s_i h (Q 31) k (iI a)) (Q 28) k (iI kd)) (Q 29) k (iI (zFw B n kd e))) (Q 3) F3) (Q 3) (some (Q 30)) (iI k))) := by
    unfold f_Reader_readClause_16
    rw [if_neg (show ¬ iI kd = (-1 : Int32) from fun z => by have := (iI_eq (b := -1) (by omega) (by omega)).mp z; omega), gW D, h4, if_pos (show iI (k : Int) < (40 : Int32) from (iI_lt (b := 40) (by omega) (by omega)).mpr (by omega)), rW D, rf.2.2.2, gW D, h4, gW D, h11, uW D ro4 hk (by omega), rW D1, show h_r (s_i h (Q 31) k (iI (a : Int))) (Q 3) 0 = some (Q 28) from rf.1, gW D1, h4, uW D1 ro1 hk (by omega), rW D2, show h_r (s_i (s_i h (Q 31) k (iI (a : Int))) (Q 28) k (iI kd)) (Q 3) 1 = some (Q 29) from rf.2.1, gW D2, h4, vW D2, a1, cl_s, uW D2 ro2 hk (by omega), rW D3, show h_r (s_i (s_i (s_i h (Q 31) k (iI (a : Int))) (Q 28) k (iI kd)) (Q 29) k (iI (zFw B n kd e))) (Q 3) 2 = some (Q 30) from rf.2.2.1, gW D3, a5, h4, nums_cl N (C3.sw (F := F3) lb.2.2.2.2) hkd]
  rw [st]
  -- the end of a clause, from what the second number left
  have fin : ∀ (F4 : Nat → Int32) (f4 : Int) (p4 e4 : Nat) (w : Int), F4 8 = F 8 → F4 9 = F 9 → F4 4 = F 4 → F4 12 = iI e4 → e4 ≤ n → F4 5 = iI f4 → (-100 ≤ f4 ∧ f4 ≤ 100) → (f4 ≠ 0 → F4 6 = iI p4) → (f4 = 0 → w = zSw B n kd (zFe B n kd e)) → (if f4 = 0 then (if zEnd B n e4 = true then 0 else 1) else f4) = zCf B n kd cost e → (if f4 = 0 then (zTok B n e4).2.1 else p4) = zCp B n kd cost e → (f4 = 0 → (zTok B n e4).2.2 = zCe B n kd e) → clE ρ h Q tp B n F k (zCf B n kd cost e) (zCp B n kd cost e) (zCe B n kd e) (a, kd, zFw B n kd e, zSw B n kd (zFe B n kd e)) (f_Reader_readClause_114 N (s_w (s_i (s_i (s_i h (Q 31) k (iI a)) (Q 28) k (iI kd)) (Q 29) k (iI (zFw B n kd e))) (Q 3) F4) (Q 3) (some (Q 30)) (iI k) (iI w)) := fun F4 f4 p4 e4 w g8 g9 g4 g12 he4 g5 hf4 g6 hw1 hcf hcp hce => by
    obtain ⟨h', F', b1, b2, b3, b4, b5, b6, b7, b8, b9, b10, b11⟩ := cl114 N hN X3 (F := F4) hk he4 (g8.trans h8) (g4.trans h4) g12 g5 hf4 g6 (c := (a, kd, zFw B n kd e, zSw B n kd (zFe B n kd e))) v3 (v := iI w) (fun z => by rw [hw1 z])
    rw [hcf] at b9 b10 b11
    rw [hcp] at b10
    refine ⟨h', F', b1, t3.trans b2, b3, fun i hi => ?_, b5, b6, b7, ⟨b8.1.trans g8, b8.2.trans g9⟩, b9, b10, fun z => ?_⟩
    · obtain ⟨x1, x2, x3, x4⟩ := b4 i hi
      obtain ⟨y1, y2, y3, y4⟩ := s3 i hi
      exact ⟨x1.trans y1, x2.trans y2, x3.trans y3, x4.trans y4⟩
    · obtain ⟨x1, x2, x3⟩ := b11 z
      have z4 : f4 = 0 := by
        by_cases y : f4 = 0
        · exact y
        · rw [if_neg y] at hcf; omega
      exact ⟨x1, by rw [x2, hce z4], x3⟩
  by_cases q2 : zNum kd = 2
  · rw [if_pos (show iI (zNum kd) = (2 : Int32) by rw [q2]; rfl), gW D3, a2]
    by_cases f0 : zFf B n kd cost e = 0
    · rw [if_pos (show iI (zFf B n kd cost e) = (0 : Int32) by rw [f0]; rfl), vW D3]
      obtain ⟨F4, c1, c2⟩ := readNum_is N hN D3 (F := F3) re.2 (a6.trans h8) a4 (by rw [a2, f0]; rfl) false (hi := 99) (by omega)
      obtain ⟨⟨g10, g11, g12⟩, g5, g6, g4, g8, g9⟩ := c2
      have rr := zNt_rng (B := B) false re.2
      rw [show (f_Reader_readNumber N (s_w (s_i (s_i (s_i h (Q 31) k (iI a)) (Q 28) k (iI kd)) (Q 29) k (iI (zFw B n kd e))) (Q 3) F3) (Q 3) (0 : Int32) (99 : Int32)) = some (iI (zNw B n false 99 (zFe B n kd e)), s_w (s_i (s_i (s_i h (Q 31) k (iI a)) (Q 28) k (iI kd)) (Q 29) k (iI (zFw B n kd e))) (Q 3) F4) from c1, cl_s]
      have e1 : zSf B n kd (zFe B n kd e) = zNf B n false 99 (zFe B n kd e) := by unfold zSf; rw [if_pos q2]
      have e2 : zSe B n kd (zFe B n kd e) = (zNt B n false (zFe B n kd e)).2.2 := by unfold zSe; rw [if_pos q2]
      refine fin F4 (zNf B n false 99 (zFe B n kd e)) (zNt B n false (zFe B n kd e)).2.1 (zNt B n false (zFe B n kd e)).2.2 _ (g8.trans a6) (g9.trans a7) (g4.trans a5) g12 rr.2.2.1 g5 (by omega) g6 (fun _ => by unfold zSw; rw [if_pos q2]) ?_ ?_ (fun _ => by unfold zCe; rw [e2])
      · unfold zCf; rw [if_pos f0, e1, e2]
      · unfold zCp; rw [if_pos f0, e1, e2]; rfl
    · rw [if_neg (show ¬ iI (zFf B n kd cost e) = (0 : Int32) from fun z => f0 ((iI_eq (b := 0) (by omega) (by omega)).mp z))]
      unfold f_Reader_readClause_113
      refine fin F3 (zFf B n kd cost e) (zFa B n kd e) (zFe B n kd e) 0 a6 a7 a5 a4 re.2 a2 (by omega) a3 (fun z => absurd z f0) ?_ ?_ (fun z => absurd z f0)
      · unfold zCf; rw [if_neg f0, if_neg f0]
      · unfold zCp; rw [if_neg f0, if_neg f0]
  · rw [if_neg (show ¬ iI (zNum kd) = (2 : Int32) from fun z => q2 ((iI_eq (b := 2) (by omega) (by omega)).mp z))]
    unfold f_Reader_readClause_113
    have e1 : zSf B n kd (zFe B n kd e) = 0 := by unfold zSf; rw [if_neg q2]
    have e2 : zSe B n kd (zFe B n kd e) = zFe B n kd e := by unfold zSe; rw [if_neg q2]
    refine fin F3 (zFf B n kd cost e) (zFa B n kd e) (zFe B n kd e) 0 a6 a7 a5 a4 re.2 a2 (by omega) a3 (fun z => by unfold zSw; rw [if_neg q2]) ?_ ?_ (fun z => by unfold zCe; rw [e2])
    · unfold zCf
      by_cases f0 : zFf B n kd cost e = 0
      · rw [if_pos f0, if_pos f0, e1, if_pos rfl, e2]
      · rw [if_neg f0, if_neg f0]
    · unfold zCp
      by_cases f0 : zFf B n kd cost e = 0
      · rw [if_pos f0, if_pos f0, e1, if_pos rfl, e2]
      · rw [if_neg f0, if_neg f0]
end
