/-! TEXTS: what a clause holds -/
theorem zWk_m (B : Nat → Int) (a s : Nat) : ∀ m k, 0 ≤ zWk B a s m k → s - a = (zWord (zWk B a s m k).toNat).length := by
  intro m
  induction m with
  | zero => intro k h; rw [zWk] at h; omega
  | succ m ih =>
    intro k h
    rw [zWk] at h ⊢
    by_cases q : zBy B (s - a) a = zWord k
    · rw [if_pos q] at h ⊢
      rw [show ((k : Int)).toNat = k by omega, ← q, zBy_len]
    · rw [if_neg q] at h ⊢
      exact ih (k + 1) h
theorem zNw_rng {B : Nat → Int} {n e : Nat} {bl : Bool} {hi : Int} (he : e ≤ n) (h0 : zNf B n bl hi e = 0) : (-hi ≤ zNw B n bl hi e ∧ zNw B n bl hi e ≤ hi) ∧ (bl = false → 0 ≤ zNw B n bl hi e) ∧ (zNt B n bl e).2.1 < (zNt B n bl e).2.2 := by
  have hr := zNt_rng (B := B) bl he
  have nt2 : (zNt B n bl e).1 = 2 := by
    unfold zNf at h0
    by_cases y : (zNt B n bl e).1 = 2
    · exact y
    · rw [if_neg y] at h0; omega
  have hv := zNv_rng hr.2.1 (hr.2.2.2.2.2 nt2)
  have hle : zNv B (zNt B n bl e) ≤ hi := by
    unfold zNf at h0
    rw [if_pos nt2] at h0
    by_cases y : zNv B (zNt B n bl e) ≤ hi
    · exact y
    · rw [if_neg y] at h0; omega
  refine ⟨?_, fun z => ?_, (hr.2.2.2.2.1 (by omega)).1⟩
  · unfold zNw
    rw [if_pos h0]
    split <;> omega
  · subst z
    unfold zNw
    rw [if_pos h0, if_neg (show ¬ zBe B n false e = true from fun z => Bool.noConfusion (show false = true from z))]
    exact hv.1
/-- a clause without fault: its numbers are as the kind wants them -/
theorem zCf_ok {B : Nat → Int} {n e : Nat} {kd cost : Int} (he : e ≤ n) (hk : 0 ≤ kd ∧ kd ≤ 8) (h0 : zCf B n kd cost e = 0) : okNum kd (zFw B n kd e) (zSw B n kd (zFe B n kd e)) ∧ (kd = 8 → zFw B n kd e ≠ cost) ∧ zSt kd (zFw B n kd e) (zSw B n kd (zFe B n kd e)) = (kd, zFw B n kd e, zSw B n kd (zFe B n kd e)) ∧ e + 1 + (if 1 ≤ zNum kd then 1 else 0) ≤ zCe B n kd e := by
  have hz := zNum_rng kd
  have re := zFe_rng (B := B) kd he
  have rs := zSe_rng (B := B) kd re.2
  have f0 : zFf B n kd cost e = 0 := by
    unfold zCf at h0
    by_cases y : zFf B n kd cost e = 0
    · exact y
    · rw [if_neg y] at h0; exact absurd h0 y
  have s0 : zSf B n kd (zFe B n kd e) = 0 := by
    unfold zCf at h0
    rw [if_pos f0] at h0
    by_cases y : zSf B n kd (zFe B n kd e) = 0
    · exact y
    · rw [if_neg y] at h0; exact absurd h0 y
  have e0 : zEnd B n (zSe B n kd (zFe B n kd e)) = true := by
    unfold zCf at h0
    rw [if_pos f0, if_pos s0] at h0
    by_cases y : zEnd B n (zSe B n kd (zFe B n kd e)) = true
    · exact y
    · rw [if_neg y] at h0; omega
  have tE := zTok_rng (B := B) rs.2
  have tE2 := tE.2.2 (by have := (of_decide_eq_true e0).1; omega)
  have n0 : zNum kd ≠ 0 → zNf B n (decide (loF kd < 0)) (hiF kd) e = 0 := fun hq => by
    unfold zFf at f0
    rw [if_neg hq] at f0
    by_cases y : zNf B n (decide (loF kd < 0)) (hiF kd) e = 0
    · exact y
    · rw [if_neg y] at f0; exact absurd f0 y
  have sec : zNum kd = 2 → 0 ≤ zSw B n kd (zFe B n kd e) ∧ zSw B n kd (zFe B n kd e) ≤ 99 := fun hq => by
    unfold zSf at s0
    rw [if_pos hq] at s0
    have := zNw_rng re.2 s0
    unfold zSw
    rw [if_pos hq]
    exact ⟨this.2.1 rfl, this.1.2⟩
  refine ⟨⟨fun h1 => ?_, sec⟩, fun h8 => ?_, ?_, ?_⟩
  · have hq : zNum kd ≠ 0 := by omega
    have r := zNw_rng he (n0 hq)
    unfold zFw
    rw [if_neg hq]
    by_cases k3 : kd ≤ 3
    · have l1 : loF kd = -500 := by unfold loF; rw [if_pos k3]
      have l2 : hiF kd = 500 := by unfold hiF; rw [if_pos k3]
      rw [l2] at r ⊢
      rw [l1] at r ⊢
      exact r.1
    · have l1 : loF kd = 0 := by unfold loF; rw [if_neg k3]
      rw [l1] at r ⊢
      exact ⟨r.2.1 rfl, r.1.2⟩
  · have hq : zNum kd ≠ 0 := by rw [h8]; decide
    have n1 := n0 hq
    intro hc
    unfold zFw at hc
    rw [if_neg hq] at hc
    unfold zFf at f0
    rw [if_neg hq, if_pos n1, if_pos ⟨h8, hc⟩] at f0
    omega
  · unfold zSt
    by_cases h1 : 1 ≤ zNum kd
    · rw [if_pos h1]
      by_cases h2 : zNum kd = 2
      · rw [if_pos h2]
      · rw [if_neg h2]
        unfold zSw
        rw [if_neg h2]
    · rw [if_neg h1, if_neg (by omega)]
      have hq : zNum kd = 0 := by omega
      unfold zFw zSw
      rw [if_pos hq, if_neg (by omega)]
  · unfold zCe
    by_cases h1 : 1 ≤ zNum kd
    · rw [if_pos h1]
      have hq : zNum kd ≠ 0 := by omega
      have r := zNw_rng he (n0 hq)
      have rr := zNt_rng (B := B) (decide (loF kd < 0)) he
      have : zFe B n kd e = (zNt B n (decide (loF kd < 0)) e).2.2 := by unfold zFe; rw [if_neg hq]
      omega
    · rw [if_neg h1]
      omega
theorem zWord_5 : ∀ k : Fin 9, 4 ≤ (zWord k.val).length + (if 1 ≤ zNum (k.val : Int) then 1 else 0) := by decide
def clOk (cost : Int) (c : Nat × Int × Int × Int) : Prop := (0 ≤ c.2.1 ∧ c.2.1 ≤ 8) ∧ okNum c.2.1 c.2.2.1 c.2.2.2 ∧ (c.2.1 = 8 → c.2.2.1 ≠ cost) ∧ zSt c.2.1 c.2.2.1 c.2.2.2 = (c.2.1, c.2.2.1, c.2.2.2)
theorem zRd_ok (B : Nat → Int) (n : Nat) (cost : Int) : ∀ m e k, e ≤ n → k ≤ 40 → ((zRd B n cost m e k).1.length + k ≤ 40) ∧ (5 * (zRd B n cost m e k).1.length + e ≤ n) ∧ ∀ c ∈ (zRd B n cost m e k).1, clOk cost c := by
  intro m
  induction m with
  | zero => intro e k he hk; rw [zRd]; exact ⟨by simp; omega, by simp; omega, fun c hc => by cases hc⟩
  | succ m ih =>
    intro e k he hk
    have h1 := zTok_rng (B := B) he
    have nil : ∀ (f : Int) (p : Nat), (([] : List (Nat × Int × Int × Int)), f, p).1.length + k ≤ 40 ∧ 5 * (([] : List (Nat × Int × Int × Int)), f, p).1.length + e ≤ n ∧ ∀ c ∈ (([] : List (Nat × Int × Int × Int)), f, p).1, clOk cost c := fun f p => ⟨by simp; omega, by simp; omega, fun c hc => by cases hc⟩
    rw [zRd]
    by_cases q0 : (zTok B n e).1 = 0
    · rw [if_pos q0]; exact nil _ _
    rw [if_neg q0]
    by_cases q1 : zKd B (zTok B n e) = -1
    · rw [if_pos q1]; exact nil _ _
    rw [if_neg q1]
    by_cases q2 : 40 ≤ k
    · rw [if_pos q2]; exact nil _ _
    rw [if_neg q2]
    by_cases q3 : zCf B n (zKd B (zTok B n e)) cost (zTok B n e).2.2 = 0
    · rw [if_pos q3]
      have hkd : 0 ≤ zKd B (zTok B n e) ∧ zKd B (zTok B n e) ≤ 8 := by rcases zKd_rng B (zTok B n e) with z | z <;> omega
      obtain ⟨o1, o2, o3, o4⟩ := zCf_ok h1.1.2.2 hkd q3
      have he2 := zCe_rng (B := B) (zKd B (zTok B n e)) h1.1.2.2
      obtain ⟨i1, i2, i3⟩ := ih (zCe B n (zKd B (zTok B n e)) (zTok B n e).2.2) (k + 1) he2.2 (by omega)
      have wl : (zTok B n e).2.2 - (zTok B n e).2.1 = (zWord (zKd B (zTok B n e)).toNat).length := by
        have hk1 : (zTok B n e).1 = 1 := by
          unfold zKd at q1
          by_cases y : (zTok B n e).1 = 1
          · exact y
          · rw [if_neg y] at q1; exact absurd rfl q1
        have e1 : zKd B (zTok B n e) = zWk B (zTok B n e).2.1 (zTok B n e).2.2 9 0 := by unfold zKd; rw [if_pos hk1]
        rw [e1]
        exact zWk_m B _ _ 9 0 (by rw [← e1]; exact hkd.1)
      have w5 := zWord_5 ⟨(zKd B (zTok B n e)).toNat, by omega⟩
      simp only [] at w5
      rw [show (((zKd B (zTok B n e)).toNat : Nat) : Int) = zKd B (zTok B n e) by omega, ← wl] at w5
      generalize zRd B n cost m (zCe B n (zKd B (zTok B n e)) (zTok B n e).2.2) (k + 1) = Z at *
      refine ⟨?_, ?_, fun c hc => ?_⟩
      · simp only [List.length_cons]; omega
      · simp only [List.length_cons]; omega
      · rcases List.mem_cons.mp hc with rfl | hc
        · exact ⟨hkd, o1, o2, o3⟩
        · exact i3 c hc
    · rw [if_neg q3]; exact nil _ _
/-- the steps that a text tells -/
def txP (L : List (Nat × Int × Int × Int)) (j : Nat) : Int × Int × Int := match L[j]? with
  | some c => c.2
  | none => (0, 0, 0)
def txX (C : Cs) (L : List (Nat × Int × Int × Int)) : ChT := (L.length, txP L, fun j => zC C (txP L j).2.1.toNat)
theorem txP_at {L : List (Nat × Int × Int × Int)} {j : Nat} (hj : j < L.length) : txP L j = L[j].2 := by unfold txP; rw [List.getElem?_eq_getElem hj]
theorem vC_tx {C : Cs} (v : ∀ c, c < 4 → vC (C c)) {L : List (Nat × Int × Int × Int)} {cost : Int} (h40 : L.length ≤ 40) (hL : ∀ c ∈ L, clOk cost c) (ok : okX (txX C L)) : vC (txX C L) := by
  refine ⟨h40, fun j hj => ?_, ok⟩
  have hj' : j < L.length := hj
  have hc := hL _ (List.getElem_mem hj')
  show okArg (txP L j).1 (txP L j).2.1 (txP L j).2.2 ∧ ((txP L j).1 = 8 → zInv (zC C (txP L j).2.1.toNat) ∧ 0 ≤ (txP L j).2.1 ∧ (txP L j).2.1 ≤ 3)
  rw [txP_at hj']
  obtain ⟨c1, c2, c3, c4⟩ := hc
  have oa := c2.arg c1
  rw [c4] at oa
  refine ⟨oa, fun q => ?_⟩
  have h1 := c2.1 (by rw [q]; decide)
  rw [q] at h1
  have h2 : 0 ≤ L[j].2.2.1 ∧ L[j].2.2.1 ≤ 3 := ⟨by have := h1.1; unfold loF at this; simp at this; omega, by have := h1.2; unfold hiF at this; simp at this; omega⟩
  exact ⟨(v _ (n4 h2).1).inv, h2⟩
theorem CH.cg {ρ : Nat → Nat} {l : Nat} {h : hS} {c n : Nat} {p p' : Nat → Int × Int × Int} {Y Y' : Nat → Nat → Int} (C : CH ρ l h c n p Y) (e : ∀ j, j < n → p' j = p j ∧ Y' j = Y j) : CH ρ l h c n p' Y' := by
  obtain ⟨sa, q1, q2, q3, q4, q5⟩ := C
  exact ⟨sa, q1, q2, q3, q4, fun i hi => by
    obtain ⟨st, s1, s2⟩ := q5 i hi
    obtain ⟨e1, e2⟩ := e i hi
    exact ⟨st, s1, by rw [e1, e2]; exact s2⟩⟩
