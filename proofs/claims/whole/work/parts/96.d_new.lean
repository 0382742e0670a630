/-! A NEW STATE; the object's own fields -/
/-- where a new state's cells lie -/
def pS (s n : Nat) : Nat := if n = 16 then s else if n = 32 then s + 1 else if n = 40 then s + 2 else if n = 41 then s + 4 else if n = 42 then s + 6 else if n = 43 then s + 8 else if n = 33 then s + 10 else if n = 34 then s + 11 else if n = 35 then s + 12 else if n = 36 then s + 13 else s + 14
def ch0 : ChT := (0, fun _ => (0, 0, 0), fun _ _ => 0)
def S00 : StT := (fun _ => ch0, 0, fun _ => (0, ch0), 0, fun _ => 0, fun _ => 0, fun _ => 0)
theorem vC_0 : vC ch0 := ⟨Nat.zero_le _, fun i hi => absurd hi (Nat.not_lt_zero _), fun i hi => absurd hi (Nat.not_lt_zero _)⟩
theorem vS_0 : vS S00 := ⟨fun _ _ => vC_0, Nat.zero_le _, fun k hk => absurd hk (Nat.not_lt_zero _), Nat.zero_le _, fun k hk => absurd hk (Nat.not_lt_zero _)⟩
theorem FX.cons {L : List (Nat × Nat × Nat × Nat)} {ρ : Nat → Nat} {g : hS} {P : Nat → Nat} (X : FX L ρ g P) {i kd l n ms : Nat} (hP : P i = h_x g) : FX ((i, kd, l, n) :: L) (ext ρ g l) (nw g kd n ms) P := fun e he => by
  rcases List.mem_cons.mp he with rfl | he
  · simp only [hP]
    exact ⟨by rw [k_nw, if_pos rfl], by unfold ext; rw [if_neg (Nat.lt_irrefl _)], by rw [n_nw, if_pos rfl], Nat.lt_succ_self _⟩
  · exact (X.keep (tr_nw (R := fun _ => False))) e he
theorem RF.cons {L : List (Nat × Nat × Nat)} {g : hS} {P : Nat → Nat} (X : RF L g P) {i k j : Nat} (hL : ∀ e ∈ L, P e.1 ≠ P i ∨ e.2.1 ≠ k) : RF ((i, k, j) :: L) (s_r g (P i) k (some (P j))) P := fun e he => by
  rcases List.mem_cons.mp he with rfl | he
  · rw [h_r_sr, if_pos rfl]; unfold va_up; rw [if_pos rfl]
  · rw [h_r_sr]
    by_cases q : P e.1 = P i
    · rw [if_pos q]
      rcases hL e he with z | z
      · exact absurd q z
      · unfold va_up; rw [if_neg z, ← q]; exact X e he
    · rw [if_neg q]; exact X e he
theorem RF.nw {L : List (Nat × Nat × Nat)} {g : hS} {P : Nat → Nat} (X : RF L g P) {kd n ms : Nat} (hL : ∀ e ∈ L, P e.1 < h_x g) : RF L (nw g kd n ms) P := fun e he => by
  have := hL e he
  rw [r_nw, if_neg (by omega)]; exact X e he
/-- one chain of a new state -/
theorem stc_is (N : Nat) {ρ : Nat → Nat} {g : hS} {s a ls c n : Nat} (hc : c < 4) (hk : h_k g s = 7 + 1) (hr : h_r g s 0 = some a) (ha : h_k g a = 62 ∧ h_n g a = 4 ∧ ρ a = ls ∧ a < h_x g) (hsx : s < h_x g) (hsa : s ≠ a) : ∃ ρ' g', f_State_init_14 N (n + 1) g s (iI c) = f_State_init_14 N n g' s (iI ((c + 1 : Nat) : Int)) ∧ tr ρ g (rg ls) ρ' g' ∧ (∀ (ρ0 : Nat → Nat) (h0 : hS) (R : Nat → Prop), tr ρ0 h0 R ρ g → h_x h0 ≤ a → tr ρ0 h0 R ρ' g') ∧ CH ρ' (ls + 1 + c) g' (h_x g) 0 (fun _ => (0, 0, 0)) (fun _ _ => 0) ∧ h_r g' a = va_up (h_r g a) c (some (h_x g)) ∧ (∀ x, x < h_x g → x ≠ a → h_r g' x = h_r g x) ∧ (∀ x, x < h_x g → h_i g' x = h_i g x) ∧ h_x g' = h_x g + 2 ∧ hm g' = hm g + 28 ∧ rch g' (h_x g) = 53 ∧ h_n g' (h_x g) = 0 := by
  obtain ⟨g1, b1, b2, b3, b4, b5, b6⟩ := chnew_is N ρ g (ls + 1 + c) (fun _ => (0, 0, 0)) (fun _ _ => 0)
  have tF := b2 (fun _ => False)
  have ka := tF.2 a ha.2.2.2
  have lA : ext ρ g (ls + 1 + c) a = ls := ka.2.2.1.trans ha.2.2.1
  have t1 : tr (ext ρ g (ls + 1 + c)) g1 (rg ls) (ext ρ g (ls + 1 + c)) (s_r g1 a c (some (h_x g))) := tr_sr lA
  have C1 : CH (ext ρ g (ls + 1 + c)) (ls + 1 + c) (s_r g1 a c (some (h_x g))) (h_x g) 0 (fun _ => (0, 0, 0)) (fun _ _ => 0) := by
    obtain ⟨sa, q1, q2, q3, q4, q5⟩ := b3
    have ne : h_x g ≠ a := by have := ha.2.2.2; omega
    exact ⟨sa, q1, ⟨by rw [h_r_sr, if_neg ne]; exact q2.1, q2.2⟩, q3, q4, fun i hi => by omega⟩
  refine ⟨ext ρ g (ls + 1 + c), s_r g1 a c (some (h_x g)), ?_, (b2 (rg ls)).trans t1, fun ρ0 h0 R t0 h0a => (t0.trans (b2 R)).nr h0a, C1, ?_, fun x hx hxa => ?_, fun x hx => ?_, b6, b4, ?_, ?_⟩
  · have kk : h_k (nw g 3 0 2) s = 7 + 1 := by rw [k_nw, if_neg (by omega)]; exact hk
    unfold f_State_init_14 f_State_init_27 f_State_init_31
    rw [if_neg (show ¬ (4 : Int32) ≤ iI (c : Int) from fun z => absurd ((iI_le (a := 4) (by omega) (by omega)).mp z) (by omega)), gR_k hk, hr]
    unfold nwO
    simp only [nn]
    rw [b1, cl_s, uR_i (ka.1.trans ha.1) (ka.2.1.trans ha.2.1) hc (by omega) (fun b hb => by injection hb with hb; subst hb; exact b3.k), bn_i, show (1 : Int32) = iI 1 from rfl, iI_add, show (c : Int) + 1 = ((c + 1 : Nat) : Int) by omega]
    cases n with
    | zero => rfl
    | succ n => rfl
  · rw [h_r_sr, if_pos rfl, (ka.2.2.2 (fun z => z)).2.2]
  · rw [h_r_sr, if_neg hxa, ((tF.2 x hx).2.2.2 (fun z => z)).2.2]
  · rw [h_i_sr, ((tF.2 x hx).2.2.2 (fun z => z)).1]
  · have e : rch (s_r g1 a c (some (h_x g))) (h_x g) = rch g1 (h_x g) := by
      unfold rch chN
      rw [h_r_sr, if_neg (show ¬ h_x g = a by have := ha.2.2.2; omega)]
      rfl
    rw [e, b5]
  · have q := (mo_Chain_init N (nw g 3 0 2) (h_x g) _ _ b1).2.2 (h_x g) (Nat.lt_succ_self _)
    show h_n g1 (h_x g) = 0
    rw [q.2, n_nw, if_pos rfl]
theorem ro_w {ρ : Nat → Nat} {g : hS} {P : Nat → Nat} {L : List (Nat × Nat × Nat × Nat)} (X : FX L ρ g P) {i k l n : Nat} (hi : (i, k, l, n) ∈ L) : h_k g (P i) = k ∧ ρ (P i) = l ∧ h_n g (P i) = n ∧ P i < h_x g := X _ hi
theorem pS_e (s : Nat) : pS s 16 = s ∧ pS s 32 = s + 1 ∧ pS s 40 = s + 2 ∧ pS s 41 = s + 4 ∧ pS s 42 = s + 6 ∧ pS s 43 = s + 8 ∧ pS s 33 = s + 10 ∧ pS s 34 = s + 11 ∧ pS s 35 = s + 12 ∧ pS s 36 = s + 13 ∧ pS s 37 = s + 14 := ⟨rfl, rfl, rfl, rfl, rfl, rfl, rfl, rfl, rfl, rfl, rfl⟩
/-- a new state, c of its chains made -/
def SN (ρ0 : Nat → Nat) (h0 : hS) (ls s M : Nat) (ρ : Nat → Nat) (g : hS) (c : Nat) : Prop := FX [(32, 62, ls, 4), (16, 8, ls, 0)] ρ g (pS s) ∧ h_r g s 0 = some (s + 1) ∧ h_x g = s + 2 + 2 * c ∧ hm g = M + 28 * c ∧ (∀ d, d < c → CH ρ (ls + 1 + d) g (s + 2 + 2 * d) 0 (fun _ => (0, 0, 0)) (fun _ _ => 0) ∧ rch g (s + 2 + 2 * d) = 53 ∧ h_n g (s + 2 + 2 * d) = 0 ∧ h_r g (s + 1) d = some (s + 2 + 2 * d)) ∧ ∀ R, tr ρ0 h0 R ρ g
theorem SN.step (N : Nat) {ρ0 ρ : Nat → Nat} {h0 g : hS} {ls s M c n : Nat} (hls : 100 ≤ ls) (h0s : h_x h0 ≤ s) (I : SN ρ0 h0 ls s M ρ g c) (hc : c < 4) : ∃ ρ' g', f_State_init_14 N (n + 1) g s (iI c) = f_State_init_14 N n g' s (iI ((c + 1 : Nat) : Int)) ∧ SN ρ0 h0 ls s M ρ' g' (c + 1) := by
  obtain ⟨X, r0, hx, hmm, C, T⟩ := I
  have n9 : ¬ rg ls 9 := fun z => by have : 9 = ls := z; omega
  have nl : ∀ c, ¬ rg ls (ls + 1 + c) := fun c z => by have : ls + 1 + c = ls := z; omega
  have w16 := X (16, 8, ls, 0) (by simp)
  have w32 := X (32, 62, ls, 4) (by simp)
  obtain ⟨ρ', g', a1, a2, a3, a4, a5, a6, a7, a8, a9, a10, a11⟩ := stc_is N (n := n) hc (show h_k g s = 7 + 1 from w16.1) r0 ⟨w32.1, w32.2.2.1, w32.2.1, w32.2.2.2⟩ w16.2.2.2 (by omega)
  rw [hx] at a4 a5 a10 a11
  refine ⟨ρ', g', a1, X.keep a2, by rw [a6 s (by omega) (by omega)]; exact r0, by rw [a8, hx]; omega, by rw [a9, hmm]; omega, fun d hd => ?_, fun R => a3 ρ0 h0 R (T R) (by omega)⟩
  rw [a5]
  unfold va_up
  by_cases e : d = c
  · subst e
    exact ⟨a4, a10, a11, by rw [if_pos rfl]⟩
  · obtain ⟨c1, c2, c3, c4⟩ := C d (by omega)
    have y1 := (a2.2 (s + 2 + 2 * d) (by omega)).2.1
    exact ⟨c1.keep a2 n9 (nl d), by rw [rch_keep c1 a2 (nl d)]; exact c2, by rw [y1]; exact c3, by rw [if_neg e]; exact c4⟩
/-- one row of a new state -/
theorem srow {ρ : Nat → Nat} {g : hS} {s ls i kd n slot : Nat} {L : List (Nat × Nat × Nat × Nat)} {K : List (Nat × Nat × Nat)} (X : FX L ρ g (pS s)) (R : RF K g (pS s)) (h16 : (16, 8, ls, 0) ∈ L) (hK : ∀ e ∈ K, e.1 = 32 ∨ e.1 = 16) (hsl : ∀ e ∈ K, e.1 = 32 ∨ e.2.1 ≠ slot) (hx : pS s i = h_x g) (hsx : s + 1 < h_x g) : FX ((i, kd, ls, n) :: L) (ext ρ g ls) (s_r (nw g kd n n) s slot (some (h_x g))) (pS s) ∧ RF ((16, slot, i) :: K) (s_r (nw g kd n n) s slot (some (h_x g))) (pS s) ∧ tr ρ g (rg ls) (ext ρ g ls) (s_r (nw g kd n n) s slot (some (h_x g))) ∧ (∀ ρ0 h0 R0, tr ρ0 h0 R0 ρ g → h_x h0 ≤ s → tr ρ0 h0 R0 (ext ρ g ls) (s_r (nw g kd n n) s slot (some (h_x g)))) ∧ h_x (s_r (nw g kd n n) s slot (some (h_x g))) = h_x g + 1 ∧ hm (s_r (nw g kd n n) s slot (some (h_x g))) = hm g + 13 + n ∧ ((∀ x, x ≠ s → x ≠ h_x g → h_r (s_r (nw g kd n n) s slot (some (h_x g))) x = h_r g x) ∧ (∀ x, x ≠ h_x g → h_i (s_r (nw g kd n n) s slot (some (h_x g))) x = h_i g x)) ∧ (∀ k, h_r (s_r (nw g kd n n) s slot (some (h_x g))) (h_x g) k = none) ∧ (∀ k, h_i (s_r (nw g kd n n) s slot (some (h_x g))) (h_x g) k = 0) ∧ h_k (nw g kd n n) s = 7 + 1 ∧ ext ρ g ls s = ls := by
  have w16 := X (16, 8, ls, 0) h16
  have e16 : pS s 16 = s := rfl
  have hs : s < h_x g := by omega
  have els : ext ρ g ls s = ls := by unfold ext; rw [if_pos hs]; exact w16.2.1
  have Y : FX ((i, kd, ls, n) :: L) (ext ρ g ls) (nw g kd n n) (pS s) := X.cons hx
  have R1 : RF K (nw g kd n n) (pS s) := R.nw (fun e he => by
    rcases hK e he with q | q
    · rw [q]; show s + 1 < h_x g; exact hsx
    · rw [q]; show s < h_x g; exact hs)
  have R2 : RF ((16, slot, i) :: K) (s_r (nw g kd n n) (pS s 16) slot (some (pS s i))) (pS s) := R1.cons (fun e he => by
    rcases hsl e he with q | q
    · rw [q]; exact Or.inl (show s + 1 ≠ s by omega)
    · exact Or.inr q)
  rw [hx] at R2
  have t : tr (ext ρ g ls) (nw g kd n n) (rg ls) (ext ρ g ls) (s_r (nw g kd n n) s slot (some (h_x g))) := tr_sr els
  refine ⟨Y.keep t, R2, tr_nw.trans t, fun ρ0 h0 R0 t0 h0s => (t0.trans tr_nw).nr h0s, rfl, ?_, ⟨fun x h1 h2 => by rw [h_r_sr, if_neg h1, r_nw, if_neg h2], fun x h2 => by rw [h_i_sr, i_nw, if_neg h2]⟩, fun k => by rw [h_r_sr, if_neg (by omega), r_nw, if_pos rfl], fun k => by rw [h_i_sr, i_nw, if_pos rfl], by rw [k_nw, if_neg (by omega)]; exact w16.1, els⟩
  show 13 * (h_x g + 1) + (h_s g + n) = 13 * h_x g + h_s g + 13 + n
  omega
theorem ltK {a s k : Nat} (h : a = s + k) (hk : 1 < k) : s + 1 < a := by omega
theorem neK (s : Nat) {k : Nat} (hk : 0 < k) : s + k ≠ s := by omega
theorem neK' (s : Nat) {k : Nat} (hk : 0 < k) : s ≠ s + k := by omega
theorem neL (s : Nat) {j k : Nat} (hk : j ≠ k) : s + j ≠ s + k := by omega
theorem sumM {a b x y n : Nat} (h1 : a = b + 13 + n) (h2 : b = x + y) : a = x + (y + 13 + n) := by omega
theorem labR (ls : Nat) {j : Nat} (hj : j < 40) : ls + 10 ≤ ls + 10 + j ∧ ls + 10 + j < ls + 50 := by omega
theorem pS5 (s : Nat) : pS s 33 ≠ pS s 35 ∧ pS s 33 ≠ pS s 37 ∧ pS s 35 ≠ pS s 37 ∧ pS s 32 ≠ pS s 34 := ⟨neL s (by decide), neL s (by decide), neL s (by decide), neL s (by decide)⟩
theorem pS4 (s : Nat) {c : Nat} (hc : c < 4) : pS s (40 + c) = s + 2 + 2 * c := by
  rcases (show c = 0 ∨ c = 1 ∨ c = 2 ∨ c = 3 by omega) with e | e | e | e <;> subst e <;> rfl
set_option maxHeartbeats 4000000 in
theorem stnew_is (N : Nat) (hN : 100 ≤ N) (ρ : Nat → Nat) (h : hS) {ls : Nat} (hls : 100 ≤ ls) : ∃ ρ' g, f_State_init N (nw h 8 0 8) (h_x h) = some ((), g) ∧ (∀ R, tr ρ h R ρ' g) ∧ SY ρ' g (pS (h_x h)) ls S00 (fun k => ls + 10 + k) ∧ hm g = hm h + 314 ∧ pSt g (h_x h) = 3452 := by
  obtain ⟨s, hs⟩ : ∃ s, s = h_x h := ⟨_, rfl⟩
  rw [← hs]
  obtain ⟨e16, e32, e40, e41, e42, e43, e33, e34, e35, e36, e37⟩ := pS_e s
  have hss : h_x h ≤ s := Nat.le_of_eq hs.symm
  -- the object and the row of its chains
  have X0 : FX [(16, 8, ls, 0)] (ext ρ h ls) (nw h 8 0 8) (pS s) := FX.cons (L := []) (fun e he => by cases he) (by rw [e16, hs])
  have T0 : ∀ R, tr ρ h R (ext ρ h ls) (nw h 8 0 8) := fun R => tr_nw
  have x0 : h_x (nw h 8 0 8) = s + 1 := by rw [hs]; rfl
  have m0 : hm (nw h 8 0 8) = hm h + 21 := by show 13 * (h_x h + 1) + (h_s h + 8) = 13 * h_x h + h_s h + 21; omega
  obtain ⟨g0, hg0⟩ : ∃ g0, g0 = nw h 8 0 8 := ⟨_, rfl⟩
  obtain ⟨ρ0, hr0⟩ : ∃ ρ0, ρ0 = ext ρ h ls := ⟨_, rfl⟩
  rw [← hg0] at X0 T0 x0 m0 ⊢
  rw [← hr0] at X0 T0
  have X1 : FX [(32, 62, ls, 4), (16, 8, ls, 0)] (ext ρ0 g0 ls) (nw g0 62 4 4) (pS s) := X0.cons (by rw [e32, x0])
  have w16 := X1 (16, 8, ls, 0) (by simp)
  have k16 : h_k (nw g0 62 4 4) s = 7 + 1 := w16.1
  have l16 : ext ρ0 g0 ls s = ls := w16.2.1
  have I0 : SN ρ h ls s (hm h + 38) (ext ρ0 g0 ls) (s_r (nw g0 62 4 4) s 0 (some (s + 1))) 0 := by
    refine ⟨X1.keep (R := rg ls) (tr_sr l16), by rw [h_r_sr, if_pos rfl]; unfold va_up; rw [if_pos rfl], by show h_x g0 + 1 = s + 2 + 0; omega, ?_, fun d hd => absurd hd (Nat.not_lt_zero _), fun R => ((T0 R).trans tr_nw).nr hss⟩
    have : 13 * (h_x g0 + 1) + (h_s g0 + 4) = hm g0 + 17 := by show _ = 13 * h_x g0 + h_s g0 + 17; omega
    show 13 * (h_x g0 + 1) + (h_s g0 + 4) = hm h + 38 + 0
    omega
  obtain ⟨fu, hfu⟩ : ∃ fu, N = fu + 1 + 1 + 1 + 1 + 1 := ⟨N - 5, by omega⟩
  obtain ⟨ρ1, g1, a1, I1⟩ := I0.step N (n := fu + 1 + 1 + 1 + 1) hls hss (by decide)
  obtain ⟨ρ2, g2, a2, I2⟩ := I1.step N (n := fu + 1 + 1 + 1) hls hss (by decide)
  obtain ⟨ρ3, g3, a3, I3⟩ := I2.step N (n := fu + 1 + 1) hls hss (by decide)
  obtain ⟨ρ6, g6, a4, I6⟩ := I3.step N (n := fu + 1) hls hss (by decide)
  have f2 : f_State_init N g0 s = f_State_init_14 N (fu + 1) g6 s (iI ((4 : Nat) : Int)) := by
    unfold f_State_init f_State_init_9
    rw [show (4 : Int32) = iI ((4 : Nat) : Int) from rfl, nwA_n (by decide), x0, pR_k k16]
    have : f_State_init_14 N N (s_r (nw g0 62 4 4) s 0 (some (s + 1))) s (0 : Int32) = f_State_init_14 N (fu + 1 + 1 + 1 + 1 + 1) (s_r (nw g0 62 4 4) s 0 (some (s + 1))) s (iI ((0 : Nat) : Int)) := by rw [← hfu]; rfl
    rw [this, a1, a2, a3, a4]
  clear a1 a2 a3 a4 I0 I1 I2 I3 X1 X0 T0 m0
  obtain ⟨X6, r6, x6, m6, C6, T6⟩ := I6
  have x6' : h_x g6 = s + 10 := x6
  have m6' : hm g6 = hm h + 150 := m6
  have n9 : ¬ rg ls 9 := fun z => by have : 9 = ls := z; omega
  have nl : ∀ c, ¬ rg ls (ls + 1 + c) := fun c z => by have : ls + 1 + c = ls := z; omega
  have R6 : RF [(16, 0, 32), (32, 0, 40), (32, 1, 41), (32, 2, 42), (32, 3, 43)] g6 (pS s) := fun e he => by
    simp only [List.mem_cons, List.not_mem_nil, or_false] at he
    rcases he with he | he | he | he | he <;> subst he
    · exact r6
    · exact (C6 0 (by decide)).2.2.2
    · exact (C6 1 (by decide)).2.2.2
    · exact (C6 2 (by decide)).2.2.2
    · exact (C6 3 (by decide)).2.2.2
  have k0 : ∀ {l c : Nat}, CH ρ6 l g6 c 0 (fun _ => (0, 0, 0)) (fun _ _ => 0) → h_k g6 c = 3 ∧ ρ6 c = l ∧ c < h_x g6 := fun {l c} q => by obtain ⟨sa, q1, _⟩ := q; exact q1
  have Y6 : FX [(43, 3, ls + 4, 0), (42, 3, ls + 3, 0), (41, 3, ls + 2, 0), (40, 3, ls + 1, 0), (32, 62, ls, 4), (16, 8, ls, 0)] ρ6 g6 (pS s) := fun e he => by
    simp only [List.mem_cons, List.not_mem_nil, or_false] at he
    rcases he with he | he | he | he | he | he <;> subst he
    · have q := C6 3 (by decide); have := k0 q.1; exact ⟨this.1, this.2.1, q.2.2.1, this.2.2⟩
    · have q := C6 2 (by decide); have := k0 q.1; exact ⟨this.1, this.2.1, q.2.2.1, this.2.2⟩
    · have q := C6 1 (by decide); have := k0 q.1; exact ⟨this.1, this.2.1, q.2.2.1, this.2.2⟩
    · have q := C6 0 (by decide); have := k0 q.1; exact ⟨this.1, this.2.1, q.2.2.1, this.2.2⟩
    · exact X6 _ (by simp)
    · exact X6 _ (by simp)
  have CC : ∀ c, c < 4 → CH ρ6 (ls + 1 + c) g6 (pS s (40 + c)) 0 (fun _ => (0, 0, 0)) (fun _ _ => 0) ∧ rch g6 (pS s (40 + c)) = 53 := fun c hc => by rw [pS4 s hc]; exact ⟨(C6 c hc).1, (C6 c hc).2.1⟩
  clear C6 k0 X6 r6 x6 m6
  -- costs of acts
  obtain ⟨Y7, R7, U7, W7, x7, m7, _, _, _, k7, l7⟩ := srow (ls := ls) (i := 33) (kd := 50) (n := 40) (slot := 1) Y6 R6 (by simp) (by decide) (by decide) (by rw [e33, x6']) (ltK x6' (by decide))
  have T7 : ∀ R, tr ρ h R _ _ := fun R => W7 ρ h R (T6 R) hss
  rw [x6'] at Y7 R7 U7 T7 x7 m7
  obtain ⟨g7, hg7⟩ : ∃ q, q = s_r (nw g6 50 40 40) s 1 (some (s + 10)) := ⟨_, rfl⟩
  obtain ⟨ρ7, hr7⟩ : ∃ q, q = ext ρ6 g6 ls := ⟨_, rfl⟩
  rw [← hg7] at Y7 R7 U7 T7 x7 m7
  rw [← hr7] at Y7 U7 T7
  have f3 : f_State_init N g0 s = (nwA g7 62 (40 : Int32) fun q2 h3 => f_State_init_52 N h3 s (some s) (some q2)) := by
    rw [f2]
    unfold f_State_init_14 f_State_init_43
    rw [if_pos (show (4 : Int32) ≤ iI ((4 : Nat) : Int) by decide), show (40 : Int32) = iI ((40 : Nat) : Int) from rfl, nwA_n (by decide), x6', pR_k k7, ← hg7]
  clear f2 W7 Y6 R6 T6 k7 l7 hg7 hr7
  have x7' : h_x g7 = s + 11 := x7
  have m7' : hm g7 = hm h + 203 := sumM m7 m6'
  -- chains of acts
  obtain ⟨Y8, R8, U8, W8, x8, m8, _, z8, _, k8, l8⟩ := srow (ls := ls) (i := 34) (kd := 62) (n := 40) (slot := 2) Y7 R7 (by simp) (by decide) (by decide) (by rw [e34, x7']) (ltK x7' (by decide))
  have T8 : ∀ R, tr ρ h R _ _ := fun R => W8 ρ h R (T7 R) hss
  rw [x7'] at Y8 R8 U8 T8 x8 m8 z8
  obtain ⟨g8, hg8⟩ : ∃ q, q = s_r (nw g7 62 40 40) s 2 (some (s + 11)) := ⟨_, rfl⟩
  obtain ⟨ρ8, hr8⟩ : ∃ q, q = ext ρ7 g7 ls := ⟨_, rfl⟩
  rw [← hg8] at Y8 R8 U8 T8 x8 m8 z8
  rw [← hr8] at Y8 U8 T8 l8
  have k8' : h_k g8 s = 7 + 1 := by rw [hg8]; exact k8
  have f4 : f_State_init N g0 s = (nwA (s_i g8 s 3 0) 50 (8 : Int32) fun q3 h4 => f_State_init_65 N h4 s (some s) (some q3)) := by
    rw [f3]
    unfold f_State_init_52
    rw [show (40 : Int32) = iI ((40 : Nat) : Int) from rfl, nwA_n (by decide), x7', pR_k k8, ← hg8, pI_k k8']
  have V8 := U7.trans U8
  clear f3 W8 Y7 R7 T7 k8 hg8 hr8 U7 U8
  have t8 : tr ρ8 g8 (rg ls) ρ8 (s_i g8 s 3 0) := tr_si l8
  have Y9 := Y8.keep t8
  have R9 : RF [(16, 2, 34), (16, 1, 33), (16, 0, 32), (32, 0, 40), (32, 1, 41), (32, 2, 42), (32, 3, 43)] (s_i g8 s 3 0) (pS s) := fun e he => R8 e he
  have T9 : ∀ R, tr ρ h R ρ8 (s_i g8 s 3 0) := fun R => (T8 R).ni hss
  have V9 := V8.trans t8
  have x9 : h_x (s_i g8 s 3 0) = s + 12 := x8
  have m9 : hm (s_i g8 s 3 0) = hm h + 256 := sumM m8 m7'
  have z9 : ∀ k, h_r (s_i g8 s 3 0) (s + 11) k = none := z8
  have i9 : h_i (s_i g8 s 3 0) s 3 = 0 := by rw [h_i_si, if_pos rfl]; rfl
  obtain ⟨g9, hg9⟩ : ∃ q, q = s_i g8 s 3 0 := ⟨_, rfl⟩
  rw [← hg9] at Y9 R9 T9 V9 x9 m9 z9 i9 f4
  clear Y8 R8 T8 V8 t8 z8 hg9 m8 m7 m7' x8 x7 k8' l8
  -- places of notes
  obtain ⟨Ya, Ra, Ua, Wa, xa, ma, ⟨ra, ia⟩, _, _, ka, la⟩ := srow (ls := ls) (i := 35) (kd := 50) (n := 8) (slot := 4) Y9 R9 (by simp) (by decide) (by decide) (by rw [e35, x9]) (ltK x9 (by decide))
  have Ta : ∀ R, tr ρ h R _ _ := fun R => Wa ρ h R (T9 R) hss
  rw [x9] at Ya Ra Ua Ta xa ma ra ia
  obtain ⟨ga, hga⟩ : ∃ q, q = s_r (nw g9 50 8 8) s 4 (some (s + 12)) := ⟨_, rfl⟩
  obtain ⟨ρa, hra⟩ : ∃ q, q = ext ρ8 g9 ls := ⟨_, rfl⟩
  rw [← hga] at Ya Ra Ua Ta xa ma ra ia
  rw [← hra] at Ya Ua Ta
  have f5 : f_State_init N g0 s = (nwA ga 51 (8 : Int32) fun q2 h3 => f_State_init_73 N h3 s (some s) (some q2)) := by
    rw [f4]
    unfold f_State_init_65
    rw [show (8 : Int32) = iI ((8 : Nat) : Int) from rfl, nwA_n (by decide), x9, pR_k ka, ← hga]
  have Va := V9.trans Ua
  have za : ∀ k, h_r ga (s + 11) k = none := fun k => by rw [ra _ (neK s (by decide)) (neL s (by decide))]; exact z9 k
  have ja : h_i ga s 3 = 0 := by rw [ia _ (neK' s (by decide))]; exact i9
  clear f4 Wa Y9 R9 T9 ka hga hra V9 Ua z9 i9 ra ia la
  have xa' : h_x ga = s + 13 := xa
  have ma' : hm ga = hm h + 277 := sumM ma m9
  -- their values
  obtain ⟨Yb, Rb, Ub, Wb, xb, mb, ⟨rb, ib⟩, _, _, kb, lb⟩ := srow (ls := ls) (i := 36) (kd := 51) (n := 8) (slot := 5) Ya Ra (by simp) (by decide) (by decide) (by rw [e36, xa']) (ltK xa' (by decide))
  have Tb : ∀ R, tr ρ h R _ _ := fun R => Wb ρ h R (Ta R) hss
  rw [xa'] at Yb Rb Ub Tb xb mb rb ib
  obtain ⟨gb, hgb⟩ : ∃ q, q = s_r (nw ga 51 8 8) s 5 (some (s + 13)) := ⟨_, rfl⟩
  obtain ⟨ρb, hrb⟩ : ∃ q, q = ext ρa ga ls := ⟨_, rfl⟩
  rw [← hgb] at Yb Rb Ub Tb xb mb rb ib
  rw [← hrb] at Yb Ub Tb lb
  have kb' : h_k gb s = 7 + 1 := by rw [hgb]; exact kb
  have f6 : f_State_init N g0 s = (nwA (s_i gb s 6 0) 50 (3 : Int32) fun q3 h4 => f_State_init_85 N h4 (some s) (some q3)) := by
    rw [f5]
    unfold f_State_init_73
    rw [show (8 : Int32) = iI ((8 : Nat) : Int) from rfl, nwA_n (by decide), xa', pR_k kb, ← hgb, pI_k kb']
  have Vb := Va.trans Ub
  have zb : ∀ k, h_r gb (s + 11) k = none := fun k => by rw [rb _ (neK s (by decide)) (neL s (by decide))]; exact za k
  have jb : h_i gb s 3 = 0 := by rw [ib _ (neK' s (by decide))]; exact ja
  clear f5 Wb Ya Ra Ta kb hgb hrb Va Ub za ja rb ib
  have tb : tr ρb gb (rg ls) ρb (s_i gb s 6 0) := tr_si lb
  have Yc := Yb.keep tb
  have Rc : RF [(16, 5, 36), (16, 4, 35), (16, 2, 34), (16, 1, 33), (16, 0, 32), (32, 0, 40), (32, 1, 41), (32, 2, 42), (32, 3, 43)] (s_i gb s 6 0) (pS s) := fun e he => Rb e he
  have Tc : ∀ R, tr ρ h R ρb (s_i gb s 6 0) := fun R => (Tb R).ni hss
  have Vc := Vb.trans tb
  have xc : h_x (s_i gb s 6 0) = s + 14 := xb
  have mc : hm (s_i gb s 6 0) = hm h + 298 := sumM mb ma'
  have zc : ∀ k, h_r (s_i gb s 6 0) (s + 11) k = none := zb
  have jc : h_i (s_i gb s 6 0) s 3 = 0 ∧ h_i (s_i gb s 6 0) s 6 = 0 := by rw [h_i_si, if_pos rfl]; exact ⟨jb, rfl⟩
  obtain ⟨gc, hgc⟩ : ∃ q, q = s_i gb s 6 0 := ⟨_, rfl⟩
  rw [← hgc] at Yc Rc Tc Vc xc mc zc jc f6
  clear Yb Rb Tb Vb tb zb jb hgc mb ma ma' xb xa kb' lb
  -- what was refused
  obtain ⟨Yd, Rd, Ud, Wd, xd, md, ⟨rd, id'⟩, _, jd, kd, ld⟩ := srow (ls := ls) (i := 37) (kd := 50) (n := 3) (slot := 7) Yc Rc (by simp) (by decide) (by decide) (by rw [e37, xc]) (ltK xc (by decide))
  have Td : ∀ R, tr ρ h R _ _ := fun R => Wd ρ h R (Tc R) hss
  rw [xc] at Yd Rd Ud Td xd md rd id' jd
  obtain ⟨gd, hgd⟩ : ∃ q, q = s_r (nw gc 50 3 3) s 7 (some (s + 14)) := ⟨_, rfl⟩
  obtain ⟨ρd, hrd⟩ : ∃ q, q = ext ρb gc ls := ⟨_, rfl⟩
  rw [← hgd] at Yd Rd Ud Td xd md rd id' jd
  rw [← hrd] at Yd Ud Td
  have f7 : f_State_init N g0 s = some ((), gd) := by
    rw [f6]
    unfold f_State_init_85
    rw [show (3 : Int32) = iI ((3 : Nat) : Int) from rfl, nwA_n (by decide), xc, pR_k kd, ← hgd]
  have Vd := Vc.trans Ud
  have zd : ∀ k, h_r gd (s + 11) k = none := fun k => by rw [rd _ (neK s (by decide)) (neL s (by decide))]; exact zc k
  have jd3 : h_i gd s 3 = 0 ∧ h_i gd s 6 = 0 := by rw [id' _ (neK' s (by decide))]; exact jc
  clear f6 Wd Yc Rc Tc Vc Ud zc jc rd id' kd hgd hrd ld
  have CF : ∀ c, c < 4 → CH ρd (ls + 1 + c) gd (pS s (40 + c)) 0 (fun _ => (0, 0, 0)) (fun _ _ => 0) ∧ rch gd (pS s (40 + c)) = 53 := fun c hc => ⟨(CC c hc).1.keep Vd n9 (nl c), by rw [rch_keep (CC c hc).1 Vd (nl c)]; exact (CC c hc).2⟩
  have SYF : SY ρd gd (pS s) ls S00 (fun k => ls + 10 + k) := by
    refine ⟨⟨fun e he => Yd e ?_, fun e he => Rd e ?_, ?_⟩, ⟨?_, ?_⟩, fun c hc => (CF c hc).1, ⟨fun j k _ _ e => Nat.add_left_cancel e, fun j hj => labR ls hj, fun k hk => Or.inl ⟨by rw [e34]; exact zd k, Nat.zero_le _⟩⟩, fun k hk => absurd hk (Nat.not_lt_zero _), fun k hk => absurd hk (Nat.not_lt_zero _), fun k hk => ?_⟩
    · simp only [fixS, List.mem_cons, List.not_mem_nil, or_false] at he
      rcases he with he | he | he | he | he | he | he | he | he | he | he <;> subst he <;> simp
    · simp only [refS, List.mem_cons, List.not_mem_nil, or_false] at he
      rcases he with he | he | he | he | he | he | he | he | he | he <;> subst he <;> simp
    · exact pS5 s
    · rw [e16]; exact jd3.1
    · rw [e16]; exact jd3.2
    · rw [e37]; exact jd k
  refine ⟨ρd, gd, f7, Td, SYF, sumM md mc, ?_⟩
  have := SYF.pst
  rw [e16] at this
  rw [this, sumN_congr 4 (g := fun _ => 53) (fun c hc => (CF c hc).2), sumN_congr 40 (g := fun _ => 81) (fun k hk => by rw [e34, zd k]; rfl)]
  rfl
