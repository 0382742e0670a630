/-! A NEW STATE; the object's own fields -/
/-- where a new state's cells lie -/
def pS (s n : Nat) : Nat := if n = 16 then s else if n = 32 then s + 1 else if n = 40 then s + 2 else if n = 41 then s + 4 else if n = 42 then s + 6 else if n = 43 then s + 8 else if n = 33 then s + 10 else if n = 34 then s + 11 else if n = 35 then s + 12 else if n = 36 then s + 13 else s + 14
def ch0 : ChT := (0, fun _ => (0, 0, 0), fun _ _ => 0)
def S00 : StT := (fun _ => ch0, 0, fun _ => (0, ch0), 0, fun _ => 0, fun _ => 0, fun _ => 0)
theorem vC_0 : vC ch0 := ⟨Nat.zero_le _, fun i hi => absurd hi (Nat.not_lt_zero _), fun i hi => absurd hi (Nat.not_lt_zero _)⟩
theorem vS_0 : vS S00 := ⟨fun _ _ => vC_0, Nat.zero_le _, fun k hk => absurd hk (Nat.not_lt_zero _), Nat.zero_le _, fun k hk => absurd hk (Nat.not_lt_zero _)⟩
theorem FX.cons {L : List (Nat × Nat × Nat × Nat)} {ρ : Nat → Nat} {g : hS} {P : Nat → Nat} (X : FX L ρ g P) {i kd l n ms : Nat} (hP : P i = h_x g) : FX ((i, kd, l, n) :: L) (ext ρ g l) (nw g kd n ms) P := fun e he => by
  rcases List.mem_cons.mp he with rfl | he
  · simp only [hP]
    exact ⟨by rw [k_nw, if_pos rfl], by unfold ext; rw [if_neg (Nat.lt_irrefl _)], by rw [n_nw, if_pos rfl], Nat.lt_succ_self _⟩
  · exact (X.keep (tr_nw (R := fun _ => False))) e he
theorem RF.cons {L : List (Nat × Nat × Nat)} {g : hS} {P : Nat → Nat} (X : RF L g P) {i k j : Nat} (hL : ∀ e ∈ L, P e.1 ≠ P i ∨ e.2.1 ≠ k) : RF ((i, k, j) :: L) (s_r g (P i) k (some (P j))) P := fun e he => by
  rcases List.mem_cons.mp he with rfl | he
  · rw [h_r_sr, if_pos rfl]; unfold va_up; rw [if_pos rfl]
  · rw [h_r_sr]
    by_cases q : P e.1 = P i
    · rw [if_pos q]
      rcases hL e he with z | z
      · exact absurd q z
      · unfold va_up; rw [if_neg z, ← q]; exact X e he
    · rw [if_neg q]; exact X e he
theorem RF.nw {L : List (Nat × Nat × Nat)} {g : hS} {P : Nat → Nat} (X : RF L g P) {kd n ms : Nat} (hL : ∀ e ∈ L, P e.1 < h_x g) : RF L (nw g kd n ms) P := fun e he => by
  have := hL e he
  rw [r_nw, if_neg (by omega)]; exact X e he
/-- one chain of a new state -/
theorem stc_is (N : Nat) {ρ : Nat → Nat} {g : hS} {s a ls c n : Nat} (hc : c < 4) (hk : h_k g s = 7 + 1) (hr : h_r g s 0 = some a) (ha : h_k g a = 62 ∧ h_n g a = 4 ∧ ρ a = ls ∧ a < h_x g) (hsx : s < h_x g) (hsa : s ≠ a) : ∃ ρ' g', f_State_init_14 N (n + 1) g s (iI c) = f_State_init_14 N n g' s (iI ((c + 1 : Nat) : Int)) ∧ tr ρ g (rg ls) ρ' g' ∧ (∀ (ρ0 : Nat → Nat) (h0 : hS) (R : Nat → Prop), tr ρ0 h0 R ρ g → h_x h0 ≤ a → tr ρ0 h0 R ρ' g') ∧ CH ρ' (ls + 1 + c) g' (h_x g) 0 (fun _ => (0, 0, 0)) (fun _ _ => 0) ∧ h_r g' a = va_up (h_r g a) c (some (h_x g)) ∧ (∀ x, x < h_x g → x ≠ a → h_r g' x = h_r g x) ∧ (∀ x, x < h_x g → h_i g' x = h_i g x) ∧ h_x g' = h_x g + 2 ∧ hm g' = hm g + 28 ∧ rch g' (h_x g) = 53 ∧ h_n g' (h_x g) = 0 := by
  obtain ⟨g1, b1, b2, b3, b4, b5, b6⟩ := chnew_is N ρ g (ls + 1 + c) (fun _ => (0, 0, 0)) (fun _ _ => 0)
  have tF := b2 (fun _ => False)
  have ka := tF.2 a ha.2.2.2
  have lA : ext ρ g (ls + 1 + c) a = ls := ka.2.2.1.trans ha.2.2.1
  have t1 : tr (ext ρ g (ls + 1 + c)) g1 (rg ls) (ext ρ g (ls + 1 + c)) (s_r g1 a c (some (h_x g))) := tr_sr lA
  have C1 : CH (ext ρ g (ls + 1 + c)) (ls + 1 + c) (s_r g1 a c (some (h_x g))) (h_x g) 0 (fun _ => (0, 0, 0)) (fun _ _ => 0) := by
    obtain ⟨sa, q1, q2, q3, q4, q5⟩ := b3
    have ne : h_x g ≠ a := by have := ha.2.2.2; omega
    exact ⟨sa, q1, ⟨by rw [h_r_sr, if_neg ne]; exact q2.1, q2.2⟩, q3, q4, fun i hi => by omega⟩
  refine ⟨ext ρ g (ls + 1 + c), s_r g1 a c (some (h_x g)), ?_, (b2 (rg ls)).trans t1, fun ρ0 h0 R t0 h0a => (t0.trans (b2 R)).nr h0a, C1, ?_, fun x hx hxa => ?_, fun x hx => ?_, b6, b4, ?_, ?_⟩
  · have kk : h_k (nw g 3 0 2) s = 7 + 1 := by rw [k_nw, if_neg (by omega)]; exact hk
    unfold f_State_init_14 f_State_init_27 f_State_init_31
    rw [if_neg (show ¬ (4 : Int32) ≤ iI (c : Int) from fun z => absurd ((iI_le (a := 4) (by omega) (by omega)).mp z) (by omega)), gR_k hk, hr]
    unfold nwO
    simp only [nn]
    rw [b1, cl_s, uR_i (ka.1.trans ha.1) (ka.2.1.trans ha.2.1) hc (by omega) (fun b hb => by injection hb with hb; subst hb; exact b3.k), bn_i, show (1 : Int32) = iI 1 from rfl, iI_add, show (c : Int) + 1 = ((c + 1 : Nat) : Int) by omega]
    cases n with
    | zero => rfl
    | succ n => rfl
  · rw [h_r_sr, if_pos rfl, (ka.2.2.2 (fun z => z)).2.2]
  · rw [h_r_sr, if_neg hxa, ((tF.2 x hx).2.2.2 (fun z => z)).2.2]
  · rw [h_i_sr, ((tF.2 x hx).2.2.2 (fun z => z)).1]
  · have e : rch (s_r g1 a c (some (h_x g))) (h_x g) = rch g1 (h_x g) := by
      unfold rch chN
      rw [h_r_sr, if_neg (show ¬ h_x g = a by have := ha.2.2.2; omega)]
      rfl
    rw [e, b5]
  · have q := (mo_Chain_init N (nw g 3 0 2) (h_x g) _ _ b1).2.2 (h_x g) (Nat.lt_succ_self _)
    show h_n g1 (h_x g) = 0
    rw [q.2, n_nw, if_pos rfl]
theorem ro_w {ρ : Nat → Nat} {g : hS} {P : Nat → Nat} {L : List (Nat × Nat × Nat × Nat)} (X : FX L ρ g P) {i k l n : Nat} (hi : (i, k, l, n) ∈ L) : h_k g (P i) = k ∧ ρ (P i) = l ∧ h_n g (P i) = n ∧ P i < h_x g := X _ hi
theorem pS_e (s : Nat) : pS s 16 = s ∧ pS s 32 = s + 1 ∧ pS s 40 = s + 2 ∧ pS s 41 = s + 4 ∧ pS s 42 = s + 6 ∧ pS s 43 = s + 8 ∧ pS s 33 = s + 10 ∧ pS s 34 = s + 11 ∧ pS s 35 = s + 12 ∧ pS s 36 = s + 13 ∧ pS s 37 = s + 14 := ⟨rfl, rfl, rfl, rfl, rfl, rfl, rfl, rfl, rfl, rfl, rfl⟩

theorem stnew_is (N : Nat) (hN : 100 ≤ N) (ρ : Nat → Nat) (h : hS) {ls : Nat} (hls : 100 ≤ ls) : ∃ ρ' g, f_State_init N (nw h 8 0 8) (h_x h) = some ((), g) ∧ (∀ R, tr ρ h R ρ' g) ∧ SY ρ' g (pS (h_x h)) ls S00 (fun k => ls + 10 + k) ∧ hm g = hm h + 314 ∧ pSt g (h_x h) = 3452 := by
  obtain ⟨s, hs⟩ : ∃ s, s = h_x h := ⟨_, rfl⟩
  rw [← hs]
  obtain ⟨e16, e32, e40, e41, e42, e43, e33, e34, e35, e36, e37⟩ := pS_e s
  have n9 : ¬ rg ls 9 := fun z => by have : 9 = ls := z; omega
  have nl : ∀ c, ¬ rg ls (ls + 1 + c) := fun c z => by have : ls + 1 + c = ls := z; omega
  -- the object and the row of its chains
  have X0 : FX [(16, 8, ls, 0)] (ext ρ h ls) (nw h 8 0 8) (pS s) := FX.cons (L := []) (fun e he => by cases he) (by rw [e16, hs])
  have T0 : ∀ R, tr ρ h R (ext ρ h ls) (nw h 8 0 8) := fun R => tr_nw
  have x0 : h_x (nw h 8 0 8) = s + 1 := by rw [hs]; rfl
  have m0 : hm (nw h 8 0 8) = hm h + 21 := by show 13 * (h_x h + 1) + (h_s h + 8) = 13 * h_x h + h_s h + 21; omega
  generalize hg0 : nw h 8 0 8 = g0 at *
  generalize hr0 : ext ρ h ls = ρ0 at *
  have X1 : FX [(32, 62, ls, 4), (16, 8, ls, 0)] (ext ρ0 g0 ls) (nw g0 62 4 4) (pS s) := X0.cons (by rw [e32, x0])
  have T1 : ∀ R, tr ρ h R (ext ρ0 g0 ls) (nw g0 62 4 4) := fun R => (T0 R).trans tr_nw
  have x1 : h_x (nw g0 62 4 4) = s + 2 := by show h_x g0 + 1 = s + 2; omega
  have m1 : hm (nw g0 62 4 4) = hm g0 + 17 := by show 13 * (h_x g0 + 1) + (h_s g0 + 4) = 13 * h_x g0 + h_s g0 + 17; omega
  have f0 : f_State_init N g0 s = f_State_init_9 N (nw g0 62 4 4) s (some s) (some (s + 1)) := by
    unfold f_State_init
    rw [show (4 : Int32) = iI ((4 : Nat) : Int) from rfl, nwA_n (by omega), x0]
  generalize hg1 : nw g0 62 4 4 = g1 at *
  generalize hr1 : ext ρ0 g0 ls = ρ1 at *
  have q16 := X1 (16, 8, ls, 0) (by simp)
  simp only [] at q16
  rw [e16] at q16
  have R2 : RF [(16, 0, 32)] (s_r g1 s 0 (some (s + 1))) (pS s) := RF.cons (L := []) (i := 16) (k := 0) (j := 32) (g := g1) (P := pS s) (fun e he => by cases he) (fun e he => by cases he)
  have X2 : FX [(32, 62, ls, 4), (16, 8, ls, 0)] ρ1 (s_r g1 s 0 (some (s + 1))) (pS s) := X1.keep (R := rg ls) (tr_sr q16.2.1)
  have T2 : ∀ R, tr ρ h R ρ1 (s_r g1 s 0 (some (s + 1))) := fun R => (T1 R).nr (by omega)
  have f1 : f_State_init N g0 s = f_State_init_14 N N (s_r g1 s 0 (some (s + 1))) s (iI ((0 : Nat) : Int)) := by
    rw [f0]
    unfold f_State_init_9
    rw [pR_k (show h_k g1 s = 7 + 1 from q16.1)]
    rfl
  have x2 : h_x (s_r g1 s 0 (some (s + 1))) = s + 2 := x1
  have m2 : hm (s_r g1 s 0 (some (s + 1))) = hm g1 := rfl
  generalize hg2 : s_r g1 s 0 (some (s + 1)) = g2 at *
  obtain ⟨fu, hfu⟩ : ∃ fu, N = fu + 5 := ⟨N - 5, by omega⟩
  -- the chains
  have w16 := X2 (16, 8, ls, 0) (by simp)
  have w32 := X2 (32, 62, ls, 4) (by simp)
  simp only [] at w16 w32
  rw [e16] at w16
  rw [e32] at w32
  have r2 : h_r g2 s 0 = some (s + 1) := by have := R2 (16, 0, 32) (by simp); simp only [] at this; rw [e16, e32] at this; exact this
  obtain ⟨ρ3, g3, a1, a2, a3, a4, a5, a6, a7, a8, a9, a10, a11⟩ := stc_is N (n := fu + 4) (c := 0) (by omega) w16.1 r2 ⟨w32.1, w32.2.2.1, w32.2.1, w32.2.2.2⟩ w16.2.2.2 (by omega)
  have X3 := X2.keep a2
  have v16 := X3 (16, 8, ls, 0) (by simp)
  have v32 := X3 (32, 62, ls, 4) (by simp)
  simp only [] at v16 v32
  rw [e16] at v16
  rw [e32] at v32
  obtain ⟨ρ4, g4, b1, b2, b3, b4, b5, b6, b7, b8, b9, b10, b11⟩ := stc_is N (n := fu + 3) (c := 1) (by omega) v16.1 (by rw [a6 s (by omega) (by omega)]; exact r2) ⟨v32.1, v32.2.2.1, v32.2.1, v32.2.2.2⟩ v16.2.2.2 (by omega)
  have X4 := X3.keep b2
  have u16 := X4 (16, 8, ls, 0) (by simp)
  have u32 := X4 (32, 62, ls, 4) (by simp)
  simp only [] at u16 u32
  rw [e16] at u16
  rw [e32] at u32
  obtain ⟨ρ5, g5, c1, c2, c3, c4, c5, c6, c7, c8, c9, c10, c11⟩ := stc_is N (n := fu + 2) (c := 2) (by omega) u16.1 (by rw [b6 s (by omega) (by omega), a6 s (by omega) (by omega)]; exact r2) ⟨u32.1, u32.2.2.1, u32.2.1, u32.2.2.2⟩ u16.2.2.2 (by omega)
  have X5 := X4.keep c2
  have t16 := X5 (16, 8, ls, 0) (by simp)
  have t32 := X5 (32, 62, ls, 4) (by simp)
  simp only [] at t16 t32
  rw [e16] at t16
  rw [e32] at t32
  obtain ⟨ρ6, g6, d1, d2, d3, d4, d5, d6, d7, d8, d9, d10, d11⟩ := stc_is N (n := fu + 1) (c := 3) (by omega) t16.1 (by rw [c6 s (by omega) (by omega), b6 s (by omega) (by omega), a6 s (by omega) (by omega)]; exact r2) ⟨t32.1, t32.2.2.1, t32.2.1, t32.2.2.2⟩ t16.2.2.2 (by omega)
  have X6 := X5.keep d2
  have f2 : f_State_init N g0 s = f_State_init_14 N (fu + 1) g6 s (iI ((4 : Nat) : Int)) := by
    rw [f1]
    have : f_State_init_14 N N g2 s (iI ((0 : Nat) : Int)) = f_State_init_14 N (fu + 5) g2 s (iI ((0 : Nat) : Int)) := by rw [← hfu]
    rw [this, a1, b1, c1, d1]
  have x3 : h_x g3 = s + 4 := by omega
  have x4 : h_x g4 = s + 6 := by omega
  have x5 : h_x g5 = s + 8 := by omega
  have x6 : h_x g6 = s + 10 := by omega
  rw [x2] at a4 a5 a10 a11
  rw [x3] at b4 b5 b10 b11
  rw [x4] at c4 c5 c10 c11
  rw [x5] at d4 d5 d10 d11
  have T6 : ∀ R, tr ρ h R ρ6 g6 := fun R => d3 ρ h R (c3 ρ h R (b3 ρ h R (a3 ρ h R (T2 R) (by omega)) (by omega)) (by omega)) (by omega)
  have C0 : CH ρ6 (ls + 1 + 0) g6 (s + 2) 0 (fun _ => (0, 0, 0)) (fun _ _ => 0) := ((a4.keep b2 n9 (nl _)).keep c2 n9 (nl _)).keep d2 n9 (nl _)
  have C1 : CH ρ6 (ls + 1 + 1) g6 (s + 4) 0 (fun _ => (0, 0, 0)) (fun _ _ => 0) := (b4.keep c2 n9 (nl _)).keep d2 n9 (nl _)
  have C2 : CH ρ6 (ls + 1 + 2) g6 (s + 6) 0 (fun _ => (0, 0, 0)) (fun _ _ => 0) := c4.keep d2 n9 (nl _)
  have h0r : rch g6 (s + 2) = 53 ∧ rch g6 (s + 4) = 53 ∧ rch g6 (s + 6) = 53 ∧ rch g6 (s + 8) = 53 := ⟨by rw [rch_keep ((a4.keep b2 n9 (nl _)).keep c2 n9 (nl _)) d2 (nl _), rch_keep (a4.keep b2 n9 (nl _)) c2 (nl _), rch_keep a4 b2 (nl _)]; exact a10, by rw [rch_keep (b4.keep c2 n9 (nl _)) d2 (nl _), rch_keep b4 c2 (nl _)]; exact b10, by rw [rch_keep c4 d2 (nl _)]; exact c10, d10⟩
  have hn6 : h_n g6 (s + 2) = 0 ∧ h_n g6 (s + 4) = 0 ∧ h_n g6 (s + 6) = 0 ∧ h_n g6 (s + 8) = 0 := by
    have y1 := (d2.2 (s + 2) (by omega)).2.1
    have y2 := (c2.2 (s + 2) (by omega)).2.1
    have y3 := (b2.2 (s + 2) (by omega)).2.1
    have y4 := (d2.2 (s + 4) (by omega)).2.1
    have y5 := (c2.2 (s + 4) (by omega)).2.1
    have y6 := (d2.2 (s + 6) (by omega)).2.1
    exact ⟨by rw [y1, y2, y3]; exact a11, by rw [y4, y5]; exact b11, by rw [y6]; exact c11, d11⟩
  have rr : ∀ c, c < 4 → h_r g6 (s + 1) c = some (s + 2 + 2 * c) := fun c hc => by
    rw [d5, c5, b5, a5]
    unfold va_up
    rcases (show c = 0 ∨ c = 1 ∨ c = 2 ∨ c = 3 by omega) with e | e | e | e <;> subst e <;> simp
  have r6 : h_r g6 s 0 = some (s + 1) := by rw [d6 s (by omega) (by omega), c6 s (by omega) (by omega), b6 s (by omega) (by omega), a6 s (by omega) (by omega)]; exact r2
  have k0 : ∀ {l c : Nat}, CH ρ6 l g6 c 0 (fun _ => (0, 0, 0)) (fun _ _ => 0) → h_k g6 c = 3 ∧ ρ6 c = l ∧ c < h_x g6 := fun {l c} q => by obtain ⟨sa, q1, _⟩ := q; exact q1
  have R6 : RF [(16, 0, 32), (32, 0, 40), (32, 1, 41), (32, 2, 42), (32, 3, 43)] g6 (pS s) := fun e he => by
    simp only [List.mem_cons, List.not_mem_nil, or_false] at he
    rcases he with he | he | he | he | he <;> subst he
    · show h_r g6 s 0 = some (s + 1); exact r6
    · show h_r g6 (s + 1) 0 = some (s + 2); rw [rr 0 (by omega)]
    · show h_r g6 (s + 1) 1 = some (s + 4); rw [rr 1 (by omega)]
    · show h_r g6 (s + 1) 2 = some (s + 6); rw [rr 2 (by omega)]
    · show h_r g6 (s + 1) 3 = some (s + 8); rw [rr 3 (by omega)]
  have Y6 : FX [(43, 3, ls + 4, 0), (42, 3, ls + 3, 0), (41, 3, ls + 2, 0), (40, 3, ls + 1, 0), (32, 62, ls, 4), (16, 8, ls, 0)] ρ6 g6 (pS s) := fun e he => by
    simp only [List.mem_cons, List.not_mem_nil, or_false] at he
    rcases he with he | he | he | he | he | he <;> subst he
    · have := k0 d4; exact ⟨this.1, this.2.1, hn6.2.2.2, this.2.2⟩
    · have := k0 C2; exact ⟨this.1, this.2.1, hn6.2.2.1, this.2.2⟩
    · have := k0 C1; exact ⟨this.1, this.2.1, hn6.2.1, this.2.2⟩
    · have := k0 C0; exact ⟨this.1, this.2.1, hn6.1, this.2.2⟩
    · exact X6 _ (by simp)
    · exact X6 _ (by simp)
  have hm6 : hm g6 = hm h + 150 := by omega
  have CC : ∀ c, c < 4 → CH ρ6 (ls + 1 + c) g6 (pS s (40 + c)) 0 (fun _ => (0, 0, 0)) (fun _ _ => 0) ∧ rch g6 (pS s (40 + c)) = 53 := fun c hc => by
    rcases (show c = 0 ∨ c = 1 ∨ c = 2 ∨ c = 3 by omega) with e | e | e | e <;> subst e
    · exact ⟨C0, h0r.1⟩
    · exact ⟨C1, h0r.2.1⟩
    · exact ⟨C2, h0r.2.2.1⟩
    · exact ⟨d4, h0r.2.2.2⟩
  clear a1 b1 c1 d1 a2 a3 a4 a5 a6 a7 b2 b3 b4 b5 b6 b7 c2 c3 c4 c5 c6 c7 d2 d3 d4 d5 d6 d7 C0 C1 C2 X5 X4 X3 X2 T2 R2 rr r6 hn6 h0r k0 u16 u32 v16 v32 t16 t32 w16 w32
  -- the other rows
  have lt6 : ∀ e ∈ [(16, 0, 32), (32, 0, 40), (32, 1, 41), (32, 2, 42), (32, 3, 43)], pS s e.1 < h_x g6 := fun e he => by
    simp only [List.mem_cons, List.not_mem_nil, or_false] at he
    rcases he with he | he | he | he | he <;> subst he
    all_goals first | (show s < h_x g6; omega) | (show s + 1 < h_x g6; omega)
  have Y7 := Y6.cons (i := 33) (kd := 50) (l := ls) (n := 40) (ms := 40) (by rw [e33, x6])
  have R7 := R6.nw (kd := 50) (n := 40) (ms := 40) lt6
  have T7 : ∀ R, tr ρ h R (ext ρ6 g6 ls) (nw g6 50 40 40) := fun R => (T6 R).trans tr_nw
  have U7 : tr ρ6 g6 (rg ls) (ext ρ6 g6 ls) (nw g6 50 40 40) := tr_nw
  have x7 : h_x (nw g6 50 40 40) = s + 11 := by show h_x g6 + 1 = s + 11; omega
  have m7 : hm (nw g6 50 40 40) = hm g6 + 53 := by show 13 * (h_x g6 + 1) + (h_s g6 + 40) = 13 * h_x g6 + h_s g6 + 53; omega
  have f3 : f_State_init N g0 s = f_State_init_43 N (nw g6 50 40 40) s (some s) (some (s + 10)) := by
    rw [f2]
    unfold f_State_init_14
    rw [if_pos (show (4 : Int32) ≤ iI ((4 : Nat) : Int) by decide), show (40 : Int32) = iI ((40 : Nat) : Int) from rfl, nwA_n (by omega), x6]
  have k7 := Y7 (16, 8, ls, 0) (by simp)
  simp only [] at k7
  rw [e16] at k7
  generalize hg7 : nw g6 50 40 40 = g7 at *
  generalize hr7 : ext ρ6 g6 ls = ρ7 at *
  have R8 := R7.cons (i := 16) (k := 1) (j := 33) (fun e he => by
    simp only [List.mem_cons, List.not_mem_nil, or_false] at he
    rcases he with he | he | he | he | he <;> subst he
    · exact Or.inr (by decide)
    all_goals exact Or.inl (show s + 1 ≠ s by omega))
  rw [e16, e33] at R8
  have t8 : tr ρ7 g7 (rg ls) ρ7 (s_r g7 s 1 (some (s + 10))) := tr_sr k7.2.1
  have Y8 := Y7.keep t8
  have T8 : ∀ R, tr ρ h R ρ7 (s_r g7 s 1 (some (s + 10))) := fun R => (T7 R).nr (by omega)
  have x8 : h_x (s_r g7 s 1 (some (s + 10))) = s + 11 := x7
  have m8 : hm (s_r g7 s 1 (some (s + 10))) = hm g7 := rfl
  have f4 : f_State_init N g0 s = f_State_init_52 N (nw (s_r g7 s 1 (some (s + 10))) 62 40 40) s (some s) (some (s + 11)) := by
    rw [f3]
    unfold f_State_init_43
    rw [pR_k (show h_k g7 s = 7 + 1 from k7.1), show (40 : Int32) = iI ((40 : Nat) : Int) from rfl, nwA_n (by omega), x8]
  have U8 := U7.trans t8
  generalize hg8 : s_r g7 s 1 (some (s + 10)) = g8 at *
  have Y9 := Y8.cons (i := 34) (kd := 62) (l := ls) (n := 40) (ms := 40) (by rw [e34, x8])
  have R9 := R8.nw (kd := 62) (n := 40) (ms := 40) (fun e he => by
    simp only [List.mem_cons, List.not_mem_nil, or_false] at he
    rcases he with he | he | he | he | he | he <;> subst he
    all_goals first | (show s < h_x g8; omega) | (show s + 1 < h_x g8; omega))
  have T9 : ∀ R, tr ρ h R (ext ρ7 g8 ls) (nw g8 62 40 40) := fun R => (T8 R).trans tr_nw
  have U9 : tr ρ6 g6 (rg ls) (ext ρ7 g8 ls) (nw g8 62 40 40) := U8.trans tr_nw
  have x9 : h_x (nw g8 62 40 40) = s + 12 := by show h_x g8 + 1 = s + 12; omega
  have m9 : hm (nw g8 62 40 40) = hm g8 + 53 := by show 13 * (h_x g8 + 1) + (h_s g8 + 40) = 13 * h_x g8 + h_s g8 + 53; omega
  have z9 : ∀ k, h_r (nw g8 62 40 40) (s + 11) k = none := fun k => by rw [r_nw, if_pos x8.symm]
  have k9 := Y9 (16, 8, ls, 0) (by simp)
  simp only [] at k9
  rw [e16] at k9
  generalize hg9 : nw g8 62 40 40 = g9 at *
  generalize hr9 : ext ρ7 g8 ls = ρ9 at *
  have R10 := R9.cons (i := 16) (k := 2) (j := 34) (fun e he => by
    simp only [List.mem_cons, List.not_mem_nil, or_false] at he
    rcases he with he | he | he | he | he | he <;> subst he
    · exact Or.inr (by decide)
    · exact Or.inr (by decide)
    all_goals exact Or.inl (show s + 1 ≠ s by omega))
  rw [e16, e34] at R10
  have t10 : tr ρ9 g9 (rg ls) ρ9 (s_i (s_r g9 s 2 (some (s + 11))) s 3 0) := (tr_sr k9.2.1).trans (tr_si k9.2.1)
  have Y10 := Y9.keep t10
  have R10' : RF [(16, 2, 34), (16, 1, 33), (16, 0, 32), (32, 0, 40), (32, 1, 41), (32, 2, 42), (32, 3, 43)] (s_i (s_r g9 s 2 (some (s + 11))) s 3 0) (pS s) := fun e he => R10 e he
  have T10 : ∀ R, tr ρ h R ρ9 (s_i (s_r g9 s 2 (some (s + 11))) s 3 0) := fun R => ((T9 R).nr (by omega)).ni (by omega)
  have U10 := U9.trans t10
  have x10 : h_x (s_i (s_r g9 s 2 (some (s + 11))) s 3 0) = s + 12 := x9
  have m10 : hm (s_i (s_r g9 s 2 (some (s + 11))) s 3 0) = hm g9 := rfl
  have z10 : ∀ k, h_r (s_i (s_r g9 s 2 (some (s + 11))) s 3 0) (s + 11) k = none := fun k => by rw [h_r_si, h_r_sr, if_neg (by omega)]; exact z9 k
  have i10 : h_i (s_i (s_r g9 s 2 (some (s + 11))) s 3 0) s 3 = 0 := by rw [h_i_si, if_pos rfl]; rfl
  have f5 : f_State_init N g0 s = f_State_init_65 N (nw (s_i (s_r g9 s 2 (some (s + 11))) s 3 0) 50 8 8) s (some s) (some (s + 12)) := by
    rw [f4]
    unfold f_State_init_52
    rw [pR_k (show h_k g9 s = 7 + 1 from k9.1), pI_k (show h_k (s_r g9 s 2 (some (s + 11))) s = 7 + 1 from k9.1), show (8 : Int32) = iI ((8 : Nat) : Int) from rfl, nwA_n (by omega), x10]
  generalize hg10 : s_i (s_r g9 s 2 (some (s + 11))) s 3 0 = g10 at *
  have Y11 := Y10.cons (i := 35) (kd := 50) (l := ls) (n := 8) (ms := 8) (by rw [e35, x10])
  have R11 := R10'.nw (kd := 50) (n := 8) (ms := 8) (fun e he => by
    simp only [List.mem_cons, List.not_mem_nil, or_false] at he
    rcases he with he | he | he | he | he | he | he <;> subst he
    all_goals first | (show s < h_x g10; omega) | (show s + 1 < h_x g10; omega))
  have T11 : ∀ R, tr ρ h R (ext ρ9 g10 ls) (nw g10 50 8 8) := fun R => (T10 R).trans tr_nw
  have U11 : tr ρ6 g6 (rg ls) (ext ρ9 g10 ls) (nw g10 50 8 8) := U10.trans tr_nw
  have x11 : h_x (nw g10 50 8 8) = s + 13 := by show h_x g10 + 1 = s + 13; omega
  have m11 : hm (nw g10 50 8 8) = hm g10 + 21 := by show 13 * (h_x g10 + 1) + (h_s g10 + 8) = 13 * h_x g10 + h_s g10 + 21; omega
  have z11 : ∀ k, h_r (nw g10 50 8 8) (s + 11) k = none := fun k => by rw [r_nw, if_neg (by omega)]; exact z10 k
  have i11 : h_i (nw g10 50 8 8) s 3 = 0 := by rw [i_nw, if_neg (by omega)]; exact i10
  have k11 := Y11 (16, 8, ls, 0) (by simp)
  simp only [] at k11
  rw [e16] at k11
  generalize hg11 : nw g10 50 8 8 = g11 at *
  generalize hr11 : ext ρ9 g10 ls = ρ11 at *
  have R12 := R11.cons (i := 16) (k := 4) (j := 35) (fun e he => by
    simp only [List.mem_cons, List.not_mem_nil, or_false] at he
    rcases he with he | he | he | he | he | he | he <;> subst he
    · exact Or.inr (by decide)
    · exact Or.inr (by decide)
    · exact Or.inr (by decide)
    all_goals exact Or.inl (show s + 1 ≠ s by omega))
  rw [e16, e35] at R12
  have t12 : tr ρ11 g11 (rg ls) ρ11 (s_r g11 s 4 (some (s + 12))) := tr_sr k11.2.1
  have Y12 := Y11.keep t12
  have T12 : ∀ R, tr ρ h R ρ11 (s_r g11 s 4 (some (s + 12))) := fun R => (T11 R).nr (by omega)
  have U12 := U11.trans t12
  have x12 : h_x (s_r g11 s 4 (some (s + 12))) = s + 13 := x11
  have m12 : hm (s_r g11 s 4 (some (s + 12))) = hm g11 := rfl
  have z12 : ∀ k, h_r (s_r g11 s 4 (some (s + 12))) (s + 11) k = none := fun k => by rw [h_r_sr, if_neg (by omega)]; exact z11 k
  have i12 : h_i (s_r g11 s 4 (some (s + 12))) s 3 = 0 := i11
  have f6 : f_State_init N g0 s = f_State_init_73 N (nw (s_r g11 s 4 (some (s + 12))) 51 8 8) s (some s) (some (s + 13)) := by
    rw [f5]
    unfold f_State_init_65
    rw [pR_k (show h_k g11 s = 7 + 1 from k11.1), show (8 : Int32) = iI ((8 : Nat) : Int) from rfl, nwA_n (by omega), x12]
  generalize hg12 : s_r g11 s 4 (some (s + 12)) = g12 at *
  have Y13 := Y12.cons (i := 36) (kd := 51) (l := ls) (n := 8) (ms := 8) (by rw [e36, x12])
  have R13 := R12.nw (kd := 51) (n := 8) (ms := 8) (fun e he => by
    simp only [List.mem_cons, List.not_mem_nil, or_false] at he
    rcases he with he | he | he | he | he | he | he | he <;> subst he
    all_goals first | (show s < h_x g12; omega) | (show s + 1 < h_x g12; omega))
  have T13 : ∀ R, tr ρ h R (ext ρ11 g12 ls) (nw g12 51 8 8) := fun R => (T12 R).trans tr_nw
  have U13 : tr ρ6 g6 (rg ls) (ext ρ11 g12 ls) (nw g12 51 8 8) := U12.trans tr_nw
  have x13 : h_x (nw g12 51 8 8) = s + 14 := by show h_x g12 + 1 = s + 14; omega
  have m13 : hm (nw g12 51 8 8) = hm g12 + 21 := by show 13 * (h_x g12 + 1) + (h_s g12 + 8) = 13 * h_x g12 + h_s g12 + 21; omega
  have z13 : ∀ k, h_r (nw g12 51 8 8) (s + 11) k = none := fun k => by rw [r_nw, if_neg (by omega)]; exact z12 k
  have i13 : h_i (nw g12 51 8 8) s 3 = 0 := by rw [i_nw, if_neg (by omega)]; exact i12
  have k13 := Y13 (16, 8, ls, 0) (by simp)
  simp only [] at k13
  rw [e16] at k13
  generalize hg13 : nw g12 51 8 8 = g13 at *
  generalize hr13 : ext ρ11 g12 ls = ρ13 at *
  have R14 := R13.cons (i := 16) (k := 5) (j := 36) (fun e he => by
    simp only [List.mem_cons, List.not_mem_nil, or_false] at he
    rcases he with he | he | he | he | he | he | he | he <;> subst he
    · exact Or.inr (by decide)
    · exact Or.inr (by decide)
    · exact Or.inr (by decide)
    · exact Or.inr (by decide)
    all_goals exact Or.inl (show s + 1 ≠ s by omega))
  rw [e16, e36] at R14
  have t14 : tr ρ13 g13 (rg ls) ρ13 (s_i (s_r g13 s 5 (some (s + 13))) s 6 0) := (tr_sr k13.2.1).trans (tr_si k13.2.1)
  have Y14 := Y13.keep t14
  have R14' : RF [(16, 5, 36), (16, 4, 35), (16, 2, 34), (16, 1, 33), (16, 0, 32), (32, 0, 40), (32, 1, 41), (32, 2, 42), (32, 3, 43)] (s_i (s_r g13 s 5 (some (s + 13))) s 6 0) (pS s) := fun e he => R14 e he
  have T14 : ∀ R, tr ρ h R ρ13 (s_i (s_r g13 s 5 (some (s + 13))) s 6 0) := fun R => ((T13 R).nr (by omega)).ni (by omega)
  have U14 := U13.trans t14
  have x14 : h_x (s_i (s_r g13 s 5 (some (s + 13))) s 6 0) = s + 14 := x13
  have m14 : hm (s_i (s_r g13 s 5 (some (s + 13))) s 6 0) = hm g13 := rfl
  have z14 : ∀ k, h_r (s_i (s_r g13 s 5 (some (s + 13))) s 6 0) (s + 11) k = none := fun k => by rw [h_r_si, h_r_sr, if_neg (by omega)]; exact z13 k
  have i14 : h_i (s_i (s_r g13 s 5 (some (s + 13))) s 6 0) s 3 = 0 ∧ h_i (s_i (s_r g13 s 5 (some (s + 13))) s 6 0) s 6 = 0 := by
    rw [h_i_si, if_pos rfl]
    exact ⟨i13, rfl⟩
  have f7 : f_State_init N g0 s = f_State_init_85 N (nw (s_i (s_r g13 s 5 (some (s + 13))) s 6 0) 50 3 3) (some s) (some (s + 14)) := by
    rw [f6]
    unfold f_State_init_73
    rw [pR_k (show h_k g13 s = 7 + 1 from k13.1), pI_k (show h_k (s_r g13 s 5 (some (s + 13))) s = 7 + 1 from k13.1), show (3 : Int32) = iI ((3 : Nat) : Int) from rfl, nwA_n (by omega), x14]
  generalize hg14 : s_i (s_r g13 s 5 (some (s + 13))) s 6 0 = g14 at *
  have Y15 := Y14.cons (i := 37) (kd := 50) (l := ls) (n := 3) (ms := 3) (by rw [e37, x14])
  have R15 := R14'.nw (kd := 50) (n := 3) (ms := 3) (fun e he => by
    simp only [List.mem_cons, List.not_mem_nil, or_false] at he
    rcases he with he | he | he | he | he | he | he | he | he <;> subst he
    all_goals first | (show s < h_x g14; omega) | (show s + 1 < h_x g14; omega))
  have T15 : ∀ R, tr ρ h R (ext ρ13 g14 ls) (nw g14 50 3 3) := fun R => (T14 R).trans tr_nw
  have U15 : tr ρ6 g6 (rg ls) (ext ρ13 g14 ls) (nw g14 50 3 3) := U14.trans tr_nw
  have m15 : hm (nw g14 50 3 3) = hm g14 + 16 := by show 13 * (h_x g14 + 1) + (h_s g14 + 3) = 13 * h_x g14 + h_s g14 + 16; omega
  have z15 : ∀ k, h_r (nw g14 50 3 3) (s + 11) k = none := fun k => by rw [r_nw, if_neg (by omega)]; exact z14 k
  have i15 : h_i (nw g14 50 3 3) s 3 = 0 ∧ h_i (nw g14 50 3 3) s 6 = 0 := by rw [i_nw, if_neg (by omega)]; exact i14
  have j15 : ∀ k, h_i (nw g14 50 3 3) (s + 14) k = 0 := fun k => by rw [i_nw, if_pos x14.symm]
  have k15 := Y15 (16, 8, ls, 0) (by simp)
  simp only [] at k15
  rw [e16] at k15
  generalize hg15 : nw g14 50 3 3 = g15 at *
  generalize hr15 : ext ρ13 g14 ls = ρ15 at *
  have R16 := R15.cons (i := 16) (k := 7) (j := 37) (fun e he => by
    simp only [List.mem_cons, List.not_mem_nil, or_false] at he
    rcases he with he | he | he | he | he | he | he | he | he <;> subst he
    · exact Or.inr (by decide)
    · exact Or.inr (by decide)
    · exact Or.inr (by decide)
    · exact Or.inr (by decide)
    · exact Or.inr (by decide)
    all_goals exact Or.inl (show s + 1 ≠ s by omega))
  rw [e16, e37] at R16
  have t16 : tr ρ15 g15 (rg ls) ρ15 (s_r g15 s 7 (some (s + 14))) := tr_sr k15.2.1
  have Y16 := Y15.keep t16
  have U16 := U15.trans t16
  have CF : ∀ c, c < 4 → CH ρ15 (ls + 1 + c) (s_r g15 s 7 (some (s + 14))) (pS s (40 + c)) 0 (fun _ => (0, 0, 0)) (fun _ _ => 0) ∧ rch (s_r g15 s 7 (some (s + 14))) (pS s (40 + c)) = 53 := fun c hc => ⟨(CC c hc).1.keep U16 n9 (nl c), by rw [rch_keep (CC c hc).1 U16 (nl c)]; exact (CC c hc).2⟩
  have z16 : ∀ k, h_r (s_r g15 s 7 (some (s + 14))) (s + 11) k = none := fun k => by rw [h_r_sr, if_neg (by omega)]; exact z15 k
  have SYF : SY ρ15 (s_r g15 s 7 (some (s + 14))) (pS s) ls S00 (fun k => ls + 10 + k) := by
    refine ⟨⟨fun e he => Y16 e ?_, fun e he => R16 e ?_, ?_⟩, ⟨?_, ?_⟩, fun c hc => (CF c hc).1, ⟨fun j k _ _ e => by simp only [] at e; omega, fun j hj => by simp only []; omega, fun k hk => Or.inl ⟨by rw [e34]; exact z16 k, Nat.zero_le _⟩⟩, fun k hk => absurd hk (Nat.not_lt_zero _), fun k hk => absurd hk (Nat.not_lt_zero _), fun k hk => ?_⟩
    · simp only [fixS, List.mem_cons, List.not_mem_nil, or_false] at he
      rcases he with he | he | he | he | he | he | he | he | he | he | he <;> subst he <;> simp
    · simp only [refS, List.mem_cons, List.not_mem_nil, or_false] at he
      rcases he with he | he | he | he | he | he | he | he | he | he <;> subst he <;> simp
    · rw [e33, e35, e37, e32, e34]; omega
    · rw [e16]; exact i15.1
    · rw [e16]; exact i15.2
    · rw [e37]; exact j15 k
  refine ⟨ρ15, s_r g15 s 7 (some (s + 14)), ?_, fun R => (T15 R).nr (by omega), SYF, ?_, ?_⟩
  · rw [f7]
    unfold f_State_init_85
    rw [pR_k (show h_k g15 s = 7 + 1 from k15.1)]
  · show hm g15 = hm h + 314
    omega
  · have := SYF.pst
    rw [e16] at this
    rw [this, sumN_congr 4 (g := fun _ => 53) (fun c hc => (CF c hc).2), sumN_congr 40 (g := fun _ => 81) (fun k hk => by rw [e34, z16 k]; rfl)]
    rfl
