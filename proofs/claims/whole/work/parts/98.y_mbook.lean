/-! THE REFERENCE'S CONSTRUCTOR as a book of new cells (written by wip/gen/genM.py) -/
section
variable {ρ0 ρ : Nat → Nat} {h0 g : hS} {X ex er : Nat} {W : Nat → Option Nat} {L : List (Nat × Nat × Nat × Nat)} {Rf : List (Nat × Nat × Nat)} {I : Nat → Int32} {M : Nat} {Φ : (Nat → Nat) → hS → Prop}
theorem BK.old (B : BK ρ0 h0 X ex er W L Rf I M ρ g) {a : Nat} (ha : a < h_x h0) : h_r g a = h_r h0 a := (((B.2.2.2.2.2.2 (fun _ => False)).2 a ha).2.2.2 (fun z => z)).2.2
theorem BK.oldk (B : BK ρ0 h0 X ex er W L Rf I M ρ g) {a : Nat} (ha : a < h_x h0) : h_k g a = h_k h0 a := ((B.2.2.2.2.2.2 (fun _ => False)).2 a ha).1
theorem BK.S (B : BK ρ0 h0 X ex er W L Rf I M ρ g) (k kd l n : Nat) {a : Nat} {v : Int32} {o o' : Option Nat} (ha : a = X + er) (hv : v = iI k) (ho : o = o') (hw : ∃ b, o' = some b ∧ h_k h0 b = 57 ∧ b < h_x h0) (hi : (er, kd, l, n) ∈ L) (h61 : kd = 61) (hkn : k < n ∧ n < 2 ^ 31) (hL : ∀ e ∈ Rf, e.1 ≠ er) {f : hS → Option (Unit × hS)} (kk : ∀ g', BK ρ0 h0 X ex er (va_up W k o') L Rf I M ρ g' → PB Φ (f g')) : PB Φ (uS g (some a) v o f) := by
  subst ha hv ho h61
  obtain ⟨b, b1, b2, b3⟩ := hw
  subst b1
  obtain ⟨k1, k2, k3⟩ := B.k hi
  have kb : h_k g b = 57 := (B.oldk b3).trans b2
  have hin : inb (iI k) (h_n g (X + er)) := by rw [k2, ← nI_iI]; exact nI_in hkn.1 (by omega)
  have e : uS g (some (X + er)) (iI k) (some b) f = f (s_r g (X + er) k (some b)) := by
    show (if h_k g (X + er) = 61 ∧ inb (iI k) (h_n g (X + er)) ∧ h_k g b = 57 then f (s_r g (X + er) (iI k).toNatClampNeg (some b)) else none) = _
    rw [if_pos ⟨k1, hin, kb⟩, ← nI_iI, nI_clamp (by omega)]
  rw [e]
  exact kk _ (B.refx k (some b) k3 hL)
end
def LMc : List (Nat × Nat × Nat × Nat) := [(29, 51, 300, 8), (28, 50, 300, 3), (27, 50, 300, 8), (26, 50, 300, 25760), (25, 50, 300, 644), (24, 51, 300, 1681), (23, 53, 300, 41), (22, 51, 300, 8), (21, 50, 300, 8), (20, 50, 300, 25760), (19, 51, 300, 2001), (18, 51, 300, 2001), (17, 51, 300, 10001), (16, 51, 300, 10001), (15, 50, 300, 41), (14, 50, 300, 40), (13, 50, 300, 644), (12, 50, 300, 600), (11, 50, 300, 4), (10, 50, 300, 40), (9, 50, 300, 40), (8, 53, 300, 1000), (7, 60, 300, 1000), (6, 50, 300, 10003), (5, 50, 300, 10003), (4, 50, 300, 10003), (3, 50, 300, 3), (2, 50, 300, 644), (1, 61, 300, 9), (0, 1, 300, 0)]
def RMc : List (Nat × Nat × Nat) := [(0, 56, 29), (0, 55, 28), (0, 54, 27), (0, 53, 26), (0, 52, 25), (0, 47, 24), (0, 46, 23), (0, 45, 22), (0, 44, 21), (0, 42, 20), (0, 37, 19), (0, 36, 18), (0, 34, 17), (0, 31, 16), (0, 30, 15), (0, 19, 14), (0, 18, 13), (0, 17, 12), (0, 16, 11), (0, 11, 10), (0, 10, 9), (0, 8, 8), (0, 7, 7), (0, 6, 6), (0, 5, 5), (0, 4, 4), (0, 3, 3), (0, 2, 2), (0, 0, 1)]
def aM (X : Nat) : Nat → Nat := fun i => if i = 0 then X + 1 else if i = 2 then X + 2 else if i = 3 then X + 3 else if i = 4 then X + 4 else if i = 5 then X + 5 else if i = 6 then X + 6 else if i = 7 then X + 7 else if i = 8 then X + 8 else if i = 10 then X + 9 else if i = 11 then X + 10 else if i = 16 then X + 11 else if i = 17 then X + 12 else if i = 18 then X + 13 else if i = 19 then X + 14 else if i = 30 then X + 15 else if i = 31 then X + 16 else if i = 34 then X + 17 else if i = 36 then X + 18 else if i = 37 then X + 19 else if i = 42 then X + 20 else if i = 44 then X + 21 else if i = 45 then X + 22 else if i = 46 then X + 23 else if i = 47 then X + 24 else if i = 52 then X + 25 else if i = 53 then X + 26 else if i = 54 then X + 27 else if i = 55 then X + 28 else if i = 56 then X + 29 else X
set_option maxRecDepth 20000 in
set_option maxHeartbeats 4000000 in
theorem minit_book (N : Nat) (ρ0 : Nat → Nat) (h0 : hS) (hx0 : 0 < h_x h0) (ws : ∀ k, k < 9 → ∃ b, h_r h0 0 (18 + k) = some b ∧ h_k h0 b = 57 ∧ b < h_x h0) : PB (fun ρ g => BK ρ0 h0 (h_x h0) 1 1 (va_up (va_up (va_up (va_up (va_up (va_up (va_up (va_up (va_up (fun _ => none) 0 (h_r h0 0 18)) 1 (h_r h0 0 19)) 2 (h_r h0 0 20)) 3 (h_r h0 0 21)) 4 (h_r h0 0 22)) 5 (h_r h0 0 23)) 6 (h_r h0 0 24)) 7 (h_r h0 0 25)) 8 (h_r h0 0 26)) LMc RMc (upd (upd (upd (fun _ => 0) 13 (-1)) 14 (-1)) 29 (-1)) (hm h0 + 112446) ρ g) (f_M_init N (nw h0 1 0 57) (h_x h0)) := by
  have B0 := BK.beg ρ0 h0 1 1 1 300 57 (fun _ => none) (by decide)
  unfold f_M_init
  refine B0.A 61 300 9 1 rfl (fun _ => rfl) (by omega) (by rfl) (fun ρ1 g1 B1 => ?_)
  unfold f_M_init_10
  rw [bn_i]
  refine B1.S 0 61 300 9 rfl (by rfl) (by rw [B1.old hx0]) (ws 0 (by decide)) (by decide) rfl (by decide) (by decide) (fun g2 B2 => ?_)
  rw [bn_i]
  refine B2.S 1 61 300 9 rfl (by rfl) (by rw [B2.old hx0]) (ws 1 (by decide)) (by decide) rfl (by decide) (by decide) (fun g3 B3 => ?_)
  rw [bn_i]
  refine B3.S 2 61 300 9 rfl (by rfl) (by rw [B3.old hx0]) (ws 2 (by decide)) (by decide) rfl (by decide) (by decide) (fun g4 B4 => ?_)
  rw [bn_i]
  refine B4.S 3 61 300 9 rfl (by rfl) (by rw [B4.old hx0]) (ws 3 (by decide)) (by decide) rfl (by decide) (by decide) (fun g5 B5 => ?_)
  rw [bn_i]
  refine B5.S 4 61 300 9 rfl (by rfl) (by rw [B5.old hx0]) (ws 4 (by decide)) (by decide) rfl (by decide) (by decide) (fun g6 B6 => ?_)
  rw [bn_i]
  refine B6.S 5 61 300 9 rfl (by rfl) (by rw [B6.old hx0]) (ws 5 (by decide)) (by decide) rfl (by decide) (by decide) (fun g7 B7 => ?_)
  rw [bn_i]
  refine B7.S 6 61 300 9 rfl (by rfl) (by rw [B7.old hx0]) (ws 6 (by decide)) (by decide) rfl (by decide) (by decide) (fun g8 B8 => ?_)
  rw [bn_i]
  refine B8.S 7 61 300 9 rfl (by rfl) (by rw [B8.old hx0]) (ws 7 (by decide)) (by decide) rfl (by decide) (by decide) (fun g9 B9 => ?_)
  rw [bn_i]
  refine B9.S 8 61 300 9 rfl (by rfl) (by rw [B9.old hx0]) (ws 8 (by decide)) (by decide) rfl (by decide) (by decide) (fun g10 B10 => ?_)
  refine B10.R 0 0 1 1 300 0 rfl rfl (by decide) (by decide) rfl (by decide) (fun g11 B11 => ?_)
  refine B11.A 50 300 644 2 rfl (fun z => absurd z (by decide)) (by omega) (by rfl) (fun ρ12 g12 B12 => ?_)
  unfold f_M_init_67
  refine B12.R 0 2 2 1 300 0 rfl rfl (by decide) (by decide) rfl (by decide) (fun g13 B13 => ?_)
  refine B13.A 50 300 3 3 rfl (fun z => absurd z (by decide)) (by omega) (by rfl) (fun ρ14 g14 B14 => ?_)
  unfold f_M_init_74
  refine B14.R 0 3 3 1 300 0 rfl rfl (by decide) (by decide) rfl (by decide) (fun g15 B15 => ?_)
  refine B15.A 50 300 10003 4 rfl (fun z => absurd z (by decide)) (by omega) (by rfl) (fun ρ16 g16 B16 => ?_)
  unfold f_M_init_83
  refine B16.R 0 4 4 1 300 0 rfl rfl (by decide) (by decide) rfl (by decide) (fun g17 B17 => ?_)
  refine B17.A 50 300 10003 5 rfl (fun z => absurd z (by decide)) (by omega) (by rfl) (fun ρ18 g18 B18 => ?_)
  unfold f_M_init_92
  refine B18.R 0 5 5 1 300 0 rfl rfl (by decide) (by decide) rfl (by decide) (fun g19 B19 => ?_)
  refine B19.A 50 300 10003 6 rfl (fun z => absurd z (by decide)) (by omega) (by rfl) (fun ρ20 g20 B20 => ?_)
  unfold f_M_init_101
  refine B20.R 0 6 6 1 300 0 rfl rfl (by decide) (by decide) rfl (by decide) (fun g21 B21 => ?_)
  refine B21.A 60 300 1000 7 rfl (fun z => absurd z (by decide)) (by omega) (by rfl) (fun ρ22 g22 B22 => ?_)
  unfold f_M_init_111
  refine B22.R 0 7 7 1 300 0 rfl rfl (by decide) (by decide) rfl (by decide) (fun g23 B23 => ?_)
  refine B23.A 53 300 1000 8 rfl (fun z => absurd z (by decide)) (by omega) (by rfl) (fun ρ24 g24 B24 => ?_)
  unfold f_M_init_120
  refine B24.R 0 8 8 1 300 0 rfl rfl (by decide) (by decide) rfl (by decide) (fun g25 B25 => ?_)
  refine B25.A 50 300 40 9 rfl (fun z => absurd z (by decide)) (by omega) (by rfl) (fun ρ26 g26 B26 => ?_)
  unfold f_M_init_128
  refine B26.R 0 10 9 1 300 0 rfl rfl (by decide) (by decide) rfl (by decide) (fun g27 B27 => ?_)
  refine B27.A 50 300 40 10 rfl (fun z => absurd z (by decide)) (by omega) (by rfl) (fun ρ28 g28 B28 => ?_)
  unfold f_M_init_136
  refine B28.R 0 11 10 1 300 0 rfl rfl (by decide) (by decide) rfl (by decide) (fun g29 B29 => ?_)
  refine B29.V 13 1 300 0 _ (by decide) rfl (fun g30 B30 => ?_)
  refine B30.V 14 1 300 0 _ (by decide) rfl (fun g31 B31 => ?_)
  refine B31.A 50 300 4 11 rfl (fun z => absurd z (by decide)) (by omega) (by rfl) (fun ρ32 g32 B32 => ?_)
  unfold f_M_init_153
  refine B32.R 0 16 11 1 300 0 rfl rfl (by decide) (by decide) rfl (by decide) (fun g33 B33 => ?_)
  refine B33.A 50 300 600 12 rfl (fun z => absurd z (by decide)) (by omega) (by rfl) (fun ρ34 g34 B34 => ?_)
  unfold f_M_init_162
  refine B34.R 0 17 12 1 300 0 rfl rfl (by decide) (by decide) rfl (by decide) (fun g35 B35 => ?_)
  refine B35.A 50 300 644 13 rfl (fun z => absurd z (by decide)) (by omega) (by rfl) (fun ρ36 g36 B36 => ?_)
  unfold f_M_init_171
  refine B36.R 0 18 13 1 300 0 rfl rfl (by decide) (by decide) rfl (by decide) (fun g37 B37 => ?_)
  refine B37.A 50 300 40 14 rfl (fun z => absurd z (by decide)) (by omega) (by rfl) (fun ρ38 g38 B38 => ?_)
  unfold f_M_init_179
  refine B38.R 0 19 14 1 300 0 rfl rfl (by decide) (by decide) rfl (by decide) (fun g39 B39 => ?_)
  refine B39.V 29 1 300 0 _ (by decide) rfl (fun g40 B40 => ?_)
  refine B40.A 50 300 41 15 rfl (fun z => absurd z (by decide)) (by omega) (by rfl) (fun ρ41 g41 B41 => ?_)
  unfold f_M_init_192
  refine B41.R 0 30 15 1 300 0 rfl rfl (by decide) (by decide) rfl (by decide) (fun g42 B42 => ?_)
  refine B42.A 51 300 10001 16 rfl (fun z => absurd z (by decide)) (by omega) (by rfl) (fun ρ43 g43 B43 => ?_)
  unfold f_M_init_201
  refine B43.R 0 31 16 1 300 0 rfl rfl (by decide) (by decide) rfl (by decide) (fun g44 B44 => ?_)
  refine B44.A 51 300 10001 17 rfl (fun z => absurd z (by decide)) (by omega) (by rfl) (fun ρ45 g45 B45 => ?_)
  unfold f_M_init_210
  refine B45.R 0 34 17 1 300 0 rfl rfl (by decide) (by decide) rfl (by decide) (fun g46 B46 => ?_)
  refine B46.A 51 300 2001 18 rfl (fun z => absurd z (by decide)) (by omega) (by rfl) (fun ρ47 g47 B47 => ?_)
  unfold f_M_init_219
  refine B47.R 0 36 18 1 300 0 rfl rfl (by decide) (by decide) rfl (by decide) (fun g48 B48 => ?_)
  refine B48.A 51 300 2001 19 rfl (fun z => absurd z (by decide)) (by omega) (by rfl) (fun ρ49 g49 B49 => ?_)
  unfold f_M_init_228
  refine B49.R 0 37 19 1 300 0 rfl rfl (by decide) (by decide) rfl (by decide) (fun g50 B50 => ?_)
  refine B50.A 50 300 25760 20 rfl (fun z => absurd z (by decide)) (by omega) (by rfl) (fun ρ51 g51 B51 => ?_)
  unfold f_M_init_237
  refine B51.R 0 42 20 1 300 0 rfl rfl (by decide) (by decide) rfl (by decide) (fun g52 B52 => ?_)
  refine B52.A 50 300 8 21 rfl (fun z => absurd z (by decide)) (by omega) (by rfl) (fun ρ53 g53 B53 => ?_)
  unfold f_M_init_245
  refine B53.R 0 44 21 1 300 0 rfl rfl (by decide) (by decide) rfl (by decide) (fun g54 B54 => ?_)
  refine B54.A 51 300 8 22 rfl (fun z => absurd z (by decide)) (by omega) (by rfl) (fun ρ55 g55 B55 => ?_)
  unfold f_M_init_253
  refine B55.R 0 45 22 1 300 0 rfl rfl (by decide) (by decide) rfl (by decide) (fun g56 B56 => ?_)
  refine B56.A 53 300 41 23 rfl (fun z => absurd z (by decide)) (by omega) (by rfl) (fun ρ57 g57 B57 => ?_)
  unfold f_M_init_261
  refine B57.R 0 46 23 1 300 0 rfl rfl (by decide) (by decide) rfl (by decide) (fun g58 B58 => ?_)
  refine B58.A 51 300 1681 24 rfl (fun z => absurd z (by decide)) (by omega) (by rfl) (fun ρ59 g59 B59 => ?_)
  unfold f_M_init_270
  refine B59.R 0 47 24 1 300 0 rfl rfl (by decide) (by decide) rfl (by decide) (fun g60 B60 => ?_)
  refine B60.A 50 300 644 25 rfl (fun z => absurd z (by decide)) (by omega) (by rfl) (fun ρ61 g61 B61 => ?_)
  unfold f_M_init_279
  refine B61.R 0 52 25 1 300 0 rfl rfl (by decide) (by decide) rfl (by decide) (fun g62 B62 => ?_)
  refine B62.A 50 300 25760 26 rfl (fun z => absurd z (by decide)) (by omega) (by rfl) (fun ρ63 g63 B63 => ?_)
  unfold f_M_init_288
  refine B63.R 0 53 26 1 300 0 rfl rfl (by decide) (by decide) rfl (by decide) (fun g64 B64 => ?_)
  refine B64.A 50 300 8 27 rfl (fun z => absurd z (by decide)) (by omega) (by rfl) (fun ρ65 g65 B65 => ?_)
  unfold f_M_init_296
  refine B65.R 0 54 27 1 300 0 rfl rfl (by decide) (by decide) rfl (by decide) (fun g66 B66 => ?_)
  refine B66.A 50 300 3 28 rfl (fun z => absurd z (by decide)) (by omega) (by rfl) (fun ρ67 g67 B67 => ?_)
  unfold f_M_init_303
  refine B67.R 0 55 28 1 300 0 rfl rfl (by decide) (by decide) rfl (by decide) (fun g68 B68 => ?_)
  refine B68.A 51 300 8 29 rfl (fun z => absurd z (by decide)) (by omega) (by rfl) (fun ρ69 g69 B69 => ?_)
  unfold f_M_init_311
  refine B69.R 0 56 29 1 300 0 rfl rfl (by decide) (by decide) rfl (by decide) (fun g70 B70 => ?_)
  have e := B70
  rw [show ((((((((((((((((((((((((((((((hm h0 + 13 + 57) + 13 + 9) + 13 + 644) + 13 + 3) + 13 + 10003) + 13 + 10003) + 13 + 10003) + 13 + 1000) + 13 + 1000) + 13 + 40) + 13 + 40) + 13 + 4) + 13 + 600) + 13 + 644) + 13 + 40) + 13 + 41) + 13 + 10001) + 13 + 10001) + 13 + 2001) + 13 + 2001) + 13 + 25760) + 13 + 8) + 13 + 8) + 13 + 41) + 13 + 1681) + 13 + 644) + 13 + 25760) + 13 + 8) + 13 + 3) + 13 + 8) = hm h0 + 112446 by omega] at e
  exact ⟨_, _, rfl, e⟩
