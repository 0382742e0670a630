/-! THE CLASS'S CONSTRUCTOR, up to its draft (written by wip/gen/genK.py) -/
def LKc : List (Nat × Nat × Nat × Nat) := [(38, 12, 15, 0), (37, 12, 14, 0), (36, 50, 23, 0), (35, 4, 23, 0), (34, 50, 22, 0), (33, 4, 22, 0), (32, 50, 21, 0), (31, 4, 21, 0), (30, 50, 20, 0), (29, 4, 20, 0), (28, 63, 8, 4), (27, 63, 6, 4), (26, 50, 16, 41), (25, 51, 16, 41), (24, 10, 13, 0), (23, 50, 12, 40), (22, 50, 12, 40), (21, 64, 12, 0), (20, 3, 12, 0), (19, 11, 12, 0), (18, 51, 11, 0), (17, 7, 11, 0), (16, 50, 5, 0), (15, 4, 5, 0), (14, 50, 4, 0), (13, 4, 4, 0), (12, 50, 3, 0), (11, 4, 3, 0), (10, 50, 2, 0), (9, 4, 2, 0), (8, 2, 1, 0), (7, 52, 18, 0), (6, 50, 18, 40), (5, 50, 18, 40), (4, 50, 18, 40), (3, 50, 18, 40), (2, 6, 18, 0), (1, 52, 17, 0), (0, 13, 17, 0)]
def RKc : List (Nat × Nat × Nat) := [(0, 10, 38), (38, 0, 29), (0, 9, 37), (37, 0, 29), (28, 3, 35), (27, 3, 35), (35, 1, 36), (28, 2, 33), (27, 2, 33), (33, 1, 34), (28, 1, 31), (27, 1, 31), (31, 1, 32), (28, 0, 29), (27, 0, 29), (29, 1, 30), (0, 14, 28), (0, 13, 27), (0, 12, 26), (0, 11, 25), (0, 7, 24), (0, 6, 19), (19, 2, 23), (19, 1, 22), (19, 0, 20), (20, 0, 21), (0, 5, 17), (17, 0, 18), (0, 4, 8), (8, 3, 15), (15, 1, 16), (8, 2, 13), (13, 1, 14), (8, 1, 11), (11, 1, 12), (8, 0, 9), (9, 1, 10), (0, 3, 2), (2, 7, 7), (2, 3, 6), (2, 2, 5), (2, 1, 4), (2, 0, 3), (0, 0, 1)]
set_option maxRecDepth 20000 in
set_option maxHeartbeats 4000000 in
theorem kinit_book (N : Nat) (hN : 100 ≤ N) (ρ0 : Nat → Nat) (h0 : hS) {Φ : (Nat → Nat) → hS → Prop} (fin : ∀ ρ g, BK ρ0 h0 (h_x h0) 8 1000 (fun _ => none) LKc RKc (upd (upd (upd (fun _ => 0) 1 0) 2 (-1)) 8 0) (hm h0 + 934) ρ g → PB Φ (nwO g 2 2 fun q7 h8 => f_K_init_189 N h8 (h_x h0) (some (h_x h0)) (some q7))) : PB Φ (f_K_init N (nw h0 13 0 18) (h_x h0)) := by
  have B0 := BK.beg ρ0 h0 8 1000 13 17 18 (fun _ => none) (by decide)
  unfold f_K_init
  refine B0.A 52 17 0 1 rfl (fun z => absurd z (by decide)) (by omega) (by rfl) (fun ρ1 g1 B1 => ?_)
  unfold f_K_init_8
  refine B1.R 0 0 1 13 17 0 rfl rfl (by decide) (by decide) rfl (by decide) (fun g2 B2 => ?_)
  refine B2.V 1 13 17 0 _ (by decide) rfl (fun g3 B3 => ?_)
  refine B3.V 2 13 17 0 _ (by decide) rfl (fun g4 B4 => ?_)
  refine B4.O 5 18 13 2 6 rfl (fun z => absurd z (by decide)) rfl (fun ρ5 g5 B5 => ?_)
  unfold f_K_init_25
  rw [nn_s]
  unfold f_Reader_init
  rw [cl_nwA]
  refine B5.A 50 18 40 3 rfl (fun z => absurd z (by decide)) (by omega) (by rfl) (fun ρ6 g6 B6 => ?_)
  unfold f_Reader_init_9
  rw [cl_pR]
  refine B6.R 2 0 3 6 18 0 rfl rfl (by decide) (by decide) rfl (by decide) (fun g7 B7 => ?_)
  rw [cl_nwA]
  refine B7.A 50 18 40 4 rfl (fun z => absurd z (by decide)) (by omega) (by rfl) (fun ρ8 g8 B8 => ?_)
  unfold f_Reader_init_17
  rw [cl_pR]
  refine B8.R 2 1 4 6 18 0 rfl rfl (by decide) (by decide) rfl (by decide) (fun g9 B9 => ?_)
  rw [cl_nwA]
  refine B9.A 50 18 40 5 rfl (fun z => absurd z (by decide)) (by omega) (by rfl) (fun ρ10 g10 B10 => ?_)
  unfold f_Reader_init_25
  rw [cl_pR]
  refine B10.R 2 2 5 6 18 0 rfl rfl (by decide) (by decide) rfl (by decide) (fun g11 B11 => ?_)
  rw [cl_nwA]
  refine B11.A 50 18 40 6 rfl (fun z => absurd z (by decide)) (by omega) (by rfl) (fun ρ12 g12 B12 => ?_)
  unfold f_Reader_init_33
  rw [cl_pR]
  refine B12.R 2 3 6 6 18 0 rfl rfl (by decide) (by decide) rfl (by decide) (fun g13 B13 => ?_)
  rw [cl_nwA]
  refine B13.A 52 18 0 7 rfl (fun z => absurd z (by decide)) (by omega) (by rfl) (fun ρ14 g14 B14 => ?_)
  unfold f_Reader_init_40
  rw [cl_pR]
  refine B14.R 2 7 7 6 18 0 rfl rfl (by decide) (by decide) rfl (by decide) (fun g15 B15 => ?_)
  rw [cl_s]
  unfold f_K_init_29
  refine B15.R 0 3 2 13 17 0 rfl rfl (by decide) (by decide) rfl (by decide) (fun g16 B16 => ?_)
  refine B16.O 1 1 5 8 2 rfl (fun z => absurd z (by decide)) rfl (fun ρ17 g17 B17 => ?_)
  unfold f_K_init_36
  rw [nn_s]
  unfold f_Bench_init
  rw [cl_nwO]
  refine B17.O 3 2 5 9 4 rfl (fun z => absurd z (by decide)) rfl (fun ρ18 g18 B18 => ?_)
  unfold f_Bench_init_8
  rw [nn_s, cl_cl]
  unfold f_Curve_init f_Curve_init_8
  rw [cl_nwA]
  refine B18.A 50 2 0 10 rfl (fun z => absurd z (by decide)) (by omega) (by rfl) (fun ρ19 g19 B19 => ?_)
  rw [cl_pR]
  refine B19.R 9 1 10 4 2 0 rfl rfl (by decide) (by decide) rfl (by decide) (fun g20 B20 => ?_)
  rw [cl_pI]
  refine B20.Z 9 0 4 2 0 rfl (by decide) rfl (by decide) (fun g21 B21 => ?_)
  rw [cl_pI]
  refine B21.Z 9 2 4 2 0 rfl (by decide) rfl (by decide) (fun g22 B22 => ?_)
  rw [cl_pI]
  refine B22.Z 9 3 4 2 0 rfl (by decide) rfl (by decide) (fun g23 B23 => ?_)
  rw [cl_pJ]
  refine B23.J 9 4 4 2 0 rfl (by decide) rfl (by decide) (fun g24 B24 => ?_)
  rw [cl_s]
  unfold f_Bench_init_12
  rw [cl_pR]
  refine B24.R 8 0 9 2 1 0 rfl rfl (by decide) (by decide) rfl (by decide) (fun g25 B25 => ?_)
  rw [cl_nwO]
  refine B25.O 3 3 5 11 4 rfl (fun z => absurd z (by decide)) rfl (fun ρ26 g26 B26 => ?_)
  unfold f_Bench_init_19
  rw [nn_s, cl_cl]
  unfold f_Curve_init f_Curve_init_8
  rw [cl_nwA]
  refine B26.A 50 3 0 12 rfl (fun z => absurd z (by decide)) (by omega) (by rfl) (fun ρ27 g27 B27 => ?_)
  rw [cl_pR]
  refine B27.R 11 1 12 4 3 0 rfl rfl (by decide) (by decide) rfl (by decide) (fun g28 B28 => ?_)
  rw [cl_pI]
  refine B28.Z 11 0 4 3 0 rfl (by decide) rfl (by decide) (fun g29 B29 => ?_)
  rw [cl_pI]
  refine B29.Z 11 2 4 3 0 rfl (by decide) rfl (by decide) (fun g30 B30 => ?_)
  rw [cl_pI]
  refine B30.Z 11 3 4 3 0 rfl (by decide) rfl (by decide) (fun g31 B31 => ?_)
  rw [cl_pJ]
  refine B31.J 11 4 4 3 0 rfl (by decide) rfl (by decide) (fun g32 B32 => ?_)
  rw [cl_s]
  unfold f_Bench_init_23
  rw [cl_pR]
  refine B32.R 8 1 11 2 1 0 rfl rfl (by decide) (by decide) rfl (by decide) (fun g33 B33 => ?_)
  rw [cl_nwO]
  refine B33.O 3 4 5 13 4 rfl (fun z => absurd z (by decide)) rfl (fun ρ34 g34 B34 => ?_)
  unfold f_Bench_init_30
  rw [nn_s, cl_cl]
  unfold f_Curve_init f_Curve_init_8
  rw [cl_nwA]
  refine B34.A 50 4 0 14 rfl (fun z => absurd z (by decide)) (by omega) (by rfl) (fun ρ35 g35 B35 => ?_)
  rw [cl_pR]
  refine B35.R 13 1 14 4 4 0 rfl rfl (by decide) (by decide) rfl (by decide) (fun g36 B36 => ?_)
  rw [cl_pI]
  refine B36.Z 13 0 4 4 0 rfl (by decide) rfl (by decide) (fun g37 B37 => ?_)
  rw [cl_pI]
  refine B37.Z 13 2 4 4 0 rfl (by decide) rfl (by decide) (fun g38 B38 => ?_)
  rw [cl_pI]
  refine B38.Z 13 3 4 4 0 rfl (by decide) rfl (by decide) (fun g39 B39 => ?_)
  rw [cl_pJ]
  refine B39.J 13 4 4 4 0 rfl (by decide) rfl (by decide) (fun g40 B40 => ?_)
  rw [cl_s]
  unfold f_Bench_init_34
  rw [cl_pR]
  refine B40.R 8 2 13 2 1 0 rfl rfl (by decide) (by decide) rfl (by decide) (fun g41 B41 => ?_)
  rw [cl_nwO]
  refine B41.O 3 5 5 15 4 rfl (fun z => absurd z (by decide)) rfl (fun ρ42 g42 B42 => ?_)
  unfold f_Bench_init_41
  rw [nn_s, cl_cl]
  unfold f_Curve_init f_Curve_init_8
  rw [cl_nwA]
  refine B42.A 50 5 0 16 rfl (fun z => absurd z (by decide)) (by omega) (by rfl) (fun ρ43 g43 B43 => ?_)
  rw [cl_pR]
  refine B43.R 15 1 16 4 5 0 rfl rfl (by decide) (by decide) rfl (by decide) (fun g44 B44 => ?_)
  rw [cl_pI]
  refine B44.Z 15 0 4 5 0 rfl (by decide) rfl (by decide) (fun g45 B45 => ?_)
  rw [cl_pI]
  refine B45.Z 15 2 4 5 0 rfl (by decide) rfl (by decide) (fun g46 B46 => ?_)
  rw [cl_pI]
  refine B46.Z 15 3 4 5 0 rfl (by decide) rfl (by decide) (fun g47 B47 => ?_)
  rw [cl_pJ]
  refine B47.J 15 4 4 5 0 rfl (by decide) rfl (by decide) (fun g48 B48 => ?_)
  rw [cl_s]
  unfold f_Bench_init_45
  rw [cl_pR]
  refine B48.R 8 3 15 2 1 0 rfl rfl (by decide) (by decide) rfl (by decide) (fun g49 B49 => ?_)
  rw [cl_pI]
  refine B49.Wx 4 2 1 0 _ rfl (by decide) rfl (by decide) (fun g50 B50 => ?_)
  rw [cl_s]
  unfold f_K_init_40
  refine B50.R 0 4 8 13 17 0 rfl rfl (by decide) (by decide) rfl (by decide) (fun g51 B51 => ?_)
  refine B51.O 6 11 3 17 7 rfl (fun z => absurd z (by decide)) rfl (fun ρ52 g52 B52 => ?_)
  unfold f_K_init_47
  rw [nn_s]
  unfold f_Shelf_init
  rw [cl_nwA]
  refine B52.A 51 11 0 18 rfl (fun z => absurd z (by decide)) (by omega) (by rfl) (fun ρ53 g53 B53 => ?_)
  unfold f_Shelf_init_8
  rw [cl_pR]
  refine B53.R 17 0 18 7 11 0 rfl rfl (by decide) (by decide) rfl (by decide) (fun g54 B54 => ?_)
  rw [cl_pI]
  refine B54.Z 17 1 7 11 0 rfl (by decide) rfl (by decide) (fun g55 B55 => ?_)
  rw [cl_pR]
  refine B55.N 17 2 7 11 0 rfl (by decide) (by decide) rfl (by decide) (fun g56 B56 => ?_)
  rw [cl_s]
  unfold f_K_init_51
  refine B56.R 0 5 17 13 17 0 rfl rfl (by decide) (by decide) rfl (by decide) (fun g57 B57 => ?_)
  refine B57.O 10 12 3 19 11 rfl (fun z => absurd z (by decide)) rfl (fun ρ58 g58 B58 => ?_)
  unfold f_K_init_58
  rw [nn_s]
  unfold f_Trail_init
  rw [cl_nwO]
  refine B58.O 2 12 2 20 3 rfl (fun z => absurd z (by decide)) rfl (fun ρ59 g59 B59 => ?_)
  unfold f_Trail_init_8
  rw [nn_s, cl_cl]
  unfold f_Chain_init f_Chain_init_9
  rw [cl_nwA]
  refine B59.A 64 12 0 21 rfl (fun z => absurd z (by decide)) (by omega) (by rfl) (fun ρ60 g60 B60 => ?_)
  rw [cl_pR]
  refine B60.R 20 0 21 3 12 0 rfl rfl (by decide) (by decide) rfl (by decide) (fun g61 B61 => ?_)
  rw [cl_pI]
  refine B61.Z 20 1 3 12 0 rfl (by decide) rfl (by decide) (fun g62 B62 => ?_)
  rw [cl_s]
  unfold f_Trail_init_12
  rw [cl_pR]
  refine B62.R 19 0 20 11 12 0 rfl rfl (by decide) (by decide) rfl (by decide) (fun g63 B63 => ?_)
  rw [cl_nwA]
  refine B63.A 50 12 40 22 rfl (fun z => absurd z (by decide)) (by omega) (by rfl) (fun ρ64 g64 B64 => ?_)
  unfold f_Trail_init_20
  rw [cl_pR]
  refine B64.R 19 1 22 11 12 0 rfl rfl (by decide) (by decide) rfl (by decide) (fun g65 B65 => ?_)
  rw [cl_nwA]
  refine B65.A 50 12 40 23 rfl (fun z => absurd z (by decide)) (by omega) (by rfl) (fun ρ66 g66 B66 => ?_)
  unfold f_Trail_init_28
  rw [cl_pR]
  refine B66.R 19 2 23 11 12 0 rfl rfl (by decide) (by decide) rfl (by decide) (fun g67 B67 => ?_)
  rw [cl_s]
  unfold f_K_init_62
  refine B67.R 0 6 19 13 17 0 rfl rfl (by decide) (by decide) rfl (by decide) (fun g68 B68 => ?_)
  refine B68.O 9 13 3 24 10 rfl (fun z => absurd z (by decide)) rfl (fun ρ69 g69 B69 => ?_)
  unfold f_K_init_69 f_Teller_init
  rw [nn_s, cl_s]
  refine B69.R 0 7 24 13 17 0 rfl rfl (by decide) (by decide) rfl (by decide) (fun g70 B70 => ?_)
  refine B70.V 8 13 17 0 _ (by decide) rfl (fun g71 B71 => ?_)
  refine B71.A 51 16 41 25 rfl (fun z => absurd z (by decide)) (by omega) (by rfl) (fun ρ72 g72 B72 => ?_)
  unfold f_K_init_86
  refine B72.R 0 11 25 13 17 0 rfl rfl (by decide) (by decide) rfl (by decide) (fun g73 B73 => ?_)
  refine B73.A 50 16 41 26 rfl (fun z => absurd z (by decide)) (by omega) (by rfl) (fun ρ74 g74 B74 => ?_)
  unfold f_K_init_94
  refine B74.R 0 12 26 13 17 0 rfl rfl (by decide) (by decide) rfl (by decide) (fun g75 B75 => ?_)
  refine B75.A 63 6 4 27 rfl (fun z => absurd z (by decide)) (by omega) (by rfl) (fun ρ76 g76 B76 => ?_)
  unfold f_K_init_102
  refine B76.R 0 13 27 13 17 0 rfl rfl (by decide) (by decide) rfl (by decide) (fun g77 B77 => ?_)
  refine B77.A 63 8 4 28 rfl (fun z => absurd z (by decide)) (by omega) (by rfl) (fun ρ78 g78 B78 => ?_)
  unfold f_K_init_110
  refine B78.R 0 14 28 13 17 0 rfl rfl (by decide) (by decide) rfl (by decide) (fun g79 B79 => ?_)
  obtain ⟨n, hn⟩ : ∃ n, N = n + 1 + 1 + 1 + 1 + 1 := ⟨N - 5, by omega⟩
  rw [show f_K_init_115 N N = f_K_init_115 N (n + 1 + 1 + 1 + 1 + 1) from congrArg _ hn]
  generalize hR0 : f_K_init_115 N (n + 1 + 1 + 1 + 1) = R0
  unfold f_K_init_115
  rw [hR0, if_neg (by decide)]
  refine B79.G 0 13 27 13 17 0 rfl (by decide) rfl (by decide) ?_
  refine B79.O 3 20 5 29 4 rfl (fun z => absurd z (by decide)) rfl (fun ρ80 g80 B80 => ?_)
  unfold f_K_init_128
  rw [nn_s]
  unfold f_Curve_init f_Curve_init_8
  rw [cl_nwA]
  refine B80.A 50 20 0 30 rfl (fun z => absurd z (by decide)) (by omega) (by rfl) (fun ρ81 g81 B81 => ?_)
  rw [cl_pR]
  refine B81.R 29 1 30 4 20 0 rfl rfl (by decide) (by decide) rfl (by decide) (fun g82 B82 => ?_)
  rw [cl_pI]
  refine B82.Z 29 0 4 20 0 rfl (by decide) rfl (by decide) (fun g83 B83 => ?_)
  rw [cl_pI]
  refine B83.Z 29 2 4 20 0 rfl (by decide) rfl (by decide) (fun g84 B84 => ?_)
  rw [cl_pI]
  refine B84.Z 29 3 4 20 0 rfl (by decide) rfl (by decide) (fun g85 B85 => ?_)
  rw [cl_pJ]
  refine B85.J 29 4 4 20 0 rfl (by decide) rfl (by decide) (fun g86 B86 => ?_)
  rw [cl_s]
  unfold f_K_init_132
  refine B86.U 27 0 29 63 6 4 20 4 rfl rfl rfl (by decide) (by decide) (by decide) rfl (by decide) (by decide) (by decide) (fun g87 B87 => ?_)
  refine B87.G 0 14 28 13 17 0 rfl (by decide) rfl (by decide) ?_
  refine B87.G 0 13 27 13 17 0 rfl (by decide) rfl (by decide) ?_
  refine B87.E 27 0 29 63 6 4 rfl rfl (by decide) (by decide) (by decide) (by decide) ?_
  refine B87.U 28 0 29 63 8 4 20 4 rfl rfl rfl (by decide) (by decide) (by decide) rfl (by decide) (by decide) (by decide) (fun g88 B88 => ?_)
  rw [bn_i, show (0 : Int32) + 1 = (1 : Int32) from rfl, ← hR0]
  generalize hR1 : f_K_init_115 N (n + 1 + 1 + 1) = R1
  unfold f_K_init_115
  rw [hR1, if_neg (by decide)]
  refine B88.G 0 13 27 13 17 0 rfl (by decide) rfl (by decide) ?_
  refine B88.O 3 21 5 31 4 rfl (fun z => absurd z (by decide)) rfl (fun ρ89 g89 B89 => ?_)
  unfold f_K_init_128
  rw [nn_s]
  unfold f_Curve_init f_Curve_init_8
  rw [cl_nwA]
  refine B89.A 50 21 0 32 rfl (fun z => absurd z (by decide)) (by omega) (by rfl) (fun ρ90 g90 B90 => ?_)
  rw [cl_pR]
  refine B90.R 31 1 32 4 21 0 rfl rfl (by decide) (by decide) rfl (by decide) (fun g91 B91 => ?_)
  rw [cl_pI]
  refine B91.Z 31 0 4 21 0 rfl (by decide) rfl (by decide) (fun g92 B92 => ?_)
  rw [cl_pI]
  refine B92.Z 31 2 4 21 0 rfl (by decide) rfl (by decide) (fun g93 B93 => ?_)
  rw [cl_pI]
  refine B93.Z 31 3 4 21 0 rfl (by decide) rfl (by decide) (fun g94 B94 => ?_)
  rw [cl_pJ]
  refine B94.J 31 4 4 21 0 rfl (by decide) rfl (by decide) (fun g95 B95 => ?_)
  rw [cl_s]
  unfold f_K_init_132
  refine B95.U 27 1 31 63 6 4 21 4 rfl rfl rfl (by decide) (by decide) (by decide) rfl (by decide) (by decide) (by decide) (fun g96 B96 => ?_)
  refine B96.G 0 14 28 13 17 0 rfl (by decide) rfl (by decide) ?_
  refine B96.G 0 13 27 13 17 0 rfl (by decide) rfl (by decide) ?_
  refine B96.E 27 1 31 63 6 4 rfl rfl (by decide) (by decide) (by decide) (by decide) ?_
  refine B96.U 28 1 31 63 8 4 21 4 rfl rfl rfl (by decide) (by decide) (by decide) rfl (by decide) (by decide) (by decide) (fun g97 B97 => ?_)
  rw [bn_i, show (1 : Int32) + 1 = (2 : Int32) from rfl, ← hR1]
  generalize hR2 : f_K_init_115 N (n + 1 + 1) = R2
  unfold f_K_init_115
  rw [hR2, if_neg (by decide)]
  refine B97.G 0 13 27 13 17 0 rfl (by decide) rfl (by decide) ?_
  refine B97.O 3 22 5 33 4 rfl (fun z => absurd z (by decide)) rfl (fun ρ98 g98 B98 => ?_)
  unfold f_K_init_128
  rw [nn_s]
  unfold f_Curve_init f_Curve_init_8
  rw [cl_nwA]
  refine B98.A 50 22 0 34 rfl (fun z => absurd z (by decide)) (by omega) (by rfl) (fun ρ99 g99 B99 => ?_)
  rw [cl_pR]
  refine B99.R 33 1 34 4 22 0 rfl rfl (by decide) (by decide) rfl (by decide) (fun g100 B100 => ?_)
  rw [cl_pI]
  refine B100.Z 33 0 4 22 0 rfl (by decide) rfl (by decide) (fun g101 B101 => ?_)
  rw [cl_pI]
  refine B101.Z 33 2 4 22 0 rfl (by decide) rfl (by decide) (fun g102 B102 => ?_)
  rw [cl_pI]
  refine B102.Z 33 3 4 22 0 rfl (by decide) rfl (by decide) (fun g103 B103 => ?_)
  rw [cl_pJ]
  refine B103.J 33 4 4 22 0 rfl (by decide) rfl (by decide) (fun g104 B104 => ?_)
  rw [cl_s]
  unfold f_K_init_132
  refine B104.U 27 2 33 63 6 4 22 4 rfl rfl rfl (by decide) (by decide) (by decide) rfl (by decide) (by decide) (by decide) (fun g105 B105 => ?_)
  refine B105.G 0 14 28 13 17 0 rfl (by decide) rfl (by decide) ?_
  refine B105.G 0 13 27 13 17 0 rfl (by decide) rfl (by decide) ?_
  refine B105.E 27 2 33 63 6 4 rfl rfl (by decide) (by decide) (by decide) (by decide) ?_
  refine B105.U 28 2 33 63 8 4 22 4 rfl rfl rfl (by decide) (by decide) (by decide) rfl (by decide) (by decide) (by decide) (fun g106 B106 => ?_)
  rw [bn_i, show (2 : Int32) + 1 = (3 : Int32) from rfl, ← hR2]
  generalize hR3 : f_K_init_115 N (n + 1) = R3
  unfold f_K_init_115
  rw [hR3, if_neg (by decide)]
  refine B106.G 0 13 27 13 17 0 rfl (by decide) rfl (by decide) ?_
  refine B106.O 3 23 5 35 4 rfl (fun z => absurd z (by decide)) rfl (fun ρ107 g107 B107 => ?_)
  unfold f_K_init_128
  rw [nn_s]
  unfold f_Curve_init f_Curve_init_8
  rw [cl_nwA]
  refine B107.A 50 23 0 36 rfl (fun z => absurd z (by decide)) (by omega) (by rfl) (fun ρ108 g108 B108 => ?_)
  rw [cl_pR]
  refine B108.R 35 1 36 4 23 0 rfl rfl (by decide) (by decide) rfl (by decide) (fun g109 B109 => ?_)
  rw [cl_pI]
  refine B109.Z 35 0 4 23 0 rfl (by decide) rfl (by decide) (fun g110 B110 => ?_)
  rw [cl_pI]
  refine B110.Z 35 2 4 23 0 rfl (by decide) rfl (by decide) (fun g111 B111 => ?_)
  rw [cl_pI]
  refine B111.Z 35 3 4 23 0 rfl (by decide) rfl (by decide) (fun g112 B112 => ?_)
  rw [cl_pJ]
  refine B112.J 35 4 4 23 0 rfl (by decide) rfl (by decide) (fun g113 B113 => ?_)
  rw [cl_s]
  unfold f_K_init_132
  refine B113.U 27 3 35 63 6 4 23 4 rfl rfl rfl (by decide) (by decide) (by decide) rfl (by decide) (by decide) (by decide) (fun g114 B114 => ?_)
  refine B114.G 0 14 28 13 17 0 rfl (by decide) rfl (by decide) ?_
  refine B114.G 0 13 27 13 17 0 rfl (by decide) rfl (by decide) ?_
  refine B114.E 27 3 35 63 6 4 rfl rfl (by decide) (by decide) (by decide) (by decide) ?_
  refine B114.U 28 3 35 63 8 4 23 4 rfl rfl rfl (by decide) (by decide) (by decide) rfl (by decide) (by decide) (by decide) (fun g115 B115 => ?_)
  rw [bn_i, show (3 : Int32) + 1 = (4 : Int32) from rfl, ← hR3]
  unfold f_K_init_115
  rw [if_pos (by decide)]
  refine B115.O 11 14 5 37 12 rfl (fun z => absurd z (by decide)) rfl (fun ρ116 g116 B116 => ?_)
  unfold f_K_init_155
  refine B116.G 0 13 27 13 17 0 rfl (by decide) rfl (by decide) ?_
  refine B116.E 27 0 29 63 6 4 rfl rfl (by decide) (by decide) (by decide) (by decide) ?_
  rw [nn_s]
  unfold f_Walk_init
  rw [cl_pR]
  refine B116.R 37 0 29 12 14 0 rfl rfl (by decide) (by decide) rfl (by decide) (fun g117 B117 => ?_)
  rw [cl_s]
  refine B117.R 0 9 37 13 17 0 rfl rfl (by decide) (by decide) rfl (by decide) (fun g118 B118 => ?_)
  refine B118.O 11 15 5 38 12 rfl (fun z => absurd z (by decide)) rfl (fun ρ119 g119 B119 => ?_)
  unfold f_K_init_172
  refine B119.G 0 13 27 13 17 0 rfl (by decide) rfl (by decide) ?_
  refine B119.E 27 0 29 63 6 4 rfl rfl (by decide) (by decide) (by decide) (by decide) ?_
  rw [nn_s]
  unfold f_Walk_init
  rw [cl_pR]
  refine B119.R 38 0 29 12 15 0 rfl rfl (by decide) (by decide) rfl (by decide) (fun g120 B120 => ?_)
  rw [cl_s]
  refine B120.R 0 10 38 13 17 0 rfl rfl (by decide) (by decide) rfl (by decide) (fun g121 B121 => ?_)
  exact fin _ _ (by have e := B121; rw [show hm h0 + 934 = (((((((((((((((((((((((((((((((((((((((hm h0 + 13 + 18) + 13 + 0) + 13 + 13) + 13 + 40) + 13 + 40) + 13 + 40) + 13 + 40) + 13 + 0) + 13 + 5) + 13 + 5) + 13 + 0) + 13 + 5) + 13 + 0) + 13 + 5) + 13 + 0) + 13 + 5) + 13 + 0) + 13 + 3) + 13 + 0) + 13 + 3) + 13 + 2) + 13 + 0) + 13 + 40) + 13 + 40) + 13 + 3) + 13 + 41) + 13 + 41) + 13 + 4) + 13 + 4) + 13 + 5) + 13 + 0) + 13 + 5) + 13 + 0) + 13 + 5) + 13 + 0) + 13 + 5) + 13 + 0) + 13 + 5) + 13 + 5) by omega]; exact e)
