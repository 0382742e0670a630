def f_K_count_61 (N : Nat)  (h : hS) (y0 : Option Nat) : Option ((Int32 ⊕ Nat) × hS) := gI h y0 2 1 fun v1 => some ((Sum.inl v1), h)
def f_K_count_56 (N : Nat)  (h : hS) (th : Nat) (x1 : Int32) : Option ((Int32 ⊕ Nat) × hS) := cvT h (some th) 12 (fun a => f_K_chainOf N h a x1) fun v1 h2 => f_K_count_61 N   h2 v1
def f_K_count (N : Nat) (h : hS) (th : Nat) (x1 : Int32) : Option ((Int32 ⊕ Nat) × hS) := if x1 = (0 : Int32) then (f_K_count_56 N   h th x1) else (if x1 = (1 : Int32) then (f_K_count_56 N   h th x1) else (if x1 = (2 : Int32) then (f_K_count_56 N   h th x1) else (if x1 = (3 : Int32) then (f_K_count_56 N   h th x1) else (if x1 = (4 : Int32) then (gR h (some th) 12 16 fun v1 => gI h v1 7 3 fun v2 => some ((Sum.inl v2), h)) else (if x1 = (5 : Int32) then (gR h (some th) 12 16 fun v3 => gI h v3 7 6 fun v4 => some ((Sum.inl v4), h)) else (if x1 = (6 : Int32) then (gI h (some th) 12 1 fun v5 => some ((Sum.inl v5), h)) else (if x1 = (7 : Int32) then (gR h (some th) 12 16 fun v6 => gR h v6 7 7 fun v7 => aI h 50 v7 (0 : Int32) fun v8 => some ((Sum.inl v8), h)) else (if x1 = (8 : Int32) then (gR h (some th) 12 16 fun v9 => gR h v9 7 7 fun v10 => aI h 50 v10 (1 : Int32) fun v11 => some ((Sum.inl v11), h)) else (if x1 = (9 : Int32) then (gR h (some th) 12 16 fun v12 => gR h v12 7 7 fun v13 => aI h 50 v13 (2 : Int32) fun v14 => some ((Sum.inl v14), h)) else (thr 1 h))))))))))
def f_K_stepOf_22 (N : Nat)  (h : hS) (a3 : Option Nat) : Option ((Option Nat ⊕ Nat) × hS) := some ((Sum.inl a3), h)
def f_K_stepOf_19 (N : Nat)  (h : hS) (a3 : Option Nat) (y0 : Int32) : Option ((Option Nat ⊕ Nat) × hS) := clT (f_K_needSuch N h y0) fun _ h2 => f_K_stepOf_22 N   h2 a3
def f_K_stepOf_5 (N : Nat)  (h : hS) (x2 : Int32) (y0 : Option Nat) : Option ((Option Nat ⊕ Nat) × hS) := cv h y0 2 (fun a => f_Chain_stepAt N h a x2) fun v1 h2 => if v1 = none then (f_K_stepOf_19 N   h2 v1 (0 : Int32)) else (f_K_stepOf_19 N   h2 v1 (1 : Int32))
def f_K_stepOf (N : Nat) (h : hS) (th : Nat) (x1 : Int32) (x2 : Int32) : Option ((Option Nat ⊕ Nat) × hS) := cvT h (some th) 12 (fun a => f_K_chainOf N h a x1) fun v1 h2 => f_K_stepOf_5 N   h2 x2 v1
def f_K_step_53 (N : Nat)  (h : hS) (y0 : Int32) : Option ((Int32 ⊕ Nat) × hS) := some ((Sum.inl y0), h)
def f_K_step_25 (N : Nat)  (h : hS) (x3 : Int32) (a4 : Option Nat) : Option ((Int32 ⊕ Nat) × hS) := if x3 = (0 : Int32) then (gI h a4 8 0 fun v3 => some ((Sum.inl v3), h)) else (if x3 = (1 : Int32) then (gI h a4 8 1 fun v2 => f_K_step_53 N   h v2) else (gI h a4 8 2 fun v1 => f_K_step_53 N   h v1))
def f_K_step_22 (N : Nat)  (h : hS) (x3 : Int32) (a4 : Option Nat) (y0 : Int32) : Option ((Int32 ⊕ Nat) × hS) := clT (f_K_needSuch N h y0) fun _ h2 => f_K_step_25 N   h2 x3 a4
def f_K_step_21 (N : Nat)  (h : hS) (x3 : Int32) (a4 : Option Nat) : Option ((Int32 ⊕ Nat) × hS) := f_K_step_22 N   h x3 a4 (0 : Int32)
def f_K_step_6 (N : Nat)  (h : hS) (x3 : Int32) (y0 : Option Nat) : Option ((Int32 ⊕ Nat) × hS) := if x3 < (0 : Int32) then (f_K_step_21 N   h x3 y0) else (if (2 : Int32) < x3 then (f_K_step_21 N   h x3 y0) else (f_K_step_22 N   h x3 y0 (1 : Int32)))
def f_K_step (N : Nat) (h : hS) (th : Nat) (x1 : Int32) (x2 : Int32) (x3 : Int32) : Option ((Int32 ⊕ Nat) × hS) := cvT h (some th) 12 (fun a => f_K_stepOf N h a x1 x2) fun v1 h2 => f_K_step_6 N   h2 x3 v1
def f_K_isX_19 (N : Nat)  (h : hS) (y0 : Int32) : Option (Int32 × hS) := bz y0 (some (y0, h))
def f_K_isX_18 (N : Nat)  (h : hS)  : Option (Int32 × hS) := f_K_isX_19 N   h (0 : Int32)
def f_K_isX (N : Nat) (h : hS) (x0 : Int32) : Option (Int32 × hS) := if x0 < (-100000 : Int32) then (f_K_isX_18 N   h ) else (if (100000 : Int32) < x0 then (f_K_isX_18 N   h ) else (f_K_isX_19 N   h (1 : Int32)))
def f_K_needX_7 (N : Nat)  (h : hS)  : Option ((Unit ⊕ Nat) × hS) := some ((Sum.inl ()), h)
def f_K_needX (N : Nat) (h : hS) (x0 : Int32) : Option ((Unit ⊕ Nat) × hS) := cl (f_K_isX N h x0) fun v1 h2 => clT (f_K_needFit N h2 v1) fun _ h4 => f_K_needX_7 N   h4 
def f_K_at_10 (N : Nat)  (h : hS) (x2 : Int32) (a3 : Option Nat) : Option ((Int64 ⊕ Nat) × hS) := cv h a3 3 (fun a => f_Curve_valueAt N h a x2) fun v1 h2 => some ((Sum.inl v1), h2)
def f_K_at_5 (N : Nat)  (h : hS) (x2 : Int32) (y0 : Option Nat) : Option ((Int64 ⊕ Nat) × hS) := clT (f_K_needX N h x2) fun _ h2 => f_K_at_10 N   h2 x2 y0
def f_K_at (N : Nat) (h : hS) (th : Nat) (x1 : Int32) (x2 : Int32) : Option ((Int64 ⊕ Nat) × hS) := cvT h (some th) 12 (fun a => f_K_curveOf N h a x1) fun v1 h2 => f_K_at_5 N   h2 x2 v1
def f_K_least_5 (N : Nat)  (h : hS) (y0 : Option Nat) : Option ((Int64 ⊕ Nat) × hS) := gJ h y0 3 4 fun v1 => some ((Sum.inl v1), h)
def f_K_least (N : Nat) (h : hS) (th : Nat) (x1 : Int32) : Option ((Int64 ⊕ Nat) × hS) := cvT h (some th) 12 (fun a => f_K_curveOf N h a x1) fun v1 h2 => f_K_least_5 N   h2 v1
def f_K_isFar_19 (N : Nat)  (h : hS) (y0 : Int32) : Option (Int32 × hS) := bz y0 (some (y0, h))
def f_K_isFar_14 (N : Nat)  (h : hS)  : Option (Int32 × hS) := f_K_isFar_19 N   h (1 : Int32)
def f_K_isFar (N : Nat) (h : hS) (x0 : Int32) : Option (Int32 × hS) := if x0 = (1000000000 : Int32) then (f_K_isFar_14 N   h ) else (if x0 = (-1000000000 : Int32) then (f_K_isFar_14 N   h ) else (f_K_isFar_19 N   h (0 : Int32)))
def f_K_orNowhere_14 (N : Nat)  (h : hS) (y0 : Int32) : Option (Int32 × hS) := some (y0, h)
def f_K_orNowhere (N : Nat) (h : hS) (x0 : Int32) : Option (Int32 × hS) := cl (f_K_isFar N h x0) fun v1 h2 => if v1 = (0 : Int32) then (f_K_orNowhere_14 N   h2 x0) else (f_K_orNowhere_14 N   h2 (-10000000 : Int32))
def f_K_flat_5 (N : Nat)  (h : hS) (x2 : Int32) (y0 : Option Nat) : Option ((Int32 ⊕ Nat) × hS) := if x2 = (0 : Int32) then (cv h y0 3 (fun a => f_Curve_lowEnd N h a (0 : Int32)) fun v1 h2 => cl (f_K_orNowhere N h2 v1) fun v3 h4 => some ((Sum.inl v3), h4)) else (if x2 = (1 : Int32) then (cv h y0 3 (fun a => f_Curve_highEnd N h a (0 : Int32)) fun v5 h6 => cl (f_K_orNowhere N h6 v5) fun v7 h8 => some ((Sum.inl v7), h8)) else (if x2 = (2 : Int32) then (cv h y0 3 (fun a => f_Curve_nearestToZero N h a (0 : Int32)) fun v9 h10 => some ((Sum.inl v9), h10)) else (if x2 = (3 : Int32) then (gI h y0 3 0 fun v11 => some ((Sum.inl v11), h)) else (if x2 = (4 : Int32) then (gI h y0 3 3 fun v12 => some ((Sum.inl v12), h)) else (thr 1 h)))))
def f_K_flat (N : Nat) (h : hS) (th : Nat) (x1 : Int32) (x2 : Int32) : Option ((Int32 ⊕ Nat) × hS) := cvT h (some th) 12 (fun a => f_K_curveOf N h a x1) fun v1 h2 => f_K_flat_5 N   h2 x2 v1
def f_K_kink_56 (N : Nat)  (h : hS) (y0 : Int32) : Option ((Int32 ⊕ Nat) × hS) := some ((Sum.inl y0), h)
def f_K_kink_37 (N : Nat)  (h : hS) (x2 : Int32) (x3 : Int32) (a4 : Option Nat) : Option ((Int32 ⊕ Nat) × hS) := if x3 = (0 : Int32) then (cv h a4 3 (fun a => f_Curve_placeOf N h a x2) fun v3 h4 => f_K_kink_56 N   h4 v3) else (cv h a4 3 (fun a => f_Curve_weightOf N h a x2) fun v1 h2 => f_K_kink_56 N   h2 v1)
def f_K_kink_34 (N : Nat)  (h : hS) (x2 : Int32) (x3 : Int32) (a4 : Option Nat) (y0 : Int32) : Option ((Int32 ⊕ Nat) × hS) := clT (f_K_needSuch N h y0) fun _ h2 => f_K_kink_37 N   h2 x2 x3 a4
def f_K_kink_33 (N : Nat)  (h : hS) (x2 : Int32) (x3 : Int32) (a4 : Option Nat) : Option ((Int32 ⊕ Nat) × hS) := f_K_kink_34 N   h x2 x3 a4 (0 : Int32)
def f_K_kink_29 (N : Nat)  (h : hS) (x2 : Int32) (x3 : Int32) (a4 : Option Nat) : Option ((Int32 ⊕ Nat) × hS) := f_K_kink_34 N   h x2 x3 a4 (1 : Int32)
def f_K_kink_5 (N : Nat)  (h : hS) (x2 : Int32) (x3 : Int32) (y0 : Option Nat) : Option ((Int32 ⊕ Nat) × hS) := if x2 < (0 : Int32) then (f_K_kink_33 N   h x2 x3 y0) else (gI h y0 3 0 fun v1 => if v1 ≤ x2 then (f_K_kink_33 N   h x2 x3 y0) else (if x3 = (0 : Int32) then (f_K_kink_29 N   h x2 x3 y0) else (if x3 = (1 : Int32) then (f_K_kink_29 N   h x2 x3 y0) else (f_K_kink_33 N   h x2 x3 y0))))
def f_K_kink (N : Nat) (h : hS) (th : Nat) (x1 : Int32) (x2 : Int32) (x3 : Int32) : Option ((Int32 ⊕ Nat) × hS) := cvT h (some th) 12 (fun a => f_K_curveOf N h a x1) fun v1 h2 => f_K_kink_5 N   h2 x2 x3 v1
def f_K_slope_41 (N : Nat)  (h : hS) (y0 : Option Nat) (y1 : Int32) : Option ((Int32 ⊕ Nat) × hS) := cv h y0 3 (fun a => f_Curve_slopeBehind N h a y1) fun v1 h2 => some ((Sum.inl v1), h2)
def f_K_slope_28 (N : Nat)  (h : hS) (x2 : Int32) (x3 : Int32) (a4 : Option Nat) : Option ((Int32 ⊕ Nat) × hS) := if x3 = (0 : Int32) then (f_K_slope_41 N   h a4 (x2 - (1 : Int32))) else (f_K_slope_41 N   h a4 x2)
def f_K_slope_24 (N : Nat)  (h : hS) (x2 : Int32) (x3 : Int32) (a4 : Option Nat) : Option ((Int32 ⊕ Nat) × hS) := clT (f_K_needX N h x2) fun _ h2 => f_K_slope_28 N   h2 x2 x3 a4
def f_K_slope_21 (N : Nat)  (h : hS) (x2 : Int32) (x3 : Int32) (a4 : Option Nat) (y0 : Int32) : Option ((Int32 ⊕ Nat) × hS) := clT (f_K_needSuch N h y0) fun _ h2 => f_K_slope_24 N   h2 x2 x3 a4
def f_K_slope_16 (N : Nat)  (h : hS) (x2 : Int32) (x3 : Int32) (a4 : Option Nat) : Option ((Int32 ⊕ Nat) × hS) := f_K_slope_21 N   h x2 x3 a4 (1 : Int32)
def f_K_slope_5 (N : Nat)  (h : hS) (x2 : Int32) (x3 : Int32) (y0 : Option Nat) : Option ((Int32 ⊕ Nat) × hS) := if x3 = (0 : Int32) then (f_K_slope_16 N   h x2 x3 y0) else (if x3 = (1 : Int32) then (f_K_slope_16 N   h x2 x3 y0) else (f_K_slope_21 N   h x2 x3 y0 (0 : Int32)))
def f_K_slope (N : Nat) (h : hS) (th : Nat) (x1 : Int32) (x2 : Int32) (x3 : Int32) : Option ((Int32 ⊕ Nat) × hS) := cvT h (some th) 12 (fun a => f_K_curveOf N h a x1) fun v1 h2 => f_K_slope_5 N   h2 x2 x3 v1
def f_K_path_45 (N : Nat)  (h : hS) (th : Nat) (x2 : Int32) (x3 : Int32) : Option ((Int32 ⊕ Nat) × hS) := gR h (some th) 12 6 fun v1 => cv h v1 10 (fun a => f_Trail_placeBehind N h a x3 x2) fun v2 h3 => some ((Sum.inl v2), h3)
def f_K_path_32 (N : Nat)  (h : hS) (th : Nat) (x2 : Int32) (x3 : Int32) (a4 : Option Nat) : Option ((Int32 ⊕ Nat) × hS) := gR h (some th) 12 6 fun v1 => gR h (some th) 12 4 fun v2 => cv h v1 10 (fun a => f_Trail_lay N h a a4 v2) fun _ h4 => f_K_path_45 N   h4 th x2 x3
def f_K_path_28 (N : Nat)  (h : hS) (th : Nat) (x2 : Int32) (x3 : Int32) (a4 : Option Nat) : Option ((Int32 ⊕ Nat) × hS) := clT (f_K_needX N h x2) fun _ h2 => f_K_path_32 N   h2 th x2 x3 a4
def f_K_path_25 (N : Nat)  (h : hS) (th : Nat) (x2 : Int32) (x3 : Int32) (a4 : Option Nat) (y0 : Int32) : Option ((Int32 ⊕ Nat) × hS) := clT (f_K_needSuch N h y0) fun _ h2 => f_K_path_28 N   h2 th x2 x3 a4
def f_K_path_24 (N : Nat)  (h : hS) (th : Nat) (x2 : Int32) (x3 : Int32) (a4 : Option Nat) : Option ((Int32 ⊕ Nat) × hS) := f_K_path_25 N   h th x2 x3 a4 (0 : Int32)
def f_K_path_5 (N : Nat)  (h : hS) (th : Nat) (x2 : Int32) (x3 : Int32) (y0 : Option Nat) : Option ((Int32 ⊕ Nat) × hS) := if x3 < (0 : Int32) then (f_K_path_24 N   h th x2 x3 y0) else (gI h y0 2 1 fun v1 => if v1 < x3 then (f_K_path_24 N   h th x2 x3 y0) else (f_K_path_25 N   h th x2 x3 y0 (1 : Int32)))
def f_K_path (N : Nat) (h : hS) (th : Nat) (x1 : Int32) (x2 : Int32) (x3 : Int32) : Option ((Int32 ⊕ Nat) × hS) := cvT h (some th) 12 (fun a => f_K_chainOf N h a x1) fun v1 h2 => f_K_path_5 N   h2 th x2 x3 v1
def f_K_paid_48 (N : Nat)  (h : hS) (y0 : Int64) : Option ((Int64 ⊕ Nat) × hS) := some ((Sum.inl y0), h)
def f_K_paid_28 (N : Nat)  (h : hS) (th : Nat) (x2 : Int32) (x3 : Int32) (a4 : Option Nat) : Option ((Int64 ⊕ Nat) × hS) := gR h (some th) 12 4 fun v1 => gR h (some th) 12 6 fun v2 => cv h v2 10 (fun a => f_Trail_placeBehind N h a (x3 + (1 : Int32)) x2) fun v3 h4 => cv h4 v1 1 (fun a => f_Bench_costBy N h4 a a4 v3) fun v5 h6 => f_K_paid_48 N   h6 v5
def f_K_paid_21 (N : Nat)  (h : hS) (th : Nat) (x2 : Int32) (x3 : Int32) (a4 : Option Nat) (y0 : Option Nat) (y1 : Option Nat) : Option ((Int64 ⊕ Nat) × hS) := gR h (some th) 12 4 fun v1 => cv h y0 10 (fun a => f_Trail_lay N h a y1 v1) fun _ h3 => f_K_paid_28 N   h3 th x2 x3 a4
def f_K_paid_12 (N : Nat)  (h : hS) (th : Nat) (x1 : Int32) (x2 : Int32) (x3 : Int32) (a4 : Option Nat) : Option ((Int64 ⊕ Nat) × hS) := gR h (some th) 12 6 fun v1 => cvT h (some th) 12 (fun a => f_K_chainOf N h a x1) fun v2 h3 => f_K_paid_21 N   h3 th x2 x3 a4 v1 v2
def f_K_paid_6 (N : Nat)  (h : hS) (th : Nat) (x1 : Int32) (x2 : Int32) (x3 : Int32) (y0 : Option Nat) : Option ((Int64 ⊕ Nat) × hS) := clT (f_K_needX N h x2) fun _ h2 => f_K_paid_12 N   h2 th x1 x2 x3 y0
def f_K_paid (N : Nat) (h : hS) (th : Nat) (x1 : Int32) (x2 : Int32) (x3 : Int32) : Option ((Int64 ⊕ Nat) × hS) := cvT h (some th) 12 (fun a => f_K_stepOf N h a x1 x3) fun v1 h2 => f_K_paid_6 N   h2 th x1 x2 x3 v1
def f_K_farthestWithin_74 (N : Nat)  (h : hS) (x4 : Int32) : Option (Int32 × hS) := some (x4, h)
def f_K_farthestWithin_68 (N : Nat) (rc9 : hS → Option Nat → Int32 → Int32 → Int32 → Int32 → Int32 → Int32 → Option (Int32 × hS)) (h : hS) (a0 : Option Nat) (x1 : Int32) (x2 : Int32) (x3 : Int32) (x4 : Int32) (x5 : Int32) (x6 : Int32) : Option (Int32 × hS) := bn (x6 + (1 : Int32)) fun v1 => rc9 h a0 x1 x2 x3 x4 x5 v1
def f_K_farthestWithin_9 (N : Nat)  : Nat → hS → Option Nat → Int32 → Int32 → Int32 → Int32 → Int32 → Int32 → Option (Int32 × hS)
  | 0 => fun _ _ _ _ _ _ _ _ => none
  | n + 1 => fun h a0 x1 x2 x3 x4 x5 x6 => if (32 : Int32) ≤ x6 then (f_K_farthestWithin_74 N   h x4) else (if x5 ≤ x4 then (f_K_farthestWithin_74 N   h x4) else (dv (2 : Int32) (bn ((((x4 + x5) + (1 : Int32)) / (2 : Int32))) fun v1 => cv h a0 3 (fun a => f_Curve_valueAt N h a (x1 + (x2 * v1))) fun v2 h3 => gJ h3 a0 3 4 fun v4 => if (0 : Int32) < (lg_cmp (v2 - v4) x3.toInt64) then (bn ((v1 - (1 : Int32))) fun v5 => f_K_farthestWithin_68 N (f_K_farthestWithin_9 N  n)  h3 a0 x1 x2 x3 x4 v5 x6) else (f_K_farthestWithin_68 N (f_K_farthestWithin_9 N  n)  h3 a0 x1 x2 x3 v1 x5 x6))))
def f_K_farthestWithin (N : Nat) (h : hS) (a0 : Option Nat) (x1 : Int32) (x2 : Int32) (x3 : Int32) : Option (Int32 × hS) := f_K_farthestWithin_9 N  N h a0 x1 x2 x3 (0 : Int32) x3 (0 : Int32)
def f_K_off_73 (N : Nat)  (h : hS) (x2 : Int32) (a4 : Option Nat) (x5 : Int32) (y0 : Int32) : Option ((Int32 ⊕ Nat) × hS) := cl (f_K_isFar N h x5) fun v1 h2 => if v1 = (0 : Int32) then (cl (f_K_farthestWithin N h2 a4 x5 y0 x2) fun v3 h4 => some ((Sum.inl (x5 + (y0 * v3))), h4)) else (some ((Sum.inl (-10000000 : Int32)), h2))
def f_K_off_62 (N : Nat)  (h : hS) (x2 : Int32) (x3 : Int32) (a4 : Option Nat) (y0 : Int32) : Option ((Int32 ⊕ Nat) × hS) := if x3 = (0 : Int32) then (f_K_off_73 N   h x2 a4 y0 (-1 : Int32)) else (f_K_off_73 N   h x2 a4 y0 (1 : Int32))
def f_K_off_43 (N : Nat)  (h : hS) (x2 : Int32) (x3 : Int32) (a4 : Option Nat) : Option ((Int32 ⊕ Nat) × hS) := if x3 = (0 : Int32) then (cv h a4 3 (fun a => f_Curve_lowEnd N h a (0 : Int32)) fun v3 h4 => f_K_off_62 N   h4 x2 x3 a4 v3) else (cv h a4 3 (fun a => f_Curve_highEnd N h a (0 : Int32)) fun v1 h2 => f_K_off_62 N   h2 x2 x3 a4 v1)
def f_K_off_40 (N : Nat)  (h : hS) (x2 : Int32) (x3 : Int32) (a4 : Option Nat) (y0 : Int32) : Option ((Int32 ⊕ Nat) × hS) := clT (f_K_needFit N h y0) fun _ h2 => f_K_off_43 N   h2 x2 x3 a4
def f_K_off_39 (N : Nat)  (h : hS) (x2 : Int32) (x3 : Int32) (a4 : Option Nat) : Option ((Int32 ⊕ Nat) × hS) := f_K_off_40 N   h x2 x3 a4 (0 : Int32)
def f_K_off_24 (N : Nat)  (h : hS) (x2 : Int32) (x3 : Int32) (a4 : Option Nat) : Option ((Int32 ⊕ Nat) × hS) := if x2 < (0 : Int32) then (f_K_off_39 N   h x2 x3 a4) else (if (1000000 : Int32) < x2 then (f_K_off_39 N   h x2 x3 a4) else (f_K_off_40 N   h x2 x3 a4 (1 : Int32)))
def f_K_off_21 (N : Nat)  (h : hS) (x2 : Int32) (x3 : Int32) (a4 : Option Nat) (y0 : Int32) : Option ((Int32 ⊕ Nat) × hS) := clT (f_K_needSuch N h y0) fun _ h2 => f_K_off_24 N   h2 x2 x3 a4
def f_K_off_16 (N : Nat)  (h : hS) (x2 : Int32) (x3 : Int32) (a4 : Option Nat) : Option ((Int32 ⊕ Nat) × hS) := f_K_off_21 N   h x2 x3 a4 (1 : Int32)
def f_K_off_5 (N : Nat)  (h : hS) (x2 : Int32) (x3 : Int32) (y0 : Option Nat) : Option ((Int32 ⊕ Nat) × hS) := if x3 = (0 : Int32) then (f_K_off_16 N   h x2 x3 y0) else (if x3 = (1 : Int32) then (f_K_off_16 N   h x2 x3 y0) else (f_K_off_21 N   h x2 x3 y0 (0 : Int32)))
def f_K_off (N : Nat) (h : hS) (th : Nat) (x1 : Int32) (x2 : Int32) (x3 : Int32) : Option ((Int32 ⊕ Nat) × hS) := cvT h (some th) 12 (fun a => f_K_curveOf N h a x1) fun v1 h2 => f_K_off_5 N   h2 x2 x3 v1
def f_K_gatherTwo_29 (N : Nat)  (h : hS) (y0 : Option Nat) (y1 : Int32) (y2 : Option Nat) : Option ((Unit ⊕ Nat) × hS) := uR h 63 3 y0 y1 y2 fun h1 => some ((Sum.inl ()), h1)
def f_K_gatherTwo_18 (N : Nat)  (h : hS) (th : Nat) (x2 : Int32) (y0 : Option Nat) (y1 : Int32) (y2 : Option Nat) : Option ((Unit ⊕ Nat) × hS) := uR h 63 3 y0 y1 y2 fun h1 => gR h1 (some th) 12 14 fun v2 => cvT h1 (some th) 12 (fun a => f_K_curveOf N h1 a x2) fun v3 h4 => f_K_gatherTwo_29 N   h4 v2 (1 : Int32) v3
def f_K_gatherTwo_8 (N : Nat)  (h : hS) (th : Nat) (x1 : Int32) (x2 : Int32) : Option ((Unit ⊕ Nat) × hS) := gR h (some th) 12 14 fun v1 => cvT h (some th) 12 (fun a => f_K_curveOf N h a x1) fun v2 h3 => f_K_gatherTwo_18 N   h3 th x2 v1 (0 : Int32) v2
def f_K_gatherTwo_4 (N : Nat)  (h : hS) (th : Nat) (x1 : Int32) (x2 : Int32) : Option ((Unit ⊕ Nat) × hS) := clT (f_K_needCost N h x2) fun _ h2 => f_K_gatherTwo_8 N   h2 th x1 x2
def f_K_gatherTwo (N : Nat) (h : hS) (th : Nat) (x1 : Int32) (x2 : Int32) : Option ((Unit ⊕ Nat) × hS) := clT (f_K_needCost N h x1) fun _ h2 => f_K_gatherTwo_4 N   h2 th x1 x2
def f_Mth_floorDiv_7cf53_21 (N : Nat)  (h : hS) (x2 : Int32) : Option (Int32 × hS) := some (x2, h)
def f_Mth_floorDiv_7cf53 (N : Nat) (h : hS) (x0 : Int32) (x1 : Int32) : Option (Int32 × hS) := dv x1 (bn ((x0 / x1)) fun v1 => if (0 : Int32) ≤ (x0 ^^^ x1) then (f_Mth_floorDiv_7cf53_21 N   h v1) else (if (v1 * x1) = x0 then (f_Mth_floorDiv_7cf53_21 N   h v1) else (some ((v1 - (1 : Int32)), h))))
def f_K_highEndsTogether_42 (N : Nat)  (h : hS) (x3 : Int64) : Option (Int64 × hS) := some (x3, h)
def f_K_highEndsTogether_5 (N : Nat)  : Nat → hS → Nat → Int32 → Int32 → Int64 → Int32 → Option (Int64 × hS)
  | 0 => fun _ _ _ _ _ _ => none
  | n + 1 => fun h th x1 x2 x3 x5 => if x1 ≤ x5 then (f_K_highEndsTogether_42 N   h x3) else (gR h (some th) 12 14 fun v1 => lnA h 63 v1 fun v2 => if v2 ≤ x5 then (f_K_highEndsTogether_42 N   h x3) else (gR h (some th) 12 14 fun v3 => aR h 63 v3 x5 fun v4 => cv h v4 3 (fun a => f_Curve_highEnd N h a x2) fun v5 h6 => bn ((x3 + v5.toInt64)) fun v7 => bn (x5 + (1 : Int32)) fun v8 => f_K_highEndsTogether_5 N  n h6 th x1 x2 v7 v8))
def f_K_highEndsTogether (N : Nat) (h : hS) (th : Nat) (x1 : Int32) (x2 : Int32) : Option (Int64 × hS) := f_K_highEndsTogether_5 N  N h th x1 x2 (0 : Int64) (0 : Int32)
def f_K_commonSlope_135 (N : Nat)  (h : hS) (x3 : Int32) : Option (Int32 × hS) := some (x3, h)
def f_K_commonSlope_129 (N : Nat) (rc81 : hS → Nat → Int32 → Int32 → Int32 → Int32 → Int32 → Option (Int32 × hS)) (h : hS) (th : Nat) (x1 : Int32) (x2 : Int32) (x3 : Int32) (x4 : Int32) (x5 : Int32) : Option (Int32 × hS) := bn (x5 + (1 : Int32)) fun v1 => rc81 h th x1 x2 x3 x4 v1
def f_K_commonSlope_81 (N : Nat)  : Nat → hS → Nat → Int32 → Int32 → Int32 → Int32 → Int32 → Option (Int32 × hS)
  | 0 => fun _ _ _ _ _ _ _ => none
  | n + 1 => fun h th x1 x2 x3 x4 x5 => if (32 : Int32) ≤ x5 then (f_K_commonSlope_135 N   h x3) else (if x4 ≤ x3 then (f_K_commonSlope_135 N   h x3) else (cl (f_Mth_floorDiv_7cf53 N h (x3 + x4) (2 : Int32)) fun v1 h2 => cv h2 (some th) 12 (fun a => f_K_highEndsTogether N h2 a x1 v1) fun v3 h4 => if (lg_cmp v3 x2.toInt64) < (0 : Int32) then (bn ((v1 + (1 : Int32))) fun v5 => f_K_commonSlope_129 N (f_K_commonSlope_81 N  n)  h4 th x1 x2 v5 x4 x5) else (f_K_commonSlope_129 N (f_K_commonSlope_81 N  n)  h4 th x1 x2 x3 v1 x5)))
def f_K_commonSlope_78 (N : Nat)  (h : hS) (th : Nat) (x1 : Int32) (x2 : Int32) (x3 : Int32) (x4 : Int32) : Option (Int32 × hS) := f_K_commonSlope_81 N  N h th x1 x2 x3 x4 (0 : Int32)
def f_K_commonSlope_12 (N : Nat)  : Nat → hS → Nat → Int32 → Int32 → Int32 → Int32 → Int32 → Option (Int32 × hS)
  | 0 => fun _ _ _ _ _ _ _ => none
  | n + 1 => fun h th x1 x2 x3 x4 x5 => if x1 ≤ x5 then (f_K_commonSlope_78 N   h th x1 x2 x3 x4) else (gR h (some th) 12 14 fun v1 => lnA h 63 v1 fun v2 => if v2 ≤ x5 then (f_K_commonSlope_78 N   h th x1 x2 x3 x4) else (gR h (some th) 12 14 fun v3 => aR h 63 v3 x5 fun v4 => gI h v4 3 2 fun v5 => bn ((jmx x3 (-v5))) fun v6 => gR h (some th) 12 14 fun v7 => aR h 63 v7 x5 fun v8 => gI h v8 3 3 fun v9 => gR h (some th) 12 14 fun v10 => aR h 63 v10 x5 fun v11 => gI h v11 3 2 fun v12 => bn ((jmn x4 (v9 - v12))) fun v13 => bn (x5 + (1 : Int32)) fun v14 => f_K_commonSlope_12 N  n h th x1 x2 v6 v13 v14))
def f_K_commonSlope (N : Nat) (h : hS) (th : Nat) (x1 : Int32) (x2 : Int32) : Option (Int32 × hS) := f_K_commonSlope_12 N  N h th x1 x2 (-5000 : Int32) (5000 : Int32) (0 : Int32)
def f_K_sharedValue_76 (N : Nat)  (h : hS) (x5 : Int64) : Option (Int64 × hS) := some (x5, h)
def f_K_sharedValue_17 (N : Nat)  : Nat → hS → Nat → Int32 → Int64 → Int64 → Int32 → Option (Int64 × hS)
  | 0 => fun _ _ _ _ _ _ => none
  | n + 1 => fun h th x1 x3 x5 x7 => if x1 ≤ x7 then (f_K_sharedValue_76 N   h x5) else (gR h (some th) 12 14 fun v1 => lnA h 63 v1 fun v2 => if v2 ≤ x7 then (f_K_sharedValue_76 N   h x5) else (gR h (some th) 12 14 fun v3 => aR h 63 v3 x7 fun v4 => cv h v4 3 (fun a => f_Curve_nearestToZero N h a x3.toInt32) fun v5 h6 => gR h6 (some th) 12 14 fun v7 => aR h6 63 v7 x7 fun v8 => cv h6 v8 3 (fun a => f_Curve_valueAt N h6 a v5) fun v9 h10 => bn ((x5 + (v9 - (x3 * v5.toInt64)))) fun v11 => bn (x7 + (1 : Int32)) fun v12 => f_K_sharedValue_17 N  n h10 th x1 x3 v11 v12))
def f_K_sharedValue (N : Nat) (h : hS) (th : Nat) (x1 : Int32) (x2 : Int32) : Option (Int64 × hS) := cv h (some th) 12 (fun a => f_K_commonSlope N h a x1 x2) fun v1 h2 => bn (v1.toInt64) fun v3 => bn ((v3 * x2.toInt64)) fun v4 => f_K_sharedValue_17 N  N h2 th x1 v3 v4 (0 : Int32)
def f_K_split_10 (N : Nat)  (h : hS) (th : Nat) (x3 : Int32) : Option ((Int64 ⊕ Nat) × hS) := cv h (some th) 12 (fun a => f_K_sharedValue N h a (2 : Int32) x3) fun v1 h2 => some ((Sum.inl v1), h2)
def f_K_split_6 (N : Nat)  (h : hS) (th : Nat) (x3 : Int32) : Option ((Int64 ⊕ Nat) × hS) := clT (f_K_needX N h x3) fun _ h2 => f_K_split_10 N   h2 th x3
def f_K_split (N : Nat) (h : hS) (th : Nat) (x1 : Int32) (x2 : Int32) (x3 : Int32) : Option ((Int64 ⊕ Nat) × hS) := cvT h (some th) 12 (fun a => f_K_gatherTwo N h a x1 x2) fun _ h2 => f_K_split_6 N   h2 th x3
def f_K_where_10 (N : Nat)  (h : hS) (th : Nat) (x3 : Int32) : Option ((Int32 ⊕ Nat) × hS) := cv h (some th) 12 (fun a => f_K_commonSlope N h a (2 : Int32) x3) fun v1 h2 => gR h2 (some th) 12 14 fun v3 => aR h2 63 v3 (0 : Int32) fun v4 => cv h2 v4 3 (fun a => f_Curve_lowEnd N h2 a v1) fun v5 h6 => gR h6 (some th) 12 14 fun v7 => aR h6 63 v7 (1 : Int32) fun v8 => cv h6 v8 3 (fun a => f_Curve_highEnd N h6 a v1) fun v9 h10 => bn ((jmx v5 (x3 - v9))) fun v11 => gR h10 (some th) 12 14 fun v12 => aR h10 63 v12 (0 : Int32) fun v13 => cv h10 v13 3 (fun a => f_Curve_highEnd N h10 a v1) fun v14 h15 => gR h15 (some th) 12 14 fun v16 => aR h15 63 v16 (1 : Int32) fun v17 => cv h15 v17 3 (fun a => f_Curve_lowEnd N h15 a v1) fun v18 h19 => bn ((jmn v14 (x3 - v18))) fun v20 => cl (f_K_clamp N h19 (0 : Int32) v11 v20) fun v21 h22 => some ((Sum.inl v21), h22)
def f_K_where_6 (N : Nat)  (h : hS) (th : Nat) (x3 : Int32) : Option ((Int32 ⊕ Nat) × hS) := clT (f_K_needX N h x3) fun _ h2 => f_K_where_10 N   h2 th x3
def f_K_where (N : Nat) (h : hS) (th : Nat) (x1 : Int32) (x2 : Int32) (x3 : Int32) : Option ((Int32 ⊕ Nat) × hS) := cvT h (some th) 12 (fun a => f_K_gatherTwo N h a x1 x2) fun _ h2 => f_K_where_6 N   h2 th x3
theorem mo_K_count_61 (N : Nat)  : ∀  (h : hS) (y0 : Option Nat), Mo h (f_K_count_61 N   h y0) := by
  intro h y0
  unfold f_K_count_61
  refine Mo_gI (fun v1 => ?_)
  exact Mo_some
theorem mo_K_count_56 (N : Nat)  : ∀  (h : hS) (th : Nat) (x1 : Int32), Mo h (f_K_count_56 N   h th x1) := by
  intro h th x1
  unfold f_K_count_56
  refine Mo_cvT (fun a => (mo_K_chainOf N h a x1)) (fun v1 h2 => ?_)
  exact mo_K_count_61 N   h2 v1
theorem mo_K_count (N : Nat) (h : hS) (th : Nat) (x1 : Int32) : Mo h (f_K_count N h th x1) := by
  unfold f_K_count
  refine Mo_ite ?_ ?_
  ·
    exact mo_K_count_56 N   h th x1
  ·
    refine Mo_ite ?_ ?_
    ·
      exact mo_K_count_56 N   h th x1
    ·
      refine Mo_ite ?_ ?_
      ·
        exact mo_K_count_56 N   h th x1
      ·
        refine Mo_ite ?_ ?_
        ·
          exact mo_K_count_56 N   h th x1
        ·
          refine Mo_ite ?_ ?_
          ·
            refine Mo_gR (fun v1 => ?_)
            refine Mo_gI (fun v2 => ?_)
            exact Mo_some
          ·
            refine Mo_ite ?_ ?_
            ·
              refine Mo_gR (fun v3 => ?_)
              refine Mo_gI (fun v4 => ?_)
              exact Mo_some
            ·
              refine Mo_ite ?_ ?_
              ·
                refine Mo_gI (fun v5 => ?_)
                exact Mo_some
              ·
                refine Mo_ite ?_ ?_
                ·
                  refine Mo_gR (fun v6 => ?_)
                  refine Mo_gR (fun v7 => ?_)
                  refine Mo_aI (fun v8 => ?_)
                  exact Mo_some
                ·
                  refine Mo_ite ?_ ?_
                  ·
                    refine Mo_gR (fun v9 => ?_)
                    refine Mo_gR (fun v10 => ?_)
                    refine Mo_aI (fun v11 => ?_)
                    exact Mo_some
                  ·
                    refine Mo_ite ?_ ?_
                    ·
                      refine Mo_gR (fun v12 => ?_)
                      refine Mo_gR (fun v13 => ?_)
                      refine Mo_aI (fun v14 => ?_)
                      exact Mo_some
                    ·
                      exact Mo_thr
theorem mo_K_stepOf_22 (N : Nat)  : ∀  (h : hS) (a3 : Option Nat), Mo h (f_K_stepOf_22 N   h a3) := by
  intro h a3
  unfold f_K_stepOf_22
  exact Mo_some
theorem mo_K_stepOf_19 (N : Nat)  : ∀  (h : hS) (a3 : Option Nat) (y0 : Int32), Mo h (f_K_stepOf_19 N   h a3 y0) := by
  intro h a3 y0
  unfold f_K_stepOf_19
  refine Mo_clT (mo_K_needSuch N h y0) (fun v1 h2 => ?_)
  exact mo_K_stepOf_22 N   h2 a3
theorem mo_K_stepOf_5 (N : Nat)  : ∀  (h : hS) (x2 : Int32) (y0 : Option Nat), Mo h (f_K_stepOf_5 N   h x2 y0) := by
  intro h x2 y0
  unfold f_K_stepOf_5
  refine Mo_cv (fun a => (Sh.mo (sh_Chain_stepAt N h a x2))) (fun v1 h2 => ?_)
  refine Mo_ite ?_ ?_
  · exact mo_K_stepOf_19 N   h2 v1 (0 : Int32)
  · exact mo_K_stepOf_19 N   h2 v1 (1 : Int32)
theorem mo_K_stepOf (N : Nat) (h : hS) (th : Nat) (x1 : Int32) (x2 : Int32) : Mo h (f_K_stepOf N h th x1 x2) := by
  unfold f_K_stepOf
  refine Mo_cvT (fun a => (mo_K_chainOf N h a x1)) (fun v1 h2 => ?_)
  exact mo_K_stepOf_5 N   h2 x2 v1
theorem mo_K_step_53 (N : Nat)  : ∀  (h : hS) (y0 : Int32), Mo h (f_K_step_53 N   h y0) := by
  intro h y0
  unfold f_K_step_53
  exact Mo_some
theorem mo_K_step_25 (N : Nat)  : ∀  (h : hS) (x3 : Int32) (a4 : Option Nat), Mo h (f_K_step_25 N   h x3 a4) := by
  intro h x3 a4
  unfold f_K_step_25
  refine Mo_ite ?_ ?_
  · refine Mo_gI (fun v3 => ?_)
    exact Mo_some
  · refine Mo_ite ?_ ?_
    · refine Mo_gI (fun v2 => ?_)
      exact mo_K_step_53 N   h v2
    · refine Mo_gI (fun v1 => ?_)
      exact mo_K_step_53 N   h v1
theorem mo_K_step_22 (N : Nat)  : ∀  (h : hS) (x3 : Int32) (a4 : Option Nat) (y0 : Int32), Mo h (f_K_step_22 N   h x3 a4 y0) := by
  intro h x3 a4 y0
  unfold f_K_step_22
  refine Mo_clT (mo_K_needSuch N h y0) (fun v1 h2 => ?_)
  exact mo_K_step_25 N   h2 x3 a4
theorem mo_K_step_21 (N : Nat)  : ∀  (h : hS) (x3 : Int32) (a4 : Option Nat), Mo h (f_K_step_21 N   h x3 a4) := by
  intro h x3 a4
  unfold f_K_step_21
  exact mo_K_step_22 N   h x3 a4 (0 : Int32)
theorem mo_K_step_6 (N : Nat)  : ∀  (h : hS) (x3 : Int32) (y0 : Option Nat), Mo h (f_K_step_6 N   h x3 y0) := by
  intro h x3 y0
  unfold f_K_step_6
  refine Mo_ite ?_ ?_
  · exact mo_K_step_21 N   h x3 y0
  · refine Mo_ite ?_ ?_
    · exact mo_K_step_21 N   h x3 y0
    · exact mo_K_step_22 N   h x3 y0 (1 : Int32)
theorem mo_K_step (N : Nat) (h : hS) (th : Nat) (x1 : Int32) (x2 : Int32) (x3 : Int32) : Mo h (f_K_step N h th x1 x2 x3) := by
  unfold f_K_step
  refine Mo_cvT (fun a => (mo_K_stepOf N h a x1 x2)) (fun v1 h2 => ?_)
  exact mo_K_step_6 N   h2 x3 v1
theorem sh_K_isX_19 (N : Nat)  : ∀  (h : hS) (y0 : Int32), Sh h (f_K_isX_19 N   h y0) := by
  intro h y0
  unfold f_K_isX_19
  exact Sh_bz Sh_some
theorem sh_K_isX_18 (N : Nat)  : ∀  (h : hS) , Sh h (f_K_isX_18 N   h ) := by
  intro h 
  unfold f_K_isX_18
  exact sh_K_isX_19 N   h (0 : Int32)
theorem sh_K_isX (N : Nat) (h : hS) (x0 : Int32) : Sh h (f_K_isX N h x0) := by
  unfold f_K_isX
  refine Sh_ite ?_ ?_
  · exact sh_K_isX_18 N   h 
  · refine Sh_ite ?_ ?_
    · exact sh_K_isX_18 N   h 
    · exact sh_K_isX_19 N   h (1 : Int32)
theorem mo_K_needX_7 (N : Nat)  : ∀  (h : hS) , Mo h (f_K_needX_7 N   h ) := by
  intro h 
  unfold f_K_needX_7
  exact Mo_some
theorem mo_K_needX (N : Nat) (h : hS) (x0 : Int32) : Mo h (f_K_needX N h x0) := by
  unfold f_K_needX
  refine Mo_cl (Sh.mo (sh_K_isX N h x0)) (fun v1 h2 => ?_)
  refine Mo_clT (mo_K_needFit N h2 v1) (fun v3 h4 => ?_)
  exact mo_K_needX_7 N   h4 
theorem mo_K_at_10 (N : Nat)  : ∀  (h : hS) (x2 : Int32) (a3 : Option Nat), Mo h (f_K_at_10 N   h x2 a3) := by
  intro h x2 a3
  unfold f_K_at_10
  refine Mo_cv (fun a => (Sh.mo (sh_Curve_valueAt N h a x2))) (fun v1 h2 => ?_)
  exact Mo_some
theorem mo_K_at_5 (N : Nat)  : ∀  (h : hS) (x2 : Int32) (y0 : Option Nat), Mo h (f_K_at_5 N   h x2 y0) := by
  intro h x2 y0
  unfold f_K_at_5
  refine Mo_clT (mo_K_needX N h x2) (fun v1 h2 => ?_)
  exact mo_K_at_10 N   h2 x2 y0
theorem mo_K_at (N : Nat) (h : hS) (th : Nat) (x1 : Int32) (x2 : Int32) : Mo h (f_K_at N h th x1 x2) := by
  unfold f_K_at
  refine Mo_cvT (fun a => (mo_K_curveOf N h a x1)) (fun v1 h2 => ?_)
  exact mo_K_at_5 N   h2 x2 v1
theorem mo_K_least_5 (N : Nat)  : ∀  (h : hS) (y0 : Option Nat), Mo h (f_K_least_5 N   h y0) := by
  intro h y0
  unfold f_K_least_5
  refine Mo_gJ (fun v1 => ?_)
  exact Mo_some
theorem mo_K_least (N : Nat) (h : hS) (th : Nat) (x1 : Int32) : Mo h (f_K_least N h th x1) := by
  unfold f_K_least
  refine Mo_cvT (fun a => (mo_K_curveOf N h a x1)) (fun v1 h2 => ?_)
  exact mo_K_least_5 N   h2 v1
theorem sh_K_isFar_19 (N : Nat)  : ∀  (h : hS) (y0 : Int32), Sh h (f_K_isFar_19 N   h y0) := by
  intro h y0
  unfold f_K_isFar_19
  exact Sh_bz Sh_some
theorem sh_K_isFar_14 (N : Nat)  : ∀  (h : hS) , Sh h (f_K_isFar_14 N   h ) := by
  intro h 
  unfold f_K_isFar_14
  exact sh_K_isFar_19 N   h (1 : Int32)
theorem sh_K_isFar (N : Nat) (h : hS) (x0 : Int32) : Sh h (f_K_isFar N h x0) := by
  unfold f_K_isFar
  refine Sh_ite ?_ ?_
  · exact sh_K_isFar_14 N   h 
  · refine Sh_ite ?_ ?_
    · exact sh_K_isFar_14 N   h 
    · exact sh_K_isFar_19 N   h (0 : Int32)
theorem sh_K_orNowhere_14 (N : Nat)  : ∀  (h : hS) (y0 : Int32), Sh h (f_K_orNowhere_14 N   h y0) := by
  intro h y0
  unfold f_K_orNowhere_14
  exact Sh_some
theorem sh_K_orNowhere (N : Nat) (h : hS) (x0 : Int32) : Sh h (f_K_orNowhere N h x0) := by
  unfold f_K_orNowhere
  refine Sh_cl (sh_K_isFar N h x0) (fun v1 h2 => ?_)
  refine Sh_ite ?_ ?_
  · exact sh_K_orNowhere_14 N   h2 x0
  · exact sh_K_orNowhere_14 N   h2 (-10000000 : Int32)
theorem mo_K_flat_5 (N : Nat)  : ∀  (h : hS) (x2 : Int32) (y0 : Option Nat), Mo h (f_K_flat_5 N   h x2 y0) := by
  intro h x2 y0
  unfold f_K_flat_5
  refine Mo_ite ?_ ?_
  ·
    refine Mo_cv (fun a => (Sh.mo (sh_Curve_lowEnd N h a (0 : Int32)))) (fun v1 h2 => ?_)
    refine Mo_cl (Sh.mo (sh_K_orNowhere N h2 v1)) (fun v3 h4 => ?_)
    exact Mo_some
  ·
    refine Mo_ite ?_ ?_
    ·
      refine Mo_cv (fun a => (Sh.mo (sh_Curve_highEnd N h a (0 : Int32)))) (fun v5 h6 => ?_)
      refine Mo_cl (Sh.mo (sh_K_orNowhere N h6 v5)) (fun v7 h8 => ?_)
      exact Mo_some
    ·
      refine Mo_ite ?_ ?_
      ·
        refine Mo_cv (fun a => (Sh.mo (sh_Curve_nearestToZero N h a (0 : Int32)))) (fun v9 h10 => ?_)
        exact Mo_some
      ·
        refine Mo_ite ?_ ?_
        ·
          refine Mo_gI (fun v11 => ?_)
          exact Mo_some
        ·
          refine Mo_ite ?_ ?_
          ·
            refine Mo_gI (fun v12 => ?_)
            exact Mo_some
          ·
            exact Mo_thr
theorem mo_K_flat (N : Nat) (h : hS) (th : Nat) (x1 : Int32) (x2 : Int32) : Mo h (f_K_flat N h th x1 x2) := by
  unfold f_K_flat
  refine Mo_cvT (fun a => (mo_K_curveOf N h a x1)) (fun v1 h2 => ?_)
  exact mo_K_flat_5 N   h2 x2 v1
theorem mo_K_kink_56 (N : Nat)  : ∀  (h : hS) (y0 : Int32), Mo h (f_K_kink_56 N   h y0) := by
  intro h y0
  unfold f_K_kink_56
  exact Mo_some
theorem mo_K_kink_37 (N : Nat)  : ∀  (h : hS) (x2 : Int32) (x3 : Int32) (a4 : Option Nat), Mo h (f_K_kink_37 N   h x2 x3 a4) := by
  intro h x2 x3 a4
  unfold f_K_kink_37
  refine Mo_ite ?_ ?_
  · refine Mo_cv (fun a => (Sh.mo (sh_Curve_placeOf N h a x2))) (fun v3 h4 => ?_)
    exact mo_K_kink_56 N   h4 v3
  · refine Mo_cv (fun a => (Sh.mo (sh_Curve_weightOf N h a x2))) (fun v1 h2 => ?_)
    exact mo_K_kink_56 N   h2 v1
theorem mo_K_kink_34 (N : Nat)  : ∀  (h : hS) (x2 : Int32) (x3 : Int32) (a4 : Option Nat) (y0 : Int32), Mo h (f_K_kink_34 N   h x2 x3 a4 y0) := by
  intro h x2 x3 a4 y0
  unfold f_K_kink_34
  refine Mo_clT (mo_K_needSuch N h y0) (fun v1 h2 => ?_)
  exact mo_K_kink_37 N   h2 x2 x3 a4
theorem mo_K_kink_33 (N : Nat)  : ∀  (h : hS) (x2 : Int32) (x3 : Int32) (a4 : Option Nat), Mo h (f_K_kink_33 N   h x2 x3 a4) := by
  intro h x2 x3 a4
  unfold f_K_kink_33
  exact mo_K_kink_34 N   h x2 x3 a4 (0 : Int32)
theorem mo_K_kink_29 (N : Nat)  : ∀  (h : hS) (x2 : Int32) (x3 : Int32) (a4 : Option Nat), Mo h (f_K_kink_29 N   h x2 x3 a4) := by
  intro h x2 x3 a4
  unfold f_K_kink_29
  exact mo_K_kink_34 N   h x2 x3 a4 (1 : Int32)
theorem mo_K_kink_5 (N : Nat)  : ∀  (h : hS) (x2 : Int32) (x3 : Int32) (y0 : Option Nat), Mo h (f_K_kink_5 N   h x2 x3 y0) := by
  intro h x2 x3 y0
  unfold f_K_kink_5
  refine Mo_ite ?_ ?_
  · exact mo_K_kink_33 N   h x2 x3 y0
  · refine Mo_gI (fun v1 => ?_)
    refine Mo_ite ?_ ?_
    · exact mo_K_kink_33 N   h x2 x3 y0
    · refine Mo_ite ?_ ?_
      · exact mo_K_kink_29 N   h x2 x3 y0
      · refine Mo_ite ?_ ?_
        · exact mo_K_kink_29 N   h x2 x3 y0
        · exact mo_K_kink_33 N   h x2 x3 y0
theorem mo_K_kink (N : Nat) (h : hS) (th : Nat) (x1 : Int32) (x2 : Int32) (x3 : Int32) : Mo h (f_K_kink N h th x1 x2 x3) := by
  unfold f_K_kink
  refine Mo_cvT (fun a => (mo_K_curveOf N h a x1)) (fun v1 h2 => ?_)
  exact mo_K_kink_5 N   h2 x2 x3 v1
theorem mo_K_slope_41 (N : Nat)  : ∀  (h : hS) (y0 : Option Nat) (y1 : Int32), Mo h (f_K_slope_41 N   h y0 y1) := by
  intro h y0 y1
  unfold f_K_slope_41
  refine Mo_cv (fun a => (Sh.mo (sh_Curve_slopeBehind N h a y1))) (fun v1 h2 => ?_)
  exact Mo_some
theorem mo_K_slope_28 (N : Nat)  : ∀  (h : hS) (x2 : Int32) (x3 : Int32) (a4 : Option Nat), Mo h (f_K_slope_28 N   h x2 x3 a4) := by
  intro h x2 x3 a4
  unfold f_K_slope_28
  refine Mo_ite ?_ ?_
  · exact mo_K_slope_41 N   h a4 (x2 - (1 : Int32))
  · exact mo_K_slope_41 N   h a4 x2
theorem mo_K_slope_24 (N : Nat)  : ∀  (h : hS) (x2 : Int32) (x3 : Int32) (a4 : Option Nat), Mo h (f_K_slope_24 N   h x2 x3 a4) := by
  intro h x2 x3 a4
  unfold f_K_slope_24
  refine Mo_clT (mo_K_needX N h x2) (fun v1 h2 => ?_)
  exact mo_K_slope_28 N   h2 x2 x3 a4
theorem mo_K_slope_21 (N : Nat)  : ∀  (h : hS) (x2 : Int32) (x3 : Int32) (a4 : Option Nat) (y0 : Int32), Mo h (f_K_slope_21 N   h x2 x3 a4 y0) := by
  intro h x2 x3 a4 y0
  unfold f_K_slope_21
  refine Mo_clT (mo_K_needSuch N h y0) (fun v1 h2 => ?_)
  exact mo_K_slope_24 N   h2 x2 x3 a4
theorem mo_K_slope_16 (N : Nat)  : ∀  (h : hS) (x2 : Int32) (x3 : Int32) (a4 : Option Nat), Mo h (f_K_slope_16 N   h x2 x3 a4) := by
  intro h x2 x3 a4
  unfold f_K_slope_16
  exact mo_K_slope_21 N   h x2 x3 a4 (1 : Int32)
theorem mo_K_slope_5 (N : Nat)  : ∀  (h : hS) (x2 : Int32) (x3 : Int32) (y0 : Option Nat), Mo h (f_K_slope_5 N   h x2 x3 y0) := by
  intro h x2 x3 y0
  unfold f_K_slope_5
  refine Mo_ite ?_ ?_
  · exact mo_K_slope_16 N   h x2 x3 y0
  · refine Mo_ite ?_ ?_
    · exact mo_K_slope_16 N   h x2 x3 y0
    · exact mo_K_slope_21 N   h x2 x3 y0 (0 : Int32)
theorem mo_K_slope (N : Nat) (h : hS) (th : Nat) (x1 : Int32) (x2 : Int32) (x3 : Int32) : Mo h (f_K_slope N h th x1 x2 x3) := by
  unfold f_K_slope
  refine Mo_cvT (fun a => (mo_K_curveOf N h a x1)) (fun v1 h2 => ?_)
  exact mo_K_slope_5 N   h2 x2 x3 v1
theorem mo_K_path_45 (N : Nat)  : ∀  (h : hS) (th : Nat) (x2 : Int32) (x3 : Int32), Mo h (f_K_path_45 N   h th x2 x3) := by
  intro h th x2 x3
  unfold f_K_path_45
  refine Mo_gR (fun v1 => ?_)
  refine Mo_cv (fun a => (Sh.mo (sh_Trail_placeBehind N h a x3 x2))) (fun v2 h3 => ?_)
  exact Mo_some
theorem mo_K_path_32 (N : Nat)  : ∀  (h : hS) (th : Nat) (x2 : Int32) (x3 : Int32) (a4 : Option Nat), Mo h (f_K_path_32 N   h th x2 x3 a4) := by
  intro h th x2 x3 a4
  unfold f_K_path_32
  refine Mo_gR (fun v1 => ?_)
  refine Mo_gR (fun v2 => ?_)
  refine Mo_cv (fun a => (mo_Trail_lay N h a a4 v2)) (fun v3 h4 => ?_)
  exact mo_K_path_45 N   h4 th x2 x3
theorem mo_K_path_28 (N : Nat)  : ∀  (h : hS) (th : Nat) (x2 : Int32) (x3 : Int32) (a4 : Option Nat), Mo h (f_K_path_28 N   h th x2 x3 a4) := by
  intro h th x2 x3 a4
  unfold f_K_path_28
  refine Mo_clT (mo_K_needX N h x2) (fun v1 h2 => ?_)
  exact mo_K_path_32 N   h2 th x2 x3 a4
theorem mo_K_path_25 (N : Nat)  : ∀  (h : hS) (th : Nat) (x2 : Int32) (x3 : Int32) (a4 : Option Nat) (y0 : Int32), Mo h (f_K_path_25 N   h th x2 x3 a4 y0) := by
  intro h th x2 x3 a4 y0
  unfold f_K_path_25
  refine Mo_clT (mo_K_needSuch N h y0) (fun v1 h2 => ?_)
  exact mo_K_path_28 N   h2 th x2 x3 a4
theorem mo_K_path_24 (N : Nat)  : ∀  (h : hS) (th : Nat) (x2 : Int32) (x3 : Int32) (a4 : Option Nat), Mo h (f_K_path_24 N   h th x2 x3 a4) := by
  intro h th x2 x3 a4
  unfold f_K_path_24
  exact mo_K_path_25 N   h th x2 x3 a4 (0 : Int32)
theorem mo_K_path_5 (N : Nat)  : ∀  (h : hS) (th : Nat) (x2 : Int32) (x3 : Int32) (y0 : Option Nat), Mo h (f_K_path_5 N   h th x2 x3 y0) := by
  intro h th x2 x3 y0
  unfold f_K_path_5
  refine Mo_ite ?_ ?_
  · exact mo_K_path_24 N   h th x2 x3 y0
  · refine Mo_gI (fun v1 => ?_)
    refine Mo_ite ?_ ?_
    · exact mo_K_path_24 N   h th x2 x3 y0
    · exact mo_K_path_25 N   h th x2 x3 y0 (1 : Int32)
theorem mo_K_path (N : Nat) (h : hS) (th : Nat) (x1 : Int32) (x2 : Int32) (x3 : Int32) : Mo h (f_K_path N h th x1 x2 x3) := by
  unfold f_K_path
  refine Mo_cvT (fun a => (mo_K_chainOf N h a x1)) (fun v1 h2 => ?_)
  exact mo_K_path_5 N   h2 th x2 x3 v1
theorem mo_K_paid_48 (N : Nat)  : ∀  (h : hS) (y0 : Int64), Mo h (f_K_paid_48 N   h y0) := by
  intro h y0
  unfold f_K_paid_48
  exact Mo_some
theorem mo_K_paid_28 (N : Nat)  : ∀  (h : hS) (th : Nat) (x2 : Int32) (x3 : Int32) (a4 : Option Nat), Mo h (f_K_paid_28 N   h th x2 x3 a4) := by
  intro h th x2 x3 a4
  unfold f_K_paid_28
  refine Mo_gR (fun v1 => ?_)
  refine Mo_gR (fun v2 => ?_)
  refine Mo_cv (fun a => (Sh.mo (sh_Trail_placeBehind N h a (x3 + (1 : Int32)) x2))) (fun v3 h4 => ?_)
  refine Mo_cv (fun a => (mo_Bench_costBy N h4 a a4 v3)) (fun v5 h6 => ?_)
  exact mo_K_paid_48 N   h6 v5
theorem mo_K_paid_21 (N : Nat)  : ∀  (h : hS) (th : Nat) (x2 : Int32) (x3 : Int32) (a4 : Option Nat) (y0 : Option Nat) (y1 : Option Nat), Mo h (f_K_paid_21 N   h th x2 x3 a4 y0 y1) := by
  intro h th x2 x3 a4 y0 y1
  unfold f_K_paid_21
  refine Mo_gR (fun v1 => ?_)
  refine Mo_cv (fun a => (mo_Trail_lay N h a y1 v1)) (fun v2 h3 => ?_)
  exact mo_K_paid_28 N   h3 th x2 x3 a4
theorem mo_K_paid_12 (N : Nat)  : ∀  (h : hS) (th : Nat) (x1 : Int32) (x2 : Int32) (x3 : Int32) (a4 : Option Nat), Mo h (f_K_paid_12 N   h th x1 x2 x3 a4) := by
  intro h th x1 x2 x3 a4
  unfold f_K_paid_12
  refine Mo_gR (fun v1 => ?_)
  refine Mo_cvT (fun a => (mo_K_chainOf N h a x1)) (fun v2 h3 => ?_)
  exact mo_K_paid_21 N   h3 th x2 x3 a4 v1 v2
theorem mo_K_paid_6 (N : Nat)  : ∀  (h : hS) (th : Nat) (x1 : Int32) (x2 : Int32) (x3 : Int32) (y0 : Option Nat), Mo h (f_K_paid_6 N   h th x1 x2 x3 y0) := by
  intro h th x1 x2 x3 y0
  unfold f_K_paid_6
  refine Mo_clT (mo_K_needX N h x2) (fun v1 h2 => ?_)
  exact mo_K_paid_12 N   h2 th x1 x2 x3 y0
theorem mo_K_paid (N : Nat) (h : hS) (th : Nat) (x1 : Int32) (x2 : Int32) (x3 : Int32) : Mo h (f_K_paid N h th x1 x2 x3) := by
  unfold f_K_paid
  refine Mo_cvT (fun a => (mo_K_stepOf N h a x1 x3)) (fun v1 h2 => ?_)
  exact mo_K_paid_6 N   h2 th x1 x2 x3 v1
theorem sh_K_farthestWithin_74 (N : Nat)  : ∀  (h : hS) (x4 : Int32), Sh h (f_K_farthestWithin_74 N   h x4) := by
  intro h x4
  unfold f_K_farthestWithin_74
  exact Sh_some
theorem sh_K_farthestWithin_68 (N : Nat) {rc9 : hS → Option Nat → Int32 → Int32 → Int32 → Int32 → Int32 → Int32 → Option (Int32 × hS)} (hsh9 : ∀ (h : hS) (a0 : Option Nat) (x1 : Int32) (x2 : Int32) (x3 : Int32) (x4 : Int32) (x5 : Int32) (x6 : Int32), Sh h (rc9 h a0 x1 x2 x3 x4 x5 x6)) : ∀  (h : hS) (a0 : Option Nat) (x1 : Int32) (x2 : Int32) (x3 : Int32) (x4 : Int32) (x5 : Int32) (x6 : Int32), Sh h (f_K_farthestWithin_68 N rc9  h a0 x1 x2 x3 x4 x5 x6) := by
  intro h a0 x1 x2 x3 x4 x5 x6
  unfold f_K_farthestWithin_68
  refine Sh_bn (fun v1 => ?_)
  exact hsh9 h a0 x1 x2 x3 x4 x5 v1
theorem sh_K_farthestWithin_9 (N : Nat)  : ∀ (n : Nat) (h : hS) (a0 : Option Nat) (x1 : Int32) (x2 : Int32) (x3 : Int32) (x4 : Int32) (x5 : Int32) (x6 : Int32), Sh h (f_K_farthestWithin_9 N  n h a0 x1 x2 x3 x4 x5 x6) := by
  intro n
  induction n with
  | zero =>
    intro h a0 x1 x2 x3 x4 x5 x6
    exact Sh_none
  | succ n ih =>
    intro h a0 x1 x2 x3 x4 x5 x6
    unfold f_K_farthestWithin_9
    refine Sh_ite ?_ ?_
    · exact sh_K_farthestWithin_74 N   h x4
    · refine Sh_ite ?_ ?_
      · exact sh_K_farthestWithin_74 N   h x4
      · refine Sh_dv ?_
        refine Sh_bn (fun v1 => ?_)
        refine Sh_cv (fun a => (sh_Curve_valueAt N h a (x1 + (x2 * v1)))) (fun v2 h3 => ?_)
        refine Sh_gJ (fun v4 => ?_)
        refine Sh_ite ?_ ?_
        · refine Sh_bn (fun v5 => ?_)
          exact sh_K_farthestWithin_68 N ih  h3 a0 x1 x2 x3 x4 v5 x6
        · exact sh_K_farthestWithin_68 N ih  h3 a0 x1 x2 x3 v1 x5 x6
theorem sh_K_farthestWithin (N : Nat) (h : hS) (a0 : Option Nat) (x1 : Int32) (x2 : Int32) (x3 : Int32) : Sh h (f_K_farthestWithin N h a0 x1 x2 x3) := by
  unfold f_K_farthestWithin
  exact sh_K_farthestWithin_9 N  N h a0 x1 x2 x3 (0 : Int32) x3 (0 : Int32)
theorem mo_K_off_73 (N : Nat)  : ∀  (h : hS) (x2 : Int32) (a4 : Option Nat) (x5 : Int32) (y0 : Int32), Mo h (f_K_off_73 N   h x2 a4 x5 y0) := by
  intro h x2 a4 x5 y0
  unfold f_K_off_73
  refine Mo_cl (Sh.mo (sh_K_isFar N h x5)) (fun v1 h2 => ?_)
  refine Mo_ite ?_ ?_
  · refine Mo_cl (Sh.mo (sh_K_farthestWithin N h2 a4 x5 y0 x2)) (fun v3 h4 => ?_)
    exact Mo_some
  · exact Mo_some
theorem mo_K_off_62 (N : Nat)  : ∀  (h : hS) (x2 : Int32) (x3 : Int32) (a4 : Option Nat) (y0 : Int32), Mo h (f_K_off_62 N   h x2 x3 a4 y0) := by
  intro h x2 x3 a4 y0
  unfold f_K_off_62
  refine Mo_ite ?_ ?_
  · exact mo_K_off_73 N   h x2 a4 y0 (-1 : Int32)
  · exact mo_K_off_73 N   h x2 a4 y0 (1 : Int32)
theorem mo_K_off_43 (N : Nat)  : ∀  (h : hS) (x2 : Int32) (x3 : Int32) (a4 : Option Nat), Mo h (f_K_off_43 N   h x2 x3 a4) := by
  intro h x2 x3 a4
  unfold f_K_off_43
  refine Mo_ite ?_ ?_
  · refine Mo_cv (fun a => (Sh.mo (sh_Curve_lowEnd N h a (0 : Int32)))) (fun v3 h4 => ?_)
    exact mo_K_off_62 N   h4 x2 x3 a4 v3
  · refine Mo_cv (fun a => (Sh.mo (sh_Curve_highEnd N h a (0 : Int32)))) (fun v1 h2 => ?_)
    exact mo_K_off_62 N   h2 x2 x3 a4 v1
theorem mo_K_off_40 (N : Nat)  : ∀  (h : hS) (x2 : Int32) (x3 : Int32) (a4 : Option Nat) (y0 : Int32), Mo h (f_K_off_40 N   h x2 x3 a4 y0) := by
  intro h x2 x3 a4 y0
  unfold f_K_off_40
  refine Mo_clT (mo_K_needFit N h y0) (fun v1 h2 => ?_)
  exact mo_K_off_43 N   h2 x2 x3 a4
theorem mo_K_off_39 (N : Nat)  : ∀  (h : hS) (x2 : Int32) (x3 : Int32) (a4 : Option Nat), Mo h (f_K_off_39 N   h x2 x3 a4) := by
  intro h x2 x3 a4
  unfold f_K_off_39
  exact mo_K_off_40 N   h x2 x3 a4 (0 : Int32)
theorem mo_K_off_24 (N : Nat)  : ∀  (h : hS) (x2 : Int32) (x3 : Int32) (a4 : Option Nat), Mo h (f_K_off_24 N   h x2 x3 a4) := by
  intro h x2 x3 a4
  unfold f_K_off_24
  refine Mo_ite ?_ ?_
  · exact mo_K_off_39 N   h x2 x3 a4
  · refine Mo_ite ?_ ?_
    · exact mo_K_off_39 N   h x2 x3 a4
    · exact mo_K_off_40 N   h x2 x3 a4 (1 : Int32)
theorem mo_K_off_21 (N : Nat)  : ∀  (h : hS) (x2 : Int32) (x3 : Int32) (a4 : Option Nat) (y0 : Int32), Mo h (f_K_off_21 N   h x2 x3 a4 y0) := by
  intro h x2 x3 a4 y0
  unfold f_K_off_21
  refine Mo_clT (mo_K_needSuch N h y0) (fun v1 h2 => ?_)
  exact mo_K_off_24 N   h2 x2 x3 a4
theorem mo_K_off_16 (N : Nat)  : ∀  (h : hS) (x2 : Int32) (x3 : Int32) (a4 : Option Nat), Mo h (f_K_off_16 N   h x2 x3 a4) := by
  intro h x2 x3 a4
  unfold f_K_off_16
  exact mo_K_off_21 N   h x2 x3 a4 (1 : Int32)
theorem mo_K_off_5 (N : Nat)  : ∀  (h : hS) (x2 : Int32) (x3 : Int32) (y0 : Option Nat), Mo h (f_K_off_5 N   h x2 x3 y0) := by
  intro h x2 x3 y0
  unfold f_K_off_5
  refine Mo_ite ?_ ?_
  · exact mo_K_off_16 N   h x2 x3 y0
  · refine Mo_ite ?_ ?_
    · exact mo_K_off_16 N   h x2 x3 y0
    · exact mo_K_off_21 N   h x2 x3 y0 (0 : Int32)
theorem mo_K_off (N : Nat) (h : hS) (th : Nat) (x1 : Int32) (x2 : Int32) (x3 : Int32) : Mo h (f_K_off N h th x1 x2 x3) := by
  unfold f_K_off
  refine Mo_cvT (fun a => (mo_K_curveOf N h a x1)) (fun v1 h2 => ?_)
  exact mo_K_off_5 N   h2 x2 x3 v1
theorem mo_K_gatherTwo_29 (N : Nat)  : ∀  (h : hS) (y0 : Option Nat) (y1 : Int32) (y2 : Option Nat), Mo h (f_K_gatherTwo_29 N   h y0 y1 y2) := by
  intro h y0 y1 y2
  unfold f_K_gatherTwo_29
  refine Mo_uR (fun h1 => ?_)
  exact Mo_some
theorem mo_K_gatherTwo_18 (N : Nat)  : ∀  (h : hS) (th : Nat) (x2 : Int32) (y0 : Option Nat) (y1 : Int32) (y2 : Option Nat), Mo h (f_K_gatherTwo_18 N   h th x2 y0 y1 y2) := by
  intro h th x2 y0 y1 y2
  unfold f_K_gatherTwo_18
  refine Mo_uR (fun h1 => ?_)
  refine Mo_gR (fun v2 => ?_)
  refine Mo_cvT (fun a => (mo_K_curveOf N h1 a x2)) (fun v3 h4 => ?_)
  exact mo_K_gatherTwo_29 N   h4 v2 (1 : Int32) v3
theorem mo_K_gatherTwo_8 (N : Nat)  : ∀  (h : hS) (th : Nat) (x1 : Int32) (x2 : Int32), Mo h (f_K_gatherTwo_8 N   h th x1 x2) := by
  intro h th x1 x2
  unfold f_K_gatherTwo_8
  refine Mo_gR (fun v1 => ?_)
  refine Mo_cvT (fun a => (mo_K_curveOf N h a x1)) (fun v2 h3 => ?_)
  exact mo_K_gatherTwo_18 N   h3 th x2 v1 (0 : Int32) v2
theorem mo_K_gatherTwo_4 (N : Nat)  : ∀  (h : hS) (th : Nat) (x1 : Int32) (x2 : Int32), Mo h (f_K_gatherTwo_4 N   h th x1 x2) := by
  intro h th x1 x2
  unfold f_K_gatherTwo_4
  refine Mo_clT (mo_K_needCost N h x2) (fun v1 h2 => ?_)
  exact mo_K_gatherTwo_8 N   h2 th x1 x2
theorem mo_K_gatherTwo (N : Nat) (h : hS) (th : Nat) (x1 : Int32) (x2 : Int32) : Mo h (f_K_gatherTwo N h th x1 x2) := by
  unfold f_K_gatherTwo
  refine Mo_clT (mo_K_needCost N h x1) (fun v1 h2 => ?_)
  exact mo_K_gatherTwo_4 N   h2 th x1 x2
theorem sh_Mth_floorDiv_7cf53_21 (N : Nat)  : ∀  (h : hS) (x2 : Int32), Sh h (f_Mth_floorDiv_7cf53_21 N   h x2) := by
  intro h x2
  unfold f_Mth_floorDiv_7cf53_21
  exact Sh_some
theorem sh_Mth_floorDiv_7cf53 (N : Nat) (h : hS) (x0 : Int32) (x1 : Int32) : Sh h (f_Mth_floorDiv_7cf53 N h x0 x1) := by
  unfold f_Mth_floorDiv_7cf53
  refine Sh_dv ?_
  refine Sh_bn (fun v1 => ?_)
  refine Sh_ite ?_ ?_
  · exact sh_Mth_floorDiv_7cf53_21 N   h v1
  · refine Sh_ite ?_ ?_
    · exact sh_Mth_floorDiv_7cf53_21 N   h v1
    · exact Sh_some
theorem sh_K_highEndsTogether_42 (N : Nat)  : ∀  (h : hS) (x3 : Int64), Sh h (f_K_highEndsTogether_42 N   h x3) := by
  intro h x3
  unfold f_K_highEndsTogether_42
  exact Sh_some
theorem sh_K_highEndsTogether_5 (N : Nat)  : ∀ (n : Nat) (h : hS) (th : Nat) (x1 : Int32) (x2 : Int32) (x3 : Int64) (x5 : Int32), Sh h (f_K_highEndsTogether_5 N  n h th x1 x2 x3 x5) := by
  intro n
  induction n with
  | zero =>
    intro h th x1 x2 x3 x5
    exact Sh_none
  | succ n ih =>
    intro h th x1 x2 x3 x5
    unfold f_K_highEndsTogether_5
    refine Sh_ite ?_ ?_
    · exact sh_K_highEndsTogether_42 N   h x3
    · refine Sh_gR (fun v1 => ?_)
      refine Sh_lnA (fun v2 => ?_)
      refine Sh_ite ?_ ?_
      · exact sh_K_highEndsTogether_42 N   h x3
      · refine Sh_gR (fun v3 => ?_)
        refine Sh_aR (fun v4 => ?_)
        refine Sh_cv (fun a => (sh_Curve_highEnd N h a x2)) (fun v5 h6 => ?_)
        refine Sh_bn (fun v7 => ?_)
        refine Sh_bn (fun v8 => ?_)
        exact ih h6 th x1 x2 v7 v8
theorem sh_K_highEndsTogether (N : Nat) (h : hS) (th : Nat) (x1 : Int32) (x2 : Int32) : Sh h (f_K_highEndsTogether N h th x1 x2) := by
  unfold f_K_highEndsTogether
  exact sh_K_highEndsTogether_5 N  N h th x1 x2 (0 : Int64) (0 : Int32)
theorem sh_K_commonSlope_135 (N : Nat)  : ∀  (h : hS) (x3 : Int32), Sh h (f_K_commonSlope_135 N   h x3) := by
  intro h x3
  unfold f_K_commonSlope_135
  exact Sh_some
theorem sh_K_commonSlope_129 (N : Nat) {rc81 : hS → Nat → Int32 → Int32 → Int32 → Int32 → Int32 → Option (Int32 × hS)} (hsh81 : ∀ (h : hS) (th : Nat) (x1 : Int32) (x2 : Int32) (x3 : Int32) (x4 : Int32) (x5 : Int32), Sh h (rc81 h th x1 x2 x3 x4 x5)) : ∀  (h : hS) (th : Nat) (x1 : Int32) (x2 : Int32) (x3 : Int32) (x4 : Int32) (x5 : Int32), Sh h (f_K_commonSlope_129 N rc81  h th x1 x2 x3 x4 x5) := by
  intro h th x1 x2 x3 x4 x5
  unfold f_K_commonSlope_129
  refine Sh_bn (fun v1 => ?_)
  exact hsh81 h th x1 x2 x3 x4 v1
theorem sh_K_commonSlope_81 (N : Nat)  : ∀ (n : Nat) (h : hS) (th : Nat) (x1 : Int32) (x2 : Int32) (x3 : Int32) (x4 : Int32) (x5 : Int32), Sh h (f_K_commonSlope_81 N  n h th x1 x2 x3 x4 x5) := by
  intro n
  induction n with
  | zero =>
    intro h th x1 x2 x3 x4 x5
    exact Sh_none
  | succ n ih =>
    intro h th x1 x2 x3 x4 x5
    unfold f_K_commonSlope_81
    refine Sh_ite ?_ ?_
    · exact sh_K_commonSlope_135 N   h x3
    · refine Sh_ite ?_ ?_
      · exact sh_K_commonSlope_135 N   h x3
      · refine Sh_cl (sh_Mth_floorDiv_7cf53 N h (x3 + x4) (2 : Int32)) (fun v1 h2 => ?_)
        refine Sh_cv (fun a => (sh_K_highEndsTogether N h2 a x1 v1)) (fun v3 h4 => ?_)
        refine Sh_ite ?_ ?_
        · refine Sh_bn (fun v5 => ?_)
          exact sh_K_commonSlope_129 N ih  h4 th x1 x2 v5 x4 x5
        · exact sh_K_commonSlope_129 N ih  h4 th x1 x2 x3 v1 x5
theorem sh_K_commonSlope_78 (N : Nat)  : ∀  (h : hS) (th : Nat) (x1 : Int32) (x2 : Int32) (x3 : Int32) (x4 : Int32), Sh h (f_K_commonSlope_78 N   h th x1 x2 x3 x4) := by
  intro h th x1 x2 x3 x4
  unfold f_K_commonSlope_78
  exact sh_K_commonSlope_81 N  N h th x1 x2 x3 x4 (0 : Int32)
theorem sh_K_commonSlope_12 (N : Nat)  : ∀ (n : Nat) (h : hS) (th : Nat) (x1 : Int32) (x2 : Int32) (x3 : Int32) (x4 : Int32) (x5 : Int32), Sh h (f_K_commonSlope_12 N  n h th x1 x2 x3 x4 x5) := by
  intro n
  induction n with
  | zero =>
    intro h th x1 x2 x3 x4 x5
    exact Sh_none
  | succ n ih =>
    intro h th x1 x2 x3 x4 x5
    unfold f_K_commonSlope_12
    refine Sh_ite ?_ ?_
    · exact sh_K_commonSlope_78 N   h th x1 x2 x3 x4
    · refine Sh_gR (fun v1 => ?_)
      refine Sh_lnA (fun v2 => ?_)
      refine Sh_ite ?_ ?_
      · exact sh_K_commonSlope_78 N   h th x1 x2 x3 x4
      · refine Sh_gR (fun v3 => ?_)
        refine Sh_aR (fun v4 => ?_)
        refine Sh_gI (fun v5 => ?_)
        refine Sh_bn (fun v6 => ?_)
        refine Sh_gR (fun v7 => ?_)
        refine Sh_aR (fun v8 => ?_)
        refine Sh_gI (fun v9 => ?_)
        refine Sh_gR (fun v10 => ?_)
        refine Sh_aR (fun v11 => ?_)
        refine Sh_gI (fun v12 => ?_)
        refine Sh_bn (fun v13 => ?_)
        refine Sh_bn (fun v14 => ?_)
        exact ih h th x1 x2 v6 v13 v14
theorem sh_K_commonSlope (N : Nat) (h : hS) (th : Nat) (x1 : Int32) (x2 : Int32) : Sh h (f_K_commonSlope N h th x1 x2) := by
  unfold f_K_commonSlope
  exact sh_K_commonSlope_12 N  N h th x1 x2 (-5000 : Int32) (5000 : Int32) (0 : Int32)
theorem sh_K_sharedValue_76 (N : Nat)  : ∀  (h : hS) (x5 : Int64), Sh h (f_K_sharedValue_76 N   h x5) := by
  intro h x5
  unfold f_K_sharedValue_76
  exact Sh_some
theorem sh_K_sharedValue_17 (N : Nat)  : ∀ (n : Nat) (h : hS) (th : Nat) (x1 : Int32) (x3 : Int64) (x5 : Int64) (x7 : Int32), Sh h (f_K_sharedValue_17 N  n h th x1 x3 x5 x7) := by
  intro n
  induction n with
  | zero =>
    intro h th x1 x3 x5 x7
    exact Sh_none
  | succ n ih =>
    intro h th x1 x3 x5 x7
    unfold f_K_sharedValue_17
    refine Sh_ite ?_ ?_
    · exact sh_K_sharedValue_76 N   h x5
    · refine Sh_gR (fun v1 => ?_)
      refine Sh_lnA (fun v2 => ?_)
      refine Sh_ite ?_ ?_
      · exact sh_K_sharedValue_76 N   h x5
      · refine Sh_gR (fun v3 => ?_)
        refine Sh_aR (fun v4 => ?_)
        refine Sh_cv (fun a => (sh_Curve_nearestToZero N h a x3.toInt32)) (fun v5 h6 => ?_)
        refine Sh_gR (fun v7 => ?_)
        refine Sh_aR (fun v8 => ?_)
        refine Sh_cv (fun a => (sh_Curve_valueAt N h6 a v5)) (fun v9 h10 => ?_)
        refine Sh_bn (fun v11 => ?_)
        refine Sh_bn (fun v12 => ?_)
        exact ih h10 th x1 x3 v11 v12
theorem sh_K_sharedValue (N : Nat) (h : hS) (th : Nat) (x1 : Int32) (x2 : Int32) : Sh h (f_K_sharedValue N h th x1 x2) := by
  unfold f_K_sharedValue
  refine Sh_cv (fun a => (sh_K_commonSlope N h a x1 x2)) (fun v1 h2 => ?_)
  refine Sh_bn (fun v3 => ?_)
  refine Sh_bn (fun v4 => ?_)
  exact sh_K_sharedValue_17 N  N h2 th x1 v3 v4 (0 : Int32)
theorem mo_K_split_10 (N : Nat)  : ∀  (h : hS) (th : Nat) (x3 : Int32), Mo h (f_K_split_10 N   h th x3) := by
  intro h th x3
  unfold f_K_split_10
  refine Mo_cv (fun a => (Sh.mo (sh_K_sharedValue N h a (2 : Int32) x3))) (fun v1 h2 => ?_)
  exact Mo_some
theorem mo_K_split_6 (N : Nat)  : ∀  (h : hS) (th : Nat) (x3 : Int32), Mo h (f_K_split_6 N   h th x3) := by
  intro h th x3
  unfold f_K_split_6
  refine Mo_clT (mo_K_needX N h x3) (fun v1 h2 => ?_)
  exact mo_K_split_10 N   h2 th x3
theorem mo_K_split (N : Nat) (h : hS) (th : Nat) (x1 : Int32) (x2 : Int32) (x3 : Int32) : Mo h (f_K_split N h th x1 x2 x3) := by
  unfold f_K_split
  refine Mo_cvT (fun a => (mo_K_gatherTwo N h a x1 x2)) (fun v1 h2 => ?_)
  exact mo_K_split_6 N   h2 th x3
theorem mo_K_where_10 (N : Nat)  : ∀  (h : hS) (th : Nat) (x3 : Int32), Mo h (f_K_where_10 N   h th x3) := by
  intro h th x3
  unfold f_K_where_10
  refine Mo_cv (fun a => (Sh.mo (sh_K_commonSlope N h a (2 : Int32) x3))) (fun v1 h2 => ?_)
  refine Mo_gR (fun v3 => ?_)
  refine Mo_aR (fun v4 => ?_)
  refine Mo_cv (fun a => (Sh.mo (sh_Curve_lowEnd N h2 a v1))) (fun v5 h6 => ?_)
  refine Mo_gR (fun v7 => ?_)
  refine Mo_aR (fun v8 => ?_)
  refine Mo_cv (fun a => (Sh.mo (sh_Curve_highEnd N h6 a v1))) (fun v9 h10 => ?_)
  refine Mo_bn (fun v11 => ?_)
  refine Mo_gR (fun v12 => ?_)
  refine Mo_aR (fun v13 => ?_)
  refine Mo_cv (fun a => (Sh.mo (sh_Curve_highEnd N h10 a v1))) (fun v14 h15 => ?_)
  refine Mo_gR (fun v16 => ?_)
  refine Mo_aR (fun v17 => ?_)
  refine Mo_cv (fun a => (Sh.mo (sh_Curve_lowEnd N h15 a v1))) (fun v18 h19 => ?_)
  refine Mo_bn (fun v20 => ?_)
  refine Mo_cl (Sh.mo (sh_K_clamp N h19 (0 : Int32) v11 v20)) (fun v21 h22 => ?_)
  exact Mo_some
theorem mo_K_where_6 (N : Nat)  : ∀  (h : hS) (th : Nat) (x3 : Int32), Mo h (f_K_where_6 N   h th x3) := by
  intro h th x3
  unfold f_K_where_6
  refine Mo_clT (mo_K_needX N h x3) (fun v1 h2 => ?_)
  exact mo_K_where_10 N   h2 th x3
theorem mo_K_where (N : Nat) (h : hS) (th : Nat) (x1 : Int32) (x2 : Int32) (x3 : Int32) : Mo h (f_K_where N h th x1 x2 x3) := by
  unfold f_K_where
  refine Mo_cvT (fun a => (mo_K_gatherTwo N h a x1 x2)) (fun v1 h2 => ?_)
  exact mo_K_where_6 N   h2 th x3
set_option maxRecDepth 20000 in
set_option maxHeartbeats 4000000 in
theorem b_K_count_61 {p : Program} {l : Launch} {e : Env} {s : State} {m : MethodId} {args : Array Value} {below : List Frame} {meth : Method} {c : Code} {D : va_G} {cy : cyT} {z : Nat} (C : MX p s m args meth c cX11_count 2 ((some .int)) RX11 (Cond.code yX11_count cX11_count 2 ((some .int)) :: GW)) (hst : l.stackTraces = false) (hxt : ∀ x ∈ c.exceptionTable.toList, False) (N : Nat) (n0 s0 : Nat) (hn0 : s.heap.size = n0) {r : (Int32 ⊕ Nat)} {g : hS}  : ∀  (cells slots : Nat) (h : hS) (y0 : Option Nat) (H : Heap) (locs : List Loc) (ls : Array Slot), wd D cy z s cells h H locs → h_s h = s0 + slots → lv_has ls 2 [] → f_K_count_61 N   h y0 = some (r, g) → W p l e { frames := 9, cells := h_x g - n0, slots := h_s g - s0, locals := 143 } s m args below meth c H locs cells slots (eT D cy z rI r g below args s (h_x g - n0) (h_s g - s0)) (F0 m 61 ls [va_rf y0]) := by
  obtain ⟨hx, hb, hr, hml, hown, hts, hlk⟩ := id C
  intro cells slots h y0 H locs ls w hsl hl hE
  have hcc : cells ≤ h_x g - n0 ∧ slots ≤ h_s g - s0 := by
    have q1 := mo_K_count_61 N  h y0 _ _ hE
    have q2 := wd_x w
    have q3 := q1.1
    have q4 := q1.2.1
    omega
  unfold f_K_count_61 at hE
  refine w_gI (r := y0) (ci := 2) (k := 1) C w rfl (by decide) (GF_wsX10 _) (by decide) rfl (List.mem_cons_of_mem _ gw_23_10) rfl dX11_count_61 hE (fun v1 e1 => ?_)
  refine W.widen (k := h_x g - n0) (n := h_s g - s0) hcc.1 hcc.2 ?_
  exact w_iretT C w e1 dX11_count_64
set_option maxRecDepth 20000 in
set_option maxHeartbeats 4000000 in
theorem b_K_count_56 {p : Program} {l : Launch} {e : Env} {s : State} {m : MethodId} {args : Array Value} {below : List Frame} {meth : Method} {c : Code} {D : va_G} {cy : cyT} {z : Nat} (C : MX p s m args meth c cX11_count 2 ((some .int)) RX11 (Cond.code yX11_count cX11_count 2 ((some .int)) :: GW)) (hst : l.stackTraces = false) (hxt : ∀ x ∈ c.exceptionTable.toList, False) (N : Nat) (n0 s0 : Nat) (hn0 : s.heap.size = n0) {r : (Int32 ⊕ Nat)} {g : hS}  : ∀  (cells slots : Nat) (h : hS) (th : Nat) (x1 : Int32) (H : Heap) (locs : List Loc) (ls : Array Slot), wd D cy z s cells h H locs → h_s h = s0 + slots → lv_has ls 2 [(0, .ref th), (1, .int x1)] → f_K_count_56 N   h th x1 = some (r, g) → W p l e { frames := 9, cells := h_x g - n0, slots := h_s g - s0, locals := 143 } s m args below meth c H locs cells slots (eT D cy z rI r g below args s (h_x g - n0) (h_s g - s0)) (F0 m 56 ls []) := by
  obtain ⟨hx, hb, hr, hml, hown, hts, hlk⟩ := id C
  intro cells slots h th x1 H locs ls w hsl hl hE
  have hcc : cells ≤ h_x g - n0 ∧ slots ≤ h_s g - s0 := by
    have q1 := mo_K_count_56 N  h th x1 _ _ hE
    have q2 := wd_x w
    have q3 := q1.1
    have q4 := q1.2.1
    omega
  unfold f_K_count_56 at hE
  refine lv_aload_n hx hb dX11_count_56 rfl (lv_at hl 0 rfl) ?_
  refine lv_iload_n hx hb dX11_count_57 rfl (lv_at hl 1 rfl) ?_
  refine w_VTR GW_good (n := 1) (F := 8) (Lc := 122) (ob := some th) (av := [.int x1]) (rest := []) hxt hn0 hsl C w rfl (by decide) (fun a r g hf => k_K_chainOf l hst D cy z N h a x1 r g hf) gw_32_8 gw_32_9 gw_32_10 gw_1_2 gw_32_11 (by decide +kernel) ⟨Nat.le_of_ble_eq_true rfl, Nat.le_of_ble_eq_true rfl⟩ rfl hl.1 rfl (Nat.le_of_ble_eq_true rfl) dX11_count_58 (fun a => (mo_K_chainOf N h a x1)) (fun v1 h2 => mo_K_count_61 N   h2 v1) hE (fun v1 h2 H locs w hsh2 e1 => ?_)
  exact b_K_count_61 C hst hxt N n0 s0 hn0   _ _ h2 v1 _ _ ls w (by have u5 := hsh2.2.1; have u8 := hsl; omega) (lv_sub hl [] rfl) e1
set_option maxRecDepth 20000 in
set_option maxHeartbeats 4000000 in
theorem k_K_count (l : Launch) (hst : l.stackTraces = false) (D : va_G) (cy : cyT) (z : Nat) (N : Nat) (h : hS) (th : Nat) (x1 : Int32) (r : (Int32 ⊕ Nat)) (g : hS) (hE : f_K_count N h th x1 = some (r, g)) : ctT l yX11_count (Cond.code yX11_count cX11_count 2 ((some .int)) :: GW) { frames := 9, cells := h_x g - h_x h, slots := h_s g - h_s h, locals := 143 } D cy z h [.ref th, .int x1] rI r g := by
  refine ctT_of (cc := cX11_count) (maxL := 2) (ret := (some .int)) (by decide) ?_
  intro p e s m args below meth c s₁ B hml hxt hv
  obtain ⟨rfl, hw⟩ := hv
  have C : MX p s m ([.ref th, .int x1] : List Value).toArray meth c cX11_count 2 ((some .int)) RX11 (Cond.code yX11_count cX11_count 2 ((some .int)) :: GW) := ⟨B.exec, B.bytes, B.returns, hml, findClass_of_methodNamed B.named, atoms_spec (ws := Cond.code yX11_count cX11_count 2 ((some .int)) :: GW) B.pre, B.notSynchronized⟩
  obtain ⟨hx, hb, hr, hml, hown, hts, hlk⟩ := id C
  have w := wd_of hw
  have hsl : h_s h = h_s h + 0 := rfl
  have hn0 : s.heap.size = h_x h := (wd_x w).1
  obtain ⟨ls, hen, hl⟩ : ∃ ls : Array Slot, entryFrame m ([.ref th, .int x1] : List Value).toArray 2 = F0 m 0 ls [] ∧ lv_has ls 2 [(0, .ref th), (1, .int x1)] := by
    exact ⟨_, lg_entry_eq _ _ _, lv_entry _ (Nat.le_of_ble_eq_true rfl)⟩
  rw [hen]
  have hcc : 0 ≤ h_x g - h_x h ∧ 0 ≤ h_s g - h_s h := ⟨Nat.zero_le _, Nat.zero_le _⟩
  unfold f_K_count at hE
  refine lv_iload_n hx hb dX11_count_0 rfl (lv_at hl 1 rfl) ?_
  refine w_case hE (fun hc e1 => ?_) (fun nc1_0 e1 => ?_)
  · refine w_tin (tgt := 56) C hc dX11_count_1 (by decide) (by decide) rfl (by decide) ?_
    exact b_K_count_56 C hst hxt N (h_x h) (h_s h) hn0   _ _ h th x1 _ _ ls w hsl (lv_sub hl [0, 1] rfl) e1
  ·
    refine w_case e1 (fun hc e2 => ?_) (fun nc1_1 e2 => ?_)
    · refine w_tin (tgt := 56) C hc dX11_count_1 (by decide) (by decide) rfl (by decide) ?_
      exact b_K_count_56 C hst hxt N (h_x h) (h_s h) hn0   _ _ h th x1 _ _ ls w hsl (lv_sub hl [0, 1] rfl) e2
    ·
      refine w_case e2 (fun hc e3 => ?_) (fun nc1_2 e3 => ?_)
      · refine w_tin (tgt := 56) C hc dX11_count_1 (by decide) (by decide) rfl (by decide) ?_
        exact b_K_count_56 C hst hxt N (h_x h) (h_s h) hn0   _ _ h th x1 _ _ ls w hsl (lv_sub hl [0, 1] rfl) e3
      ·
        refine w_case e3 (fun hc e4 => ?_) (fun nc1_3 e4 => ?_)
        · refine w_tin (tgt := 56) C hc dX11_count_1 (by decide) (by decide) rfl (by decide) ?_
          exact b_K_count_56 C hst hxt N (h_x h) (h_s h) hn0   _ _ h th x1 _ _ ls w hsl (lv_sub hl [0, 1] rfl) e4
        ·
          refine w_case e4 (fun hc e5 => ?_) (fun nc1_4 e5 => ?_)
          · refine w_tin (tgt := 65) C hc dX11_count_1 (by decide) (by decide) rfl (by decide) ?_
            refine lv_aload_n hx hb dX11_count_65 rfl (lv_at hl 0 rfl) ?_
            refine w_gR (r := some th) (ci := 12) (k := 16) C w rfl (by decide) (GF_wsX110 _) (by decide) rfl (List.mem_cons_of_mem _ gw_3_11) rfl dX11_count_66 e5 (fun v1 e6 => ?_)
            refine w_gI (r := v1) (ci := 7) (k := 3) C w rfl (by decide) (GF_wsX60 _) (by decide) rfl (List.mem_cons_of_mem _ gw_32_6) rfl dX11_count_69 e6 (fun v2 e7 => ?_)
            refine W.widen (k := h_x g - (h_x h)) (n := h_s g - (h_s h)) hcc.1 hcc.2 ?_
            exact w_iretT C w e7 dX11_count_72
          ·
            refine w_case e5 (fun hc e8 => ?_) (fun nc1_5 e8 => ?_)
            · refine w_tin (tgt := 73) C hc dX11_count_1 (by decide) (by decide) rfl (by decide) ?_
              refine lv_aload_n hx hb dX11_count_73 rfl (lv_at hl 0 rfl) ?_
              refine w_gR (r := some th) (ci := 12) (k := 16) C w rfl (by decide) (GF_wsX110 _) (by decide) rfl (List.mem_cons_of_mem _ gw_3_11) rfl dX11_count_74 e8 (fun v3 e9 => ?_)
              refine w_gI (r := v3) (ci := 7) (k := 6) C w rfl (by decide) (GF_wsX60 _) (by decide) rfl (List.mem_cons_of_mem _ gw_32_7) rfl dX11_count_77 e9 (fun v4 e10 => ?_)
              refine W.widen (k := h_x g - (h_x h)) (n := h_s g - (h_s h)) hcc.1 hcc.2 ?_
              exact w_iretT C w e10 dX11_count_80
            ·
              refine w_case e8 (fun hc e11 => ?_) (fun nc1_6 e11 => ?_)
              · refine w_tin (tgt := 81) C hc dX11_count_1 (by decide) (by decide) rfl (by decide) ?_
                refine lv_aload_n hx hb dX11_count_81 rfl (lv_at hl 0 rfl) ?_
                refine w_gI (r := some th) (ci := 12) (k := 1) C w rfl (by decide) (GF_wsX110 _) (by decide) rfl (List.mem_cons_of_mem _ gw_1_16) rfl dX11_count_82 e11 (fun v5 e12 => ?_)
                refine W.widen (k := h_x g - (h_x h)) (n := h_s g - (h_s h)) hcc.1 hcc.2 ?_
                exact w_iretT C w e12 dX11_count_85
              ·
                refine w_case e11 (fun hc e13 => ?_) (fun nc1_7 e13 => ?_)
                · refine w_tin (tgt := 86) C hc dX11_count_1 (by decide) (by decide) rfl (by decide) ?_
                  refine lv_aload_n hx hb dX11_count_86 rfl (lv_at hl 0 rfl) ?_
                  refine w_gR (r := some th) (ci := 12) (k := 16) C w rfl (by decide) (GF_wsX110 _) (by decide) rfl (List.mem_cons_of_mem _ gw_3_11) rfl dX11_count_87 e13 (fun v6 e14 => ?_)
                  refine w_gR (r := v6) (ci := 7) (k := 7) C w rfl (by decide) (GF_wsX60 _) (by decide) rfl (List.mem_cons_of_mem _ gw_15_5) rfl dX11_count_90 e14 (fun v7 e15 => ?_)
                  refine lv_iconst (v := 0) hx hb dX11_count_93 (by decide) ?_
                  refine w_aI (r := v7) C w dX11_count_94 e15 (fun v8 e16 => ?_)
                  refine W.widen (k := h_x g - (h_x h)) (n := h_s g - (h_s h)) hcc.1 hcc.2 ?_
                  exact w_iretT C w e16 dX11_count_95
                ·
                  refine w_case e13 (fun hc e17 => ?_) (fun nc1_8 e17 => ?_)
                  · refine w_tin (tgt := 96) C hc dX11_count_1 (by decide) (by decide) rfl (by decide) ?_
                    refine lv_aload_n hx hb dX11_count_96 rfl (lv_at hl 0 rfl) ?_
                    refine w_gR (r := some th) (ci := 12) (k := 16) C w rfl (by decide) (GF_wsX110 _) (by decide) rfl (List.mem_cons_of_mem _ gw_3_11) rfl dX11_count_97 e17 (fun v9 e18 => ?_)
                    refine w_gR (r := v9) (ci := 7) (k := 7) C w rfl (by decide) (GF_wsX60 _) (by decide) rfl (List.mem_cons_of_mem _ gw_15_5) rfl dX11_count_100 e18 (fun v10 e19 => ?_)
                    refine lv_iconst (v := 1) hx hb dX11_count_103 (by decide) ?_
                    refine w_aI (r := v10) C w dX11_count_104 e19 (fun v11 e20 => ?_)
                    refine W.widen (k := h_x g - (h_x h)) (n := h_s g - (h_s h)) hcc.1 hcc.2 ?_
                    exact w_iretT C w e20 dX11_count_105
                  ·
                    refine w_case e17 (fun hc e21 => ?_) (fun nc1_9 e21 => ?_)
                    · refine w_tin (tgt := 106) C hc dX11_count_1 (by decide) (by decide) rfl (by decide) ?_
                      refine lv_aload_n hx hb dX11_count_106 rfl (lv_at hl 0 rfl) ?_
                      refine w_gR (r := some th) (ci := 12) (k := 16) C w rfl (by decide) (GF_wsX110 _) (by decide) rfl (List.mem_cons_of_mem _ gw_3_11) rfl dX11_count_107 e21 (fun v12 e22 => ?_)
                      refine w_gR (r := v12) (ci := 7) (k := 7) C w rfl (by decide) (GF_wsX60 _) (by decide) rfl (List.mem_cons_of_mem _ gw_15_5) rfl dX11_count_110 e22 (fun v13 e23 => ?_)
                      refine lv_iconst (v := 2) hx hb dX11_count_113 (by decide) ?_
                      refine w_aI (r := v13) C w dX11_count_114 e23 (fun v14 e24 => ?_)
                      refine W.widen (k := h_x g - (h_x h)) (n := h_s g - (h_s h)) hcc.1 hcc.2 ?_
                      exact w_iretT C w e24 dX11_count_115
                    ·
                      refine w_tout (tgt := 116) 0 10 C (by decide) (by intro k hk; rcases (show k = 0 ∨ k = 1 ∨ k = 2 ∨ k = 3 ∨ k = 4 ∨ k = 5 ∨ k = 6 ∨ k = 7 ∨ k = 8 ∨ k = 9 by omega) with rfl | rfl | rfl | rfl | rfl | rfl | rfl | rfl | rfl | rfl; all_goals assumption) rfl rfl dX11_count_1 (by decide) ?_
                      exact w_thrN (is := 188) (tx := "nothing such is counted") (pl := 4) hst hxt C w hn0 hsl hl.1 (List.mem_of_getElem? (i := 0) rfl) gw_9_18 gw_9_19 dX11_count_116 dX11_count_119 dX11_count_120 dX11_count_122 dX11_count_125 (Nat.le_of_ble_eq_true rfl) (Nat.le_of_ble_eq_true rfl) e21
set_option maxRecDepth 20000 in
set_option maxHeartbeats 4000000 in
theorem b_K_stepOf_22 {p : Program} {l : Launch} {e : Env} {s : State} {m : MethodId} {args : Array Value} {below : List Frame} {meth : Method} {c : Code} {D : va_G} {cy : cyT} {z : Nat} (C : MX p s m args meth c cX11_stepOf 4 ((some (.object "SlopeKeeper$Step"))) RX11 (Cond.code yX11_stepOf cX11_stepOf 4 ((some (.object "SlopeKeeper$Step"))) :: GW)) (hst : l.stackTraces = false) (hxt : ∀ x ∈ c.exceptionTable.toList, False) (N : Nat) (n0 s0 : Nat) (hn0 : s.heap.size = n0) {r : (Option Nat ⊕ Nat)} {g : hS}  : ∀  (cells slots : Nat) (h : hS) (a3 : Option Nat) (H : Heap) (locs : List Loc) (ls : Array Slot), wd D cy z s cells h H locs → h_s h = s0 + slots → lv_has ls 4 [(3, va_rf a3)] → f_K_stepOf_22 N   h a3 = some (r, g) → W p l e { frames := 9, cells := h_x g - n0, slots := h_s g - s0, locals := 143 } s m args below meth c H locs cells slots (eT D cy z rR r g below args s (h_x g - n0) (h_s g - s0)) (F0 m 22 ls []) := by
  obtain ⟨hx, hb, hr, hml, hown, hts, hlk⟩ := id C
  intro cells slots h a3 H locs ls w hsl hl hE
  have hcc : cells ≤ h_x g - n0 ∧ slots ≤ h_s g - s0 := by
    have q1 := mo_K_stepOf_22 N  h a3 _ _ hE
    have q2 := wd_x w
    have q3 := q1.1
    have q4 := q1.2.1
    omega
  unfold f_K_stepOf_22 at hE
  refine w_aload_n C dX11_stepOf_22 rfl (lv_at hl 0 rfl) ?_
  refine W.widen (k := h_x g - n0) (n := h_s g - s0) hcc.1 hcc.2 ?_
  exact w_aretT (v := a3) (Or.inl ⟨_, rfl⟩) C w hE dX11_stepOf_23
set_option maxRecDepth 20000 in
set_option maxHeartbeats 4000000 in
theorem b_K_stepOf_19 {p : Program} {l : Launch} {e : Env} {s : State} {m : MethodId} {args : Array Value} {below : List Frame} {meth : Method} {c : Code} {D : va_G} {cy : cyT} {z : Nat} (C : MX p s m args meth c cX11_stepOf 4 ((some (.object "SlopeKeeper$Step"))) RX11 (Cond.code yX11_stepOf cX11_stepOf 4 ((some (.object "SlopeKeeper$Step"))) :: GW)) (hst : l.stackTraces = false) (hxt : ∀ x ∈ c.exceptionTable.toList, False) (N : Nat) (n0 s0 : Nat) (hn0 : s.heap.size = n0) {r : (Option Nat ⊕ Nat)} {g : hS}  : ∀  (cells slots : Nat) (h : hS) (a3 : Option Nat) (y0 : Int32) (H : Heap) (locs : List Loc) (ls : Array Slot), wd D cy z s cells h H locs → h_s h = s0 + slots → lv_has ls 4 [(3, va_rf a3)] → f_K_stepOf_19 N   h a3 y0 = some (r, g) → W p l e { frames := 9, cells := h_x g - n0, slots := h_s g - s0, locals := 143 } s m args below meth c H locs cells slots (eT D cy z rR r g below args s (h_x g - n0) (h_s g - s0)) (F0 m 19 ls [.int y0]) := by
  obtain ⟨hx, hb, hr, hml, hown, hts, hlk⟩ := id C
  intro cells slots h a3 y0 H locs ls w hsl hl hE
  have hcc : cells ≤ h_x g - n0 ∧ slots ≤ h_s g - s0 := by
    have q1 := mo_K_stepOf_19 N  h a3 y0 _ _ hE
    have q2 := wd_x w
    have q3 := q1.1
    have q4 := q1.2.1
    omega
  unfold f_K_stepOf_19 at hE
  refine w_STV GW_good (n := 1) (F := 6) (Lc := 82) (av := [.int y0]) (rest := []) hxt hn0 hsl C w (fun r g hf => k_K_needSuch l hst D cy z N h y0 r g hf) gw_9_15 gw_9_16 gw_1_2 gw_9_17 (by decide +kernel) ⟨Nat.le_of_ble_eq_true rfl, Nat.le_of_ble_eq_true rfl⟩ rfl hl.1 rfl (Nat.le_of_ble_eq_true rfl) dX11_stepOf_19 (mo_K_needSuch N h y0) (fun v1 h2 => mo_K_stepOf_22 N   h2 a3) hE (fun v1 h2 H locs w hsh2 e1 => ?_)
  exact b_K_stepOf_22 C hst hxt N n0 s0 hn0   _ _ h2 a3 _ _ ls w (by have u5 := hsh2.2.1; have u8 := hsl; omega) (lv_sub hl [0] rfl) e1
set_option maxRecDepth 20000 in
set_option maxHeartbeats 4000000 in
theorem b_K_stepOf_5 {p : Program} {l : Launch} {e : Env} {s : State} {m : MethodId} {args : Array Value} {below : List Frame} {meth : Method} {c : Code} {D : va_G} {cy : cyT} {z : Nat} (C : MX p s m args meth c cX11_stepOf 4 ((some (.object "SlopeKeeper$Step"))) RX11 (Cond.code yX11_stepOf cX11_stepOf 4 ((some (.object "SlopeKeeper$Step"))) :: GW)) (hst : l.stackTraces = false) (hxt : ∀ x ∈ c.exceptionTable.toList, False) (N : Nat) (n0 s0 : Nat) (hn0 : s.heap.size = n0) {r : (Option Nat ⊕ Nat)} {g : hS}  : ∀  (cells slots : Nat) (h : hS) (x2 : Int32) (y0 : Option Nat) (H : Heap) (locs : List Loc) (ls : Array Slot), wd D cy z s cells h H locs → h_s h = s0 + slots → lv_has ls 4 [(2, .int x2)] → f_K_stepOf_5 N   h x2 y0 = some (r, g) → W p l e { frames := 9, cells := h_x g - n0, slots := h_s g - s0, locals := 143 } s m args below meth c H locs cells slots (eT D cy z rR r g below args s (h_x g - n0) (h_s g - s0)) (F0 m 5 ls [va_rf y0]) := by
  obtain ⟨hx, hb, hr, hml, hown, hts, hlk⟩ := id C
  intro cells slots h x2 y0 H locs ls w hsl hl hE
  have hcc : cells ≤ h_x g - n0 ∧ slots ≤ h_s g - s0 := by
    have q1 := mo_K_stepOf_5 N  h x2 y0 _ _ hE
    have q2 := wd_x w
    have q3 := q1.1
    have q4 := q1.2.1
    omega
  unfold f_K_stepOf_5 at hE
  refine lv_iload_n hx hb dX11_stepOf_5 rfl (lv_at hl 0 rfl) ?_
  refine w_VR GW_good (n := 1) (F := 0) (Lc := 0) (o := y0) (av := [.int x2]) (rest := []) C w rfl (by decide) (fun a r g hf => k_Chain_stepAt l D cy z N h a x2 r g hf) gw_33_8 gw_20_7 gw_20_8 gw_3_6 gw_20_9 (by decide +kernel) ⟨Nat.le_of_ble_eq_true rfl, Nat.le_of_ble_eq_true rfl⟩ rfl hl.1 rfl (Nat.le_of_ble_eq_true rfl) dX11_stepOf_6 (fun a => (sh_Chain_stepAt N h a x2)) ⟨hcc.1, hcc.2⟩ hE (fun v1 h2 H locs w hsh2 e1 => ?_)
  have hsl := hsh2.2.2.2.trans hsl
  refine w_astore_n (r := v1) (lv' := [(3, va_rf v1), (2, .int x2)]) C dX11_stepOf_9 rfl hl (by decide) rfl (fun ls hl => ?_)
  refine w_aload_n C dX11_stepOf_10 rfl (lv_at hl 0 rfl) ?_
  refine w_null (r := v1) (tgt := 18) C dX11_stepOf_11 (by decide) e1 (fun hc e2 => ?_) (fun hc e2 => ?_)
  · refine lv_iconst (v := 0) hx hb dX11_stepOf_18 (by decide) ?_
    exact b_K_stepOf_19 C hst hxt N n0 s0 hn0   _ _ h2 v1 (0 : Int32) _ _ ls w hsl (lv_sub hl [0] rfl) e2
  · refine lv_iconst (v := 1) hx hb dX11_stepOf_14 (by decide) ?_
    refine lv_goto (tgt := 19) hx hb dX11_stepOf_15 (by decide) ?_
    exact b_K_stepOf_19 C hst hxt N n0 s0 hn0   _ _ h2 v1 (1 : Int32) _ _ ls w hsl (lv_sub hl [0] rfl) e2
set_option maxRecDepth 20000 in
set_option maxHeartbeats 4000000 in
theorem k_K_stepOf (l : Launch) (hst : l.stackTraces = false) (D : va_G) (cy : cyT) (z : Nat) (N : Nat) (h : hS) (th : Nat) (x1 : Int32) (x2 : Int32) (r : (Option Nat ⊕ Nat)) (g : hS) (hE : f_K_stepOf N h th x1 x2 = some (r, g)) : ctT l yX11_stepOf (Cond.code yX11_stepOf cX11_stepOf 4 ((some (.object "SlopeKeeper$Step"))) :: GW) { frames := 9, cells := h_x g - h_x h, slots := h_s g - h_s h, locals := 143 } D cy z h [.ref th, .int x1, .int x2] rR r g := by
  refine ctT_of (cc := cX11_stepOf) (maxL := 4) (ret := (some (.object "SlopeKeeper$Step"))) (by decide) ?_
  intro p e s m args below meth c s₁ B hml hxt hv
  obtain ⟨rfl, hw⟩ := hv
  have C : MX p s m ([.ref th, .int x1, .int x2] : List Value).toArray meth c cX11_stepOf 4 ((some (.object "SlopeKeeper$Step"))) RX11 (Cond.code yX11_stepOf cX11_stepOf 4 ((some (.object "SlopeKeeper$Step"))) :: GW) := ⟨B.exec, B.bytes, B.returns, hml, findClass_of_methodNamed B.named, atoms_spec (ws := Cond.code yX11_stepOf cX11_stepOf 4 ((some (.object "SlopeKeeper$Step"))) :: GW) B.pre, B.notSynchronized⟩
  obtain ⟨hx, hb, hr, hml, hown, hts, hlk⟩ := id C
  have w := wd_of hw
  have hsl : h_s h = h_s h + 0 := rfl
  have hn0 : s.heap.size = h_x h := (wd_x w).1
  obtain ⟨ls, hen, hl⟩ : ∃ ls : Array Slot, entryFrame m ([.ref th, .int x1, .int x2] : List Value).toArray 4 = F0 m 0 ls [] ∧ lv_has ls 4 [(0, .ref th), (1, .int x1), (2, .int x2)] := by
    exact ⟨_, lg_entry_eq _ _ _, lv_entry _ (Nat.le_of_ble_eq_true rfl)⟩
  rw [hen]
  have hcc : 0 ≤ h_x g - h_x h ∧ 0 ≤ h_s g - h_s h := ⟨Nat.zero_le _, Nat.zero_le _⟩
  unfold f_K_stepOf at hE
  refine lv_aload_n hx hb dX11_stepOf_0 rfl (lv_at hl 0 rfl) ?_
  refine lv_iload_n hx hb dX11_stepOf_1 rfl (lv_at hl 1 rfl) ?_
  refine w_VTR GW_good (n := 1) (F := 8) (Lc := 122) (ob := some th) (av := [.int x1]) (rest := []) hxt hn0 hsl C w rfl (by decide) (fun a r g hf => k_K_chainOf l hst D cy z N h a x1 r g hf) gw_32_8 gw_32_9 gw_32_10 gw_1_2 gw_32_11 (by decide +kernel) ⟨Nat.le_of_ble_eq_true rfl, Nat.le_of_ble_eq_true rfl⟩ rfl hl.1 rfl (Nat.le_of_ble_eq_true rfl) dX11_stepOf_2 (fun a => (mo_K_chainOf N h a x1)) (fun v1 h2 => mo_K_stepOf_5 N   h2 x2 v1) hE (fun v1 h2 H locs w hsh2 e1 => ?_)
  exact b_K_stepOf_5 C hst hxt N (h_x h) (h_s h) hn0   _ _ h2 x2 v1 _ _ ls w (by have u5 := hsh2.2.1; have u8 := hsl; omega) (lv_sub hl [2] rfl) e1
set_option maxRecDepth 20000 in
set_option maxHeartbeats 4000000 in
theorem b_K_step_53 {p : Program} {l : Launch} {e : Env} {s : State} {m : MethodId} {args : Array Value} {below : List Frame} {meth : Method} {c : Code} {D : va_G} {cy : cyT} {z : Nat} (C : MX p s m args meth c cX11_step 5 ((some .int)) RX11 (Cond.code yX11_step cX11_step 5 ((some .int)) :: GW)) (hst : l.stackTraces = false) (hxt : ∀ x ∈ c.exceptionTable.toList, False) (N : Nat) (n0 s0 : Nat) (hn0 : s.heap.size = n0) {r : (Int32 ⊕ Nat)} {g : hS}  : ∀  (cells slots : Nat) (h : hS) (y0 : Int32) (H : Heap) (locs : List Loc) (ls : Array Slot), wd D cy z s cells h H locs → h_s h = s0 + slots → lv_has ls 5 [] → f_K_step_53 N   h y0 = some (r, g) → W p l e { frames := 10, cells := h_x g - n0, slots := h_s g - s0, locals := 166 } s m args below meth c H locs cells slots (eT D cy z rI r g below args s (h_x g - n0) (h_s g - s0)) (F0 m 53 ls [.int y0]) := by
  obtain ⟨hx, hb, hr, hml, hown, hts, hlk⟩ := id C
  intro cells slots h y0 H locs ls w hsl hl hE
  have hcc : cells ≤ h_x g - n0 ∧ slots ≤ h_s g - s0 := by
    have q1 := mo_K_step_53 N  h y0 _ _ hE
    have q2 := wd_x w
    have q3 := q1.1
    have q4 := q1.2.1
    omega
  unfold f_K_step_53 at hE
  refine W.widen (k := h_x g - n0) (n := h_s g - s0) hcc.1 hcc.2 ?_
  exact w_iretT C w hE dX11_step_53
set_option maxRecDepth 20000 in
set_option maxHeartbeats 4000000 in
theorem b_K_step_25 {p : Program} {l : Launch} {e : Env} {s : State} {m : MethodId} {args : Array Value} {below : List Frame} {meth : Method} {c : Code} {D : va_G} {cy : cyT} {z : Nat} (C : MX p s m args meth c cX11_step 5 ((some .int)) RX11 (Cond.code yX11_step cX11_step 5 ((some .int)) :: GW)) (hst : l.stackTraces = false) (hxt : ∀ x ∈ c.exceptionTable.toList, False) (N : Nat) (n0 s0 : Nat) (hn0 : s.heap.size = n0) {r : (Int32 ⊕ Nat)} {g : hS}  : ∀  (cells slots : Nat) (h : hS) (x3 : Int32) (a4 : Option Nat) (H : Heap) (locs : List Loc) (ls : Array Slot), wd D cy z s cells h H locs → h_s h = s0 + slots → lv_has ls 5 [(3, .int x3), (4, va_rf a4)] → f_K_step_25 N   h x3 a4 = some (r, g) → W p l e { frames := 10, cells := h_x g - n0, slots := h_s g - s0, locals := 166 } s m args below meth c H locs cells slots (eT D cy z rI r g below args s (h_x g - n0) (h_s g - s0)) (F0 m 25 ls []) := by
  obtain ⟨hx, hb, hr, hml, hown, hts, hlk⟩ := id C
  intro cells slots h x3 a4 H locs ls w hsl hl hE
  have hcc : cells ≤ h_x g - n0 ∧ slots ≤ h_s g - s0 := by
    have q1 := mo_K_step_25 N  h x3 a4 _ _ hE
    have q2 := wd_x w
    have q3 := q1.1
    have q4 := q1.2.1
    omega
  unfold f_K_step_25 at hE
  refine lv_iload_n hx hb dX11_step_25 rfl (lv_at hl 0 rfl) ?_
  refine w_if_ne (tgt := 35) C dX11_step_26 (by decide) hE (fun hc e1 => ?_) (fun hc e1 => ?_)
  · refine lv_iload_n hx hb dX11_step_35 rfl (lv_at hl 0 rfl) ?_
    refine lv_iconst (v := 1) hx hb dX11_step_36 (by decide) ?_
    refine w_icmp_ne (tgt := 48) C dX11_step_37 (by decide) e1 (fun hc e2 => ?_) (fun hc e2 => ?_)
    · refine w_aload C dX11_step_48 (lv_at hl 1 rfl) ?_
      refine w_gI (r := a4) (ci := 8) (k := 2) C w rfl (by decide) (GF_wsX70 _) (by decide) rfl (List.mem_cons_of_mem _ gw_33_3) rfl dX11_step_50 e2 (fun v1 e3 => ?_)
      exact b_K_step_53 C hst hxt N n0 s0 hn0   _ _ h v1 _ _ ls w hsl (lv_sub hl [] rfl) e3
    · refine w_aload C dX11_step_40 (lv_at hl 1 rfl) ?_
      refine w_gI (r := a4) (ci := 8) (k := 1) C w rfl (by decide) (GF_wsX70 _) (by decide) rfl (List.mem_cons_of_mem _ gw_33_2) rfl dX11_step_42 e2 (fun v2 e4 => ?_)
      refine lv_goto (tgt := 53) hx hb dX11_step_45 (by decide) ?_
      exact b_K_step_53 C hst hxt N n0 s0 hn0   _ _ h v2 _ _ ls w hsl (lv_sub hl [] rfl) e4
  · refine w_aload C dX11_step_29 (lv_at hl 1 rfl) ?_
    refine w_gI (r := a4) (ci := 8) (k := 0) C w rfl (by decide) (GF_wsX70 _) (by decide) rfl (List.mem_cons_of_mem _ gw_33_1) rfl dX11_step_31 e1 (fun v3 e5 => ?_)
    refine W.widen (k := h_x g - n0) (n := h_s g - s0) hcc.1 hcc.2 ?_
    exact w_iretT C w e5 dX11_step_34
set_option maxRecDepth 20000 in
set_option maxHeartbeats 4000000 in
theorem b_K_step_22 {p : Program} {l : Launch} {e : Env} {s : State} {m : MethodId} {args : Array Value} {below : List Frame} {meth : Method} {c : Code} {D : va_G} {cy : cyT} {z : Nat} (C : MX p s m args meth c cX11_step 5 ((some .int)) RX11 (Cond.code yX11_step cX11_step 5 ((some .int)) :: GW)) (hst : l.stackTraces = false) (hxt : ∀ x ∈ c.exceptionTable.toList, False) (N : Nat) (n0 s0 : Nat) (hn0 : s.heap.size = n0) {r : (Int32 ⊕ Nat)} {g : hS}  : ∀  (cells slots : Nat) (h : hS) (x3 : Int32) (a4 : Option Nat) (y0 : Int32) (H : Heap) (locs : List Loc) (ls : Array Slot), wd D cy z s cells h H locs → h_s h = s0 + slots → lv_has ls 5 [(3, .int x3), (4, va_rf a4)] → f_K_step_22 N   h x3 a4 y0 = some (r, g) → W p l e { frames := 10, cells := h_x g - n0, slots := h_s g - s0, locals := 166 } s m args below meth c H locs cells slots (eT D cy z rI r g below args s (h_x g - n0) (h_s g - s0)) (F0 m 22 ls [.int y0]) := by
  obtain ⟨hx, hb, hr, hml, hown, hts, hlk⟩ := id C
  intro cells slots h x3 a4 y0 H locs ls w hsl hl hE
  have hcc : cells ≤ h_x g - n0 ∧ slots ≤ h_s g - s0 := by
    have q1 := mo_K_step_22 N  h x3 a4 y0 _ _ hE
    have q2 := wd_x w
    have q3 := q1.1
    have q4 := q1.2.1
    omega
  unfold f_K_step_22 at hE
  refine w_STV GW_good (n := 1) (F := 6) (Lc := 82) (av := [.int y0]) (rest := []) hxt hn0 hsl C w (fun r g hf => k_K_needSuch l hst D cy z N h y0 r g hf) gw_9_15 gw_9_16 gw_1_2 gw_9_17 (by decide +kernel) ⟨Nat.le_of_ble_eq_true rfl, Nat.le_of_ble_eq_true rfl⟩ rfl hl.1 rfl (Nat.le_of_ble_eq_true rfl) dX11_step_22 (mo_K_needSuch N h y0) (fun v1 h2 => mo_K_step_25 N   h2 x3 a4) hE (fun v1 h2 H locs w hsh2 e1 => ?_)
  exact b_K_step_25 C hst hxt N n0 s0 hn0   _ _ h2 x3 a4 _ _ ls w (by have u5 := hsh2.2.1; have u8 := hsl; omega) (lv_sub hl [0, 1] rfl) e1
set_option maxRecDepth 20000 in
set_option maxHeartbeats 4000000 in
theorem b_K_step_21 {p : Program} {l : Launch} {e : Env} {s : State} {m : MethodId} {args : Array Value} {below : List Frame} {meth : Method} {c : Code} {D : va_G} {cy : cyT} {z : Nat} (C : MX p s m args meth c cX11_step 5 ((some .int)) RX11 (Cond.code yX11_step cX11_step 5 ((some .int)) :: GW)) (hst : l.stackTraces = false) (hxt : ∀ x ∈ c.exceptionTable.toList, False) (N : Nat) (n0 s0 : Nat) (hn0 : s.heap.size = n0) {r : (Int32 ⊕ Nat)} {g : hS}  : ∀  (cells slots : Nat) (h : hS) (x3 : Int32) (a4 : Option Nat) (H : Heap) (locs : List Loc) (ls : Array Slot), wd D cy z s cells h H locs → h_s h = s0 + slots → lv_has ls 5 [(3, .int x3), (4, va_rf a4)] → f_K_step_21 N   h x3 a4 = some (r, g) → W p l e { frames := 10, cells := h_x g - n0, slots := h_s g - s0, locals := 166 } s m args below meth c H locs cells slots (eT D cy z rI r g below args s (h_x g - n0) (h_s g - s0)) (F0 m 21 ls []) := by
  obtain ⟨hx, hb, hr, hml, hown, hts, hlk⟩ := id C
  intro cells slots h x3 a4 H locs ls w hsl hl hE
  have hcc : cells ≤ h_x g - n0 ∧ slots ≤ h_s g - s0 := by
    have q1 := mo_K_step_21 N  h x3 a4 _ _ hE
    have q2 := wd_x w
    have q3 := q1.1
    have q4 := q1.2.1
    omega
  unfold f_K_step_21 at hE
  refine lv_iconst (v := 0) hx hb dX11_step_21 (by decide) ?_
  exact b_K_step_22 C hst hxt N n0 s0 hn0   _ _ h x3 a4 (0 : Int32) _ _ ls w hsl (lv_sub hl [0, 1] rfl) hE
set_option maxRecDepth 20000 in
set_option maxHeartbeats 4000000 in
theorem b_K_step_6 {p : Program} {l : Launch} {e : Env} {s : State} {m : MethodId} {args : Array Value} {below : List Frame} {meth : Method} {c : Code} {D : va_G} {cy : cyT} {z : Nat} (C : MX p s m args meth c cX11_step 5 ((some .int)) RX11 (Cond.code yX11_step cX11_step 5 ((some .int)) :: GW)) (hst : l.stackTraces = false) (hxt : ∀ x ∈ c.exceptionTable.toList, False) (N : Nat) (n0 s0 : Nat) (hn0 : s.heap.size = n0) {r : (Int32 ⊕ Nat)} {g : hS}  : ∀  (cells slots : Nat) (h : hS) (x3 : Int32) (y0 : Option Nat) (H : Heap) (locs : List Loc) (ls : Array Slot), wd D cy z s cells h H locs → h_s h = s0 + slots → lv_has ls 5 [(3, .int x3)] → f_K_step_6 N   h x3 y0 = some (r, g) → W p l e { frames := 10, cells := h_x g - n0, slots := h_s g - s0, locals := 166 } s m args below meth c H locs cells slots (eT D cy z rI r g below args s (h_x g - n0) (h_s g - s0)) (F0 m 6 ls [va_rf y0]) := by
  obtain ⟨hx, hb, hr, hml, hown, hts, hlk⟩ := id C
  intro cells slots h x3 y0 H locs ls w hsl hl hE
  have hcc : cells ≤ h_x g - n0 ∧ slots ≤ h_s g - s0 := by
    have q1 := mo_K_step_6 N  h x3 y0 _ _ hE
    have q2 := wd_x w
    have q3 := q1.1
    have q4 := q1.2.1
    omega
  unfold f_K_step_6 at hE
  refine w_astore (r := y0) (lv' := [(4, va_rf y0), (3, .int x3)]) C dX11_step_6 hl (by decide) rfl (fun ls hl => ?_)
  refine lv_iload_n hx hb dX11_step_8 rfl (lv_at hl 1 rfl) ?_
  refine w_if_lt (tgt := 21) C dX11_step_9 (by decide) hE (fun hc e1 => ?_) (fun hc e1 => ?_)
  · exact b_K_step_21 C hst hxt N n0 s0 hn0   _ _ h x3 y0 _ _ ls w hsl (lv_sub hl [1, 0] rfl) e1
  · refine lv_iload_n hx hb dX11_step_12 rfl (lv_at hl 1 rfl) ?_
    refine lv_iconst (v := 2) hx hb dX11_step_13 (by decide) ?_
    refine w_icmp_gt (tgt := 21) C dX11_step_14 (by decide) e1 (fun hc e2 => ?_) (fun hc e2 => ?_)
    · exact b_K_step_21 C hst hxt N n0 s0 hn0   _ _ h x3 y0 _ _ ls w hsl (lv_sub hl [1, 0] rfl) e2
    · refine lv_iconst (v := 1) hx hb dX11_step_17 (by decide) ?_
      refine lv_goto (tgt := 22) hx hb dX11_step_18 (by decide) ?_
      exact b_K_step_22 C hst hxt N n0 s0 hn0   _ _ h x3 y0 (1 : Int32) _ _ ls w hsl (lv_sub hl [1, 0] rfl) e2
set_option maxRecDepth 20000 in
set_option maxHeartbeats 4000000 in
theorem k_K_step (l : Launch) (hst : l.stackTraces = false) (D : va_G) (cy : cyT) (z : Nat) (N : Nat) (h : hS) (th : Nat) (x1 : Int32) (x2 : Int32) (x3 : Int32) (r : (Int32 ⊕ Nat)) (g : hS) (hE : f_K_step N h th x1 x2 x3 = some (r, g)) : ctT l yX11_step (Cond.code yX11_step cX11_step 5 ((some .int)) :: GW) { frames := 10, cells := h_x g - h_x h, slots := h_s g - h_s h, locals := 166 } D cy z h [.ref th, .int x1, .int x2, .int x3] rI r g := by
  refine ctT_of (cc := cX11_step) (maxL := 5) (ret := (some .int)) (by decide) ?_
  intro p e s m args below meth c s₁ B hml hxt hv
  obtain ⟨rfl, hw⟩ := hv
  have C : MX p s m ([.ref th, .int x1, .int x2, .int x3] : List Value).toArray meth c cX11_step 5 ((some .int)) RX11 (Cond.code yX11_step cX11_step 5 ((some .int)) :: GW) := ⟨B.exec, B.bytes, B.returns, hml, findClass_of_methodNamed B.named, atoms_spec (ws := Cond.code yX11_step cX11_step 5 ((some .int)) :: GW) B.pre, B.notSynchronized⟩
  obtain ⟨hx, hb, hr, hml, hown, hts, hlk⟩ := id C
  have w := wd_of hw
  have hsl : h_s h = h_s h + 0 := rfl
  have hn0 : s.heap.size = h_x h := (wd_x w).1
  obtain ⟨ls, hen, hl⟩ : ∃ ls : Array Slot, entryFrame m ([.ref th, .int x1, .int x2, .int x3] : List Value).toArray 5 = F0 m 0 ls [] ∧ lv_has ls 5 [(0, .ref th), (1, .int x1), (2, .int x2), (3, .int x3)] := by
    exact ⟨_, lg_entry_eq _ _ _, lv_entry _ (Nat.le_of_ble_eq_true rfl)⟩
  rw [hen]
  have hcc : 0 ≤ h_x g - h_x h ∧ 0 ≤ h_s g - h_s h := ⟨Nat.zero_le _, Nat.zero_le _⟩
  unfold f_K_step at hE
  refine lv_aload_n hx hb dX11_step_0 rfl (lv_at hl 0 rfl) ?_
  refine lv_iload_n hx hb dX11_step_1 rfl (lv_at hl 1 rfl) ?_
  refine lv_iload_n hx hb dX11_step_2 rfl (lv_at hl 2 rfl) ?_
  refine w_VTR GW_good (n := 2) (F := 9) (Lc := 143) (ob := some th) (av := [.int x1, .int x2]) (rest := []) hxt hn0 hsl C w rfl (by decide) (fun a r g hf => k_K_stepOf l hst D cy z N h a x1 x2 r g hf) gw_33_4 gw_33_5 gw_33_6 gw_1_2 gw_33_7 (by decide +kernel) ⟨Nat.le_of_ble_eq_true rfl, Nat.le_of_ble_eq_true rfl⟩ rfl hl.1 rfl (Nat.le_of_ble_eq_true rfl) dX11_step_3 (fun a => (mo_K_stepOf N h a x1 x2)) (fun v1 h2 => mo_K_step_6 N   h2 x3 v1) hE (fun v1 h2 H locs w hsh2 e1 => ?_)
  exact b_K_step_6 C hst hxt N (h_x h) (h_s h) hn0   _ _ h2 x3 v1 _ _ ls w (by have u5 := hsh2.2.1; have u8 := hsl; omega) (lv_sub hl [3] rfl) e1
set_option maxRecDepth 20000 in
set_option maxHeartbeats 4000000 in
theorem b_K_isX_19 {p : Program} {l : Launch} {e : Env} {s : State} {m : MethodId} {args : Array Value} {below : List Frame} {meth : Method} {c : Code} {D : va_G} {cy : cyT} {z : Nat} (C : MX p s m args meth c cX11_isX 1 ((some .boolean)) RX11 (Cond.code yX11_isX cX11_isX 1 ((some .boolean)) :: GW)) (N : Nat) {r : Int32} {g : hS}  : ∀  (h : hS) (y0 : Int32) (H : Heap) (locs : List Loc) (ls : Array Slot), wd D cy z s 0 h H locs → lv_has ls 1 [] → f_K_isX_19 N   h y0 = some (r, g) → W p l e { frames := 0, cells := 0, slots := 0, locals := 0 } s m args below meth c H locs 0 0 (MQ below (eQ D cy z (rI r) g) args s 0 0 (fun q => z ≤ q)) (F0 m 19 ls [.int y0]) := by
  obtain ⟨hx, hb, hr, hml, hown, hts, hlk⟩ := id C
  intro  h y0 H locs ls w  hl hE
  unfold f_K_isX_19 at hE
  exact w_zret C w hE dX11_isX_19
set_option maxRecDepth 20000 in
set_option maxHeartbeats 4000000 in
theorem b_K_isX_18 {p : Program} {l : Launch} {e : Env} {s : State} {m : MethodId} {args : Array Value} {below : List Frame} {meth : Method} {c : Code} {D : va_G} {cy : cyT} {z : Nat} (C : MX p s m args meth c cX11_isX 1 ((some .boolean)) RX11 (Cond.code yX11_isX cX11_isX 1 ((some .boolean)) :: GW)) (N : Nat) {r : Int32} {g : hS}  : ∀  (h : hS)  (H : Heap) (locs : List Loc) (ls : Array Slot), wd D cy z s 0 h H locs → lv_has ls 1 [] → f_K_isX_18 N   h  = some (r, g) → W p l e { frames := 0, cells := 0, slots := 0, locals := 0 } s m args below meth c H locs 0 0 (MQ below (eQ D cy z (rI r) g) args s 0 0 (fun q => z ≤ q)) (F0 m 18 ls []) := by
  obtain ⟨hx, hb, hr, hml, hown, hts, hlk⟩ := id C
  intro  h  H locs ls w  hl hE
  unfold f_K_isX_18 at hE
  refine lv_iconst (v := 0) hx hb dX11_isX_18 (by decide) ?_
  exact b_K_isX_19 C N     h (0 : Int32) _ _ ls w  (lv_sub hl [] rfl) hE
set_option maxRecDepth 20000 in
set_option maxHeartbeats 4000000 in
theorem k_K_isX (l : Launch) (D : va_G) (cy : cyT) (z : Nat) (N : Nat) (h : hS) (x0 : Int32) (r : Int32) (g : hS) (hE : f_K_isX N h x0 = some (r, g)) : ct l yX11_isX (Cond.code yX11_isX cX11_isX 1 ((some .boolean)) :: GW) { frames := 0, cells := 0, slots := 0, locals := 0 } D cy z h [.int x0] (rI r) g := by
  refine Met.ofW (cc := cX11_isX) (maxL := 1) (ret := (some .boolean)) (by decide) rfl ?_
  intro p e s m args below meth c s₁ B hml hv
  obtain ⟨rfl, hw⟩ := hv
  have C : MX p s m ([.int x0] : List Value).toArray meth c cX11_isX 1 ((some .boolean)) RX11 (Cond.code yX11_isX cX11_isX 1 ((some .boolean)) :: GW) := ⟨B.exec, B.bytes, B.returns, hml, findClass_of_methodNamed B.named, atoms_spec (ws := Cond.code yX11_isX cX11_isX 1 ((some .boolean)) :: GW) B.pre, B.notSynchronized⟩
  obtain ⟨hx, hb, hr, hml, hown, hts, hlk⟩ := id C
  have w := wd_of hw
  obtain ⟨ls, hen, hl⟩ : ∃ ls : Array Slot, entryFrame m ([.int x0] : List Value).toArray 1 = F0 m 0 ls [] ∧ lv_has ls 1 [(0, .int x0)] := by
    exact ⟨_, lg_entry_eq _ _ _, lv_entry _ (Nat.le_of_ble_eq_true rfl)⟩
  rw [hen]
  unfold f_K_isX at hE
  refine lv_iload_n hx hb dX11_isX_0 rfl (lv_at hl 0 rfl) ?_
  refine lv_ldcw hx hb hown (hts _ (List.mem_cons_of_mem _ gw_34_15)) dX11_isX_1 ?_
  refine w_icmp_lt (tgt := 18) C dX11_isX_4 (by decide) hE (fun hc e1 => ?_) (fun hc e1 => ?_)
  · exact b_K_isX_18 C N     h  _ _ ls w  (lv_sub hl [] rfl) e1
  · refine lv_iload_n hx hb dX11_isX_7 rfl (lv_at hl 0 rfl) ?_
    refine lv_ldcw hx hb hown (hts _ (List.mem_cons_of_mem _ gw_34_16)) dX11_isX_8 ?_
    refine w_icmp_gt (tgt := 18) C dX11_isX_11 (by decide) e1 (fun hc e2 => ?_) (fun hc e2 => ?_)
    · exact b_K_isX_18 C N     h  _ _ ls w  (lv_sub hl [] rfl) e2
    · refine lv_iconst (v := 1) hx hb dX11_isX_14 (by decide) ?_
      refine lv_goto (tgt := 19) hx hb dX11_isX_15 (by decide) ?_
      exact b_K_isX_19 C N     h (1 : Int32) _ _ ls w  (lv_sub hl [] rfl) e2
set_option maxRecDepth 20000 in
set_option maxHeartbeats 4000000 in
theorem b_K_needX_7 {p : Program} {l : Launch} {e : Env} {s : State} {m : MethodId} {args : Array Value} {below : List Frame} {meth : Method} {c : Code} {D : va_G} {cy : cyT} {z : Nat} (C : MX p s m args meth c cX11_needX 1 (none) RX11 (Cond.code yX11_needX cX11_needX 1 (none) :: GW)) (hst : l.stackTraces = false) (hxt : ∀ x ∈ c.exceptionTable.toList, False) (N : Nat) (n0 s0 : Nat) (hn0 : s.heap.size = n0) {r : (Unit ⊕ Nat)} {g : hS}  : ∀  (cells slots : Nat) (h : hS)  (H : Heap) (locs : List Loc) (ls : Array Slot), wd D cy z s cells h H locs → h_s h = s0 + slots → lv_has ls 1 [] → f_K_needX_7 N   h  = some (r, g) → W p l e { frames := 7, cells := h_x g - n0, slots := h_s g - s0, locals := 102 } s m args below meth c H locs cells slots (eT D cy z rV r g below args s (h_x g - n0) (h_s g - s0)) (F0 m 7 ls []) := by
  obtain ⟨hx, hb, hr, hml, hown, hts, hlk⟩ := id C
  intro cells slots h  H locs ls w hsl hl hE
  have hcc : cells ≤ h_x g - n0 ∧ slots ≤ h_s g - s0 := by
    have q1 := mo_K_needX_7 N  h  _ _ hE
    have q2 := wd_x w
    have q3 := q1.1
    have q4 := q1.2.1
    omega
  unfold f_K_needX_7 at hE
  refine W.widen (k := h_x g - n0) (n := h_s g - s0) hcc.1 hcc.2 ?_
  exact w_vretT C w hE dX11_needX_7
set_option maxRecDepth 20000 in
set_option maxHeartbeats 4000000 in
theorem k_K_needX (l : Launch) (hst : l.stackTraces = false) (D : va_G) (cy : cyT) (z : Nat) (N : Nat) (h : hS) (x0 : Int32) (r : (Unit ⊕ Nat)) (g : hS) (hE : f_K_needX N h x0 = some (r, g)) : ctT l yX11_needX (Cond.code yX11_needX cX11_needX 1 (none) :: GW) { frames := 7, cells := h_x g - h_x h, slots := h_s g - h_s h, locals := 102 } D cy z h [.int x0] rV r g := by
  refine ctT_of (cc := cX11_needX) (maxL := 1) (ret := none) (by decide) ?_
  intro p e s m args below meth c s₁ B hml hxt hv
  obtain ⟨rfl, hw⟩ := hv
  have C : MX p s m ([.int x0] : List Value).toArray meth c cX11_needX 1 (none) RX11 (Cond.code yX11_needX cX11_needX 1 (none) :: GW) := ⟨B.exec, B.bytes, B.returns, hml, findClass_of_methodNamed B.named, atoms_spec (ws := Cond.code yX11_needX cX11_needX 1 (none) :: GW) B.pre, B.notSynchronized⟩
  obtain ⟨hx, hb, hr, hml, hown, hts, hlk⟩ := id C
  have w := wd_of hw
  have hsl : h_s h = h_s h + 0 := rfl
  have hn0 : s.heap.size = h_x h := (wd_x w).1
  obtain ⟨ls, hen, hl⟩ : ∃ ls : Array Slot, entryFrame m ([.int x0] : List Value).toArray 1 = F0 m 0 ls [] ∧ lv_has ls 1 [(0, .int x0)] := by
    exact ⟨_, lg_entry_eq _ _ _, lv_entry _ (Nat.le_of_ble_eq_true rfl)⟩
  rw [hen]
  have hcc : 0 ≤ h_x g - h_x h ∧ 0 ≤ h_s g - h_s h := ⟨Nat.zero_le _, Nat.zero_le _⟩
  unfold f_K_needX at hE
  refine lv_iload_n hx hb dX11_needX_0 rfl (lv_at hl 0 rfl) ?_
  refine w_SI GW_good (n := 1) (F := 0) (Lc := 0) (av := [.int x0]) (rest := []) C w (fun r g hf => k_K_isX l D cy z N h x0 r g hf) gw_34_12 gw_34_13 gw_1_2 gw_34_14 (by decide +kernel) ⟨Nat.le_of_ble_eq_true rfl, Nat.le_of_ble_eq_true rfl⟩ rfl hl.1 rfl (Nat.le_of_ble_eq_true rfl) dX11_needX_1 (sh_K_isX N h x0) ⟨hcc.1, hcc.2⟩ hE (fun v1 h2 H locs w hsh2 e1 => ?_)
  have hsl := hsh2.2.2.2.trans hsl
  refine w_STV GW_good (n := 1) (F := 6) (Lc := 82) (av := [.int v1]) (rest := []) hxt hn0 hsl C w (fun r g hf => k_K_needFit l hst D cy z N h2 v1 r g hf) gw_9_20 gw_9_21 gw_1_2 gw_9_22 (by decide +kernel) ⟨Nat.le_of_ble_eq_true rfl, Nat.le_of_ble_eq_true rfl⟩ rfl hl.1 rfl (Nat.le_of_ble_eq_true rfl) dX11_needX_4 (mo_K_needFit N h2 v1) (fun v3 h4 => mo_K_needX_7 N   h4 ) e1 (fun v3 h4 H locs w hsh4 e2 => ?_)
  exact b_K_needX_7 C hst hxt N (h_x h) (h_s h) hn0   _ _ h4  _ _ ls w (by have u5 := hsh4.2.1; have u8 := hsl; omega) (lv_sub hl [] rfl) e2
set_option maxRecDepth 20000 in
set_option maxHeartbeats 4000000 in
theorem b_K_at_10 {p : Program} {l : Launch} {e : Env} {s : State} {m : MethodId} {args : Array Value} {below : List Frame} {meth : Method} {c : Code} {D : va_G} {cy : cyT} {z : Nat} (C : MX p s m args meth c cX11_at 4 ((some .long)) RX11 (Cond.code yX11_at cX11_at 4 ((some .long)) :: GW)) (hst : l.stackTraces = false) (hxt : ∀ x ∈ c.exceptionTable.toList, False) (N : Nat) (n0 s0 : Nat) (hn0 : s.heap.size = n0) {r : (Int64 ⊕ Nat)} {g : hS}  : ∀  (cells slots : Nat) (h : hS) (x2 : Int32) (a3 : Option Nat) (H : Heap) (locs : List Loc) (ls : Array Slot), wd D cy z s cells h H locs → h_s h = s0 + slots → lv_has ls 4 [(2, .int x2), (3, va_rf a3)] → f_K_at_10 N   h x2 a3 = some (r, g) → W p l e { frames := 9, cells := h_x g - n0, slots := h_s g - s0, locals := 143 } s m args below meth c H locs cells slots (eT D cy z rJ r g below args s (h_x g - n0) (h_s g - s0)) (F0 m 10 ls []) := by
  obtain ⟨hx, hb, hr, hml, hown, hts, hlk⟩ := id C
  intro cells slots h x2 a3 H locs ls w hsl hl hE
  have hcc : cells ≤ h_x g - n0 ∧ slots ≤ h_s g - s0 := by
    have q1 := mo_K_at_10 N  h x2 a3 _ _ hE
    have q2 := wd_x w
    have q3 := q1.1
    have q4 := q1.2.1
    omega
  unfold f_K_at_10 at hE
  refine w_aload_n C dX11_at_10 rfl (lv_at hl 1 rfl) ?_
  refine lv_iload_n hx hb dX11_at_11 rfl (lv_at hl 0 rfl) ?_
  refine w_VJ GW_good (n := 1) (F := 1) (Lc := 44) (o := a3) (av := [.int x2]) (rest := []) C w rfl (by decide) (fun a r g hf => k_Curve_valueAt l D cy z N h a x2 r g hf) gw_34_17 gw_22_1 gw_22_2 gw_2_22 gw_22_3 (by decide +kernel) ⟨Nat.le_of_ble_eq_true rfl, Nat.le_of_ble_eq_true rfl⟩ rfl hl.1 rfl (Nat.le_of_ble_eq_true rfl) dX11_at_12 (fun a => (sh_Curve_valueAt N h a x2)) ⟨hcc.1, hcc.2⟩ hE (fun v1 h2 H locs w hsh2 e1 => ?_)
  have hsl := hsh2.2.2.2.trans hsl
  refine W.widen (k := h_x g - n0) (n := h_s g - s0) hcc.1 hcc.2 ?_
  exact w_lretT C w e1 dX11_at_15
set_option maxRecDepth 20000 in
set_option maxHeartbeats 4000000 in
theorem b_K_at_5 {p : Program} {l : Launch} {e : Env} {s : State} {m : MethodId} {args : Array Value} {below : List Frame} {meth : Method} {c : Code} {D : va_G} {cy : cyT} {z : Nat} (C : MX p s m args meth c cX11_at 4 ((some .long)) RX11 (Cond.code yX11_at cX11_at 4 ((some .long)) :: GW)) (hst : l.stackTraces = false) (hxt : ∀ x ∈ c.exceptionTable.toList, False) (N : Nat) (n0 s0 : Nat) (hn0 : s.heap.size = n0) {r : (Int64 ⊕ Nat)} {g : hS}  : ∀  (cells slots : Nat) (h : hS) (x2 : Int32) (y0 : Option Nat) (H : Heap) (locs : List Loc) (ls : Array Slot), wd D cy z s cells h H locs → h_s h = s0 + slots → lv_has ls 4 [(2, .int x2)] → f_K_at_5 N   h x2 y0 = some (r, g) → W p l e { frames := 9, cells := h_x g - n0, slots := h_s g - s0, locals := 143 } s m args below meth c H locs cells slots (eT D cy z rJ r g below args s (h_x g - n0) (h_s g - s0)) (F0 m 5 ls [va_rf y0]) := by
  obtain ⟨hx, hb, hr, hml, hown, hts, hlk⟩ := id C
  intro cells slots h x2 y0 H locs ls w hsl hl hE
  have hcc : cells ≤ h_x g - n0 ∧ slots ≤ h_s g - s0 := by
    have q1 := mo_K_at_5 N  h x2 y0 _ _ hE
    have q2 := wd_x w
    have q3 := q1.1
    have q4 := q1.2.1
    omega
  unfold f_K_at_5 at hE
  refine w_astore_n (r := y0) (lv' := [(3, va_rf y0), (2, .int x2)]) C dX11_at_5 rfl hl (by decide) rfl (fun ls hl => ?_)
  refine lv_iload_n hx hb dX11_at_6 rfl (lv_at hl 1 rfl) ?_
  refine w_STV GW_good (n := 1) (F := 7) (Lc := 102) (av := [.int x2]) (rest := []) hxt hn0 hsl C w (fun r g hf => k_K_needX l hst D cy z N h x2 r g hf) gw_34_9 gw_34_10 gw_1_2 gw_34_11 (by decide +kernel) ⟨Nat.le_of_ble_eq_true rfl, Nat.le_of_ble_eq_true rfl⟩ rfl hl.1 rfl (Nat.le_of_ble_eq_true rfl) dX11_at_7 (mo_K_needX N h x2) (fun v1 h2 => mo_K_at_10 N   h2 x2 y0) hE (fun v1 h2 H locs w hsh2 e1 => ?_)
  exact b_K_at_10 C hst hxt N n0 s0 hn0   _ _ h2 x2 y0 _ _ ls w (by have u5 := hsh2.2.1; have u8 := hsl; omega) (lv_sub hl [1, 0] rfl) e1
set_option maxRecDepth 20000 in
set_option maxHeartbeats 4000000 in
theorem k_K_at (l : Launch) (hst : l.stackTraces = false) (D : va_G) (cy : cyT) (z : Nat) (N : Nat) (h : hS) (th : Nat) (x1 : Int32) (x2 : Int32) (r : (Int64 ⊕ Nat)) (g : hS) (hE : f_K_at N h th x1 x2 = some (r, g)) : ctT l yX11_at (Cond.code yX11_at cX11_at 4 ((some .long)) :: GW) { frames := 9, cells := h_x g - h_x h, slots := h_s g - h_s h, locals := 143 } D cy z h [.ref th, .int x1, .int x2] rJ r g := by
  refine ctT_of (cc := cX11_at) (maxL := 4) (ret := (some .long)) (by decide) ?_
  intro p e s m args below meth c s₁ B hml hxt hv
  obtain ⟨rfl, hw⟩ := hv
  have C : MX p s m ([.ref th, .int x1, .int x2] : List Value).toArray meth c cX11_at 4 ((some .long)) RX11 (Cond.code yX11_at cX11_at 4 ((some .long)) :: GW) := ⟨B.exec, B.bytes, B.returns, hml, findClass_of_methodNamed B.named, atoms_spec (ws := Cond.code yX11_at cX11_at 4 ((some .long)) :: GW) B.pre, B.notSynchronized⟩
  obtain ⟨hx, hb, hr, hml, hown, hts, hlk⟩ := id C
  have w := wd_of hw
  have hsl : h_s h = h_s h + 0 := rfl
  have hn0 : s.heap.size = h_x h := (wd_x w).1
  obtain ⟨ls, hen, hl⟩ : ∃ ls : Array Slot, entryFrame m ([.ref th, .int x1, .int x2] : List Value).toArray 4 = F0 m 0 ls [] ∧ lv_has ls 4 [(0, .ref th), (1, .int x1), (2, .int x2)] := by
    exact ⟨_, lg_entry_eq _ _ _, lv_entry _ (Nat.le_of_ble_eq_true rfl)⟩
  rw [hen]
  have hcc : 0 ≤ h_x g - h_x h ∧ 0 ≤ h_s g - h_s h := ⟨Nat.zero_le _, Nat.zero_le _⟩
  unfold f_K_at at hE
  refine lv_aload_n hx hb dX11_at_0 rfl (lv_at hl 0 rfl) ?_
  refine lv_iload_n hx hb dX11_at_1 rfl (lv_at hl 1 rfl) ?_
  refine w_VTR GW_good (n := 1) (F := 8) (Lc := 122) (ob := some th) (av := [.int x1]) (rest := []) hxt hn0 hsl C w rfl (by decide) (fun a r g hf => k_K_curveOf l hst D cy z N h a x1 r g hf) gw_16_2 gw_16_3 gw_16_4 gw_1_2 gw_16_5 (by decide +kernel) ⟨Nat.le_of_ble_eq_true rfl, Nat.le_of_ble_eq_true rfl⟩ rfl hl.1 rfl (Nat.le_of_ble_eq_true rfl) dX11_at_2 (fun a => (mo_K_curveOf N h a x1)) (fun v1 h2 => mo_K_at_5 N   h2 x2 v1) hE (fun v1 h2 H locs w hsh2 e1 => ?_)
  exact b_K_at_5 C hst hxt N (h_x h) (h_s h) hn0   _ _ h2 x2 v1 _ _ ls w (by have u5 := hsh2.2.1; have u8 := hsl; omega) (lv_sub hl [2] rfl) e1
set_option maxRecDepth 20000 in
set_option maxHeartbeats 4000000 in
theorem b_K_least_5 {p : Program} {l : Launch} {e : Env} {s : State} {m : MethodId} {args : Array Value} {below : List Frame} {meth : Method} {c : Code} {D : va_G} {cy : cyT} {z : Nat} (C : MX p s m args meth c cX11_least 2 ((some .long)) RX11 (Cond.code yX11_least cX11_least 2 ((some .long)) :: GW)) (hst : l.stackTraces = false) (hxt : ∀ x ∈ c.exceptionTable.toList, False) (N : Nat) (n0 s0 : Nat) (hn0 : s.heap.size = n0) {r : (Int64 ⊕ Nat)} {g : hS}  : ∀  (cells slots : Nat) (h : hS) (y0 : Option Nat) (H : Heap) (locs : List Loc) (ls : Array Slot), wd D cy z s cells h H locs → h_s h = s0 + slots → lv_has ls 2 [] → f_K_least_5 N   h y0 = some (r, g) → W p l e { frames := 9, cells := h_x g - n0, slots := h_s g - s0, locals := 143 } s m args below meth c H locs cells slots (eT D cy z rJ r g below args s (h_x g - n0) (h_s g - s0)) (F0 m 5 ls [va_rf y0]) := by
  obtain ⟨hx, hb, hr, hml, hown, hts, hlk⟩ := id C
  intro cells slots h y0 H locs ls w hsl hl hE
  have hcc : cells ≤ h_x g - n0 ∧ slots ≤ h_s g - s0 := by
    have q1 := mo_K_least_5 N  h y0 _ _ hE
    have q2 := wd_x w
    have q3 := q1.1
    have q4 := q1.2.1
    omega
  unfold f_K_least_5 at hE
  refine w_gJ (r := y0) (ci := 3) (k := 4) C w rfl (by decide) (GF_wsX20 _) (by decide) rfl (List.mem_cons_of_mem _ gw_35_10) rfl dX11_least_5 hE (fun v1 e1 => ?_)
  refine W.widen (k := h_x g - n0) (n := h_s g - s0) hcc.1 hcc.2 ?_
  exact w_lretT C w e1 dX11_least_8
set_option maxRecDepth 20000 in
set_option maxHeartbeats 4000000 in
theorem k_K_least (l : Launch) (hst : l.stackTraces = false) (D : va_G) (cy : cyT) (z : Nat) (N : Nat) (h : hS) (th : Nat) (x1 : Int32) (r : (Int64 ⊕ Nat)) (g : hS) (hE : f_K_least N h th x1 = some (r, g)) : ctT l yX11_least (Cond.code yX11_least cX11_least 2 ((some .long)) :: GW) { frames := 9, cells := h_x g - h_x h, slots := h_s g - h_s h, locals := 143 } D cy z h [.ref th, .int x1] rJ r g := by
  refine ctT_of (cc := cX11_least) (maxL := 2) (ret := (some .long)) (by decide) ?_
  intro p e s m args below meth c s₁ B hml hxt hv
  obtain ⟨rfl, hw⟩ := hv
  have C : MX p s m ([.ref th, .int x1] : List Value).toArray meth c cX11_least 2 ((some .long)) RX11 (Cond.code yX11_least cX11_least 2 ((some .long)) :: GW) := ⟨B.exec, B.bytes, B.returns, hml, findClass_of_methodNamed B.named, atoms_spec (ws := Cond.code yX11_least cX11_least 2 ((some .long)) :: GW) B.pre, B.notSynchronized⟩
  obtain ⟨hx, hb, hr, hml, hown, hts, hlk⟩ := id C
  have w := wd_of hw
  have hsl : h_s h = h_s h + 0 := rfl
  have hn0 : s.heap.size = h_x h := (wd_x w).1
  obtain ⟨ls, hen, hl⟩ : ∃ ls : Array Slot, entryFrame m ([.ref th, .int x1] : List Value).toArray 2 = F0 m 0 ls [] ∧ lv_has ls 2 [(0, .ref th), (1, .int x1)] := by
    exact ⟨_, lg_entry_eq _ _ _, lv_entry _ (Nat.le_of_ble_eq_true rfl)⟩
  rw [hen]
  have hcc : 0 ≤ h_x g - h_x h ∧ 0 ≤ h_s g - h_s h := ⟨Nat.zero_le _, Nat.zero_le _⟩
  unfold f_K_least at hE
  refine lv_aload_n hx hb dX11_least_0 rfl (lv_at hl 0 rfl) ?_
  refine lv_iload_n hx hb dX11_least_1 rfl (lv_at hl 1 rfl) ?_
  refine w_VTR GW_good (n := 1) (F := 8) (Lc := 122) (ob := some th) (av := [.int x1]) (rest := []) hxt hn0 hsl C w rfl (by decide) (fun a r g hf => k_K_curveOf l hst D cy z N h a x1 r g hf) gw_16_2 gw_16_3 gw_16_4 gw_1_2 gw_16_5 (by decide +kernel) ⟨Nat.le_of_ble_eq_true rfl, Nat.le_of_ble_eq_true rfl⟩ rfl hl.1 rfl (Nat.le_of_ble_eq_true rfl) dX11_least_2 (fun a => (mo_K_curveOf N h a x1)) (fun v1 h2 => mo_K_least_5 N   h2 v1) hE (fun v1 h2 H locs w hsh2 e1 => ?_)
  exact b_K_least_5 C hst hxt N (h_x h) (h_s h) hn0   _ _ h2 v1 _ _ ls w (by have u5 := hsh2.2.1; have u8 := hsl; omega) (lv_sub hl [] rfl) e1
set_option maxRecDepth 20000 in
set_option maxHeartbeats 4000000 in
theorem b_K_isFar_19 {p : Program} {l : Launch} {e : Env} {s : State} {m : MethodId} {args : Array Value} {below : List Frame} {meth : Method} {c : Code} {D : va_G} {cy : cyT} {z : Nat} (C : MX p s m args meth c cX11_isFar 1 ((some .boolean)) RX11 (Cond.code yX11_isFar cX11_isFar 1 ((some .boolean)) :: GW)) (N : Nat) {r : Int32} {g : hS}  : ∀  (h : hS) (y0 : Int32) (H : Heap) (locs : List Loc) (ls : Array Slot), wd D cy z s 0 h H locs → lv_has ls 1 [] → f_K_isFar_19 N   h y0 = some (r, g) → W p l e { frames := 0, cells := 0, slots := 0, locals := 0 } s m args below meth c H locs 0 0 (MQ below (eQ D cy z (rI r) g) args s 0 0 (fun q => z ≤ q)) (F0 m 19 ls [.int y0]) := by
  obtain ⟨hx, hb, hr, hml, hown, hts, hlk⟩ := id C
  intro  h y0 H locs ls w  hl hE
  unfold f_K_isFar_19 at hE
  exact w_zret C w hE dX11_isFar_19
set_option maxRecDepth 20000 in
set_option maxHeartbeats 4000000 in
theorem b_K_isFar_14 {p : Program} {l : Launch} {e : Env} {s : State} {m : MethodId} {args : Array Value} {below : List Frame} {meth : Method} {c : Code} {D : va_G} {cy : cyT} {z : Nat} (C : MX p s m args meth c cX11_isFar 1 ((some .boolean)) RX11 (Cond.code yX11_isFar cX11_isFar 1 ((some .boolean)) :: GW)) (N : Nat) {r : Int32} {g : hS}  : ∀  (h : hS)  (H : Heap) (locs : List Loc) (ls : Array Slot), wd D cy z s 0 h H locs → lv_has ls 1 [] → f_K_isFar_14 N   h  = some (r, g) → W p l e { frames := 0, cells := 0, slots := 0, locals := 0 } s m args below meth c H locs 0 0 (MQ below (eQ D cy z (rI r) g) args s 0 0 (fun q => z ≤ q)) (F0 m 14 ls []) := by
  obtain ⟨hx, hb, hr, hml, hown, hts, hlk⟩ := id C
  intro  h  H locs ls w  hl hE
  unfold f_K_isFar_14 at hE
  refine lv_iconst (v := 1) hx hb dX11_isFar_14 (by decide) ?_
  refine lv_goto (tgt := 19) hx hb dX11_isFar_15 (by decide) ?_
  exact b_K_isFar_19 C N     h (1 : Int32) _ _ ls w  (lv_sub hl [] rfl) hE
set_option maxRecDepth 20000 in
set_option maxHeartbeats 4000000 in
theorem k_K_isFar (l : Launch) (D : va_G) (cy : cyT) (z : Nat) (N : Nat) (h : hS) (x0 : Int32) (r : Int32) (g : hS) (hE : f_K_isFar N h x0 = some (r, g)) : ct l yX11_isFar (Cond.code yX11_isFar cX11_isFar 1 ((some .boolean)) :: GW) { frames := 0, cells := 0, slots := 0, locals := 0 } D cy z h [.int x0] (rI r) g := by
  refine Met.ofW (cc := cX11_isFar) (maxL := 1) (ret := (some .boolean)) (by decide) rfl ?_
  intro p e s m args below meth c s₁ B hml hv
  obtain ⟨rfl, hw⟩ := hv
  have C : MX p s m ([.int x0] : List Value).toArray meth c cX11_isFar 1 ((some .boolean)) RX11 (Cond.code yX11_isFar cX11_isFar 1 ((some .boolean)) :: GW) := ⟨B.exec, B.bytes, B.returns, hml, findClass_of_methodNamed B.named, atoms_spec (ws := Cond.code yX11_isFar cX11_isFar 1 ((some .boolean)) :: GW) B.pre, B.notSynchronized⟩
  obtain ⟨hx, hb, hr, hml, hown, hts, hlk⟩ := id C
  have w := wd_of hw
  obtain ⟨ls, hen, hl⟩ : ∃ ls : Array Slot, entryFrame m ([.int x0] : List Value).toArray 1 = F0 m 0 ls [] ∧ lv_has ls 1 [(0, .int x0)] := by
    exact ⟨_, lg_entry_eq _ _ _, lv_entry _ (Nat.le_of_ble_eq_true rfl)⟩
  rw [hen]
  unfold f_K_isFar at hE
  refine lv_iload_n hx hb dX11_isFar_0 rfl (lv_at hl 0 rfl) ?_
  refine lv_ldcw hx hb hown (hts _ (List.mem_cons_of_mem _ gw_36_17)) dX11_isFar_1 ?_
  refine w_icmp_eq (tgt := 14) C dX11_isFar_4 (by decide) hE (fun hc e1 => ?_) (fun hc e1 => ?_)
  · exact b_K_isFar_14 C N     h  _ _ ls w  (lv_sub hl [] rfl) e1
  · refine lv_iload_n hx hb dX11_isFar_7 rfl (lv_at hl 0 rfl) ?_
    refine lv_ldcw hx hb hown (hts _ (List.mem_cons_of_mem _ gw_36_18)) dX11_isFar_8 ?_
    refine w_icmp_ne (tgt := 18) C dX11_isFar_11 (by decide) e1 (fun hc e2 => ?_) (fun hc e2 => ?_)
    · refine lv_iconst (v := 0) hx hb dX11_isFar_18 (by decide) ?_
      exact b_K_isFar_19 C N     h (0 : Int32) _ _ ls w  (lv_sub hl [] rfl) e2
    · exact b_K_isFar_14 C N     h  _ _ ls w  (lv_sub hl [] rfl) e2
set_option maxRecDepth 20000 in
set_option maxHeartbeats 4000000 in
theorem b_K_orNowhere_14 {p : Program} {l : Launch} {e : Env} {s : State} {m : MethodId} {args : Array Value} {below : List Frame} {meth : Method} {c : Code} {D : va_G} {cy : cyT} {z : Nat} (C : MX p s m args meth c cX11_orNowhere 1 ((some .int)) RX11 (Cond.code yX11_orNowhere cX11_orNowhere 1 ((some .int)) :: GW)) (N : Nat) {r : Int32} {g : hS}  : ∀  (h : hS) (y0 : Int32) (H : Heap) (locs : List Loc) (ls : Array Slot), wd D cy z s 0 h H locs → lv_has ls 1 [] → f_K_orNowhere_14 N   h y0 = some (r, g) → W p l e { frames := 1, cells := 0, slots := 0, locals := 20 } s m args below meth c H locs 0 0 (MQ below (eQ D cy z (rI r) g) args s 0 0 (fun q => z ≤ q)) (F0 m 14 ls [.int y0]) := by
  obtain ⟨hx, hb, hr, hml, hown, hts, hlk⟩ := id C
  intro  h y0 H locs ls w  hl hE
  unfold f_K_orNowhere_14 at hE
  exact w_iret C w hE dX11_orNowhere_14
set_option maxRecDepth 20000 in
set_option maxHeartbeats 4000000 in
theorem k_K_orNowhere (l : Launch) (D : va_G) (cy : cyT) (z : Nat) (N : Nat) (h : hS) (x0 : Int32) (r : Int32) (g : hS) (hE : f_K_orNowhere N h x0 = some (r, g)) : ct l yX11_orNowhere (Cond.code yX11_orNowhere cX11_orNowhere 1 ((some .int)) :: GW) { frames := 1, cells := 0, slots := 0, locals := 20 } D cy z h [.int x0] (rI r) g := by
  refine Met.ofW (cc := cX11_orNowhere) (maxL := 1) (ret := (some .int)) (by decide) rfl ?_
  intro p e s m args below meth c s₁ B hml hv
  obtain ⟨rfl, hw⟩ := hv
  have C : MX p s m ([.int x0] : List Value).toArray meth c cX11_orNowhere 1 ((some .int)) RX11 (Cond.code yX11_orNowhere cX11_orNowhere 1 ((some .int)) :: GW) := ⟨B.exec, B.bytes, B.returns, hml, findClass_of_methodNamed B.named, atoms_spec (ws := Cond.code yX11_orNowhere cX11_orNowhere 1 ((some .int)) :: GW) B.pre, B.notSynchronized⟩
  obtain ⟨hx, hb, hr, hml, hown, hts, hlk⟩ := id C
  have w := wd_of hw
  obtain ⟨ls, hen, hl⟩ : ∃ ls : Array Slot, entryFrame m ([.int x0] : List Value).toArray 1 = F0 m 0 ls [] ∧ lv_has ls 1 [(0, .int x0)] := by
    exact ⟨_, lg_entry_eq _ _ _, lv_entry _ (Nat.le_of_ble_eq_true rfl)⟩
  rw [hen]
  unfold f_K_orNowhere at hE
  refine lv_iload_n hx hb dX11_orNowhere_0 rfl (lv_at hl 0 rfl) ?_
  refine w_SI GW_good (n := 1) (F := 0) (Lc := 0) (av := [.int x0]) (rest := []) C w (fun r g hf => k_K_isFar l D cy z N h x0 r g hf) gw_36_14 gw_36_15 gw_1_2 gw_36_16 (by decide +kernel) ⟨Nat.le_of_ble_eq_true rfl, Nat.le_of_ble_eq_true rfl⟩ rfl hl.1 rfl (Nat.le_of_ble_eq_true rfl) dX11_orNowhere_1 (sh_K_isFar N h x0) ⟨by decide, by decide⟩ hE (fun v1 h2 H locs w hsh2 e1 => ?_)
  refine w_if_eq (tgt := 13) C dX11_orNowhere_4 (by decide) e1 (fun hc e2 => ?_) (fun hc e2 => ?_)
  · refine lv_iload_n hx hb dX11_orNowhere_13 rfl (lv_at hl 0 rfl) ?_
    exact b_K_orNowhere_14 C N     h2 x0 _ _ ls w  (lv_sub hl [] rfl) e2
  · refine lv_ldcw hx hb hown (hts _ (List.mem_cons_of_mem _ gw_36_13)) dX11_orNowhere_7 ?_
    refine lv_goto (tgt := 14) hx hb dX11_orNowhere_10 (by decide) ?_
    exact b_K_orNowhere_14 C N     h2 (-10000000 : Int32) _ _ ls w  (lv_sub hl [] rfl) e2
set_option maxRecDepth 20000 in
set_option maxHeartbeats 4000000 in
theorem b_K_flat_5 {p : Program} {l : Launch} {e : Env} {s : State} {m : MethodId} {args : Array Value} {below : List Frame} {meth : Method} {c : Code} {D : va_G} {cy : cyT} {z : Nat} (C : MX p s m args meth c cX11_flat 4 ((some .int)) RX11 (Cond.code yX11_flat cX11_flat 4 ((some .int)) :: GW)) (hst : l.stackTraces = false) (hxt : ∀ x ∈ c.exceptionTable.toList, False) (N : Nat) (n0 s0 : Nat) (hn0 : s.heap.size = n0) {r : (Int32 ⊕ Nat)} {g : hS}  : ∀  (cells slots : Nat) (h : hS) (x2 : Int32) (y0 : Option Nat) (H : Heap) (locs : List Loc) (ls : Array Slot), wd D cy z s cells h H locs → h_s h = s0 + slots → lv_has ls 4 [(2, .int x2)] → f_K_flat_5 N   h x2 y0 = some (r, g) → W p l e { frames := 9, cells := h_x g - n0, slots := h_s g - s0, locals := 143 } s m args below meth c H locs cells slots (eT D cy z rI r g below args s (h_x g - n0) (h_s g - s0)) (F0 m 5 ls [va_rf y0]) := by
  obtain ⟨hx, hb, hr, hml, hown, hts, hlk⟩ := id C
  intro cells slots h x2 y0 H locs ls w hsl hl hE
  have hcc : cells ≤ h_x g - n0 ∧ slots ≤ h_s g - s0 := by
    have q1 := mo_K_flat_5 N  h x2 y0 _ _ hE
    have q2 := wd_x w
    have q3 := q1.1
    have q4 := q1.2.1
    omega
  unfold f_K_flat_5 at hE
  refine w_astore_n (r := y0) (lv' := [(3, va_rf y0), (2, .int x2)]) C dX11_flat_5 rfl hl (by decide) rfl (fun ls hl => ?_)
  refine lv_iload_n hx hb dX11_flat_6 rfl (lv_at hl 1 rfl) ?_
  refine w_case hE (fun hc e1 => ?_) (fun nc7_0 e1 => ?_)
  · refine w_tin (tgt := 40) C hc dX11_flat_7 (by decide) (by decide) rfl (by decide) ?_
    refine w_aload_n C dX11_flat_40 rfl (lv_at hl 0 rfl) ?_
    refine lv_iconst (v := 0) hx hb dX11_flat_41 (by decide) ?_
    refine w_VI GW_good (n := 1) (F := 2) (Lc := 44) (o := y0) (av := [.int (0 : Int32)]) (rest := []) C w rfl (by decide) (fun a r g hf => k_Curve_lowEnd l D cy z N h a (0 : Int32) r g hf) gw_36_0 gw_36_1 gw_36_2 gw_2_22 gw_36_3 (by decide +kernel) ⟨Nat.le_of_ble_eq_true rfl, Nat.le_of_ble_eq_true rfl⟩ rfl hl.1 rfl (Nat.le_of_ble_eq_true rfl) dX11_flat_42 (fun a => (sh_Curve_lowEnd N h a (0 : Int32))) ⟨hcc.1, hcc.2⟩ e1 (fun v1 h2 H locs w hsh2 e2 => ?_)
    have hsl := hsh2.2.2.2.trans hsl
    refine w_SI GW_good (n := 1) (F := 1) (Lc := 20) (av := [.int v1]) (rest := []) C w (fun r g hf => k_K_orNowhere l D cy z N h2 v1 r g hf) gw_36_10 gw_36_11 gw_1_2 gw_36_12 (by decide +kernel) ⟨Nat.le_of_ble_eq_true rfl, Nat.le_of_ble_eq_true rfl⟩ rfl hl.1 rfl (Nat.le_of_ble_eq_true rfl) dX11_flat_45 (sh_K_orNowhere N h2 v1) ⟨hcc.1, hcc.2⟩ e2 (fun v3 h4 H locs w hsh4 e3 => ?_)
    have hsl := hsh4.2.2.2.trans hsl
    refine W.widen (k := h_x g - n0) (n := h_s g - s0) hcc.1 hcc.2 ?_
    exact w_iretT C w e3 dX11_flat_48
  ·
    refine w_case e1 (fun hc e4 => ?_) (fun nc7_1 e4 => ?_)
    · refine w_tin (tgt := 49) C hc dX11_flat_7 (by decide) (by decide) rfl (by decide) ?_
      refine w_aload_n C dX11_flat_49 rfl (lv_at hl 0 rfl) ?_
      refine lv_iconst (v := 0) hx hb dX11_flat_50 (by decide) ?_
      refine w_VI GW_good (n := 1) (F := 2) (Lc := 44) (o := y0) (av := [.int (0 : Int32)]) (rest := []) C w rfl (by decide) (fun a r g hf => k_Curve_highEnd l D cy z N h a (0 : Int32) r g hf) gw_36_19 gw_36_20 gw_36_21 gw_2_22 gw_36_22 (by decide +kernel) ⟨Nat.le_of_ble_eq_true rfl, Nat.le_of_ble_eq_true rfl⟩ rfl hl.1 rfl (Nat.le_of_ble_eq_true rfl) dX11_flat_51 (fun a => (sh_Curve_highEnd N h a (0 : Int32))) ⟨hcc.1, hcc.2⟩ e4 (fun v5 h6 H locs w hsh6 e5 => ?_)
      have hsl := hsh6.2.2.2.trans hsl
      refine w_SI GW_good (n := 1) (F := 1) (Lc := 20) (av := [.int v5]) (rest := []) C w (fun r g hf => k_K_orNowhere l D cy z N h6 v5 r g hf) gw_36_10 gw_36_11 gw_1_2 gw_36_12 (by decide +kernel) ⟨Nat.le_of_ble_eq_true rfl, Nat.le_of_ble_eq_true rfl⟩ rfl hl.1 rfl (Nat.le_of_ble_eq_true rfl) dX11_flat_54 (sh_K_orNowhere N h6 v5) ⟨hcc.1, hcc.2⟩ e5 (fun v7 h8 H locs w hsh8 e6 => ?_)
      have hsl := hsh8.2.2.2.trans hsl
      refine W.widen (k := h_x g - n0) (n := h_s g - s0) hcc.1 hcc.2 ?_
      exact w_iretT C w e6 dX11_flat_57
    ·
      refine w_case e4 (fun hc e7 => ?_) (fun nc7_2 e7 => ?_)
      · refine w_tin (tgt := 58) C hc dX11_flat_7 (by decide) (by decide) rfl (by decide) ?_
        refine w_aload_n C dX11_flat_58 rfl (lv_at hl 0 rfl) ?_
        refine lv_iconst (v := 0) hx hb dX11_flat_59 (by decide) ?_
        refine w_VI GW_good (n := 1) (F := 3) (Lc := 66) (o := y0) (av := [.int (0 : Int32)]) (rest := []) C w rfl (by decide) (fun a r g hf => k_Curve_nearestToZero l D cy z N h a (0 : Int32) r g hf) gw_36_23 gw_37_0 gw_37_1 gw_2_22 gw_37_2 (by decide +kernel) ⟨Nat.le_of_ble_eq_true rfl, Nat.le_of_ble_eq_true rfl⟩ rfl hl.1 rfl (Nat.le_of_ble_eq_true rfl) dX11_flat_60 (fun a => (sh_Curve_nearestToZero N h a (0 : Int32))) ⟨hcc.1, hcc.2⟩ e7 (fun v9 h10 H locs w hsh10 e8 => ?_)
        have hsl := hsh10.2.2.2.trans hsl
        refine W.widen (k := h_x g - n0) (n := h_s g - s0) hcc.1 hcc.2 ?_
        exact w_iretT C w e8 dX11_flat_63
      ·
        refine w_case e7 (fun hc e9 => ?_) (fun nc7_3 e9 => ?_)
        · refine w_tin (tgt := 64) C hc dX11_flat_7 (by decide) (by decide) rfl (by decide) ?_
          refine w_aload_n C dX11_flat_64 rfl (lv_at hl 0 rfl) ?_
          refine w_gI (r := y0) (ci := 3) (k := 0) C w rfl (by decide) (GF_wsX20 _) (by decide) rfl (List.mem_cons_of_mem _ gw_35_22) rfl dX11_flat_65 e9 (fun v11 e10 => ?_)
          refine W.widen (k := h_x g - n0) (n := h_s g - s0) hcc.1 hcc.2 ?_
          exact w_iretT C w e10 dX11_flat_68
        ·
          refine w_case e9 (fun hc e11 => ?_) (fun nc7_4 e11 => ?_)
          · refine w_tin (tgt := 69) C hc dX11_flat_7 (by decide) (by decide) rfl (by decide) ?_
            refine w_aload_n C dX11_flat_69 rfl (lv_at hl 0 rfl) ?_
            refine w_gI (r := y0) (ci := 3) (k := 3) C w rfl (by decide) (GF_wsX20 _) (by decide) rfl (List.mem_cons_of_mem _ gw_35_23) rfl dX11_flat_70 e11 (fun v12 e12 => ?_)
            refine W.widen (k := h_x g - n0) (n := h_s g - s0) hcc.1 hcc.2 ?_
            exact w_iretT C w e12 dX11_flat_73
          ·
            refine w_tout (tgt := 74) 0 5 C (by decide) (by intro k hk; rcases (show k = 0 ∨ k = 1 ∨ k = 2 ∨ k = 3 ∨ k = 4 by omega) with rfl | rfl | rfl | rfl | rfl; all_goals assumption) rfl rfl dX11_flat_7 (by decide) ?_
            exact w_thrN (is := 244) (tx := "a flat has nothing such") (pl := 5) hst hxt C w hn0 hsl hl.1 (List.mem_of_getElem? (i := 1) rfl) gw_9_18 gw_9_19 dX11_flat_74 dX11_flat_77 dX11_flat_78 dX11_flat_80 dX11_flat_83 (Nat.le_of_ble_eq_true rfl) (Nat.le_of_ble_eq_true rfl) e11
set_option maxRecDepth 20000 in
set_option maxHeartbeats 4000000 in
theorem k_K_flat (l : Launch) (hst : l.stackTraces = false) (D : va_G) (cy : cyT) (z : Nat) (N : Nat) (h : hS) (th : Nat) (x1 : Int32) (x2 : Int32) (r : (Int32 ⊕ Nat)) (g : hS) (hE : f_K_flat N h th x1 x2 = some (r, g)) : ctT l yX11_flat (Cond.code yX11_flat cX11_flat 4 ((some .int)) :: GW) { frames := 9, cells := h_x g - h_x h, slots := h_s g - h_s h, locals := 143 } D cy z h [.ref th, .int x1, .int x2] rI r g := by
  refine ctT_of (cc := cX11_flat) (maxL := 4) (ret := (some .int)) (by decide) ?_
  intro p e s m args below meth c s₁ B hml hxt hv
  obtain ⟨rfl, hw⟩ := hv
  have C : MX p s m ([.ref th, .int x1, .int x2] : List Value).toArray meth c cX11_flat 4 ((some .int)) RX11 (Cond.code yX11_flat cX11_flat 4 ((some .int)) :: GW) := ⟨B.exec, B.bytes, B.returns, hml, findClass_of_methodNamed B.named, atoms_spec (ws := Cond.code yX11_flat cX11_flat 4 ((some .int)) :: GW) B.pre, B.notSynchronized⟩
  obtain ⟨hx, hb, hr, hml, hown, hts, hlk⟩ := id C
  have w := wd_of hw
  have hsl : h_s h = h_s h + 0 := rfl
  have hn0 : s.heap.size = h_x h := (wd_x w).1
  obtain ⟨ls, hen, hl⟩ : ∃ ls : Array Slot, entryFrame m ([.ref th, .int x1, .int x2] : List Value).toArray 4 = F0 m 0 ls [] ∧ lv_has ls 4 [(0, .ref th), (1, .int x1), (2, .int x2)] := by
    exact ⟨_, lg_entry_eq _ _ _, lv_entry _ (Nat.le_of_ble_eq_true rfl)⟩
  rw [hen]
  have hcc : 0 ≤ h_x g - h_x h ∧ 0 ≤ h_s g - h_s h := ⟨Nat.zero_le _, Nat.zero_le _⟩
  unfold f_K_flat at hE
  refine lv_aload_n hx hb dX11_flat_0 rfl (lv_at hl 0 rfl) ?_
  refine lv_iload_n hx hb dX11_flat_1 rfl (lv_at hl 1 rfl) ?_
  refine w_VTR GW_good (n := 1) (F := 8) (Lc := 122) (ob := some th) (av := [.int x1]) (rest := []) hxt hn0 hsl C w rfl (by decide) (fun a r g hf => k_K_curveOf l hst D cy z N h a x1 r g hf) gw_16_2 gw_16_3 gw_16_4 gw_1_2 gw_16_5 (by decide +kernel) ⟨Nat.le_of_ble_eq_true rfl, Nat.le_of_ble_eq_true rfl⟩ rfl hl.1 rfl (Nat.le_of_ble_eq_true rfl) dX11_flat_2 (fun a => (mo_K_curveOf N h a x1)) (fun v1 h2 => mo_K_flat_5 N   h2 x2 v1) hE (fun v1 h2 H locs w hsh2 e1 => ?_)
  exact b_K_flat_5 C hst hxt N (h_x h) (h_s h) hn0   _ _ h2 x2 v1 _ _ ls w (by have u5 := hsh2.2.1; have u8 := hsl; omega) (lv_sub hl [2] rfl) e1
set_option maxRecDepth 20000 in
set_option maxHeartbeats 4000000 in
theorem b_K_kink_56 {p : Program} {l : Launch} {e : Env} {s : State} {m : MethodId} {args : Array Value} {below : List Frame} {meth : Method} {c : Code} {D : va_G} {cy : cyT} {z : Nat} (C : MX p s m args meth c cX11_kink 5 ((some .int)) RX11 (Cond.code yX11_kink cX11_kink 5 ((some .int)) :: GW)) (hst : l.stackTraces = false) (hxt : ∀ x ∈ c.exceptionTable.toList, False) (N : Nat) (n0 s0 : Nat) (hn0 : s.heap.size = n0) {r : (Int32 ⊕ Nat)} {g : hS}  : ∀  (cells slots : Nat) (h : hS) (y0 : Int32) (H : Heap) (locs : List Loc) (ls : Array Slot), wd D cy z s cells h H locs → h_s h = s0 + slots → lv_has ls 5 [] → f_K_kink_56 N   h y0 = some (r, g) → W p l e { frames := 9, cells := h_x g - n0, slots := h_s g - s0, locals := 143 } s m args below meth c H locs cells slots (eT D cy z rI r g below args s (h_x g - n0) (h_s g - s0)) (F0 m 56 ls [.int y0]) := by
  obtain ⟨hx, hb, hr, hml, hown, hts, hlk⟩ := id C
  intro cells slots h y0 H locs ls w hsl hl hE
  have hcc : cells ≤ h_x g - n0 ∧ slots ≤ h_s g - s0 := by
    have q1 := mo_K_kink_56 N  h y0 _ _ hE
    have q2 := wd_x w
    have q3 := q1.1
    have q4 := q1.2.1
    omega
  unfold f_K_kink_56 at hE
  refine W.widen (k := h_x g - n0) (n := h_s g - s0) hcc.1 hcc.2 ?_
  exact w_iretT C w hE dX11_kink_56
set_option maxRecDepth 20000 in
set_option maxHeartbeats 4000000 in
theorem b_K_kink_37 {p : Program} {l : Launch} {e : Env} {s : State} {m : MethodId} {args : Array Value} {below : List Frame} {meth : Method} {c : Code} {D : va_G} {cy : cyT} {z : Nat} (C : MX p s m args meth c cX11_kink 5 ((some .int)) RX11 (Cond.code yX11_kink cX11_kink 5 ((some .int)) :: GW)) (hst : l.stackTraces = false) (hxt : ∀ x ∈ c.exceptionTable.toList, False) (N : Nat) (n0 s0 : Nat) (hn0 : s.heap.size = n0) {r : (Int32 ⊕ Nat)} {g : hS}  : ∀  (cells slots : Nat) (h : hS) (x2 : Int32) (x3 : Int32) (a4 : Option Nat) (H : Heap) (locs : List Loc) (ls : Array Slot), wd D cy z s cells h H locs → h_s h = s0 + slots → lv_has ls 5 [(2, .int x2), (3, .int x3), (4, va_rf a4)] → f_K_kink_37 N   h x2 x3 a4 = some (r, g) → W p l e { frames := 9, cells := h_x g - n0, slots := h_s g - s0, locals := 143 } s m args below meth c H locs cells slots (eT D cy z rI r g below args s (h_x g - n0) (h_s g - s0)) (F0 m 37 ls []) := by
  obtain ⟨hx, hb, hr, hml, hown, hts, hlk⟩ := id C
  intro cells slots h x2 x3 a4 H locs ls w hsl hl hE
  have hcc : cells ≤ h_x g - n0 ∧ slots ≤ h_s g - s0 := by
    have q1 := mo_K_kink_37 N  h x2 x3 a4 _ _ hE
    have q2 := wd_x w
    have q3 := q1.1
    have q4 := q1.2.1
    omega
  unfold f_K_kink_37 at hE
  refine lv_iload_n hx hb dX11_kink_37 rfl (lv_at hl 1 rfl) ?_
  refine w_if_ne (tgt := 50) C dX11_kink_38 (by decide) hE (fun hc e1 => ?_) (fun hc e1 => ?_)
  · refine w_aload C dX11_kink_50 (lv_at hl 2 rfl) ?_
    refine lv_iload_n hx hb dX11_kink_52 rfl (lv_at hl 0 rfl) ?_
    refine w_VI GW_good (n := 1) (F := 0) (Lc := 0) (o := a4) (av := [.int x2]) (rest := []) C w rfl (by decide) (fun a r g hf => k_Curve_weightOf l D cy z N h a x2 r g hf) gw_38_7 gw_17_6 gw_17_7 gw_2_22 gw_17_8 (by decide +kernel) ⟨Nat.le_of_ble_eq_true rfl, Nat.le_of_ble_eq_true rfl⟩ rfl hl.1 rfl (Nat.le_of_ble_eq_true rfl) dX11_kink_53 (fun a => (sh_Curve_weightOf N h a x2)) ⟨hcc.1, hcc.2⟩ e1 (fun v1 h2 H locs w hsh2 e2 => ?_)
    have hsl := hsh2.2.2.2.trans hsl
    exact b_K_kink_56 C hst hxt N n0 s0 hn0   _ _ h2 v1 _ _ ls w hsl (lv_sub hl [] rfl) e2
  · refine w_aload C dX11_kink_41 (lv_at hl 2 rfl) ?_
    refine lv_iload_n hx hb dX11_kink_43 rfl (lv_at hl 0 rfl) ?_
    refine w_VI GW_good (n := 1) (F := 0) (Lc := 0) (o := a4) (av := [.int x2]) (rest := []) C w rfl (by decide) (fun a r g hf => k_Curve_placeOf l D cy z N h a x2 r g hf) gw_38_6 gw_17_2 gw_17_3 gw_2_22 gw_17_4 (by decide +kernel) ⟨Nat.le_of_ble_eq_true rfl, Nat.le_of_ble_eq_true rfl⟩ rfl hl.1 rfl (Nat.le_of_ble_eq_true rfl) dX11_kink_44 (fun a => (sh_Curve_placeOf N h a x2)) ⟨hcc.1, hcc.2⟩ e1 (fun v3 h4 H locs w hsh4 e3 => ?_)
    have hsl := hsh4.2.2.2.trans hsl
    refine lv_goto (tgt := 56) hx hb dX11_kink_47 (by decide) ?_
    exact b_K_kink_56 C hst hxt N n0 s0 hn0   _ _ h4 v3 _ _ ls w hsl (lv_sub hl [] rfl) e3
set_option maxRecDepth 20000 in
set_option maxHeartbeats 4000000 in
theorem b_K_kink_34 {p : Program} {l : Launch} {e : Env} {s : State} {m : MethodId} {args : Array Value} {below : List Frame} {meth : Method} {c : Code} {D : va_G} {cy : cyT} {z : Nat} (C : MX p s m args meth c cX11_kink 5 ((some .int)) RX11 (Cond.code yX11_kink cX11_kink 5 ((some .int)) :: GW)) (hst : l.stackTraces = false) (hxt : ∀ x ∈ c.exceptionTable.toList, False) (N : Nat) (n0 s0 : Nat) (hn0 : s.heap.size = n0) {r : (Int32 ⊕ Nat)} {g : hS}  : ∀  (cells slots : Nat) (h : hS) (x2 : Int32) (x3 : Int32) (a4 : Option Nat) (y0 : Int32) (H : Heap) (locs : List Loc) (ls : Array Slot), wd D cy z s cells h H locs → h_s h = s0 + slots → lv_has ls 5 [(2, .int x2), (3, .int x3), (4, va_rf a4)] → f_K_kink_34 N   h x2 x3 a4 y0 = some (r, g) → W p l e { frames := 9, cells := h_x g - n0, slots := h_s g - s0, locals := 143 } s m args below meth c H locs cells slots (eT D cy z rI r g below args s (h_x g - n0) (h_s g - s0)) (F0 m 34 ls [.int y0]) := by
  obtain ⟨hx, hb, hr, hml, hown, hts, hlk⟩ := id C
  intro cells slots h x2 x3 a4 y0 H locs ls w hsl hl hE
  have hcc : cells ≤ h_x g - n0 ∧ slots ≤ h_s g - s0 := by
    have q1 := mo_K_kink_34 N  h x2 x3 a4 y0 _ _ hE
    have q2 := wd_x w
    have q3 := q1.1
    have q4 := q1.2.1
    omega
  unfold f_K_kink_34 at hE
  refine w_STV GW_good (n := 1) (F := 6) (Lc := 82) (av := [.int y0]) (rest := []) hxt hn0 hsl C w (fun r g hf => k_K_needSuch l hst D cy z N h y0 r g hf) gw_9_15 gw_9_16 gw_1_2 gw_9_17 (by decide +kernel) ⟨Nat.le_of_ble_eq_true rfl, Nat.le_of_ble_eq_true rfl⟩ rfl hl.1 rfl (Nat.le_of_ble_eq_true rfl) dX11_kink_34 (mo_K_needSuch N h y0) (fun v1 h2 => mo_K_kink_37 N   h2 x2 x3 a4) hE (fun v1 h2 H locs w hsh2 e1 => ?_)
  exact b_K_kink_37 C hst hxt N n0 s0 hn0   _ _ h2 x2 x3 a4 _ _ ls w (by have u5 := hsh2.2.1; have u8 := hsl; omega) (lv_sub hl [0, 1, 2] rfl) e1
set_option maxRecDepth 20000 in
set_option maxHeartbeats 4000000 in
theorem b_K_kink_33 {p : Program} {l : Launch} {e : Env} {s : State} {m : MethodId} {args : Array Value} {below : List Frame} {meth : Method} {c : Code} {D : va_G} {cy : cyT} {z : Nat} (C : MX p s m args meth c cX11_kink 5 ((some .int)) RX11 (Cond.code yX11_kink cX11_kink 5 ((some .int)) :: GW)) (hst : l.stackTraces = false) (hxt : ∀ x ∈ c.exceptionTable.toList, False) (N : Nat) (n0 s0 : Nat) (hn0 : s.heap.size = n0) {r : (Int32 ⊕ Nat)} {g : hS}  : ∀  (cells slots : Nat) (h : hS) (x2 : Int32) (x3 : Int32) (a4 : Option Nat) (H : Heap) (locs : List Loc) (ls : Array Slot), wd D cy z s cells h H locs → h_s h = s0 + slots → lv_has ls 5 [(2, .int x2), (3, .int x3), (4, va_rf a4)] → f_K_kink_33 N   h x2 x3 a4 = some (r, g) → W p l e { frames := 9, cells := h_x g - n0, slots := h_s g - s0, locals := 143 } s m args below meth c H locs cells slots (eT D cy z rI r g below args s (h_x g - n0) (h_s g - s0)) (F0 m 33 ls []) := by
  obtain ⟨hx, hb, hr, hml, hown, hts, hlk⟩ := id C
  intro cells slots h x2 x3 a4 H locs ls w hsl hl hE
  have hcc : cells ≤ h_x g - n0 ∧ slots ≤ h_s g - s0 := by
    have q1 := mo_K_kink_33 N  h x2 x3 a4 _ _ hE
    have q2 := wd_x w
    have q3 := q1.1
    have q4 := q1.2.1
    omega
  unfold f_K_kink_33 at hE
  refine lv_iconst (v := 0) hx hb dX11_kink_33 (by decide) ?_
  exact b_K_kink_34 C hst hxt N n0 s0 hn0   _ _ h x2 x3 a4 (0 : Int32) _ _ ls w hsl (lv_sub hl [0, 1, 2] rfl) hE
set_option maxRecDepth 20000 in
set_option maxHeartbeats 4000000 in
theorem b_K_kink_29 {p : Program} {l : Launch} {e : Env} {s : State} {m : MethodId} {args : Array Value} {below : List Frame} {meth : Method} {c : Code} {D : va_G} {cy : cyT} {z : Nat} (C : MX p s m args meth c cX11_kink 5 ((some .int)) RX11 (Cond.code yX11_kink cX11_kink 5 ((some .int)) :: GW)) (hst : l.stackTraces = false) (hxt : ∀ x ∈ c.exceptionTable.toList, False) (N : Nat) (n0 s0 : Nat) (hn0 : s.heap.size = n0) {r : (Int32 ⊕ Nat)} {g : hS}  : ∀  (cells slots : Nat) (h : hS) (x2 : Int32) (x3 : Int32) (a4 : Option Nat) (H : Heap) (locs : List Loc) (ls : Array Slot), wd D cy z s cells h H locs → h_s h = s0 + slots → lv_has ls 5 [(2, .int x2), (3, .int x3), (4, va_rf a4)] → f_K_kink_29 N   h x2 x3 a4 = some (r, g) → W p l e { frames := 9, cells := h_x g - n0, slots := h_s g - s0, locals := 143 } s m args below meth c H locs cells slots (eT D cy z rI r g below args s (h_x g - n0) (h_s g - s0)) (F0 m 29 ls []) := by
  obtain ⟨hx, hb, hr, hml, hown, hts, hlk⟩ := id C
  intro cells slots h x2 x3 a4 H locs ls w hsl hl hE
  have hcc : cells ≤ h_x g - n0 ∧ slots ≤ h_s g - s0 := by
    have q1 := mo_K_kink_29 N  h x2 x3 a4 _ _ hE
    have q2 := wd_x w
    have q3 := q1.1
    have q4 := q1.2.1
    omega
  unfold f_K_kink_29 at hE
  refine lv_iconst (v := 1) hx hb dX11_kink_29 (by decide) ?_
  refine lv_goto (tgt := 34) hx hb dX11_kink_30 (by decide) ?_
  exact b_K_kink_34 C hst hxt N n0 s0 hn0   _ _ h x2 x3 a4 (1 : Int32) _ _ ls w hsl (lv_sub hl [0, 1, 2] rfl) hE
set_option maxRecDepth 20000 in
set_option maxHeartbeats 4000000 in
theorem b_K_kink_5 {p : Program} {l : Launch} {e : Env} {s : State} {m : MethodId} {args : Array Value} {below : List Frame} {meth : Method} {c : Code} {D : va_G} {cy : cyT} {z : Nat} (C : MX p s m args meth c cX11_kink 5 ((some .int)) RX11 (Cond.code yX11_kink cX11_kink 5 ((some .int)) :: GW)) (hst : l.stackTraces = false) (hxt : ∀ x ∈ c.exceptionTable.toList, False) (N : Nat) (n0 s0 : Nat) (hn0 : s.heap.size = n0) {r : (Int32 ⊕ Nat)} {g : hS}  : ∀  (cells slots : Nat) (h : hS) (x2 : Int32) (x3 : Int32) (y0 : Option Nat) (H : Heap) (locs : List Loc) (ls : Array Slot), wd D cy z s cells h H locs → h_s h = s0 + slots → lv_has ls 5 [(2, .int x2), (3, .int x3)] → f_K_kink_5 N   h x2 x3 y0 = some (r, g) → W p l e { frames := 9, cells := h_x g - n0, slots := h_s g - s0, locals := 143 } s m args below meth c H locs cells slots (eT D cy z rI r g below args s (h_x g - n0) (h_s g - s0)) (F0 m 5 ls [va_rf y0]) := by
  obtain ⟨hx, hb, hr, hml, hown, hts, hlk⟩ := id C
  intro cells slots h x2 x3 y0 H locs ls w hsl hl hE
  have hcc : cells ≤ h_x g - n0 ∧ slots ≤ h_s g - s0 := by
    have q1 := mo_K_kink_5 N  h x2 x3 y0 _ _ hE
    have q2 := wd_x w
    have q3 := q1.1
    have q4 := q1.2.1
    omega
  unfold f_K_kink_5 at hE
  refine w_astore (r := y0) (lv' := [(4, va_rf y0), (2, .int x2), (3, .int x3)]) C dX11_kink_5 hl (by decide) rfl (fun ls hl => ?_)
  refine lv_iload_n hx hb dX11_kink_7 rfl (lv_at hl 1 rfl) ?_
  refine w_if_lt (tgt := 33) C dX11_kink_8 (by decide) hE (fun hc e1 => ?_) (fun hc e1 => ?_)
  · exact b_K_kink_33 C hst hxt N n0 s0 hn0   _ _ h x2 x3 y0 _ _ ls w hsl (lv_sub hl [1, 2, 0] rfl) e1
  · refine lv_iload_n hx hb dX11_kink_11 rfl (lv_at hl 1 rfl) ?_
    refine w_aload C dX11_kink_12 (lv_at hl 0 rfl) ?_
    refine w_gI (r := y0) (ci := 3) (k := 0) C w rfl (by decide) (GF_wsX20 _) (by decide) rfl (List.mem_cons_of_mem _ gw_35_22) rfl dX11_kink_14 e1 (fun v1 e2 => ?_)
    refine w_icmp_ge (tgt := 33) C dX11_kink_17 (by decide) e2 (fun hc e3 => ?_) (fun hc e3 => ?_)
    · exact b_K_kink_33 C hst hxt N n0 s0 hn0   _ _ h x2 x3 y0 _ _ ls w hsl (lv_sub hl [1, 2, 0] rfl) e3
    · refine lv_iload_n hx hb dX11_kink_20 rfl (lv_at hl 2 rfl) ?_
      refine w_if_eq (tgt := 29) C dX11_kink_21 (by decide) e3 (fun hc e4 => ?_) (fun hc e4 => ?_)
      · exact b_K_kink_29 C hst hxt N n0 s0 hn0   _ _ h x2 x3 y0 _ _ ls w hsl (lv_sub hl [1, 2, 0] rfl) e4
      · refine lv_iload_n hx hb dX11_kink_24 rfl (lv_at hl 2 rfl) ?_
        refine lv_iconst (v := 1) hx hb dX11_kink_25 (by decide) ?_
        refine w_icmp_ne (tgt := 33) C dX11_kink_26 (by decide) e4 (fun hc e5 => ?_) (fun hc e5 => ?_)
        · exact b_K_kink_33 C hst hxt N n0 s0 hn0   _ _ h x2 x3 y0 _ _ ls w hsl (lv_sub hl [1, 2, 0] rfl) e5
        · exact b_K_kink_29 C hst hxt N n0 s0 hn0   _ _ h x2 x3 y0 _ _ ls w hsl (lv_sub hl [1, 2, 0] rfl) e5
set_option maxRecDepth 20000 in
set_option maxHeartbeats 4000000 in
theorem k_K_kink (l : Launch) (hst : l.stackTraces = false) (D : va_G) (cy : cyT) (z : Nat) (N : Nat) (h : hS) (th : Nat) (x1 : Int32) (x2 : Int32) (x3 : Int32) (r : (Int32 ⊕ Nat)) (g : hS) (hE : f_K_kink N h th x1 x2 x3 = some (r, g)) : ctT l yX11_kink (Cond.code yX11_kink cX11_kink 5 ((some .int)) :: GW) { frames := 9, cells := h_x g - h_x h, slots := h_s g - h_s h, locals := 143 } D cy z h [.ref th, .int x1, .int x2, .int x3] rI r g := by
  refine ctT_of (cc := cX11_kink) (maxL := 5) (ret := (some .int)) (by decide) ?_
  intro p e s m args below meth c s₁ B hml hxt hv
  obtain ⟨rfl, hw⟩ := hv
  have C : MX p s m ([.ref th, .int x1, .int x2, .int x3] : List Value).toArray meth c cX11_kink 5 ((some .int)) RX11 (Cond.code yX11_kink cX11_kink 5 ((some .int)) :: GW) := ⟨B.exec, B.bytes, B.returns, hml, findClass_of_methodNamed B.named, atoms_spec (ws := Cond.code yX11_kink cX11_kink 5 ((some .int)) :: GW) B.pre, B.notSynchronized⟩
  obtain ⟨hx, hb, hr, hml, hown, hts, hlk⟩ := id C
  have w := wd_of hw
  have hsl : h_s h = h_s h + 0 := rfl
  have hn0 : s.heap.size = h_x h := (wd_x w).1
  obtain ⟨ls, hen, hl⟩ : ∃ ls : Array Slot, entryFrame m ([.ref th, .int x1, .int x2, .int x3] : List Value).toArray 5 = F0 m 0 ls [] ∧ lv_has ls 5 [(0, .ref th), (1, .int x1), (2, .int x2), (3, .int x3)] := by
    exact ⟨_, lg_entry_eq _ _ _, lv_entry _ (Nat.le_of_ble_eq_true rfl)⟩
  rw [hen]
  have hcc : 0 ≤ h_x g - h_x h ∧ 0 ≤ h_s g - h_s h := ⟨Nat.zero_le _, Nat.zero_le _⟩
  unfold f_K_kink at hE
  refine lv_aload_n hx hb dX11_kink_0 rfl (lv_at hl 0 rfl) ?_
  refine lv_iload_n hx hb dX11_kink_1 rfl (lv_at hl 1 rfl) ?_
  refine w_VTR GW_good (n := 1) (F := 8) (Lc := 122) (ob := some th) (av := [.int x1]) (rest := []) hxt hn0 hsl C w rfl (by decide) (fun a r g hf => k_K_curveOf l hst D cy z N h a x1 r g hf) gw_16_2 gw_16_3 gw_16_4 gw_1_2 gw_16_5 (by decide +kernel) ⟨Nat.le_of_ble_eq_true rfl, Nat.le_of_ble_eq_true rfl⟩ rfl hl.1 rfl (Nat.le_of_ble_eq_true rfl) dX11_kink_2 (fun a => (mo_K_curveOf N h a x1)) (fun v1 h2 => mo_K_kink_5 N   h2 x2 x3 v1) hE (fun v1 h2 H locs w hsh2 e1 => ?_)
  exact b_K_kink_5 C hst hxt N (h_x h) (h_s h) hn0   _ _ h2 x2 x3 v1 _ _ ls w (by have u5 := hsh2.2.1; have u8 := hsl; omega) (lv_sub hl [2, 3] rfl) e1
set_option maxRecDepth 20000 in
set_option maxHeartbeats 4000000 in
theorem b_K_slope_41 {p : Program} {l : Launch} {e : Env} {s : State} {m : MethodId} {args : Array Value} {below : List Frame} {meth : Method} {c : Code} {D : va_G} {cy : cyT} {z : Nat} (C : MX p s m args meth c cX11_slope 5 ((some .int)) RX11 (Cond.code yX11_slope cX11_slope 5 ((some .int)) :: GW)) (hst : l.stackTraces = false) (hxt : ∀ x ∈ c.exceptionTable.toList, False) (N : Nat) (n0 s0 : Nat) (hn0 : s.heap.size = n0) {r : (Int32 ⊕ Nat)} {g : hS}  : ∀  (cells slots : Nat) (h : hS) (y0 : Option Nat) (y1 : Int32) (H : Heap) (locs : List Loc) (ls : Array Slot), wd D cy z s cells h H locs → h_s h = s0 + slots → lv_has ls 5 [] → f_K_slope_41 N   h y0 y1 = some (r, g) → W p l e { frames := 9, cells := h_x g - n0, slots := h_s g - s0, locals := 143 } s m args below meth c H locs cells slots (eT D cy z rI r g below args s (h_x g - n0) (h_s g - s0)) (F0 m 41 ls [.int y1, va_rf y0]) := by
  obtain ⟨hx, hb, hr, hml, hown, hts, hlk⟩ := id C
  intro cells slots h y0 y1 H locs ls w hsl hl hE
  have hcc : cells ≤ h_x g - n0 ∧ slots ≤ h_s g - s0 := by
    have q1 := mo_K_slope_41 N  h y0 y1 _ _ hE
    have q2 := wd_x w
    have q3 := q1.1
    have q4 := q1.2.1
    omega
  unfold f_K_slope_41 at hE
  refine w_VI GW_good (n := 1) (F := 1) (Lc := 21) (o := y0) (av := [.int y1]) (rest := []) C w rfl (by decide) (fun a r g hf => k_Curve_slopeBehind l D cy z N h a y1 r g hf) gw_38_19 gw_38_20 gw_38_21 gw_2_22 gw_38_22 (by decide +kernel) ⟨Nat.le_of_ble_eq_true rfl, Nat.le_of_ble_eq_true rfl⟩ rfl hl.1 rfl (Nat.le_of_ble_eq_true rfl) dX11_slope_41 (fun a => (sh_Curve_slopeBehind N h a y1)) ⟨hcc.1, hcc.2⟩ hE (fun v1 h2 H locs w hsh2 e1 => ?_)
  have hsl := hsh2.2.2.2.trans hsl
  refine W.widen (k := h_x g - n0) (n := h_s g - s0) hcc.1 hcc.2 ?_
  exact w_iretT C w e1 dX11_slope_44
set_option maxRecDepth 20000 in
set_option maxHeartbeats 4000000 in
theorem b_K_slope_28 {p : Program} {l : Launch} {e : Env} {s : State} {m : MethodId} {args : Array Value} {below : List Frame} {meth : Method} {c : Code} {D : va_G} {cy : cyT} {z : Nat} (C : MX p s m args meth c cX11_slope 5 ((some .int)) RX11 (Cond.code yX11_slope cX11_slope 5 ((some .int)) :: GW)) (hst : l.stackTraces = false) (hxt : ∀ x ∈ c.exceptionTable.toList, False) (N : Nat) (n0 s0 : Nat) (hn0 : s.heap.size = n0) {r : (Int32 ⊕ Nat)} {g : hS}  : ∀  (cells slots : Nat) (h : hS) (x2 : Int32) (x3 : Int32) (a4 : Option Nat) (H : Heap) (locs : List Loc) (ls : Array Slot), wd D cy z s cells h H locs → h_s h = s0 + slots → lv_has ls 5 [(2, .int x2), (3, .int x3), (4, va_rf a4)] → f_K_slope_28 N   h x2 x3 a4 = some (r, g) → W p l e { frames := 9, cells := h_x g - n0, slots := h_s g - s0, locals := 143 } s m args below meth c H locs cells slots (eT D cy z rI r g below args s (h_x g - n0) (h_s g - s0)) (F0 m 28 ls []) := by
  obtain ⟨hx, hb, hr, hml, hown, hts, hlk⟩ := id C
  intro cells slots h x2 x3 a4 H locs ls w hsl hl hE
  have hcc : cells ≤ h_x g - n0 ∧ slots ≤ h_s g - s0 := by
    have q1 := mo_K_slope_28 N  h x2 x3 a4 _ _ hE
    have q2 := wd_x w
    have q3 := q1.1
    have q4 := q1.2.1
    omega
  unfold f_K_slope_28 at hE
  refine w_aload C dX11_slope_28 (lv_at hl 2 rfl) ?_
  refine lv_iload_n hx hb dX11_slope_30 rfl (lv_at hl 1 rfl) ?_
  refine w_if_ne (tgt := 40) C dX11_slope_31 (by decide) hE (fun hc e1 => ?_) (fun hc e1 => ?_)
  · refine lv_iload_n hx hb dX11_slope_40 rfl (lv_at hl 0 rfl) ?_
    exact b_K_slope_41 C hst hxt N n0 s0 hn0   _ _ h a4 x2 _ _ ls w hsl (lv_sub hl [] rfl) e1
  · refine lv_iload_n hx hb dX11_slope_34 rfl (lv_at hl 0 rfl) ?_
    refine lv_iconst (v := 1) hx hb dX11_slope_35 (by decide) ?_
    refine lv_isub hx hb dX11_slope_36 ?_
    refine lv_goto (tgt := 41) hx hb dX11_slope_37 (by decide) ?_
    exact b_K_slope_41 C hst hxt N n0 s0 hn0   _ _ h a4 (x2 - (1 : Int32)) _ _ ls w hsl (lv_sub hl [] rfl) e1
set_option maxRecDepth 20000 in
set_option maxHeartbeats 4000000 in
theorem b_K_slope_24 {p : Program} {l : Launch} {e : Env} {s : State} {m : MethodId} {args : Array Value} {below : List Frame} {meth : Method} {c : Code} {D : va_G} {cy : cyT} {z : Nat} (C : MX p s m args meth c cX11_slope 5 ((some .int)) RX11 (Cond.code yX11_slope cX11_slope 5 ((some .int)) :: GW)) (hst : l.stackTraces = false) (hxt : ∀ x ∈ c.exceptionTable.toList, False) (N : Nat) (n0 s0 : Nat) (hn0 : s.heap.size = n0) {r : (Int32 ⊕ Nat)} {g : hS}  : ∀  (cells slots : Nat) (h : hS) (x2 : Int32) (x3 : Int32) (a4 : Option Nat) (H : Heap) (locs : List Loc) (ls : Array Slot), wd D cy z s cells h H locs → h_s h = s0 + slots → lv_has ls 5 [(2, .int x2), (3, .int x3), (4, va_rf a4)] → f_K_slope_24 N   h x2 x3 a4 = some (r, g) → W p l e { frames := 9, cells := h_x g - n0, slots := h_s g - s0, locals := 143 } s m args below meth c H locs cells slots (eT D cy z rI r g below args s (h_x g - n0) (h_s g - s0)) (F0 m 24 ls []) := by
  obtain ⟨hx, hb, hr, hml, hown, hts, hlk⟩ := id C
  intro cells slots h x2 x3 a4 H locs ls w hsl hl hE
  have hcc : cells ≤ h_x g - n0 ∧ slots ≤ h_s g - s0 := by
    have q1 := mo_K_slope_24 N  h x2 x3 a4 _ _ hE
    have q2 := wd_x w
    have q3 := q1.1
    have q4 := q1.2.1
    omega
  unfold f_K_slope_24 at hE
  refine lv_iload_n hx hb dX11_slope_24 rfl (lv_at hl 0 rfl) ?_
  refine w_STV GW_good (n := 1) (F := 7) (Lc := 102) (av := [.int x2]) (rest := []) hxt hn0 hsl C w (fun r g hf => k_K_needX l hst D cy z N h x2 r g hf) gw_34_9 gw_34_10 gw_1_2 gw_34_11 (by decide +kernel) ⟨Nat.le_of_ble_eq_true rfl, Nat.le_of_ble_eq_true rfl⟩ rfl hl.1 rfl (Nat.le_of_ble_eq_true rfl) dX11_slope_25 (mo_K_needX N h x2) (fun v1 h2 => mo_K_slope_28 N   h2 x2 x3 a4) hE (fun v1 h2 H locs w hsh2 e1 => ?_)
  exact b_K_slope_28 C hst hxt N n0 s0 hn0   _ _ h2 x2 x3 a4 _ _ ls w (by have u5 := hsh2.2.1; have u8 := hsl; omega) (lv_sub hl [0, 1, 2] rfl) e1
set_option maxRecDepth 20000 in
set_option maxHeartbeats 4000000 in
theorem b_K_slope_21 {p : Program} {l : Launch} {e : Env} {s : State} {m : MethodId} {args : Array Value} {below : List Frame} {meth : Method} {c : Code} {D : va_G} {cy : cyT} {z : Nat} (C : MX p s m args meth c cX11_slope 5 ((some .int)) RX11 (Cond.code yX11_slope cX11_slope 5 ((some .int)) :: GW)) (hst : l.stackTraces = false) (hxt : ∀ x ∈ c.exceptionTable.toList, False) (N : Nat) (n0 s0 : Nat) (hn0 : s.heap.size = n0) {r : (Int32 ⊕ Nat)} {g : hS}  : ∀  (cells slots : Nat) (h : hS) (x2 : Int32) (x3 : Int32) (a4 : Option Nat) (y0 : Int32) (H : Heap) (locs : List Loc) (ls : Array Slot), wd D cy z s cells h H locs → h_s h = s0 + slots → lv_has ls 5 [(2, .int x2), (3, .int x3), (4, va_rf a4)] → f_K_slope_21 N   h x2 x3 a4 y0 = some (r, g) → W p l e { frames := 9, cells := h_x g - n0, slots := h_s g - s0, locals := 143 } s m args below meth c H locs cells slots (eT D cy z rI r g below args s (h_x g - n0) (h_s g - s0)) (F0 m 21 ls [.int y0]) := by
  obtain ⟨hx, hb, hr, hml, hown, hts, hlk⟩ := id C
  intro cells slots h x2 x3 a4 y0 H locs ls w hsl hl hE
  have hcc : cells ≤ h_x g - n0 ∧ slots ≤ h_s g - s0 := by
    have q1 := mo_K_slope_21 N  h x2 x3 a4 y0 _ _ hE
    have q2 := wd_x w
    have q3 := q1.1
    have q4 := q1.2.1
    omega
  unfold f_K_slope_21 at hE
  refine w_STV GW_good (n := 1) (F := 6) (Lc := 82) (av := [.int y0]) (rest := []) hxt hn0 hsl C w (fun r g hf => k_K_needSuch l hst D cy z N h y0 r g hf) gw_9_15 gw_9_16 gw_1_2 gw_9_17 (by decide +kernel) ⟨Nat.le_of_ble_eq_true rfl, Nat.le_of_ble_eq_true rfl⟩ rfl hl.1 rfl (Nat.le_of_ble_eq_true rfl) dX11_slope_21 (mo_K_needSuch N h y0) (fun v1 h2 => mo_K_slope_24 N   h2 x2 x3 a4) hE (fun v1 h2 H locs w hsh2 e1 => ?_)
  exact b_K_slope_24 C hst hxt N n0 s0 hn0   _ _ h2 x2 x3 a4 _ _ ls w (by have u5 := hsh2.2.1; have u8 := hsl; omega) (lv_sub hl [0, 1, 2] rfl) e1
set_option maxRecDepth 20000 in
set_option maxHeartbeats 4000000 in
theorem b_K_slope_16 {p : Program} {l : Launch} {e : Env} {s : State} {m : MethodId} {args : Array Value} {below : List Frame} {meth : Method} {c : Code} {D : va_G} {cy : cyT} {z : Nat} (C : MX p s m args meth c cX11_slope 5 ((some .int)) RX11 (Cond.code yX11_slope cX11_slope 5 ((some .int)) :: GW)) (hst : l.stackTraces = false) (hxt : ∀ x ∈ c.exceptionTable.toList, False) (N : Nat) (n0 s0 : Nat) (hn0 : s.heap.size = n0) {r : (Int32 ⊕ Nat)} {g : hS}  : ∀  (cells slots : Nat) (h : hS) (x2 : Int32) (x3 : Int32) (a4 : Option Nat) (H : Heap) (locs : List Loc) (ls : Array Slot), wd D cy z s cells h H locs → h_s h = s0 + slots → lv_has ls 5 [(2, .int x2), (3, .int x3), (4, va_rf a4)] → f_K_slope_16 N   h x2 x3 a4 = some (r, g) → W p l e { frames := 9, cells := h_x g - n0, slots := h_s g - s0, locals := 143 } s m args below meth c H locs cells slots (eT D cy z rI r g below args s (h_x g - n0) (h_s g - s0)) (F0 m 16 ls []) := by
  obtain ⟨hx, hb, hr, hml, hown, hts, hlk⟩ := id C
  intro cells slots h x2 x3 a4 H locs ls w hsl hl hE
  have hcc : cells ≤ h_x g - n0 ∧ slots ≤ h_s g - s0 := by
    have q1 := mo_K_slope_16 N  h x2 x3 a4 _ _ hE
    have q2 := wd_x w
    have q3 := q1.1
    have q4 := q1.2.1
    omega
  unfold f_K_slope_16 at hE
  refine lv_iconst (v := 1) hx hb dX11_slope_16 (by decide) ?_
  refine lv_goto (tgt := 21) hx hb dX11_slope_17 (by decide) ?_
  exact b_K_slope_21 C hst hxt N n0 s0 hn0   _ _ h x2 x3 a4 (1 : Int32) _ _ ls w hsl (lv_sub hl [0, 1, 2] rfl) hE
set_option maxRecDepth 20000 in
set_option maxHeartbeats 4000000 in
theorem b_K_slope_5 {p : Program} {l : Launch} {e : Env} {s : State} {m : MethodId} {args : Array Value} {below : List Frame} {meth : Method} {c : Code} {D : va_G} {cy : cyT} {z : Nat} (C : MX p s m args meth c cX11_slope 5 ((some .int)) RX11 (Cond.code yX11_slope cX11_slope 5 ((some .int)) :: GW)) (hst : l.stackTraces = false) (hxt : ∀ x ∈ c.exceptionTable.toList, False) (N : Nat) (n0 s0 : Nat) (hn0 : s.heap.size = n0) {r : (Int32 ⊕ Nat)} {g : hS}  : ∀  (cells slots : Nat) (h : hS) (x2 : Int32) (x3 : Int32) (y0 : Option Nat) (H : Heap) (locs : List Loc) (ls : Array Slot), wd D cy z s cells h H locs → h_s h = s0 + slots → lv_has ls 5 [(2, .int x2), (3, .int x3)] → f_K_slope_5 N   h x2 x3 y0 = some (r, g) → W p l e { frames := 9, cells := h_x g - n0, slots := h_s g - s0, locals := 143 } s m args below meth c H locs cells slots (eT D cy z rI r g below args s (h_x g - n0) (h_s g - s0)) (F0 m 5 ls [va_rf y0]) := by
  obtain ⟨hx, hb, hr, hml, hown, hts, hlk⟩ := id C
  intro cells slots h x2 x3 y0 H locs ls w hsl hl hE
  have hcc : cells ≤ h_x g - n0 ∧ slots ≤ h_s g - s0 := by
    have q1 := mo_K_slope_5 N  h x2 x3 y0 _ _ hE
    have q2 := wd_x w
    have q3 := q1.1
    have q4 := q1.2.1
    omega
  unfold f_K_slope_5 at hE
  refine w_astore (r := y0) (lv' := [(4, va_rf y0), (2, .int x2), (3, .int x3)]) C dX11_slope_5 hl (by decide) rfl (fun ls hl => ?_)
  refine lv_iload_n hx hb dX11_slope_7 rfl (lv_at hl 2 rfl) ?_
  refine w_if_eq (tgt := 16) C dX11_slope_8 (by decide) hE (fun hc e1 => ?_) (fun hc e1 => ?_)
  · exact b_K_slope_16 C hst hxt N n0 s0 hn0   _ _ h x2 x3 y0 _ _ ls w hsl (lv_sub hl [1, 2, 0] rfl) e1
  · refine lv_iload_n hx hb dX11_slope_11 rfl (lv_at hl 2 rfl) ?_
    refine lv_iconst (v := 1) hx hb dX11_slope_12 (by decide) ?_
    refine w_icmp_ne (tgt := 20) C dX11_slope_13 (by decide) e1 (fun hc e2 => ?_) (fun hc e2 => ?_)
    · refine lv_iconst (v := 0) hx hb dX11_slope_20 (by decide) ?_
      exact b_K_slope_21 C hst hxt N n0 s0 hn0   _ _ h x2 x3 y0 (0 : Int32) _ _ ls w hsl (lv_sub hl [1, 2, 0] rfl) e2
    · exact b_K_slope_16 C hst hxt N n0 s0 hn0   _ _ h x2 x3 y0 _ _ ls w hsl (lv_sub hl [1, 2, 0] rfl) e2
set_option maxRecDepth 20000 in
set_option maxHeartbeats 4000000 in
theorem k_K_slope (l : Launch) (hst : l.stackTraces = false) (D : va_G) (cy : cyT) (z : Nat) (N : Nat) (h : hS) (th : Nat) (x1 : Int32) (x2 : Int32) (x3 : Int32) (r : (Int32 ⊕ Nat)) (g : hS) (hE : f_K_slope N h th x1 x2 x3 = some (r, g)) : ctT l yX11_slope (Cond.code yX11_slope cX11_slope 5 ((some .int)) :: GW) { frames := 9, cells := h_x g - h_x h, slots := h_s g - h_s h, locals := 143 } D cy z h [.ref th, .int x1, .int x2, .int x3] rI r g := by
  refine ctT_of (cc := cX11_slope) (maxL := 5) (ret := (some .int)) (by decide) ?_
  intro p e s m args below meth c s₁ B hml hxt hv
  obtain ⟨rfl, hw⟩ := hv
  have C : MX p s m ([.ref th, .int x1, .int x2, .int x3] : List Value).toArray meth c cX11_slope 5 ((some .int)) RX11 (Cond.code yX11_slope cX11_slope 5 ((some .int)) :: GW) := ⟨B.exec, B.bytes, B.returns, hml, findClass_of_methodNamed B.named, atoms_spec (ws := Cond.code yX11_slope cX11_slope 5 ((some .int)) :: GW) B.pre, B.notSynchronized⟩
  obtain ⟨hx, hb, hr, hml, hown, hts, hlk⟩ := id C
  have w := wd_of hw
  have hsl : h_s h = h_s h + 0 := rfl
  have hn0 : s.heap.size = h_x h := (wd_x w).1
  obtain ⟨ls, hen, hl⟩ : ∃ ls : Array Slot, entryFrame m ([.ref th, .int x1, .int x2, .int x3] : List Value).toArray 5 = F0 m 0 ls [] ∧ lv_has ls 5 [(0, .ref th), (1, .int x1), (2, .int x2), (3, .int x3)] := by
    exact ⟨_, lg_entry_eq _ _ _, lv_entry _ (Nat.le_of_ble_eq_true rfl)⟩
  rw [hen]
  have hcc : 0 ≤ h_x g - h_x h ∧ 0 ≤ h_s g - h_s h := ⟨Nat.zero_le _, Nat.zero_le _⟩
  unfold f_K_slope at hE
  refine lv_aload_n hx hb dX11_slope_0 rfl (lv_at hl 0 rfl) ?_
  refine lv_iload_n hx hb dX11_slope_1 rfl (lv_at hl 1 rfl) ?_
  refine w_VTR GW_good (n := 1) (F := 8) (Lc := 122) (ob := some th) (av := [.int x1]) (rest := []) hxt hn0 hsl C w rfl (by decide) (fun a r g hf => k_K_curveOf l hst D cy z N h a x1 r g hf) gw_16_2 gw_16_3 gw_16_4 gw_1_2 gw_16_5 (by decide +kernel) ⟨Nat.le_of_ble_eq_true rfl, Nat.le_of_ble_eq_true rfl⟩ rfl hl.1 rfl (Nat.le_of_ble_eq_true rfl) dX11_slope_2 (fun a => (mo_K_curveOf N h a x1)) (fun v1 h2 => mo_K_slope_5 N   h2 x2 x3 v1) hE (fun v1 h2 H locs w hsh2 e1 => ?_)
  exact b_K_slope_5 C hst hxt N (h_x h) (h_s h) hn0   _ _ h2 x2 x3 v1 _ _ ls w (by have u5 := hsh2.2.1; have u8 := hsl; omega) (lv_sub hl [2, 3] rfl) e1
set_option maxRecDepth 20000 in
set_option maxHeartbeats 4000000 in
theorem b_K_path_45 {p : Program} {l : Launch} {e : Env} {s : State} {m : MethodId} {args : Array Value} {below : List Frame} {meth : Method} {c : Code} {D : va_G} {cy : cyT} {z : Nat} (C : MX p s m args meth c cX11_path 5 ((some .int)) RX11 (Cond.code yX11_path cX11_path 5 ((some .int)) :: GW)) (hst : l.stackTraces = false) (hxt : ∀ x ∈ c.exceptionTable.toList, False) (N : Nat) (n0 s0 : Nat) (hn0 : s.heap.size = n0) {r : (Int32 ⊕ Nat)} {g : hS}  : ∀  (cells slots : Nat) (h : hS) (th : Nat) (x2 : Int32) (x3 : Int32) (H : Heap) (locs : List Loc) (ls : Array Slot), wd D cy z s cells h H locs → h_s h = s0 + slots → lv_has ls 5 [(0, .ref th), (2, .int x2), (3, .int x3)] → f_K_path_45 N   h th x2 x3 = some (r, g) → W p l e { frames := 9, cells := h_x g - n0, slots := h_s g - s0, locals := 165 } s m args below meth c H locs cells slots (eT D cy z rI r g below args s (h_x g - n0) (h_s g - s0)) (F0 m 45 ls []) := by
  obtain ⟨hx, hb, hr, hml, hown, hts, hlk⟩ := id C
  intro cells slots h th x2 x3 H locs ls w hsl hl hE
  have hcc : cells ≤ h_x g - n0 ∧ slots ≤ h_s g - s0 := by
    have q1 := mo_K_path_45 N  h th x2 x3 _ _ hE
    have q2 := wd_x w
    have q3 := q1.1
    have q4 := q1.2.1
    omega
  unfold f_K_path_45 at hE
  refine lv_aload_n hx hb dX11_path_45 rfl (lv_at hl 0 rfl) ?_
  refine w_gR (r := some th) (ci := 12) (k := 6) C w rfl (by decide) (GF_wsX110 _) (by decide) rfl (List.mem_cons_of_mem _ gw_2_9) rfl dX11_path_46 hE (fun v1 e1 => ?_)
  refine lv_iload_n hx hb dX11_path_49 rfl (lv_at hl 2 rfl) ?_
  refine lv_iload_n hx hb dX11_path_50 rfl (lv_at hl 1 rfl) ?_
  refine w_VI GW_good (n := 2) (F := 3) (Lc := 89) (o := v1) (av := [.int x3, .int x2]) (rest := []) C w rfl (by decide) (fun a r g hf => k_Trail_placeBehind l D cy z N h a x3 x2 r g hf) gw_39_21 gw_39_22 gw_39_23 gw_2_8 gw_40_0 (by decide +kernel) ⟨Nat.le_of_ble_eq_true rfl, Nat.le_of_ble_eq_true rfl⟩ rfl hl.1 rfl (Nat.le_of_ble_eq_true rfl) dX11_path_51 (fun a => (sh_Trail_placeBehind N h a x3 x2)) ⟨hcc.1, hcc.2⟩ e1 (fun v2 h3 H locs w hsh3 e2 => ?_)
  have hsl := hsh3.2.2.2.trans hsl
  refine W.widen (k := h_x g - n0) (n := h_s g - s0) hcc.1 hcc.2 ?_
  exact w_iretT C w e2 dX11_path_54
set_option maxRecDepth 20000 in
set_option maxHeartbeats 4000000 in
theorem b_K_path_32 {p : Program} {l : Launch} {e : Env} {s : State} {m : MethodId} {args : Array Value} {below : List Frame} {meth : Method} {c : Code} {D : va_G} {cy : cyT} {z : Nat} (C : MX p s m args meth c cX11_path 5 ((some .int)) RX11 (Cond.code yX11_path cX11_path 5 ((some .int)) :: GW)) (hst : l.stackTraces = false) (hxt : ∀ x ∈ c.exceptionTable.toList, False) (N : Nat) (n0 s0 : Nat) (hn0 : s.heap.size = n0) {r : (Int32 ⊕ Nat)} {g : hS}  : ∀  (cells slots : Nat) (h : hS) (th : Nat) (x2 : Int32) (x3 : Int32) (a4 : Option Nat) (H : Heap) (locs : List Loc) (ls : Array Slot), wd D cy z s cells h H locs → h_s h = s0 + slots → lv_has ls 5 [(0, .ref th), (2, .int x2), (3, .int x3), (4, va_rf a4)] → f_K_path_32 N   h th x2 x3 a4 = some (r, g) → W p l e { frames := 9, cells := h_x g - n0, slots := h_s g - s0, locals := 165 } s m args below meth c H locs cells slots (eT D cy z rI r g below args s (h_x g - n0) (h_s g - s0)) (F0 m 32 ls []) := by
  obtain ⟨hx, hb, hr, hml, hown, hts, hlk⟩ := id C
  intro cells slots h th x2 x3 a4 H locs ls w hsl hl hE
  have hcc : cells ≤ h_x g - n0 ∧ slots ≤ h_s g - s0 := by
    have q1 := mo_K_path_32 N  h th x2 x3 a4 _ _ hE
    have q2 := wd_x w
    have q3 := q1.1
    have q4 := q1.2.1
    omega
  unfold f_K_path_32 at hE
  refine lv_aload_n hx hb dX11_path_32 rfl (lv_at hl 0 rfl) ?_
  refine w_gR (r := some th) (ci := 12) (k := 6) C w rfl (by decide) (GF_wsX110 _) (by decide) rfl (List.mem_cons_of_mem _ gw_2_9) rfl dX11_path_33 hE (fun v1 e1 => ?_)
  refine w_aload C dX11_path_36 (lv_at hl 3 rfl) ?_
  refine lv_aload_n hx hb dX11_path_38 rfl (lv_at hl 0 rfl) ?_
  refine w_gR (r := some th) (ci := 12) (k := 4) C w rfl (by decide) (GF_wsX110 _) (by decide) rfl (List.mem_cons_of_mem _ gw_2_1) rfl dX11_path_39 e1 (fun v2 e2 => ?_)
  refine w_VAV GW_good (n := 2) (F := 5) (Lc := 142) (o := v1) (av := [va_rf a4, va_rf v2]) (rest := []) C w rfl (by decide) (fun a r g hf => k_Trail_lay l D cy z N h a a4 v2 r g hf) gw_39_10 gw_39_11 gw_39_12 gw_2_8 gw_39_13 (by decide +kernel) ⟨Nat.le_of_ble_eq_true rfl, Nat.le_of_ble_eq_true rfl⟩ rfl hl.1 rfl (Nat.le_of_ble_eq_true rfl) dX11_path_42 (fun a => (mo_Trail_lay N h a a4 v2)) (fun a v3 h4 q1 q2 => by have u1 := (mo_Trail_lay N h a a4 v2) _ _ q1; have u2 := mo_K_path_45 N   h4 th x2 x3 _ _ q2; have u3 := wd_x w; have u4 := u1.1; have u5 := u1.2.1; have u6 := u2.1; have u7 := u2.2.1; show cells + _ ≤ h_x g - n0 ∧ slots + _ ≤ h_s g - s0; omega) e2 (fun v3 h4 H locs w hsh4 e3 => ?_)
  exact b_K_path_45 C hst hxt N n0 s0 hn0   _ _ h4 th x2 x3 _ _ ls w (by have u5 := hsh4.2.1; have u8 := hsl; omega) (lv_sub hl [0, 1, 2] rfl) e3
set_option maxRecDepth 20000 in
set_option maxHeartbeats 4000000 in
theorem b_K_path_28 {p : Program} {l : Launch} {e : Env} {s : State} {m : MethodId} {args : Array Value} {below : List Frame} {meth : Method} {c : Code} {D : va_G} {cy : cyT} {z : Nat} (C : MX p s m args meth c cX11_path 5 ((some .int)) RX11 (Cond.code yX11_path cX11_path 5 ((some .int)) :: GW)) (hst : l.stackTraces = false) (hxt : ∀ x ∈ c.exceptionTable.toList, False) (N : Nat) (n0 s0 : Nat) (hn0 : s.heap.size = n0) {r : (Int32 ⊕ Nat)} {g : hS}  : ∀  (cells slots : Nat) (h : hS) (th : Nat) (x2 : Int32) (x3 : Int32) (a4 : Option Nat) (H : Heap) (locs : List Loc) (ls : Array Slot), wd D cy z s cells h H locs → h_s h = s0 + slots → lv_has ls 5 [(0, .ref th), (2, .int x2), (3, .int x3), (4, va_rf a4)] → f_K_path_28 N   h th x2 x3 a4 = some (r, g) → W p l e { frames := 9, cells := h_x g - n0, slots := h_s g - s0, locals := 165 } s m args below meth c H locs cells slots (eT D cy z rI r g below args s (h_x g - n0) (h_s g - s0)) (F0 m 28 ls []) := by
  obtain ⟨hx, hb, hr, hml, hown, hts, hlk⟩ := id C
  intro cells slots h th x2 x3 a4 H locs ls w hsl hl hE
  have hcc : cells ≤ h_x g - n0 ∧ slots ≤ h_s g - s0 := by
    have q1 := mo_K_path_28 N  h th x2 x3 a4 _ _ hE
    have q2 := wd_x w
    have q3 := q1.1
    have q4 := q1.2.1
    omega
  unfold f_K_path_28 at hE
  refine lv_iload_n hx hb dX11_path_28 rfl (lv_at hl 1 rfl) ?_
  refine w_STV GW_good (n := 1) (F := 7) (Lc := 102) (av := [.int x2]) (rest := []) hxt hn0 hsl C w (fun r g hf => k_K_needX l hst D cy z N h x2 r g hf) gw_34_9 gw_34_10 gw_1_2 gw_34_11 (by decide +kernel) ⟨Nat.le_of_ble_eq_true rfl, Nat.le_of_ble_eq_true rfl⟩ rfl hl.1 rfl (Nat.le_of_ble_eq_true rfl) dX11_path_29 (mo_K_needX N h x2) (fun v1 h2 => mo_K_path_32 N   h2 th x2 x3 a4) hE (fun v1 h2 H locs w hsh2 e1 => ?_)
  exact b_K_path_32 C hst hxt N n0 s0 hn0   _ _ h2 th x2 x3 a4 _ _ ls w (by have u5 := hsh2.2.1; have u8 := hsl; omega) (lv_sub hl [0, 1, 2, 3] rfl) e1
set_option maxRecDepth 20000 in
set_option maxHeartbeats 4000000 in
theorem b_K_path_25 {p : Program} {l : Launch} {e : Env} {s : State} {m : MethodId} {args : Array Value} {below : List Frame} {meth : Method} {c : Code} {D : va_G} {cy : cyT} {z : Nat} (C : MX p s m args meth c cX11_path 5 ((some .int)) RX11 (Cond.code yX11_path cX11_path 5 ((some .int)) :: GW)) (hst : l.stackTraces = false) (hxt : ∀ x ∈ c.exceptionTable.toList, False) (N : Nat) (n0 s0 : Nat) (hn0 : s.heap.size = n0) {r : (Int32 ⊕ Nat)} {g : hS}  : ∀  (cells slots : Nat) (h : hS) (th : Nat) (x2 : Int32) (x3 : Int32) (a4 : Option Nat) (y0 : Int32) (H : Heap) (locs : List Loc) (ls : Array Slot), wd D cy z s cells h H locs → h_s h = s0 + slots → lv_has ls 5 [(0, .ref th), (2, .int x2), (3, .int x3), (4, va_rf a4)] → f_K_path_25 N   h th x2 x3 a4 y0 = some (r, g) → W p l e { frames := 9, cells := h_x g - n0, slots := h_s g - s0, locals := 165 } s m args below meth c H locs cells slots (eT D cy z rI r g below args s (h_x g - n0) (h_s g - s0)) (F0 m 25 ls [.int y0]) := by
  obtain ⟨hx, hb, hr, hml, hown, hts, hlk⟩ := id C
  intro cells slots h th x2 x3 a4 y0 H locs ls w hsl hl hE
  have hcc : cells ≤ h_x g - n0 ∧ slots ≤ h_s g - s0 := by
    have q1 := mo_K_path_25 N  h th x2 x3 a4 y0 _ _ hE
    have q2 := wd_x w
    have q3 := q1.1
    have q4 := q1.2.1
    omega
  unfold f_K_path_25 at hE
  refine w_STV GW_good (n := 1) (F := 6) (Lc := 82) (av := [.int y0]) (rest := []) hxt hn0 hsl C w (fun r g hf => k_K_needSuch l hst D cy z N h y0 r g hf) gw_9_15 gw_9_16 gw_1_2 gw_9_17 (by decide +kernel) ⟨Nat.le_of_ble_eq_true rfl, Nat.le_of_ble_eq_true rfl⟩ rfl hl.1 rfl (Nat.le_of_ble_eq_true rfl) dX11_path_25 (mo_K_needSuch N h y0) (fun v1 h2 => mo_K_path_28 N   h2 th x2 x3 a4) hE (fun v1 h2 H locs w hsh2 e1 => ?_)
  exact b_K_path_28 C hst hxt N n0 s0 hn0   _ _ h2 th x2 x3 a4 _ _ ls w (by have u5 := hsh2.2.1; have u8 := hsl; omega) (lv_sub hl [0, 1, 2, 3] rfl) e1
set_option maxRecDepth 20000 in
set_option maxHeartbeats 4000000 in
theorem b_K_path_24 {p : Program} {l : Launch} {e : Env} {s : State} {m : MethodId} {args : Array Value} {below : List Frame} {meth : Method} {c : Code} {D : va_G} {cy : cyT} {z : Nat} (C : MX p s m args meth c cX11_path 5 ((some .int)) RX11 (Cond.code yX11_path cX11_path 5 ((some .int)) :: GW)) (hst : l.stackTraces = false) (hxt : ∀ x ∈ c.exceptionTable.toList, False) (N : Nat) (n0 s0 : Nat) (hn0 : s.heap.size = n0) {r : (Int32 ⊕ Nat)} {g : hS}  : ∀  (cells slots : Nat) (h : hS) (th : Nat) (x2 : Int32) (x3 : Int32) (a4 : Option Nat) (H : Heap) (locs : List Loc) (ls : Array Slot), wd D cy z s cells h H locs → h_s h = s0 + slots → lv_has ls 5 [(0, .ref th), (2, .int x2), (3, .int x3), (4, va_rf a4)] → f_K_path_24 N   h th x2 x3 a4 = some (r, g) → W p l e { frames := 9, cells := h_x g - n0, slots := h_s g - s0, locals := 165 } s m args below meth c H locs cells slots (eT D cy z rI r g below args s (h_x g - n0) (h_s g - s0)) (F0 m 24 ls []) := by
  obtain ⟨hx, hb, hr, hml, hown, hts, hlk⟩ := id C
  intro cells slots h th x2 x3 a4 H locs ls w hsl hl hE
  have hcc : cells ≤ h_x g - n0 ∧ slots ≤ h_s g - s0 := by
    have q1 := mo_K_path_24 N  h th x2 x3 a4 _ _ hE
    have q2 := wd_x w
    have q3 := q1.1
    have q4 := q1.2.1
    omega
  unfold f_K_path_24 at hE
  refine lv_iconst (v := 0) hx hb dX11_path_24 (by decide) ?_
  exact b_K_path_25 C hst hxt N n0 s0 hn0   _ _ h th x2 x3 a4 (0 : Int32) _ _ ls w hsl (lv_sub hl [0, 1, 2, 3] rfl) hE
set_option maxRecDepth 20000 in
set_option maxHeartbeats 4000000 in
theorem b_K_path_5 {p : Program} {l : Launch} {e : Env} {s : State} {m : MethodId} {args : Array Value} {below : List Frame} {meth : Method} {c : Code} {D : va_G} {cy : cyT} {z : Nat} (C : MX p s m args meth c cX11_path 5 ((some .int)) RX11 (Cond.code yX11_path cX11_path 5 ((some .int)) :: GW)) (hst : l.stackTraces = false) (hxt : ∀ x ∈ c.exceptionTable.toList, False) (N : Nat) (n0 s0 : Nat) (hn0 : s.heap.size = n0) {r : (Int32 ⊕ Nat)} {g : hS}  : ∀  (cells slots : Nat) (h : hS) (th : Nat) (x2 : Int32) (x3 : Int32) (y0 : Option Nat) (H : Heap) (locs : List Loc) (ls : Array Slot), wd D cy z s cells h H locs → h_s h = s0 + slots → lv_has ls 5 [(0, .ref th), (2, .int x2), (3, .int x3)] → f_K_path_5 N   h th x2 x3 y0 = some (r, g) → W p l e { frames := 9, cells := h_x g - n0, slots := h_s g - s0, locals := 165 } s m args below meth c H locs cells slots (eT D cy z rI r g below args s (h_x g - n0) (h_s g - s0)) (F0 m 5 ls [va_rf y0]) := by
  obtain ⟨hx, hb, hr, hml, hown, hts, hlk⟩ := id C
  intro cells slots h th x2 x3 y0 H locs ls w hsl hl hE
  have hcc : cells ≤ h_x g - n0 ∧ slots ≤ h_s g - s0 := by
    have q1 := mo_K_path_5 N  h th x2 x3 y0 _ _ hE
    have q2 := wd_x w
    have q3 := q1.1
    have q4 := q1.2.1
    omega
  unfold f_K_path_5 at hE
  refine w_astore (r := y0) (lv' := [(4, va_rf y0), (0, .ref th), (2, .int x2), (3, .int x3)]) C dX11_path_5 hl (by decide) rfl (fun ls hl => ?_)
  refine lv_iload_n hx hb dX11_path_7 rfl (lv_at hl 3 rfl) ?_
  refine w_if_lt (tgt := 24) C dX11_path_8 (by decide) hE (fun hc e1 => ?_) (fun hc e1 => ?_)
  · exact b_K_path_24 C hst hxt N n0 s0 hn0   _ _ h th x2 x3 y0 _ _ ls w hsl (lv_sub hl [1, 2, 3, 0] rfl) e1
  · refine lv_iload_n hx hb dX11_path_11 rfl (lv_at hl 3 rfl) ?_
    refine w_aload C dX11_path_12 (lv_at hl 0 rfl) ?_
    refine w_gI (r := y0) (ci := 2) (k := 1) C w rfl (by decide) (GF_wsX10 _) (by decide) rfl (List.mem_cons_of_mem _ gw_23_10) rfl dX11_path_14 e1 (fun v1 e2 => ?_)
    refine w_icmp_gt (tgt := 24) C dX11_path_17 (by decide) e2 (fun hc e3 => ?_) (fun hc e3 => ?_)
    · exact b_K_path_24 C hst hxt N n0 s0 hn0   _ _ h th x2 x3 y0 _ _ ls w hsl (lv_sub hl [1, 2, 3, 0] rfl) e3
    · refine lv_iconst (v := 1) hx hb dX11_path_20 (by decide) ?_
      refine lv_goto (tgt := 25) hx hb dX11_path_21 (by decide) ?_
      exact b_K_path_25 C hst hxt N n0 s0 hn0   _ _ h th x2 x3 y0 (1 : Int32) _ _ ls w hsl (lv_sub hl [1, 2, 3, 0] rfl) e3
set_option maxRecDepth 20000 in
set_option maxHeartbeats 4000000 in
theorem k_K_path (l : Launch) (hst : l.stackTraces = false) (D : va_G) (cy : cyT) (z : Nat) (N : Nat) (h : hS) (th : Nat) (x1 : Int32) (x2 : Int32) (x3 : Int32) (r : (Int32 ⊕ Nat)) (g : hS) (hE : f_K_path N h th x1 x2 x3 = some (r, g)) : ctT l yX11_path (Cond.code yX11_path cX11_path 5 ((some .int)) :: GW) { frames := 9, cells := h_x g - h_x h, slots := h_s g - h_s h, locals := 165 } D cy z h [.ref th, .int x1, .int x2, .int x3] rI r g := by
  refine ctT_of (cc := cX11_path) (maxL := 5) (ret := (some .int)) (by decide) ?_
  intro p e s m args below meth c s₁ B hml hxt hv
  obtain ⟨rfl, hw⟩ := hv
  have C : MX p s m ([.ref th, .int x1, .int x2, .int x3] : List Value).toArray meth c cX11_path 5 ((some .int)) RX11 (Cond.code yX11_path cX11_path 5 ((some .int)) :: GW) := ⟨B.exec, B.bytes, B.returns, hml, findClass_of_methodNamed B.named, atoms_spec (ws := Cond.code yX11_path cX11_path 5 ((some .int)) :: GW) B.pre, B.notSynchronized⟩
  obtain ⟨hx, hb, hr, hml, hown, hts, hlk⟩ := id C
  have w := wd_of hw
  have hsl : h_s h = h_s h + 0 := rfl
  have hn0 : s.heap.size = h_x h := (wd_x w).1
  obtain ⟨ls, hen, hl⟩ : ∃ ls : Array Slot, entryFrame m ([.ref th, .int x1, .int x2, .int x3] : List Value).toArray 5 = F0 m 0 ls [] ∧ lv_has ls 5 [(0, .ref th), (1, .int x1), (2, .int x2), (3, .int x3)] := by
    exact ⟨_, lg_entry_eq _ _ _, lv_entry _ (Nat.le_of_ble_eq_true rfl)⟩
  rw [hen]
  have hcc : 0 ≤ h_x g - h_x h ∧ 0 ≤ h_s g - h_s h := ⟨Nat.zero_le _, Nat.zero_le _⟩
  unfold f_K_path at hE
  refine lv_aload_n hx hb dX11_path_0 rfl (lv_at hl 0 rfl) ?_
  refine lv_iload_n hx hb dX11_path_1 rfl (lv_at hl 1 rfl) ?_
  refine w_VTR GW_good (n := 1) (F := 8) (Lc := 122) (ob := some th) (av := [.int x1]) (rest := []) hxt hn0 hsl C w rfl (by decide) (fun a r g hf => k_K_chainOf l hst D cy z N h a x1 r g hf) gw_32_8 gw_32_9 gw_32_10 gw_1_2 gw_32_11 (by decide +kernel) ⟨Nat.le_of_ble_eq_true rfl, Nat.le_of_ble_eq_true rfl⟩ rfl hl.1 rfl (Nat.le_of_ble_eq_true rfl) dX11_path_2 (fun a => (mo_K_chainOf N h a x1)) (fun v1 h2 => mo_K_path_5 N   h2 th x2 x3 v1) hE (fun v1 h2 H locs w hsh2 e1 => ?_)
  exact b_K_path_5 C hst hxt N (h_x h) (h_s h) hn0   _ _ h2 th x2 x3 v1 _ _ ls w (by have u5 := hsh2.2.1; have u8 := hsl; omega) (lv_sub hl [0, 2, 3] rfl) e1
set_option maxRecDepth 20000 in
set_option maxHeartbeats 4000000 in
theorem b_K_paid_48 {p : Program} {l : Launch} {e : Env} {s : State} {m : MethodId} {args : Array Value} {below : List Frame} {meth : Method} {c : Code} {D : va_G} {cy : cyT} {z : Nat} (C : MX p s m args meth c cX11_paid 5 ((some .long)) RX11 (Cond.code yX11_paid cX11_paid 5 ((some .long)) :: GW)) (hst : l.stackTraces = false) (hxt : ∀ x ∈ c.exceptionTable.toList, False) (N : Nat) (n0 s0 : Nat) (hn0 : s.heap.size = n0) {r : (Int64 ⊕ Nat)} {g : hS}  : ∀  (cells slots : Nat) (h : hS) (y0 : Int64) (H : Heap) (locs : List Loc) (ls : Array Slot), wd D cy z s cells h H locs → h_s h = s0 + slots → lv_has ls 5 [] → f_K_paid_48 N   h y0 = some (r, g) → W p l e { frames := 10, cells := h_x g - n0, slots := h_s g - s0, locals := 166 } s m args below meth c H locs cells slots (eT D cy z rJ r g below args s (h_x g - n0) (h_s g - s0)) (F0 m 48 ls [.long y0]) := by
  obtain ⟨hx, hb, hr, hml, hown, hts, hlk⟩ := id C
  intro cells slots h y0 H locs ls w hsl hl hE
  have hcc : cells ≤ h_x g - n0 ∧ slots ≤ h_s g - s0 := by
    have q1 := mo_K_paid_48 N  h y0 _ _ hE
    have q2 := wd_x w
    have q3 := q1.1
    have q4 := q1.2.1
    omega
  unfold f_K_paid_48 at hE
  refine W.widen (k := h_x g - n0) (n := h_s g - s0) hcc.1 hcc.2 ?_
  exact w_lretT C w hE dX11_paid_48
set_option maxRecDepth 20000 in
set_option maxHeartbeats 4000000 in
theorem b_K_paid_28 {p : Program} {l : Launch} {e : Env} {s : State} {m : MethodId} {args : Array Value} {below : List Frame} {meth : Method} {c : Code} {D : va_G} {cy : cyT} {z : Nat} (C : MX p s m args meth c cX11_paid 5 ((some .long)) RX11 (Cond.code yX11_paid cX11_paid 5 ((some .long)) :: GW)) (hst : l.stackTraces = false) (hxt : ∀ x ∈ c.exceptionTable.toList, False) (N : Nat) (n0 s0 : Nat) (hn0 : s.heap.size = n0) {r : (Int64 ⊕ Nat)} {g : hS}  : ∀  (cells slots : Nat) (h : hS) (th : Nat) (x2 : Int32) (x3 : Int32) (a4 : Option Nat) (H : Heap) (locs : List Loc) (ls : Array Slot), wd D cy z s cells h H locs → h_s h = s0 + slots → lv_has ls 5 [(0, .ref th), (2, .int x2), (3, .int x3), (4, va_rf a4)] → f_K_paid_28 N   h th x2 x3 a4 = some (r, g) → W p l e { frames := 10, cells := h_x g - n0, slots := h_s g - s0, locals := 166 } s m args below meth c H locs cells slots (eT D cy z rJ r g below args s (h_x g - n0) (h_s g - s0)) (F0 m 28 ls []) := by
  obtain ⟨hx, hb, hr, hml, hown, hts, hlk⟩ := id C
  intro cells slots h th x2 x3 a4 H locs ls w hsl hl hE
  have hcc : cells ≤ h_x g - n0 ∧ slots ≤ h_s g - s0 := by
    have q1 := mo_K_paid_28 N  h th x2 x3 a4 _ _ hE
    have q2 := wd_x w
    have q3 := q1.1
    have q4 := q1.2.1
    omega
  unfold f_K_paid_28 at hE
  refine lv_aload_n hx hb dX11_paid_28 rfl (lv_at hl 0 rfl) ?_
  refine w_gR (r := some th) (ci := 12) (k := 4) C w rfl (by decide) (GF_wsX110 _) (by decide) rfl (List.mem_cons_of_mem _ gw_2_1) rfl dX11_paid_29 hE (fun v1 e1 => ?_)
  refine w_aload C dX11_paid_32 (lv_at hl 3 rfl) ?_
  refine lv_aload_n hx hb dX11_paid_34 rfl (lv_at hl 0 rfl) ?_
  refine w_gR (r := some th) (ci := 12) (k := 6) C w rfl (by decide) (GF_wsX110 _) (by decide) rfl (List.mem_cons_of_mem _ gw_2_9) rfl dX11_paid_35 e1 (fun v2 e2 => ?_)
  refine lv_iload_n hx hb dX11_paid_38 rfl (lv_at hl 2 rfl) ?_
  refine lv_iconst (v := 1) hx hb dX11_paid_39 (by decide) ?_
  refine lv_iadd hx hb dX11_paid_40 ?_
  refine lv_iload_n hx hb dX11_paid_41 rfl (lv_at hl 1 rfl) ?_
  refine w_VI GW_good (n := 2) (F := 3) (Lc := 89) (o := v2) (av := [.int (x3 + (1 : Int32)), .int x2]) (rest := [va_rf a4, va_rf v1]) C w rfl (by decide) (fun a r g hf => k_Trail_placeBehind l D cy z N h a (x3 + (1 : Int32)) x2 r g hf) gw_39_21 gw_39_22 gw_39_23 gw_2_8 gw_40_0 (by decide +kernel) ⟨Nat.le_of_ble_eq_true rfl, Nat.le_of_ble_eq_true rfl⟩ rfl hl.1 rfl (cat_le (Nat.le_of_ble_eq_true rfl)) dX11_paid_42 (fun a => (sh_Trail_placeBehind N h a (x3 + (1 : Int32)) x2)) ⟨hcc.1, hcc.2⟩ e2 (fun v3 h4 H locs w hsh4 e3 => ?_)
  have hsl := hsh4.2.2.2.trans hsl
  refine w_VAJ GW_good (n := 2) (F := 4) (Lc := 95) (o := v1) (av := [va_rf a4, .int v3]) (rest := []) C w rfl (by decide) (fun a r g hf => k_Bench_costBy l D cy z N h4 a a4 v3 r g hf) gw_41_1 gw_41_2 gw_41_3 gw_2_0 gw_41_4 (by decide +kernel) ⟨Nat.le_of_ble_eq_true rfl, Nat.le_of_ble_eq_true rfl⟩ rfl hl.1 rfl (Nat.le_of_ble_eq_true rfl) dX11_paid_45 (fun a => (mo_Bench_costBy N h4 a a4 v3)) (fun a v5 h6 q1 q2 => by have u1 := (mo_Bench_costBy N h4 a a4 v3) _ _ q1; have u2 := mo_K_paid_48 N   h6 v5 _ _ q2; have u3 := wd_x w; have u4 := u1.1; have u5 := u1.2.1; have u6 := u2.1; have u7 := u2.2.1; show cells + _ ≤ h_x g - n0 ∧ slots + _ ≤ h_s g - s0; omega) e3 (fun v5 h6 H locs w hsh6 e4 => ?_)
  exact b_K_paid_48 C hst hxt N n0 s0 hn0   _ _ h6 v5 _ _ ls w (by have u5 := hsh6.2.1; have u8 := hsl; omega) (lv_sub hl [] rfl) e4
set_option maxRecDepth 20000 in
set_option maxHeartbeats 4000000 in
theorem b_K_paid_21 {p : Program} {l : Launch} {e : Env} {s : State} {m : MethodId} {args : Array Value} {below : List Frame} {meth : Method} {c : Code} {D : va_G} {cy : cyT} {z : Nat} (C : MX p s m args meth c cX11_paid 5 ((some .long)) RX11 (Cond.code yX11_paid cX11_paid 5 ((some .long)) :: GW)) (hst : l.stackTraces = false) (hxt : ∀ x ∈ c.exceptionTable.toList, False) (N : Nat) (n0 s0 : Nat) (hn0 : s.heap.size = n0) {r : (Int64 ⊕ Nat)} {g : hS}  : ∀  (cells slots : Nat) (h : hS) (th : Nat) (x2 : Int32) (x3 : Int32) (a4 : Option Nat) (y0 : Option Nat) (y1 : Option Nat) (H : Heap) (locs : List Loc) (ls : Array Slot), wd D cy z s cells h H locs → h_s h = s0 + slots → lv_has ls 5 [(0, .ref th), (2, .int x2), (3, .int x3), (4, va_rf a4)] → f_K_paid_21 N   h th x2 x3 a4 y0 y1 = some (r, g) → W p l e { frames := 10, cells := h_x g - n0, slots := h_s g - s0, locals := 166 } s m args below meth c H locs cells slots (eT D cy z rJ r g below args s (h_x g - n0) (h_s g - s0)) (F0 m 21 ls [va_rf y1, va_rf y0]) := by
  obtain ⟨hx, hb, hr, hml, hown, hts, hlk⟩ := id C
  intro cells slots h th x2 x3 a4 y0 y1 H locs ls w hsl hl hE
  have hcc : cells ≤ h_x g - n0 ∧ slots ≤ h_s g - s0 := by
    have q1 := mo_K_paid_21 N  h th x2 x3 a4 y0 y1 _ _ hE
    have q2 := wd_x w
    have q3 := q1.1
    have q4 := q1.2.1
    omega
  unfold f_K_paid_21 at hE
  refine lv_aload_n hx hb dX11_paid_21 rfl (lv_at hl 0 rfl) ?_
  refine w_gR (r := some th) (ci := 12) (k := 4) C w rfl (by decide) (GF_wsX110 _) (by decide) rfl (List.mem_cons_of_mem _ gw_2_1) rfl dX11_paid_22 hE (fun v1 e1 => ?_)
  refine w_VAV GW_good (n := 2) (F := 5) (Lc := 142) (o := y0) (av := [va_rf y1, va_rf v1]) (rest := []) C w rfl (by decide) (fun a r g hf => k_Trail_lay l D cy z N h a y1 v1 r g hf) gw_39_10 gw_39_11 gw_39_12 gw_2_8 gw_39_13 (by decide +kernel) ⟨Nat.le_of_ble_eq_true rfl, Nat.le_of_ble_eq_true rfl⟩ rfl hl.1 rfl (Nat.le_of_ble_eq_true rfl) dX11_paid_25 (fun a => (mo_Trail_lay N h a y1 v1)) (fun a v2 h3 q1 q2 => by have u1 := (mo_Trail_lay N h a y1 v1) _ _ q1; have u2 := mo_K_paid_28 N   h3 th x2 x3 a4 _ _ q2; have u3 := wd_x w; have u4 := u1.1; have u5 := u1.2.1; have u6 := u2.1; have u7 := u2.2.1; show cells + _ ≤ h_x g - n0 ∧ slots + _ ≤ h_s g - s0; omega) e1 (fun v2 h3 H locs w hsh3 e2 => ?_)
  exact b_K_paid_28 C hst hxt N n0 s0 hn0   _ _ h3 th x2 x3 a4 _ _ ls w (by have u5 := hsh3.2.1; have u8 := hsl; omega) (lv_sub hl [0, 1, 2, 3] rfl) e2
set_option maxRecDepth 20000 in
set_option maxHeartbeats 4000000 in
theorem b_K_paid_12 {p : Program} {l : Launch} {e : Env} {s : State} {m : MethodId} {args : Array Value} {below : List Frame} {meth : Method} {c : Code} {D : va_G} {cy : cyT} {z : Nat} (C : MX p s m args meth c cX11_paid 5 ((some .long)) RX11 (Cond.code yX11_paid cX11_paid 5 ((some .long)) :: GW)) (hst : l.stackTraces = false) (hxt : ∀ x ∈ c.exceptionTable.toList, False) (N : Nat) (n0 s0 : Nat) (hn0 : s.heap.size = n0) {r : (Int64 ⊕ Nat)} {g : hS}  : ∀  (cells slots : Nat) (h : hS) (th : Nat) (x1 : Int32) (x2 : Int32) (x3 : Int32) (a4 : Option Nat) (H : Heap) (locs : List Loc) (ls : Array Slot), wd D cy z s cells h H locs → h_s h = s0 + slots → lv_has ls 5 [(0, .ref th), (1, .int x1), (2, .int x2), (3, .int x3), (4, va_rf a4)] → f_K_paid_12 N   h th x1 x2 x3 a4 = some (r, g) → W p l e { frames := 10, cells := h_x g - n0, slots := h_s g - s0, locals := 166 } s m args below meth c H locs cells slots (eT D cy z rJ r g below args s (h_x g - n0) (h_s g - s0)) (F0 m 12 ls []) := by
  obtain ⟨hx, hb, hr, hml, hown, hts, hlk⟩ := id C
  intro cells slots h th x1 x2 x3 a4 H locs ls w hsl hl hE
  have hcc : cells ≤ h_x g - n0 ∧ slots ≤ h_s g - s0 := by
    have q1 := mo_K_paid_12 N  h th x1 x2 x3 a4 _ _ hE
    have q2 := wd_x w
    have q3 := q1.1
    have q4 := q1.2.1
    omega
  unfold f_K_paid_12 at hE
  refine lv_aload_n hx hb dX11_paid_12 rfl (lv_at hl 0 rfl) ?_
  refine w_gR (r := some th) (ci := 12) (k := 6) C w rfl (by decide) (GF_wsX110 _) (by decide) rfl (List.mem_cons_of_mem _ gw_2_9) rfl dX11_paid_13 hE (fun v1 e1 => ?_)
  refine lv_aload_n hx hb dX11_paid_16 rfl (lv_at hl 0 rfl) ?_
  refine lv_iload_n hx hb dX11_paid_17 rfl (lv_at hl 1 rfl) ?_
  refine w_VTR GW_good (n := 1) (F := 8) (Lc := 122) (ob := some th) (av := [.int x1]) (rest := [va_rf v1]) hxt hn0 hsl C w rfl (by decide) (fun a r g hf => k_K_chainOf l hst D cy z N h a x1 r g hf) gw_32_8 gw_32_9 gw_32_10 gw_1_2 gw_32_11 (by decide +kernel) ⟨Nat.le_of_ble_eq_true rfl, Nat.le_of_ble_eq_true rfl⟩ rfl hl.1 rfl (cat_le (Nat.le_of_ble_eq_true rfl)) dX11_paid_18 (fun a => (mo_K_chainOf N h a x1)) (fun v2 h3 => mo_K_paid_21 N   h3 th x2 x3 a4 v1 v2) e1 (fun v2 h3 H locs w hsh3 e2 => ?_)
  exact b_K_paid_21 C hst hxt N n0 s0 hn0   _ _ h3 th x2 x3 a4 v1 v2 _ _ ls w (by have u5 := hsh3.2.1; have u8 := hsl; omega) (lv_sub hl [0, 2, 3, 4] rfl) e2
set_option maxRecDepth 20000 in
set_option maxHeartbeats 4000000 in
theorem b_K_paid_6 {p : Program} {l : Launch} {e : Env} {s : State} {m : MethodId} {args : Array Value} {below : List Frame} {meth : Method} {c : Code} {D : va_G} {cy : cyT} {z : Nat} (C : MX p s m args meth c cX11_paid 5 ((some .long)) RX11 (Cond.code yX11_paid cX11_paid 5 ((some .long)) :: GW)) (hst : l.stackTraces = false) (hxt : ∀ x ∈ c.exceptionTable.toList, False) (N : Nat) (n0 s0 : Nat) (hn0 : s.heap.size = n0) {r : (Int64 ⊕ Nat)} {g : hS}  : ∀  (cells slots : Nat) (h : hS) (th : Nat) (x1 : Int32) (x2 : Int32) (x3 : Int32) (y0 : Option Nat) (H : Heap) (locs : List Loc) (ls : Array Slot), wd D cy z s cells h H locs → h_s h = s0 + slots → lv_has ls 5 [(0, .ref th), (1, .int x1), (2, .int x2), (3, .int x3)] → f_K_paid_6 N   h th x1 x2 x3 y0 = some (r, g) → W p l e { frames := 10, cells := h_x g - n0, slots := h_s g - s0, locals := 166 } s m args below meth c H locs cells slots (eT D cy z rJ r g below args s (h_x g - n0) (h_s g - s0)) (F0 m 6 ls [va_rf y0]) := by
  obtain ⟨hx, hb, hr, hml, hown, hts, hlk⟩ := id C
  intro cells slots h th x1 x2 x3 y0 H locs ls w hsl hl hE
  have hcc : cells ≤ h_x g - n0 ∧ slots ≤ h_s g - s0 := by
    have q1 := mo_K_paid_6 N  h th x1 x2 x3 y0 _ _ hE
    have q2 := wd_x w
    have q3 := q1.1
    have q4 := q1.2.1
    omega
  unfold f_K_paid_6 at hE
  refine w_astore (r := y0) (lv' := [(4, va_rf y0), (0, .ref th), (1, .int x1), (2, .int x2), (3, .int x3)]) C dX11_paid_6 hl (by decide) rfl (fun ls hl => ?_)
  refine lv_iload_n hx hb dX11_paid_8 rfl (lv_at hl 3 rfl) ?_
  refine w_STV GW_good (n := 1) (F := 7) (Lc := 102) (av := [.int x2]) (rest := []) hxt hn0 hsl C w (fun r g hf => k_K_needX l hst D cy z N h x2 r g hf) gw_34_9 gw_34_10 gw_1_2 gw_34_11 (by decide +kernel) ⟨Nat.le_of_ble_eq_true rfl, Nat.le_of_ble_eq_true rfl⟩ rfl hl.1 rfl (Nat.le_of_ble_eq_true rfl) dX11_paid_9 (mo_K_needX N h x2) (fun v1 h2 => mo_K_paid_12 N   h2 th x1 x2 x3 y0) hE (fun v1 h2 H locs w hsh2 e1 => ?_)
  exact b_K_paid_12 C hst hxt N n0 s0 hn0   _ _ h2 th x1 x2 x3 y0 _ _ ls w (by have u5 := hsh2.2.1; have u8 := hsl; omega) (lv_sub hl [1, 2, 3, 4, 0] rfl) e1
set_option maxRecDepth 20000 in
set_option maxHeartbeats 4000000 in
theorem k_K_paid (l : Launch) (hst : l.stackTraces = false) (D : va_G) (cy : cyT) (z : Nat) (N : Nat) (h : hS) (th : Nat) (x1 : Int32) (x2 : Int32) (x3 : Int32) (r : (Int64 ⊕ Nat)) (g : hS) (hE : f_K_paid N h th x1 x2 x3 = some (r, g)) : ctT l yX11_paid (Cond.code yX11_paid cX11_paid 5 ((some .long)) :: GW) { frames := 10, cells := h_x g - h_x h, slots := h_s g - h_s h, locals := 166 } D cy z h [.ref th, .int x1, .int x2, .int x3] rJ r g := by
  refine ctT_of (cc := cX11_paid) (maxL := 5) (ret := (some .long)) (by decide) ?_
  intro p e s m args below meth c s₁ B hml hxt hv
  obtain ⟨rfl, hw⟩ := hv
  have C : MX p s m ([.ref th, .int x1, .int x2, .int x3] : List Value).toArray meth c cX11_paid 5 ((some .long)) RX11 (Cond.code yX11_paid cX11_paid 5 ((some .long)) :: GW) := ⟨B.exec, B.bytes, B.returns, hml, findClass_of_methodNamed B.named, atoms_spec (ws := Cond.code yX11_paid cX11_paid 5 ((some .long)) :: GW) B.pre, B.notSynchronized⟩
  obtain ⟨hx, hb, hr, hml, hown, hts, hlk⟩ := id C
  have w := wd_of hw
  have hsl : h_s h = h_s h + 0 := rfl
  have hn0 : s.heap.size = h_x h := (wd_x w).1
  obtain ⟨ls, hen, hl⟩ : ∃ ls : Array Slot, entryFrame m ([.ref th, .int x1, .int x2, .int x3] : List Value).toArray 5 = F0 m 0 ls [] ∧ lv_has ls 5 [(0, .ref th), (1, .int x1), (2, .int x2), (3, .int x3)] := by
    exact ⟨_, lg_entry_eq _ _ _, lv_entry _ (Nat.le_of_ble_eq_true rfl)⟩
  rw [hen]
  have hcc : 0 ≤ h_x g - h_x h ∧ 0 ≤ h_s g - h_s h := ⟨Nat.zero_le _, Nat.zero_le _⟩
  unfold f_K_paid at hE
  refine lv_aload_n hx hb dX11_paid_0 rfl (lv_at hl 0 rfl) ?_
  refine lv_iload_n hx hb dX11_paid_1 rfl (lv_at hl 1 rfl) ?_
  refine lv_iload_n hx hb dX11_paid_2 rfl (lv_at hl 3 rfl) ?_
  refine w_VTR GW_good (n := 2) (F := 9) (Lc := 143) (ob := some th) (av := [.int x1, .int x3]) (rest := []) hxt hn0 hsl C w rfl (by decide) (fun a r g hf => k_K_stepOf l hst D cy z N h a x1 x3 r g hf) gw_33_4 gw_33_5 gw_33_6 gw_1_2 gw_33_7 (by decide +kernel) ⟨Nat.le_of_ble_eq_true rfl, Nat.le_of_ble_eq_true rfl⟩ rfl hl.1 rfl (Nat.le_of_ble_eq_true rfl) dX11_paid_3 (fun a => (mo_K_stepOf N h a x1 x3)) (fun v1 h2 => mo_K_paid_6 N   h2 th x1 x2 x3 v1) hE (fun v1 h2 H locs w hsh2 e1 => ?_)
  exact b_K_paid_6 C hst hxt N (h_x h) (h_s h) hn0   _ _ h2 th x1 x2 x3 v1 _ _ ls w (by have u5 := hsh2.2.1; have u8 := hsl; omega) (lv_sub hl [0, 1, 2, 3] rfl) e1
set_option maxRecDepth 20000 in
set_option maxHeartbeats 4000000 in
theorem b_K_farthestWithin_74 {p : Program} {l : Launch} {e : Env} {s : State} {m : MethodId} {args : Array Value} {below : List Frame} {meth : Method} {c : Code} {D : va_G} {cy : cyT} {z : Nat} (C : MX p s m args meth c cX11_farthestWithin 8 ((some .int)) RX11 (Cond.code yX11_farthestWithin cX11_farthestWithin 8 ((some .int)) :: GW)) (N : Nat) {r : Int32} {g : hS}  : ∀  (h : hS) (x4 : Int32) (H : Heap) (locs : List Loc) (ls : Array Slot), wd D cy z s 0 h H locs → lv_has ls 8 [(4, .int x4)] → f_K_farthestWithin_74 N   h x4 = some (r, g) → W p l e { frames := 2, cells := 0, slots := 0, locals := 73 } s m args below meth c H locs 0 0 (MQ below (eQ D cy z (rI r) g) args s 0 0 (fun q => z ≤ q)) (F0 m 74 ls []) := by
  obtain ⟨hx, hb, hr, hml, hown, hts, hlk⟩ := id C
  intro  h x4 H locs ls w  hl hE
  unfold f_K_farthestWithin_74 at hE
  refine lv_iload hx hb dX11_farthestWithin_74 (lv_at hl 0 rfl) ?_
  exact w_iret C w hE dX11_farthestWithin_76
set_option maxRecDepth 20000 in
set_option maxHeartbeats 4000000 in
theorem b_K_farthestWithin_68 {p : Program} {l : Launch} {e : Env} {s : State} {m : MethodId} {args : Array Value} {below : List Frame} {meth : Method} {c : Code} {D : va_G} {cy : cyT} {z : Nat} (C : MX p s m args meth c cX11_farthestWithin 8 ((some .int)) RX11 (Cond.code yX11_farthestWithin cX11_farthestWithin 8 ((some .int)) :: GW)) (N : Nat) {r : Int32} {g : hS} {rc9 : hS → Option Nat → Int32 → Int32 → Int32 → Int32 → Int32 → Int32 → Option (Int32 × hS)}  (hrc9 : ∀ (h : hS) (a0 : Option Nat) (x1 : Int32) (x2 : Int32) (x3 : Int32) (x4 : Int32) (x5 : Int32) (x6 : Int32) (H : Heap) (locs : List Loc) (ls : Array Slot), wd D cy z s 0 h H locs → lv_has ls 8 [(0, va_rf a0), (1, .int x1), (2, .int x2), (3, .int x3), (4, .int x4), (5, .int x5), (6, .int x6)] → rc9 h a0 x1 x2 x3 x4 x5 x6 = some (r, g) → W p l e { frames := 2, cells := 0, slots := 0, locals := 73 } s m args below meth c H locs 0 0 (MQ below (eQ D cy z (rI r) g) args s 0 0 (fun q => z ≤ q)) (F0 m 9 ls [])) : ∀  (h : hS) (a0 : Option Nat) (x1 : Int32) (x2 : Int32) (x3 : Int32) (x4 : Int32) (x5 : Int32) (x6 : Int32) (H : Heap) (locs : List Loc) (ls : Array Slot), wd D cy z s 0 h H locs → lv_has ls 8 [(0, va_rf a0), (1, .int x1), (2, .int x2), (3, .int x3), (4, .int x4), (5, .int x5), (6, .int x6)] → f_K_farthestWithin_68 N rc9  h a0 x1 x2 x3 x4 x5 x6 = some (r, g) → W p l e { frames := 2, cells := 0, slots := 0, locals := 73 } s m args below meth c H locs 0 0 (MQ below (eQ D cy z (rI r) g) args s 0 0 (fun q => z ≤ q)) (F0 m 68 ls []) := by
  obtain ⟨hx, hb, hr, hml, hown, hts, hlk⟩ := id C
  intro  h a0 x1 x2 x3 x4 x5 x6 H locs ls w  hl hE
  unfold f_K_farthestWithin_68 at hE
  obtain ⟨v1, ev1, e1⟩ := bn_some hE
  refine lv_iinc (v := v1) (lv' := [(6, .int v1), (0, va_rf a0), (1, .int x1), (2, .int x2), (3, .int x3), (4, .int x4), (5, .int x5)]) hx hb dX11_farthestWithin_68 hl (k := 6) rfl (by rw [ev1]; rfl) (by decide) rfl (fun ls hl => ?_)
  refine lv_goto (tgt := 9) hx hb dX11_farthestWithin_71 (by decide) ?_
  exact hrc9  h a0 x1 x2 x3 x4 x5 v1 _ _ ls w  (lv_sub hl [1, 2, 3, 4, 5, 6, 0] rfl) e1
set_option maxRecDepth 20000 in
set_option maxHeartbeats 4000000 in
theorem b_K_farthestWithin_9 {p : Program} {l : Launch} {e : Env} {s : State} {m : MethodId} {args : Array Value} {below : List Frame} {meth : Method} {c : Code} {D : va_G} {cy : cyT} {z : Nat} (C : MX p s m args meth c cX11_farthestWithin 8 ((some .int)) RX11 (Cond.code yX11_farthestWithin cX11_farthestWithin 8 ((some .int)) :: GW)) (N : Nat) {r : Int32} {g : hS}  : ∀ (n : Nat) (h : hS) (a0 : Option Nat) (x1 : Int32) (x2 : Int32) (x3 : Int32) (x4 : Int32) (x5 : Int32) (x6 : Int32) (H : Heap) (locs : List Loc) (ls : Array Slot), wd D cy z s 0 h H locs → lv_has ls 8 [(0, va_rf a0), (1, .int x1), (2, .int x2), (3, .int x3), (4, .int x4), (5, .int x5), (6, .int x6)] → f_K_farthestWithin_9 N  n h a0 x1 x2 x3 x4 x5 x6 = some (r, g) → W p l e { frames := 2, cells := 0, slots := 0, locals := 73 } s m args below meth c H locs 0 0 (MQ below (eQ D cy z (rI r) g) args s 0 0 (fun q => z ≤ q)) (F0 m 9 ls []) := by
  obtain ⟨hx, hb, hr, hml, hown, hts, hlk⟩ := id C
  intro n
  induction n with
  | zero =>
    intro  h a0 x1 x2 x3 x4 x5 x6 H locs ls w  hl hE
    cases hE
  | succ n ih =>
    intro  h a0 x1 x2 x3 x4 x5 x6 H locs ls w  hl hE
    unfold f_K_farthestWithin_9 at hE
    refine lv_iload hx hb dX11_farthestWithin_9 (lv_at hl 6 rfl) ?_
    refine lv_bipush (v := 32) hx hb dX11_farthestWithin_11 (by decide) ?_
    refine w_icmp_ge (tgt := 74) C dX11_farthestWithin_13 (by decide) hE (fun hc e1 => ?_) (fun hc e1 => ?_)
    · exact b_K_farthestWithin_74 C N     h x4 _ _ ls w  (lv_sub hl [4] rfl) e1
    · refine lv_iload hx hb dX11_farthestWithin_16 (lv_at hl 4 rfl) ?_
      refine lv_iload hx hb dX11_farthestWithin_18 (lv_at hl 5 rfl) ?_
      refine w_icmp_ge (tgt := 74) C dX11_farthestWithin_20 (by decide) e1 (fun hc e2 => ?_) (fun hc e2 => ?_)
      · exact b_K_farthestWithin_74 C N     h x4 _ _ ls w  (lv_sub hl [4] rfl) e2
      · refine lv_iload hx hb dX11_farthestWithin_23 (lv_at hl 4 rfl) ?_
        refine lv_iload hx hb dX11_farthestWithin_25 (lv_at hl 5 rfl) ?_
        refine lv_iadd hx hb dX11_farthestWithin_27 ?_
        refine lv_iconst (v := 1) hx hb dX11_farthestWithin_28 (by decide) ?_
        refine lv_iadd hx hb dX11_farthestWithin_29 ?_
        refine lv_iconst (v := 2) hx hb dX11_farthestWithin_30 (by decide) ?_
        refine w_idiv C dX11_farthestWithin_31 e2 (fun e3 => ?_)
        refine w_bnI e3 (fun v1 e4 => ?_)
        refine lv_istore (lv' := [(7, .int v1), (0, va_rf a0), (1, .int x1), (2, .int x2), (3, .int x3), (4, .int x4), (5, .int x5), (6, .int x6)]) hx hb dX11_farthestWithin_32 hl (by decide) rfl (fun ls hl => ?_)
        refine w_aload_n C dX11_farthestWithin_34 rfl (lv_at hl 1 rfl) ?_
        refine lv_iload_n hx hb dX11_farthestWithin_35 rfl (lv_at hl 2 rfl) ?_
        refine lv_iload_n hx hb dX11_farthestWithin_36 rfl (lv_at hl 3 rfl) ?_
        refine lv_iload hx hb dX11_farthestWithin_37 (lv_at hl 0 rfl) ?_
        refine lv_imul hx hb dX11_farthestWithin_39 ?_
        refine lv_iadd hx hb dX11_farthestWithin_40 ?_
        refine w_VJ GW_good (n := 1) (F := 1) (Lc := 44) (o := a0) (av := [.int (x1 + (x2 * v1))]) (rest := []) C w rfl (by decide) (fun a r g hf => k_Curve_valueAt l D cy z N h a (x1 + (x2 * v1)) r g hf) gw_34_17 gw_22_1 gw_22_2 gw_2_22 gw_22_3 (by decide +kernel) ⟨Nat.le_of_ble_eq_true rfl, Nat.le_of_ble_eq_true rfl⟩ rfl hl.1 rfl (Nat.le_of_ble_eq_true rfl) dX11_farthestWithin_41 (fun a => (sh_Curve_valueAt N h a (x1 + (x2 * v1)))) ⟨by decide, by decide⟩ e4 (fun v2 h3 H locs w hsh3 e5 => ?_)
        refine w_aload_n C dX11_farthestWithin_44 rfl (lv_at hl 1 rfl) ?_
        refine w_gJ (r := a0) (ci := 3) (k := 4) C w rfl (by decide) (GF_wsX20 _) (by decide) rfl (List.mem_cons_of_mem _ gw_35_10) rfl dX11_farthestWithin_45 e5 (fun v4 e6 => ?_)
        refine lv_lsub hx hb dX11_farthestWithin_48 ?_
        refine lv_iload_n hx hb dX11_farthestWithin_49 rfl (lv_at hl 4 rfl) ?_
        refine lv_i2l hx hb dX11_farthestWithin_50 rfl ?_
        refine W.lcmp hx hb dX11_farthestWithin_51 ?_
        refine w_if_gt (tgt := 62) C dX11_farthestWithin_52 (by decide) e6 (fun hc e7 => ?_) (fun hc e7 => ?_)
        · refine lv_iload hx hb dX11_farthestWithin_62 (lv_at hl 0 rfl) ?_
          refine lv_iconst (v := 1) hx hb dX11_farthestWithin_64 (by decide) ?_
          refine lv_isub hx hb dX11_farthestWithin_65 ?_
          refine w_bnI e7 (fun v5 e8 => ?_)
          refine lv_istore (lv' := [(5, .int v5), (7, .int v1), (0, va_rf a0), (1, .int x1), (2, .int x2), (3, .int x3), (4, .int x4), (6, .int x6)]) hx hb dX11_farthestWithin_66 hl (by decide) rfl (fun ls hl => ?_)
          exact b_K_farthestWithin_68 C N  ih   h3 a0 x1 x2 x3 x4 v5 x6 _ _ ls w  (lv_sub hl [2, 3, 4, 5, 6, 0, 7] rfl) e8
        · refine lv_iload hx hb dX11_farthestWithin_55 (lv_at hl 0 rfl) ?_
          refine lv_istore (lv' := [(4, .int v1), (7, .int v1), (0, va_rf a0), (1, .int x1), (2, .int x2), (3, .int x3), (5, .int x5), (6, .int x6)]) hx hb dX11_farthestWithin_57 hl (by decide) rfl (fun ls hl => ?_)
          refine lv_goto (tgt := 68) hx hb dX11_farthestWithin_59 (by decide) ?_
          exact b_K_farthestWithin_68 C N  ih   h3 a0 x1 x2 x3 v1 x5 x6 _ _ ls w  (lv_sub hl [2, 3, 4, 5, 0, 6, 7] rfl) e7
set_option maxRecDepth 20000 in
set_option maxHeartbeats 4000000 in
theorem k_K_farthestWithin (l : Launch) (D : va_G) (cy : cyT) (z : Nat) (N : Nat) (h : hS) (a0 : Option Nat) (x1 : Int32) (x2 : Int32) (x3 : Int32) (r : Int32) (g : hS) (hE : f_K_farthestWithin N h a0 x1 x2 x3 = some (r, g)) : ct l yX11_farthestWithin (Cond.code yX11_farthestWithin cX11_farthestWithin 8 ((some .int)) :: GW) { frames := 2, cells := 0, slots := 0, locals := 73 } D cy z h [va_rf a0, .int x1, .int x2, .int x3] (rI r) g := by
  refine Met.ofW (cc := cX11_farthestWithin) (maxL := 8) (ret := (some .int)) (by decide) rfl ?_
  intro p e s m args below meth c s₁ B hml hv
  obtain ⟨rfl, hw⟩ := hv
  have C : MX p s m ([va_rf a0, .int x1, .int x2, .int x3] : List Value).toArray meth c cX11_farthestWithin 8 ((some .int)) RX11 (Cond.code yX11_farthestWithin cX11_farthestWithin 8 ((some .int)) :: GW) := ⟨B.exec, B.bytes, B.returns, hml, findClass_of_methodNamed B.named, atoms_spec (ws := Cond.code yX11_farthestWithin cX11_farthestWithin 8 ((some .int)) :: GW) B.pre, B.notSynchronized⟩
  obtain ⟨hx, hb, hr, hml, hown, hts, hlk⟩ := id C
  have w := wd_of hw
  obtain ⟨ls, hen, hl⟩ : ∃ ls : Array Slot, entryFrame m ([va_rf a0, .int x1, .int x2, .int x3] : List Value).toArray 8 = F0 m 0 ls [] ∧ lv_has ls 8 [(0, va_rf a0), (1, .int x1), (2, .int x2), (3, .int x3)] := by
    cases a0 <;> exact ⟨_, lg_entry_eq _ _ _, lv_entry _ (Nat.le_of_ble_eq_true rfl)⟩
  rw [hen]
  unfold f_K_farthestWithin at hE
  refine lv_iconst (v := 0) hx hb dX11_farthestWithin_0 (by decide) ?_
  refine lv_istore (lv' := [(4, .int (0 : Int32)), (0, va_rf a0), (1, .int x1), (2, .int x2), (3, .int x3)]) hx hb dX11_farthestWithin_1 hl (by decide) rfl (fun ls hl => ?_)
  refine lv_iload_n hx hb dX11_farthestWithin_3 rfl (lv_at hl 4 rfl) ?_
  refine lv_istore (lv' := [(5, .int x3), (4, .int (0 : Int32)), (0, va_rf a0), (1, .int x1), (2, .int x2), (3, .int x3)]) hx hb dX11_farthestWithin_4 hl (by decide) rfl (fun ls hl => ?_)
  refine lv_iconst (v := 0) hx hb dX11_farthestWithin_6 (by decide) ?_
  refine lv_istore (lv' := [(6, .int (0 : Int32)), (5, .int x3), (4, .int (0 : Int32)), (0, va_rf a0), (1, .int x1), (2, .int x2), (3, .int x3)]) hx hb dX11_farthestWithin_7 hl (by decide) rfl (fun ls hl => ?_)
  exact b_K_farthestWithin_9 C N   N  h a0 x1 x2 x3 (0 : Int32) x3 (0 : Int32) _ _ ls w  (lv_sub hl [3, 4, 5, 6, 2, 1, 0] rfl) hE
set_option maxRecDepth 20000 in
set_option maxHeartbeats 4000000 in
theorem b_K_off_73 {p : Program} {l : Launch} {e : Env} {s : State} {m : MethodId} {args : Array Value} {below : List Frame} {meth : Method} {c : Code} {D : va_G} {cy : cyT} {z : Nat} (C : MX p s m args meth c cX11_off 7 ((some .int)) RX11 (Cond.code yX11_off cX11_off 7 ((some .int)) :: GW)) (hst : l.stackTraces = false) (hxt : ∀ x ∈ c.exceptionTable.toList, False) (N : Nat) (n0 s0 : Nat) (hn0 : s.heap.size = n0) {r : (Int32 ⊕ Nat)} {g : hS}  : ∀  (cells slots : Nat) (h : hS) (x2 : Int32) (a4 : Option Nat) (x5 : Int32) (y0 : Int32) (H : Heap) (locs : List Loc) (ls : Array Slot), wd D cy z s cells h H locs → h_s h = s0 + slots → lv_has ls 7 [(2, .int x2), (4, va_rf a4), (5, .int x5)] → f_K_off_73 N   h x2 a4 x5 y0 = some (r, g) → W p l e { frames := 9, cells := h_x g - n0, slots := h_s g - s0, locals := 143 } s m args below meth c H locs cells slots (eT D cy z rI r g below args s (h_x g - n0) (h_s g - s0)) (F0 m 73 ls [.int y0]) := by
  obtain ⟨hx, hb, hr, hml, hown, hts, hlk⟩ := id C
  intro cells slots h x2 a4 x5 y0 H locs ls w hsl hl hE
  have hcc : cells ≤ h_x g - n0 ∧ slots ≤ h_s g - s0 := by
    have q1 := mo_K_off_73 N  h x2 a4 x5 y0 _ _ hE
    have q2 := wd_x w
    have q3 := q1.1
    have q4 := q1.2.1
    omega
  unfold f_K_off_73 at hE
  refine lv_istore (lv' := [(6, .int y0), (2, .int x2), (4, va_rf a4), (5, .int x5)]) hx hb dX11_off_73 hl (by decide) rfl (fun ls hl => ?_)
  refine lv_iload hx hb dX11_off_75 (lv_at hl 3 rfl) ?_
  refine w_SI GW_good (n := 1) (F := 0) (Lc := 0) (av := [.int x5]) (rest := []) C w (fun r g hf => k_K_isFar l D cy z N h x5 r g hf) gw_36_14 gw_36_15 gw_1_2 gw_36_16 (by decide +kernel) ⟨Nat.le_of_ble_eq_true rfl, Nat.le_of_ble_eq_true rfl⟩ rfl hl.1 rfl (Nat.le_of_ble_eq_true rfl) dX11_off_77 (sh_K_isFar N h x5) ⟨hcc.1, hcc.2⟩ hE (fun v1 h2 H locs w hsh2 e1 => ?_)
  have hsl := hsh2.2.2.2.trans hsl
  refine w_if_eq (tgt := 87) C dX11_off_80 (by decide) e1 (fun hc e2 => ?_) (fun hc e2 => ?_)
  · refine lv_iload hx hb dX11_off_87 (lv_at hl 3 rfl) ?_
    refine lv_iload hx hb dX11_off_89 (lv_at hl 0 rfl) ?_
    refine w_aload C dX11_off_91 (lv_at hl 2 rfl) ?_
    refine lv_iload hx hb dX11_off_93 (lv_at hl 3 rfl) ?_
    refine lv_iload hx hb dX11_off_95 (lv_at hl 0 rfl) ?_
    refine lv_iload_n hx hb dX11_off_97 rfl (lv_at hl 1 rfl) ?_
    refine w_SI GW_good (n := 4) (F := 2) (Lc := 73) (av := [va_rf a4, .int x5, .int y0, .int x2]) (rest := [.int y0, .int x5]) C w (fun r g hf => k_K_farthestWithin l D cy z N h2 a4 x5 y0 x2 r g hf) gw_42_2 gw_42_3 gw_1_2 gw_42_4 (by decide +kernel) ⟨Nat.le_of_ble_eq_true rfl, Nat.le_of_ble_eq_true rfl⟩ rfl hl.1 rfl (Nat.le_of_ble_eq_true rfl) dX11_off_98 (sh_K_farthestWithin N h2 a4 x5 y0 x2) ⟨hcc.1, hcc.2⟩ e2 (fun v3 h4 H locs w hsh4 e3 => ?_)
    have hsl := hsh4.2.2.2.trans hsl
    refine lv_imul hx hb dX11_off_101 ?_
    refine lv_iadd hx hb dX11_off_102 ?_
    refine W.widen (k := h_x g - n0) (n := h_s g - s0) hcc.1 hcc.2 ?_
    exact w_iretT C w e3 dX11_off_103
  · refine lv_ldcw hx hb hown (hts _ (List.mem_cons_of_mem _ gw_36_13)) dX11_off_83 ?_
    refine W.widen (k := h_x g - n0) (n := h_s g - s0) hcc.1 hcc.2 ?_
    exact w_iretT C w e2 dX11_off_86
set_option maxRecDepth 20000 in
set_option maxHeartbeats 4000000 in
theorem b_K_off_62 {p : Program} {l : Launch} {e : Env} {s : State} {m : MethodId} {args : Array Value} {below : List Frame} {meth : Method} {c : Code} {D : va_G} {cy : cyT} {z : Nat} (C : MX p s m args meth c cX11_off 7 ((some .int)) RX11 (Cond.code yX11_off cX11_off 7 ((some .int)) :: GW)) (hst : l.stackTraces = false) (hxt : ∀ x ∈ c.exceptionTable.toList, False) (N : Nat) (n0 s0 : Nat) (hn0 : s.heap.size = n0) {r : (Int32 ⊕ Nat)} {g : hS}  : ∀  (cells slots : Nat) (h : hS) (x2 : Int32) (x3 : Int32) (a4 : Option Nat) (y0 : Int32) (H : Heap) (locs : List Loc) (ls : Array Slot), wd D cy z s cells h H locs → h_s h = s0 + slots → lv_has ls 7 [(2, .int x2), (3, .int x3), (4, va_rf a4)] → f_K_off_62 N   h x2 x3 a4 y0 = some (r, g) → W p l e { frames := 9, cells := h_x g - n0, slots := h_s g - s0, locals := 143 } s m args below meth c H locs cells slots (eT D cy z rI r g below args s (h_x g - n0) (h_s g - s0)) (F0 m 62 ls [.int y0]) := by
  obtain ⟨hx, hb, hr, hml, hown, hts, hlk⟩ := id C
  intro cells slots h x2 x3 a4 y0 H locs ls w hsl hl hE
  have hcc : cells ≤ h_x g - n0 ∧ slots ≤ h_s g - s0 := by
    have q1 := mo_K_off_62 N  h x2 x3 a4 y0 _ _ hE
    have q2 := wd_x w
    have q3 := q1.1
    have q4 := q1.2.1
    omega
  unfold f_K_off_62 at hE
  refine lv_istore (lv' := [(5, .int y0), (2, .int x2), (3, .int x3), (4, va_rf a4)]) hx hb dX11_off_62 hl (by decide) (by cases a4 <;> rfl) (fun ls hl => ?_)
  refine lv_iload_n hx hb dX11_off_64 rfl (lv_at hl 2 rfl) ?_
  refine w_if_ne (tgt := 72) C dX11_off_65 (by decide) hE (fun hc e1 => ?_) (fun hc e1 => ?_)
  · refine lv_iconst (v := 1) hx hb dX11_off_72 (by decide) ?_
    exact b_K_off_73 C hst hxt N n0 s0 hn0   _ _ h x2 a4 y0 (1 : Int32) _ _ ls w hsl (lv_sub hl [1, 3, 0] rfl) e1
  · refine lv_iconst (v := -1) hx hb dX11_off_68 (by decide) ?_
    refine lv_goto (tgt := 73) hx hb dX11_off_69 (by decide) ?_
    exact b_K_off_73 C hst hxt N n0 s0 hn0   _ _ h x2 a4 y0 (-1 : Int32) _ _ ls w hsl (lv_sub hl [1, 3, 0] rfl) e1
set_option maxRecDepth 20000 in
set_option maxHeartbeats 4000000 in
theorem b_K_off_43 {p : Program} {l : Launch} {e : Env} {s : State} {m : MethodId} {args : Array Value} {below : List Frame} {meth : Method} {c : Code} {D : va_G} {cy : cyT} {z : Nat} (C : MX p s m args meth c cX11_off 7 ((some .int)) RX11 (Cond.code yX11_off cX11_off 7 ((some .int)) :: GW)) (hst : l.stackTraces = false) (hxt : ∀ x ∈ c.exceptionTable.toList, False) (N : Nat) (n0 s0 : Nat) (hn0 : s.heap.size = n0) {r : (Int32 ⊕ Nat)} {g : hS}  : ∀  (cells slots : Nat) (h : hS) (x2 : Int32) (x3 : Int32) (a4 : Option Nat) (H : Heap) (locs : List Loc) (ls : Array Slot), wd D cy z s cells h H locs → h_s h = s0 + slots → lv_has ls 7 [(2, .int x2), (3, .int x3), (4, va_rf a4)] → f_K_off_43 N   h x2 x3 a4 = some (r, g) → W p l e { frames := 9, cells := h_x g - n0, slots := h_s g - s0, locals := 143 } s m args below meth c H locs cells slots (eT D cy z rI r g below args s (h_x g - n0) (h_s g - s0)) (F0 m 43 ls []) := by
  obtain ⟨hx, hb, hr, hml, hown, hts, hlk⟩ := id C
  intro cells slots h x2 x3 a4 H locs ls w hsl hl hE
  have hcc : cells ≤ h_x g - n0 ∧ slots ≤ h_s g - s0 := by
    have q1 := mo_K_off_43 N  h x2 x3 a4 _ _ hE
    have q2 := wd_x w
    have q3 := q1.1
    have q4 := q1.2.1
    omega
  unfold f_K_off_43 at hE
  refine lv_iload_n hx hb dX11_off_43 rfl (lv_at hl 1 rfl) ?_
  refine w_if_ne (tgt := 56) C dX11_off_44 (by decide) hE (fun hc e1 => ?_) (fun hc e1 => ?_)
  · refine w_aload C dX11_off_56 (lv_at hl 2 rfl) ?_
    refine lv_iconst (v := 0) hx hb dX11_off_58 (by decide) ?_
    refine w_VI GW_good (n := 1) (F := 2) (Lc := 44) (o := a4) (av := [.int (0 : Int32)]) (rest := []) C w rfl (by decide) (fun a r g hf => k_Curve_highEnd l D cy z N h a (0 : Int32) r g hf) gw_36_19 gw_36_20 gw_36_21 gw_2_22 gw_36_22 (by decide +kernel) ⟨Nat.le_of_ble_eq_true rfl, Nat.le_of_ble_eq_true rfl⟩ rfl hl.1 rfl (Nat.le_of_ble_eq_true rfl) dX11_off_59 (fun a => (sh_Curve_highEnd N h a (0 : Int32))) ⟨hcc.1, hcc.2⟩ e1 (fun v1 h2 H locs w hsh2 e2 => ?_)
    have hsl := hsh2.2.2.2.trans hsl
    exact b_K_off_62 C hst hxt N n0 s0 hn0   _ _ h2 x2 x3 a4 v1 _ _ ls w hsl (lv_sub hl [0, 1, 2] rfl) e2
  · refine w_aload C dX11_off_47 (lv_at hl 2 rfl) ?_
    refine lv_iconst (v := 0) hx hb dX11_off_49 (by decide) ?_
    refine w_VI GW_good (n := 1) (F := 2) (Lc := 44) (o := a4) (av := [.int (0 : Int32)]) (rest := []) C w rfl (by decide) (fun a r g hf => k_Curve_lowEnd l D cy z N h a (0 : Int32) r g hf) gw_36_0 gw_36_1 gw_36_2 gw_2_22 gw_36_3 (by decide +kernel) ⟨Nat.le_of_ble_eq_true rfl, Nat.le_of_ble_eq_true rfl⟩ rfl hl.1 rfl (Nat.le_of_ble_eq_true rfl) dX11_off_50 (fun a => (sh_Curve_lowEnd N h a (0 : Int32))) ⟨hcc.1, hcc.2⟩ e1 (fun v3 h4 H locs w hsh4 e3 => ?_)
    have hsl := hsh4.2.2.2.trans hsl
    refine lv_goto (tgt := 62) hx hb dX11_off_53 (by decide) ?_
    exact b_K_off_62 C hst hxt N n0 s0 hn0   _ _ h4 x2 x3 a4 v3 _ _ ls w hsl (lv_sub hl [0, 1, 2] rfl) e3
set_option maxRecDepth 20000 in
set_option maxHeartbeats 4000000 in
theorem b_K_off_40 {p : Program} {l : Launch} {e : Env} {s : State} {m : MethodId} {args : Array Value} {below : List Frame} {meth : Method} {c : Code} {D : va_G} {cy : cyT} {z : Nat} (C : MX p s m args meth c cX11_off 7 ((some .int)) RX11 (Cond.code yX11_off cX11_off 7 ((some .int)) :: GW)) (hst : l.stackTraces = false) (hxt : ∀ x ∈ c.exceptionTable.toList, False) (N : Nat) (n0 s0 : Nat) (hn0 : s.heap.size = n0) {r : (Int32 ⊕ Nat)} {g : hS}  : ∀  (cells slots : Nat) (h : hS) (x2 : Int32) (x3 : Int32) (a4 : Option Nat) (y0 : Int32) (H : Heap) (locs : List Loc) (ls : Array Slot), wd D cy z s cells h H locs → h_s h = s0 + slots → lv_has ls 7 [(2, .int x2), (3, .int x3), (4, va_rf a4)] → f_K_off_40 N   h x2 x3 a4 y0 = some (r, g) → W p l e { frames := 9, cells := h_x g - n0, slots := h_s g - s0, locals := 143 } s m args below meth c H locs cells slots (eT D cy z rI r g below args s (h_x g - n0) (h_s g - s0)) (F0 m 40 ls [.int y0]) := by
  obtain ⟨hx, hb, hr, hml, hown, hts, hlk⟩ := id C
  intro cells slots h x2 x3 a4 y0 H locs ls w hsl hl hE
  have hcc : cells ≤ h_x g - n0 ∧ slots ≤ h_s g - s0 := by
    have q1 := mo_K_off_40 N  h x2 x3 a4 y0 _ _ hE
    have q2 := wd_x w
    have q3 := q1.1
    have q4 := q1.2.1
    omega
  unfold f_K_off_40 at hE
  refine w_STV GW_good (n := 1) (F := 6) (Lc := 82) (av := [.int y0]) (rest := []) hxt hn0 hsl C w (fun r g hf => k_K_needFit l hst D cy z N h y0 r g hf) gw_9_20 gw_9_21 gw_1_2 gw_9_22 (by decide +kernel) ⟨Nat.le_of_ble_eq_true rfl, Nat.le_of_ble_eq_true rfl⟩ rfl hl.1 rfl (Nat.le_of_ble_eq_true rfl) dX11_off_40 (mo_K_needFit N h y0) (fun v1 h2 => mo_K_off_43 N   h2 x2 x3 a4) hE (fun v1 h2 H locs w hsh2 e1 => ?_)
  exact b_K_off_43 C hst hxt N n0 s0 hn0   _ _ h2 x2 x3 a4 _ _ ls w (by have u5 := hsh2.2.1; have u8 := hsl; omega) (lv_sub hl [0, 1, 2] rfl) e1
set_option maxRecDepth 20000 in
set_option maxHeartbeats 4000000 in
theorem b_K_off_39 {p : Program} {l : Launch} {e : Env} {s : State} {m : MethodId} {args : Array Value} {below : List Frame} {meth : Method} {c : Code} {D : va_G} {cy : cyT} {z : Nat} (C : MX p s m args meth c cX11_off 7 ((some .int)) RX11 (Cond.code yX11_off cX11_off 7 ((some .int)) :: GW)) (hst : l.stackTraces = false) (hxt : ∀ x ∈ c.exceptionTable.toList, False) (N : Nat) (n0 s0 : Nat) (hn0 : s.heap.size = n0) {r : (Int32 ⊕ Nat)} {g : hS}  : ∀  (cells slots : Nat) (h : hS) (x2 : Int32) (x3 : Int32) (a4 : Option Nat) (H : Heap) (locs : List Loc) (ls : Array Slot), wd D cy z s cells h H locs → h_s h = s0 + slots → lv_has ls 7 [(2, .int x2), (3, .int x3), (4, va_rf a4)] → f_K_off_39 N   h x2 x3 a4 = some (r, g) → W p l e { frames := 9, cells := h_x g - n0, slots := h_s g - s0, locals := 143 } s m args below meth c H locs cells slots (eT D cy z rI r g below args s (h_x g - n0) (h_s g - s0)) (F0 m 39 ls []) := by
  obtain ⟨hx, hb, hr, hml, hown, hts, hlk⟩ := id C
  intro cells slots h x2 x3 a4 H locs ls w hsl hl hE
  have hcc : cells ≤ h_x g - n0 ∧ slots ≤ h_s g - s0 := by
    have q1 := mo_K_off_39 N  h x2 x3 a4 _ _ hE
    have q2 := wd_x w
    have q3 := q1.1
    have q4 := q1.2.1
    omega
  unfold f_K_off_39 at hE
  refine lv_iconst (v := 0) hx hb dX11_off_39 (by decide) ?_
  exact b_K_off_40 C hst hxt N n0 s0 hn0   _ _ h x2 x3 a4 (0 : Int32) _ _ ls w hsl (lv_sub hl [0, 1, 2] rfl) hE
set_option maxRecDepth 20000 in
set_option maxHeartbeats 4000000 in
theorem b_K_off_24 {p : Program} {l : Launch} {e : Env} {s : State} {m : MethodId} {args : Array Value} {below : List Frame} {meth : Method} {c : Code} {D : va_G} {cy : cyT} {z : Nat} (C : MX p s m args meth c cX11_off 7 ((some .int)) RX11 (Cond.code yX11_off cX11_off 7 ((some .int)) :: GW)) (hst : l.stackTraces = false) (hxt : ∀ x ∈ c.exceptionTable.toList, False) (N : Nat) (n0 s0 : Nat) (hn0 : s.heap.size = n0) {r : (Int32 ⊕ Nat)} {g : hS}  : ∀  (cells slots : Nat) (h : hS) (x2 : Int32) (x3 : Int32) (a4 : Option Nat) (H : Heap) (locs : List Loc) (ls : Array Slot), wd D cy z s cells h H locs → h_s h = s0 + slots → lv_has ls 7 [(2, .int x2), (3, .int x3), (4, va_rf a4)] → f_K_off_24 N   h x2 x3 a4 = some (r, g) → W p l e { frames := 9, cells := h_x g - n0, slots := h_s g - s0, locals := 143 } s m args below meth c H locs cells slots (eT D cy z rI r g below args s (h_x g - n0) (h_s g - s0)) (F0 m 24 ls []) := by
  obtain ⟨hx, hb, hr, hml, hown, hts, hlk⟩ := id C
  intro cells slots h x2 x3 a4 H locs ls w hsl hl hE
  have hcc : cells ≤ h_x g - n0 ∧ slots ≤ h_s g - s0 := by
    have q1 := mo_K_off_24 N  h x2 x3 a4 _ _ hE
    have q2 := wd_x w
    have q3 := q1.1
    have q4 := q1.2.1
    omega
  unfold f_K_off_24 at hE
  refine lv_iload_n hx hb dX11_off_24 rfl (lv_at hl 0 rfl) ?_
  refine w_if_lt (tgt := 39) C dX11_off_25 (by decide) hE (fun hc e1 => ?_) (fun hc e1 => ?_)
  · exact b_K_off_39 C hst hxt N n0 s0 hn0   _ _ h x2 x3 a4 _ _ ls w hsl (lv_sub hl [0, 1, 2] rfl) e1
  · refine lv_iload_n hx hb dX11_off_28 rfl (lv_at hl 0 rfl) ?_
    refine lv_ldcw hx hb hown (hts _ (List.mem_cons_of_mem _ gw_42_1)) dX11_off_29 ?_
    refine w_icmp_gt (tgt := 39) C dX11_off_32 (by decide) e1 (fun hc e2 => ?_) (fun hc e2 => ?_)
    · exact b_K_off_39 C hst hxt N n0 s0 hn0   _ _ h x2 x3 a4 _ _ ls w hsl (lv_sub hl [0, 1, 2] rfl) e2
    · refine lv_iconst (v := 1) hx hb dX11_off_35 (by decide) ?_
      refine lv_goto (tgt := 40) hx hb dX11_off_36 (by decide) ?_
      exact b_K_off_40 C hst hxt N n0 s0 hn0   _ _ h x2 x3 a4 (1 : Int32) _ _ ls w hsl (lv_sub hl [0, 1, 2] rfl) e2
set_option maxRecDepth 20000 in
set_option maxHeartbeats 4000000 in
theorem b_K_off_21 {p : Program} {l : Launch} {e : Env} {s : State} {m : MethodId} {args : Array Value} {below : List Frame} {meth : Method} {c : Code} {D : va_G} {cy : cyT} {z : Nat} (C : MX p s m args meth c cX11_off 7 ((some .int)) RX11 (Cond.code yX11_off cX11_off 7 ((some .int)) :: GW)) (hst : l.stackTraces = false) (hxt : ∀ x ∈ c.exceptionTable.toList, False) (N : Nat) (n0 s0 : Nat) (hn0 : s.heap.size = n0) {r : (Int32 ⊕ Nat)} {g : hS}  : ∀  (cells slots : Nat) (h : hS) (x2 : Int32) (x3 : Int32) (a4 : Option Nat) (y0 : Int32) (H : Heap) (locs : List Loc) (ls : Array Slot), wd D cy z s cells h H locs → h_s h = s0 + slots → lv_has ls 7 [(2, .int x2), (3, .int x3), (4, va_rf a4)] → f_K_off_21 N   h x2 x3 a4 y0 = some (r, g) → W p l e { frames := 9, cells := h_x g - n0, slots := h_s g - s0, locals := 143 } s m args below meth c H locs cells slots (eT D cy z rI r g below args s (h_x g - n0) (h_s g - s0)) (F0 m 21 ls [.int y0]) := by
  obtain ⟨hx, hb, hr, hml, hown, hts, hlk⟩ := id C
  intro cells slots h x2 x3 a4 y0 H locs ls w hsl hl hE
  have hcc : cells ≤ h_x g - n0 ∧ slots ≤ h_s g - s0 := by
    have q1 := mo_K_off_21 N  h x2 x3 a4 y0 _ _ hE
    have q2 := wd_x w
    have q3 := q1.1
    have q4 := q1.2.1
    omega
  unfold f_K_off_21 at hE
  refine w_STV GW_good (n := 1) (F := 6) (Lc := 82) (av := [.int y0]) (rest := []) hxt hn0 hsl C w (fun r g hf => k_K_needSuch l hst D cy z N h y0 r g hf) gw_9_15 gw_9_16 gw_1_2 gw_9_17 (by decide +kernel) ⟨Nat.le_of_ble_eq_true rfl, Nat.le_of_ble_eq_true rfl⟩ rfl hl.1 rfl (Nat.le_of_ble_eq_true rfl) dX11_off_21 (mo_K_needSuch N h y0) (fun v1 h2 => mo_K_off_24 N   h2 x2 x3 a4) hE (fun v1 h2 H locs w hsh2 e1 => ?_)
  exact b_K_off_24 C hst hxt N n0 s0 hn0   _ _ h2 x2 x3 a4 _ _ ls w (by have u5 := hsh2.2.1; have u8 := hsl; omega) (lv_sub hl [0, 1, 2] rfl) e1
set_option maxRecDepth 20000 in
set_option maxHeartbeats 4000000 in
theorem b_K_off_16 {p : Program} {l : Launch} {e : Env} {s : State} {m : MethodId} {args : Array Value} {below : List Frame} {meth : Method} {c : Code} {D : va_G} {cy : cyT} {z : Nat} (C : MX p s m args meth c cX11_off 7 ((some .int)) RX11 (Cond.code yX11_off cX11_off 7 ((some .int)) :: GW)) (hst : l.stackTraces = false) (hxt : ∀ x ∈ c.exceptionTable.toList, False) (N : Nat) (n0 s0 : Nat) (hn0 : s.heap.size = n0) {r : (Int32 ⊕ Nat)} {g : hS}  : ∀  (cells slots : Nat) (h : hS) (x2 : Int32) (x3 : Int32) (a4 : Option Nat) (H : Heap) (locs : List Loc) (ls : Array Slot), wd D cy z s cells h H locs → h_s h = s0 + slots → lv_has ls 7 [(2, .int x2), (3, .int x3), (4, va_rf a4)] → f_K_off_16 N   h x2 x3 a4 = some (r, g) → W p l e { frames := 9, cells := h_x g - n0, slots := h_s g - s0, locals := 143 } s m args below meth c H locs cells slots (eT D cy z rI r g below args s (h_x g - n0) (h_s g - s0)) (F0 m 16 ls []) := by
  obtain ⟨hx, hb, hr, hml, hown, hts, hlk⟩ := id C
  intro cells slots h x2 x3 a4 H locs ls w hsl hl hE
  have hcc : cells ≤ h_x g - n0 ∧ slots ≤ h_s g - s0 := by
    have q1 := mo_K_off_16 N  h x2 x3 a4 _ _ hE
    have q2 := wd_x w
    have q3 := q1.1
    have q4 := q1.2.1
    omega
  unfold f_K_off_16 at hE
  refine lv_iconst (v := 1) hx hb dX11_off_16 (by decide) ?_
  refine lv_goto (tgt := 21) hx hb dX11_off_17 (by decide) ?_
  exact b_K_off_21 C hst hxt N n0 s0 hn0   _ _ h x2 x3 a4 (1 : Int32) _ _ ls w hsl (lv_sub hl [0, 1, 2] rfl) hE
set_option maxRecDepth 20000 in
set_option maxHeartbeats 4000000 in
theorem b_K_off_5 {p : Program} {l : Launch} {e : Env} {s : State} {m : MethodId} {args : Array Value} {below : List Frame} {meth : Method} {c : Code} {D : va_G} {cy : cyT} {z : Nat} (C : MX p s m args meth c cX11_off 7 ((some .int)) RX11 (Cond.code yX11_off cX11_off 7 ((some .int)) :: GW)) (hst : l.stackTraces = false) (hxt : ∀ x ∈ c.exceptionTable.toList, False) (N : Nat) (n0 s0 : Nat) (hn0 : s.heap.size = n0) {r : (Int32 ⊕ Nat)} {g : hS}  : ∀  (cells slots : Nat) (h : hS) (x2 : Int32) (x3 : Int32) (y0 : Option Nat) (H : Heap) (locs : List Loc) (ls : Array Slot), wd D cy z s cells h H locs → h_s h = s0 + slots → lv_has ls 7 [(2, .int x2), (3, .int x3)] → f_K_off_5 N   h x2 x3 y0 = some (r, g) → W p l e { frames := 9, cells := h_x g - n0, slots := h_s g - s0, locals := 143 } s m args below meth c H locs cells slots (eT D cy z rI r g below args s (h_x g - n0) (h_s g - s0)) (F0 m 5 ls [va_rf y0]) := by
  obtain ⟨hx, hb, hr, hml, hown, hts, hlk⟩ := id C
  intro cells slots h x2 x3 y0 H locs ls w hsl hl hE
  have hcc : cells ≤ h_x g - n0 ∧ slots ≤ h_s g - s0 := by
    have q1 := mo_K_off_5 N  h x2 x3 y0 _ _ hE
    have q2 := wd_x w
    have q3 := q1.1
    have q4 := q1.2.1
    omega
  unfold f_K_off_5 at hE
  refine w_astore (r := y0) (lv' := [(4, va_rf y0), (2, .int x2), (3, .int x3)]) C dX11_off_5 hl (by decide) rfl (fun ls hl => ?_)
  refine lv_iload_n hx hb dX11_off_7 rfl (lv_at hl 2 rfl) ?_
  refine w_if_eq (tgt := 16) C dX11_off_8 (by decide) hE (fun hc e1 => ?_) (fun hc e1 => ?_)
  · exact b_K_off_16 C hst hxt N n0 s0 hn0   _ _ h x2 x3 y0 _ _ ls w hsl (lv_sub hl [1, 2, 0] rfl) e1
  · refine lv_iload_n hx hb dX11_off_11 rfl (lv_at hl 2 rfl) ?_
    refine lv_iconst (v := 1) hx hb dX11_off_12 (by decide) ?_
    refine w_icmp_ne (tgt := 20) C dX11_off_13 (by decide) e1 (fun hc e2 => ?_) (fun hc e2 => ?_)
    · refine lv_iconst (v := 0) hx hb dX11_off_20 (by decide) ?_
      exact b_K_off_21 C hst hxt N n0 s0 hn0   _ _ h x2 x3 y0 (0 : Int32) _ _ ls w hsl (lv_sub hl [1, 2, 0] rfl) e2
    · exact b_K_off_16 C hst hxt N n0 s0 hn0   _ _ h x2 x3 y0 _ _ ls w hsl (lv_sub hl [1, 2, 0] rfl) e2
set_option maxRecDepth 20000 in
set_option maxHeartbeats 4000000 in
theorem k_K_off (l : Launch) (hst : l.stackTraces = false) (D : va_G) (cy : cyT) (z : Nat) (N : Nat) (h : hS) (th : Nat) (x1 : Int32) (x2 : Int32) (x3 : Int32) (r : (Int32 ⊕ Nat)) (g : hS) (hE : f_K_off N h th x1 x2 x3 = some (r, g)) : ctT l yX11_off (Cond.code yX11_off cX11_off 7 ((some .int)) :: GW) { frames := 9, cells := h_x g - h_x h, slots := h_s g - h_s h, locals := 143 } D cy z h [.ref th, .int x1, .int x2, .int x3] rI r g := by
  refine ctT_of (cc := cX11_off) (maxL := 7) (ret := (some .int)) (by decide) ?_
  intro p e s m args below meth c s₁ B hml hxt hv
  obtain ⟨rfl, hw⟩ := hv
  have C : MX p s m ([.ref th, .int x1, .int x2, .int x3] : List Value).toArray meth c cX11_off 7 ((some .int)) RX11 (Cond.code yX11_off cX11_off 7 ((some .int)) :: GW) := ⟨B.exec, B.bytes, B.returns, hml, findClass_of_methodNamed B.named, atoms_spec (ws := Cond.code yX11_off cX11_off 7 ((some .int)) :: GW) B.pre, B.notSynchronized⟩
  obtain ⟨hx, hb, hr, hml, hown, hts, hlk⟩ := id C
  have w := wd_of hw
  have hsl : h_s h = h_s h + 0 := rfl
  have hn0 : s.heap.size = h_x h := (wd_x w).1
  obtain ⟨ls, hen, hl⟩ : ∃ ls : Array Slot, entryFrame m ([.ref th, .int x1, .int x2, .int x3] : List Value).toArray 7 = F0 m 0 ls [] ∧ lv_has ls 7 [(0, .ref th), (1, .int x1), (2, .int x2), (3, .int x3)] := by
    exact ⟨_, lg_entry_eq _ _ _, lv_entry _ (Nat.le_of_ble_eq_true rfl)⟩
  rw [hen]
  have hcc : 0 ≤ h_x g - h_x h ∧ 0 ≤ h_s g - h_s h := ⟨Nat.zero_le _, Nat.zero_le _⟩
  unfold f_K_off at hE
  refine lv_aload_n hx hb dX11_off_0 rfl (lv_at hl 0 rfl) ?_
  refine lv_iload_n hx hb dX11_off_1 rfl (lv_at hl 1 rfl) ?_
  refine w_VTR GW_good (n := 1) (F := 8) (Lc := 122) (ob := some th) (av := [.int x1]) (rest := []) hxt hn0 hsl C w rfl (by decide) (fun a r g hf => k_K_curveOf l hst D cy z N h a x1 r g hf) gw_16_2 gw_16_3 gw_16_4 gw_1_2 gw_16_5 (by decide +kernel) ⟨Nat.le_of_ble_eq_true rfl, Nat.le_of_ble_eq_true rfl⟩ rfl hl.1 rfl (Nat.le_of_ble_eq_true rfl) dX11_off_2 (fun a => (mo_K_curveOf N h a x1)) (fun v1 h2 => mo_K_off_5 N   h2 x2 x3 v1) hE (fun v1 h2 H locs w hsh2 e1 => ?_)
  exact b_K_off_5 C hst hxt N (h_x h) (h_s h) hn0   _ _ h2 x2 x3 v1 _ _ ls w (by have u5 := hsh2.2.1; have u8 := hsl; omega) (lv_sub hl [2, 3] rfl) e1
set_option maxRecDepth 20000 in
set_option maxHeartbeats 4000000 in
theorem b_K_gatherTwo_29 {p : Program} {l : Launch} {e : Env} {s : State} {m : MethodId} {args : Array Value} {below : List Frame} {meth : Method} {c : Code} {D : va_G} {cy : cyT} {z : Nat} (C : MX p s m args meth c cX11_gatherTwo 3 (none) RX11 (Cond.code yX11_gatherTwo cX11_gatherTwo 3 (none) :: GW)) (hst : l.stackTraces = false) (hxt : ∀ x ∈ c.exceptionTable.toList, False) (N : Nat) (n0 s0 : Nat) (hn0 : s.heap.size = n0) {r : (Unit ⊕ Nat)} {g : hS}  : ∀  (cells slots : Nat) (h : hS) (y0 : Option Nat) (y1 : Int32) (y2 : Option Nat) (H : Heap) (locs : List Loc) (ls : Array Slot), wd D cy z s cells h H locs → h_s h = s0 + slots → lv_has ls 3 [] → f_K_gatherTwo_29 N   h y0 y1 y2 = some (r, g) → W p l e { frames := 9, cells := h_x g - n0, slots := h_s g - s0, locals := 143 } s m args below meth c H locs cells slots (eT D cy z rV r g below args s (h_x g - n0) (h_s g - s0)) (F0 m 29 ls [va_rf y2, .int y1, va_rf y0]) := by
  obtain ⟨hx, hb, hr, hml, hown, hts, hlk⟩ := id C
  intro cells slots h y0 y1 y2 H locs ls w hsl hl hE
  have hcc : cells ≤ h_x g - n0 ∧ slots ≤ h_s g - s0 := by
    have q1 := mo_K_gatherTwo_29 N  h y0 y1 y2 _ _ hE
    have q2 := wd_x w
    have q3 := q1.1
    have q4 := q1.2.1
    omega
  unfold f_K_gatherTwo_29 at hE
  refine w_uR (kd := 63) (t0 := 7) (ci := 3) (r := y0) (v := y2) C w rfl (by decide) rfl (by decide) dX11_gatherTwo_29 hE (fun h1 H locs w hsh1 e1 => ?_)
  have hsl := hsh1.2.2.2.trans hsl
  refine W.widen (k := h_x g - n0) (n := h_s g - s0) hcc.1 hcc.2 ?_
  exact w_vretT C w e1 dX11_gatherTwo_30
set_option maxRecDepth 20000 in
set_option maxHeartbeats 4000000 in
theorem b_K_gatherTwo_18 {p : Program} {l : Launch} {e : Env} {s : State} {m : MethodId} {args : Array Value} {below : List Frame} {meth : Method} {c : Code} {D : va_G} {cy : cyT} {z : Nat} (C : MX p s m args meth c cX11_gatherTwo 3 (none) RX11 (Cond.code yX11_gatherTwo cX11_gatherTwo 3 (none) :: GW)) (hst : l.stackTraces = false) (hxt : ∀ x ∈ c.exceptionTable.toList, False) (N : Nat) (n0 s0 : Nat) (hn0 : s.heap.size = n0) {r : (Unit ⊕ Nat)} {g : hS}  : ∀  (cells slots : Nat) (h : hS) (th : Nat) (x2 : Int32) (y0 : Option Nat) (y1 : Int32) (y2 : Option Nat) (H : Heap) (locs : List Loc) (ls : Array Slot), wd D cy z s cells h H locs → h_s h = s0 + slots → lv_has ls 3 [(0, .ref th), (2, .int x2)] → f_K_gatherTwo_18 N   h th x2 y0 y1 y2 = some (r, g) → W p l e { frames := 9, cells := h_x g - n0, slots := h_s g - s0, locals := 143 } s m args below meth c H locs cells slots (eT D cy z rV r g below args s (h_x g - n0) (h_s g - s0)) (F0 m 18 ls [va_rf y2, .int y1, va_rf y0]) := by
  obtain ⟨hx, hb, hr, hml, hown, hts, hlk⟩ := id C
  intro cells slots h th x2 y0 y1 y2 H locs ls w hsl hl hE
  have hcc : cells ≤ h_x g - n0 ∧ slots ≤ h_s g - s0 := by
    have q1 := mo_K_gatherTwo_18 N  h th x2 y0 y1 y2 _ _ hE
    have q2 := wd_x w
    have q3 := q1.1
    have q4 := q1.2.1
    omega
  unfold f_K_gatherTwo_18 at hE
  refine w_uR (kd := 63) (t0 := 7) (ci := 3) (r := y0) (v := y2) C w rfl (by decide) rfl (by decide) dX11_gatherTwo_18 hE (fun h1 H locs w hsh1 e1 => ?_)
  have hsl := hsh1.2.2.2.trans hsl
  refine lv_aload_n hx hb dX11_gatherTwo_19 rfl (lv_at hl 0 rfl) ?_
  refine w_gR (r := some th) (ci := 12) (k := 14) C w rfl (by decide) (GF_wsX110 _) (by decide) rfl (List.mem_cons_of_mem _ gw_2_20) rfl dX11_gatherTwo_20 e1 (fun v2 e2 => ?_)
  refine lv_iconst (v := 1) hx hb dX11_gatherTwo_23 (by decide) ?_
  refine lv_aload_n hx hb dX11_gatherTwo_24 rfl (lv_at hl 0 rfl) ?_
  refine lv_iload_n hx hb dX11_gatherTwo_25 rfl (lv_at hl 1 rfl) ?_
  refine w_VTR GW_good (n := 1) (F := 8) (Lc := 122) (ob := some th) (av := [.int x2]) (rest := [.int (1 : Int32), va_rf v2]) hxt hn0 hsl C w rfl (by decide) (fun a r g hf => k_K_curveOf l hst D cy z N h1 a x2 r g hf) gw_16_2 gw_16_3 gw_16_4 gw_1_2 gw_16_5 (by decide +kernel) ⟨Nat.le_of_ble_eq_true rfl, Nat.le_of_ble_eq_true rfl⟩ rfl hl.1 rfl (cat_le (Nat.le_of_ble_eq_true rfl)) dX11_gatherTwo_26 (fun a => (mo_K_curveOf N h1 a x2)) (fun v3 h4 => mo_K_gatherTwo_29 N   h4 v2 (1 : Int32) v3) e2 (fun v3 h4 H locs w hsh4 e3 => ?_)
  exact b_K_gatherTwo_29 C hst hxt N n0 s0 hn0   _ _ h4 v2 (1 : Int32) v3 _ _ ls w (by have u5 := hsh4.2.1; have u8 := hsl; omega) (lv_sub hl [] rfl) e3
set_option maxRecDepth 20000 in
set_option maxHeartbeats 4000000 in
theorem b_K_gatherTwo_8 {p : Program} {l : Launch} {e : Env} {s : State} {m : MethodId} {args : Array Value} {below : List Frame} {meth : Method} {c : Code} {D : va_G} {cy : cyT} {z : Nat} (C : MX p s m args meth c cX11_gatherTwo 3 (none) RX11 (Cond.code yX11_gatherTwo cX11_gatherTwo 3 (none) :: GW)) (hst : l.stackTraces = false) (hxt : ∀ x ∈ c.exceptionTable.toList, False) (N : Nat) (n0 s0 : Nat) (hn0 : s.heap.size = n0) {r : (Unit ⊕ Nat)} {g : hS}  : ∀  (cells slots : Nat) (h : hS) (th : Nat) (x1 : Int32) (x2 : Int32) (H : Heap) (locs : List Loc) (ls : Array Slot), wd D cy z s cells h H locs → h_s h = s0 + slots → lv_has ls 3 [(0, .ref th), (1, .int x1), (2, .int x2)] → f_K_gatherTwo_8 N   h th x1 x2 = some (r, g) → W p l e { frames := 9, cells := h_x g - n0, slots := h_s g - s0, locals := 143 } s m args below meth c H locs cells slots (eT D cy z rV r g below args s (h_x g - n0) (h_s g - s0)) (F0 m 8 ls []) := by
  obtain ⟨hx, hb, hr, hml, hown, hts, hlk⟩ := id C
  intro cells slots h th x1 x2 H locs ls w hsl hl hE
  have hcc : cells ≤ h_x g - n0 ∧ slots ≤ h_s g - s0 := by
    have q1 := mo_K_gatherTwo_8 N  h th x1 x2 _ _ hE
    have q2 := wd_x w
    have q3 := q1.1
    have q4 := q1.2.1
    omega
  unfold f_K_gatherTwo_8 at hE
  refine lv_aload_n hx hb dX11_gatherTwo_8 rfl (lv_at hl 0 rfl) ?_
  refine w_gR (r := some th) (ci := 12) (k := 14) C w rfl (by decide) (GF_wsX110 _) (by decide) rfl (List.mem_cons_of_mem _ gw_2_20) rfl dX11_gatherTwo_9 hE (fun v1 e1 => ?_)
  refine lv_iconst (v := 0) hx hb dX11_gatherTwo_12 (by decide) ?_
  refine lv_aload_n hx hb dX11_gatherTwo_13 rfl (lv_at hl 0 rfl) ?_
  refine lv_iload_n hx hb dX11_gatherTwo_14 rfl (lv_at hl 1 rfl) ?_
  refine w_VTR GW_good (n := 1) (F := 8) (Lc := 122) (ob := some th) (av := [.int x1]) (rest := [.int (0 : Int32), va_rf v1]) hxt hn0 hsl C w rfl (by decide) (fun a r g hf => k_K_curveOf l hst D cy z N h a x1 r g hf) gw_16_2 gw_16_3 gw_16_4 gw_1_2 gw_16_5 (by decide +kernel) ⟨Nat.le_of_ble_eq_true rfl, Nat.le_of_ble_eq_true rfl⟩ rfl hl.1 rfl (cat_le (Nat.le_of_ble_eq_true rfl)) dX11_gatherTwo_15 (fun a => (mo_K_curveOf N h a x1)) (fun v2 h3 => mo_K_gatherTwo_18 N   h3 th x2 v1 (0 : Int32) v2) e1 (fun v2 h3 H locs w hsh3 e2 => ?_)
  exact b_K_gatherTwo_18 C hst hxt N n0 s0 hn0   _ _ h3 th x2 v1 (0 : Int32) v2 _ _ ls w (by have u5 := hsh3.2.1; have u8 := hsl; omega) (lv_sub hl [0, 2] rfl) e2
set_option maxRecDepth 20000 in
set_option maxHeartbeats 4000000 in
theorem b_K_gatherTwo_4 {p : Program} {l : Launch} {e : Env} {s : State} {m : MethodId} {args : Array Value} {below : List Frame} {meth : Method} {c : Code} {D : va_G} {cy : cyT} {z : Nat} (C : MX p s m args meth c cX11_gatherTwo 3 (none) RX11 (Cond.code yX11_gatherTwo cX11_gatherTwo 3 (none) :: GW)) (hst : l.stackTraces = false) (hxt : ∀ x ∈ c.exceptionTable.toList, False) (N : Nat) (n0 s0 : Nat) (hn0 : s.heap.size = n0) {r : (Unit ⊕ Nat)} {g : hS}  : ∀  (cells slots : Nat) (h : hS) (th : Nat) (x1 : Int32) (x2 : Int32) (H : Heap) (locs : List Loc) (ls : Array Slot), wd D cy z s cells h H locs → h_s h = s0 + slots → lv_has ls 3 [(0, .ref th), (1, .int x1), (2, .int x2)] → f_K_gatherTwo_4 N   h th x1 x2 = some (r, g) → W p l e { frames := 9, cells := h_x g - n0, slots := h_s g - s0, locals := 143 } s m args below meth c H locs cells slots (eT D cy z rV r g below args s (h_x g - n0) (h_s g - s0)) (F0 m 4 ls []) := by
  obtain ⟨hx, hb, hr, hml, hown, hts, hlk⟩ := id C
  intro cells slots h th x1 x2 H locs ls w hsl hl hE
  have hcc : cells ≤ h_x g - n0 ∧ slots ≤ h_s g - s0 := by
    have q1 := mo_K_gatherTwo_4 N  h th x1 x2 _ _ hE
    have q2 := wd_x w
    have q3 := q1.1
    have q4 := q1.2.1
    omega
  unfold f_K_gatherTwo_4 at hE
  refine lv_iload_n hx hb dX11_gatherTwo_4 rfl (lv_at hl 2 rfl) ?_
  refine w_STV GW_good (n := 1) (F := 7) (Lc := 102) (av := [.int x2]) (rest := []) hxt hn0 hsl C w (fun r g hf => k_K_needCost l hst D cy z N h x2 r g hf) gw_9_9 gw_9_10 gw_1_2 gw_9_11 (by decide +kernel) ⟨Nat.le_of_ble_eq_true rfl, Nat.le_of_ble_eq_true rfl⟩ rfl hl.1 rfl (Nat.le_of_ble_eq_true rfl) dX11_gatherTwo_5 (mo_K_needCost N h x2) (fun v1 h2 => mo_K_gatherTwo_8 N   h2 th x1 x2) hE (fun v1 h2 H locs w hsh2 e1 => ?_)
  exact b_K_gatherTwo_8 C hst hxt N n0 s0 hn0   _ _ h2 th x1 x2 _ _ ls w (by have u5 := hsh2.2.1; have u8 := hsl; omega) (lv_sub hl [0, 1, 2] rfl) e1
set_option maxRecDepth 20000 in
set_option maxHeartbeats 4000000 in
theorem k_K_gatherTwo (l : Launch) (hst : l.stackTraces = false) (D : va_G) (cy : cyT) (z : Nat) (N : Nat) (h : hS) (th : Nat) (x1 : Int32) (x2 : Int32) (r : (Unit ⊕ Nat)) (g : hS) (hE : f_K_gatherTwo N h th x1 x2 = some (r, g)) : ctT l yX11_gatherTwo (Cond.code yX11_gatherTwo cX11_gatherTwo 3 (none) :: GW) { frames := 9, cells := h_x g - h_x h, slots := h_s g - h_s h, locals := 143 } D cy z h [.ref th, .int x1, .int x2] rV r g := by
  refine ctT_of (cc := cX11_gatherTwo) (maxL := 3) (ret := none) (by decide) ?_
  intro p e s m args below meth c s₁ B hml hxt hv
  obtain ⟨rfl, hw⟩ := hv
  have C : MX p s m ([.ref th, .int x1, .int x2] : List Value).toArray meth c cX11_gatherTwo 3 (none) RX11 (Cond.code yX11_gatherTwo cX11_gatherTwo 3 (none) :: GW) := ⟨B.exec, B.bytes, B.returns, hml, findClass_of_methodNamed B.named, atoms_spec (ws := Cond.code yX11_gatherTwo cX11_gatherTwo 3 (none) :: GW) B.pre, B.notSynchronized⟩
  obtain ⟨hx, hb, hr, hml, hown, hts, hlk⟩ := id C
  have w := wd_of hw
  have hsl : h_s h = h_s h + 0 := rfl
  have hn0 : s.heap.size = h_x h := (wd_x w).1
  obtain ⟨ls, hen, hl⟩ : ∃ ls : Array Slot, entryFrame m ([.ref th, .int x1, .int x2] : List Value).toArray 3 = F0 m 0 ls [] ∧ lv_has ls 3 [(0, .ref th), (1, .int x1), (2, .int x2)] := by
    exact ⟨_, lg_entry_eq _ _ _, lv_entry _ (Nat.le_of_ble_eq_true rfl)⟩
  rw [hen]
  have hcc : 0 ≤ h_x g - h_x h ∧ 0 ≤ h_s g - h_s h := ⟨Nat.zero_le _, Nat.zero_le _⟩
  unfold f_K_gatherTwo at hE
  refine lv_iload_n hx hb dX11_gatherTwo_0 rfl (lv_at hl 1 rfl) ?_
  refine w_STV GW_good (n := 1) (F := 7) (Lc := 102) (av := [.int x1]) (rest := []) hxt hn0 hsl C w (fun r g hf => k_K_needCost l hst D cy z N h x1 r g hf) gw_9_9 gw_9_10 gw_1_2 gw_9_11 (by decide +kernel) ⟨Nat.le_of_ble_eq_true rfl, Nat.le_of_ble_eq_true rfl⟩ rfl hl.1 rfl (Nat.le_of_ble_eq_true rfl) dX11_gatherTwo_1 (mo_K_needCost N h x1) (fun v1 h2 => mo_K_gatherTwo_4 N   h2 th x1 x2) hE (fun v1 h2 H locs w hsh2 e1 => ?_)
  exact b_K_gatherTwo_4 C hst hxt N (h_x h) (h_s h) hn0   _ _ h2 th x1 x2 _ _ ls w (by have u5 := hsh2.2.1; have u8 := hsl; omega) (lv_sub hl [0, 1, 2] rfl) e1
set_option maxRecDepth 20000 in
set_option maxHeartbeats 4000000 in
theorem b_Mth_floorDiv_7cf53_21 {p : Program} {l : Launch} {e : Env} {s : State} {m : MethodId} {args : Array Value} {below : List Frame} {meth : Method} {c : Code} {D : va_G} {cy : cyT} {z : Nat} (C : MX p s m args meth c cJ9_floorDiv_7cf53 3 ((some .int)) RJ9 (Cond.code yJ9_floorDiv_7cf53 cJ9_floorDiv_7cf53 3 ((some .int)) :: GW)) (N : Nat) {r : Int32} {g : hS}  : ∀  (h : hS) (x2 : Int32) (H : Heap) (locs : List Loc) (ls : Array Slot), wd D cy z s 0 h H locs → lv_has ls 3 [(2, .int x2)] → f_Mth_floorDiv_7cf53_21 N   h x2 = some (r, g) → W p l e { frames := 0, cells := 0, slots := 0, locals := 0 } s m args below meth c H locs 0 0 (MQ below (eQ D cy z (rI r) g) args s 0 0 (fun q => z ≤ q)) (F0 m 21 ls []) := by
  obtain ⟨hx, hb, hr, hml, hown, hts, hlk⟩ := id C
  intro  h x2 H locs ls w  hl hE
  unfold f_Mth_floorDiv_7cf53_21 at hE
  refine lv_iload_n hx hb dJ9_floorDiv_7cf53_21 rfl (lv_at hl 0 rfl) ?_
  exact w_iret C w hE dJ9_floorDiv_7cf53_22
set_option maxRecDepth 20000 in
set_option maxHeartbeats 4000000 in
theorem k_Mth_floorDiv_7cf53 (l : Launch) (D : va_G) (cy : cyT) (z : Nat) (N : Nat) (h : hS) (x0 : Int32) (x1 : Int32) (r : Int32) (g : hS) (hE : f_Mth_floorDiv_7cf53 N h x0 x1 = some (r, g)) : ct l yJ9_floorDiv_7cf53 (Cond.code yJ9_floorDiv_7cf53 cJ9_floorDiv_7cf53 3 ((some .int)) :: GW) { frames := 0, cells := 0, slots := 0, locals := 0 } D cy z h [.int x0, .int x1] (rI r) g := by
  refine Met_ofF (cc := cJ9_floorDiv_7cf53) (maxL := 3) (ret := (some .int)) (by decide +kernel) rfl ?_
  intro p e s m args below meth c s₁ B hml hv
  obtain ⟨rfl, hw⟩ := hv
  have C : MX p s m ([.int x0, .int x1] : List Value).toArray meth c cJ9_floorDiv_7cf53 3 ((some .int)) RJ9 (Cond.code yJ9_floorDiv_7cf53 cJ9_floorDiv_7cf53 3 ((some .int)) :: GW) := ⟨B.exec, B.bytes, B.returns, hml, findClass_of_methodNamed B.named, atoms_spec (ws := Cond.code yJ9_floorDiv_7cf53 cJ9_floorDiv_7cf53 3 ((some .int)) :: GW) B.pre, B.notSynchronized⟩
  obtain ⟨hx, hb, hr, hml, hown, hts, hlk⟩ := id C
  have w := wd_of hw
  obtain ⟨ls, hen, hl⟩ : ∃ ls : Array Slot, entryFrame m ([.int x0, .int x1] : List Value).toArray 3 = F0 m 0 ls [] ∧ lv_has ls 3 [(0, .int x0), (1, .int x1)] := by
    exact ⟨_, lg_entry_eq _ _ _, lv_entry _ (Nat.le_of_ble_eq_true rfl)⟩
  rw [hen]
  unfold f_Mth_floorDiv_7cf53 at hE
  refine lv_iload_n hx hb dJ9_floorDiv_7cf53_0 rfl (lv_at hl 0 rfl) ?_
  refine lv_iload_n hx hb dJ9_floorDiv_7cf53_1 rfl (lv_at hl 1 rfl) ?_
  refine w_idiv C dJ9_floorDiv_7cf53_2 hE (fun e1 => ?_)
  refine w_bnI e1 (fun v1 e2 => ?_)
  refine lv_istore_n (lv' := [(2, .int v1), (0, .int x0), (1, .int x1)]) hx hb dJ9_floorDiv_7cf53_3 rfl hl (by decide) rfl (fun ls hl => ?_)
  refine lv_iload_n hx hb dJ9_floorDiv_7cf53_4 rfl (lv_at hl 1 rfl) ?_
  refine lv_iload_n hx hb dJ9_floorDiv_7cf53_5 rfl (lv_at hl 2 rfl) ?_
  refine lv_ixor hx hb dJ9_floorDiv_7cf53_6 ?_
  refine w_if_ge (tgt := 21) C dJ9_floorDiv_7cf53_7 (by decide) e2 (fun hc e3 => ?_) (fun hc e3 => ?_)
  · exact b_Mth_floorDiv_7cf53_21 C N     h v1 _ _ ls w  (lv_sub hl [0] rfl) e3
  · refine lv_iload_n hx hb dJ9_floorDiv_7cf53_10 rfl (lv_at hl 0 rfl) ?_
    refine lv_iload_n hx hb dJ9_floorDiv_7cf53_11 rfl (lv_at hl 2 rfl) ?_
    refine lv_imul hx hb dJ9_floorDiv_7cf53_12 ?_
    refine lv_iload_n hx hb dJ9_floorDiv_7cf53_13 rfl (lv_at hl 1 rfl) ?_
    refine w_icmp_eq (tgt := 21) C dJ9_floorDiv_7cf53_14 (by decide) e3 (fun hc e4 => ?_) (fun hc e4 => ?_)
    · exact b_Mth_floorDiv_7cf53_21 C N     h v1 _ _ ls w  (lv_sub hl [0] rfl) e4
    · refine lv_iload_n hx hb dJ9_floorDiv_7cf53_17 rfl (lv_at hl 0 rfl) ?_
      refine lv_iconst (v := 1) hx hb dJ9_floorDiv_7cf53_18 (by decide) ?_
      refine lv_isub hx hb dJ9_floorDiv_7cf53_19 ?_
      exact w_iret C w e4 dJ9_floorDiv_7cf53_20
set_option maxRecDepth 20000 in
set_option maxHeartbeats 4000000 in
theorem b_K_highEndsTogether_42 {p : Program} {l : Launch} {e : Env} {s : State} {m : MethodId} {args : Array Value} {below : List Frame} {meth : Method} {c : Code} {D : va_G} {cy : cyT} {z : Nat} (C : MX p s m args meth c cX11_highEndsTogether 6 ((some .long)) RX11 (Cond.code yX11_highEndsTogether cX11_highEndsTogether 6 ((some .long)) :: GW)) (N : Nat) {r : Int64} {g : hS}  : ∀  (h : hS) (x3 : Int64) (H : Heap) (locs : List Loc) (ls : Array Slot), wd D cy z s 0 h H locs → lv_has ls 6 [(3, .long x3)] → f_K_highEndsTogether_42 N   h x3 = some (r, g) → W p l e { frames := 3, cells := 0, slots := 0, locals := 65 } s m args below meth c H locs 0 0 (MQ below (eQ D cy z (rJ r) g) args s 0 0 (fun q => z ≤ q)) (F0 m 42 ls []) := by
  obtain ⟨hx, hb, hr, hml, hown, hts, hlk⟩ := id C
  intro  h x3 H locs ls w  hl hE
  unfold f_K_highEndsTogether_42 at hE
  refine lv_lload_n hx hb dX11_highEndsTogether_42 rfl (lv_at hl 0 rfl) ?_
  exact w_lret C w hE dX11_highEndsTogether_43
set_option maxRecDepth 20000 in
set_option maxHeartbeats 4000000 in
theorem b_K_highEndsTogether_5 {p : Program} {l : Launch} {e : Env} {s : State} {m : MethodId} {args : Array Value} {below : List Frame} {meth : Method} {c : Code} {D : va_G} {cy : cyT} {z : Nat} (C : MX p s m args meth c cX11_highEndsTogether 6 ((some .long)) RX11 (Cond.code yX11_highEndsTogether cX11_highEndsTogether 6 ((some .long)) :: GW)) (N : Nat) {r : Int64} {g : hS}  : ∀ (n : Nat) (h : hS) (th : Nat) (x1 : Int32) (x2 : Int32) (x3 : Int64) (x5 : Int32) (H : Heap) (locs : List Loc) (ls : Array Slot), wd D cy z s 0 h H locs → lv_has ls 6 [(0, .ref th), (1, .int x1), (2, .int x2), (3, .long x3), (5, .int x5)] → f_K_highEndsTogether_5 N  n h th x1 x2 x3 x5 = some (r, g) → W p l e { frames := 3, cells := 0, slots := 0, locals := 65 } s m args below meth c H locs 0 0 (MQ below (eQ D cy z (rJ r) g) args s 0 0 (fun q => z ≤ q)) (F0 m 5 ls []) := by
  obtain ⟨hx, hb, hr, hml, hown, hts, hlk⟩ := id C
  intro n
  induction n with
  | zero =>
    intro  h th x1 x2 x3 x5 H locs ls w  hl hE
    cases hE
  | succ n ih =>
    intro  h th x1 x2 x3 x5 H locs ls w  hl hE
    unfold f_K_highEndsTogether_5 at hE
    refine lv_iload hx hb dX11_highEndsTogether_5 (lv_at hl 4 rfl) ?_
    refine lv_iload_n hx hb dX11_highEndsTogether_7 rfl (lv_at hl 1 rfl) ?_
    refine w_icmp_ge (tgt := 42) C dX11_highEndsTogether_8 (by decide) hE (fun hc e1 => ?_) (fun hc e1 => ?_)
    · exact b_K_highEndsTogether_42 C N     h x3 _ _ ls w  (lv_sub hl [3] rfl) e1
    · refine lv_iload hx hb dX11_highEndsTogether_11 (lv_at hl 4 rfl) ?_
      refine lv_aload_n hx hb dX11_highEndsTogether_13 rfl (lv_at hl 0 rfl) ?_
      refine w_gR (r := some th) (ci := 12) (k := 14) C w rfl (by decide) (GF_wsX110 _) (by decide) rfl (List.mem_cons_of_mem _ gw_2_20) rfl dX11_highEndsTogether_14 e1 (fun v1 e2 => ?_)
      refine w_lenRq (kd := 63) (t0 := 7) (r := v1) C w rfl (by decide) dX11_highEndsTogether_17 e2 (fun v2 e3 => ?_)
      refine w_icmp_ge (tgt := 42) C dX11_highEndsTogether_18 (by decide) e3 (fun hc e4 => ?_) (fun hc e4 => ?_)
      · exact b_K_highEndsTogether_42 C N     h x3 _ _ ls w  (lv_sub hl [3] rfl) e4
      · refine lv_lload_n hx hb dX11_highEndsTogether_21 rfl (lv_at hl 3 rfl) ?_
        refine lv_aload_n hx hb dX11_highEndsTogether_22 rfl (lv_at hl 0 rfl) ?_
        refine w_gR (r := some th) (ci := 12) (k := 14) C w rfl (by decide) (GF_wsX110 _) (by decide) rfl (List.mem_cons_of_mem _ gw_2_20) rfl dX11_highEndsTogether_23 e4 (fun v3 e5 => ?_)
        refine lv_iload hx hb dX11_highEndsTogether_26 (lv_at hl 4 rfl) ?_
        refine w_aRq (kd := 63) (t0 := 7) (r := v3) C w rfl (by decide) dX11_highEndsTogether_28 e5 (fun v4 e6 => ?_)
        refine lv_iload_n hx hb dX11_highEndsTogether_29 rfl (lv_at hl 2 rfl) ?_
        refine w_VI GW_good (n := 1) (F := 2) (Lc := 44) (o := v4) (av := [.int x2]) (rest := [.long x3]) C w rfl (by decide) (fun a r g hf => k_Curve_highEnd l D cy z N h a x2 r g hf) gw_36_19 gw_36_20 gw_36_21 gw_2_22 gw_36_22 (by decide +kernel) ⟨Nat.le_of_ble_eq_true rfl, Nat.le_of_ble_eq_true rfl⟩ rfl hl.1 rfl (Nat.le_of_ble_eq_true rfl) dX11_highEndsTogether_30 (fun a => (sh_Curve_highEnd N h a x2)) ⟨by decide, by decide⟩ e6 (fun v5 h6 H locs w hsh6 e7 => ?_)
        refine lv_i2l hx hb dX11_highEndsTogether_33 rfl ?_
        refine lv_ladd hx hb dX11_highEndsTogether_34 ?_
        refine w_bnJ e7 (fun v7 e8 => ?_)
        refine lv_lstore_n (lv' := [(3, .long v7), (0, .ref th), (1, .int x1), (2, .int x2), (5, .int x5)]) hx hb dX11_highEndsTogether_35 rfl hl (by decide) rfl (fun ls hl => ?_)
        obtain ⟨v8, ev8, e9⟩ := bn_some e8
        refine lv_iinc (v := v8) (lv' := [(5, .int v8), (3, .long v7), (0, .ref th), (1, .int x1), (2, .int x2)]) hx hb dX11_highEndsTogether_36 hl (k := 4) rfl (by rw [ev8]; rfl) (by decide) rfl (fun ls hl => ?_)
        refine lv_goto (tgt := 5) hx hb dX11_highEndsTogether_39 (by decide) ?_
        exact ih  h6 th x1 x2 v7 v8 _ _ ls w  (lv_sub hl [2, 3, 4, 1, 0] rfl) e9
set_option maxRecDepth 20000 in
set_option maxHeartbeats 4000000 in
theorem k_K_highEndsTogether (l : Launch) (D : va_G) (cy : cyT) (z : Nat) (N : Nat) (h : hS) (th : Nat) (x1 : Int32) (x2 : Int32) (r : Int64) (g : hS) (hE : f_K_highEndsTogether N h th x1 x2 = some (r, g)) : ct l yX11_highEndsTogether (Cond.code yX11_highEndsTogether cX11_highEndsTogether 6 ((some .long)) :: GW) { frames := 3, cells := 0, slots := 0, locals := 65 } D cy z h [.ref th, .int x1, .int x2] (rJ r) g := by
  refine Met.ofW (cc := cX11_highEndsTogether) (maxL := 6) (ret := (some .long)) (by decide) rfl ?_
  intro p e s m args below meth c s₁ B hml hv
  obtain ⟨rfl, hw⟩ := hv
  have C : MX p s m ([.ref th, .int x1, .int x2] : List Value).toArray meth c cX11_highEndsTogether 6 ((some .long)) RX11 (Cond.code yX11_highEndsTogether cX11_highEndsTogether 6 ((some .long)) :: GW) := ⟨B.exec, B.bytes, B.returns, hml, findClass_of_methodNamed B.named, atoms_spec (ws := Cond.code yX11_highEndsTogether cX11_highEndsTogether 6 ((some .long)) :: GW) B.pre, B.notSynchronized⟩
  obtain ⟨hx, hb, hr, hml, hown, hts, hlk⟩ := id C
  have w := wd_of hw
  obtain ⟨ls, hen, hl⟩ : ∃ ls : Array Slot, entryFrame m ([.ref th, .int x1, .int x2] : List Value).toArray 6 = F0 m 0 ls [] ∧ lv_has ls 6 [(0, .ref th), (1, .int x1), (2, .int x2)] := by
    exact ⟨_, lg_entry_eq _ _ _, lv_entry _ (Nat.le_of_ble_eq_true rfl)⟩
  rw [hen]
  unfold f_K_highEndsTogether at hE
  refine lv_lconst (v := 0) hx hb dX11_highEndsTogether_0 (by decide) ?_
  refine lv_lstore_n (lv' := [(3, .long (0 : Int64)), (0, .ref th), (1, .int x1), (2, .int x2)]) hx hb dX11_highEndsTogether_1 rfl hl (by decide) rfl (fun ls hl => ?_)
  refine lv_iconst (v := 0) hx hb dX11_highEndsTogether_2 (by decide) ?_
  refine lv_istore (lv' := [(5, .int (0 : Int32)), (3, .long (0 : Int64)), (0, .ref th), (1, .int x1), (2, .int x2)]) hx hb dX11_highEndsTogether_3 hl (by decide) rfl (fun ls hl => ?_)
  exact b_K_highEndsTogether_5 C N   N  h th x1 x2 (0 : Int64) (0 : Int32) _ _ ls w  (lv_sub hl [2, 3, 4, 1, 0] rfl) hE
set_option maxRecDepth 20000 in
set_option maxHeartbeats 4000000 in
theorem b_K_commonSlope_135 {p : Program} {l : Launch} {e : Env} {s : State} {m : MethodId} {args : Array Value} {below : List Frame} {meth : Method} {c : Code} {D : va_G} {cy : cyT} {z : Nat} (C : MX p s m args meth c cX11_commonSlope 7 ((some .int)) RX11 (Cond.code yX11_commonSlope cX11_commonSlope 7 ((some .int)) :: GW)) (N : Nat) {r : Int32} {g : hS}  : ∀  (h : hS) (x3 : Int32) (H : Heap) (locs : List Loc) (ls : Array Slot), wd D cy z s 0 h H locs → lv_has ls 7 [(3, .int x3)] → f_K_commonSlope_135 N   h x3 = some (r, g) → W p l e { frames := 4, cells := 0, slots := 0, locals := 90 } s m args below meth c H locs 0 0 (MQ below (eQ D cy z (rI r) g) args s 0 0 (fun q => z ≤ q)) (F0 m 135 ls []) := by
  obtain ⟨hx, hb, hr, hml, hown, hts, hlk⟩ := id C
  intro  h x3 H locs ls w  hl hE
  unfold f_K_commonSlope_135 at hE
  refine lv_iload_n hx hb dX11_commonSlope_135 rfl (lv_at hl 0 rfl) ?_
  exact w_iret C w hE dX11_commonSlope_136
set_option maxRecDepth 20000 in
set_option maxHeartbeats 4000000 in
theorem b_K_commonSlope_129 {p : Program} {l : Launch} {e : Env} {s : State} {m : MethodId} {args : Array Value} {below : List Frame} {meth : Method} {c : Code} {D : va_G} {cy : cyT} {z : Nat} (C : MX p s m args meth c cX11_commonSlope 7 ((some .int)) RX11 (Cond.code yX11_commonSlope cX11_commonSlope 7 ((some .int)) :: GW)) (N : Nat) {r : Int32} {g : hS} {rc81 : hS → Nat → Int32 → Int32 → Int32 → Int32 → Int32 → Option (Int32 × hS)}  (hrc81 : ∀ (h : hS) (th : Nat) (x1 : Int32) (x2 : Int32) (x3 : Int32) (x4 : Int32) (x5 : Int32) (H : Heap) (locs : List Loc) (ls : Array Slot), wd D cy z s 0 h H locs → lv_has ls 7 [(0, .ref th), (1, .int x1), (2, .int x2), (3, .int x3), (4, .int x4), (5, .int x5)] → rc81 h th x1 x2 x3 x4 x5 = some (r, g) → W p l e { frames := 4, cells := 0, slots := 0, locals := 90 } s m args below meth c H locs 0 0 (MQ below (eQ D cy z (rI r) g) args s 0 0 (fun q => z ≤ q)) (F0 m 81 ls [])) : ∀  (h : hS) (th : Nat) (x1 : Int32) (x2 : Int32) (x3 : Int32) (x4 : Int32) (x5 : Int32) (H : Heap) (locs : List Loc) (ls : Array Slot), wd D cy z s 0 h H locs → lv_has ls 7 [(0, .ref th), (1, .int x1), (2, .int x2), (3, .int x3), (4, .int x4), (5, .int x5)] → f_K_commonSlope_129 N rc81  h th x1 x2 x3 x4 x5 = some (r, g) → W p l e { frames := 4, cells := 0, slots := 0, locals := 90 } s m args below meth c H locs 0 0 (MQ below (eQ D cy z (rI r) g) args s 0 0 (fun q => z ≤ q)) (F0 m 129 ls []) := by
  obtain ⟨hx, hb, hr, hml, hown, hts, hlk⟩ := id C
  intro  h th x1 x2 x3 x4 x5 H locs ls w  hl hE
  unfold f_K_commonSlope_129 at hE
  obtain ⟨v1, ev1, e1⟩ := bn_some hE
  refine lv_iinc (v := v1) (lv' := [(5, .int v1), (0, .ref th), (1, .int x1), (2, .int x2), (3, .int x3), (4, .int x4)]) hx hb dX11_commonSlope_129 hl (k := 5) rfl (by rw [ev1]; rfl) (by decide) rfl (fun ls hl => ?_)
  refine lv_goto (tgt := 81) hx hb dX11_commonSlope_132 (by decide) ?_
  exact hrc81  h th x1 x2 x3 x4 v1 _ _ ls w  (lv_sub hl [1, 2, 3, 4, 5, 0] rfl) e1
set_option maxRecDepth 20000 in
set_option maxHeartbeats 4000000 in
theorem b_K_commonSlope_81 {p : Program} {l : Launch} {e : Env} {s : State} {m : MethodId} {args : Array Value} {below : List Frame} {meth : Method} {c : Code} {D : va_G} {cy : cyT} {z : Nat} (C : MX p s m args meth c cX11_commonSlope 7 ((some .int)) RX11 (Cond.code yX11_commonSlope cX11_commonSlope 7 ((some .int)) :: GW)) (N : Nat) {r : Int32} {g : hS}  : ∀ (n : Nat) (h : hS) (th : Nat) (x1 : Int32) (x2 : Int32) (x3 : Int32) (x4 : Int32) (x5 : Int32) (H : Heap) (locs : List Loc) (ls : Array Slot), wd D cy z s 0 h H locs → lv_has ls 7 [(0, .ref th), (1, .int x1), (2, .int x2), (3, .int x3), (4, .int x4), (5, .int x5)] → f_K_commonSlope_81 N  n h th x1 x2 x3 x4 x5 = some (r, g) → W p l e { frames := 4, cells := 0, slots := 0, locals := 90 } s m args below meth c H locs 0 0 (MQ below (eQ D cy z (rI r) g) args s 0 0 (fun q => z ≤ q)) (F0 m 81 ls []) := by
  obtain ⟨hx, hb, hr, hml, hown, hts, hlk⟩ := id C
  intro n
  induction n with
  | zero =>
    intro  h th x1 x2 x3 x4 x5 H locs ls w  hl hE
    cases hE
  | succ n ih =>
    intro  h th x1 x2 x3 x4 x5 H locs ls w  hl hE
    unfold f_K_commonSlope_81 at hE
    refine lv_iload hx hb dX11_commonSlope_81 (lv_at hl 5 rfl) ?_
    refine lv_bipush (v := 32) hx hb dX11_commonSlope_83 (by decide) ?_
    refine w_icmp_ge (tgt := 135) C dX11_commonSlope_85 (by decide) hE (fun hc e1 => ?_) (fun hc e1 => ?_)
    · exact b_K_commonSlope_135 C N     h x3 _ _ ls w  (lv_sub hl [3] rfl) e1
    · refine lv_iload_n hx hb dX11_commonSlope_88 rfl (lv_at hl 3 rfl) ?_
      refine lv_iload hx hb dX11_commonSlope_89 (lv_at hl 4 rfl) ?_
      refine w_icmp_ge (tgt := 135) C dX11_commonSlope_91 (by decide) e1 (fun hc e2 => ?_) (fun hc e2 => ?_)
      · exact b_K_commonSlope_135 C N     h x3 _ _ ls w  (lv_sub hl [3] rfl) e2
      · refine lv_iload_n hx hb dX11_commonSlope_94 rfl (lv_at hl 3 rfl) ?_
        refine lv_iload hx hb dX11_commonSlope_95 (lv_at hl 4 rfl) ?_
        refine lv_iadd hx hb dX11_commonSlope_97 ?_
        refine lv_iconst (v := 2) hx hb dX11_commonSlope_98 (by decide) ?_
        refine w_SI GW_good (n := 2) (F := 0) (Lc := 0) (av := [.int (x3 + x4), .int (2 : Int32)]) (rest := []) C w (fun r g hf => k_Mth_floorDiv_7cf53 l D cy z N h (x3 + x4) (2 : Int32) r g hf) gw_43_7 gw_43_8 gw_43_9 gw_43_10 (by decide +kernel) ⟨Nat.le_of_ble_eq_true rfl, Nat.le_of_ble_eq_true rfl⟩ rfl hl.1 rfl (Nat.le_of_ble_eq_true rfl) dX11_commonSlope_99 (sh_Mth_floorDiv_7cf53 N h (x3 + x4) (2 : Int32)) ⟨by decide, by decide⟩ e2 (fun v1 h2 H locs w hsh2 e3 => ?_)
        refine lv_istore (lv' := [(6, .int v1), (0, .ref th), (1, .int x1), (2, .int x2), (3, .int x3), (4, .int x4), (5, .int x5)]) hx hb dX11_commonSlope_102 hl (by decide) rfl (fun ls hl => ?_)
        refine lv_aload_n hx hb dX11_commonSlope_104 rfl (lv_at hl 1 rfl) ?_
        refine lv_iload_n hx hb dX11_commonSlope_105 rfl (lv_at hl 2 rfl) ?_
        refine lv_iload hx hb dX11_commonSlope_106 (lv_at hl 0 rfl) ?_
        refine w_VJ GW_good (n := 2) (F := 3) (Lc := 65) (o := some th) (av := [.int x1, .int v1]) (rest := []) C w rfl (by decide) (fun a r g hf => k_K_highEndsTogether l D cy z N h2 a x1 v1 r g hf) gw_43_11 gw_43_12 gw_43_13 gw_1_2 gw_43_14 (by decide +kernel) ⟨Nat.le_of_ble_eq_true rfl, Nat.le_of_ble_eq_true rfl⟩ rfl hl.1 rfl (Nat.le_of_ble_eq_true rfl) dX11_commonSlope_108 (fun a => (sh_K_highEndsTogether N h2 a x1 v1)) ⟨by decide, by decide⟩ e3 (fun v3 h4 H locs w hsh4 e4 => ?_)
        refine lv_iload_n hx hb dX11_commonSlope_111 rfl (lv_at hl 3 rfl) ?_
        refine lv_i2l hx hb dX11_commonSlope_112 rfl ?_
        refine W.lcmp hx hb dX11_commonSlope_113 ?_
        refine w_if_lt (tgt := 124) C dX11_commonSlope_114 (by decide) e4 (fun hc e5 => ?_) (fun hc e5 => ?_)
        · refine lv_iload hx hb dX11_commonSlope_124 (lv_at hl 0 rfl) ?_
          refine lv_iconst (v := 1) hx hb dX11_commonSlope_126 (by decide) ?_
          refine lv_iadd hx hb dX11_commonSlope_127 ?_
          refine w_bnI e5 (fun v5 e6 => ?_)
          refine lv_istore_n (lv' := [(3, .int v5), (6, .int v1), (0, .ref th), (1, .int x1), (2, .int x2), (4, .int x4), (5, .int x5)]) hx hb dX11_commonSlope_128 rfl hl (by decide) rfl (fun ls hl => ?_)
          exact b_K_commonSlope_129 C N  ih   h4 th x1 x2 v5 x4 x5 _ _ ls w  (lv_sub hl [2, 3, 4, 0, 5, 6] rfl) e6
        · refine lv_iload hx hb dX11_commonSlope_117 (lv_at hl 0 rfl) ?_
          refine lv_istore (lv' := [(4, .int v1), (6, .int v1), (0, .ref th), (1, .int x1), (2, .int x2), (3, .int x3), (5, .int x5)]) hx hb dX11_commonSlope_119 hl (by decide) rfl (fun ls hl => ?_)
          refine lv_goto (tgt := 129) hx hb dX11_commonSlope_121 (by decide) ?_
          exact b_K_commonSlope_129 C N  ih   h4 th x1 x2 x3 v1 x5 _ _ ls w  (lv_sub hl [2, 3, 4, 5, 0, 6] rfl) e5
set_option maxRecDepth 20000 in
set_option maxHeartbeats 4000000 in
theorem b_K_commonSlope_78 {p : Program} {l : Launch} {e : Env} {s : State} {m : MethodId} {args : Array Value} {below : List Frame} {meth : Method} {c : Code} {D : va_G} {cy : cyT} {z : Nat} (C : MX p s m args meth c cX11_commonSlope 7 ((some .int)) RX11 (Cond.code yX11_commonSlope cX11_commonSlope 7 ((some .int)) :: GW)) (N : Nat) {r : Int32} {g : hS}  : ∀  (h : hS) (th : Nat) (x1 : Int32) (x2 : Int32) (x3 : Int32) (x4 : Int32) (H : Heap) (locs : List Loc) (ls : Array Slot), wd D cy z s 0 h H locs → lv_has ls 7 [(0, .ref th), (1, .int x1), (2, .int x2), (3, .int x3), (4, .int x4)] → f_K_commonSlope_78 N   h th x1 x2 x3 x4 = some (r, g) → W p l e { frames := 4, cells := 0, slots := 0, locals := 90 } s m args below meth c H locs 0 0 (MQ below (eQ D cy z (rI r) g) args s 0 0 (fun q => z ≤ q)) (F0 m 78 ls []) := by
  obtain ⟨hx, hb, hr, hml, hown, hts, hlk⟩ := id C
  intro  h th x1 x2 x3 x4 H locs ls w  hl hE
  unfold f_K_commonSlope_78 at hE
  refine lv_iconst (v := 0) hx hb dX11_commonSlope_78 (by decide) ?_
  refine lv_istore (lv' := [(5, .int (0 : Int32)), (0, .ref th), (1, .int x1), (2, .int x2), (3, .int x3), (4, .int x4)]) hx hb dX11_commonSlope_79 hl (by decide) rfl (fun ls hl => ?_)
  exact b_K_commonSlope_81 C N   N  h th x1 x2 x3 x4 (0 : Int32) _ _ ls w  (lv_sub hl [1, 2, 3, 4, 5, 0] rfl) hE
set_option maxRecDepth 20000 in
set_option maxHeartbeats 4000000 in
theorem b_K_commonSlope_12 {p : Program} {l : Launch} {e : Env} {s : State} {m : MethodId} {args : Array Value} {below : List Frame} {meth : Method} {c : Code} {D : va_G} {cy : cyT} {z : Nat} (C : MX p s m args meth c cX11_commonSlope 7 ((some .int)) RX11 (Cond.code yX11_commonSlope cX11_commonSlope 7 ((some .int)) :: GW)) (N : Nat) {r : Int32} {g : hS}  : ∀ (n : Nat) (h : hS) (th : Nat) (x1 : Int32) (x2 : Int32) (x3 : Int32) (x4 : Int32) (x5 : Int32) (H : Heap) (locs : List Loc) (ls : Array Slot), wd D cy z s 0 h H locs → lv_has ls 7 [(0, .ref th), (1, .int x1), (2, .int x2), (3, .int x3), (4, .int x4), (5, .int x5)] → f_K_commonSlope_12 N  n h th x1 x2 x3 x4 x5 = some (r, g) → W p l e { frames := 4, cells := 0, slots := 0, locals := 90 } s m args below meth c H locs 0 0 (MQ below (eQ D cy z (rI r) g) args s 0 0 (fun q => z ≤ q)) (F0 m 12 ls []) := by
  obtain ⟨hx, hb, hr, hml, hown, hts, hlk⟩ := id C
  intro n
  induction n with
  | zero =>
    intro  h th x1 x2 x3 x4 x5 H locs ls w  hl hE
    cases hE
  | succ n ih =>
    intro  h th x1 x2 x3 x4 x5 H locs ls w  hl hE
    unfold f_K_commonSlope_12 at hE
    refine lv_iload hx hb dX11_commonSlope_12 (lv_at hl 5 rfl) ?_
    refine lv_iload_n hx hb dX11_commonSlope_14 rfl (lv_at hl 1 rfl) ?_
    refine w_icmp_ge (tgt := 78) C dX11_commonSlope_15 (by decide) hE (fun hc e1 => ?_) (fun hc e1 => ?_)
    · exact b_K_commonSlope_78 C N     h th x1 x2 x3 x4 _ _ ls w  (lv_sub hl [0, 1, 2, 3, 4] rfl) e1
    · refine lv_iload hx hb dX11_commonSlope_18 (lv_at hl 5 rfl) ?_
      refine lv_aload_n hx hb dX11_commonSlope_20 rfl (lv_at hl 0 rfl) ?_
      refine w_gR (r := some th) (ci := 12) (k := 14) C w rfl (by decide) (GF_wsX110 _) (by decide) rfl (List.mem_cons_of_mem _ gw_2_20) rfl dX11_commonSlope_21 e1 (fun v1 e2 => ?_)
      refine w_lenRq (kd := 63) (t0 := 7) (r := v1) C w rfl (by decide) dX11_commonSlope_24 e2 (fun v2 e3 => ?_)
      refine w_icmp_ge (tgt := 78) C dX11_commonSlope_25 (by decide) e3 (fun hc e4 => ?_) (fun hc e4 => ?_)
      · exact b_K_commonSlope_78 C N     h th x1 x2 x3 x4 _ _ ls w  (lv_sub hl [0, 1, 2, 3, 4] rfl) e4
      · refine lv_iload_n hx hb dX11_commonSlope_28 rfl (lv_at hl 3 rfl) ?_
        refine lv_aload_n hx hb dX11_commonSlope_29 rfl (lv_at hl 0 rfl) ?_
        refine w_gR (r := some th) (ci := 12) (k := 14) C w rfl (by decide) (GF_wsX110 _) (by decide) rfl (List.mem_cons_of_mem _ gw_2_20) rfl dX11_commonSlope_30 e4 (fun v3 e5 => ?_)
        refine lv_iload hx hb dX11_commonSlope_33 (lv_at hl 5 rfl) ?_
        refine w_aRq (kd := 63) (t0 := 7) (r := v3) C w rfl (by decide) dX11_commonSlope_35 e5 (fun v4 e6 => ?_)
        refine w_gI (r := v4) (ci := 3) (k := 2) C w rfl (by decide) (GF_wsX20 _) (by decide) rfl (List.mem_cons_of_mem _ gw_43_6) rfl dX11_commonSlope_36 e6 (fun v5 e7 => ?_)
        refine lv_ineg hx hb dX11_commonSlope_39 ?_
        refine w_mmax C hl.1 (List.mem_cons_of_mem _ gw_37_7) (List.mem_cons_of_mem _ gw_30_15) (List.mem_cons_of_mem _ gw_10_7) (List.mem_cons_of_mem _ gw_30_16) (Nat.le_of_ble_eq_true rfl) (Nat.le_of_ble_eq_true rfl) (by decide) (by decide) dX11_commonSlope_40 ?_
        refine w_bnI e7 (fun v6 e8 => ?_)
        refine lv_istore_n (lv' := [(3, .int v6), (0, .ref th), (1, .int x1), (2, .int x2), (4, .int x4), (5, .int x5)]) hx hb dX11_commonSlope_43 rfl hl (by decide) rfl (fun ls hl => ?_)
        refine lv_iload hx hb dX11_commonSlope_44 (lv_at hl 4 rfl) ?_
        refine lv_aload_n hx hb dX11_commonSlope_46 rfl (lv_at hl 1 rfl) ?_
        refine w_gR (r := some th) (ci := 12) (k := 14) C w rfl (by decide) (GF_wsX110 _) (by decide) rfl (List.mem_cons_of_mem _ gw_2_20) rfl dX11_commonSlope_47 e8 (fun v7 e9 => ?_)
        refine lv_iload hx hb dX11_commonSlope_50 (lv_at hl 5 rfl) ?_
        refine w_aRq (kd := 63) (t0 := 7) (r := v7) C w rfl (by decide) dX11_commonSlope_52 e9 (fun v8 e10 => ?_)
        refine w_gI (r := v8) (ci := 3) (k := 3) C w rfl (by decide) (GF_wsX20 _) (by decide) rfl (List.mem_cons_of_mem _ gw_35_23) rfl dX11_commonSlope_53 e10 (fun v9 e11 => ?_)
        refine lv_aload_n hx hb dX11_commonSlope_56 rfl (lv_at hl 1 rfl) ?_
        refine w_gR (r := some th) (ci := 12) (k := 14) C w rfl (by decide) (GF_wsX110 _) (by decide) rfl (List.mem_cons_of_mem _ gw_2_20) rfl dX11_commonSlope_57 e11 (fun v10 e12 => ?_)
        refine lv_iload hx hb dX11_commonSlope_60 (lv_at hl 5 rfl) ?_
        refine w_aRq (kd := 63) (t0 := 7) (r := v10) C w rfl (by decide) dX11_commonSlope_62 e12 (fun v11 e13 => ?_)
        refine w_gI (r := v11) (ci := 3) (k := 2) C w rfl (by decide) (GF_wsX20 _) (by decide) rfl (List.mem_cons_of_mem _ gw_43_6) rfl dX11_commonSlope_63 e13 (fun v12 e14 => ?_)
        refine lv_isub hx hb dX11_commonSlope_66 ?_
        refine w_mmin C hl.1 (List.mem_cons_of_mem _ gw_37_8) (List.mem_cons_of_mem _ gw_10_6) (List.mem_cons_of_mem _ gw_10_7) (List.mem_cons_of_mem _ gw_10_8) (Nat.le_of_ble_eq_true rfl) (Nat.le_of_ble_eq_true rfl) (by decide) (by decide) dX11_commonSlope_67 ?_
        refine w_bnI e14 (fun v13 e15 => ?_)
        refine lv_istore (lv' := [(4, .int v13), (3, .int v6), (0, .ref th), (1, .int x1), (2, .int x2), (5, .int x5)]) hx hb dX11_commonSlope_70 hl (by decide) rfl (fun ls hl => ?_)
        obtain ⟨v14, ev14, e16⟩ := bn_some e15
        refine lv_iinc (v := v14) (lv' := [(5, .int v14), (4, .int v13), (3, .int v6), (0, .ref th), (1, .int x1), (2, .int x2)]) hx hb dX11_commonSlope_72 hl (k := 5) rfl (by rw [ev14]; rfl) (by decide) rfl (fun ls hl => ?_)
        refine lv_goto (tgt := 12) hx hb dX11_commonSlope_75 (by decide) ?_
        exact ih  h th x1 x2 v6 v13 v14 _ _ ls w  (lv_sub hl [3, 4, 5, 2, 1, 0] rfl) e16
set_option maxRecDepth 20000 in
set_option maxHeartbeats 4000000 in
theorem k_K_commonSlope (l : Launch) (D : va_G) (cy : cyT) (z : Nat) (N : Nat) (h : hS) (th : Nat) (x1 : Int32) (x2 : Int32) (r : Int32) (g : hS) (hE : f_K_commonSlope N h th x1 x2 = some (r, g)) : ct l yX11_commonSlope (Cond.code yX11_commonSlope cX11_commonSlope 7 ((some .int)) :: GW) { frames := 4, cells := 0, slots := 0, locals := 90 } D cy z h [.ref th, .int x1, .int x2] (rI r) g := by
  refine Met.ofW (cc := cX11_commonSlope) (maxL := 7) (ret := (some .int)) (by decide) rfl ?_
  intro p e s m args below meth c s₁ B hml hv
  obtain ⟨rfl, hw⟩ := hv
  have C : MX p s m ([.ref th, .int x1, .int x2] : List Value).toArray meth c cX11_commonSlope 7 ((some .int)) RX11 (Cond.code yX11_commonSlope cX11_commonSlope 7 ((some .int)) :: GW) := ⟨B.exec, B.bytes, B.returns, hml, findClass_of_methodNamed B.named, atoms_spec (ws := Cond.code yX11_commonSlope cX11_commonSlope 7 ((some .int)) :: GW) B.pre, B.notSynchronized⟩
  obtain ⟨hx, hb, hr, hml, hown, hts, hlk⟩ := id C
  have w := wd_of hw
  obtain ⟨ls, hen, hl⟩ : ∃ ls : Array Slot, entryFrame m ([.ref th, .int x1, .int x2] : List Value).toArray 7 = F0 m 0 ls [] ∧ lv_has ls 7 [(0, .ref th), (1, .int x1), (2, .int x2)] := by
    exact ⟨_, lg_entry_eq _ _ _, lv_entry _ (Nat.le_of_ble_eq_true rfl)⟩
  rw [hen]
  unfold f_K_commonSlope at hE
  refine lv_sipush (v := -5000) hx hb dX11_commonSlope_0 (by decide) ?_
  refine lv_istore_n (lv' := [(3, .int (-5000 : Int32)), (0, .ref th), (1, .int x1), (2, .int x2)]) hx hb dX11_commonSlope_3 rfl hl (by decide) rfl (fun ls hl => ?_)
  refine lv_sipush (v := 5000) hx hb dX11_commonSlope_4 (by decide) ?_
  refine lv_istore (lv' := [(4, .int (5000 : Int32)), (3, .int (-5000 : Int32)), (0, .ref th), (1, .int x1), (2, .int x2)]) hx hb dX11_commonSlope_7 hl (by decide) rfl (fun ls hl => ?_)
  refine lv_iconst (v := 0) hx hb dX11_commonSlope_9 (by decide) ?_
  refine lv_istore (lv' := [(5, .int (0 : Int32)), (4, .int (5000 : Int32)), (3, .int (-5000 : Int32)), (0, .ref th), (1, .int x1), (2, .int x2)]) hx hb dX11_commonSlope_10 hl (by decide) rfl (fun ls hl => ?_)
  exact b_K_commonSlope_12 C N   N  h th x1 x2 (-5000 : Int32) (5000 : Int32) (0 : Int32) _ _ ls w  (lv_sub hl [3, 4, 5, 2, 1, 0] rfl) hE
set_option maxRecDepth 20000 in
set_option maxHeartbeats 4000000 in
theorem b_K_sharedValue_76 {p : Program} {l : Launch} {e : Env} {s : State} {m : MethodId} {args : Array Value} {below : List Frame} {meth : Method} {c : Code} {D : va_G} {cy : cyT} {z : Nat} (C : MX p s m args meth c cX11_sharedValue 9 ((some .long)) RX11 (Cond.code yX11_sharedValue cX11_sharedValue 9 ((some .long)) :: GW)) (N : Nat) {r : Int64} {g : hS}  : ∀  (h : hS) (x5 : Int64) (H : Heap) (locs : List Loc) (ls : Array Slot), wd D cy z s 0 h H locs → lv_has ls 9 [(5, .long x5)] → f_K_sharedValue_76 N   h x5 = some (r, g) → W p l e { frames := 5, cells := 0, slots := 0, locals := 116 } s m args below meth c H locs 0 0 (MQ below (eQ D cy z (rJ r) g) args s 0 0 (fun q => z ≤ q)) (F0 m 76 ls []) := by
  obtain ⟨hx, hb, hr, hml, hown, hts, hlk⟩ := id C
  intro  h x5 H locs ls w  hl hE
  unfold f_K_sharedValue_76 at hE
  refine lv_lload hx hb dX11_sharedValue_76 (lv_at hl 0 rfl) ?_
  exact w_lret C w hE dX11_sharedValue_78
set_option maxRecDepth 20000 in
set_option maxHeartbeats 4000000 in
theorem b_K_sharedValue_17 {p : Program} {l : Launch} {e : Env} {s : State} {m : MethodId} {args : Array Value} {below : List Frame} {meth : Method} {c : Code} {D : va_G} {cy : cyT} {z : Nat} (C : MX p s m args meth c cX11_sharedValue 9 ((some .long)) RX11 (Cond.code yX11_sharedValue cX11_sharedValue 9 ((some .long)) :: GW)) (N : Nat) {r : Int64} {g : hS}  : ∀ (n : Nat) (h : hS) (th : Nat) (x1 : Int32) (x3 : Int64) (x5 : Int64) (x7 : Int32) (H : Heap) (locs : List Loc) (ls : Array Slot), wd D cy z s 0 h H locs → lv_has ls 9 [(0, .ref th), (1, .int x1), (3, .long x3), (5, .long x5), (7, .int x7)] → f_K_sharedValue_17 N  n h th x1 x3 x5 x7 = some (r, g) → W p l e { frames := 5, cells := 0, slots := 0, locals := 116 } s m args below meth c H locs 0 0 (MQ below (eQ D cy z (rJ r) g) args s 0 0 (fun q => z ≤ q)) (F0 m 17 ls []) := by
  obtain ⟨hx, hb, hr, hml, hown, hts, hlk⟩ := id C
  intro n
  induction n with
  | zero =>
    intro  h th x1 x3 x5 x7 H locs ls w  hl hE
    cases hE
  | succ n ih =>
    intro  h th x1 x3 x5 x7 H locs ls w  hl hE
    unfold f_K_sharedValue_17 at hE
    refine lv_iload hx hb dX11_sharedValue_17 (lv_at hl 4 rfl) ?_
    refine lv_iload_n hx hb dX11_sharedValue_19 rfl (lv_at hl 1 rfl) ?_
    refine w_icmp_ge (tgt := 76) C dX11_sharedValue_20 (by decide) hE (fun hc e1 => ?_) (fun hc e1 => ?_)
    · exact b_K_sharedValue_76 C N     h x5 _ _ ls w  (lv_sub hl [3] rfl) e1
    · refine lv_iload hx hb dX11_sharedValue_23 (lv_at hl 4 rfl) ?_
      refine lv_aload_n hx hb dX11_sharedValue_25 rfl (lv_at hl 0 rfl) ?_
      refine w_gR (r := some th) (ci := 12) (k := 14) C w rfl (by decide) (GF_wsX110 _) (by decide) rfl (List.mem_cons_of_mem _ gw_2_20) rfl dX11_sharedValue_26 e1 (fun v1 e2 => ?_)
      refine w_lenRq (kd := 63) (t0 := 7) (r := v1) C w rfl (by decide) dX11_sharedValue_29 e2 (fun v2 e3 => ?_)
      refine w_icmp_ge (tgt := 76) C dX11_sharedValue_30 (by decide) e3 (fun hc e4 => ?_) (fun hc e4 => ?_)
      · exact b_K_sharedValue_76 C N     h x5 _ _ ls w  (lv_sub hl [3] rfl) e4
      · refine lv_aload_n hx hb dX11_sharedValue_33 rfl (lv_at hl 0 rfl) ?_
        refine w_gR (r := some th) (ci := 12) (k := 14) C w rfl (by decide) (GF_wsX110 _) (by decide) rfl (List.mem_cons_of_mem _ gw_2_20) rfl dX11_sharedValue_34 e4 (fun v3 e5 => ?_)
        refine lv_iload hx hb dX11_sharedValue_37 (lv_at hl 4 rfl) ?_
        refine w_aRq (kd := 63) (t0 := 7) (r := v3) C w rfl (by decide) dX11_sharedValue_39 e5 (fun v4 e6 => ?_)
        refine lv_lload_n hx hb dX11_sharedValue_40 rfl (lv_at hl 2 rfl) ?_
        refine lv_l2i hx hb dX11_sharedValue_41 rfl ?_
        refine w_VI GW_good (n := 1) (F := 3) (Lc := 66) (o := v4) (av := [.int x3.toInt32]) (rest := []) C w rfl (by decide) (fun a r g hf => k_Curve_nearestToZero l D cy z N h a x3.toInt32 r g hf) gw_36_23 gw_37_0 gw_37_1 gw_2_22 gw_37_2 (by decide +kernel) ⟨Nat.le_of_ble_eq_true rfl, Nat.le_of_ble_eq_true rfl⟩ rfl hl.1 rfl (Nat.le_of_ble_eq_true rfl) dX11_sharedValue_42 (fun a => (sh_Curve_nearestToZero N h a x3.toInt32)) ⟨by decide, by decide⟩ e6 (fun v5 h6 H locs w hsh6 e7 => ?_)
        refine lv_istore (lv' := [(8, .int v5), (0, .ref th), (1, .int x1), (3, .long x3), (5, .long x5), (7, .int x7)]) hx hb dX11_sharedValue_45 hl (by decide) rfl (fun ls hl => ?_)
        refine lv_lload hx hb dX11_sharedValue_47 (lv_at hl 4 rfl) ?_
        refine lv_aload_n hx hb dX11_sharedValue_49 rfl (lv_at hl 1 rfl) ?_
        refine w_gR (r := some th) (ci := 12) (k := 14) C w rfl (by decide) (GF_wsX110 _) (by decide) rfl (List.mem_cons_of_mem _ gw_2_20) rfl dX11_sharedValue_50 e7 (fun v7 e8 => ?_)
        refine lv_iload hx hb dX11_sharedValue_53 (lv_at hl 5 rfl) ?_
        refine w_aRq (kd := 63) (t0 := 7) (r := v7) C w rfl (by decide) dX11_sharedValue_55 e8 (fun v8 e9 => ?_)
        refine lv_iload hx hb dX11_sharedValue_56 (lv_at hl 0 rfl) ?_
        refine w_VJ GW_good (n := 1) (F := 1) (Lc := 44) (o := v8) (av := [.int v5]) (rest := [.long x5]) C w rfl (by decide) (fun a r g hf => k_Curve_valueAt l D cy z N h6 a v5 r g hf) gw_34_17 gw_22_1 gw_22_2 gw_2_22 gw_22_3 (by decide +kernel) ⟨Nat.le_of_ble_eq_true rfl, Nat.le_of_ble_eq_true rfl⟩ rfl hl.1 rfl (Nat.le_of_ble_eq_true rfl) dX11_sharedValue_58 (fun a => (sh_Curve_valueAt N h6 a v5)) ⟨by decide, by decide⟩ e9 (fun v9 h10 H locs w hsh10 e10 => ?_)
        refine lv_lload_n hx hb dX11_sharedValue_61 rfl (lv_at hl 3 rfl) ?_
        refine lv_iload hx hb dX11_sharedValue_62 (lv_at hl 0 rfl) ?_
        refine lv_i2l hx hb dX11_sharedValue_64 rfl ?_
        refine lv_lmul hx hb dX11_sharedValue_65 ?_
        refine lv_lsub hx hb dX11_sharedValue_66 ?_
        refine lv_ladd hx hb dX11_sharedValue_67 ?_
        refine w_bnJ e10 (fun v11 e11 => ?_)
        refine lv_lstore (lv' := [(5, .long v11), (8, .int v5), (0, .ref th), (1, .int x1), (3, .long x3), (7, .int x7)]) hx hb dX11_sharedValue_68 hl (by decide) rfl (fun ls hl => ?_)
        obtain ⟨v12, ev12, e12⟩ := bn_some e11
        refine lv_iinc (v := v12) (lv' := [(7, .int v12), (5, .long v11), (8, .int v5), (0, .ref th), (1, .int x1), (3, .long x3)]) hx hb dX11_sharedValue_70 hl (k := 5) rfl (by rw [ev12]; rfl) (by decide) rfl (fun ls hl => ?_)
        refine lv_goto (tgt := 17) hx hb dX11_sharedValue_73 (by decide) ?_
        exact ih  h10 th x1 x3 v11 v12 _ _ ls w  (lv_sub hl [3, 4, 5, 1, 0] rfl) e12
set_option maxRecDepth 20000 in
set_option maxHeartbeats 4000000 in
theorem k_K_sharedValue (l : Launch) (D : va_G) (cy : cyT) (z : Nat) (N : Nat) (h : hS) (th : Nat) (x1 : Int32) (x2 : Int32) (r : Int64) (g : hS) (hE : f_K_sharedValue N h th x1 x2 = some (r, g)) : ct l yX11_sharedValue (Cond.code yX11_sharedValue cX11_sharedValue 9 ((some .long)) :: GW) { frames := 5, cells := 0, slots := 0, locals := 116 } D cy z h [.ref th, .int x1, .int x2] (rJ r) g := by
  refine Met.ofW (cc := cX11_sharedValue) (maxL := 9) (ret := (some .long)) (by decide) rfl ?_
  intro p e s m args below meth c s₁ B hml hv
  obtain ⟨rfl, hw⟩ := hv
  have C : MX p s m ([.ref th, .int x1, .int x2] : List Value).toArray meth c cX11_sharedValue 9 ((some .long)) RX11 (Cond.code yX11_sharedValue cX11_sharedValue 9 ((some .long)) :: GW) := ⟨B.exec, B.bytes, B.returns, hml, findClass_of_methodNamed B.named, atoms_spec (ws := Cond.code yX11_sharedValue cX11_sharedValue 9 ((some .long)) :: GW) B.pre, B.notSynchronized⟩
  obtain ⟨hx, hb, hr, hml, hown, hts, hlk⟩ := id C
  have w := wd_of hw
  obtain ⟨ls, hen, hl⟩ : ∃ ls : Array Slot, entryFrame m ([.ref th, .int x1, .int x2] : List Value).toArray 9 = F0 m 0 ls [] ∧ lv_has ls 9 [(0, .ref th), (1, .int x1), (2, .int x2)] := by
    exact ⟨_, lg_entry_eq _ _ _, lv_entry _ (Nat.le_of_ble_eq_true rfl)⟩
  rw [hen]
  unfold f_K_sharedValue at hE
  refine lv_aload_n hx hb dX11_sharedValue_0 rfl (lv_at hl 0 rfl) ?_
  refine lv_iload_n hx hb dX11_sharedValue_1 rfl (lv_at hl 1 rfl) ?_
  refine lv_iload_n hx hb dX11_sharedValue_2 rfl (lv_at hl 2 rfl) ?_
  refine w_VI GW_good (n := 2) (F := 4) (Lc := 90) (o := some th) (av := [.int x1, .int x2]) (rest := []) C w rfl (by decide) (fun a r g hf => k_K_commonSlope l D cy z N h a x1 x2 r g hf) gw_43_2 gw_43_3 gw_43_4 gw_1_2 gw_43_5 (by decide +kernel) ⟨Nat.le_of_ble_eq_true rfl, Nat.le_of_ble_eq_true rfl⟩ rfl hl.1 rfl (Nat.le_of_ble_eq_true rfl) dX11_sharedValue_3 (fun a => (sh_K_commonSlope N h a x1 x2)) ⟨by decide, by decide⟩ hE (fun v1 h2 H locs w hsh2 e1 => ?_)
  refine lv_i2l hx hb dX11_sharedValue_6 rfl ?_
  refine w_bnJ e1 (fun v3 e2 => ?_)
  refine lv_lstore_n (lv' := [(3, .long v3), (0, .ref th), (1, .int x1), (2, .int x2)]) hx hb dX11_sharedValue_7 rfl hl (by decide) rfl (fun ls hl => ?_)
  refine lv_lload_n hx hb dX11_sharedValue_8 rfl (lv_at hl 0 rfl) ?_
  refine lv_iload_n hx hb dX11_sharedValue_9 rfl (lv_at hl 3 rfl) ?_
  refine lv_i2l hx hb dX11_sharedValue_10 rfl ?_
  refine lv_lmul hx hb dX11_sharedValue_11 ?_
  refine w_bnJ e2 (fun v4 e3 => ?_)
  refine lv_lstore (lv' := [(5, .long v4), (3, .long v3), (0, .ref th), (1, .int x1), (2, .int x2)]) hx hb dX11_sharedValue_12 hl (by decide) rfl (fun ls hl => ?_)
  refine lv_iconst (v := 0) hx hb dX11_sharedValue_14 (by decide) ?_
  refine lv_istore (lv' := [(7, .int (0 : Int32)), (5, .long v4), (3, .long v3), (0, .ref th), (1, .int x1), (2, .int x2)]) hx hb dX11_sharedValue_15 hl (by decide) rfl (fun ls hl => ?_)
  exact b_K_sharedValue_17 C N   N  h2 th x1 v3 v4 (0 : Int32) _ _ ls w  (lv_sub hl [3, 4, 2, 1, 0] rfl) e3
set_option maxRecDepth 20000 in
set_option maxHeartbeats 4000000 in
theorem b_K_split_10 {p : Program} {l : Launch} {e : Env} {s : State} {m : MethodId} {args : Array Value} {below : List Frame} {meth : Method} {c : Code} {D : va_G} {cy : cyT} {z : Nat} (C : MX p s m args meth c cX11_split 4 ((some .long)) RX11 (Cond.code yX11_split cX11_split 4 ((some .long)) :: GW)) (hst : l.stackTraces = false) (hxt : ∀ x ∈ c.exceptionTable.toList, False) (N : Nat) (n0 s0 : Nat) (hn0 : s.heap.size = n0) {r : (Int64 ⊕ Nat)} {g : hS}  : ∀  (cells slots : Nat) (h : hS) (th : Nat) (x3 : Int32) (H : Heap) (locs : List Loc) (ls : Array Slot), wd D cy z s cells h H locs → h_s h = s0 + slots → lv_has ls 4 [(0, .ref th), (3, .int x3)] → f_K_split_10 N   h th x3 = some (r, g) → W p l e { frames := 10, cells := h_x g - n0, slots := h_s g - s0, locals := 165 } s m args below meth c H locs cells slots (eT D cy z rJ r g below args s (h_x g - n0) (h_s g - s0)) (F0 m 10 ls []) := by
  obtain ⟨hx, hb, hr, hml, hown, hts, hlk⟩ := id C
  intro cells slots h th x3 H locs ls w hsl hl hE
  have hcc : cells ≤ h_x g - n0 ∧ slots ≤ h_s g - s0 := by
    have q1 := mo_K_split_10 N  h th x3 _ _ hE
    have q2 := wd_x w
    have q3 := q1.1
    have q4 := q1.2.1
    omega
  unfold f_K_split_10 at hE
  refine lv_aload_n hx hb dX11_split_10 rfl (lv_at hl 0 rfl) ?_
  refine lv_iconst (v := 2) hx hb dX11_split_11 (by decide) ?_
  refine lv_iload_n hx hb dX11_split_12 rfl (lv_at hl 1 rfl) ?_
  refine w_VJ GW_good (n := 2) (F := 5) (Lc := 116) (o := some th) (av := [.int (2 : Int32), .int x3]) (rest := []) C w rfl (by decide) (fun a r g hf => k_K_sharedValue l D cy z N h a (2 : Int32) x3 r g hf) gw_42_22 gw_42_23 gw_43_0 gw_1_2 gw_43_1 (by decide +kernel) ⟨Nat.le_of_ble_eq_true rfl, Nat.le_of_ble_eq_true rfl⟩ rfl hl.1 rfl (Nat.le_of_ble_eq_true rfl) dX11_split_13 (fun a => (sh_K_sharedValue N h a (2 : Int32) x3)) ⟨hcc.1, hcc.2⟩ hE (fun v1 h2 H locs w hsh2 e1 => ?_)
  have hsl := hsh2.2.2.2.trans hsl
  refine W.widen (k := h_x g - n0) (n := h_s g - s0) hcc.1 hcc.2 ?_
  exact w_lretT C w e1 dX11_split_16
set_option maxRecDepth 20000 in
set_option maxHeartbeats 4000000 in
theorem b_K_split_6 {p : Program} {l : Launch} {e : Env} {s : State} {m : MethodId} {args : Array Value} {below : List Frame} {meth : Method} {c : Code} {D : va_G} {cy : cyT} {z : Nat} (C : MX p s m args meth c cX11_split 4 ((some .long)) RX11 (Cond.code yX11_split cX11_split 4 ((some .long)) :: GW)) (hst : l.stackTraces = false) (hxt : ∀ x ∈ c.exceptionTable.toList, False) (N : Nat) (n0 s0 : Nat) (hn0 : s.heap.size = n0) {r : (Int64 ⊕ Nat)} {g : hS}  : ∀  (cells slots : Nat) (h : hS) (th : Nat) (x3 : Int32) (H : Heap) (locs : List Loc) (ls : Array Slot), wd D cy z s cells h H locs → h_s h = s0 + slots → lv_has ls 4 [(0, .ref th), (3, .int x3)] → f_K_split_6 N   h th x3 = some (r, g) → W p l e { frames := 10, cells := h_x g - n0, slots := h_s g - s0, locals := 165 } s m args below meth c H locs cells slots (eT D cy z rJ r g below args s (h_x g - n0) (h_s g - s0)) (F0 m 6 ls []) := by
  obtain ⟨hx, hb, hr, hml, hown, hts, hlk⟩ := id C
  intro cells slots h th x3 H locs ls w hsl hl hE
  have hcc : cells ≤ h_x g - n0 ∧ slots ≤ h_s g - s0 := by
    have q1 := mo_K_split_6 N  h th x3 _ _ hE
    have q2 := wd_x w
    have q3 := q1.1
    have q4 := q1.2.1
    omega
  unfold f_K_split_6 at hE
  refine lv_iload_n hx hb dX11_split_6 rfl (lv_at hl 1 rfl) ?_
  refine w_STV GW_good (n := 1) (F := 7) (Lc := 102) (av := [.int x3]) (rest := []) hxt hn0 hsl C w (fun r g hf => k_K_needX l hst D cy z N h x3 r g hf) gw_34_9 gw_34_10 gw_1_2 gw_34_11 (by decide +kernel) ⟨Nat.le_of_ble_eq_true rfl, Nat.le_of_ble_eq_true rfl⟩ rfl hl.1 rfl (Nat.le_of_ble_eq_true rfl) dX11_split_7 (mo_K_needX N h x3) (fun v1 h2 => mo_K_split_10 N   h2 th x3) hE (fun v1 h2 H locs w hsh2 e1 => ?_)
  exact b_K_split_10 C hst hxt N n0 s0 hn0   _ _ h2 th x3 _ _ ls w (by have u5 := hsh2.2.1; have u8 := hsl; omega) (lv_sub hl [0, 1] rfl) e1
set_option maxRecDepth 20000 in
set_option maxHeartbeats 4000000 in
theorem k_K_split (l : Launch) (hst : l.stackTraces = false) (D : va_G) (cy : cyT) (z : Nat) (N : Nat) (h : hS) (th : Nat) (x1 : Int32) (x2 : Int32) (x3 : Int32) (r : (Int64 ⊕ Nat)) (g : hS) (hE : f_K_split N h th x1 x2 x3 = some (r, g)) : ctT l yX11_split (Cond.code yX11_split cX11_split 4 ((some .long)) :: GW) { frames := 10, cells := h_x g - h_x h, slots := h_s g - h_s h, locals := 165 } D cy z h [.ref th, .int x1, .int x2, .int x3] rJ r g := by
  refine ctT_of (cc := cX11_split) (maxL := 4) (ret := (some .long)) (by decide) ?_
  intro p e s m args below meth c s₁ B hml hxt hv
  obtain ⟨rfl, hw⟩ := hv
  have C : MX p s m ([.ref th, .int x1, .int x2, .int x3] : List Value).toArray meth c cX11_split 4 ((some .long)) RX11 (Cond.code yX11_split cX11_split 4 ((some .long)) :: GW) := ⟨B.exec, B.bytes, B.returns, hml, findClass_of_methodNamed B.named, atoms_spec (ws := Cond.code yX11_split cX11_split 4 ((some .long)) :: GW) B.pre, B.notSynchronized⟩
  obtain ⟨hx, hb, hr, hml, hown, hts, hlk⟩ := id C
  have w := wd_of hw
  have hsl : h_s h = h_s h + 0 := rfl
  have hn0 : s.heap.size = h_x h := (wd_x w).1
  obtain ⟨ls, hen, hl⟩ : ∃ ls : Array Slot, entryFrame m ([.ref th, .int x1, .int x2, .int x3] : List Value).toArray 4 = F0 m 0 ls [] ∧ lv_has ls 4 [(0, .ref th), (1, .int x1), (2, .int x2), (3, .int x3)] := by
    exact ⟨_, lg_entry_eq _ _ _, lv_entry _ (Nat.le_of_ble_eq_true rfl)⟩
  rw [hen]
  have hcc : 0 ≤ h_x g - h_x h ∧ 0 ≤ h_s g - h_s h := ⟨Nat.zero_le _, Nat.zero_le _⟩
  unfold f_K_split at hE
  refine lv_aload_n hx hb dX11_split_0 rfl (lv_at hl 0 rfl) ?_
  refine lv_iload_n hx hb dX11_split_1 rfl (lv_at hl 1 rfl) ?_
  refine lv_iload_n hx hb dX11_split_2 rfl (lv_at hl 2 rfl) ?_
  refine w_VTV GW_good (n := 2) (F := 9) (Lc := 143) (ob := some th) (av := [.int x1, .int x2]) (rest := []) hxt hn0 hsl C w rfl (by decide) (fun a r g hf => k_K_gatherTwo l hst D cy z N h a x1 x2 r g hf) gw_42_18 gw_42_19 gw_42_20 gw_1_2 gw_42_21 (by decide +kernel) ⟨Nat.le_of_ble_eq_true rfl, Nat.le_of_ble_eq_true rfl⟩ rfl hl.1 rfl (Nat.le_of_ble_eq_true rfl) dX11_split_3 (fun a => (mo_K_gatherTwo N h a x1 x2)) (fun v1 h2 => mo_K_split_6 N   h2 th x3) hE (fun v1 h2 H locs w hsh2 e1 => ?_)
  exact b_K_split_6 C hst hxt N (h_x h) (h_s h) hn0   _ _ h2 th x3 _ _ ls w (by have u5 := hsh2.2.1; have u8 := hsl; omega) (lv_sub hl [0, 3] rfl) e1
set_option maxRecDepth 20000 in
set_option maxHeartbeats 4000000 in
theorem b_K_where_10 {p : Program} {l : Launch} {e : Env} {s : State} {m : MethodId} {args : Array Value} {below : List Frame} {meth : Method} {c : Code} {D : va_G} {cy : cyT} {z : Nat} (C : MX p s m args meth c cX11_where 7 ((some .int)) RX11 (Cond.code yX11_where cX11_where 7 ((some .int)) :: GW)) (hst : l.stackTraces = false) (hxt : ∀ x ∈ c.exceptionTable.toList, False) (N : Nat) (n0 s0 : Nat) (hn0 : s.heap.size = n0) {r : (Int32 ⊕ Nat)} {g : hS}  : ∀  (cells slots : Nat) (h : hS) (th : Nat) (x3 : Int32) (H : Heap) (locs : List Loc) (ls : Array Slot), wd D cy z s cells h H locs → h_s h = s0 + slots → lv_has ls 7 [(0, .ref th), (3, .int x3)] → f_K_where_10 N   h th x3 = some (r, g) → W p l e { frames := 10, cells := h_x g - n0, slots := h_s g - s0, locals := 165 } s m args below meth c H locs cells slots (eT D cy z rI r g below args s (h_x g - n0) (h_s g - s0)) (F0 m 10 ls []) := by
  obtain ⟨hx, hb, hr, hml, hown, hts, hlk⟩ := id C
  intro cells slots h th x3 H locs ls w hsl hl hE
  have hcc : cells ≤ h_x g - n0 ∧ slots ≤ h_s g - s0 := by
    have q1 := mo_K_where_10 N  h th x3 _ _ hE
    have q2 := wd_x w
    have q3 := q1.1
    have q4 := q1.2.1
    omega
  unfold f_K_where_10 at hE
  refine lv_aload_n hx hb dX11_where_10 rfl (lv_at hl 0 rfl) ?_
  refine lv_iconst (v := 2) hx hb dX11_where_11 (by decide) ?_
  refine lv_iload_n hx hb dX11_where_12 rfl (lv_at hl 1 rfl) ?_
  refine w_VI GW_good (n := 2) (F := 4) (Lc := 90) (o := some th) (av := [.int (2 : Int32), .int x3]) (rest := []) C w rfl (by decide) (fun a r g hf => k_K_commonSlope l D cy z N h a (2 : Int32) x3 r g hf) gw_43_2 gw_43_3 gw_43_4 gw_1_2 gw_43_5 (by decide +kernel) ⟨Nat.le_of_ble_eq_true rfl, Nat.le_of_ble_eq_true rfl⟩ rfl hl.1 rfl (Nat.le_of_ble_eq_true rfl) dX11_where_13 (fun a => (sh_K_commonSlope N h a (2 : Int32) x3)) ⟨hcc.1, hcc.2⟩ hE (fun v1 h2 H locs w hsh2 e1 => ?_)
  have hsl := hsh2.2.2.2.trans hsl
  refine lv_istore (lv' := [(4, .int v1), (0, .ref th), (3, .int x3)]) hx hb dX11_where_16 hl (by decide) rfl (fun ls hl => ?_)
  refine lv_aload_n hx hb dX11_where_18 rfl (lv_at hl 1 rfl) ?_
  refine w_gR (r := some th) (ci := 12) (k := 14) C w rfl (by decide) (GF_wsX110 _) (by decide) rfl (List.mem_cons_of_mem _ gw_2_20) rfl dX11_where_19 e1 (fun v3 e2 => ?_)
  refine lv_iconst (v := 0) hx hb dX11_where_22 (by decide) ?_
  refine w_aRq (kd := 63) (t0 := 7) (r := v3) C w rfl (by decide) dX11_where_23 e2 (fun v4 e3 => ?_)
  refine lv_iload hx hb dX11_where_24 (lv_at hl 0 rfl) ?_
  refine w_VI GW_good (n := 1) (F := 2) (Lc := 44) (o := v4) (av := [.int v1]) (rest := []) C w rfl (by decide) (fun a r g hf => k_Curve_lowEnd l D cy z N h2 a v1 r g hf) gw_36_0 gw_36_1 gw_36_2 gw_2_22 gw_36_3 (by decide +kernel) ⟨Nat.le_of_ble_eq_true rfl, Nat.le_of_ble_eq_true rfl⟩ rfl hl.1 rfl (Nat.le_of_ble_eq_true rfl) dX11_where_26 (fun a => (sh_Curve_lowEnd N h2 a v1)) ⟨hcc.1, hcc.2⟩ e3 (fun v5 h6 H locs w hsh6 e4 => ?_)
  have hsl := hsh6.2.2.2.trans hsl
  refine lv_iload_n hx hb dX11_where_29 rfl (lv_at hl 2 rfl) ?_
  refine lv_aload_n hx hb dX11_where_30 rfl (lv_at hl 1 rfl) ?_
  refine w_gR (r := some th) (ci := 12) (k := 14) C w rfl (by decide) (GF_wsX110 _) (by decide) rfl (List.mem_cons_of_mem _ gw_2_20) rfl dX11_where_31 e4 (fun v7 e5 => ?_)
  refine lv_iconst (v := 1) hx hb dX11_where_34 (by decide) ?_
  refine w_aRq (kd := 63) (t0 := 7) (r := v7) C w rfl (by decide) dX11_where_35 e5 (fun v8 e6 => ?_)
  refine lv_iload hx hb dX11_where_36 (lv_at hl 0 rfl) ?_
  refine w_VI GW_good (n := 1) (F := 2) (Lc := 44) (o := v8) (av := [.int v1]) (rest := [.int x3, .int v5]) C w rfl (by decide) (fun a r g hf => k_Curve_highEnd l D cy z N h6 a v1 r g hf) gw_36_19 gw_36_20 gw_36_21 gw_2_22 gw_36_22 (by decide +kernel) ⟨Nat.le_of_ble_eq_true rfl, Nat.le_of_ble_eq_true rfl⟩ rfl hl.1 rfl (Nat.le_of_ble_eq_true rfl) dX11_where_38 (fun a => (sh_Curve_highEnd N h6 a v1)) ⟨hcc.1, hcc.2⟩ e6 (fun v9 h10 H locs w hsh10 e7 => ?_)
  have hsl := hsh10.2.2.2.trans hsl
  refine lv_isub hx hb dX11_where_41 ?_
  refine w_mmax C hl.1 (List.mem_cons_of_mem _ gw_37_7) (List.mem_cons_of_mem _ gw_30_15) (List.mem_cons_of_mem _ gw_10_7) (List.mem_cons_of_mem _ gw_30_16) (Nat.le_of_ble_eq_true rfl) (Nat.le_of_ble_eq_true rfl) hcc.1 hcc.2 dX11_where_42 ?_
  refine w_bnI e7 (fun v11 e8 => ?_)
  refine lv_istore (lv' := [(5, .int v11), (4, .int v1), (0, .ref th), (3, .int x3)]) hx hb dX11_where_45 hl (by decide) rfl (fun ls hl => ?_)
  refine lv_aload_n hx hb dX11_where_47 rfl (lv_at hl 2 rfl) ?_
  refine w_gR (r := some th) (ci := 12) (k := 14) C w rfl (by decide) (GF_wsX110 _) (by decide) rfl (List.mem_cons_of_mem _ gw_2_20) rfl dX11_where_48 e8 (fun v12 e9 => ?_)
  refine lv_iconst (v := 0) hx hb dX11_where_51 (by decide) ?_
  refine w_aRq (kd := 63) (t0 := 7) (r := v12) C w rfl (by decide) dX11_where_52 e9 (fun v13 e10 => ?_)
  refine lv_iload hx hb dX11_where_53 (lv_at hl 1 rfl) ?_
  refine w_VI GW_good (n := 1) (F := 2) (Lc := 44) (o := v13) (av := [.int v1]) (rest := []) C w rfl (by decide) (fun a r g hf => k_Curve_highEnd l D cy z N h10 a v1 r g hf) gw_36_19 gw_36_20 gw_36_21 gw_2_22 gw_36_22 (by decide +kernel) ⟨Nat.le_of_ble_eq_true rfl, Nat.le_of_ble_eq_true rfl⟩ rfl hl.1 rfl (Nat.le_of_ble_eq_true rfl) dX11_where_55 (fun a => (sh_Curve_highEnd N h10 a v1)) ⟨hcc.1, hcc.2⟩ e10 (fun v14 h15 H locs w hsh15 e11 => ?_)
  have hsl := hsh15.2.2.2.trans hsl
  refine lv_iload_n hx hb dX11_where_58 rfl (lv_at hl 3 rfl) ?_
  refine lv_aload_n hx hb dX11_where_59 rfl (lv_at hl 2 rfl) ?_
  refine w_gR (r := some th) (ci := 12) (k := 14) C w rfl (by decide) (GF_wsX110 _) (by decide) rfl (List.mem_cons_of_mem _ gw_2_20) rfl dX11_where_60 e11 (fun v16 e12 => ?_)
  refine lv_iconst (v := 1) hx hb dX11_where_63 (by decide) ?_
  refine w_aRq (kd := 63) (t0 := 7) (r := v16) C w rfl (by decide) dX11_where_64 e12 (fun v17 e13 => ?_)
  refine lv_iload hx hb dX11_where_65 (lv_at hl 1 rfl) ?_
  refine w_VI GW_good (n := 1) (F := 2) (Lc := 44) (o := v17) (av := [.int v1]) (rest := [.int x3, .int v14]) C w rfl (by decide) (fun a r g hf => k_Curve_lowEnd l D cy z N h15 a v1 r g hf) gw_36_0 gw_36_1 gw_36_2 gw_2_22 gw_36_3 (by decide +kernel) ⟨Nat.le_of_ble_eq_true rfl, Nat.le_of_ble_eq_true rfl⟩ rfl hl.1 rfl (Nat.le_of_ble_eq_true rfl) dX11_where_67 (fun a => (sh_Curve_lowEnd N h15 a v1)) ⟨hcc.1, hcc.2⟩ e13 (fun v18 h19 H locs w hsh19 e14 => ?_)
  have hsl := hsh19.2.2.2.trans hsl
  refine lv_isub hx hb dX11_where_70 ?_
  refine w_mmin C hl.1 (List.mem_cons_of_mem _ gw_37_8) (List.mem_cons_of_mem _ gw_10_6) (List.mem_cons_of_mem _ gw_10_7) (List.mem_cons_of_mem _ gw_10_8) (Nat.le_of_ble_eq_true rfl) (Nat.le_of_ble_eq_true rfl) hcc.1 hcc.2 dX11_where_71 ?_
  refine w_bnI e14 (fun v20 e15 => ?_)
  refine lv_istore (lv' := [(6, .int v20), (5, .int v11), (4, .int v1), (0, .ref th), (3, .int x3)]) hx hb dX11_where_74 hl (by decide) rfl (fun ls hl => ?_)
  refine lv_iconst (v := 0) hx hb dX11_where_76 (by decide) ?_
  refine lv_iload hx hb dX11_where_77 (lv_at hl 1 rfl) ?_
  refine lv_iload hx hb dX11_where_79 (lv_at hl 0 rfl) ?_
  refine w_SI GW_good (n := 3) (F := 1) (Lc := 44) (av := [.int (0 : Int32), .int v11, .int v20]) (rest := []) C w (fun r g hf => k_K_clamp l D cy z N h19 (0 : Int32) v11 v20 r g hf) gw_45_8 gw_37_5 gw_1_2 gw_37_6 (by decide +kernel) ⟨Nat.le_of_ble_eq_true rfl, Nat.le_of_ble_eq_true rfl⟩ rfl hl.1 rfl (Nat.le_of_ble_eq_true rfl) dX11_where_81 (sh_K_clamp N h19 (0 : Int32) v11 v20) ⟨hcc.1, hcc.2⟩ e15 (fun v21 h22 H locs w hsh22 e16 => ?_)
  have hsl := hsh22.2.2.2.trans hsl
  refine W.widen (k := h_x g - n0) (n := h_s g - s0) hcc.1 hcc.2 ?_
  exact w_iretT C w e16 dX11_where_84
set_option maxRecDepth 20000 in
set_option maxHeartbeats 4000000 in
theorem b_K_where_6 {p : Program} {l : Launch} {e : Env} {s : State} {m : MethodId} {args : Array Value} {below : List Frame} {meth : Method} {c : Code} {D : va_G} {cy : cyT} {z : Nat} (C : MX p s m args meth c cX11_where 7 ((some .int)) RX11 (Cond.code yX11_where cX11_where 7 ((some .int)) :: GW)) (hst : l.stackTraces = false) (hxt : ∀ x ∈ c.exceptionTable.toList, False) (N : Nat) (n0 s0 : Nat) (hn0 : s.heap.size = n0) {r : (Int32 ⊕ Nat)} {g : hS}  : ∀  (cells slots : Nat) (h : hS) (th : Nat) (x3 : Int32) (H : Heap) (locs : List Loc) (ls : Array Slot), wd D cy z s cells h H locs → h_s h = s0 + slots → lv_has ls 7 [(0, .ref th), (3, .int x3)] → f_K_where_6 N   h th x3 = some (r, g) → W p l e { frames := 10, cells := h_x g - n0, slots := h_s g - s0, locals := 165 } s m args below meth c H locs cells slots (eT D cy z rI r g below args s (h_x g - n0) (h_s g - s0)) (F0 m 6 ls []) := by
  obtain ⟨hx, hb, hr, hml, hown, hts, hlk⟩ := id C
  intro cells slots h th x3 H locs ls w hsl hl hE
  have hcc : cells ≤ h_x g - n0 ∧ slots ≤ h_s g - s0 := by
    have q1 := mo_K_where_6 N  h th x3 _ _ hE
    have q2 := wd_x w
    have q3 := q1.1
    have q4 := q1.2.1
    omega
  unfold f_K_where_6 at hE
  refine lv_iload_n hx hb dX11_where_6 rfl (lv_at hl 1 rfl) ?_
  refine w_STV GW_good (n := 1) (F := 7) (Lc := 102) (av := [.int x3]) (rest := []) hxt hn0 hsl C w (fun r g hf => k_K_needX l hst D cy z N h x3 r g hf) gw_34_9 gw_34_10 gw_1_2 gw_34_11 (by decide +kernel) ⟨Nat.le_of_ble_eq_true rfl, Nat.le_of_ble_eq_true rfl⟩ rfl hl.1 rfl (Nat.le_of_ble_eq_true rfl) dX11_where_7 (mo_K_needX N h x3) (fun v1 h2 => mo_K_where_10 N   h2 th x3) hE (fun v1 h2 H locs w hsh2 e1 => ?_)
  exact b_K_where_10 C hst hxt N n0 s0 hn0   _ _ h2 th x3 _ _ ls w (by have u5 := hsh2.2.1; have u8 := hsl; omega) (lv_sub hl [0, 1] rfl) e1
set_option maxRecDepth 20000 in
set_option maxHeartbeats 4000000 in
theorem k_K_where (l : Launch) (hst : l.stackTraces = false) (D : va_G) (cy : cyT) (z : Nat) (N : Nat) (h : hS) (th : Nat) (x1 : Int32) (x2 : Int32) (x3 : Int32) (r : (Int32 ⊕ Nat)) (g : hS) (hE : f_K_where N h th x1 x2 x3 = some (r, g)) : ctT l yX11_where (Cond.code yX11_where cX11_where 7 ((some .int)) :: GW) { frames := 10, cells := h_x g - h_x h, slots := h_s g - h_s h, locals := 165 } D cy z h [.ref th, .int x1, .int x2, .int x3] rI r g := by
  refine ctT_of (cc := cX11_where) (maxL := 7) (ret := (some .int)) (by decide) ?_
  intro p e s m args below meth c s₁ B hml hxt hv
  obtain ⟨rfl, hw⟩ := hv
  have C : MX p s m ([.ref th, .int x1, .int x2, .int x3] : List Value).toArray meth c cX11_where 7 ((some .int)) RX11 (Cond.code yX11_where cX11_where 7 ((some .int)) :: GW) := ⟨B.exec, B.bytes, B.returns, hml, findClass_of_methodNamed B.named, atoms_spec (ws := Cond.code yX11_where cX11_where 7 ((some .int)) :: GW) B.pre, B.notSynchronized⟩
  obtain ⟨hx, hb, hr, hml, hown, hts, hlk⟩ := id C
  have w := wd_of hw
  have hsl : h_s h = h_s h + 0 := rfl
  have hn0 : s.heap.size = h_x h := (wd_x w).1
  obtain ⟨ls, hen, hl⟩ : ∃ ls : Array Slot, entryFrame m ([.ref th, .int x1, .int x2, .int x3] : List Value).toArray 7 = F0 m 0 ls [] ∧ lv_has ls 7 [(0, .ref th), (1, .int x1), (2, .int x2), (3, .int x3)] := by
    exact ⟨_, lg_entry_eq _ _ _, lv_entry _ (Nat.le_of_ble_eq_true rfl)⟩
  rw [hen]
  have hcc : 0 ≤ h_x g - h_x h ∧ 0 ≤ h_s g - h_s h := ⟨Nat.zero_le _, Nat.zero_le _⟩
  unfold f_K_where at hE
  refine lv_aload_n hx hb dX11_where_0 rfl (lv_at hl 0 rfl) ?_
  refine lv_iload_n hx hb dX11_where_1 rfl (lv_at hl 1 rfl) ?_
  refine lv_iload_n hx hb dX11_where_2 rfl (lv_at hl 2 rfl) ?_
  refine w_VTV GW_good (n := 2) (F := 9) (Lc := 143) (ob := some th) (av := [.int x1, .int x2]) (rest := []) hxt hn0 hsl C w rfl (by decide) (fun a r g hf => k_K_gatherTwo l hst D cy z N h a x1 x2 r g hf) gw_42_18 gw_42_19 gw_42_20 gw_1_2 gw_42_21 (by decide +kernel) ⟨Nat.le_of_ble_eq_true rfl, Nat.le_of_ble_eq_true rfl⟩ rfl hl.1 rfl (Nat.le_of_ble_eq_true rfl) dX11_where_3 (fun a => (mo_K_gatherTwo N h a x1 x2)) (fun v1 h2 => mo_K_where_6 N   h2 th x3) hE (fun v1 h2 H locs w hsh2 e1 => ?_)
  exact b_K_where_6 C hst hxt N (h_x h) (h_s h) hn0   _ _ h2 th x3 _ _ ls w (by have u5 := hsh2.2.1; have u8 := hsl; omega) (lv_sub hl [0, 3] rfl) e1
