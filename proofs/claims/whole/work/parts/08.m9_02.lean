def f_M_goes_186 (N : Nat)  (h : hS) (y0 : Int32) : Option (Int32 × hS) := bz y0 (some (y0, h))
def f_M_goes_185 (N : Nat)  (h : hS)  : Option (Int32 × hS) := f_M_goes_186 N   h (0 : Int32)
def f_M_goes_147 (N : Nat)  (h : hS) (th : Nat) : Option (Int32 × hS) := gI h (some th) 0 9 fun v1 => if v1 = (0 : Int32) then (gR h (some th) 0 4 fun v2 => nn v2 fun q3 => cl (f_M_weights N h q3) fun v4 h5 => if (5000 : Int32) < v4 then (f_M_goes_185 N   h5 ) else (gR h5 (some th) 0 4 fun v6 => nn v6 fun q7 => cl (f_M_leastOf N h5 q7) fun v8 h9 => if (0 : Int32) < (lg_cmp v8 (100000000 : Int64)) then (f_M_goes_185 N   h9 ) else (f_M_goes_186 N   h9 (1 : Int32)))) else (f_M_goes_185 N   h )
def f_M_goes (N : Nat) (h : hS) (th : Nat) (x1 : Int32) (x2 : Int32) (x3 : Int32) (x4 : Int32) : Option (Int32 × hS) := pZ h (some th) 0 9 (0 : Int32) fun h1 => if x1 = (0 : Int32) then (cv h1 (some th) 0 (fun a => f_M_leans N h1 a x2 x3 x3) fun _ h3 => f_M_goes_147 N   h3 th) else (if x1 = (1 : Int32) then (cv h1 (some th) 0 (fun a => f_M_leans N h1 a x2 (0 : Int32) x3) fun _ h5 => f_M_goes_147 N   h5 th) else (if x1 = (2 : Int32) then (cv h1 (some th) 0 (fun a => f_M_leans N h1 a x2 x3 (0 : Int32)) fun _ h7 => f_M_goes_147 N   h7 th) else (if x1 = (3 : Int32) then (cv h1 (some th) 0 (fun a => f_M_drifts N h1 a x2) fun _ h9 => f_M_goes_147 N   h9 th) else (if x1 = (4 : Int32) then (cv h1 (some th) 0 (fun a => f_M_parts N h1 a x2 x3 (1 : Int32) (1 : Int32)) fun _ h11 => f_M_goes_147 N   h11 th) else (if x1 = (5 : Int32) then (cv h1 (some th) 0 (fun a => f_M_parts N h1 a (0 : Int32) (0 : Int32) (1 : Int32) (0 : Int32)) fun _ h13 => f_M_goes_147 N   h13 th) else (if x1 = (6 : Int32) then (cv h1 (some th) 0 (fun a => f_M_parts N h1 a (0 : Int32) (0 : Int32) (0 : Int32) (1 : Int32)) fun _ h15 => f_M_goes_147 N   h15 th) else (if x1 = (7 : Int32) then (gR h1 (some th) 0 4 fun v16 => aI h1 50 v16 (1 : Int32) fun v17 => uI h1 v16 (1 : Int32) (v17 + x2) fun h18 => f_M_goes_147 N   h18 th) else (gR h1 (some th) 0 7 fun v19 => aR h1 60 v19 x4 fun v20 => nn v20 fun q21 => cv h1 (some th) 0 (fun a => f_M_putsOn N h1 a q21) fun _ h23 => f_M_goes_147 N   h23 th))))))))
def f_M_runs_157 (N : Nat)  (h : hS) (y0 : Int32) : Option (Int32 × hS) := bz y0 (some (y0, h))
def f_M_runs_144 (N : Nat)  (h : hS) (th : Nat) : Option (Int32 × hS) := gI h (some th) 0 12 fun v1 => if v1 = (-1 : Int32) then (f_M_runs_157 N   h (1 : Int32)) else (f_M_runs_157 N   h (0 : Int32))
def f_M_runs_138 (N : Nat) (rc21 : hS → Nat → Nat → Int32 → Int32 → Option (Int32 × hS)) (h : hS) (th : Nat) (a1 : Nat) (x3 : Int32) (x4 : Int32) : Option (Int32 × hS) := bn (x4 + (1 : Int32)) fun v1 => rc21 h th a1 x3 v1
def f_M_runs_120 (N : Nat) (rc21 : hS → Nat → Nat → Int32 → Int32 → Option (Int32 × hS)) (h : hS) (th : Nat) (a1 : Nat) (x3 : Int32) (x4 : Int32) (x5 : Int32) (y0 : Option Nat) (y1 : Int32) (y2 : Int32) (y3 : Int32) : Option (Int32 × hS) := aI h 50 (some a1) (x5 + (3 : Int32)) fun v1 => cv h y0 0 (fun a => f_M_goes N h a y1 y2 y3 v1) fun v2 h3 => if v2 = (0 : Int32) then (pI h3 (some th) 0 12 x4 fun h4 => f_M_runs_138 N rc21  h4 th a1 x3 x4) else (f_M_runs_138 N rc21  h3 th a1 x3 x4)
def f_M_runs_21 (N : Nat)  : Nat → hS → Nat → Nat → Int32 → Int32 → Option (Int32 × hS)
  | 0 => fun _ _ _ _ _ => none
  | n + 1 => fun h th a1 x3 x4 => aI h 50 (some a1) x3 fun v1 => if v1 ≤ x4 then (f_M_runs_144 N   h th) else (gI h (some th) 0 12 fun v2 => if v2 = (-1 : Int32) then (gR h (some th) 0 10 fun v3 => gR h (some th) 0 4 fun v4 => nn v4 fun q5 => cl (f_M_flatFrom N h q5) fun v6 h7 => uI h7 v3 x4 v6 fun h8 => gR h8 (some th) 0 11 fun v9 => gR h8 (some th) 0 4 fun v10 => nn v10 fun q11 => cl (f_M_flatTo N h8 q11) fun v12 h13 => uI h13 v9 x4 v12 fun h14 => gI h14 (some th) 0 13 fun v15 => if x4 = v15 then (f_M_runs_138 N (f_M_runs_21 N  n)  h14 th a1 x3 x4) else (bn (((x3 + (1 : Int32)) + ((4 : Int32) * x4))) fun v16 => aI h14 50 (some a1) v16 fun v17 => aI h14 50 (some a1) (v16 + (1 : Int32)) fun v18 => gI h14 (some th) 0 14 fun v19 => if x4 = v19 then (gI h14 (some th) 0 15 fun v21 => f_M_runs_120 N (f_M_runs_21 N  n)  h14 th a1 x3 x4 v16 (some th) v17 v18 v21) else (aI h14 50 (some a1) (v16 + (2 : Int32)) fun v20 => f_M_runs_120 N (f_M_runs_21 N  n)  h14 th a1 x3 x4 v16 (some th) v17 v18 v20))) else (f_M_runs_144 N   h th))
def f_M_runs (N : Nat) (h : hS) (th : Nat) (a1 : Nat) (x2 : Int32) : Option (Int32 × hS) := gR h (some th) 0 4 fun v1 => nn v1 fun q2 => cl (f_M_clear N h q2) fun _ h4 => pI h4 (some th) 0 12 (-1 : Int32) fun h5 => bn (((161 : Int32) * x2)) fun v6 => f_M_runs_21 N  N h5 th a1 v6 (0 : Int32)
def f_M_tell (N : Nat) (h : hS) (th : Nat) (x1 : Int32) : Option (Unit × hS) := gR h (some th) 0 2 fun v1 => nn v1 fun q2 => cv h (some th) 0 (fun a => f_M_runs N h a q2 x1) fun v3 h4 => some ((), h4)
def f_M_tellBoth (N : Nat) (h : hS) (th : Nat) (x1 : Int32) (x2 : Int32) : Option (Unit × hS) := cv h (some th) 0 (fun a => f_M_tell N h a x2) fun _ h2 => gR h2 (some th) 0 5 fun v3 => gR h2 (some th) 0 4 fun v4 => nn v3 fun q5 => nn v4 fun q6 => cl (f_M_copyTo N h2 q5 q6) fun _ h8 => cv h8 (some th) 0 (fun a => f_M_tell N h8 a x1) fun _ h10 => some ((), h10)
def f_M_at_34 (N : Nat)  (h : hS) (y0 : Option Nat) (y1 : Int32) : Option (Int64 × hS) := cv h y0 0 (fun a => f_M_fail N h a y1) fun v1 h2 => some (v1.toInt64, h2)
def f_M_at_20 (N : Nat)  (h : hS) (th : Nat) (x1 : Int32) : Option (Int64 × hS) := cv h (some th) 0 (fun a => f_M_isCost N h a x1) fun v1 h2 => if v1 = (0 : Int32) then (f_M_at_34 N   h2 (some th) (1 : Int32)) else (f_M_at_34 N   h2 (some th) (2 : Int32))
def f_M_at (N : Nat) (h : hS) (th : Nat) (x1 : Int32) (x2 : Int32) : Option (Int64 × hS) := pI h (some th) 0 1 (0 : Int32) fun h1 => cv h1 (some th) 0 (fun a => f_M_isCost N h1 a x1) fun v2 h3 => if v2 = (0 : Int32) then (f_M_at_20 N   h3 th x1) else (cl (f_M_isX N h3 x2) fun v4 h5 => if v4 = (0 : Int32) then (f_M_at_20 N   h5 th x1) else (cv h5 (some th) 0 (fun a => f_M_tell N h5 a x1) fun _ h7 => gR h7 (some th) 0 4 fun v8 => nn v8 fun q9 => cl (f_M_valueAt N h7 q9 x2) fun v10 h11 => some (v10, h11)))
def f_M_least (N : Nat) (h : hS) (th : Nat) (x1 : Int32) : Option (Int64 × hS) := pI h (some th) 0 1 (0 : Int32) fun h1 => cv h1 (some th) 0 (fun a => f_M_isCost N h1 a x1) fun v2 h3 => if v2 = (0 : Int32) then (cv h3 (some th) 0 (fun a => f_M_fail N h3 a (1 : Int32)) fun v10 h11 => some (v10.toInt64, h11)) else (cv h3 (some th) 0 (fun a => f_M_tell N h3 a x1) fun _ h5 => gR h5 (some th) 0 4 fun v6 => nn v6 fun q7 => cl (f_M_leastOf N h5 q7) fun v8 h9 => some (v8, h9))
def f_M_flat_25 (N : Nat)  (h : hS) (th : Nat) : Option (Int32 × hS) := cv h (some th) 0 (fun a => f_M_fail N h a (1 : Int32)) fun v1 h2 => some (v1, h2)
def f_M_flat_114 (N : Nat)  (h : hS) (y0 : Int32) : Option (Int32 × hS) := some (y0, h)
def f_M_flat (N : Nat) (h : hS) (th : Nat) (x1 : Int32) (x2 : Int32) : Option (Int32 × hS) := pI h (some th) 0 1 (0 : Int32) fun h1 => cv h1 (some th) 0 (fun a => f_M_isCost N h1 a x1) fun v2 h3 => if v2 = (0 : Int32) then (f_M_flat_25 N   h3 th) else (cl (f_M_isIn N h3 x2.toInt64 (0 : Int64) (4 : Int64)) fun v4 h5 => if v4 = (0 : Int32) then (f_M_flat_25 N   h5 th) else (cv h5 (some th) 0 (fun a => f_M_tell N h5 a x1) fun _ h7 => gR h7 (some th) 0 4 fun v8 => nn v8 fun q9 => cl (f_M_flatFrom N h7 q9) fun v10 h11 => gR h11 (some th) 0 4 fun v12 => nn v12 fun q13 => cl (f_M_flatTo N h11 q13) fun v14 h15 => if x2 = (0 : Int32) then (cl (f_M_somewhere N h15 v10) fun v28 h29 => f_M_flat_114 N   h29 v28) else (if x2 = (1 : Int32) then (cl (f_M_somewhere N h15 v14) fun v26 h27 => f_M_flat_114 N   h27 v26) else (if x2 = (2 : Int32) then (cl (f_M_nearest N h15 v10 v14 (0 : Int32)) fun v24 h25 => f_M_flat_114 N   h25 v24) else (if x2 = (3 : Int32) then (gR h15 (some th) 0 4 fun v20 => nn v20 fun q21 => cl (f_M_kinks N h15 q21) fun v22 h23 => f_M_flat_114 N   h23 v22) else (gR h15 (some th) 0 4 fun v16 => nn v16 fun q17 => cl (f_M_weights N h15 q17) fun v18 h19 => f_M_flat_114 N   h19 v18))))))
def f_M_kink_27 (N : Nat)  (h : hS) (th : Nat) : Option (Int32 × hS) := cv h (some th) 0 (fun a => f_M_fail N h a (1 : Int32)) fun v1 h2 => some (v1, h2)
def f_M_kink_98 (N : Nat) (rc44 : hS → Nat → Int32 → Int32 → Int32 → Option (Int32 × hS)) (h : hS) (th : Nat) (x3 : Int32) (x4 : Int32) (x5 : Int32) : Option (Int32 × hS) := bn (x5 + (1 : Int32)) fun v1 => rc44 h th x3 x4 v1
def f_M_kink_94 (N : Nat)  (h : hS) (y0 : Int32) : Option (Int32 × hS) := some (y0, h)
def f_M_kink_44 (N : Nat)  : Nat → hS → Nat → Int32 → Int32 → Int32 → Option (Int32 × hS)
  | 0 => fun _ _ _ _ _ => none
  | n + 1 => fun h th x3 x4 x5 => if (10001 : Int32) ≤ x5 then (cv h (some th) 0 (fun a => f_M_fail N h a (1 : Int32)) fun v1 h2 => some (v1, h2)) else (gR h (some th) 0 4 fun v3 => aI h 50 v3 ((2 : Int32) + x5) fun v4 => if v4 = (0 : Int32) then (f_M_kink_98 N (f_M_kink_44 N  n)  h th x3 x4 x5) else (if x4 = (0 : Int32) then (if x3 = (0 : Int32) then (f_M_kink_94 N   h (x5 - (5000 : Int32))) else (gR h (some th) 0 4 fun v6 => aI h 50 v6 ((2 : Int32) + x5) fun v7 => f_M_kink_94 N   h v7)) else (bn (x4 + (-1 : Int32)) fun v5 => f_M_kink_98 N (f_M_kink_44 N  n)  h th x3 v5 x5)))
def f_M_kink (N : Nat) (h : hS) (th : Nat) (x1 : Int32) (x2 : Int32) (x3 : Int32) : Option (Int32 × hS) := pI h (some th) 0 1 (0 : Int32) fun h1 => cv h1 (some th) 0 (fun a => f_M_isCost N h1 a x1) fun v2 h3 => if v2 = (0 : Int32) then (f_M_kink_27 N   h3 th) else (cl (f_M_isIn N h3 x3.toInt64 (0 : Int64) (1 : Int64)) fun v4 h5 => if v4 = (0 : Int32) then (f_M_kink_27 N   h5 th) else (if (0 : Int32) ≤ x2 then (cv h5 (some th) 0 (fun a => f_M_tell N h5 a x1) fun _ h7 => f_M_kink_44 N  N h7 th x3 x2 (0 : Int32)) else (f_M_kink_27 N   h5 th)))
def f_M_slope_23 (N : Nat)  (h : hS) (th : Nat) : Option (Int32 × hS) := cv h (some th) 0 (fun a => f_M_fail N h a (1 : Int32)) fun v1 h2 => some (v1, h2)
def f_M_slope_92 (N : Nat)  (h : hS) (y0 : Int64) : Option (Int32 × hS) := some (y0.toInt32, h)
def f_M_slope (N : Nat) (h : hS) (th : Nat) (x1 : Int32) (x2 : Int32) (x3 : Int32) : Option (Int32 × hS) := pI h (some th) 0 1 (0 : Int32) fun h1 => cv h1 (some th) 0 (fun a => f_M_isCost N h1 a x1) fun v2 h3 => if v2 = (0 : Int32) then (f_M_slope_23 N   h3 th) else (cl (f_M_isIn N h3 x3.toInt64 (0 : Int64) (1 : Int64)) fun v4 h5 => if v4 = (0 : Int32) then (f_M_slope_23 N   h5 th) else (cl (f_M_isX N h5 x2) fun v6 h7 => if v6 = (0 : Int32) then (cv h7 (some th) 0 (fun a => f_M_fail N h7 a (2 : Int32)) fun v26 h27 => some (v26, h27)) else (cv h7 (some th) 0 (fun a => f_M_tell N h7 a x1) fun _ h9 => if x3 = (0 : Int32) then (gR h9 (some th) 0 4 fun v18 => nn v18 fun q19 => cl (f_M_valueAt N h9 q19 x2) fun v20 h21 => gR h21 (some th) 0 4 fun v22 => nn v22 fun q23 => cl (f_M_valueAt N h21 q23 (x2 - (1 : Int32))) fun v24 h25 => f_M_slope_92 N   h25 (v20 - v24)) else (gR h9 (some th) 0 4 fun v10 => nn v10 fun q11 => cl (f_M_valueAt N h9 q11 (x2 + (1 : Int32))) fun v12 h13 => gR h13 (some th) 0 4 fun v14 => nn v14 fun q15 => cl (f_M_valueAt N h13 q15 x2) fun v16 h17 => f_M_slope_92 N   h17 (v12 - v16)))))
def f_M_tellPath_197 (N : Nat) (rc23 : hS → Nat → Int32 → Int32 → Option (Unit × hS)) (h : hS) (th : Nat) (x1 : Int32) (x4 : Int32) : Option (Unit × hS) := bn (x4 + (-1 : Int32)) fun v1 => rc23 h th x1 v1
def f_M_tellPath_23 (N : Nat)  : Nat → hS → Nat → Int32 → Int32 → Option (Unit × hS)
  | 0 => fun _ _ _ _ => none
  | n + 1 => fun h th x1 x4 => if x4 < (0 : Int32) then (some ((), h)) else (gR h (some th) 0 30 fun v1 => aI h 50 v1 (x4 + (1 : Int32)) fun v2 => cv h (some th) 0 (fun a => f_M_stepAt N h a x1 x4 (1 : Int32)) fun v3 h4 => gR h4 (some th) 0 10 fun v5 => aI h4 50 v5 x4 fun v6 => gR h4 (some th) 0 11 fun v7 => aI h4 50 v7 x4 fun v8 => cl (f_M_nearest N h4 v6 v8 v2) fun v9 h10 => cv h10 (some th) 0 (fun a => f_M_stepAt N h10 a x1 x4 (0 : Int32)) fun v11 h12 => if v11 = (3 : Int32) then (gR h12 (some th) 0 30 fun v13 => uI h12 v13 x4 (v2 - v3) fun h14 => f_M_tellPath_197 N (f_M_tellPath_23 N  n)  h14 th x1 x4) else (if v11 = (4 : Int32) then (gR h12 (some th) 0 30 fun v15 => cv h12 (some th) 0 (fun a => f_M_stepAt N h12 a x1 x4 (2 : Int32)) fun v16 h17 => cl (f_M_nearest N h17 (v2 - v16) (v2 + v3) v9) fun v18 h19 => uI h19 v15 x4 v18 fun h20 => f_M_tellPath_197 N (f_M_tellPath_23 N  n)  h20 th x1 x4) else (if v11 = (5 : Int32) then (gR h12 (some th) 0 30 fun v21 => uI h12 v21 x4 (jmn v2 v9) fun h22 => f_M_tellPath_197 N (f_M_tellPath_23 N  n)  h22 th x1 x4) else (if v11 = (6 : Int32) then (gR h12 (some th) 0 30 fun v23 => uI h12 v23 x4 (jmx v2 v9) fun h24 => f_M_tellPath_197 N (f_M_tellPath_23 N  n)  h24 th x1 x4) else (gR h12 (some th) 0 30 fun v25 => uI h12 v25 x4 v2 fun h26 => f_M_tellPath_197 N (f_M_tellPath_23 N  n)  h26 th x1 x4)))))
def f_M_tellPath (N : Nat) (h : hS) (th : Nat) (x1 : Int32) (x2 : Int32) : Option (Unit × hS) := cv h (some th) 0 (fun a => f_M_tell N h a x1) fun _ h2 => cv h2 (some th) 0 (fun a => f_M_steps N h2 a x1) fun v3 h4 => gR h4 (some th) 0 30 fun v5 => uI h4 v5 v3 x2 fun h6 => bn ((v3 - (1 : Int32))) fun v7 => f_M_tellPath_23 N  N h6 th x1 v7
def f_M_path_28 (N : Nat)  (h : hS) (th : Nat) : Option (Int32 × hS) := cv h (some th) 0 (fun a => f_M_fail N h a (1 : Int32)) fun v1 h2 => some (v1, h2)
def f_M_path (N : Nat) (h : hS) (th : Nat) (x1 : Int32) (x2 : Int32) (x3 : Int32) : Option (Int32 × hS) := pI h (some th) 0 1 (0 : Int32) fun h1 => cv h1 (some th) 0 (fun a => f_M_isCost N h1 a x1) fun v2 h3 => if v2 = (0 : Int32) then (f_M_path_28 N   h3 th) else (cv h3 (some th) 0 (fun a => f_M_steps N h3 a x1) fun v4 h5 => cl (f_M_isIn N h5 x3.toInt64 (0 : Int64) v4.toInt64) fun v6 h7 => if v6 = (0 : Int32) then (f_M_path_28 N   h7 th) else (cl (f_M_isX N h7 x2) fun v8 h9 => if v8 = (0 : Int32) then (cv h9 (some th) 0 (fun a => f_M_fail N h9 a (2 : Int32)) fun v14 h15 => some (v14, h15)) else (cv h9 (some th) 0 (fun a => f_M_tellPath N h9 a x1 x2) fun _ h11 => gR h11 (some th) 0 30 fun v12 => aI h11 50 v12 x3 fun v13 => some (v13, h11))))
def f_M_paid_191 (N : Nat)  (h : hS)  : Option (Int64 × hS) := some ((0 : Int64), h)
def f_M_paid (N : Nat) (h : hS) (th : Nat) (x1 : Int32) (x2 : Int32) (x3 : Int32) : Option (Int64 × hS) := pI h (some th) 0 1 (0 : Int32) fun h1 => cv h1 (some th) 0 (fun a => f_M_isStep N h1 a x1 x3) fun v2 h3 => if v2 = (0 : Int32) then (cv h3 (some th) 0 (fun a => f_M_fail N h3 a (1 : Int32)) fun v26 h27 => some (v26.toInt64, h27)) else (cl (f_M_isX N h3 x2) fun v4 h5 => if v4 = (0 : Int32) then (cv h5 (some th) 0 (fun a => f_M_fail N h5 a (2 : Int32)) fun v24 h25 => some (v24.toInt64, h25)) else (cv h5 (some th) 0 (fun a => f_M_tellPath N h5 a x1 x2) fun _ h7 => cv h7 (some th) 0 (fun a => f_M_stepAt N h7 a x1 x3 (1 : Int32)) fun v8 h9 => cv h9 (some th) 0 (fun a => f_M_stepAt N h9 a x1 x3 (2 : Int32)) fun v10 h11 => bn (v10.toInt64) fun v12 => gR h11 (some th) 0 30 fun v13 => aI h11 50 v13 (x3 + (1 : Int32)) fun v14 => cv h11 (some th) 0 (fun a => f_M_stepAt N h11 a x1 x3 (0 : Int32)) fun v15 h16 => if v15 = (0 : Int32) then (some ((v12 * ((jab (v14 - v8)).toInt64)), h16)) else (if v15 = (1 : Int32) then (some ((v12 * ((jmx (0 : Int32) (v14 - v8)).toInt64)), h16)) else (if v15 = (2 : Int32) then (some ((v12 * ((jmx (0 : Int32) (v8 - v14)).toInt64)), h16)) else (if v15 = (3 : Int32) then (f_M_paid_191 N   h16 ) else (if v15 = (4 : Int32) then (f_M_paid_191 N   h16 ) else (if v15 = (5 : Int32) then (f_M_paid_191 N   h16 ) else (if v15 = (6 : Int32) then (f_M_paid_191 N   h16 ) else (if v15 = (7 : Int32) then (some (v8.toInt64, h16)) else (if v15 = (8 : Int32) then (gR h16 (some th) 0 7 fun v17 => cv h16 (some th) 0 (fun a => f_M_stepAt N h16 a x1 x3 (3 : Int32)) fun v18 h19 => aR h19 60 v17 v18 fun v20 => nn v20 fun q21 => cl (f_M_valueAt N h19 q21 v14) fun v22 h23 => some (v22, h23)) else (f_M_paid_191 N   h16 )))))))))))
def f_M_stretch_34 (N : Nat)  (h : hS) (y0 : Option Nat) (y1 : Int32) : Option (Int32 × hS) := cv h y0 0 (fun a => f_M_fail N h a y1) fun v1 h2 => some (v1, h2)
def f_M_stretch_20 (N : Nat)  (h : hS) (th : Nat) (x1 : Int32) : Option (Int32 × hS) := cv h (some th) 0 (fun a => f_M_isCost N h a x1) fun v1 h2 => if v1 = (0 : Int32) then (f_M_stretch_34 N   h2 (some th) (1 : Int32)) else (f_M_stretch_34 N   h2 (some th) (2 : Int32))
def f_M_stretch_49 (N : Nat)  : Nat → hS → Nat → Int32 → Int32 → Int32 → Option (Int32 × hS)
  | 0 => fun _ _ _ _ _ => none
  | n + 1 => fun h th x1 x3 x4 => cv h (some th) 0 (fun a => f_M_steps N h a x1) fun v1 h2 => if v1 ≤ x4 then (some (x3, h2)) else (gR h2 (some th) 0 30 fun v3 => aI h2 50 v3 (x4 + (1 : Int32)) fun v4 => gR h2 (some th) 0 30 fun v5 => aI h2 50 v5 x4 fun v6 => bn ((x3 + (jab (v4 - v6)))) fun v7 => bn (x4 + (1 : Int32)) fun v8 => f_M_stretch_49 N  n h2 th x1 v7 v8)
def f_M_stretch (N : Nat) (h : hS) (th : Nat) (x1 : Int32) (x2 : Int32) : Option (Int32 × hS) := pI h (some th) 0 1 (0 : Int32) fun h1 => cv h1 (some th) 0 (fun a => f_M_isCost N h1 a x1) fun v2 h3 => if v2 = (0 : Int32) then (f_M_stretch_20 N   h3 th x1) else (cl (f_M_isX N h3 x2) fun v4 h5 => if v4 = (0 : Int32) then (f_M_stretch_20 N   h5 th x1) else (cv h5 (some th) 0 (fun a => f_M_tellPath N h5 a x1 x2) fun _ h7 => f_M_stretch_49 N  N h7 th x1 (0 : Int32) (0 : Int32)))
def f_M_off_23 (N : Nat)  (h : hS) (th : Nat) : Option (Int32 × hS) := cv h (some th) 0 (fun a => f_M_fail N h a (1 : Int32)) fun v1 h2 => some (v1, h2)
def f_M_off_178 (N : Nat) (rc128 : hS → Nat → Int64 → Int32 → Int32 → Option (Int32 × hS)) (h : hS) (th : Nat) (x5 : Int64) (x8 : Int32) (x9 : Int32) : Option (Int32 × hS) := rc128 h th x5 x8 x9
def f_M_off_128 (N : Nat)  : Nat → hS → Nat → Int64 → Int32 → Int32 → Option (Int32 × hS)
  | 0 => fun _ _ _ _ _ => none
  | n + 1 => fun h th x5 x8 x9 => if (jab (x9 - x8)) ≤ (1 : Int32) then (some (x8, h)) else (dv (2 : Int32) (bn ((x8 + ((x9 - x8) / (2 : Int32)))) fun v1 => gR h (some th) 0 4 fun v2 => nn v2 fun q3 => cl (f_M_valueAt N h q3 v1) fun v4 h5 => if (0 : Int32) < (lg_cmp v4 x5) then (f_M_off_178 N (f_M_off_128 N  n)  h5 th x5 x8 v1) else (f_M_off_178 N (f_M_off_128 N  n)  h5 th x5 v1 x9)))
def f_M_off_111 (N : Nat)  (h : hS) (th : Nat) (x4 : Int32) (x5 : Int64) (y0 : Int32) : Option (Int32 × hS) := bn ((x4 + (y0 * (1000001 : Int32)))) fun v1 => f_M_off_128 N  N h th x5 x4 v1
def f_M_off_73 (N : Nat)  (h : hS) (th : Nat) (x2 : Int32) (x3 : Int32) (y0 : Int32) : Option (Int32 × hS) := cl (f_M_somewhere N h y0) fun v1 h2 => if v1 = (-10000000 : Int32) then (some ((-10000000 : Int32), h2)) else (gR h2 (some th) 0 4 fun v3 => nn v3 fun q4 => cl (f_M_leastOf N h2 q4) fun v5 h6 => bn ((v5 + x2.toInt64)) fun v7 => if x3 = (0 : Int32) then (f_M_off_111 N   h6 th y0 v7 (-1 : Int32)) else (f_M_off_111 N   h6 th y0 v7 (1 : Int32)))
def f_M_off (N : Nat) (h : hS) (th : Nat) (x1 : Int32) (x2 : Int32) (x3 : Int32) : Option (Int32 × hS) := pI h (some th) 0 1 (0 : Int32) fun h1 => cv h1 (some th) 0 (fun a => f_M_isCost N h1 a x1) fun v2 h3 => if v2 = (0 : Int32) then (f_M_off_23 N   h3 th) else (cl (f_M_isIn N h3 x3.toInt64 (0 : Int64) (1 : Int64)) fun v4 h5 => if v4 = (0 : Int32) then (f_M_off_23 N   h5 th) else (cl (f_M_isIn N h5 x2.toInt64 (0 : Int64) (1000000 : Int64)) fun v6 h7 => if v6 = (0 : Int32) then (cv h7 (some th) 0 (fun a => f_M_fail N h7 a (2 : Int32)) fun v18 h19 => some (v18, h19)) else (cv h7 (some th) 0 (fun a => f_M_tell N h7 a x1) fun _ h9 => if x3 = (0 : Int32) then (gR h9 (some th) 0 4 fun v14 => nn v14 fun q15 => cl (f_M_flatFrom N h9 q15) fun v16 h17 => f_M_off_73 N   h17 th x2 x3 v16) else (gR h9 (some th) 0 4 fun v10 => nn v10 fun q11 => cl (f_M_flatTo N h9 q11) fun v12 h13 => f_M_off_73 N   h13 th x2 x3 v12))))
def f_M_against_23 (N : Nat)  (h : hS) (th : Nat) : Option (Int64 × hS) := cv h (some th) 0 (fun a => f_M_fail N h a (1 : Int32)) fun v1 h2 => some (v1.toInt64, h2)
def f_M_against_95 (N : Nat)  (h : hS) (y0 : Int64) : Option (Int64 × hS) := some (y0, h)
def f_M_against (N : Nat) (h : hS) (th : Nat) (x1 : Int32) (x2 : Int32) (x3 : Int32) : Option (Int64 × hS) := pI h (some th) 0 1 (0 : Int32) fun h1 => cv h1 (some th) 0 (fun a => f_M_isCost N h1 a x1) fun v2 h3 => if v2 = (0 : Int32) then (f_M_against_23 N   h3 th) else (cl (f_M_isIn N h3 x3.toInt64 (0 : Int64) (1 : Int64)) fun v4 h5 => if v4 = (0 : Int32) then (f_M_against_23 N   h5 th) else (cl (f_M_isIn N h5 x2.toInt64 (-200 : Int64) (200 : Int64)) fun v6 h7 => if v6 = (0 : Int32) then (cv h7 (some th) 0 (fun a => f_M_fail N h7 a (2 : Int32)) fun v22 h23 => some (v22.toInt64, h23)) else (cv h7 (some th) 0 (fun a => f_M_tell N h7 a x1) fun _ h9 => gR h9 (some th) 0 4 fun v10 => nn v10 fun q11 => cl (f_M_isBound N h9 q11 x2) fun v12 h13 => if v12 = (0 : Int32) then (some ((-10000000 : Int64), h13)) else (if x3 = (0 : Int32) then (gR h13 (some th) 0 4 fun v18 => nn v18 fun q19 => cl (f_M_againstOf N h13 q19 x2) fun v20 h21 => f_M_against_95 N   h21 v20) else (gR h13 (some th) 0 4 fun v14 => nn v14 fun q15 => cl (f_M_standsAt N h13 q15 x2) fun v16 h17 => f_M_against_95 N   h17 v16.toInt64)))))
def f_M_splitNow (N : Nat) (h : hS) (th : Nat) (x1 : Int32) (x2 : Int32) (x3 : Int32) : Option (Int64 × hS) := cv h (some th) 0 (fun a => f_M_tellBoth N h a x1 x2) fun _ h2 => cv h2 (some th) 0 (fun a => f_M_clearStands N h2 a ) fun _ h4 => gR h4 (some th) 0 4 fun v5 => nn v5 fun q6 => cv h4 (some th) 0 (fun a => f_M_addStands N h4 a q6) fun _ h8 => gR h8 (some th) 0 5 fun v9 => nn v9 fun q10 => cv h8 (some th) 0 (fun a => f_M_addStands N h8 a q10) fun _ h12 => cv h12 (some th) 0 (fun a => f_M_together N h12 a x3) fun v13 h14 => some (v13, h14)
def f_M_split_36 (N : Nat)  (h : hS) (y0 : Int64) : Option (Int64 × hS) := some (y0, h)
def f_M_split (N : Nat) (h : hS) (th : Nat) (x1 : Int32) (x2 : Int32) (x3 : Int32) : Option (Int64 × hS) := pI h (some th) 0 1 (0 : Int32) fun h1 => cv h1 (some th) 0 (fun a => f_M_refusal N h1 a x1 x2 x3) fun v2 h3 => if v2 ≤ (0 : Int32) then (cv h3 (some th) 0 (fun a => f_M_splitNow N h3 a x1 x2 x3) fun v4 h5 => f_M_split_36 N   h5 v4) else (cv h3 (some th) 0 (fun a => f_M_fail N h3 a v2) fun v6 h7 => f_M_split_36 N   h7 v6.toInt64)
def f_M_where (N : Nat) (h : hS) (th : Nat) (x1 : Int32) (x2 : Int32) (x3 : Int32) : Option (Int32 × hS) := pI h (some th) 0 1 (0 : Int32) fun h1 => cv h1 (some th) 0 (fun a => f_M_refusal N h1 a x1 x2 x3) fun v2 h3 => if v2 ≤ (0 : Int32) then (cv h3 (some th) 0 (fun a => f_M_splitNow N h3 a x1 x2 x3) fun v4 h5 => gR h5 (some th) 0 4 fun v6 => gI h5 (some th) 0 35 fun v7 => nn v6 fun q8 => cl (f_M_turnsTo N h5 q8 v7) fun v9 h10 => gR h10 (some th) 0 5 fun v11 => gI h10 (some th) 0 35 fun v12 => nn v11 fun q13 => cl (f_M_turnsTo N h10 q13 (v12 + (1 : Int32))) fun v14 h15 => bn ((jmx v9 (x3 - v14))) fun v16 => gR h15 (some th) 0 4 fun v17 => gI h15 (some th) 0 35 fun v18 => nn v17 fun q19 => cl (f_M_turnsTo N h15 q19 (v18 + (1 : Int32))) fun v20 h21 => gR h21 (some th) 0 5 fun v22 => gI h21 (some th) 0 35 fun v23 => nn v22 fun q24 => cl (f_M_turnsTo N h21 q24 v23) fun v25 h26 => bn ((jmn v20 (x3 - v25))) fun v27 => cl (f_M_nearest N h26 v16 v27 (0 : Int32)) fun v28 h29 => some (v28, h29)) else (cv h3 (some th) 0 (fun a => f_M_fail N h3 a v2) fun v30 h31 => some (v30, h31))
def f_M_shared_24 (N : Nat)  (h : hS) (th : Nat) : Option (Int64 × hS) := cv h (some th) 0 (fun a => f_M_fail N h a (1 : Int32)) fun v1 h2 => some (v1.toInt64, h2)
def f_M_shared_66 (N : Nat) (rc37 : hS → Nat → Int32 → Int32 → Int32 → Option (Int64 × hS)) (h : hS) (th : Nat) (x1 : Int32) (x2 : Int32) (x3 : Int32) : Option (Int64 × hS) := bn (x3 + (1 : Int32)) fun v1 => rc37 h th x1 x2 v1
def f_M_shared_37 (N : Nat)  : Nat → hS → Nat → Int32 → Int32 → Int32 → Option (Int64 × hS)
  | 0 => fun _ _ _ _ _ => none
  | n + 1 => fun h th x1 x2 x3 => if (4 : Int32) ≤ x3 then (cv h (some th) 0 (fun a => f_M_together N h a x2) fun v1 h2 => some (v1, h2)) else (if ((x1 >>> (x3 &&& 31)) &&& (1 : Int32)) = (0 : Int32) then (f_M_shared_66 N (f_M_shared_37 N  n)  h th x1 x2 x3) else (cv h (some th) 0 (fun a => f_M_tell N h a x3) fun _ h4 => gR h4 (some th) 0 4 fun v5 => nn v5 fun q6 => cv h4 (some th) 0 (fun a => f_M_addStands N h4 a q6) fun _ h8 => f_M_shared_66 N (f_M_shared_37 N  n)  h8 th x1 x2 x3))
def f_M_shared (N : Nat) (h : hS) (th : Nat) (x1 : Int32) (x2 : Int32) : Option (Int64 × hS) := pI h (some th) 0 1 (0 : Int32) fun h1 => cl (f_M_isIn N h1 x1.toInt64 (1 : Int64) (15 : Int64)) fun v2 h3 => if v2 = (0 : Int32) then (f_M_shared_24 N   h3 th) else (cl (f_M_isX N h3 x2) fun v4 h5 => if v4 = (0 : Int32) then (f_M_shared_24 N   h5 th) else (cv h5 (some th) 0 (fun a => f_M_clearStands N h5 a ) fun _ h7 => f_M_shared_37 N  N h7 th x1 x2 (0 : Int32)))
def f_M_lays_44 (N : Nat)  : Nat → hS → Nat → Nat → Int64 → Int32 → Int32 → Option (Unit × hS)
  | 0 => fun _ _ _ _ _ _ => none
  | n + 1 => fun h a0 a1 x2 x4 x5 => lnA h 51 (some a0) fun v1 => if v1 ≤ x5 then (some ((), h)) else (uJ h (some a0) x5 x2 fun h2 => aI h2 50 (some a1) ((4002 : Int32) + x5) fun v3 => bn ((x4 + v3)) fun v4 => bn ((x2 + v4.toInt64)) fun v5 => bn (x5 + (1 : Int32)) fun v6 => f_M_lays_44 N  n h2 a0 a1 v5 v4 v6)
def f_M_lays_16 (N : Nat)  : Nat → hS → Nat → Nat → Int64 → Int32 → Int32 → Option (Unit × hS)
  | 0 => fun _ _ _ _ _ _ => none
  | n + 1 => fun h a0 a1 x2 x4 x5 => if (4000 : Int32) ≤ x5 then (f_M_lays_44 N  N h a0 a1 x2 x4 (0 : Int32)) else (aI h 50 (some a1) ((2 : Int32) + x5) fun v1 => bn ((x4 + v1)) fun v2 => bn (x5 + (1 : Int32)) fun v3 => f_M_lays_16 N  n h a0 a1 x2 v2 v3)
def f_M_lays (N : Nat) (h : hS) (a0 : Nat) (a1 : Nat) : Option (Unit × hS) := cl (f_M_valueAt N h a1 (-1000 : Int32)) fun v1 h2 => aI h2 50 (some a1) (0 : Int32) fun v3 => f_M_lays_16 N  N h2 a0 a1 v1 v3 (0 : Int32)
def f_M_laysBoth_16 (N : Nat)  (h : hS)  : Option (Int32 × hS) := bz (0 : Int32) (some ((0 : Int32), h))
def f_M_laysBoth (N : Nat) (h : hS) (th : Nat) (x1 : Int32) (x2 : Int32) : Option (Int32 × hS) := cv h (some th) 0 (fun a => f_M_isCost N h a x1) fun v1 h2 => if v1 = (0 : Int32) then (f_M_laysBoth_16 N   h2 ) else (cv h2 (some th) 0 (fun a => f_M_isCost N h2 a x2) fun v3 h4 => if v3 = (0 : Int32) then (f_M_laysBoth_16 N   h4 ) else (cv h4 (some th) 0 (fun a => f_M_tellBoth N h4 a x1 x2) fun _ h6 => gR h6 (some th) 0 36 fun v7 => gR h6 (some th) 0 4 fun v8 => nn v7 fun q9 => nn v8 fun q10 => cl (f_M_lays N h6 q9 q10) fun _ h12 => gR h12 (some th) 0 37 fun v13 => gR h12 (some th) 0 5 fun v14 => nn v13 fun q15 => nn v14 fun q16 => cl (f_M_lays N h12 q15 q16) fun _ h18 => bz (1 : Int32) (some ((1 : Int32), h18))))
def f_M_leads_24 (N : Nat)  (h : hS) (th : Nat) : Option (Int32 × hS) := cv h (some th) 0 (fun a => f_M_fail N h a (1 : Int32)) fun v1 h2 => some (v1, h2)
def f_M_leads_104 (N : Nat)  (h : hS) (y0 : Int32) : Option (Int32 × hS) := some (y0, h)
def f_M_leads_87 (N : Nat) (rc43 : hS → Nat → Int32 → Int32 → Int32 → Int32 → Option (Int32 × hS)) (h : hS) (th : Nat) (x3 : Int32) (x4 : Int32) (x5 : Int32) (x6 : Int32) : Option (Int32 × hS) := bn (x6 + (-1 : Int32)) fun v1 => rc43 h th x3 x4 x5 v1
def f_M_leads_43 (N : Nat)  : Nat → hS → Nat → Int32 → Int32 → Int32 → Int32 → Option (Int32 × hS)
  | 0 => fun _ _ _ _ _ _ => none
  | n + 1 => fun h th x3 x4 x5 x6 => if x6 < (-500 : Int32) then (if x3 = (0 : Int32) then (f_M_leads_104 N   h x4) else (f_M_leads_104 N   h x5)) else (gR h (some th) 0 36 fun v1 => aJ h v1 ((1000 : Int32) + x6) fun v2 => gR h (some th) 0 37 fun v3 => aJ h v3 ((1000 : Int32) + x6) fun v4 => if (lg_cmp v2 v4) < (0 : Int32) then (bn (x4 + (1 : Int32)) fun v5 => f_M_leads_87 N (f_M_leads_43 N  n)  h th x3 v5 x6 x6) else (f_M_leads_87 N (f_M_leads_43 N  n)  h th x3 x4 x5 x6))
def f_M_leads (N : Nat) (h : hS) (th : Nat) (x1 : Int32) (x2 : Int32) (x3 : Int32) : Option (Int32 × hS) := pI h (some th) 0 1 (0 : Int32) fun h1 => cl (f_M_isIn N h1 x3.toInt64 (0 : Int64) (1 : Int64)) fun v2 h3 => if v2 = (0 : Int32) then (f_M_leads_24 N   h3 th) else (cv h3 (some th) 0 (fun a => f_M_laysBoth N h3 a x1 x2) fun v4 h5 => if v4 = (0 : Int32) then (f_M_leads_24 N   h5 th) else (f_M_leads_43 N  N h5 th x3 (0 : Int32) (-10000000 : Int32) (500 : Int32)))
def f_M_meet_22 (N : Nat)  : Nat → hS → Nat → Int32 → Option (Int32 × hS)
  | 0 => fun _ _ _ => none
  | n + 1 => fun h th x3 => if (1000 : Int32) < x3 then (some ((-10000000 : Int32), h)) else (gR h (some th) 0 36 fun v1 => aJ h v1 ((1000 : Int32) - x3) fun v2 => gR h (some th) 0 37 fun v3 => aJ h v3 ((1000 : Int32) - x3) fun v4 => if (lg_cmp v2 v4) = (0 : Int32) then (some ((-x3), h)) else (gR h (some th) 0 36 fun v5 => aJ h v5 ((1000 : Int32) + x3) fun v6 => gR h (some th) 0 37 fun v7 => aJ h v7 ((1000 : Int32) + x3) fun v8 => if (lg_cmp v6 v8) = (0 : Int32) then (some (x3, h)) else (bn (x3 + (1 : Int32)) fun v9 => f_M_meet_22 N  n h th v9)))
def f_M_meet (N : Nat) (h : hS) (th : Nat) (x1 : Int32) (x2 : Int32) : Option (Int32 × hS) := pI h (some th) 0 1 (0 : Int32) fun h1 => cv h1 (some th) 0 (fun a => f_M_laysBoth N h1 a x1 x2) fun v2 h3 => if v2 = (0 : Int32) then (cv h3 (some th) 0 (fun a => f_M_fail N h3 a (1 : Int32)) fun v4 h5 => some (v4, h5)) else (f_M_meet_22 N  N h3 th (0 : Int32))
def f_M_gap_28 (N : Nat)  : Nat → hS → Nat → Int64 → Int32 → Option (Int64 × hS)
  | 0 => fun _ _ _ _ => none
  | n + 1 => fun h th x3 x5 => if (500 : Int32) < x5 then (some (x3, h)) else (gR h (some th) 0 36 fun v1 => aJ h v1 ((1000 : Int32) + x5) fun v2 => gR h (some th) 0 37 fun v3 => aJ h v3 ((1000 : Int32) + x5) fun v4 => bn ((jmxl x3 (jabl (v2 - v4)))) fun v5 => bn (x5 + (1 : Int32)) fun v6 => f_M_gap_28 N  n h th v5 v6)
def f_M_gap (N : Nat) (h : hS) (th : Nat) (x1 : Int32) (x2 : Int32) : Option (Int64 × hS) := pI h (some th) 0 1 (0 : Int32) fun h1 => cv h1 (some th) 0 (fun a => f_M_laysBoth N h1 a x1 x2) fun v2 h3 => if v2 = (0 : Int32) then (cv h3 (some th) 0 (fun a => f_M_fail N h3 a (1 : Int32)) fun v4 h5 => some (v4.toInt64, h5)) else (f_M_gap_28 N  N h3 th (0 : Int64) (-500 : Int32))
def f_M_alike_21 (N : Nat)  (h : hS) (th : Nat) : Option (Int32 × hS) := cv h (some th) 0 (fun a => f_M_fail N h a (1 : Int32)) fun v1 h2 => some (v1, h2)
def f_M_alike_90 (N : Nat)  (h : hS) (y0 : Int32) : Option (Int32 × hS) := some (y0, h)
def f_M_alike_81 (N : Nat)  (h : hS) (x3 : Int32) : Option (Int32 × hS) := if x3 = (0 : Int32) then (f_M_alike_90 N   h (0 : Int32)) else (f_M_alike_90 N   h (1 : Int32))
def f_M_alike_74 (N : Nat) (rc38 : hS → Nat → Int32 → Int32 → Option (Int32 × hS)) (h : hS) (th : Nat) (x4 : Int32) (y0 : Int32) : Option (Int32 × hS) := bn (x4 + (1 : Int32)) fun v1 => rc38 h th y0 v1
def f_M_alike_38 (N : Nat)  : Nat → hS → Nat → Int32 → Int32 → Option (Int32 × hS)
  | 0 => fun _ _ _ _ => none
  | n + 1 => fun h th x3 x4 => gR h (some th) 0 4 fun v1 => lnA h 50 v1 fun v2 => if v2 ≤ x4 then (f_M_alike_81 N   h x3) else (if x3 = (0 : Int32) then (f_M_alike_81 N   h x3) else (gR h (some th) 0 4 fun v3 => aI h 50 v3 x4 fun v4 => gR h (some th) 0 5 fun v5 => aI h 50 v5 x4 fun v6 => if v4 = v6 then (f_M_alike_74 N (f_M_alike_38 N  n)  h th x4 (1 : Int32)) else (f_M_alike_74 N (f_M_alike_38 N  n)  h th x4 (0 : Int32))))
def f_M_alike (N : Nat) (h : hS) (th : Nat) (x1 : Int32) (x2 : Int32) : Option (Int32 × hS) := pI h (some th) 0 1 (0 : Int32) fun h1 => cv h1 (some th) 0 (fun a => f_M_isCost N h1 a x1) fun v2 h3 => if v2 = (0 : Int32) then (f_M_alike_21 N   h3 th) else (cv h3 (some th) 0 (fun a => f_M_isCost N h3 a x2) fun v4 h5 => if v4 = (0 : Int32) then (f_M_alike_21 N   h5 th) else (cv h5 (some th) 0 (fun a => f_M_tellBoth N h5 a x1 x2) fun _ h7 => f_M_alike_38 N  N h7 th (1 : Int32) (0 : Int32)))
def f_M_runsWithout (N : Nat) (h : hS) (th : Nat) (x1 : Int32) (x2 : Int32) : Option (Int32 × hS) := pI h (some th) 0 13 x2 fun h1 => gR h1 (some th) 0 2 fun v2 => nn v2 fun q3 => cv h1 (some th) 0 (fun a => f_M_runs N h1 a q3 x1) fun v4 h5 => pI h5 (some th) 0 13 (-1 : Int32) fun h6 => bz v4 (some (v4, h6))
def f_M_runsWith (N : Nat) (h : hS) (th : Nat) (x1 : Int32) (x2 : Int32) (x3 : Int32) : Option (Int32 × hS) := pI h (some th) 0 14 x2 fun h1 => pI h1 (some th) 0 15 x3 fun h2 => gR h2 (some th) 0 2 fun v3 => nn v3 fun q4 => cv h2 (some th) 0 (fun a => f_M_runs N h2 a q4 x1) fun v5 h6 => pI h6 (some th) 0 14 (-1 : Int32) fun h7 => bz v5 (some (v5, h7))
def f_M_isWeighed_25 (N : Nat)  (h : hS) (y0 : Int32) : Option (Int32 × hS) := bz y0 (some (y0, h))
def f_M_isWeighed_24 (N : Nat)  (h : hS)  : Option (Int32 × hS) := f_M_isWeighed_25 N   h (0 : Int32)
def f_M_isWeighed (N : Nat) (h : hS) (th : Nat) (x1 : Int32) (x2 : Int32) : Option (Int32 × hS) := cv h (some th) 0 (fun a => f_M_isStep N h a x1 x2) fun v1 h2 => if v1 = (0 : Int32) then (f_M_isWeighed_24 N   h2 ) else (cv h2 (some th) 0 (fun a => f_M_stepAt N h2 a x1 x2 (0 : Int32)) fun v3 h4 => if (2 : Int32) < v3 then (f_M_isWeighed_24 N   h4 ) else (f_M_isWeighed_25 N   h4 (1 : Int32)))
def f_M_heaviest_74 (N : Nat) (rc42 : hS → Nat → Int32 → Int32 → Int32 → Int32 → Option (Int32 × hS)) (h : hS) (th : Nat) (x1 : Int32) (x2 : Int32) (x3 : Int32) (x4 : Int32) : Option (Int32 × hS) := bn (x4 + (-1 : Int32)) fun v1 => rc42 h th x1 x2 x3 v1
def f_M_heaviest_42 (N : Nat)  : Nat → hS → Nat → Int32 → Int32 → Int32 → Int32 → Option (Int32 × hS)
  | 0 => fun _ _ _ _ _ _ => none
  | n + 1 => fun h th x1 x2 x3 x4 => if x4 < (0 : Int32) then (some ((-1 : Int32), h)) else (cv h (some th) 0 (fun a => f_M_runsWith N h a x1 x2 x4) fun v1 h2 => if v1 = (0 : Int32) then (f_M_heaviest_74 N (f_M_heaviest_42 N  n)  h2 th x1 x2 x3 x4) else (gR h2 (some th) 0 4 fun v3 => nn v3 fun q4 => cl (f_M_leastOf N h2 q4) fun v5 h6 => if (0 : Int32) < (lg_cmp v5 x3.toInt64) then (f_M_heaviest_74 N (f_M_heaviest_42 N  n)  h6 th x1 x2 x3 x4) else (some (x4, h6))))
def f_M_heaviest (N : Nat) (h : hS) (th : Nat) (x1 : Int32) (x2 : Int32) (x3 : Int32) : Option (Int32 × hS) := pI h (some th) 0 1 (0 : Int32) fun h1 => cv h1 (some th) 0 (fun a => f_M_isWeighed N h1 a x1 x2) fun v2 h3 => if v2 = (0 : Int32) then (cv h3 (some th) 0 (fun a => f_M_fail N h3 a (1 : Int32)) fun v8 h9 => some (v8, h9)) else (cl (f_M_isIn N h3 x3.toInt64 (0 : Int64) (100000000 : Int64)) fun v4 h5 => if v4 = (0 : Int32) then (cv h5 (some th) 0 (fun a => f_M_fail N h5 a (2 : Int32)) fun v6 h7 => some (v6, h7)) else (f_M_heaviest_42 N  N h5 th x1 x2 x3 (40 : Int32)))
def f_M_sparedBy_37 (N : Nat)  (h : hS) (y0 : Int64) : Option (Int64 × hS) := some (y0, h)
def f_M_sparedBy (N : Nat) (h : hS) (th : Nat) (x1 : Int32) (x2 : Int32) : Option (Int64 × hS) := cv h (some th) 0 (fun a => f_M_tell N h a x1) fun _ h2 => gR h2 (some th) 0 4 fun v3 => nn v3 fun q4 => cl (f_M_leastOf N h2 q4) fun v5 h6 => cv h6 (some th) 0 (fun a => f_M_runsWithout N h6 a x1 x2) fun v7 h8 => if v7 = (0 : Int32) then (f_M_sparedBy_37 N   h8 (-1000000000 : Int64)) else (gR h8 (some th) 0 4 fun v9 => nn v9 fun q10 => cl (f_M_leastOf N h8 q10) fun v11 h12 => f_M_sparedBy_37 N   h12 (v5 - v11))
def f_M_spared_29 (N : Nat)  (h : hS) (y0 : Int64) : Option (Int64 × hS) := some (y0, h)
def f_M_spared (N : Nat) (h : hS) (th : Nat) (x1 : Int32) (x2 : Int32) : Option (Int64 × hS) := pI h (some th) 0 1 (0 : Int32) fun h1 => cv h1 (some th) 0 (fun a => f_M_isStep N h1 a x1 x2) fun v2 h3 => if v2 = (0 : Int32) then (cv h3 (some th) 0 (fun a => f_M_fail N h3 a (1 : Int32)) fun v4 h5 => f_M_spared_29 N   h5 v4.toInt64) else (cv h3 (some th) 0 (fun a => f_M_sparedBy N h3 a x1 x2) fun v6 h7 => f_M_spared_29 N   h7 v6)
def f_M_dearest_66 (N : Nat) (rc26 : hS → Nat → Int32 → Int32 → Int64 → Int32 → Option (Int32 × hS)) (h : hS) (th : Nat) (x1 : Int32) (x2 : Int32) (x3 : Int64) (x5 : Int32) : Option (Int32 × hS) := bn (x5 + (1 : Int32)) fun v1 => rc26 h th x1 x2 x3 v1
def f_M_dearest_60 (N : Nat) (rc26 : hS → Nat → Int32 → Int32 → Int64 → Int32 → Option (Int32 × hS)) (h : hS) (th : Nat) (x1 : Int32) (x5 : Int32) (x6 : Int64) : Option (Int32 × hS) := f_M_dearest_66 N rc26  h th x1 x5 x6 x5
def f_M_dearest_26 (N : Nat)  : Nat → hS → Nat → Int32 → Int32 → Int64 → Int32 → Option (Int32 × hS)
  | 0 => fun _ _ _ _ _ _ => none
  | n + 1 => fun h th x1 x2 x3 x5 => cv h (some th) 0 (fun a => f_M_steps N h a x1) fun v1 h2 => if v1 ≤ x5 then (some (x2, h2)) else (cv h2 (some th) 0 (fun a => f_M_sparedBy N h2 a x1 x5) fun v3 h4 => if x2 = (-1 : Int32) then (f_M_dearest_60 N (f_M_dearest_26 N  n)  h4 th x1 x5 v3) else (if (0 : Int32) < (lg_cmp v3 x3) then (f_M_dearest_60 N (f_M_dearest_26 N  n)  h4 th x1 x5 v3) else (f_M_dearest_66 N (f_M_dearest_26 N  n)  h4 th x1 x2 x3 x5)))
def f_M_dearest (N : Nat) (h : hS) (th : Nat) (x1 : Int32) : Option (Int32 × hS) := pI h (some th) 0 1 (0 : Int32) fun h1 => cv h1 (some th) 0 (fun a => f_M_isCost N h1 a x1) fun v2 h3 => if v2 = (0 : Int32) then (cv h3 (some th) 0 (fun a => f_M_fail N h3 a (1 : Int32)) fun v4 h5 => some (v4, h5)) else (f_M_dearest_26 N  N h3 th x1 (-1 : Int32) (0 : Int64) (0 : Int32))
def f_M_becomes_24 (N : Nat)  : Nat → hS → Nat → Int32 → Int32 → Option (Int32 × hS)
  | 0 => fun _ _ _ _ => none
  | n + 1 => fun h th x1 x2 => if (161 : Int32) ≤ x2 then (gR h (some th) 0 18 fun v1 => aI h 50 v1 (0 : Int32) fun v2 => some (v2, h)) else (gR h (some th) 0 2 fun v3 => gR h (some th) 0 18 fun v4 => aI h 50 v4 x2 fun v5 => uI h v3 (((161 : Int32) * x1) + x2) v5 fun h6 => bn (x2 + (1 : Int32)) fun v7 => f_M_becomes_24 N  n h6 th x1 v7)
def f_M_becomes (N : Nat) (h : hS) (th : Nat) (x1 : Int32) : Option (Int32 × hS) := gR h (some th) 0 18 fun v1 => nn v1 fun q2 => cv h (some th) 0 (fun a => f_M_runs N h a q2 (0 : Int32)) fun v3 h4 => if v3 = (0 : Int32) then (cv h4 (some th) 0 (fun a => f_M_refuse N h4 a (1 : Int32)) fun v7 h8 => some (v7, h8)) else (cv h4 (some th) 0 (fun a => f_M_keep N h4 a ) fun _ h6 => f_M_becomes_24 N  N h6 th x1 (0 : Int32))
def f_M_takes_59 (N : Nat)  : Nat → hS → Nat → Int32 → Int32 → Option (Int32 × hS)
  | 0 => fun _ _ _ _ => none
  | n + 1 => fun h th x1 x3 => if (161 : Int32) ≤ (x3 + (4 : Int32)) then (gR h (some th) 0 18 fun v1 => aI h 50 v1 (0 : Int32) fun v2 => uI h v1 (0 : Int32) (v2 - (1 : Int32)) fun h3 => cv h3 (some th) 0 (fun a => f_M_becomes N h3 a x1) fun v4 h5 => some (v4, h5)) else (gR h (some th) 0 18 fun v6 => gR h (some th) 0 18 fun v7 => aI h 50 v7 (x3 + (4 : Int32)) fun v8 => uI h v6 x3 v8 fun h9 => bn (x3 + (1 : Int32)) fun v10 => f_M_takes_59 N  n h9 th x1 v10)
def f_M_takes_22 (N : Nat)  : Nat → hS → Nat → Int32 → Int32 → Int32 → Option (Int32 × hS)
  | 0 => fun _ _ _ _ _ => none
  | n + 1 => fun h th x1 x2 x3 => if (161 : Int32) ≤ x3 then (bn (((1 : Int32) + ((4 : Int32) * x2))) fun v1 => f_M_takes_59 N  N h th x1 v1) else (gR h (some th) 0 18 fun v2 => gR h (some th) 0 2 fun v3 => aI h 50 v3 (((161 : Int32) * x1) + x3) fun v4 => uI h v2 x3 v4 fun h5 => bn (x3 + (1 : Int32)) fun v6 => f_M_takes_22 N  n h5 th x1 x2 v6)
def f_M_takes (N : Nat) (h : hS) (th : Nat) (x1 : Int32) (x2 : Int32) : Option (Int32 × hS) := pI h (some th) 0 1 (0 : Int32) fun h1 => cv h1 (some th) 0 (fun a => f_M_isStep N h1 a x1 x2) fun v2 h3 => if v2 = (0 : Int32) then (cv h3 (some th) 0 (fun a => f_M_refuse N h3 a (1 : Int32)) fun v4 h5 => some (v4, h5)) else (f_M_takes_22 N  N h3 th x1 x2 (0 : Int32))
def f_M_copy_26 (N : Nat)  (h : hS) (th : Nat) : Option (Int32 × hS) := cv h (some th) 0 (fun a => f_M_refuse N h a (1 : Int32)) fun v1 h2 => some (v1, h2)
def f_M_copy_101 (N : Nat)  : Nat → hS → Nat → Int32 → Int32 → Int32 → Option (Int32 × hS)
  | 0 => fun _ _ _ _ _ => none
  | n + 1 => fun h th x1 x2 x4 => if (161 : Int32) ≤ x4 then (cv h (some th) 0 (fun a => f_M_becomes N h a x1) fun v1 h2 => some (v1, h2)) else (gR h (some th) 0 18 fun v3 => gR h (some th) 0 2 fun v4 => aI h 50 v4 (((161 : Int32) * x2) + x4) fun v5 => uI h v3 x4 v5 fun h6 => bn (x4 + (1 : Int32)) fun v7 => f_M_copy_101 N  n h6 th x1 x2 v7)
def f_M_copy_81 (N : Nat) (rc37 : hS → Nat → Int32 → Int32 → Int32 → Int32 → Option (Int32 × hS)) (h : hS) (th : Nat) (x1 : Int32) (x2 : Int32) (x4 : Int32) (y0 : Int32) : Option (Int32 × hS) := bn (x4 + (1 : Int32)) fun v1 => rc37 h th x1 x2 y0 v1
def f_M_copy_76 (N : Nat) (rc37 : hS → Nat → Int32 → Int32 → Int32 → Int32 → Option (Int32 × hS)) (h : hS) (th : Nat) (x1 : Int32) (x2 : Int32) (x4 : Int32) : Option (Int32 × hS) := f_M_copy_81 N rc37  h th x1 x2 x4 (1 : Int32)
def f_M_copy_80 (N : Nat) (rc37 : hS → Nat → Int32 → Int32 → Int32 → Int32 → Option (Int32 × hS)) (h : hS) (th : Nat) (x1 : Int32) (x2 : Int32) (x4 : Int32) : Option (Int32 × hS) := f_M_copy_81 N rc37  h th x1 x2 x4 (0 : Int32)
def f_M_copy_37 (N : Nat)  : Nat → hS → Nat → Int32 → Int32 → Int32 → Int32 → Option (Int32 × hS)
  | 0 => fun _ _ _ _ _ _ => none
  | n + 1 => fun h th x1 x2 x3 x4 => cv h (some th) 0 (fun a => f_M_steps N h a x2) fun v1 h2 => if v1 ≤ x4 then (if x3 = (0 : Int32) then (f_M_copy_101 N  N h2 th x1 x2 (0 : Int32)) else (cv h2 (some th) 0 (fun a => f_M_refuse N h2 a (1 : Int32)) fun v3 h4 => some (v3, h4))) else (if x3 = (0 : Int32) then (cv h2 (some th) 0 (fun a => f_M_stepAt N h2 a x2 x4 (0 : Int32)) fun v5 h6 => if v5 = (8 : Int32) then (cv h6 (some th) 0 (fun a => f_M_stepAt N h6 a x2 x4 (1 : Int32)) fun v7 h8 => if v7 = x1 then (f_M_copy_76 N (f_M_copy_37 N  n)  h8 th x1 x2 x4) else (f_M_copy_80 N (f_M_copy_37 N  n)  h8 th x1 x2 x4)) else (f_M_copy_80 N (f_M_copy_37 N  n)  h6 th x1 x2 x4)) else (f_M_copy_76 N (f_M_copy_37 N  n)  h2 th x1 x2 x4))
def f_M_copy (N : Nat) (h : hS) (th : Nat) (x1 : Int32) (x2 : Int32) : Option (Int32 × hS) := pI h (some th) 0 1 (0 : Int32) fun h1 => cv h1 (some th) 0 (fun a => f_M_isCost N h1 a x1) fun v2 h3 => if v2 = (0 : Int32) then (f_M_copy_26 N   h3 th) else (cv h3 (some th) 0 (fun a => f_M_isCost N h3 a x2) fun v4 h5 => if v4 = (0 : Int32) then (f_M_copy_26 N   h5 th) else (if x1 = x2 then (f_M_copy_26 N   h5 th) else (f_M_copy_37 N  N h5 th x1 x2 (0 : Int32) (0 : Int32))))
def f_M_tellFits_121 (N : Nat) (rc2 : hS → Nat → Int32 → Int32 → Option (Unit × hS)) (h : hS) (th : Nat) (x1 : Int32) (x2 : Int32) : Option (Unit × hS) := bn (x2 + (1 : Int32)) fun v1 => rc2 h th x1 v1
def f_M_tellFits_80 (N : Nat) (rc2 : hS → Nat → Int32 → Int32 → Option (Unit × hS)) : Nat → hS → Nat → Int32 → Int32 → Int32 → Int32 → Option (Unit × hS)
  | 0 => fun _ _ _ _ _ _ => none
  | n + 1 => fun h th x1 x2 x3 x4 => if (20 : Int32) < x4 then (f_M_tellFits_121 N rc2  h th x1 x2) else (if x3 = (0 : Int32) then (f_M_tellFits_121 N rc2  h th x1 x2) else (gR h (some th) 0 47 fun v1 => gR h (some th) 0 4 fun v2 => nn v2 fun q3 => cl (f_M_valueAt N h q3 x4) fun v4 h5 => uJ h5 v1 ((((41 : Int32) * x2) + x4) + (20 : Int32)) v4 fun h6 => bn (x4 + (1 : Int32)) fun v7 => f_M_tellFits_80 N rc2 n h6 th x1 x2 x3 v7))
def f_M_tellFits_69 (N : Nat) (rc2 : hS → Nat → Int32 → Int32 → Option (Unit × hS)) (h : hS) (th : Nat) (x1 : Int32) (x2 : Int32) (x3 : Int32) : Option (Unit × hS) := gR h (some th) 0 46 fun v1 => uZ h v1 x2 x3 fun h2 => f_M_tellFits_80 N rc2 N h2 th x1 x2 x3 (-20 : Int32)
def f_M_tellFits_62 (N : Nat) (rc2 : hS → Nat → Int32 → Int32 → Option (Unit × hS)) (rc19 : hS → Nat → Int32 → Int32 → Int32 → Int32 → Option (Unit × hS)) (h : hS) (th : Nat) (x1 : Int32) (x2 : Int32) (x4 : Int32) (y0 : Int32) : Option (Unit × hS) := bn (x4 + (1 : Int32)) fun v1 => rc19 h th x1 x2 y0 v1
def f_M_tellFits_19 (N : Nat) (rc2 : hS → Nat → Int32 → Int32 → Option (Unit × hS)) : Nat → hS → Nat → Int32 → Int32 → Int32 → Int32 → Option (Unit × hS)
  | 0 => fun _ _ _ _ _ _ => none
  | n + 1 => fun h th x1 x2 x3 x4 => gI h (some th) 0 43 fun v1 => if v1 ≤ x4 then (f_M_tellFits_69 N rc2  h th x1 x2 x3) else (if x3 = (0 : Int32) then (f_M_tellFits_69 N rc2  h th x1 x2 x3) else (gR h (some th) 0 4 fun v2 => gR h (some th) 0 44 fun v3 => aI h 50 v3 x4 fun v4 => nn v2 fun q5 => cl (f_M_valueAt N h q5 v4) fun v6 h7 => gR h7 (some th) 0 45 fun v8 => aJ h7 v8 x4 fun v9 => if (lg_cmp v6 v9) = (0 : Int32) then (f_M_tellFits_62 N rc2 (f_M_tellFits_19 N rc2 n)  h7 th x1 x2 x4 (1 : Int32)) else (f_M_tellFits_62 N rc2 (f_M_tellFits_19 N rc2 n)  h7 th x1 x2 x4 (0 : Int32))))
def f_M_tellFits_2 (N : Nat)  : Nat → hS → Nat → Int32 → Int32 → Option (Unit × hS)
  | 0 => fun _ _ _ _ => none
  | n + 1 => fun h th x1 x2 => if (40 : Int32) < x2 then (some ((), h)) else (cv h (some th) 0 (fun a => f_M_runsWith N h a (0 : Int32) x1 x2) fun v1 h2 => f_M_tellFits_19 N (f_M_tellFits_2 N  n) N h2 th x1 x2 v1 (0 : Int32))
def f_M_tellFits (N : Nat) (h : hS) (th : Nat) (x1 : Int32) : Option (Unit × hS) := f_M_tellFits_2 N  N h th x1 (0 : Int32)
def f_M_fits_24 (N : Nat)  (h : hS) (th : Nat) : Option (Int32 × hS) := cv h (some th) 0 (fun a => f_M_fail N h a (1 : Int32)) fun v1 h2 => some (v1, h2)
def f_M_fits_85 (N : Nat)  (h : hS) (y0 : Int32) : Option (Int32 × hS) := some (y0, h)
def f_M_fits_69 (N : Nat) (rc44 : hS → Nat → Int32 → Int32 → Int32 → Int32 → Option (Int32 × hS)) (h : hS) (th : Nat) (x2 : Int32) (x3 : Int32) (x4 : Int32) (x5 : Int32) : Option (Int32 × hS) := bn (x5 + (-1 : Int32)) fun v1 => rc44 h th x2 x3 x4 v1
def f_M_fits_44 (N : Nat)  : Nat → hS → Nat → Int32 → Int32 → Int32 → Int32 → Option (Int32 × hS)
  | 0 => fun _ _ _ _ _ _ => none
  | n + 1 => fun h th x2 x3 x4 x5 => if x5 < (0 : Int32) then (if x2 = (0 : Int32) then (f_M_fits_85 N   h x3) else (f_M_fits_85 N   h x4)) else (gR h (some th) 0 46 fun v1 => aI h 53 v1 x5 fun v2 => if v2 = (0 : Int32) then (f_M_fits_69 N (f_M_fits_44 N  n)  h th x2 x3 x4 x5) else (bn (x3 + (1 : Int32)) fun v3 => f_M_fits_69 N (f_M_fits_44 N  n)  h th x2 v3 x5 x5))
def f_M_fits (N : Nat) (h : hS) (th : Nat) (x1 : Int32) (x2 : Int32) : Option (Int32 × hS) := pI h (some th) 0 1 (0 : Int32) fun h1 => cv h1 (some th) 0 (fun a => f_M_isWeighed N h1 a (0 : Int32) x1) fun v2 h3 => if v2 = (0 : Int32) then (f_M_fits_24 N   h3 th) else (cl (f_M_isIn N h3 x2.toInt64 (0 : Int64) (1 : Int64)) fun v4 h5 => if v4 = (0 : Int32) then (f_M_fits_24 N   h5 th) else (cv h5 (some th) 0 (fun a => f_M_tellFits N h5 a x1) fun _ h7 => f_M_fits_44 N  N h7 th x2 (0 : Int32) (-1 : Int32) (40 : Int32)))
def f_M_look_24 (N : Nat)  (h : hS) (th : Nat) : Option (Int32 × hS) := cv h (some th) 0 (fun a => f_M_fail N h a (1 : Int32)) fun v1 h2 => some (v1, h2)
def f_M_look_94 (N : Nat)  (h : hS) (y0 : Int32) : Option (Int32 × hS) := some (y0, h)
def f_M_look_78 (N : Nat) (rc46 : hS → Nat → Int32 → Int32 → Int32 → Int32 → Option (Int32 × hS)) (h : hS) (th : Nat) (x2 : Int32) (x3 : Int32) (x4 : Int32) (x5 : Int32) : Option (Int32 × hS) := bn (x5 + (1 : Int32)) fun v1 => rc46 h th x2 x3 x4 v1
def f_M_look_46 (N : Nat)  : Nat → hS → Nat → Int32 → Int32 → Int32 → Int32 → Option (Int32 × hS)
  | 0 => fun _ _ _ _ _ _ => none
  | n + 1 => fun h th x2 x3 x4 x5 => if (20 : Int32) < x5 then (if x2 = (0 : Int32) then (f_M_look_94 N   h x3) else (f_M_look_94 N   h x4)) else (cv h (some th) 0 (fun a => f_M_unlike N h a x5) fun v1 h2 => if x4 < v1 then (f_M_look_78 N (f_M_look_46 N  n)  h2 th x2 x5 v1 x5) else (f_M_look_78 N (f_M_look_46 N  n)  h2 th x2 x3 x4 x5))
def f_M_look (N : Nat) (h : hS) (th : Nat) (x1 : Int32) (x2 : Int32) : Option (Int32 × hS) := pI h (some th) 0 1 (0 : Int32) fun h1 => cv h1 (some th) 0 (fun a => f_M_isWeighed N h1 a (0 : Int32) x1) fun v2 h3 => if v2 = (0 : Int32) then (f_M_look_24 N   h3 th) else (cl (f_M_isIn N h3 x2.toInt64 (0 : Int64) (1 : Int64)) fun v4 h5 => if v4 = (0 : Int32) then (f_M_look_24 N   h5 th) else (cv h5 (some th) 0 (fun a => f_M_tellFits N h5 a x1) fun _ h7 => f_M_look_46 N  N h7 th x2 (-10000000 : Int32) (0 : Int32) (-20 : Int32)))
def f_M_happens_170 (N : Nat)  (h : hS)  : Option (Unit × hS) := some ((), h)
def f_M_happens_134 (N : Nat)  (h : hS) (th : Nat) (x2 : Int32) (x3 : Int32) (y0 : Int32) : Option (Unit × hS) := gR h (some th) 0 5 fun v1 => gR h (some th) 0 4 fun v2 => nn v1 fun q3 => nn v2 fun q4 => cl (f_M_copyTo N h q3 q4) fun _ h6 => cv h6 (some th) 0 (fun a => f_M_goes N h6 a x2 x3 y0 (-1 : Int32)) fun v7 h8 => if v7 = (0 : Int32) then (gR h8 (some th) 0 4 fun v9 => gR h8 (some th) 0 5 fun v10 => nn v9 fun q11 => nn v10 fun q12 => cl (f_M_copyTo N h8 q11 q12) fun _ h14 => f_M_happens_170 N   h14 ) else (f_M_happens_170 N   h8 )
def f_M_happens_104 (N : Nat)  (h : hS) (th : Nat) (x1 : Int32) (x2 : Int32) (y0 : Int32) : Option (Unit × hS) := if (4 : Int32) ≤ x1 then (if x1 = (5 : Int32) then (cv h (some th) 0 (fun a => f_M_draw N h a (6 : Int32)) fun v1 h2 => f_M_happens_134 N   h2 th x2 y0 v1) else (f_M_happens_134 N   h th x2 y0 (0 : Int32))) else (cv h (some th) 0 (fun a => f_M_draw N h a (10 : Int32)) fun v3 h4 => f_M_happens_134 N   h4 th x2 y0 v3)
def f_M_happens_39 (N : Nat)  (h : hS) (th : Nat) (x1 : Int32) (y0 : Int32) : Option (Unit × hS) := if (4 : Int32) ≤ x1 then (if x1 = (4 : Int32) then (cv h (some th) 0 (fun a => f_M_draw N h a (21 : Int32)) fun v5 h6 => f_M_happens_104 N   h6 th x1 y0 (v5 - (10 : Int32))) else (if x1 = (5 : Int32) then (cv h (some th) 0 (fun a => f_M_draw N h a (6 : Int32)) fun v3 h4 => f_M_happens_104 N   h4 th x1 y0 v3) else (if x1 = (7 : Int32) then (cv h (some th) 0 (fun a => f_M_draw N h a (10 : Int32)) fun v1 h2 => f_M_happens_104 N   h2 th x1 y0 v1) else (f_M_happens_104 N   h th x1 y0 (0 : Int32))))) else (cv h (some th) 0 (fun a => f_M_draw N h a (101 : Int32)) fun v7 h8 => f_M_happens_104 N   h8 th x1 y0 (v7 - (50 : Int32)))
def f_M_happens (N : Nat) (h : hS) (th : Nat) : Option (Unit × hS) := cv h (some th) 0 (fun a => f_M_draw N h a (8 : Int32)) fun v1 h2 => if (3 : Int32) ≤ v1 then (if v1 = (3 : Int32) then (f_M_happens_39 N   h2 th v1 (2 : Int32)) else (if v1 = (7 : Int32) then (f_M_happens_39 N   h2 th v1 (7 : Int32)) else (f_M_happens_39 N   h2 th v1 (v1 - (1 : Int32))))) else (f_M_happens_39 N   h2 th v1 v1)
def f_M_years_110 (N : Nat)  (h : hS) (y0 : Int64) : Option (Int64 × hS) := some (y0, h)
def f_M_years_56 (N : Nat)  : Nat → hS → Nat → Int32 → Int32 → Int32 → Option (Int64 × hS)
  | 0 => fun _ _ _ _ _ => none
  | n + 1 => fun h th x2 x3 x4 => if x2 ≤ x4 then (if x3 = (0 : Int32) then (gR h (some th) 0 4 fun v9 => nn v9 fun q10 => cl (f_M_leastOf N h q10) fun v11 h12 => f_M_years_110 N   h12 v11) else (if x3 = (1 : Int32) then (gR h (some th) 0 4 fun v5 => nn v5 fun q6 => cl (f_M_kinks N h q6) fun v7 h8 => f_M_years_110 N   h8 v7.toInt64) else (gR h (some th) 0 4 fun v1 => nn v1 fun q2 => cl (f_M_valueAt N h q2 (0 : Int32)) fun v3 h4 => f_M_years_110 N   h4 v3))) else (cv h (some th) 0 (fun a => f_M_happens N h a ) fun _ h14 => bn (x4 + (1 : Int32)) fun v15 => f_M_years_56 N  n h14 th x2 x3 v15)
def f_M_years (N : Nat) (h : hS) (th : Nat) (x1 : Int32) (x2 : Int32) (x3 : Int32) : Option (Int64 × hS) := pI h (some th) 0 1 (0 : Int32) fun h1 => cl (f_M_isIn N h1 x3.toInt64 (0 : Int64) (2 : Int64)) fun v2 h3 => if v2 = (0 : Int32) then (cv h3 (some th) 0 (fun a => f_M_fail N h3 a (1 : Int32)) fun v11 h12 => some (v11.toInt64, h12)) else (cl (f_M_isIn N h3 x2.toInt64 (0 : Int64) (20 : Int64)) fun v4 h5 => if v4 = (0 : Int32) then (cv h5 (some th) 0 (fun a => f_M_fail N h5 a (2 : Int32)) fun v9 h10 => some (v9.toInt64, h10)) else (cv h5 (some th) 0 (fun a => f_M_tell N h5 a (0 : Int32)) fun _ h7 => pI h7 (some th) 0 48 x1 fun h8 => f_M_years_56 N  N h8 th x2 x3 (0 : Int32)))
theorem sh_M_goes_186 (N : Nat)  : ∀  (h : hS) (y0 : Int32), Sh h (f_M_goes_186 N   h y0) := by
  intro h y0
  unfold f_M_goes_186
  exact Sh_bz Sh_some
theorem sh_M_goes_185 (N : Nat)  : ∀  (h : hS) , Sh h (f_M_goes_185 N   h ) := by
  intro h 
  unfold f_M_goes_185
  exact sh_M_goes_186 N   h (0 : Int32)
theorem sh_M_goes_147 (N : Nat)  : ∀  (h : hS) (th : Nat), Sh h (f_M_goes_147 N   h th) := by
  intro h th
  unfold f_M_goes_147
  refine Sh_gI (fun v1 => ?_)
  refine Sh_ite ?_ ?_
  · refine Sh_gR (fun v2 => ?_)
    refine Sh_nn (fun q3 => ?_)
    refine Sh_cl (sh_M_weights N h q3) (fun v4 h5 => ?_)
    refine Sh_ite ?_ ?_
    · exact sh_M_goes_185 N   h5 
    · refine Sh_gR (fun v6 => ?_)
      refine Sh_nn (fun q7 => ?_)
      refine Sh_cl (sh_M_leastOf N h5 q7) (fun v8 h9 => ?_)
      refine Sh_ite ?_ ?_
      · exact sh_M_goes_185 N   h9 
      · exact sh_M_goes_186 N   h9 (1 : Int32)
  · exact sh_M_goes_185 N   h 
theorem sh_M_goes (N : Nat) (h : hS) (th : Nat) (x1 : Int32) (x2 : Int32) (x3 : Int32) (x4 : Int32) : Sh h (f_M_goes N h th x1 x2 x3 x4) := by
  unfold f_M_goes
  refine Sh_pZ (fun h1 => ?_)
  refine Sh_ite ?_ ?_
  ·
    refine Sh_cv (fun a => (sh_M_leans N h1 a x2 x3 x3)) (fun v2 h3 => ?_)
    exact sh_M_goes_147 N   h3 th
  ·
    refine Sh_ite ?_ ?_
    ·
      refine Sh_cv (fun a => (sh_M_leans N h1 a x2 (0 : Int32) x3)) (fun v4 h5 => ?_)
      exact sh_M_goes_147 N   h5 th
    ·
      refine Sh_ite ?_ ?_
      ·
        refine Sh_cv (fun a => (sh_M_leans N h1 a x2 x3 (0 : Int32))) (fun v6 h7 => ?_)
        exact sh_M_goes_147 N   h7 th
      ·
        refine Sh_ite ?_ ?_
        ·
          refine Sh_cv (fun a => (sh_M_drifts N h1 a x2)) (fun v8 h9 => ?_)
          exact sh_M_goes_147 N   h9 th
        ·
          refine Sh_ite ?_ ?_
          ·
            refine Sh_cv (fun a => (sh_M_parts N h1 a x2 x3 (1 : Int32) (1 : Int32))) (fun v10 h11 => ?_)
            exact sh_M_goes_147 N   h11 th
          ·
            refine Sh_ite ?_ ?_
            ·
              refine Sh_cv (fun a => (sh_M_parts N h1 a (0 : Int32) (0 : Int32) (1 : Int32) (0 : Int32))) (fun v12 h13 => ?_)
              exact sh_M_goes_147 N   h13 th
            ·
              refine Sh_ite ?_ ?_
              ·
                refine Sh_cv (fun a => (sh_M_parts N h1 a (0 : Int32) (0 : Int32) (0 : Int32) (1 : Int32))) (fun v14 h15 => ?_)
                exact sh_M_goes_147 N   h15 th
              ·
                refine Sh_ite ?_ ?_
                ·
                  refine Sh_gR (fun v16 => ?_)
                  refine Sh_aI (fun v17 => ?_)
                  refine Sh_uI (fun h18 => ?_)
                  exact sh_M_goes_147 N   h18 th
                ·
                  refine Sh_gR (fun v19 => ?_)
                  refine Sh_aR (fun v20 => ?_)
                  refine Sh_nn (fun q21 => ?_)
                  refine Sh_cv (fun a => (sh_M_putsOn N h1 a q21)) (fun v22 h23 => ?_)
                  exact sh_M_goes_147 N   h23 th
theorem sh_M_runs_157 (N : Nat)  : ∀  (h : hS) (y0 : Int32), Sh h (f_M_runs_157 N   h y0) := by
  intro h y0
  unfold f_M_runs_157
  exact Sh_bz Sh_some
theorem sh_M_runs_144 (N : Nat)  : ∀  (h : hS) (th : Nat), Sh h (f_M_runs_144 N   h th) := by
  intro h th
  unfold f_M_runs_144
  refine Sh_gI (fun v1 => ?_)
  refine Sh_ite ?_ ?_
  · exact sh_M_runs_157 N   h (1 : Int32)
  · exact sh_M_runs_157 N   h (0 : Int32)
theorem sh_M_runs_138 (N : Nat) {rc21 : hS → Nat → Nat → Int32 → Int32 → Option (Int32 × hS)} (hsh21 : ∀ (h : hS) (th : Nat) (a1 : Nat) (x3 : Int32) (x4 : Int32), Sh h (rc21 h th a1 x3 x4)) : ∀  (h : hS) (th : Nat) (a1 : Nat) (x3 : Int32) (x4 : Int32), Sh h (f_M_runs_138 N rc21  h th a1 x3 x4) := by
  intro h th a1 x3 x4
  unfold f_M_runs_138
  refine Sh_bn (fun v1 => ?_)
  exact hsh21 h th a1 x3 v1
theorem sh_M_runs_120 (N : Nat) {rc21 : hS → Nat → Nat → Int32 → Int32 → Option (Int32 × hS)} (hsh21 : ∀ (h : hS) (th : Nat) (a1 : Nat) (x3 : Int32) (x4 : Int32), Sh h (rc21 h th a1 x3 x4)) : ∀  (h : hS) (th : Nat) (a1 : Nat) (x3 : Int32) (x4 : Int32) (x5 : Int32) (y0 : Option Nat) (y1 : Int32) (y2 : Int32) (y3 : Int32), Sh h (f_M_runs_120 N rc21  h th a1 x3 x4 x5 y0 y1 y2 y3) := by
  intro h th a1 x3 x4 x5 y0 y1 y2 y3
  unfold f_M_runs_120
  refine Sh_aI (fun v1 => ?_)
  refine Sh_cv (fun a => (sh_M_goes N h a y1 y2 y3 v1)) (fun v2 h3 => ?_)
  refine Sh_ite ?_ ?_
  · refine Sh_pI (fun h4 => ?_)
    exact sh_M_runs_138 N hsh21  h4 th a1 x3 x4
  · exact sh_M_runs_138 N hsh21  h3 th a1 x3 x4
theorem sh_M_runs_21 (N : Nat)  : ∀ (n : Nat) (h : hS) (th : Nat) (a1 : Nat) (x3 : Int32) (x4 : Int32), Sh h (f_M_runs_21 N  n h th a1 x3 x4) := by
  intro n
  induction n with
  | zero =>
    intro h th a1 x3 x4
    exact Sh_none
  | succ n ih =>
    intro h th a1 x3 x4
    unfold f_M_runs_21
    refine Sh_aI (fun v1 => ?_)
    refine Sh_ite ?_ ?_
    · exact sh_M_runs_144 N   h th
    · refine Sh_gI (fun v2 => ?_)
      refine Sh_ite ?_ ?_
      · refine Sh_gR (fun v3 => ?_)
        refine Sh_gR (fun v4 => ?_)
        refine Sh_nn (fun q5 => ?_)
        refine Sh_cl (sh_M_flatFrom N h q5) (fun v6 h7 => ?_)
        refine Sh_uI (fun h8 => ?_)
        refine Sh_gR (fun v9 => ?_)
        refine Sh_gR (fun v10 => ?_)
        refine Sh_nn (fun q11 => ?_)
        refine Sh_cl (sh_M_flatTo N h8 q11) (fun v12 h13 => ?_)
        refine Sh_uI (fun h14 => ?_)
        refine Sh_gI (fun v15 => ?_)
        refine Sh_ite ?_ ?_
        · exact sh_M_runs_138 N ih  h14 th a1 x3 x4
        · refine Sh_bn (fun v16 => ?_)
          refine Sh_aI (fun v17 => ?_)
          refine Sh_aI (fun v18 => ?_)
          refine Sh_gI (fun v19 => ?_)
          refine Sh_ite ?_ ?_
          · refine Sh_gI (fun v21 => ?_)
            exact sh_M_runs_120 N ih  h14 th a1 x3 x4 v16 (some th) v17 v18 v21
          · refine Sh_aI (fun v20 => ?_)
            exact sh_M_runs_120 N ih  h14 th a1 x3 x4 v16 (some th) v17 v18 v20
      · exact sh_M_runs_144 N   h th
theorem sh_M_runs (N : Nat) (h : hS) (th : Nat) (a1 : Nat) (x2 : Int32) : Sh h (f_M_runs N h th a1 x2) := by
  unfold f_M_runs
  refine Sh_gR (fun v1 => ?_)
  refine Sh_nn (fun q2 => ?_)
  refine Sh_cl (sh_M_clear N h q2) (fun v3 h4 => ?_)
  refine Sh_pI (fun h5 => ?_)
  refine Sh_bn (fun v6 => ?_)
  exact sh_M_runs_21 N  N h5 th a1 v6 (0 : Int32)
theorem sh_M_tell (N : Nat) (h : hS) (th : Nat) (x1 : Int32) : Sh h (f_M_tell N h th x1) := by
  unfold f_M_tell
  refine Sh_gR (fun v1 => ?_)
  refine Sh_nn (fun q2 => ?_)
  refine Sh_cv (fun a => (sh_M_runs N h a q2 x1)) (fun v3 h4 => ?_)
  exact Sh_some
theorem sh_M_tellBoth (N : Nat) (h : hS) (th : Nat) (x1 : Int32) (x2 : Int32) : Sh h (f_M_tellBoth N h th x1 x2) := by
  unfold f_M_tellBoth
  refine Sh_cv (fun a => (sh_M_tell N h a x2)) (fun v1 h2 => ?_)
  refine Sh_gR (fun v3 => ?_)
  refine Sh_gR (fun v4 => ?_)
  refine Sh_nn (fun q5 => ?_)
  refine Sh_nn (fun q6 => ?_)
  refine Sh_cl (sh_M_copyTo N h2 q5 q6) (fun v7 h8 => ?_)
  refine Sh_cv (fun a => (sh_M_tell N h8 a x1)) (fun v9 h10 => ?_)
  exact Sh_some
theorem sh_M_at_34 (N : Nat)  : ∀  (h : hS) (y0 : Option Nat) (y1 : Int32), Sh h (f_M_at_34 N   h y0 y1) := by
  intro h y0 y1
  unfold f_M_at_34
  refine Sh_cv (fun a => (sh_M_fail N h a y1)) (fun v1 h2 => ?_)
  exact Sh_some
theorem sh_M_at_20 (N : Nat)  : ∀  (h : hS) (th : Nat) (x1 : Int32), Sh h (f_M_at_20 N   h th x1) := by
  intro h th x1
  unfold f_M_at_20
  refine Sh_cv (fun a => (sh_M_isCost N h a x1)) (fun v1 h2 => ?_)
  refine Sh_ite ?_ ?_
  · exact sh_M_at_34 N   h2 (some th) (1 : Int32)
  · exact sh_M_at_34 N   h2 (some th) (2 : Int32)
theorem sh_M_at (N : Nat) (h : hS) (th : Nat) (x1 : Int32) (x2 : Int32) : Sh h (f_M_at N h th x1 x2) := by
  unfold f_M_at
  refine Sh_pI (fun h1 => ?_)
  refine Sh_cv (fun a => (sh_M_isCost N h1 a x1)) (fun v2 h3 => ?_)
  refine Sh_ite ?_ ?_
  · exact sh_M_at_20 N   h3 th x1
  · refine Sh_cl (sh_M_isX N h3 x2) (fun v4 h5 => ?_)
    refine Sh_ite ?_ ?_
    · exact sh_M_at_20 N   h5 th x1
    · refine Sh_cv (fun a => (sh_M_tell N h5 a x1)) (fun v6 h7 => ?_)
      refine Sh_gR (fun v8 => ?_)
      refine Sh_nn (fun q9 => ?_)
      refine Sh_cl (sh_M_valueAt N h7 q9 x2) (fun v10 h11 => ?_)
      exact Sh_some
theorem sh_M_least (N : Nat) (h : hS) (th : Nat) (x1 : Int32) : Sh h (f_M_least N h th x1) := by
  unfold f_M_least
  refine Sh_pI (fun h1 => ?_)
  refine Sh_cv (fun a => (sh_M_isCost N h1 a x1)) (fun v2 h3 => ?_)
  refine Sh_ite ?_ ?_
  · refine Sh_cv (fun a => (sh_M_fail N h3 a (1 : Int32))) (fun v10 h11 => ?_)
    exact Sh_some
  · refine Sh_cv (fun a => (sh_M_tell N h3 a x1)) (fun v4 h5 => ?_)
    refine Sh_gR (fun v6 => ?_)
    refine Sh_nn (fun q7 => ?_)
    refine Sh_cl (sh_M_leastOf N h5 q7) (fun v8 h9 => ?_)
    exact Sh_some
theorem sh_M_flat_25 (N : Nat)  : ∀  (h : hS) (th : Nat), Sh h (f_M_flat_25 N   h th) := by
  intro h th
  unfold f_M_flat_25
  refine Sh_cv (fun a => (sh_M_fail N h a (1 : Int32))) (fun v1 h2 => ?_)
  exact Sh_some
theorem sh_M_flat_114 (N : Nat)  : ∀  (h : hS) (y0 : Int32), Sh h (f_M_flat_114 N   h y0) := by
  intro h y0
  unfold f_M_flat_114
  exact Sh_some
theorem sh_M_flat (N : Nat) (h : hS) (th : Nat) (x1 : Int32) (x2 : Int32) : Sh h (f_M_flat N h th x1 x2) := by
  unfold f_M_flat
  refine Sh_pI (fun h1 => ?_)
  refine Sh_cv (fun a => (sh_M_isCost N h1 a x1)) (fun v2 h3 => ?_)
  refine Sh_ite ?_ ?_
  · exact sh_M_flat_25 N   h3 th
  · refine Sh_cl (sh_M_isIn N h3 x2.toInt64 (0 : Int64) (4 : Int64)) (fun v4 h5 => ?_)
    refine Sh_ite ?_ ?_
    · exact sh_M_flat_25 N   h5 th
    · refine Sh_cv (fun a => (sh_M_tell N h5 a x1)) (fun v6 h7 => ?_)
      refine Sh_gR (fun v8 => ?_)
      refine Sh_nn (fun q9 => ?_)
      refine Sh_cl (sh_M_flatFrom N h7 q9) (fun v10 h11 => ?_)
      refine Sh_gR (fun v12 => ?_)
      refine Sh_nn (fun q13 => ?_)
      refine Sh_cl (sh_M_flatTo N h11 q13) (fun v14 h15 => ?_)
      refine Sh_ite ?_ ?_
      · refine Sh_cl (sh_M_somewhere N h15 v10) (fun v28 h29 => ?_)
        exact sh_M_flat_114 N   h29 v28
      · refine Sh_ite ?_ ?_
        · refine Sh_cl (sh_M_somewhere N h15 v14) (fun v26 h27 => ?_)
          exact sh_M_flat_114 N   h27 v26
        · refine Sh_ite ?_ ?_
          · refine Sh_cl (sh_M_nearest N h15 v10 v14 (0 : Int32)) (fun v24 h25 => ?_)
            exact sh_M_flat_114 N   h25 v24
          · refine Sh_ite ?_ ?_
            · refine Sh_gR (fun v20 => ?_)
              refine Sh_nn (fun q21 => ?_)
              refine Sh_cl (sh_M_kinks N h15 q21) (fun v22 h23 => ?_)
              exact sh_M_flat_114 N   h23 v22
            · refine Sh_gR (fun v16 => ?_)
              refine Sh_nn (fun q17 => ?_)
              refine Sh_cl (sh_M_weights N h15 q17) (fun v18 h19 => ?_)
              exact sh_M_flat_114 N   h19 v18
theorem sh_M_kink_27 (N : Nat)  : ∀  (h : hS) (th : Nat), Sh h (f_M_kink_27 N   h th) := by
  intro h th
  unfold f_M_kink_27
  refine Sh_cv (fun a => (sh_M_fail N h a (1 : Int32))) (fun v1 h2 => ?_)
  exact Sh_some
theorem sh_M_kink_98 (N : Nat) {rc44 : hS → Nat → Int32 → Int32 → Int32 → Option (Int32 × hS)} (hsh44 : ∀ (h : hS) (th : Nat) (x3 : Int32) (x4 : Int32) (x5 : Int32), Sh h (rc44 h th x3 x4 x5)) : ∀  (h : hS) (th : Nat) (x3 : Int32) (x4 : Int32) (x5 : Int32), Sh h (f_M_kink_98 N rc44  h th x3 x4 x5) := by
  intro h th x3 x4 x5
  unfold f_M_kink_98
  refine Sh_bn (fun v1 => ?_)
  exact hsh44 h th x3 x4 v1
theorem sh_M_kink_94 (N : Nat)  : ∀  (h : hS) (y0 : Int32), Sh h (f_M_kink_94 N   h y0) := by
  intro h y0
  unfold f_M_kink_94
  exact Sh_some
theorem sh_M_kink_44 (N : Nat)  : ∀ (n : Nat) (h : hS) (th : Nat) (x3 : Int32) (x4 : Int32) (x5 : Int32), Sh h (f_M_kink_44 N  n h th x3 x4 x5) := by
  intro n
  induction n with
  | zero =>
    intro h th x3 x4 x5
    exact Sh_none
  | succ n ih =>
    intro h th x3 x4 x5
    unfold f_M_kink_44
    refine Sh_ite ?_ ?_
    · refine Sh_cv (fun a => (sh_M_fail N h a (1 : Int32))) (fun v1 h2 => ?_)
      exact Sh_some
    · refine Sh_gR (fun v3 => ?_)
      refine Sh_aI (fun v4 => ?_)
      refine Sh_ite ?_ ?_
      · exact sh_M_kink_98 N ih  h th x3 x4 x5
      · refine Sh_ite ?_ ?_
        · refine Sh_ite ?_ ?_
          · exact sh_M_kink_94 N   h (x5 - (5000 : Int32))
          · refine Sh_gR (fun v6 => ?_)
            refine Sh_aI (fun v7 => ?_)
            exact sh_M_kink_94 N   h v7
        · refine Sh_bn (fun v5 => ?_)
          exact sh_M_kink_98 N ih  h th x3 v5 x5
theorem sh_M_kink (N : Nat) (h : hS) (th : Nat) (x1 : Int32) (x2 : Int32) (x3 : Int32) : Sh h (f_M_kink N h th x1 x2 x3) := by
  unfold f_M_kink
  refine Sh_pI (fun h1 => ?_)
  refine Sh_cv (fun a => (sh_M_isCost N h1 a x1)) (fun v2 h3 => ?_)
  refine Sh_ite ?_ ?_
  · exact sh_M_kink_27 N   h3 th
  · refine Sh_cl (sh_M_isIn N h3 x3.toInt64 (0 : Int64) (1 : Int64)) (fun v4 h5 => ?_)
    refine Sh_ite ?_ ?_
    · exact sh_M_kink_27 N   h5 th
    · refine Sh_ite ?_ ?_
      · refine Sh_cv (fun a => (sh_M_tell N h5 a x1)) (fun v6 h7 => ?_)
        exact sh_M_kink_44 N  N h7 th x3 x2 (0 : Int32)
      · exact sh_M_kink_27 N   h5 th
theorem sh_M_slope_23 (N : Nat)  : ∀  (h : hS) (th : Nat), Sh h (f_M_slope_23 N   h th) := by
  intro h th
  unfold f_M_slope_23
  refine Sh_cv (fun a => (sh_M_fail N h a (1 : Int32))) (fun v1 h2 => ?_)
  exact Sh_some
theorem sh_M_slope_92 (N : Nat)  : ∀  (h : hS) (y0 : Int64), Sh h (f_M_slope_92 N   h y0) := by
  intro h y0
  unfold f_M_slope_92
  exact Sh_some
theorem sh_M_slope (N : Nat) (h : hS) (th : Nat) (x1 : Int32) (x2 : Int32) (x3 : Int32) : Sh h (f_M_slope N h th x1 x2 x3) := by
  unfold f_M_slope
  refine Sh_pI (fun h1 => ?_)
  refine Sh_cv (fun a => (sh_M_isCost N h1 a x1)) (fun v2 h3 => ?_)
  refine Sh_ite ?_ ?_
  · exact sh_M_slope_23 N   h3 th
  · refine Sh_cl (sh_M_isIn N h3 x3.toInt64 (0 : Int64) (1 : Int64)) (fun v4 h5 => ?_)
    refine Sh_ite ?_ ?_
    · exact sh_M_slope_23 N   h5 th
    · refine Sh_cl (sh_M_isX N h5 x2) (fun v6 h7 => ?_)
      refine Sh_ite ?_ ?_
      · refine Sh_cv (fun a => (sh_M_fail N h7 a (2 : Int32))) (fun v26 h27 => ?_)
        exact Sh_some
      · refine Sh_cv (fun a => (sh_M_tell N h7 a x1)) (fun v8 h9 => ?_)
        refine Sh_ite ?_ ?_
        · refine Sh_gR (fun v18 => ?_)
          refine Sh_nn (fun q19 => ?_)
          refine Sh_cl (sh_M_valueAt N h9 q19 x2) (fun v20 h21 => ?_)
          refine Sh_gR (fun v22 => ?_)
          refine Sh_nn (fun q23 => ?_)
          refine Sh_cl (sh_M_valueAt N h21 q23 (x2 - (1 : Int32))) (fun v24 h25 => ?_)
          exact sh_M_slope_92 N   h25 (v20 - v24)
        · refine Sh_gR (fun v10 => ?_)
          refine Sh_nn (fun q11 => ?_)
          refine Sh_cl (sh_M_valueAt N h9 q11 (x2 + (1 : Int32))) (fun v12 h13 => ?_)
          refine Sh_gR (fun v14 => ?_)
          refine Sh_nn (fun q15 => ?_)
          refine Sh_cl (sh_M_valueAt N h13 q15 x2) (fun v16 h17 => ?_)
          exact sh_M_slope_92 N   h17 (v12 - v16)
theorem sh_M_tellPath_197 (N : Nat) {rc23 : hS → Nat → Int32 → Int32 → Option (Unit × hS)} (hsh23 : ∀ (h : hS) (th : Nat) (x1 : Int32) (x4 : Int32), Sh h (rc23 h th x1 x4)) : ∀  (h : hS) (th : Nat) (x1 : Int32) (x4 : Int32), Sh h (f_M_tellPath_197 N rc23  h th x1 x4) := by
  intro h th x1 x4
  unfold f_M_tellPath_197
  refine Sh_bn (fun v1 => ?_)
  exact hsh23 h th x1 v1
theorem sh_M_tellPath_23 (N : Nat)  : ∀ (n : Nat) (h : hS) (th : Nat) (x1 : Int32) (x4 : Int32), Sh h (f_M_tellPath_23 N  n h th x1 x4) := by
  intro n
  induction n with
  | zero =>
    intro h th x1 x4
    exact Sh_none
  | succ n ih =>
    intro h th x1 x4
    unfold f_M_tellPath_23
    refine Sh_ite ?_ ?_
    · exact Sh_some
    · refine Sh_gR (fun v1 => ?_)
      refine Sh_aI (fun v2 => ?_)
      refine Sh_cv (fun a => (sh_M_stepAt N h a x1 x4 (1 : Int32))) (fun v3 h4 => ?_)
      refine Sh_gR (fun v5 => ?_)
      refine Sh_aI (fun v6 => ?_)
      refine Sh_gR (fun v7 => ?_)
      refine Sh_aI (fun v8 => ?_)
      refine Sh_cl (sh_M_nearest N h4 v6 v8 v2) (fun v9 h10 => ?_)
      refine Sh_cv (fun a => (sh_M_stepAt N h10 a x1 x4 (0 : Int32))) (fun v11 h12 => ?_)
      refine Sh_ite ?_ ?_
      ·
        refine Sh_gR (fun v13 => ?_)
        refine Sh_uI (fun h14 => ?_)
        exact sh_M_tellPath_197 N ih  h14 th x1 x4
      ·
        refine Sh_ite ?_ ?_
        ·
          refine Sh_gR (fun v15 => ?_)
          refine Sh_cv (fun a => (sh_M_stepAt N h12 a x1 x4 (2 : Int32))) (fun v16 h17 => ?_)
          refine Sh_cl (sh_M_nearest N h17 (v2 - v16) (v2 + v3) v9) (fun v18 h19 => ?_)
          refine Sh_uI (fun h20 => ?_)
          exact sh_M_tellPath_197 N ih  h20 th x1 x4
        ·
          refine Sh_ite ?_ ?_
          ·
            refine Sh_gR (fun v21 => ?_)
            refine Sh_uI (fun h22 => ?_)
            exact sh_M_tellPath_197 N ih  h22 th x1 x4
          ·
            refine Sh_ite ?_ ?_
            ·
              refine Sh_gR (fun v23 => ?_)
              refine Sh_uI (fun h24 => ?_)
              exact sh_M_tellPath_197 N ih  h24 th x1 x4
            ·
              refine Sh_gR (fun v25 => ?_)
              refine Sh_uI (fun h26 => ?_)
              exact sh_M_tellPath_197 N ih  h26 th x1 x4
theorem sh_M_tellPath (N : Nat) (h : hS) (th : Nat) (x1 : Int32) (x2 : Int32) : Sh h (f_M_tellPath N h th x1 x2) := by
  unfold f_M_tellPath
  refine Sh_cv (fun a => (sh_M_tell N h a x1)) (fun v1 h2 => ?_)
  refine Sh_cv (fun a => (sh_M_steps N h2 a x1)) (fun v3 h4 => ?_)
  refine Sh_gR (fun v5 => ?_)
  refine Sh_uI (fun h6 => ?_)
  refine Sh_bn (fun v7 => ?_)
  exact sh_M_tellPath_23 N  N h6 th x1 v7
theorem sh_M_path_28 (N : Nat)  : ∀  (h : hS) (th : Nat), Sh h (f_M_path_28 N   h th) := by
  intro h th
  unfold f_M_path_28
  refine Sh_cv (fun a => (sh_M_fail N h a (1 : Int32))) (fun v1 h2 => ?_)
  exact Sh_some
theorem sh_M_path (N : Nat) (h : hS) (th : Nat) (x1 : Int32) (x2 : Int32) (x3 : Int32) : Sh h (f_M_path N h th x1 x2 x3) := by
  unfold f_M_path
  refine Sh_pI (fun h1 => ?_)
  refine Sh_cv (fun a => (sh_M_isCost N h1 a x1)) (fun v2 h3 => ?_)
  refine Sh_ite ?_ ?_
  · exact sh_M_path_28 N   h3 th
  · refine Sh_cv (fun a => (sh_M_steps N h3 a x1)) (fun v4 h5 => ?_)
    refine Sh_cl (sh_M_isIn N h5 x3.toInt64 (0 : Int64) v4.toInt64) (fun v6 h7 => ?_)
    refine Sh_ite ?_ ?_
    · exact sh_M_path_28 N   h7 th
    · refine Sh_cl (sh_M_isX N h7 x2) (fun v8 h9 => ?_)
      refine Sh_ite ?_ ?_
      · refine Sh_cv (fun a => (sh_M_fail N h9 a (2 : Int32))) (fun v14 h15 => ?_)
        exact Sh_some
      · refine Sh_cv (fun a => (sh_M_tellPath N h9 a x1 x2)) (fun v10 h11 => ?_)
        refine Sh_gR (fun v12 => ?_)
        refine Sh_aI (fun v13 => ?_)
        exact Sh_some
theorem sh_M_paid_191 (N : Nat)  : ∀  (h : hS) , Sh h (f_M_paid_191 N   h ) := by
  intro h 
  unfold f_M_paid_191
  exact Sh_some
theorem sh_M_paid (N : Nat) (h : hS) (th : Nat) (x1 : Int32) (x2 : Int32) (x3 : Int32) : Sh h (f_M_paid N h th x1 x2 x3) := by
  unfold f_M_paid
  refine Sh_pI (fun h1 => ?_)
  refine Sh_cv (fun a => (sh_M_isStep N h1 a x1 x3)) (fun v2 h3 => ?_)
  refine Sh_ite ?_ ?_
  · refine Sh_cv (fun a => (sh_M_fail N h3 a (1 : Int32))) (fun v26 h27 => ?_)
    exact Sh_some
  · refine Sh_cl (sh_M_isX N h3 x2) (fun v4 h5 => ?_)
    refine Sh_ite ?_ ?_
    · refine Sh_cv (fun a => (sh_M_fail N h5 a (2 : Int32))) (fun v24 h25 => ?_)
      exact Sh_some
    · refine Sh_cv (fun a => (sh_M_tellPath N h5 a x1 x2)) (fun v6 h7 => ?_)
      refine Sh_cv (fun a => (sh_M_stepAt N h7 a x1 x3 (1 : Int32))) (fun v8 h9 => ?_)
      refine Sh_cv (fun a => (sh_M_stepAt N h9 a x1 x3 (2 : Int32))) (fun v10 h11 => ?_)
      refine Sh_bn (fun v12 => ?_)
      refine Sh_gR (fun v13 => ?_)
      refine Sh_aI (fun v14 => ?_)
      refine Sh_cv (fun a => (sh_M_stepAt N h11 a x1 x3 (0 : Int32))) (fun v15 h16 => ?_)
      refine Sh_ite ?_ ?_
      ·
        exact Sh_some
      ·
        refine Sh_ite ?_ ?_
        ·
          exact Sh_some
        ·
          refine Sh_ite ?_ ?_
          ·
            exact Sh_some
          ·
            refine Sh_ite ?_ ?_
            ·
              exact sh_M_paid_191 N   h16 
            ·
              refine Sh_ite ?_ ?_
              ·
                exact sh_M_paid_191 N   h16 
              ·
                refine Sh_ite ?_ ?_
                ·
                  exact sh_M_paid_191 N   h16 
                ·
                  refine Sh_ite ?_ ?_
                  ·
                    exact sh_M_paid_191 N   h16 
                  ·
                    refine Sh_ite ?_ ?_
                    ·
                      exact Sh_some
                    ·
                      refine Sh_ite ?_ ?_
                      ·
                        refine Sh_gR (fun v17 => ?_)
                        refine Sh_cv (fun a => (sh_M_stepAt N h16 a x1 x3 (3 : Int32))) (fun v18 h19 => ?_)
                        refine Sh_aR (fun v20 => ?_)
                        refine Sh_nn (fun q21 => ?_)
                        refine Sh_cl (sh_M_valueAt N h19 q21 v14) (fun v22 h23 => ?_)
                        exact Sh_some
                      ·
                        exact sh_M_paid_191 N   h16 
theorem sh_M_stretch_34 (N : Nat)  : ∀  (h : hS) (y0 : Option Nat) (y1 : Int32), Sh h (f_M_stretch_34 N   h y0 y1) := by
  intro h y0 y1
  unfold f_M_stretch_34
  refine Sh_cv (fun a => (sh_M_fail N h a y1)) (fun v1 h2 => ?_)
  exact Sh_some
theorem sh_M_stretch_20 (N : Nat)  : ∀  (h : hS) (th : Nat) (x1 : Int32), Sh h (f_M_stretch_20 N   h th x1) := by
  intro h th x1
  unfold f_M_stretch_20
  refine Sh_cv (fun a => (sh_M_isCost N h a x1)) (fun v1 h2 => ?_)
  refine Sh_ite ?_ ?_
  · exact sh_M_stretch_34 N   h2 (some th) (1 : Int32)
  · exact sh_M_stretch_34 N   h2 (some th) (2 : Int32)
theorem sh_M_stretch_49 (N : Nat)  : ∀ (n : Nat) (h : hS) (th : Nat) (x1 : Int32) (x3 : Int32) (x4 : Int32), Sh h (f_M_stretch_49 N  n h th x1 x3 x4) := by
  intro n
  induction n with
  | zero =>
    intro h th x1 x3 x4
    exact Sh_none
  | succ n ih =>
    intro h th x1 x3 x4
    unfold f_M_stretch_49
    refine Sh_cv (fun a => (sh_M_steps N h a x1)) (fun v1 h2 => ?_)
    refine Sh_ite ?_ ?_
    · exact Sh_some
    · refine Sh_gR (fun v3 => ?_)
      refine Sh_aI (fun v4 => ?_)
      refine Sh_gR (fun v5 => ?_)
      refine Sh_aI (fun v6 => ?_)
      refine Sh_bn (fun v7 => ?_)
      refine Sh_bn (fun v8 => ?_)
      exact ih h2 th x1 v7 v8
theorem sh_M_stretch (N : Nat) (h : hS) (th : Nat) (x1 : Int32) (x2 : Int32) : Sh h (f_M_stretch N h th x1 x2) := by
  unfold f_M_stretch
  refine Sh_pI (fun h1 => ?_)
  refine Sh_cv (fun a => (sh_M_isCost N h1 a x1)) (fun v2 h3 => ?_)
  refine Sh_ite ?_ ?_
  · exact sh_M_stretch_20 N   h3 th x1
  · refine Sh_cl (sh_M_isX N h3 x2) (fun v4 h5 => ?_)
    refine Sh_ite ?_ ?_
    · exact sh_M_stretch_20 N   h5 th x1
    · refine Sh_cv (fun a => (sh_M_tellPath N h5 a x1 x2)) (fun v6 h7 => ?_)
      exact sh_M_stretch_49 N  N h7 th x1 (0 : Int32) (0 : Int32)
theorem sh_M_off_23 (N : Nat)  : ∀  (h : hS) (th : Nat), Sh h (f_M_off_23 N   h th) := by
  intro h th
  unfold f_M_off_23
  refine Sh_cv (fun a => (sh_M_fail N h a (1 : Int32))) (fun v1 h2 => ?_)
  exact Sh_some
theorem sh_M_off_178 (N : Nat) {rc128 : hS → Nat → Int64 → Int32 → Int32 → Option (Int32 × hS)} (hsh128 : ∀ (h : hS) (th : Nat) (x5 : Int64) (x8 : Int32) (x9 : Int32), Sh h (rc128 h th x5 x8 x9)) : ∀  (h : hS) (th : Nat) (x5 : Int64) (x8 : Int32) (x9 : Int32), Sh h (f_M_off_178 N rc128  h th x5 x8 x9) := by
  intro h th x5 x8 x9
  unfold f_M_off_178
  exact hsh128 h th x5 x8 x9
theorem sh_M_off_128 (N : Nat)  : ∀ (n : Nat) (h : hS) (th : Nat) (x5 : Int64) (x8 : Int32) (x9 : Int32), Sh h (f_M_off_128 N  n h th x5 x8 x9) := by
  intro n
  induction n with
  | zero =>
    intro h th x5 x8 x9
    exact Sh_none
  | succ n ih =>
    intro h th x5 x8 x9
    unfold f_M_off_128
    refine Sh_ite ?_ ?_
    · exact Sh_some
    · refine Sh_dv ?_
      refine Sh_bn (fun v1 => ?_)
      refine Sh_gR (fun v2 => ?_)
      refine Sh_nn (fun q3 => ?_)
      refine Sh_cl (sh_M_valueAt N h q3 v1) (fun v4 h5 => ?_)
      refine Sh_ite ?_ ?_
      · exact sh_M_off_178 N ih  h5 th x5 x8 v1
      · exact sh_M_off_178 N ih  h5 th x5 v1 x9
theorem sh_M_off_111 (N : Nat)  : ∀  (h : hS) (th : Nat) (x4 : Int32) (x5 : Int64) (y0 : Int32), Sh h (f_M_off_111 N   h th x4 x5 y0) := by
  intro h th x4 x5 y0
  unfold f_M_off_111
  refine Sh_bn (fun v1 => ?_)
  exact sh_M_off_128 N  N h th x5 x4 v1
theorem sh_M_off_73 (N : Nat)  : ∀  (h : hS) (th : Nat) (x2 : Int32) (x3 : Int32) (y0 : Int32), Sh h (f_M_off_73 N   h th x2 x3 y0) := by
  intro h th x2 x3 y0
  unfold f_M_off_73
  refine Sh_cl (sh_M_somewhere N h y0) (fun v1 h2 => ?_)
  refine Sh_ite ?_ ?_
  · exact Sh_some
  · refine Sh_gR (fun v3 => ?_)
    refine Sh_nn (fun q4 => ?_)
    refine Sh_cl (sh_M_leastOf N h2 q4) (fun v5 h6 => ?_)
    refine Sh_bn (fun v7 => ?_)
    refine Sh_ite ?_ ?_
    · exact sh_M_off_111 N   h6 th y0 v7 (-1 : Int32)
    · exact sh_M_off_111 N   h6 th y0 v7 (1 : Int32)
theorem sh_M_off (N : Nat) (h : hS) (th : Nat) (x1 : Int32) (x2 : Int32) (x3 : Int32) : Sh h (f_M_off N h th x1 x2 x3) := by
  unfold f_M_off
  refine Sh_pI (fun h1 => ?_)
  refine Sh_cv (fun a => (sh_M_isCost N h1 a x1)) (fun v2 h3 => ?_)
  refine Sh_ite ?_ ?_
  · exact sh_M_off_23 N   h3 th
  · refine Sh_cl (sh_M_isIn N h3 x3.toInt64 (0 : Int64) (1 : Int64)) (fun v4 h5 => ?_)
    refine Sh_ite ?_ ?_
    · exact sh_M_off_23 N   h5 th
    · refine Sh_cl (sh_M_isIn N h5 x2.toInt64 (0 : Int64) (1000000 : Int64)) (fun v6 h7 => ?_)
      refine Sh_ite ?_ ?_
      · refine Sh_cv (fun a => (sh_M_fail N h7 a (2 : Int32))) (fun v18 h19 => ?_)
        exact Sh_some
      · refine Sh_cv (fun a => (sh_M_tell N h7 a x1)) (fun v8 h9 => ?_)
        refine Sh_ite ?_ ?_
        · refine Sh_gR (fun v14 => ?_)
          refine Sh_nn (fun q15 => ?_)
          refine Sh_cl (sh_M_flatFrom N h9 q15) (fun v16 h17 => ?_)
          exact sh_M_off_73 N   h17 th x2 x3 v16
        · refine Sh_gR (fun v10 => ?_)
          refine Sh_nn (fun q11 => ?_)
          refine Sh_cl (sh_M_flatTo N h9 q11) (fun v12 h13 => ?_)
          exact sh_M_off_73 N   h13 th x2 x3 v12
theorem sh_M_against_23 (N : Nat)  : ∀  (h : hS) (th : Nat), Sh h (f_M_against_23 N   h th) := by
  intro h th
  unfold f_M_against_23
  refine Sh_cv (fun a => (sh_M_fail N h a (1 : Int32))) (fun v1 h2 => ?_)
  exact Sh_some
theorem sh_M_against_95 (N : Nat)  : ∀  (h : hS) (y0 : Int64), Sh h (f_M_against_95 N   h y0) := by
  intro h y0
  unfold f_M_against_95
  exact Sh_some
theorem sh_M_against (N : Nat) (h : hS) (th : Nat) (x1 : Int32) (x2 : Int32) (x3 : Int32) : Sh h (f_M_against N h th x1 x2 x3) := by
  unfold f_M_against
  refine Sh_pI (fun h1 => ?_)
  refine Sh_cv (fun a => (sh_M_isCost N h1 a x1)) (fun v2 h3 => ?_)
  refine Sh_ite ?_ ?_
  · exact sh_M_against_23 N   h3 th
  · refine Sh_cl (sh_M_isIn N h3 x3.toInt64 (0 : Int64) (1 : Int64)) (fun v4 h5 => ?_)
    refine Sh_ite ?_ ?_
    · exact sh_M_against_23 N   h5 th
    · refine Sh_cl (sh_M_isIn N h5 x2.toInt64 (-200 : Int64) (200 : Int64)) (fun v6 h7 => ?_)
      refine Sh_ite ?_ ?_
      · refine Sh_cv (fun a => (sh_M_fail N h7 a (2 : Int32))) (fun v22 h23 => ?_)
        exact Sh_some
      · refine Sh_cv (fun a => (sh_M_tell N h7 a x1)) (fun v8 h9 => ?_)
        refine Sh_gR (fun v10 => ?_)
        refine Sh_nn (fun q11 => ?_)
        refine Sh_cl (sh_M_isBound N h9 q11 x2) (fun v12 h13 => ?_)
        refine Sh_ite ?_ ?_
        · exact Sh_some
        · refine Sh_ite ?_ ?_
          · refine Sh_gR (fun v18 => ?_)
            refine Sh_nn (fun q19 => ?_)
            refine Sh_cl (sh_M_againstOf N h13 q19 x2) (fun v20 h21 => ?_)
            exact sh_M_against_95 N   h21 v20
          · refine Sh_gR (fun v14 => ?_)
            refine Sh_nn (fun q15 => ?_)
            refine Sh_cl (sh_M_standsAt N h13 q15 x2) (fun v16 h17 => ?_)
            exact sh_M_against_95 N   h17 v16.toInt64
theorem sh_M_splitNow (N : Nat) (h : hS) (th : Nat) (x1 : Int32) (x2 : Int32) (x3 : Int32) : Sh h (f_M_splitNow N h th x1 x2 x3) := by
  unfold f_M_splitNow
  refine Sh_cv (fun a => (sh_M_tellBoth N h a x1 x2)) (fun v1 h2 => ?_)
  refine Sh_cv (fun a => (sh_M_clearStands N h2 a )) (fun v3 h4 => ?_)
  refine Sh_gR (fun v5 => ?_)
  refine Sh_nn (fun q6 => ?_)
  refine Sh_cv (fun a => (sh_M_addStands N h4 a q6)) (fun v7 h8 => ?_)
  refine Sh_gR (fun v9 => ?_)
  refine Sh_nn (fun q10 => ?_)
  refine Sh_cv (fun a => (sh_M_addStands N h8 a q10)) (fun v11 h12 => ?_)
  refine Sh_cv (fun a => (sh_M_together N h12 a x3)) (fun v13 h14 => ?_)
  exact Sh_some
theorem sh_M_split_36 (N : Nat)  : ∀  (h : hS) (y0 : Int64), Sh h (f_M_split_36 N   h y0) := by
  intro h y0
  unfold f_M_split_36
  exact Sh_some
theorem sh_M_split (N : Nat) (h : hS) (th : Nat) (x1 : Int32) (x2 : Int32) (x3 : Int32) : Sh h (f_M_split N h th x1 x2 x3) := by
  unfold f_M_split
  refine Sh_pI (fun h1 => ?_)
  refine Sh_cv (fun a => (sh_M_refusal N h1 a x1 x2 x3)) (fun v2 h3 => ?_)
  refine Sh_ite ?_ ?_
  · refine Sh_cv (fun a => (sh_M_splitNow N h3 a x1 x2 x3)) (fun v4 h5 => ?_)
    exact sh_M_split_36 N   h5 v4
  · refine Sh_cv (fun a => (sh_M_fail N h3 a v2)) (fun v6 h7 => ?_)
    exact sh_M_split_36 N   h7 v6.toInt64
theorem sh_M_where (N : Nat) (h : hS) (th : Nat) (x1 : Int32) (x2 : Int32) (x3 : Int32) : Sh h (f_M_where N h th x1 x2 x3) := by
  unfold f_M_where
  refine Sh_pI (fun h1 => ?_)
  refine Sh_cv (fun a => (sh_M_refusal N h1 a x1 x2 x3)) (fun v2 h3 => ?_)
  refine Sh_ite ?_ ?_
  · refine Sh_cv (fun a => (sh_M_splitNow N h3 a x1 x2 x3)) (fun v4 h5 => ?_)
    refine Sh_gR (fun v6 => ?_)
    refine Sh_gI (fun v7 => ?_)
    refine Sh_nn (fun q8 => ?_)
    refine Sh_cl (sh_M_turnsTo N h5 q8 v7) (fun v9 h10 => ?_)
    refine Sh_gR (fun v11 => ?_)
    refine Sh_gI (fun v12 => ?_)
    refine Sh_nn (fun q13 => ?_)
    refine Sh_cl (sh_M_turnsTo N h10 q13 (v12 + (1 : Int32))) (fun v14 h15 => ?_)
    refine Sh_bn (fun v16 => ?_)
    refine Sh_gR (fun v17 => ?_)
    refine Sh_gI (fun v18 => ?_)
    refine Sh_nn (fun q19 => ?_)
    refine Sh_cl (sh_M_turnsTo N h15 q19 (v18 + (1 : Int32))) (fun v20 h21 => ?_)
    refine Sh_gR (fun v22 => ?_)
    refine Sh_gI (fun v23 => ?_)
    refine Sh_nn (fun q24 => ?_)
    refine Sh_cl (sh_M_turnsTo N h21 q24 v23) (fun v25 h26 => ?_)
    refine Sh_bn (fun v27 => ?_)
    refine Sh_cl (sh_M_nearest N h26 v16 v27 (0 : Int32)) (fun v28 h29 => ?_)
    exact Sh_some
  · refine Sh_cv (fun a => (sh_M_fail N h3 a v2)) (fun v30 h31 => ?_)
    exact Sh_some
theorem sh_M_shared_24 (N : Nat)  : ∀  (h : hS) (th : Nat), Sh h (f_M_shared_24 N   h th) := by
  intro h th
  unfold f_M_shared_24
  refine Sh_cv (fun a => (sh_M_fail N h a (1 : Int32))) (fun v1 h2 => ?_)
  exact Sh_some
theorem sh_M_shared_66 (N : Nat) {rc37 : hS → Nat → Int32 → Int32 → Int32 → Option (Int64 × hS)} (hsh37 : ∀ (h : hS) (th : Nat) (x1 : Int32) (x2 : Int32) (x3 : Int32), Sh h (rc37 h th x1 x2 x3)) : ∀  (h : hS) (th : Nat) (x1 : Int32) (x2 : Int32) (x3 : Int32), Sh h (f_M_shared_66 N rc37  h th x1 x2 x3) := by
  intro h th x1 x2 x3
  unfold f_M_shared_66
  refine Sh_bn (fun v1 => ?_)
  exact hsh37 h th x1 x2 v1
theorem sh_M_shared_37 (N : Nat)  : ∀ (n : Nat) (h : hS) (th : Nat) (x1 : Int32) (x2 : Int32) (x3 : Int32), Sh h (f_M_shared_37 N  n h th x1 x2 x3) := by
  intro n
  induction n with
  | zero =>
    intro h th x1 x2 x3
    exact Sh_none
  | succ n ih =>
    intro h th x1 x2 x3
    unfold f_M_shared_37
    refine Sh_ite ?_ ?_
    · refine Sh_cv (fun a => (sh_M_together N h a x2)) (fun v1 h2 => ?_)
      exact Sh_some
    · refine Sh_ite ?_ ?_
      · exact sh_M_shared_66 N ih  h th x1 x2 x3
      · refine Sh_cv (fun a => (sh_M_tell N h a x3)) (fun v3 h4 => ?_)
        refine Sh_gR (fun v5 => ?_)
        refine Sh_nn (fun q6 => ?_)
        refine Sh_cv (fun a => (sh_M_addStands N h4 a q6)) (fun v7 h8 => ?_)
        exact sh_M_shared_66 N ih  h8 th x1 x2 x3
theorem sh_M_shared (N : Nat) (h : hS) (th : Nat) (x1 : Int32) (x2 : Int32) : Sh h (f_M_shared N h th x1 x2) := by
  unfold f_M_shared
  refine Sh_pI (fun h1 => ?_)
  refine Sh_cl (sh_M_isIn N h1 x1.toInt64 (1 : Int64) (15 : Int64)) (fun v2 h3 => ?_)
  refine Sh_ite ?_ ?_
  · exact sh_M_shared_24 N   h3 th
  · refine Sh_cl (sh_M_isX N h3 x2) (fun v4 h5 => ?_)
    refine Sh_ite ?_ ?_
    · exact sh_M_shared_24 N   h5 th
    · refine Sh_cv (fun a => (sh_M_clearStands N h5 a )) (fun v6 h7 => ?_)
      exact sh_M_shared_37 N  N h7 th x1 x2 (0 : Int32)
theorem sh_M_lays_44 (N : Nat)  : ∀ (n : Nat) (h : hS) (a0 : Nat) (a1 : Nat) (x2 : Int64) (x4 : Int32) (x5 : Int32), Sh h (f_M_lays_44 N  n h a0 a1 x2 x4 x5) := by
  intro n
  induction n with
  | zero =>
    intro h a0 a1 x2 x4 x5
    exact Sh_none
  | succ n ih =>
    intro h a0 a1 x2 x4 x5
    unfold f_M_lays_44
    refine Sh_lnA (fun v1 => ?_)
    refine Sh_ite ?_ ?_
    · exact Sh_some
    · refine Sh_uJ (fun h2 => ?_)
      refine Sh_aI (fun v3 => ?_)
      refine Sh_bn (fun v4 => ?_)
      refine Sh_bn (fun v5 => ?_)
      refine Sh_bn (fun v6 => ?_)
      exact ih h2 a0 a1 v5 v4 v6
theorem sh_M_lays_16 (N : Nat)  : ∀ (n : Nat) (h : hS) (a0 : Nat) (a1 : Nat) (x2 : Int64) (x4 : Int32) (x5 : Int32), Sh h (f_M_lays_16 N  n h a0 a1 x2 x4 x5) := by
  intro n
  induction n with
  | zero =>
    intro h a0 a1 x2 x4 x5
    exact Sh_none
  | succ n ih =>
    intro h a0 a1 x2 x4 x5
    unfold f_M_lays_16
    refine Sh_ite ?_ ?_
    · exact sh_M_lays_44 N  N h a0 a1 x2 x4 (0 : Int32)
    · refine Sh_aI (fun v1 => ?_)
      refine Sh_bn (fun v2 => ?_)
      refine Sh_bn (fun v3 => ?_)
      exact ih h a0 a1 x2 v2 v3
theorem sh_M_lays (N : Nat) (h : hS) (a0 : Nat) (a1 : Nat) : Sh h (f_M_lays N h a0 a1) := by
  unfold f_M_lays
  refine Sh_cl (sh_M_valueAt N h a1 (-1000 : Int32)) (fun v1 h2 => ?_)
  refine Sh_aI (fun v3 => ?_)
  exact sh_M_lays_16 N  N h2 a0 a1 v1 v3 (0 : Int32)
theorem sh_M_laysBoth_16 (N : Nat)  : ∀  (h : hS) , Sh h (f_M_laysBoth_16 N   h ) := by
  intro h 
  unfold f_M_laysBoth_16
  exact Sh_bz Sh_some
theorem sh_M_laysBoth (N : Nat) (h : hS) (th : Nat) (x1 : Int32) (x2 : Int32) : Sh h (f_M_laysBoth N h th x1 x2) := by
  unfold f_M_laysBoth
  refine Sh_cv (fun a => (sh_M_isCost N h a x1)) (fun v1 h2 => ?_)
  refine Sh_ite ?_ ?_
  · exact sh_M_laysBoth_16 N   h2 
  · refine Sh_cv (fun a => (sh_M_isCost N h2 a x2)) (fun v3 h4 => ?_)
    refine Sh_ite ?_ ?_
    · exact sh_M_laysBoth_16 N   h4 
    · refine Sh_cv (fun a => (sh_M_tellBoth N h4 a x1 x2)) (fun v5 h6 => ?_)
      refine Sh_gR (fun v7 => ?_)
      refine Sh_gR (fun v8 => ?_)
      refine Sh_nn (fun q9 => ?_)
      refine Sh_nn (fun q10 => ?_)
      refine Sh_cl (sh_M_lays N h6 q9 q10) (fun v11 h12 => ?_)
      refine Sh_gR (fun v13 => ?_)
      refine Sh_gR (fun v14 => ?_)
      refine Sh_nn (fun q15 => ?_)
      refine Sh_nn (fun q16 => ?_)
      refine Sh_cl (sh_M_lays N h12 q15 q16) (fun v17 h18 => ?_)
      exact Sh_bz Sh_some
theorem sh_M_leads_24 (N : Nat)  : ∀  (h : hS) (th : Nat), Sh h (f_M_leads_24 N   h th) := by
  intro h th
  unfold f_M_leads_24
  refine Sh_cv (fun a => (sh_M_fail N h a (1 : Int32))) (fun v1 h2 => ?_)
  exact Sh_some
theorem sh_M_leads_104 (N : Nat)  : ∀  (h : hS) (y0 : Int32), Sh h (f_M_leads_104 N   h y0) := by
  intro h y0
  unfold f_M_leads_104
  exact Sh_some
theorem sh_M_leads_87 (N : Nat) {rc43 : hS → Nat → Int32 → Int32 → Int32 → Int32 → Option (Int32 × hS)} (hsh43 : ∀ (h : hS) (th : Nat) (x3 : Int32) (x4 : Int32) (x5 : Int32) (x6 : Int32), Sh h (rc43 h th x3 x4 x5 x6)) : ∀  (h : hS) (th : Nat) (x3 : Int32) (x4 : Int32) (x5 : Int32) (x6 : Int32), Sh h (f_M_leads_87 N rc43  h th x3 x4 x5 x6) := by
  intro h th x3 x4 x5 x6
  unfold f_M_leads_87
  refine Sh_bn (fun v1 => ?_)
  exact hsh43 h th x3 x4 x5 v1
theorem sh_M_leads_43 (N : Nat)  : ∀ (n : Nat) (h : hS) (th : Nat) (x3 : Int32) (x4 : Int32) (x5 : Int32) (x6 : Int32), Sh h (f_M_leads_43 N  n h th x3 x4 x5 x6) := by
  intro n
  induction n with
  | zero =>
    intro h th x3 x4 x5 x6
    exact Sh_none
  | succ n ih =>
    intro h th x3 x4 x5 x6
    unfold f_M_leads_43
    refine Sh_ite ?_ ?_
    · refine Sh_ite ?_ ?_
      · exact sh_M_leads_104 N   h x4
      · exact sh_M_leads_104 N   h x5
    · refine Sh_gR (fun v1 => ?_)
      refine Sh_aJ (kd := 0) (fun v2 => ?_)
      refine Sh_gR (fun v3 => ?_)
      refine Sh_aJ (kd := 0) (fun v4 => ?_)
      refine Sh_ite ?_ ?_
      · refine Sh_bn (fun v5 => ?_)
        exact sh_M_leads_87 N ih  h th x3 v5 x6 x6
      · exact sh_M_leads_87 N ih  h th x3 x4 x5 x6
theorem sh_M_leads (N : Nat) (h : hS) (th : Nat) (x1 : Int32) (x2 : Int32) (x3 : Int32) : Sh h (f_M_leads N h th x1 x2 x3) := by
  unfold f_M_leads
  refine Sh_pI (fun h1 => ?_)
  refine Sh_cl (sh_M_isIn N h1 x3.toInt64 (0 : Int64) (1 : Int64)) (fun v2 h3 => ?_)
  refine Sh_ite ?_ ?_
  · exact sh_M_leads_24 N   h3 th
  · refine Sh_cv (fun a => (sh_M_laysBoth N h3 a x1 x2)) (fun v4 h5 => ?_)
    refine Sh_ite ?_ ?_
    · exact sh_M_leads_24 N   h5 th
    · exact sh_M_leads_43 N  N h5 th x3 (0 : Int32) (-10000000 : Int32) (500 : Int32)
theorem sh_M_meet_22 (N : Nat)  : ∀ (n : Nat) (h : hS) (th : Nat) (x3 : Int32), Sh h (f_M_meet_22 N  n h th x3) := by
  intro n
  induction n with
  | zero =>
    intro h th x3
    exact Sh_none
  | succ n ih =>
    intro h th x3
    unfold f_M_meet_22
    refine Sh_ite ?_ ?_
    · exact Sh_some
    · refine Sh_gR (fun v1 => ?_)
      refine Sh_aJ (kd := 0) (fun v2 => ?_)
      refine Sh_gR (fun v3 => ?_)
      refine Sh_aJ (kd := 0) (fun v4 => ?_)
      refine Sh_ite ?_ ?_
      · exact Sh_some
      · refine Sh_gR (fun v5 => ?_)
        refine Sh_aJ (kd := 0) (fun v6 => ?_)
        refine Sh_gR (fun v7 => ?_)
        refine Sh_aJ (kd := 0) (fun v8 => ?_)
        refine Sh_ite ?_ ?_
        · exact Sh_some
        · refine Sh_bn (fun v9 => ?_)
          exact ih h th v9
theorem sh_M_meet (N : Nat) (h : hS) (th : Nat) (x1 : Int32) (x2 : Int32) : Sh h (f_M_meet N h th x1 x2) := by
  unfold f_M_meet
  refine Sh_pI (fun h1 => ?_)
  refine Sh_cv (fun a => (sh_M_laysBoth N h1 a x1 x2)) (fun v2 h3 => ?_)
  refine Sh_ite ?_ ?_
  · refine Sh_cv (fun a => (sh_M_fail N h3 a (1 : Int32))) (fun v4 h5 => ?_)
    exact Sh_some
  · exact sh_M_meet_22 N  N h3 th (0 : Int32)
theorem sh_M_gap_28 (N : Nat)  : ∀ (n : Nat) (h : hS) (th : Nat) (x3 : Int64) (x5 : Int32), Sh h (f_M_gap_28 N  n h th x3 x5) := by
  intro n
  induction n with
  | zero =>
    intro h th x3 x5
    exact Sh_none
  | succ n ih =>
    intro h th x3 x5
    unfold f_M_gap_28
    refine Sh_ite ?_ ?_
    · exact Sh_some
    · refine Sh_gR (fun v1 => ?_)
      refine Sh_aJ (kd := 0) (fun v2 => ?_)
      refine Sh_gR (fun v3 => ?_)
      refine Sh_aJ (kd := 0) (fun v4 => ?_)
      refine Sh_bn (fun v5 => ?_)
      refine Sh_bn (fun v6 => ?_)
      exact ih h th v5 v6
theorem sh_M_gap (N : Nat) (h : hS) (th : Nat) (x1 : Int32) (x2 : Int32) : Sh h (f_M_gap N h th x1 x2) := by
  unfold f_M_gap
  refine Sh_pI (fun h1 => ?_)
  refine Sh_cv (fun a => (sh_M_laysBoth N h1 a x1 x2)) (fun v2 h3 => ?_)
  refine Sh_ite ?_ ?_
  · refine Sh_cv (fun a => (sh_M_fail N h3 a (1 : Int32))) (fun v4 h5 => ?_)
    exact Sh_some
  · exact sh_M_gap_28 N  N h3 th (0 : Int64) (-500 : Int32)
theorem sh_M_alike_21 (N : Nat)  : ∀  (h : hS) (th : Nat), Sh h (f_M_alike_21 N   h th) := by
  intro h th
  unfold f_M_alike_21
  refine Sh_cv (fun a => (sh_M_fail N h a (1 : Int32))) (fun v1 h2 => ?_)
  exact Sh_some
theorem sh_M_alike_90 (N : Nat)  : ∀  (h : hS) (y0 : Int32), Sh h (f_M_alike_90 N   h y0) := by
  intro h y0
  unfold f_M_alike_90
  exact Sh_some
theorem sh_M_alike_81 (N : Nat)  : ∀  (h : hS) (x3 : Int32), Sh h (f_M_alike_81 N   h x3) := by
  intro h x3
  unfold f_M_alike_81
  refine Sh_ite ?_ ?_
  · exact sh_M_alike_90 N   h (0 : Int32)
  · exact sh_M_alike_90 N   h (1 : Int32)
theorem sh_M_alike_74 (N : Nat) {rc38 : hS → Nat → Int32 → Int32 → Option (Int32 × hS)} (hsh38 : ∀ (h : hS) (th : Nat) (x3 : Int32) (x4 : Int32), Sh h (rc38 h th x3 x4)) : ∀  (h : hS) (th : Nat) (x4 : Int32) (y0 : Int32), Sh h (f_M_alike_74 N rc38  h th x4 y0) := by
  intro h th x4 y0
  unfold f_M_alike_74
  refine Sh_bn (fun v1 => ?_)
  exact hsh38 h th y0 v1
theorem sh_M_alike_38 (N : Nat)  : ∀ (n : Nat) (h : hS) (th : Nat) (x3 : Int32) (x4 : Int32), Sh h (f_M_alike_38 N  n h th x3 x4) := by
  intro n
  induction n with
  | zero =>
    intro h th x3 x4
    exact Sh_none
  | succ n ih =>
    intro h th x3 x4
    unfold f_M_alike_38
    refine Sh_gR (fun v1 => ?_)
    refine Sh_lnA (fun v2 => ?_)
    refine Sh_ite ?_ ?_
    · exact sh_M_alike_81 N   h x3
    · refine Sh_ite ?_ ?_
      · exact sh_M_alike_81 N   h x3
      · refine Sh_gR (fun v3 => ?_)
        refine Sh_aI (fun v4 => ?_)
        refine Sh_gR (fun v5 => ?_)
        refine Sh_aI (fun v6 => ?_)
        refine Sh_ite ?_ ?_
        · exact sh_M_alike_74 N ih  h th x4 (1 : Int32)
        · exact sh_M_alike_74 N ih  h th x4 (0 : Int32)
theorem sh_M_alike (N : Nat) (h : hS) (th : Nat) (x1 : Int32) (x2 : Int32) : Sh h (f_M_alike N h th x1 x2) := by
  unfold f_M_alike
  refine Sh_pI (fun h1 => ?_)
  refine Sh_cv (fun a => (sh_M_isCost N h1 a x1)) (fun v2 h3 => ?_)
  refine Sh_ite ?_ ?_
  · exact sh_M_alike_21 N   h3 th
  · refine Sh_cv (fun a => (sh_M_isCost N h3 a x2)) (fun v4 h5 => ?_)
    refine Sh_ite ?_ ?_
    · exact sh_M_alike_21 N   h5 th
    · refine Sh_cv (fun a => (sh_M_tellBoth N h5 a x1 x2)) (fun v6 h7 => ?_)
      exact sh_M_alike_38 N  N h7 th (1 : Int32) (0 : Int32)
theorem sh_M_runsWithout (N : Nat) (h : hS) (th : Nat) (x1 : Int32) (x2 : Int32) : Sh h (f_M_runsWithout N h th x1 x2) := by
  unfold f_M_runsWithout
  refine Sh_pI (fun h1 => ?_)
  refine Sh_gR (fun v2 => ?_)
  refine Sh_nn (fun q3 => ?_)
  refine Sh_cv (fun a => (sh_M_runs N h1 a q3 x1)) (fun v4 h5 => ?_)
  refine Sh_pI (fun h6 => ?_)
  exact Sh_bz Sh_some
theorem sh_M_runsWith (N : Nat) (h : hS) (th : Nat) (x1 : Int32) (x2 : Int32) (x3 : Int32) : Sh h (f_M_runsWith N h th x1 x2 x3) := by
  unfold f_M_runsWith
  refine Sh_pI (fun h1 => ?_)
  refine Sh_pI (fun h2 => ?_)
  refine Sh_gR (fun v3 => ?_)
  refine Sh_nn (fun q4 => ?_)
  refine Sh_cv (fun a => (sh_M_runs N h2 a q4 x1)) (fun v5 h6 => ?_)
  refine Sh_pI (fun h7 => ?_)
  exact Sh_bz Sh_some
theorem sh_M_isWeighed_25 (N : Nat)  : ∀  (h : hS) (y0 : Int32), Sh h (f_M_isWeighed_25 N   h y0) := by
  intro h y0
  unfold f_M_isWeighed_25
  exact Sh_bz Sh_some
theorem sh_M_isWeighed_24 (N : Nat)  : ∀  (h : hS) , Sh h (f_M_isWeighed_24 N   h ) := by
  intro h 
  unfold f_M_isWeighed_24
  exact sh_M_isWeighed_25 N   h (0 : Int32)
theorem sh_M_isWeighed (N : Nat) (h : hS) (th : Nat) (x1 : Int32) (x2 : Int32) : Sh h (f_M_isWeighed N h th x1 x2) := by
  unfold f_M_isWeighed
  refine Sh_cv (fun a => (sh_M_isStep N h a x1 x2)) (fun v1 h2 => ?_)
  refine Sh_ite ?_ ?_
  · exact sh_M_isWeighed_24 N   h2 
  · refine Sh_cv (fun a => (sh_M_stepAt N h2 a x1 x2 (0 : Int32))) (fun v3 h4 => ?_)
    refine Sh_ite ?_ ?_
    · exact sh_M_isWeighed_24 N   h4 
    · exact sh_M_isWeighed_25 N   h4 (1 : Int32)
theorem sh_M_heaviest_74 (N : Nat) {rc42 : hS → Nat → Int32 → Int32 → Int32 → Int32 → Option (Int32 × hS)} (hsh42 : ∀ (h : hS) (th : Nat) (x1 : Int32) (x2 : Int32) (x3 : Int32) (x4 : Int32), Sh h (rc42 h th x1 x2 x3 x4)) : ∀  (h : hS) (th : Nat) (x1 : Int32) (x2 : Int32) (x3 : Int32) (x4 : Int32), Sh h (f_M_heaviest_74 N rc42  h th x1 x2 x3 x4) := by
  intro h th x1 x2 x3 x4
  unfold f_M_heaviest_74
  refine Sh_bn (fun v1 => ?_)
  exact hsh42 h th x1 x2 x3 v1
theorem sh_M_heaviest_42 (N : Nat)  : ∀ (n : Nat) (h : hS) (th : Nat) (x1 : Int32) (x2 : Int32) (x3 : Int32) (x4 : Int32), Sh h (f_M_heaviest_42 N  n h th x1 x2 x3 x4) := by
  intro n
  induction n with
  | zero =>
    intro h th x1 x2 x3 x4
    exact Sh_none
  | succ n ih =>
    intro h th x1 x2 x3 x4
    unfold f_M_heaviest_42
    refine Sh_ite ?_ ?_
    · exact Sh_some
    · refine Sh_cv (fun a => (sh_M_runsWith N h a x1 x2 x4)) (fun v1 h2 => ?_)
      refine Sh_ite ?_ ?_
      · exact sh_M_heaviest_74 N ih  h2 th x1 x2 x3 x4
      · refine Sh_gR (fun v3 => ?_)
        refine Sh_nn (fun q4 => ?_)
        refine Sh_cl (sh_M_leastOf N h2 q4) (fun v5 h6 => ?_)
        refine Sh_ite ?_ ?_
        · exact sh_M_heaviest_74 N ih  h6 th x1 x2 x3 x4
        · exact Sh_some
theorem sh_M_heaviest (N : Nat) (h : hS) (th : Nat) (x1 : Int32) (x2 : Int32) (x3 : Int32) : Sh h (f_M_heaviest N h th x1 x2 x3) := by
  unfold f_M_heaviest
  refine Sh_pI (fun h1 => ?_)
  refine Sh_cv (fun a => (sh_M_isWeighed N h1 a x1 x2)) (fun v2 h3 => ?_)
  refine Sh_ite ?_ ?_
  · refine Sh_cv (fun a => (sh_M_fail N h3 a (1 : Int32))) (fun v8 h9 => ?_)
    exact Sh_some
  · refine Sh_cl (sh_M_isIn N h3 x3.toInt64 (0 : Int64) (100000000 : Int64)) (fun v4 h5 => ?_)
    refine Sh_ite ?_ ?_
    · refine Sh_cv (fun a => (sh_M_fail N h5 a (2 : Int32))) (fun v6 h7 => ?_)
      exact Sh_some
    · exact sh_M_heaviest_42 N  N h5 th x1 x2 x3 (40 : Int32)
theorem sh_M_sparedBy_37 (N : Nat)  : ∀  (h : hS) (y0 : Int64), Sh h (f_M_sparedBy_37 N   h y0) := by
  intro h y0
  unfold f_M_sparedBy_37
  exact Sh_some
theorem sh_M_sparedBy (N : Nat) (h : hS) (th : Nat) (x1 : Int32) (x2 : Int32) : Sh h (f_M_sparedBy N h th x1 x2) := by
  unfold f_M_sparedBy
  refine Sh_cv (fun a => (sh_M_tell N h a x1)) (fun v1 h2 => ?_)
  refine Sh_gR (fun v3 => ?_)
  refine Sh_nn (fun q4 => ?_)
  refine Sh_cl (sh_M_leastOf N h2 q4) (fun v5 h6 => ?_)
  refine Sh_cv (fun a => (sh_M_runsWithout N h6 a x1 x2)) (fun v7 h8 => ?_)
  refine Sh_ite ?_ ?_
  · exact sh_M_sparedBy_37 N   h8 (-1000000000 : Int64)
  · refine Sh_gR (fun v9 => ?_)
    refine Sh_nn (fun q10 => ?_)
    refine Sh_cl (sh_M_leastOf N h8 q10) (fun v11 h12 => ?_)
    exact sh_M_sparedBy_37 N   h12 (v5 - v11)
theorem sh_M_spared_29 (N : Nat)  : ∀  (h : hS) (y0 : Int64), Sh h (f_M_spared_29 N   h y0) := by
  intro h y0
  unfold f_M_spared_29
  exact Sh_some
theorem sh_M_spared (N : Nat) (h : hS) (th : Nat) (x1 : Int32) (x2 : Int32) : Sh h (f_M_spared N h th x1 x2) := by
  unfold f_M_spared
  refine Sh_pI (fun h1 => ?_)
  refine Sh_cv (fun a => (sh_M_isStep N h1 a x1 x2)) (fun v2 h3 => ?_)
  refine Sh_ite ?_ ?_
  · refine Sh_cv (fun a => (sh_M_fail N h3 a (1 : Int32))) (fun v4 h5 => ?_)
    exact sh_M_spared_29 N   h5 v4.toInt64
  · refine Sh_cv (fun a => (sh_M_sparedBy N h3 a x1 x2)) (fun v6 h7 => ?_)
    exact sh_M_spared_29 N   h7 v6
theorem sh_M_dearest_66 (N : Nat) {rc26 : hS → Nat → Int32 → Int32 → Int64 → Int32 → Option (Int32 × hS)} (hsh26 : ∀ (h : hS) (th : Nat) (x1 : Int32) (x2 : Int32) (x3 : Int64) (x5 : Int32), Sh h (rc26 h th x1 x2 x3 x5)) : ∀  (h : hS) (th : Nat) (x1 : Int32) (x2 : Int32) (x3 : Int64) (x5 : Int32), Sh h (f_M_dearest_66 N rc26  h th x1 x2 x3 x5) := by
  intro h th x1 x2 x3 x5
  unfold f_M_dearest_66
  refine Sh_bn (fun v1 => ?_)
  exact hsh26 h th x1 x2 x3 v1
theorem sh_M_dearest_60 (N : Nat) {rc26 : hS → Nat → Int32 → Int32 → Int64 → Int32 → Option (Int32 × hS)} (hsh26 : ∀ (h : hS) (th : Nat) (x1 : Int32) (x2 : Int32) (x3 : Int64) (x5 : Int32), Sh h (rc26 h th x1 x2 x3 x5)) : ∀  (h : hS) (th : Nat) (x1 : Int32) (x5 : Int32) (x6 : Int64), Sh h (f_M_dearest_60 N rc26  h th x1 x5 x6) := by
  intro h th x1 x5 x6
  unfold f_M_dearest_60
  exact sh_M_dearest_66 N hsh26  h th x1 x5 x6 x5
theorem sh_M_dearest_26 (N : Nat)  : ∀ (n : Nat) (h : hS) (th : Nat) (x1 : Int32) (x2 : Int32) (x3 : Int64) (x5 : Int32), Sh h (f_M_dearest_26 N  n h th x1 x2 x3 x5) := by
  intro n
  induction n with
  | zero =>
    intro h th x1 x2 x3 x5
    exact Sh_none
  | succ n ih =>
    intro h th x1 x2 x3 x5
    unfold f_M_dearest_26
    refine Sh_cv (fun a => (sh_M_steps N h a x1)) (fun v1 h2 => ?_)
    refine Sh_ite ?_ ?_
    · exact Sh_some
    · refine Sh_cv (fun a => (sh_M_sparedBy N h2 a x1 x5)) (fun v3 h4 => ?_)
      refine Sh_ite ?_ ?_
      · exact sh_M_dearest_60 N ih  h4 th x1 x5 v3
      · refine Sh_ite ?_ ?_
        · exact sh_M_dearest_60 N ih  h4 th x1 x5 v3
        · exact sh_M_dearest_66 N ih  h4 th x1 x2 x3 x5
theorem sh_M_dearest (N : Nat) (h : hS) (th : Nat) (x1 : Int32) : Sh h (f_M_dearest N h th x1) := by
  unfold f_M_dearest
  refine Sh_pI (fun h1 => ?_)
  refine Sh_cv (fun a => (sh_M_isCost N h1 a x1)) (fun v2 h3 => ?_)
  refine Sh_ite ?_ ?_
  · refine Sh_cv (fun a => (sh_M_fail N h3 a (1 : Int32))) (fun v4 h5 => ?_)
    exact Sh_some
  · exact sh_M_dearest_26 N  N h3 th x1 (-1 : Int32) (0 : Int64) (0 : Int32)
theorem sh_M_becomes_24 (N : Nat)  : ∀ (n : Nat) (h : hS) (th : Nat) (x1 : Int32) (x2 : Int32), Sh h (f_M_becomes_24 N  n h th x1 x2) := by
  intro n
  induction n with
  | zero =>
    intro h th x1 x2
    exact Sh_none
  | succ n ih =>
    intro h th x1 x2
    unfold f_M_becomes_24
    refine Sh_ite ?_ ?_
    · refine Sh_gR (fun v1 => ?_)
      refine Sh_aI (fun v2 => ?_)
      exact Sh_some
    · refine Sh_gR (fun v3 => ?_)
      refine Sh_gR (fun v4 => ?_)
      refine Sh_aI (fun v5 => ?_)
      refine Sh_uI (fun h6 => ?_)
      refine Sh_bn (fun v7 => ?_)
      exact ih h6 th x1 v7
theorem sh_M_becomes (N : Nat) (h : hS) (th : Nat) (x1 : Int32) : Sh h (f_M_becomes N h th x1) := by
  unfold f_M_becomes
  refine Sh_gR (fun v1 => ?_)
  refine Sh_nn (fun q2 => ?_)
  refine Sh_cv (fun a => (sh_M_runs N h a q2 (0 : Int32))) (fun v3 h4 => ?_)
  refine Sh_ite ?_ ?_
  · refine Sh_cv (fun a => (sh_M_refuse N h4 a (1 : Int32))) (fun v7 h8 => ?_)
    exact Sh_some
  · refine Sh_cv (fun a => (sh_M_keep N h4 a )) (fun v5 h6 => ?_)
    exact sh_M_becomes_24 N  N h6 th x1 (0 : Int32)
theorem sh_M_takes_59 (N : Nat)  : ∀ (n : Nat) (h : hS) (th : Nat) (x1 : Int32) (x3 : Int32), Sh h (f_M_takes_59 N  n h th x1 x3) := by
  intro n
  induction n with
  | zero =>
    intro h th x1 x3
    exact Sh_none
  | succ n ih =>
    intro h th x1 x3
    unfold f_M_takes_59
    refine Sh_ite ?_ ?_
    · refine Sh_gR (fun v1 => ?_)
      refine Sh_aI (fun v2 => ?_)
      refine Sh_uI (fun h3 => ?_)
      refine Sh_cv (fun a => (sh_M_becomes N h3 a x1)) (fun v4 h5 => ?_)
      exact Sh_some
    · refine Sh_gR (fun v6 => ?_)
      refine Sh_gR (fun v7 => ?_)
      refine Sh_aI (fun v8 => ?_)
      refine Sh_uI (fun h9 => ?_)
      refine Sh_bn (fun v10 => ?_)
      exact ih h9 th x1 v10
theorem sh_M_takes_22 (N : Nat)  : ∀ (n : Nat) (h : hS) (th : Nat) (x1 : Int32) (x2 : Int32) (x3 : Int32), Sh h (f_M_takes_22 N  n h th x1 x2 x3) := by
  intro n
  induction n with
  | zero =>
    intro h th x1 x2 x3
    exact Sh_none
  | succ n ih =>
    intro h th x1 x2 x3
    unfold f_M_takes_22
    refine Sh_ite ?_ ?_
    · refine Sh_bn (fun v1 => ?_)
      exact sh_M_takes_59 N  N h th x1 v1
    · refine Sh_gR (fun v2 => ?_)
      refine Sh_gR (fun v3 => ?_)
      refine Sh_aI (fun v4 => ?_)
      refine Sh_uI (fun h5 => ?_)
      refine Sh_bn (fun v6 => ?_)
      exact ih h5 th x1 x2 v6
theorem sh_M_takes (N : Nat) (h : hS) (th : Nat) (x1 : Int32) (x2 : Int32) : Sh h (f_M_takes N h th x1 x2) := by
  unfold f_M_takes
  refine Sh_pI (fun h1 => ?_)
  refine Sh_cv (fun a => (sh_M_isStep N h1 a x1 x2)) (fun v2 h3 => ?_)
  refine Sh_ite ?_ ?_
  · refine Sh_cv (fun a => (sh_M_refuse N h3 a (1 : Int32))) (fun v4 h5 => ?_)
    exact Sh_some
  · exact sh_M_takes_22 N  N h3 th x1 x2 (0 : Int32)
theorem sh_M_copy_26 (N : Nat)  : ∀  (h : hS) (th : Nat), Sh h (f_M_copy_26 N   h th) := by
  intro h th
  unfold f_M_copy_26
  refine Sh_cv (fun a => (sh_M_refuse N h a (1 : Int32))) (fun v1 h2 => ?_)
  exact Sh_some
theorem sh_M_copy_101 (N : Nat)  : ∀ (n : Nat) (h : hS) (th : Nat) (x1 : Int32) (x2 : Int32) (x4 : Int32), Sh h (f_M_copy_101 N  n h th x1 x2 x4) := by
  intro n
  induction n with
  | zero =>
    intro h th x1 x2 x4
    exact Sh_none
  | succ n ih =>
    intro h th x1 x2 x4
    unfold f_M_copy_101
    refine Sh_ite ?_ ?_
    · refine Sh_cv (fun a => (sh_M_becomes N h a x1)) (fun v1 h2 => ?_)
      exact Sh_some
    · refine Sh_gR (fun v3 => ?_)
      refine Sh_gR (fun v4 => ?_)
      refine Sh_aI (fun v5 => ?_)
      refine Sh_uI (fun h6 => ?_)
      refine Sh_bn (fun v7 => ?_)
      exact ih h6 th x1 x2 v7
theorem sh_M_copy_81 (N : Nat) {rc37 : hS → Nat → Int32 → Int32 → Int32 → Int32 → Option (Int32 × hS)} (hsh37 : ∀ (h : hS) (th : Nat) (x1 : Int32) (x2 : Int32) (x3 : Int32) (x4 : Int32), Sh h (rc37 h th x1 x2 x3 x4)) : ∀  (h : hS) (th : Nat) (x1 : Int32) (x2 : Int32) (x4 : Int32) (y0 : Int32), Sh h (f_M_copy_81 N rc37  h th x1 x2 x4 y0) := by
  intro h th x1 x2 x4 y0
  unfold f_M_copy_81
  refine Sh_bn (fun v1 => ?_)
  exact hsh37 h th x1 x2 y0 v1
theorem sh_M_copy_76 (N : Nat) {rc37 : hS → Nat → Int32 → Int32 → Int32 → Int32 → Option (Int32 × hS)} (hsh37 : ∀ (h : hS) (th : Nat) (x1 : Int32) (x2 : Int32) (x3 : Int32) (x4 : Int32), Sh h (rc37 h th x1 x2 x3 x4)) : ∀  (h : hS) (th : Nat) (x1 : Int32) (x2 : Int32) (x4 : Int32), Sh h (f_M_copy_76 N rc37  h th x1 x2 x4) := by
  intro h th x1 x2 x4
  unfold f_M_copy_76
  exact sh_M_copy_81 N hsh37  h th x1 x2 x4 (1 : Int32)
theorem sh_M_copy_80 (N : Nat) {rc37 : hS → Nat → Int32 → Int32 → Int32 → Int32 → Option (Int32 × hS)} (hsh37 : ∀ (h : hS) (th : Nat) (x1 : Int32) (x2 : Int32) (x3 : Int32) (x4 : Int32), Sh h (rc37 h th x1 x2 x3 x4)) : ∀  (h : hS) (th : Nat) (x1 : Int32) (x2 : Int32) (x4 : Int32), Sh h (f_M_copy_80 N rc37  h th x1 x2 x4) := by
  intro h th x1 x2 x4
  unfold f_M_copy_80
  exact sh_M_copy_81 N hsh37  h th x1 x2 x4 (0 : Int32)
theorem sh_M_copy_37 (N : Nat)  : ∀ (n : Nat) (h : hS) (th : Nat) (x1 : Int32) (x2 : Int32) (x3 : Int32) (x4 : Int32), Sh h (f_M_copy_37 N  n h th x1 x2 x3 x4) := by
  intro n
  induction n with
  | zero =>
    intro h th x1 x2 x3 x4
    exact Sh_none
  | succ n ih =>
    intro h th x1 x2 x3 x4
    unfold f_M_copy_37
    refine Sh_cv (fun a => (sh_M_steps N h a x2)) (fun v1 h2 => ?_)
    refine Sh_ite ?_ ?_
    · refine Sh_ite ?_ ?_
      · exact sh_M_copy_101 N  N h2 th x1 x2 (0 : Int32)
      · refine Sh_cv (fun a => (sh_M_refuse N h2 a (1 : Int32))) (fun v3 h4 => ?_)
        exact Sh_some
    · refine Sh_ite ?_ ?_
      · refine Sh_cv (fun a => (sh_M_stepAt N h2 a x2 x4 (0 : Int32))) (fun v5 h6 => ?_)
        refine Sh_ite ?_ ?_
        · refine Sh_cv (fun a => (sh_M_stepAt N h6 a x2 x4 (1 : Int32))) (fun v7 h8 => ?_)
          refine Sh_ite ?_ ?_
          · exact sh_M_copy_76 N ih  h8 th x1 x2 x4
          · exact sh_M_copy_80 N ih  h8 th x1 x2 x4
        · exact sh_M_copy_80 N ih  h6 th x1 x2 x4
      · exact sh_M_copy_76 N ih  h2 th x1 x2 x4
theorem sh_M_copy (N : Nat) (h : hS) (th : Nat) (x1 : Int32) (x2 : Int32) : Sh h (f_M_copy N h th x1 x2) := by
  unfold f_M_copy
  refine Sh_pI (fun h1 => ?_)
  refine Sh_cv (fun a => (sh_M_isCost N h1 a x1)) (fun v2 h3 => ?_)
  refine Sh_ite ?_ ?_
  · exact sh_M_copy_26 N   h3 th
  · refine Sh_cv (fun a => (sh_M_isCost N h3 a x2)) (fun v4 h5 => ?_)
    refine Sh_ite ?_ ?_
    · exact sh_M_copy_26 N   h5 th
    · refine Sh_ite ?_ ?_
      · exact sh_M_copy_26 N   h5 th
      · exact sh_M_copy_37 N  N h5 th x1 x2 (0 : Int32) (0 : Int32)
theorem sh_M_tellFits_121 (N : Nat) {rc2 : hS → Nat → Int32 → Int32 → Option (Unit × hS)} (hsh2 : ∀ (h : hS) (th : Nat) (x1 : Int32) (x2 : Int32), Sh h (rc2 h th x1 x2)) : ∀  (h : hS) (th : Nat) (x1 : Int32) (x2 : Int32), Sh h (f_M_tellFits_121 N rc2  h th x1 x2) := by
  intro h th x1 x2
  unfold f_M_tellFits_121
  refine Sh_bn (fun v1 => ?_)
  exact hsh2 h th x1 v1
theorem sh_M_tellFits_80 (N : Nat) {rc2 : hS → Nat → Int32 → Int32 → Option (Unit × hS)} (hsh2 : ∀ (h : hS) (th : Nat) (x1 : Int32) (x2 : Int32), Sh h (rc2 h th x1 x2)) : ∀ (n : Nat) (h : hS) (th : Nat) (x1 : Int32) (x2 : Int32) (x3 : Int32) (x4 : Int32), Sh h (f_M_tellFits_80 N rc2 n h th x1 x2 x3 x4) := by
  intro n
  induction n with
  | zero =>
    intro h th x1 x2 x3 x4
    exact Sh_none
  | succ n ih =>
    intro h th x1 x2 x3 x4
    unfold f_M_tellFits_80
    refine Sh_ite ?_ ?_
    · exact sh_M_tellFits_121 N hsh2  h th x1 x2
    · refine Sh_ite ?_ ?_
      · exact sh_M_tellFits_121 N hsh2  h th x1 x2
      · refine Sh_gR (fun v1 => ?_)
        refine Sh_gR (fun v2 => ?_)
        refine Sh_nn (fun q3 => ?_)
        refine Sh_cl (sh_M_valueAt N h q3 x4) (fun v4 h5 => ?_)
        refine Sh_uJ (fun h6 => ?_)
        refine Sh_bn (fun v7 => ?_)
        exact ih h6 th x1 x2 x3 v7
theorem sh_M_tellFits_69 (N : Nat) {rc2 : hS → Nat → Int32 → Int32 → Option (Unit × hS)} (hsh2 : ∀ (h : hS) (th : Nat) (x1 : Int32) (x2 : Int32), Sh h (rc2 h th x1 x2)) : ∀  (h : hS) (th : Nat) (x1 : Int32) (x2 : Int32) (x3 : Int32), Sh h (f_M_tellFits_69 N rc2  h th x1 x2 x3) := by
  intro h th x1 x2 x3
  unfold f_M_tellFits_69
  refine Sh_gR (fun v1 => ?_)
  refine Sh_uZ (fun h2 => ?_)
  exact sh_M_tellFits_80 N hsh2 N h2 th x1 x2 x3 (-20 : Int32)
theorem sh_M_tellFits_62 (N : Nat) {rc2 : hS → Nat → Int32 → Int32 → Option (Unit × hS)} (hsh2 : ∀ (h : hS) (th : Nat) (x1 : Int32) (x2 : Int32), Sh h (rc2 h th x1 x2)) {rc19 : hS → Nat → Int32 → Int32 → Int32 → Int32 → Option (Unit × hS)} (hsh19 : ∀ (h : hS) (th : Nat) (x1 : Int32) (x2 : Int32) (x3 : Int32) (x4 : Int32), Sh h (rc19 h th x1 x2 x3 x4)) : ∀  (h : hS) (th : Nat) (x1 : Int32) (x2 : Int32) (x4 : Int32) (y0 : Int32), Sh h (f_M_tellFits_62 N rc2 rc19  h th x1 x2 x4 y0) := by
  intro h th x1 x2 x4 y0
  unfold f_M_tellFits_62
  refine Sh_bn (fun v1 => ?_)
  exact hsh19 h th x1 x2 y0 v1
theorem sh_M_tellFits_19 (N : Nat) {rc2 : hS → Nat → Int32 → Int32 → Option (Unit × hS)} (hsh2 : ∀ (h : hS) (th : Nat) (x1 : Int32) (x2 : Int32), Sh h (rc2 h th x1 x2)) : ∀ (n : Nat) (h : hS) (th : Nat) (x1 : Int32) (x2 : Int32) (x3 : Int32) (x4 : Int32), Sh h (f_M_tellFits_19 N rc2 n h th x1 x2 x3 x4) := by
  intro n
  induction n with
  | zero =>
    intro h th x1 x2 x3 x4
    exact Sh_none
  | succ n ih =>
    intro h th x1 x2 x3 x4
    unfold f_M_tellFits_19
    refine Sh_gI (fun v1 => ?_)
    refine Sh_ite ?_ ?_
    · exact sh_M_tellFits_69 N hsh2  h th x1 x2 x3
    · refine Sh_ite ?_ ?_
      · exact sh_M_tellFits_69 N hsh2  h th x1 x2 x3
      · refine Sh_gR (fun v2 => ?_)
        refine Sh_gR (fun v3 => ?_)
        refine Sh_aI (fun v4 => ?_)
        refine Sh_nn (fun q5 => ?_)
        refine Sh_cl (sh_M_valueAt N h q5 v4) (fun v6 h7 => ?_)
        refine Sh_gR (fun v8 => ?_)
        refine Sh_aJ (kd := 0) (fun v9 => ?_)
        refine Sh_ite ?_ ?_
        · exact sh_M_tellFits_62 N hsh2 ih  h7 th x1 x2 x4 (1 : Int32)
        · exact sh_M_tellFits_62 N hsh2 ih  h7 th x1 x2 x4 (0 : Int32)
theorem sh_M_tellFits_2 (N : Nat)  : ∀ (n : Nat) (h : hS) (th : Nat) (x1 : Int32) (x2 : Int32), Sh h (f_M_tellFits_2 N  n h th x1 x2) := by
  intro n
  induction n with
  | zero =>
    intro h th x1 x2
    exact Sh_none
  | succ n ih =>
    intro h th x1 x2
    unfold f_M_tellFits_2
    refine Sh_ite ?_ ?_
    · exact Sh_some
    · refine Sh_cv (fun a => (sh_M_runsWith N h a (0 : Int32) x1 x2)) (fun v1 h2 => ?_)
      exact sh_M_tellFits_19 N ih N h2 th x1 x2 v1 (0 : Int32)
theorem sh_M_tellFits (N : Nat) (h : hS) (th : Nat) (x1 : Int32) : Sh h (f_M_tellFits N h th x1) := by
  unfold f_M_tellFits
  exact sh_M_tellFits_2 N  N h th x1 (0 : Int32)
theorem sh_M_fits_24 (N : Nat)  : ∀  (h : hS) (th : Nat), Sh h (f_M_fits_24 N   h th) := by
  intro h th
  unfold f_M_fits_24
  refine Sh_cv (fun a => (sh_M_fail N h a (1 : Int32))) (fun v1 h2 => ?_)
  exact Sh_some
theorem sh_M_fits_85 (N : Nat)  : ∀  (h : hS) (y0 : Int32), Sh h (f_M_fits_85 N   h y0) := by
  intro h y0
  unfold f_M_fits_85
  exact Sh_some
theorem sh_M_fits_69 (N : Nat) {rc44 : hS → Nat → Int32 → Int32 → Int32 → Int32 → Option (Int32 × hS)} (hsh44 : ∀ (h : hS) (th : Nat) (x2 : Int32) (x3 : Int32) (x4 : Int32) (x5 : Int32), Sh h (rc44 h th x2 x3 x4 x5)) : ∀  (h : hS) (th : Nat) (x2 : Int32) (x3 : Int32) (x4 : Int32) (x5 : Int32), Sh h (f_M_fits_69 N rc44  h th x2 x3 x4 x5) := by
  intro h th x2 x3 x4 x5
  unfold f_M_fits_69
  refine Sh_bn (fun v1 => ?_)
  exact hsh44 h th x2 x3 x4 v1
theorem sh_M_fits_44 (N : Nat)  : ∀ (n : Nat) (h : hS) (th : Nat) (x2 : Int32) (x3 : Int32) (x4 : Int32) (x5 : Int32), Sh h (f_M_fits_44 N  n h th x2 x3 x4 x5) := by
  intro n
  induction n with
  | zero =>
    intro h th x2 x3 x4 x5
    exact Sh_none
  | succ n ih =>
    intro h th x2 x3 x4 x5
    unfold f_M_fits_44
    refine Sh_ite ?_ ?_
    · refine Sh_ite ?_ ?_
      · exact sh_M_fits_85 N   h x3
      · exact sh_M_fits_85 N   h x4
    · refine Sh_gR (fun v1 => ?_)
      refine Sh_aI (fun v2 => ?_)
      refine Sh_ite ?_ ?_
      · exact sh_M_fits_69 N ih  h th x2 x3 x4 x5
      · refine Sh_bn (fun v3 => ?_)
        exact sh_M_fits_69 N ih  h th x2 v3 x5 x5
theorem sh_M_fits (N : Nat) (h : hS) (th : Nat) (x1 : Int32) (x2 : Int32) : Sh h (f_M_fits N h th x1 x2) := by
  unfold f_M_fits
  refine Sh_pI (fun h1 => ?_)
  refine Sh_cv (fun a => (sh_M_isWeighed N h1 a (0 : Int32) x1)) (fun v2 h3 => ?_)
  refine Sh_ite ?_ ?_
  · exact sh_M_fits_24 N   h3 th
  · refine Sh_cl (sh_M_isIn N h3 x2.toInt64 (0 : Int64) (1 : Int64)) (fun v4 h5 => ?_)
    refine Sh_ite ?_ ?_
    · exact sh_M_fits_24 N   h5 th
    · refine Sh_cv (fun a => (sh_M_tellFits N h5 a x1)) (fun v6 h7 => ?_)
      exact sh_M_fits_44 N  N h7 th x2 (0 : Int32) (-1 : Int32) (40 : Int32)
theorem sh_M_look_24 (N : Nat)  : ∀  (h : hS) (th : Nat), Sh h (f_M_look_24 N   h th) := by
  intro h th
  unfold f_M_look_24
  refine Sh_cv (fun a => (sh_M_fail N h a (1 : Int32))) (fun v1 h2 => ?_)
  exact Sh_some
theorem sh_M_look_94 (N : Nat)  : ∀  (h : hS) (y0 : Int32), Sh h (f_M_look_94 N   h y0) := by
  intro h y0
  unfold f_M_look_94
  exact Sh_some
theorem sh_M_look_78 (N : Nat) {rc46 : hS → Nat → Int32 → Int32 → Int32 → Int32 → Option (Int32 × hS)} (hsh46 : ∀ (h : hS) (th : Nat) (x2 : Int32) (x3 : Int32) (x4 : Int32) (x5 : Int32), Sh h (rc46 h th x2 x3 x4 x5)) : ∀  (h : hS) (th : Nat) (x2 : Int32) (x3 : Int32) (x4 : Int32) (x5 : Int32), Sh h (f_M_look_78 N rc46  h th x2 x3 x4 x5) := by
  intro h th x2 x3 x4 x5
  unfold f_M_look_78
  refine Sh_bn (fun v1 => ?_)
  exact hsh46 h th x2 x3 x4 v1
theorem sh_M_look_46 (N : Nat)  : ∀ (n : Nat) (h : hS) (th : Nat) (x2 : Int32) (x3 : Int32) (x4 : Int32) (x5 : Int32), Sh h (f_M_look_46 N  n h th x2 x3 x4 x5) := by
  intro n
  induction n with
  | zero =>
    intro h th x2 x3 x4 x5
    exact Sh_none
  | succ n ih =>
    intro h th x2 x3 x4 x5
    unfold f_M_look_46
    refine Sh_ite ?_ ?_
    · refine Sh_ite ?_ ?_
      · exact sh_M_look_94 N   h x3
      · exact sh_M_look_94 N   h x4
    · refine Sh_cv (fun a => (sh_M_unlike N h a x5)) (fun v1 h2 => ?_)
      refine Sh_ite ?_ ?_
      · exact sh_M_look_78 N ih  h2 th x2 x5 v1 x5
      · exact sh_M_look_78 N ih  h2 th x2 x3 x4 x5
theorem sh_M_look (N : Nat) (h : hS) (th : Nat) (x1 : Int32) (x2 : Int32) : Sh h (f_M_look N h th x1 x2) := by
  unfold f_M_look
  refine Sh_pI (fun h1 => ?_)
  refine Sh_cv (fun a => (sh_M_isWeighed N h1 a (0 : Int32) x1)) (fun v2 h3 => ?_)
  refine Sh_ite ?_ ?_
  · exact sh_M_look_24 N   h3 th
  · refine Sh_cl (sh_M_isIn N h3 x2.toInt64 (0 : Int64) (1 : Int64)) (fun v4 h5 => ?_)
    refine Sh_ite ?_ ?_
    · exact sh_M_look_24 N   h5 th
    · refine Sh_cv (fun a => (sh_M_tellFits N h5 a x1)) (fun v6 h7 => ?_)
      exact sh_M_look_46 N  N h7 th x2 (-10000000 : Int32) (0 : Int32) (-20 : Int32)
theorem sh_M_happens_170 (N : Nat)  : ∀  (h : hS) , Sh h (f_M_happens_170 N   h ) := by
  intro h 
  unfold f_M_happens_170
  exact Sh_some
theorem sh_M_happens_134 (N : Nat)  : ∀  (h : hS) (th : Nat) (x2 : Int32) (x3 : Int32) (y0 : Int32), Sh h (f_M_happens_134 N   h th x2 x3 y0) := by
  intro h th x2 x3 y0
  unfold f_M_happens_134
  refine Sh_gR (fun v1 => ?_)
  refine Sh_gR (fun v2 => ?_)
  refine Sh_nn (fun q3 => ?_)
  refine Sh_nn (fun q4 => ?_)
  refine Sh_cl (sh_M_copyTo N h q3 q4) (fun v5 h6 => ?_)
  refine Sh_cv (fun a => (sh_M_goes N h6 a x2 x3 y0 (-1 : Int32))) (fun v7 h8 => ?_)
  refine Sh_ite ?_ ?_
  · refine Sh_gR (fun v9 => ?_)
    refine Sh_gR (fun v10 => ?_)
    refine Sh_nn (fun q11 => ?_)
    refine Sh_nn (fun q12 => ?_)
    refine Sh_cl (sh_M_copyTo N h8 q11 q12) (fun v13 h14 => ?_)
    exact sh_M_happens_170 N   h14 
  · exact sh_M_happens_170 N   h8 
theorem sh_M_happens_104 (N : Nat)  : ∀  (h : hS) (th : Nat) (x1 : Int32) (x2 : Int32) (y0 : Int32), Sh h (f_M_happens_104 N   h th x1 x2 y0) := by
  intro h th x1 x2 y0
  unfold f_M_happens_104
  refine Sh_ite ?_ ?_
  · refine Sh_ite ?_ ?_
    · refine Sh_cv (fun a => (sh_M_draw N h a (6 : Int32))) (fun v1 h2 => ?_)
      exact sh_M_happens_134 N   h2 th x2 y0 v1
    · exact sh_M_happens_134 N   h th x2 y0 (0 : Int32)
  · refine Sh_cv (fun a => (sh_M_draw N h a (10 : Int32))) (fun v3 h4 => ?_)
    exact sh_M_happens_134 N   h4 th x2 y0 v3
theorem sh_M_happens_39 (N : Nat)  : ∀  (h : hS) (th : Nat) (x1 : Int32) (y0 : Int32), Sh h (f_M_happens_39 N   h th x1 y0) := by
  intro h th x1 y0
  unfold f_M_happens_39
  refine Sh_ite ?_ ?_
  · refine Sh_ite ?_ ?_
    · refine Sh_cv (fun a => (sh_M_draw N h a (21 : Int32))) (fun v5 h6 => ?_)
      exact sh_M_happens_104 N   h6 th x1 y0 (v5 - (10 : Int32))
    · refine Sh_ite ?_ ?_
      · refine Sh_cv (fun a => (sh_M_draw N h a (6 : Int32))) (fun v3 h4 => ?_)
        exact sh_M_happens_104 N   h4 th x1 y0 v3
      · refine Sh_ite ?_ ?_
        · refine Sh_cv (fun a => (sh_M_draw N h a (10 : Int32))) (fun v1 h2 => ?_)
          exact sh_M_happens_104 N   h2 th x1 y0 v1
        · exact sh_M_happens_104 N   h th x1 y0 (0 : Int32)
  · refine Sh_cv (fun a => (sh_M_draw N h a (101 : Int32))) (fun v7 h8 => ?_)
    exact sh_M_happens_104 N   h8 th x1 y0 (v7 - (50 : Int32))
theorem sh_M_happens (N : Nat) (h : hS) (th : Nat) : Sh h (f_M_happens N h th) := by
  unfold f_M_happens
  refine Sh_cv (fun a => (sh_M_draw N h a (8 : Int32))) (fun v1 h2 => ?_)
  refine Sh_ite ?_ ?_
  · refine Sh_ite ?_ ?_
    · exact sh_M_happens_39 N   h2 th v1 (2 : Int32)
    · refine Sh_ite ?_ ?_
      · exact sh_M_happens_39 N   h2 th v1 (7 : Int32)
      · exact sh_M_happens_39 N   h2 th v1 (v1 - (1 : Int32))
  · exact sh_M_happens_39 N   h2 th v1 v1
theorem sh_M_years_110 (N : Nat)  : ∀  (h : hS) (y0 : Int64), Sh h (f_M_years_110 N   h y0) := by
  intro h y0
  unfold f_M_years_110
  exact Sh_some
theorem sh_M_years_56 (N : Nat)  : ∀ (n : Nat) (h : hS) (th : Nat) (x2 : Int32) (x3 : Int32) (x4 : Int32), Sh h (f_M_years_56 N  n h th x2 x3 x4) := by
  intro n
  induction n with
  | zero =>
    intro h th x2 x3 x4
    exact Sh_none
  | succ n ih =>
    intro h th x2 x3 x4
    unfold f_M_years_56
    refine Sh_ite ?_ ?_
    · refine Sh_ite ?_ ?_
      · refine Sh_gR (fun v9 => ?_)
        refine Sh_nn (fun q10 => ?_)
        refine Sh_cl (sh_M_leastOf N h q10) (fun v11 h12 => ?_)
        exact sh_M_years_110 N   h12 v11
      · refine Sh_ite ?_ ?_
        · refine Sh_gR (fun v5 => ?_)
          refine Sh_nn (fun q6 => ?_)
          refine Sh_cl (sh_M_kinks N h q6) (fun v7 h8 => ?_)
          exact sh_M_years_110 N   h8 v7.toInt64
        · refine Sh_gR (fun v1 => ?_)
          refine Sh_nn (fun q2 => ?_)
          refine Sh_cl (sh_M_valueAt N h q2 (0 : Int32)) (fun v3 h4 => ?_)
          exact sh_M_years_110 N   h4 v3
    · refine Sh_cv (fun a => (sh_M_happens N h a )) (fun v13 h14 => ?_)
      refine Sh_bn (fun v15 => ?_)
      exact ih h14 th x2 x3 v15
theorem sh_M_years (N : Nat) (h : hS) (th : Nat) (x1 : Int32) (x2 : Int32) (x3 : Int32) : Sh h (f_M_years N h th x1 x2 x3) := by
  unfold f_M_years
  refine Sh_pI (fun h1 => ?_)
  refine Sh_cl (sh_M_isIn N h1 x3.toInt64 (0 : Int64) (2 : Int64)) (fun v2 h3 => ?_)
  refine Sh_ite ?_ ?_
  · refine Sh_cv (fun a => (sh_M_fail N h3 a (1 : Int32))) (fun v11 h12 => ?_)
    exact Sh_some
  · refine Sh_cl (sh_M_isIn N h3 x2.toInt64 (0 : Int64) (20 : Int64)) (fun v4 h5 => ?_)
    refine Sh_ite ?_ ?_
    · refine Sh_cv (fun a => (sh_M_fail N h5 a (2 : Int32))) (fun v9 h10 => ?_)
      exact Sh_some
    · refine Sh_cv (fun a => (sh_M_tell N h5 a (0 : Int32))) (fun v6 h7 => ?_)
      refine Sh_pI (fun h8 => ?_)
      exact sh_M_years_56 N  N h8 th x2 x3 (0 : Int32)
set_option maxRecDepth 20000 in
set_option maxHeartbeats 4000000 in
theorem b_M_goes_186 {p : Program} {l : Launch} {e : Env} {s : State} {m : MethodId} {args : Array Value} {below : List Frame} {meth : Method} {c : Code} {D : va_G} {cy : cyT} {z : Nat} (C : MX p s m args meth c cX12_goes 5 ((some .boolean)) RX12 (Cond.code yX12_goes cX12_goes 5 ((some .boolean)) :: GW)) (N : Nat) {r : Int32} {g : hS}  : ∀  (h : hS) (y0 : Int32) (H : Heap) (locs : List Loc) (ls : Array Slot), wd D cy z s 0 h H locs → lv_has ls 5 [] → f_M_goes_186 N   h y0 = some (r, g) → W p l e { frames := 4, cells := 0, slots := 0, locals := 122 } s m args below meth c H locs 0 0 (MQ below (eQ D cy z (rI r) g) args s 0 0 (fun q => z ≤ q)) (F0 m 186 ls [.int y0]) := by
  obtain ⟨hx, hb, hr, hml, hown, hts, hlk⟩ := id C
  intro  h y0 H locs ls w  hl hE
  unfold f_M_goes_186 at hE
  exact w_zret C w hE dX12_goes_186
set_option maxRecDepth 20000 in
set_option maxHeartbeats 4000000 in
theorem b_M_goes_185 {p : Program} {l : Launch} {e : Env} {s : State} {m : MethodId} {args : Array Value} {below : List Frame} {meth : Method} {c : Code} {D : va_G} {cy : cyT} {z : Nat} (C : MX p s m args meth c cX12_goes 5 ((some .boolean)) RX12 (Cond.code yX12_goes cX12_goes 5 ((some .boolean)) :: GW)) (N : Nat) {r : Int32} {g : hS}  : ∀  (h : hS)  (H : Heap) (locs : List Loc) (ls : Array Slot), wd D cy z s 0 h H locs → lv_has ls 5 [] → f_M_goes_185 N   h  = some (r, g) → W p l e { frames := 4, cells := 0, slots := 0, locals := 122 } s m args below meth c H locs 0 0 (MQ below (eQ D cy z (rI r) g) args s 0 0 (fun q => z ≤ q)) (F0 m 185 ls []) := by
  obtain ⟨hx, hb, hr, hml, hown, hts, hlk⟩ := id C
  intro  h  H locs ls w  hl hE
  unfold f_M_goes_185 at hE
  refine lv_iconst (v := 0) hx hb dX12_goes_185 (by decide) ?_
  exact b_M_goes_186 C N     h (0 : Int32) _ _ ls w  (lv_sub hl [] rfl) hE
set_option maxRecDepth 20000 in
set_option maxHeartbeats 4000000 in
theorem b_M_goes_147 {p : Program} {l : Launch} {e : Env} {s : State} {m : MethodId} {args : Array Value} {below : List Frame} {meth : Method} {c : Code} {D : va_G} {cy : cyT} {z : Nat} (C : MX p s m args meth c cX12_goes 5 ((some .boolean)) RX12 (Cond.code yX12_goes cX12_goes 5 ((some .boolean)) :: GW)) (N : Nat) {r : Int32} {g : hS}  : ∀  (h : hS) (th : Nat) (H : Heap) (locs : List Loc) (ls : Array Slot), wd D cy z s 0 h H locs → lv_has ls 5 [(0, .ref th)] → f_M_goes_147 N   h th = some (r, g) → W p l e { frames := 4, cells := 0, slots := 0, locals := 122 } s m args below meth c H locs 0 0 (MQ below (eQ D cy z (rI r) g) args s 0 0 (fun q => z ≤ q)) (F0 m 147 ls []) := by
  obtain ⟨hx, hb, hr, hml, hown, hts, hlk⟩ := id C
  intro  h th H locs ls w  hl hE
  unfold f_M_goes_147 at hE
  refine lv_aload_n hx hb dX12_goes_147 rfl (lv_at hl 0 rfl) ?_
  refine w_gI (r := some th) (ci := 0) (k := 9) C w rfl (by decide) (GF_wsX120 _) (by decide) rfl (List.mem_cons_of_mem _ gw_29_12) rfl dX12_goes_148 hE (fun v1 e1 => ?_)
  refine w_if_ne (tgt := 185) C dX12_goes_151 (by decide) e1 (fun hc e2 => ?_) (fun hc e2 => ?_)
  · exact b_M_goes_185 C N     h  _ _ ls w  (lv_sub hl [] rfl) e2
  · refine lv_aload_n hx hb dX12_goes_154 rfl (lv_at hl 0 rfl) ?_
    refine w_gR (r := some th) (ci := 0) (k := 4) C w rfl (by decide) (GF_wsX120 _) (by decide) rfl (List.mem_cons_of_mem _ gw_6_23) rfl dX12_goes_155 e2 (fun v2 e3 => ?_)
    obtain ⟨q3, eq3, e4⟩ := nn_some e3
    subst eq3
    refine w_SI GW_good (n := 1) (F := 0) (Lc := 0) (av := [.ref q3]) (rest := []) C w (fun r g hf => k_M_weights l D cy z N h q3 r g hf) gw_31_3 gw_31_4 gw_1_5 gw_31_5 (by decide +kernel) ⟨Nat.le_of_ble_eq_true rfl, Nat.le_of_ble_eq_true rfl⟩ rfl hl.1 rfl (Nat.le_of_ble_eq_true rfl) dX12_goes_158 (sh_M_weights N h q3) ⟨by decide, by decide⟩ e4 (fun v4 h5 H locs w hsh5 e5 => ?_)
    refine lv_sipush (v := 5000) hx hb dX12_goes_161 (by decide) ?_
    refine w_icmp_gt (tgt := 185) C dX12_goes_164 (by decide) e5 (fun hc e6 => ?_) (fun hc e6 => ?_)
    · exact b_M_goes_185 C N     h5  _ _ ls w  (lv_sub hl [] rfl) e6
    · refine lv_aload_n hx hb dX12_goes_167 rfl (lv_at hl 0 rfl) ?_
      refine w_gR (r := some th) (ci := 0) (k := 4) C w rfl (by decide) (GF_wsX120 _) (by decide) rfl (List.mem_cons_of_mem _ gw_6_23) rfl dX12_goes_168 e6 (fun v6 e7 => ?_)
      obtain ⟨q7, eq7, e8⟩ := nn_some e7
      subst eq7
      refine w_SJ GW_good (n := 1) (F := 2) (Lc := 71) (av := [.ref q7]) (rest := []) C w (fun r g hf => k_M_leastOf l D cy z N h5 q7 r g hf) gw_30_17 gw_30_18 gw_1_5 gw_30_19 (by decide +kernel) ⟨Nat.le_of_ble_eq_true rfl, Nat.le_of_ble_eq_true rfl⟩ rfl hl.1 rfl (Nat.le_of_ble_eq_true rfl) dX12_goes_171 (sh_M_leastOf N h5 q7) ⟨by decide, by decide⟩ e8 (fun v8 h9 H locs w hsh9 e9 => ?_)
      refine lv_ldc2 hx hb hown (hts _ (List.mem_cons_of_mem _ gw_29_13)) dX12_goes_174 ?_
      refine W.lcmp hx hb dX12_goes_177 ?_
      refine w_if_gt (tgt := 185) C dX12_goes_178 (by decide) e9 (fun hc e10 => ?_) (fun hc e10 => ?_)
      · exact b_M_goes_185 C N     h9  _ _ ls w  (lv_sub hl [] rfl) e10
      · refine lv_iconst (v := 1) hx hb dX12_goes_181 (by decide) ?_
        refine lv_goto (tgt := 186) hx hb dX12_goes_182 (by decide) ?_
        exact b_M_goes_186 C N     h9 (1 : Int32) _ _ ls w  (lv_sub hl [] rfl) e10
set_option maxRecDepth 20000 in
set_option maxHeartbeats 4000000 in
theorem k_M_goes (l : Launch) (D : va_G) (cy : cyT) (z : Nat) (N : Nat) (h : hS) (th : Nat) (x1 : Int32) (x2 : Int32) (x3 : Int32) (x4 : Int32) (r : Int32) (g : hS) (hE : f_M_goes N h th x1 x2 x3 x4 = some (r, g)) : ct l yX12_goes (Cond.code yX12_goes cX12_goes 5 ((some .boolean)) :: GW) { frames := 4, cells := 0, slots := 0, locals := 122 } D cy z h [.ref th, .int x1, .int x2, .int x3, .int x4] (rI r) g := by
  refine Met.ofW (cc := cX12_goes) (maxL := 5) (ret := (some .boolean)) (by decide) rfl ?_
  intro p e s m args below meth c s₁ B hml hv
  obtain ⟨rfl, hw⟩ := hv
  have C : MX p s m ([.ref th, .int x1, .int x2, .int x3, .int x4] : List Value).toArray meth c cX12_goes 5 ((some .boolean)) RX12 (Cond.code yX12_goes cX12_goes 5 ((some .boolean)) :: GW) := ⟨B.exec, B.bytes, B.returns, hml, findClass_of_methodNamed B.named, atoms_spec (ws := Cond.code yX12_goes cX12_goes 5 ((some .boolean)) :: GW) B.pre, B.notSynchronized⟩
  obtain ⟨hx, hb, hr, hml, hown, hts, hlk⟩ := id C
  have w := wd_of hw
  obtain ⟨ls, hen, hl⟩ : ∃ ls : Array Slot, entryFrame m ([.ref th, .int x1, .int x2, .int x3, .int x4] : List Value).toArray 5 = F0 m 0 ls [] ∧ lv_has ls 5 [(0, .ref th), (1, .int x1), (2, .int x2), (3, .int x3), (4, .int x4)] := by
    exact ⟨_, lg_entry_eq _ _ _, lv_entry _ (Nat.le_of_ble_eq_true rfl)⟩
  rw [hen]
  unfold f_M_goes at hE
  refine lv_aload_n hx hb dX12_goes_0 rfl (lv_at hl 0 rfl) ?_
  refine lv_iconst (v := 0) hx hb dX12_goes_1 (by decide) ?_
  refine w_pZ (r := some th) (ci := 0) (k := 9) C w rfl (by decide) (by unfold roK; omega) (GF_wsX120 _) tyX12 tyX12_ok nmX12 (by decide) rfl (List.mem_cons_of_mem _ gw_29_12) rfl rfl (tyX12_ok 9 (by decide)) dX12_goes_2 hE (fun h1 H locs w hsh1 e1 => ?_)
  refine lv_iload_n hx hb dX12_goes_5 rfl (lv_at hl 1 rfl) ?_
  refine w_case e1 (fun hc e2 => ?_) (fun nc6_0 e2 => ?_)
  · refine w_tin (tgt := 52) C hc dX12_goes_6 (by decide) (by decide) rfl (by decide) ?_
    refine lv_aload_n hx hb dX12_goes_52 rfl (lv_at hl 0 rfl) ?_
    refine lv_iload_n hx hb dX12_goes_53 rfl (lv_at hl 2 rfl) ?_
    refine lv_iload_n hx hb dX12_goes_54 rfl (lv_at hl 3 rfl) ?_
    refine lv_iload_n hx hb dX12_goes_55 rfl (lv_at hl 3 rfl) ?_
    refine w_VV GW_good (n := 3) (F := 2) (Lc := 47) (o := some th) (av := [.int x2, .int x3, .int x3]) (rest := []) C w rfl (by decide) (fun a r g hf => k_M_leans l D cy z N h1 a x2 x3 x3 r g hf) gw_29_14 gw_29_15 gw_29_16 gw_1_5 gw_29_17 (by decide +kernel) ⟨Nat.le_of_ble_eq_true rfl, Nat.le_of_ble_eq_true rfl⟩ rfl hl.1 rfl (Nat.le_of_ble_eq_true rfl) dX12_goes_56 (fun a => (sh_M_leans N h1 a x2 x3 x3)) ⟨by decide, by decide⟩ e2 (fun v2 h3 H locs w hsh3 e3 => ?_)
    refine lv_goto (tgt := 147) hx hb dX12_goes_59 (by decide) ?_
    exact b_M_goes_147 C N     h3 th _ _ ls w  (lv_sub hl [0] rfl) e3
  ·
    refine w_case e2 (fun hc e4 => ?_) (fun nc6_1 e4 => ?_)
    · refine w_tin (tgt := 62) C hc dX12_goes_6 (by decide) (by decide) rfl (by decide) ?_
      refine lv_aload_n hx hb dX12_goes_62 rfl (lv_at hl 0 rfl) ?_
      refine lv_iload_n hx hb dX12_goes_63 rfl (lv_at hl 2 rfl) ?_
      refine lv_iconst (v := 0) hx hb dX12_goes_64 (by decide) ?_
      refine lv_iload_n hx hb dX12_goes_65 rfl (lv_at hl 3 rfl) ?_
      refine w_VV GW_good (n := 3) (F := 2) (Lc := 47) (o := some th) (av := [.int x2, .int (0 : Int32), .int x3]) (rest := []) C w rfl (by decide) (fun a r g hf => k_M_leans l D cy z N h1 a x2 (0 : Int32) x3 r g hf) gw_29_14 gw_29_15 gw_29_16 gw_1_5 gw_29_17 (by decide +kernel) ⟨Nat.le_of_ble_eq_true rfl, Nat.le_of_ble_eq_true rfl⟩ rfl hl.1 rfl (Nat.le_of_ble_eq_true rfl) dX12_goes_66 (fun a => (sh_M_leans N h1 a x2 (0 : Int32) x3)) ⟨by decide, by decide⟩ e4 (fun v4 h5 H locs w hsh5 e5 => ?_)
      refine lv_goto (tgt := 147) hx hb dX12_goes_69 (by decide) ?_
      exact b_M_goes_147 C N     h5 th _ _ ls w  (lv_sub hl [0] rfl) e5
    ·
      refine w_case e4 (fun hc e6 => ?_) (fun nc6_2 e6 => ?_)
      · refine w_tin (tgt := 72) C hc dX12_goes_6 (by decide) (by decide) rfl (by decide) ?_
        refine lv_aload_n hx hb dX12_goes_72 rfl (lv_at hl 0 rfl) ?_
        refine lv_iload_n hx hb dX12_goes_73 rfl (lv_at hl 2 rfl) ?_
        refine lv_iload_n hx hb dX12_goes_74 rfl (lv_at hl 3 rfl) ?_
        refine lv_iconst (v := 0) hx hb dX12_goes_75 (by decide) ?_
        refine w_VV GW_good (n := 3) (F := 2) (Lc := 47) (o := some th) (av := [.int x2, .int x3, .int (0 : Int32)]) (rest := []) C w rfl (by decide) (fun a r g hf => k_M_leans l D cy z N h1 a x2 x3 (0 : Int32) r g hf) gw_29_14 gw_29_15 gw_29_16 gw_1_5 gw_29_17 (by decide +kernel) ⟨Nat.le_of_ble_eq_true rfl, Nat.le_of_ble_eq_true rfl⟩ rfl hl.1 rfl (Nat.le_of_ble_eq_true rfl) dX12_goes_76 (fun a => (sh_M_leans N h1 a x2 x3 (0 : Int32))) ⟨by decide, by decide⟩ e6 (fun v6 h7 H locs w hsh7 e7 => ?_)
        refine lv_goto (tgt := 147) hx hb dX12_goes_79 (by decide) ?_
        exact b_M_goes_147 C N     h7 th _ _ ls w  (lv_sub hl [0] rfl) e7
      ·
        refine w_case e6 (fun hc e8 => ?_) (fun nc6_3 e8 => ?_)
        · refine w_tin (tgt := 82) C hc dX12_goes_6 (by decide) (by decide) rfl (by decide) ?_
          refine lv_aload_n hx hb dX12_goes_82 rfl (lv_at hl 0 rfl) ?_
          refine lv_iload_n hx hb dX12_goes_83 rfl (lv_at hl 2 rfl) ?_
          refine w_VV GW_good (n := 1) (F := 2) (Lc := 71) (o := some th) (av := [.int x2]) (rest := []) C w rfl (by decide) (fun a r g hf => k_M_drifts l D cy z N h1 a x2 r g hf) gw_30_0 gw_30_1 gw_30_2 gw_1_5 gw_30_3 (by decide +kernel) ⟨Nat.le_of_ble_eq_true rfl, Nat.le_of_ble_eq_true rfl⟩ rfl hl.1 rfl (Nat.le_of_ble_eq_true rfl) dX12_goes_84 (fun a => (sh_M_drifts N h1 a x2)) ⟨by decide, by decide⟩ e8 (fun v8 h9 H locs w hsh9 e9 => ?_)
          refine lv_goto (tgt := 147) hx hb dX12_goes_87 (by decide) ?_
          exact b_M_goes_147 C N     h9 th _ _ ls w  (lv_sub hl [0] rfl) e9
        ·
          refine w_case e8 (fun hc e10 => ?_) (fun nc6_4 e10 => ?_)
          · refine w_tin (tgt := 90) C hc dX12_goes_6 (by decide) (by decide) rfl (by decide) ?_
            refine lv_aload_n hx hb dX12_goes_90 rfl (lv_at hl 0 rfl) ?_
            refine lv_iload_n hx hb dX12_goes_91 rfl (lv_at hl 2 rfl) ?_
            refine lv_iload_n hx hb dX12_goes_92 rfl (lv_at hl 3 rfl) ?_
            refine lv_iconst (v := 1) hx hb dX12_goes_93 (by decide) ?_
            refine lv_iconst (v := 1) hx hb dX12_goes_94 (by decide) ?_
            refine w_VV GW_good (n := 4) (F := 3) (Lc := 91) (o := some th) (av := [.int x2, .int x3, .int (1 : Int32), .int (1 : Int32)]) (rest := []) C w rfl (by decide) (fun a r g hf => k_M_parts l D cy z N h1 a x2 x3 (1 : Int32) (1 : Int32) r g hf) gw_30_10 gw_30_11 gw_30_12 gw_1_5 gw_30_13 (by decide +kernel) ⟨Nat.le_of_ble_eq_true rfl, Nat.le_of_ble_eq_true rfl⟩ rfl hl.1 rfl (Nat.le_of_ble_eq_true rfl) dX12_goes_95 (fun a => (sh_M_parts N h1 a x2 x3 (1 : Int32) (1 : Int32))) ⟨by decide, by decide⟩ e10 (fun v10 h11 H locs w hsh11 e11 => ?_)
            refine lv_goto (tgt := 147) hx hb dX12_goes_98 (by decide) ?_
            exact b_M_goes_147 C N     h11 th _ _ ls w  (lv_sub hl [0] rfl) e11
          ·
            refine w_case e10 (fun hc e12 => ?_) (fun nc6_5 e12 => ?_)
            · refine w_tin (tgt := 101) C hc dX12_goes_6 (by decide) (by decide) rfl (by decide) ?_
              refine lv_aload_n hx hb dX12_goes_101 rfl (lv_at hl 0 rfl) ?_
              refine lv_iconst (v := 0) hx hb dX12_goes_102 (by decide) ?_
              refine lv_iconst (v := 0) hx hb dX12_goes_103 (by decide) ?_
              refine lv_iconst (v := 1) hx hb dX12_goes_104 (by decide) ?_
              refine lv_iconst (v := 0) hx hb dX12_goes_105 (by decide) ?_
              refine w_VV GW_good (n := 4) (F := 3) (Lc := 91) (o := some th) (av := [.int (0 : Int32), .int (0 : Int32), .int (1 : Int32), .int (0 : Int32)]) (rest := []) C w rfl (by decide) (fun a r g hf => k_M_parts l D cy z N h1 a (0 : Int32) (0 : Int32) (1 : Int32) (0 : Int32) r g hf) gw_30_10 gw_30_11 gw_30_12 gw_1_5 gw_30_13 (by decide +kernel) ⟨Nat.le_of_ble_eq_true rfl, Nat.le_of_ble_eq_true rfl⟩ rfl hl.1 rfl (Nat.le_of_ble_eq_true rfl) dX12_goes_106 (fun a => (sh_M_parts N h1 a (0 : Int32) (0 : Int32) (1 : Int32) (0 : Int32))) ⟨by decide, by decide⟩ e12 (fun v12 h13 H locs w hsh13 e13 => ?_)
              refine lv_goto (tgt := 147) hx hb dX12_goes_109 (by decide) ?_
              exact b_M_goes_147 C N     h13 th _ _ ls w  (lv_sub hl [0] rfl) e13
            ·
              refine w_case e12 (fun hc e14 => ?_) (fun nc6_6 e14 => ?_)
              · refine w_tin (tgt := 112) C hc dX12_goes_6 (by decide) (by decide) rfl (by decide) ?_
                refine lv_aload_n hx hb dX12_goes_112 rfl (lv_at hl 0 rfl) ?_
                refine lv_iconst (v := 0) hx hb dX12_goes_113 (by decide) ?_
                refine lv_iconst (v := 0) hx hb dX12_goes_114 (by decide) ?_
                refine lv_iconst (v := 0) hx hb dX12_goes_115 (by decide) ?_
                refine lv_iconst (v := 1) hx hb dX12_goes_116 (by decide) ?_
                refine w_VV GW_good (n := 4) (F := 3) (Lc := 91) (o := some th) (av := [.int (0 : Int32), .int (0 : Int32), .int (0 : Int32), .int (1 : Int32)]) (rest := []) C w rfl (by decide) (fun a r g hf => k_M_parts l D cy z N h1 a (0 : Int32) (0 : Int32) (0 : Int32) (1 : Int32) r g hf) gw_30_10 gw_30_11 gw_30_12 gw_1_5 gw_30_13 (by decide +kernel) ⟨Nat.le_of_ble_eq_true rfl, Nat.le_of_ble_eq_true rfl⟩ rfl hl.1 rfl (Nat.le_of_ble_eq_true rfl) dX12_goes_117 (fun a => (sh_M_parts N h1 a (0 : Int32) (0 : Int32) (0 : Int32) (1 : Int32))) ⟨by decide, by decide⟩ e14 (fun v14 h15 H locs w hsh15 e15 => ?_)
                refine lv_goto (tgt := 147) hx hb dX12_goes_120 (by decide) ?_
                exact b_M_goes_147 C N     h15 th _ _ ls w  (lv_sub hl [0] rfl) e15
              ·
                refine w_case e14 (fun hc e16 => ?_) (fun nc6_7 e16 => ?_)
                · refine w_tin (tgt := 123) C hc dX12_goes_6 (by decide) (by decide) rfl (by decide) ?_
                  refine lv_aload_n hx hb dX12_goes_123 rfl (lv_at hl 0 rfl) ?_
                  refine w_gR (r := some th) (ci := 0) (k := 4) C w rfl (by decide) (GF_wsX120 _) (by decide) rfl (List.mem_cons_of_mem _ gw_6_23) rfl dX12_goes_124 e16 (fun v16 e17 => ?_)
                  refine lv_iconst (v := 1) hx hb dX12_goes_127 (by decide) ?_
                  refine lv_dup2_11 hx hb dX12_goes_128 rfl (va_rf_cat _) ?_
                  refine w_aI (r := v16) C w dX12_goes_129 e17 (fun v17 e18 => ?_)
                  refine lv_iload_n hx hb dX12_goes_130 rfl (lv_at hl 2 rfl) ?_
                  refine lv_iadd hx hb dX12_goes_131 ?_
                  refine w_uI (r := v16) C w dX12_goes_132 e18 (fun h18 H locs w hsh18 e19 => ?_)
                  refine lv_goto (tgt := 147) hx hb dX12_goes_133 (by decide) ?_
                  exact b_M_goes_147 C N     h18 th _ _ ls w  (lv_sub hl [0] rfl) e19
                ·
                  refine w_tout (tgt := 136) 0 8 C (by decide) (by intro k hk; rcases (show k = 0 ∨ k = 1 ∨ k = 2 ∨ k = 3 ∨ k = 4 ∨ k = 5 ∨ k = 6 ∨ k = 7 by omega) with rfl | rfl | rfl | rfl | rfl | rfl | rfl | rfl; all_goals assumption) rfl rfl dX12_goes_6 (by decide) ?_
                  refine lv_aload_n hx hb dX12_goes_136 rfl (lv_at hl 0 rfl) ?_
                  refine lv_aload_n hx hb dX12_goes_137 rfl (lv_at hl 0 rfl) ?_
                  refine w_gR (r := some th) (ci := 0) (k := 7) C w rfl (by decide) (GF_wsX120 _) (by decide) rfl (List.mem_cons_of_mem _ gw_7_3) rfl dX12_goes_138 e16 (fun v19 e20 => ?_)
                  refine lv_iload hx hb dX12_goes_141 (lv_at hl 4 rfl) ?_
                  refine w_aR60 (r := v19) C w dX12_goes_143 e20 (fun v20 e21 => ?_)
                  obtain ⟨q21, eq21, e22⟩ := nn_some e21
                  subst eq21
                  refine w_VV GW_good (n := 1) (F := 0) (Lc := 0) (o := some th) (av := [.ref q21]) (rest := []) C w rfl (by decide) (fun a r g hf => k_M_putsOn l D cy z N h1 a q21 r g hf) gw_30_23 gw_31_0 gw_31_1 gw_1_5 gw_31_2 (by decide +kernel) ⟨Nat.le_of_ble_eq_true rfl, Nat.le_of_ble_eq_true rfl⟩ rfl hl.1 rfl (Nat.le_of_ble_eq_true rfl) dX12_goes_144 (fun a => (sh_M_putsOn N h1 a q21)) ⟨by decide, by decide⟩ e22 (fun v22 h23 H locs w hsh23 e23 => ?_)
                  exact b_M_goes_147 C N     h23 th _ _ ls w  (lv_sub hl [0] rfl) e23
set_option maxRecDepth 20000 in
set_option maxHeartbeats 4000000 in
theorem b_M_runs_157 {p : Program} {l : Launch} {e : Env} {s : State} {m : MethodId} {args : Array Value} {below : List Frame} {meth : Method} {c : Code} {D : va_G} {cy : cyT} {z : Nat} (C : MX p s m args meth c cX12_runs 6 ((some .boolean)) RX12 (Cond.code yX12_runs cX12_runs 6 ((some .boolean)) :: GW)) (N : Nat) {r : Int32} {g : hS}  : ∀  (h : hS) (y0 : Int32) (H : Heap) (locs : List Loc) (ls : Array Slot), wd D cy z s 0 h H locs → lv_has ls 6 [] → f_M_runs_157 N   h y0 = some (r, g) → W p l e { frames := 5, cells := 0, slots := 0, locals := 146 } s m args below meth c H locs 0 0 (MQ below (eQ D cy z (rI r) g) args s 0 0 (fun q => z ≤ q)) (F0 m 157 ls [.int y0]) := by
  obtain ⟨hx, hb, hr, hml, hown, hts, hlk⟩ := id C
  intro  h y0 H locs ls w  hl hE
  unfold f_M_runs_157 at hE
  exact w_zret C w hE dX12_runs_157
set_option maxRecDepth 20000 in
set_option maxHeartbeats 4000000 in
theorem b_M_runs_144 {p : Program} {l : Launch} {e : Env} {s : State} {m : MethodId} {args : Array Value} {below : List Frame} {meth : Method} {c : Code} {D : va_G} {cy : cyT} {z : Nat} (C : MX p s m args meth c cX12_runs 6 ((some .boolean)) RX12 (Cond.code yX12_runs cX12_runs 6 ((some .boolean)) :: GW)) (N : Nat) {r : Int32} {g : hS}  : ∀  (h : hS) (th : Nat) (H : Heap) (locs : List Loc) (ls : Array Slot), wd D cy z s 0 h H locs → lv_has ls 6 [(0, .ref th)] → f_M_runs_144 N   h th = some (r, g) → W p l e { frames := 5, cells := 0, slots := 0, locals := 146 } s m args below meth c H locs 0 0 (MQ below (eQ D cy z (rI r) g) args s 0 0 (fun q => z ≤ q)) (F0 m 144 ls []) := by
  obtain ⟨hx, hb, hr, hml, hown, hts, hlk⟩ := id C
  intro  h th H locs ls w  hl hE
  unfold f_M_runs_144 at hE
  refine lv_aload_n hx hb dX12_runs_144 rfl (lv_at hl 0 rfl) ?_
  refine w_gI (r := some th) (ci := 0) (k := 12) C w rfl (by decide) (GF_wsX120 _) (by decide) rfl (List.mem_cons_of_mem _ gw_24_18) rfl dX12_runs_145 hE (fun v1 e1 => ?_)
  refine lv_iconst (v := -1) hx hb dX12_runs_148 (by decide) ?_
  refine w_icmp_ne (tgt := 156) C dX12_runs_149 (by decide) e1 (fun hc e2 => ?_) (fun hc e2 => ?_)
  · refine lv_iconst (v := 0) hx hb dX12_runs_156 (by decide) ?_
    exact b_M_runs_157 C N     h (0 : Int32) _ _ ls w  (lv_sub hl [] rfl) e2
  · refine lv_iconst (v := 1) hx hb dX12_runs_152 (by decide) ?_
    refine lv_goto (tgt := 157) hx hb dX12_runs_153 (by decide) ?_
    exact b_M_runs_157 C N     h (1 : Int32) _ _ ls w  (lv_sub hl [] rfl) e2
set_option maxRecDepth 20000 in
set_option maxHeartbeats 4000000 in
theorem b_M_runs_138 {p : Program} {l : Launch} {e : Env} {s : State} {m : MethodId} {args : Array Value} {below : List Frame} {meth : Method} {c : Code} {D : va_G} {cy : cyT} {z : Nat} (C : MX p s m args meth c cX12_runs 6 ((some .boolean)) RX12 (Cond.code yX12_runs cX12_runs 6 ((some .boolean)) :: GW)) (N : Nat) {r : Int32} {g : hS} {rc21 : hS → Nat → Nat → Int32 → Int32 → Option (Int32 × hS)}  (hrc21 : ∀ (h : hS) (th : Nat) (a1 : Nat) (x3 : Int32) (x4 : Int32) (H : Heap) (locs : List Loc) (ls : Array Slot), wd D cy z s 0 h H locs → lv_has ls 6 [(0, .ref th), (1, .ref a1), (3, .int x3), (4, .int x4)] → rc21 h th a1 x3 x4 = some (r, g) → W p l e { frames := 5, cells := 0, slots := 0, locals := 146 } s m args below meth c H locs 0 0 (MQ below (eQ D cy z (rI r) g) args s 0 0 (fun q => z ≤ q)) (F0 m 21 ls [])) : ∀  (h : hS) (th : Nat) (a1 : Nat) (x3 : Int32) (x4 : Int32) (H : Heap) (locs : List Loc) (ls : Array Slot), wd D cy z s 0 h H locs → lv_has ls 6 [(0, .ref th), (1, .ref a1), (3, .int x3), (4, .int x4)] → f_M_runs_138 N rc21  h th a1 x3 x4 = some (r, g) → W p l e { frames := 5, cells := 0, slots := 0, locals := 146 } s m args below meth c H locs 0 0 (MQ below (eQ D cy z (rI r) g) args s 0 0 (fun q => z ≤ q)) (F0 m 138 ls []) := by
  obtain ⟨hx, hb, hr, hml, hown, hts, hlk⟩ := id C
  intro  h th a1 x3 x4 H locs ls w  hl hE
  unfold f_M_runs_138 at hE
  obtain ⟨v1, ev1, e1⟩ := bn_some hE
  refine lv_iinc (v := v1) (lv' := [(4, .int v1), (0, .ref th), (1, .ref a1), (3, .int x3)]) hx hb dX12_runs_138 hl (k := 3) rfl (by rw [ev1]; rfl) (by decide) rfl (fun ls hl => ?_)
  refine lv_goto (tgt := 21) hx hb dX12_runs_141 (by decide) ?_
  exact hrc21  h th a1 x3 v1 _ _ ls w  (lv_sub hl [1, 2, 3, 0] rfl) e1
set_option maxRecDepth 20000 in
set_option maxHeartbeats 4000000 in
theorem b_M_runs_120 {p : Program} {l : Launch} {e : Env} {s : State} {m : MethodId} {args : Array Value} {below : List Frame} {meth : Method} {c : Code} {D : va_G} {cy : cyT} {z : Nat} (C : MX p s m args meth c cX12_runs 6 ((some .boolean)) RX12 (Cond.code yX12_runs cX12_runs 6 ((some .boolean)) :: GW)) (N : Nat) {r : Int32} {g : hS} {rc21 : hS → Nat → Nat → Int32 → Int32 → Option (Int32 × hS)}  (hrc21 : ∀ (h : hS) (th : Nat) (a1 : Nat) (x3 : Int32) (x4 : Int32) (H : Heap) (locs : List Loc) (ls : Array Slot), wd D cy z s 0 h H locs → lv_has ls 6 [(0, .ref th), (1, .ref a1), (3, .int x3), (4, .int x4)] → rc21 h th a1 x3 x4 = some (r, g) → W p l e { frames := 5, cells := 0, slots := 0, locals := 146 } s m args below meth c H locs 0 0 (MQ below (eQ D cy z (rI r) g) args s 0 0 (fun q => z ≤ q)) (F0 m 21 ls [])) : ∀  (h : hS) (th : Nat) (a1 : Nat) (x3 : Int32) (x4 : Int32) (x5 : Int32) (y0 : Option Nat) (y1 : Int32) (y2 : Int32) (y3 : Int32) (H : Heap) (locs : List Loc) (ls : Array Slot), wd D cy z s 0 h H locs → lv_has ls 6 [(0, .ref th), (1, .ref a1), (3, .int x3), (4, .int x4), (5, .int x5)] → f_M_runs_120 N rc21  h th a1 x3 x4 x5 y0 y1 y2 y3 = some (r, g) → W p l e { frames := 5, cells := 0, slots := 0, locals := 146 } s m args below meth c H locs 0 0 (MQ below (eQ D cy z (rI r) g) args s 0 0 (fun q => z ≤ q)) (F0 m 120 ls [.int y3, .int y2, .int y1, va_rf y0]) := by
  obtain ⟨hx, hb, hr, hml, hown, hts, hlk⟩ := id C
  intro  h th a1 x3 x4 x5 y0 y1 y2 y3 H locs ls w  hl hE
  unfold f_M_runs_120 at hE
  refine lv_aload_n hx hb dX12_runs_120 rfl (lv_at hl 1 rfl) ?_
  refine lv_iload hx hb dX12_runs_121 (lv_at hl 4 rfl) ?_
  refine lv_iconst (v := 3) hx hb dX12_runs_123 (by decide) ?_
  refine lv_iadd hx hb dX12_runs_124 ?_
  refine w_aI (r := some a1) C w dX12_runs_125 hE (fun v1 e1 => ?_)
  refine w_VI GW_good (n := 4) (F := 4) (Lc := 122) (o := y0) (av := [.int y1, .int y2, .int y3, .int v1]) (rest := []) C w rfl (by decide) (fun a r g hf => k_M_goes l D cy z N h a y1 y2 y3 v1 r g hf) gw_29_8 gw_29_9 gw_29_10 gw_1_5 gw_29_11 (by decide +kernel) ⟨Nat.le_of_ble_eq_true rfl, Nat.le_of_ble_eq_true rfl⟩ rfl hl.1 rfl (Nat.le_of_ble_eq_true rfl) dX12_runs_126 (fun a => (sh_M_goes N h a y1 y2 y3 v1)) ⟨by decide, by decide⟩ e1 (fun v2 h3 H locs w hsh3 e2 => ?_)
  refine w_if_ne (tgt := 138) C dX12_runs_129 (by decide) e2 (fun hc e3 => ?_) (fun hc e3 => ?_)
  · exact b_M_runs_138 C N  hrc21   h3 th a1 x3 x4 _ _ ls w  (lv_sub hl [0, 1, 2, 3] rfl) e3
  · refine lv_aload_n hx hb dX12_runs_132 rfl (lv_at hl 0 rfl) ?_
    refine lv_iload hx hb dX12_runs_133 (lv_at hl 3 rfl) ?_
    refine w_pI (r := some th) (ci := 0) (k := 12) C w rfl (by decide) (by unfold roK; omega) (GF_wsX120 _) tyX12 tyX12_ok nmX12 (by decide) rfl (List.mem_cons_of_mem _ gw_24_18) rfl rfl (tyX12_ok 12 (by decide)) dX12_runs_135 e3 (fun h4 H locs w hsh4 e4 => ?_)
    exact b_M_runs_138 C N  hrc21   h4 th a1 x3 x4 _ _ ls w  (lv_sub hl [0, 1, 2, 3] rfl) e4
set_option maxRecDepth 20000 in
set_option maxHeartbeats 4000000 in
theorem b_M_runs_21 {p : Program} {l : Launch} {e : Env} {s : State} {m : MethodId} {args : Array Value} {below : List Frame} {meth : Method} {c : Code} {D : va_G} {cy : cyT} {z : Nat} (C : MX p s m args meth c cX12_runs 6 ((some .boolean)) RX12 (Cond.code yX12_runs cX12_runs 6 ((some .boolean)) :: GW)) (N : Nat) {r : Int32} {g : hS}  : ∀ (n : Nat) (h : hS) (th : Nat) (a1 : Nat) (x3 : Int32) (x4 : Int32) (H : Heap) (locs : List Loc) (ls : Array Slot), wd D cy z s 0 h H locs → lv_has ls 6 [(0, .ref th), (1, .ref a1), (3, .int x3), (4, .int x4)] → f_M_runs_21 N  n h th a1 x3 x4 = some (r, g) → W p l e { frames := 5, cells := 0, slots := 0, locals := 146 } s m args below meth c H locs 0 0 (MQ below (eQ D cy z (rI r) g) args s 0 0 (fun q => z ≤ q)) (F0 m 21 ls []) := by
  obtain ⟨hx, hb, hr, hml, hown, hts, hlk⟩ := id C
  intro n
  induction n with
  | zero =>
    intro  h th a1 x3 x4 H locs ls w  hl hE
    cases hE
  | succ n ih =>
    intro  h th a1 x3 x4 H locs ls w  hl hE
    unfold f_M_runs_21 at hE
    refine lv_iload hx hb dX12_runs_21 (lv_at hl 3 rfl) ?_
    refine lv_aload_n hx hb dX12_runs_23 rfl (lv_at hl 1 rfl) ?_
    refine lv_iload_n hx hb dX12_runs_24 rfl (lv_at hl 2 rfl) ?_
    refine w_aI (r := some a1) C w dX12_runs_25 hE (fun v1 e1 => ?_)
    refine w_icmp_ge (tgt := 144) C dX12_runs_26 (by decide) e1 (fun hc e2 => ?_) (fun hc e2 => ?_)
    · exact b_M_runs_144 C N     h th _ _ ls w  (lv_sub hl [0] rfl) e2
    · refine lv_aload_n hx hb dX12_runs_29 rfl (lv_at hl 0 rfl) ?_
      refine w_gI (r := some th) (ci := 0) (k := 12) C w rfl (by decide) (GF_wsX120 _) (by decide) rfl (List.mem_cons_of_mem _ gw_24_18) rfl dX12_runs_30 e2 (fun v2 e3 => ?_)
      refine lv_iconst (v := -1) hx hb dX12_runs_33 (by decide) ?_
      refine w_icmp_ne (tgt := 144) C dX12_runs_34 (by decide) e3 (fun hc e4 => ?_) (fun hc e4 => ?_)
      · exact b_M_runs_144 C N     h th _ _ ls w  (lv_sub hl [0] rfl) e4
      · refine lv_aload_n hx hb dX12_runs_37 rfl (lv_at hl 0 rfl) ?_
        refine w_gR (r := some th) (ci := 0) (k := 10) C w rfl (by decide) (GF_wsX120 _) (by decide) rfl (List.mem_cons_of_mem _ gw_7_6) rfl dX12_runs_38 e4 (fun v3 e5 => ?_)
        refine lv_iload hx hb dX12_runs_41 (lv_at hl 3 rfl) ?_
        refine lv_aload_n hx hb dX12_runs_43 rfl (lv_at hl 0 rfl) ?_
        refine w_gR (r := some th) (ci := 0) (k := 4) C w rfl (by decide) (GF_wsX120 _) (by decide) rfl (List.mem_cons_of_mem _ gw_6_23) rfl dX12_runs_44 e5 (fun v4 e6 => ?_)
        obtain ⟨q5, eq5, e7⟩ := nn_some e6
        subst eq5
        refine w_SI GW_good (n := 1) (F := 1) (Lc := 23) (av := [.ref q5]) (rest := [.int x4, va_rf v3]) C w (fun r g hf => k_M_flatFrom l D cy z N h q5 r g hf) gw_28_21 gw_28_22 gw_1_5 gw_28_23 (by decide +kernel) ⟨Nat.le_of_ble_eq_true rfl, Nat.le_of_ble_eq_true rfl⟩ rfl hl.1 rfl (cat_le (Nat.le_of_ble_eq_true rfl)) dX12_runs_47 (sh_M_flatFrom N h q5) ⟨by decide, by decide⟩ e7 (fun v6 h7 H locs w hsh7 e8 => ?_)
        refine w_uI (r := v3) C w dX12_runs_50 e8 (fun h8 H locs w hsh8 e9 => ?_)
        refine lv_aload_n hx hb dX12_runs_51 rfl (lv_at hl 0 rfl) ?_
        refine w_gR (r := some th) (ci := 0) (k := 11) C w rfl (by decide) (GF_wsX120 _) (by decide) rfl (List.mem_cons_of_mem _ gw_7_7) rfl dX12_runs_52 e9 (fun v9 e10 => ?_)
        refine lv_iload hx hb dX12_runs_55 (lv_at hl 3 rfl) ?_
        refine lv_aload_n hx hb dX12_runs_57 rfl (lv_at hl 0 rfl) ?_
        refine w_gR (r := some th) (ci := 0) (k := 4) C w rfl (by decide) (GF_wsX120 _) (by decide) rfl (List.mem_cons_of_mem _ gw_6_23) rfl dX12_runs_58 e10 (fun v10 e11 => ?_)
        obtain ⟨q11, eq11, e12⟩ := nn_some e11
        subst eq11
        refine w_SI GW_good (n := 1) (F := 1) (Lc := 23) (av := [.ref q11]) (rest := [.int x4, va_rf v9]) C w (fun r g hf => k_M_flatTo l D cy z N h8 q11 r g hf) gw_29_5 gw_29_6 gw_1_5 gw_29_7 (by decide +kernel) ⟨Nat.le_of_ble_eq_true rfl, Nat.le_of_ble_eq_true rfl⟩ rfl hl.1 rfl (cat_le (Nat.le_of_ble_eq_true rfl)) dX12_runs_61 (sh_M_flatTo N h8 q11) ⟨by decide, by decide⟩ e12 (fun v12 h13 H locs w hsh13 e13 => ?_)
        refine w_uI (r := v9) C w dX12_runs_64 e13 (fun h14 H locs w hsh14 e14 => ?_)
        refine lv_iload hx hb dX12_runs_65 (lv_at hl 3 rfl) ?_
        refine lv_aload_n hx hb dX12_runs_67 rfl (lv_at hl 0 rfl) ?_
        refine w_gI (r := some th) (ci := 0) (k := 13) C w rfl (by decide) (GF_wsX120 _) (by decide) rfl (List.mem_cons_of_mem _ gw_7_8) rfl dX12_runs_68 e14 (fun v15 e15 => ?_)
        refine w_icmp_ne (tgt := 77) C dX12_runs_71 (by decide) e15 (fun hc e16 => ?_) (fun hc e16 => ?_)
        · refine lv_iload_n hx hb dX12_runs_77 rfl (lv_at hl 2 rfl) ?_
          refine lv_iconst (v := 1) hx hb dX12_runs_78 (by decide) ?_
          refine lv_iadd hx hb dX12_runs_79 ?_
          refine lv_iconst (v := 4) hx hb dX12_runs_80 (by decide) ?_
          refine lv_iload hx hb dX12_runs_81 (lv_at hl 3 rfl) ?_
          refine lv_imul hx hb dX12_runs_83 ?_
          refine lv_iadd hx hb dX12_runs_84 ?_
          refine w_bnI e16 (fun v16 e17 => ?_)
          refine lv_istore (lv' := [(5, .int v16), (0, .ref th), (1, .ref a1), (3, .int x3), (4, .int x4)]) hx hb dX12_runs_85 hl (by decide) rfl (fun ls hl => ?_)
          refine lv_aload_n hx hb dX12_runs_87 rfl (lv_at hl 1 rfl) ?_
          refine lv_aload_n hx hb dX12_runs_88 rfl (lv_at hl 2 rfl) ?_
          refine lv_iload hx hb dX12_runs_89 (lv_at hl 0 rfl) ?_
          refine w_aI (r := some a1) C w dX12_runs_91 e17 (fun v17 e18 => ?_)
          refine lv_aload_n hx hb dX12_runs_92 rfl (lv_at hl 2 rfl) ?_
          refine lv_iload hx hb dX12_runs_93 (lv_at hl 0 rfl) ?_
          refine lv_iconst (v := 1) hx hb dX12_runs_95 (by decide) ?_
          refine lv_iadd hx hb dX12_runs_96 ?_
          refine w_aI (r := some a1) C w dX12_runs_97 e18 (fun v18 e19 => ?_)
          refine lv_iload hx hb dX12_runs_98 (lv_at hl 4 rfl) ?_
          refine lv_aload_n hx hb dX12_runs_100 rfl (lv_at hl 1 rfl) ?_
          refine w_gI (r := some th) (ci := 0) (k := 14) C w rfl (by decide) (GF_wsX120 _) (by decide) rfl (List.mem_cons_of_mem _ gw_7_9) rfl dX12_runs_101 e19 (fun v19 e20 => ?_)
          refine w_icmp_ne (tgt := 114) C dX12_runs_104 (by decide) e20 (fun hc e21 => ?_) (fun hc e21 => ?_)
          · refine lv_aload_n hx hb dX12_runs_114 rfl (lv_at hl 2 rfl) ?_
            refine lv_iload hx hb dX12_runs_115 (lv_at hl 0 rfl) ?_
            refine lv_iconst (v := 2) hx hb dX12_runs_117 (by decide) ?_
            refine lv_iadd hx hb dX12_runs_118 ?_
            refine w_aI (r := some a1) C w dX12_runs_119 e21 (fun v20 e22 => ?_)
            exact b_M_runs_120 C N  ih   h14 th a1 x3 x4 v16 (some th) v17 v18 v20 _ _ ls w  (lv_sub hl [1, 2, 3, 4, 0] rfl) e22
          · refine lv_aload_n hx hb dX12_runs_107 rfl (lv_at hl 1 rfl) ?_
            refine w_gI (r := some th) (ci := 0) (k := 15) C w rfl (by decide) (GF_wsX120 _) (by decide) rfl (List.mem_cons_of_mem _ gw_28_17) rfl dX12_runs_108 e21 (fun v21 e23 => ?_)
            refine lv_goto (tgt := 120) hx hb dX12_runs_111 (by decide) ?_
            exact b_M_runs_120 C N  ih   h14 th a1 x3 x4 v16 (some th) v17 v18 v21 _ _ ls w  (lv_sub hl [1, 2, 3, 4, 0] rfl) e23
        · refine lv_goto (tgt := 138) hx hb dX12_runs_74 (by decide) ?_
          exact b_M_runs_138 C N  ih   h14 th a1 x3 x4 _ _ ls w  (lv_sub hl [0, 1, 2, 3] rfl) e16
set_option maxRecDepth 20000 in
set_option maxHeartbeats 4000000 in
theorem k_M_runs (l : Launch) (D : va_G) (cy : cyT) (z : Nat) (N : Nat) (h : hS) (th : Nat) (a1 : Nat) (x2 : Int32) (r : Int32) (g : hS) (hE : f_M_runs N h th a1 x2 = some (r, g)) : ct l yX12_runs (Cond.code yX12_runs cX12_runs 6 ((some .boolean)) :: GW) { frames := 5, cells := 0, slots := 0, locals := 146 } D cy z h [.ref th, .ref a1, .int x2] (rI r) g := by
  refine Met.ofW (cc := cX12_runs) (maxL := 6) (ret := (some .boolean)) (by decide) rfl ?_
  intro p e s m args below meth c s₁ B hml hv
  obtain ⟨rfl, hw⟩ := hv
  have C : MX p s m ([.ref th, .ref a1, .int x2] : List Value).toArray meth c cX12_runs 6 ((some .boolean)) RX12 (Cond.code yX12_runs cX12_runs 6 ((some .boolean)) :: GW) := ⟨B.exec, B.bytes, B.returns, hml, findClass_of_methodNamed B.named, atoms_spec (ws := Cond.code yX12_runs cX12_runs 6 ((some .boolean)) :: GW) B.pre, B.notSynchronized⟩
  obtain ⟨hx, hb, hr, hml, hown, hts, hlk⟩ := id C
  have w := wd_of hw
  obtain ⟨ls, hen, hl⟩ : ∃ ls : Array Slot, entryFrame m ([.ref th, .ref a1, .int x2] : List Value).toArray 6 = F0 m 0 ls [] ∧ lv_has ls 6 [(0, .ref th), (1, .ref a1), (2, .int x2)] := by
    exact ⟨_, lg_entry_eq _ _ _, lv_entry _ (Nat.le_of_ble_eq_true rfl)⟩
  rw [hen]
  unfold f_M_runs at hE
  refine lv_aload_n hx hb dX12_runs_0 rfl (lv_at hl 0 rfl) ?_
  refine w_gR (r := some th) (ci := 0) (k := 4) C w rfl (by decide) (GF_wsX120 _) (by decide) rfl (List.mem_cons_of_mem _ gw_6_23) rfl dX12_runs_1 hE (fun v1 e1 => ?_)
  obtain ⟨q2, eq2, e2⟩ := nn_some e1
  subst eq2
  refine w_SV GW_good (n := 1) (F := 0) (Lc := 0) (av := [.ref q2]) (rest := []) C w (fun r g hf => k_M_clear l D cy z N h q2 r g hf) gw_28_18 gw_28_19 gw_1_5 gw_28_20 (by decide +kernel) ⟨Nat.le_of_ble_eq_true rfl, Nat.le_of_ble_eq_true rfl⟩ rfl hl.1 rfl (Nat.le_of_ble_eq_true rfl) dX12_runs_4 (sh_M_clear N h q2) ⟨by decide, by decide⟩ e2 (fun v3 h4 H locs w hsh4 e3 => ?_)
  refine lv_aload_n hx hb dX12_runs_7 rfl (lv_at hl 0 rfl) ?_
  refine lv_iconst (v := -1) hx hb dX12_runs_8 (by decide) ?_
  refine w_pI (r := some th) (ci := 0) (k := 12) C w rfl (by decide) (by unfold roK; omega) (GF_wsX120 _) tyX12 tyX12_ok nmX12 (by decide) rfl (List.mem_cons_of_mem _ gw_24_18) rfl rfl (tyX12_ok 12 (by decide)) dX12_runs_9 e3 (fun h5 H locs w hsh5 e4 => ?_)
  refine lv_sipush (v := 161) hx hb dX12_runs_12 (by decide) ?_
  refine lv_iload_n hx hb dX12_runs_15 rfl (lv_at hl 2 rfl) ?_
  refine lv_imul hx hb dX12_runs_16 ?_
  refine w_bnI e4 (fun v6 e5 => ?_)
  refine lv_istore_n (lv' := [(3, .int v6), (0, .ref th), (1, .ref a1), (2, .int x2)]) hx hb dX12_runs_17 rfl hl (by decide) rfl (fun ls hl => ?_)
  refine lv_iconst (v := 0) hx hb dX12_runs_18 (by decide) ?_
  refine lv_istore (lv' := [(4, .int (0 : Int32)), (3, .int v6), (0, .ref th), (1, .ref a1), (2, .int x2)]) hx hb dX12_runs_19 hl (by decide) rfl (fun ls hl => ?_)
  exact b_M_runs_21 C N   N  h5 th a1 v6 (0 : Int32) _ _ ls w  (lv_sub hl [2, 3, 1, 0] rfl) e5
set_option maxRecDepth 20000 in
set_option maxHeartbeats 4000000 in
theorem k_M_tell (l : Launch) (D : va_G) (cy : cyT) (z : Nat) (N : Nat) (h : hS) (th : Nat) (x1 : Int32) (r : Unit) (g : hS) (hE : f_M_tell N h th x1 = some (r, g)) : ct l yX12_tell (Cond.code yX12_tell cX12_tell 3 (none) :: GW) { frames := 6, cells := 0, slots := 0, locals := 171 } D cy z h [.ref th, .int x1] (rV r) g := by
  refine Met.ofW (cc := cX12_tell) (maxL := 3) (ret := none) (by decide) rfl ?_
  intro p e s m args below meth c s₁ B hml hv
  obtain ⟨rfl, hw⟩ := hv
  have C : MX p s m ([.ref th, .int x1] : List Value).toArray meth c cX12_tell 3 (none) RX12 (Cond.code yX12_tell cX12_tell 3 (none) :: GW) := ⟨B.exec, B.bytes, B.returns, hml, findClass_of_methodNamed B.named, atoms_spec (ws := Cond.code yX12_tell cX12_tell 3 (none) :: GW) B.pre, B.notSynchronized⟩
  obtain ⟨hx, hb, hr, hml, hown, hts, hlk⟩ := id C
  have w := wd_of hw
  obtain ⟨ls, hen, hl⟩ : ∃ ls : Array Slot, entryFrame m ([.ref th, .int x1] : List Value).toArray 3 = F0 m 0 ls [] ∧ lv_has ls 3 [(0, .ref th), (1, .int x1)] := by
    exact ⟨_, lg_entry_eq _ _ _, lv_entry _ (Nat.le_of_ble_eq_true rfl)⟩
  rw [hen]
  unfold f_M_tell at hE
  refine lv_aload_n hx hb dX12_tell_0 rfl (lv_at hl 0 rfl) ?_
  refine lv_aload_n hx hb dX12_tell_1 rfl (lv_at hl 0 rfl) ?_
  refine w_gR (r := some th) (ci := 0) (k := 2) C w rfl (by decide) (GF_wsX120 _) (by decide) rfl (List.mem_cons_of_mem _ gw_6_21) rfl dX12_tell_2 hE (fun v1 e1 => ?_)
  refine lv_iload_n hx hb dX12_tell_5 rfl (lv_at hl 1 rfl) ?_
  obtain ⟨q2, eq2, e2⟩ := nn_some e1
  subst eq2
  refine w_VI GW_good (n := 2) (F := 5) (Lc := 146) (o := some th) (av := [.ref q2, .int x1]) (rest := []) C w rfl (by decide) (fun a r g hf => k_M_runs l D cy z N h a q2 x1 r g hf) gw_28_13 gw_28_14 gw_28_15 gw_1_5 gw_28_16 (by decide +kernel) ⟨Nat.le_of_ble_eq_true rfl, Nat.le_of_ble_eq_true rfl⟩ rfl hl.1 rfl (Nat.le_of_ble_eq_true rfl) dX12_tell_6 (fun a => (sh_M_runs N h a q2 x1)) ⟨by decide, by decide⟩ e2 (fun v3 h4 H locs w hsh4 e3 => ?_)
  refine lv_istore_n (lv' := [(2, .int v3), (0, .ref th), (1, .int x1)]) hx hb dX12_tell_9 rfl hl (by decide) rfl (fun ls hl => ?_)
  exact w_vret C w e3 dX12_tell_10
set_option maxRecDepth 20000 in
set_option maxHeartbeats 4000000 in
theorem k_M_tellBoth (l : Launch) (D : va_G) (cy : cyT) (z : Nat) (N : Nat) (h : hS) (th : Nat) (x1 : Int32) (x2 : Int32) (r : Unit) (g : hS) (hE : f_M_tellBoth N h th x1 x2 = some (r, g)) : ct l yX12_tellBoth (Cond.code yX12_tellBoth cX12_tellBoth 3 (none) :: GW) { frames := 7, cells := 0, slots := 0, locals := 193 } D cy z h [.ref th, .int x1, .int x2] (rV r) g := by
  refine Met.ofW (cc := cX12_tellBoth) (maxL := 3) (ret := none) (by decide) rfl ?_
  intro p e s m args below meth c s₁ B hml hv
  obtain ⟨rfl, hw⟩ := hv
  have C : MX p s m ([.ref th, .int x1, .int x2] : List Value).toArray meth c cX12_tellBoth 3 (none) RX12 (Cond.code yX12_tellBoth cX12_tellBoth 3 (none) :: GW) := ⟨B.exec, B.bytes, B.returns, hml, findClass_of_methodNamed B.named, atoms_spec (ws := Cond.code yX12_tellBoth cX12_tellBoth 3 (none) :: GW) B.pre, B.notSynchronized⟩
  obtain ⟨hx, hb, hr, hml, hown, hts, hlk⟩ := id C
  have w := wd_of hw
  obtain ⟨ls, hen, hl⟩ : ∃ ls : Array Slot, entryFrame m ([.ref th, .int x1, .int x2] : List Value).toArray 3 = F0 m 0 ls [] ∧ lv_has ls 3 [(0, .ref th), (1, .int x1), (2, .int x2)] := by
    exact ⟨_, lg_entry_eq _ _ _, lv_entry _ (Nat.le_of_ble_eq_true rfl)⟩
  rw [hen]
  unfold f_M_tellBoth at hE
  refine lv_aload_n hx hb dX12_tellBoth_0 rfl (lv_at hl 0 rfl) ?_
  refine lv_iload_n hx hb dX12_tellBoth_1 rfl (lv_at hl 2 rfl) ?_
  refine w_VV GW_good (n := 1) (F := 6) (Lc := 171) (o := some th) (av := [.int x2]) (rest := []) C w rfl (by decide) (fun a r g hf => k_M_tell l D cy z N h a x2 r g hf) gw_28_9 gw_28_10 gw_28_11 gw_1_5 gw_28_12 (by decide +kernel) ⟨Nat.le_of_ble_eq_true rfl, Nat.le_of_ble_eq_true rfl⟩ rfl hl.1 rfl (Nat.le_of_ble_eq_true rfl) dX12_tellBoth_2 (fun a => (sh_M_tell N h a x2)) ⟨by decide, by decide⟩ hE (fun v1 h2 H locs w hsh2 e1 => ?_)
  refine lv_aload_n hx hb dX12_tellBoth_5 rfl (lv_at hl 0 rfl) ?_
  refine w_gR (r := some th) (ci := 0) (k := 5) C w rfl (by decide) (GF_wsX120 _) (by decide) rfl (List.mem_cons_of_mem _ gw_7_0) rfl dX12_tellBoth_6 e1 (fun v3 e2 => ?_)
  refine lv_aload_n hx hb dX12_tellBoth_9 rfl (lv_at hl 0 rfl) ?_
  refine w_gR (r := some th) (ci := 0) (k := 4) C w rfl (by decide) (GF_wsX120 _) (by decide) rfl (List.mem_cons_of_mem _ gw_6_23) rfl dX12_tellBoth_10 e2 (fun v4 e3 => ?_)
  obtain ⟨q5, eq5, e4⟩ := nn_some e3
  subst eq5
  obtain ⟨q6, eq6, e5⟩ := nn_some e4
  subst eq6
  refine w_SV GW_good (n := 2) (F := 0) (Lc := 0) (av := [.ref q5, .ref q6]) (rest := []) C w (fun r g hf => k_M_copyTo l D cy z N h2 q5 q6 r g hf) gw_30_4 gw_30_5 gw_1_5 gw_30_6 (by decide +kernel) ⟨Nat.le_of_ble_eq_true rfl, Nat.le_of_ble_eq_true rfl⟩ rfl hl.1 rfl (Nat.le_of_ble_eq_true rfl) dX12_tellBoth_13 (sh_M_copyTo N h2 q5 q6) ⟨by decide, by decide⟩ e5 (fun v7 h8 H locs w hsh8 e6 => ?_)
  refine lv_aload_n hx hb dX12_tellBoth_16 rfl (lv_at hl 0 rfl) ?_
  refine lv_iload_n hx hb dX12_tellBoth_17 rfl (lv_at hl 1 rfl) ?_
  refine w_VV GW_good (n := 1) (F := 6) (Lc := 171) (o := some th) (av := [.int x1]) (rest := []) C w rfl (by decide) (fun a r g hf => k_M_tell l D cy z N h8 a x1 r g hf) gw_28_9 gw_28_10 gw_28_11 gw_1_5 gw_28_12 (by decide +kernel) ⟨Nat.le_of_ble_eq_true rfl, Nat.le_of_ble_eq_true rfl⟩ rfl hl.1 rfl (Nat.le_of_ble_eq_true rfl) dX12_tellBoth_18 (fun a => (sh_M_tell N h8 a x1)) ⟨by decide, by decide⟩ e6 (fun v9 h10 H locs w hsh10 e7 => ?_)
  exact w_vret C w e7 dX12_tellBoth_21
set_option maxRecDepth 20000 in
set_option maxHeartbeats 4000000 in
theorem b_M_at_34 {p : Program} {l : Launch} {e : Env} {s : State} {m : MethodId} {args : Array Value} {below : List Frame} {meth : Method} {c : Code} {D : va_G} {cy : cyT} {z : Nat} (C : MX p s m args meth c cX12_at 3 ((some .long)) RX12 (Cond.code yX12_at cX12_at 3 ((some .long)) :: GW)) (N : Nat) {r : Int64} {g : hS}  : ∀  (h : hS) (y0 : Option Nat) (y1 : Int32) (H : Heap) (locs : List Loc) (ls : Array Slot), wd D cy z s 0 h H locs → lv_has ls 3 [] → f_M_at_34 N   h y0 y1 = some (r, g) → W p l e { frames := 7, cells := 0, slots := 0, locals := 193 } s m args below meth c H locs 0 0 (MQ below (eQ D cy z (rJ r) g) args s 0 0 (fun q => z ≤ q)) (F0 m 34 ls [.int y1, va_rf y0]) := by
  obtain ⟨hx, hb, hr, hml, hown, hts, hlk⟩ := id C
  intro  h y0 y1 H locs ls w  hl hE
  unfold f_M_at_34 at hE
  refine w_VI GW_good (n := 1) (F := 0) (Lc := 0) (o := y0) (av := [.int y1]) (rest := []) C w rfl (by decide) (fun a r g hf => k_M_fail l D cy z N h a y1 r g hf) gw_25_4 gw_25_5 gw_25_6 gw_1_5 gw_25_7 (by decide +kernel) ⟨Nat.le_of_ble_eq_true rfl, Nat.le_of_ble_eq_true rfl⟩ rfl hl.1 rfl (Nat.le_of_ble_eq_true rfl) dX12_at_34 (fun a => (sh_M_fail N h a y1)) ⟨by decide, by decide⟩ hE (fun v1 h2 H locs w hsh2 e1 => ?_)
  refine lv_i2l hx hb dX12_at_37 rfl ?_
  exact w_lret C w e1 dX12_at_38
set_option maxRecDepth 20000 in
set_option maxHeartbeats 4000000 in
theorem b_M_at_20 {p : Program} {l : Launch} {e : Env} {s : State} {m : MethodId} {args : Array Value} {below : List Frame} {meth : Method} {c : Code} {D : va_G} {cy : cyT} {z : Nat} (C : MX p s m args meth c cX12_at 3 ((some .long)) RX12 (Cond.code yX12_at cX12_at 3 ((some .long)) :: GW)) (N : Nat) {r : Int64} {g : hS}  : ∀  (h : hS) (th : Nat) (x1 : Int32) (H : Heap) (locs : List Loc) (ls : Array Slot), wd D cy z s 0 h H locs → lv_has ls 3 [(0, .ref th), (1, .int x1)] → f_M_at_20 N   h th x1 = some (r, g) → W p l e { frames := 7, cells := 0, slots := 0, locals := 193 } s m args below meth c H locs 0 0 (MQ below (eQ D cy z (rJ r) g) args s 0 0 (fun q => z ≤ q)) (F0 m 20 ls []) := by
  obtain ⟨hx, hb, hr, hml, hown, hts, hlk⟩ := id C
  intro  h th x1 H locs ls w  hl hE
  unfold f_M_at_20 at hE
  refine lv_aload_n hx hb dX12_at_20 rfl (lv_at hl 0 rfl) ?_
  refine lv_aload_n hx hb dX12_at_21 rfl (lv_at hl 0 rfl) ?_
  refine lv_iload_n hx hb dX12_at_22 rfl (lv_at hl 1 rfl) ?_
  refine w_VI GW_good (n := 1) (F := 1) (Lc := 25) (o := some th) (av := [.int x1]) (rest := [.ref th]) C w rfl (by decide) (fun a r g hf => k_M_isCost l D cy z N h a x1 r g hf) gw_24_20 gw_24_21 gw_24_22 gw_1_5 gw_24_23 (by decide +kernel) ⟨Nat.le_of_ble_eq_true rfl, Nat.le_of_ble_eq_true rfl⟩ rfl hl.1 rfl (Nat.le_of_ble_eq_true rfl) dX12_at_23 (fun a => (sh_M_isCost N h a x1)) ⟨by decide, by decide⟩ hE (fun v1 h2 H locs w hsh2 e1 => ?_)
  refine w_if_eq (tgt := 33) C dX12_at_26 (by decide) e1 (fun hc e2 => ?_) (fun hc e2 => ?_)
  · refine lv_iconst (v := 1) hx hb dX12_at_33 (by decide) ?_
    exact b_M_at_34 C N     h2 (some th) (1 : Int32) _ _ ls w  (lv_sub hl [] rfl) e2
  · refine lv_iconst (v := 2) hx hb dX12_at_29 (by decide) ?_
    refine lv_goto (tgt := 34) hx hb dX12_at_30 (by decide) ?_
    exact b_M_at_34 C N     h2 (some th) (2 : Int32) _ _ ls w  (lv_sub hl [] rfl) e2
set_option maxRecDepth 20000 in
set_option maxHeartbeats 4000000 in
theorem k_M_at (l : Launch) (D : va_G) (cy : cyT) (z : Nat) (N : Nat) (h : hS) (th : Nat) (x1 : Int32) (x2 : Int32) (r : Int64) (g : hS) (hE : f_M_at N h th x1 x2 = some (r, g)) : ct l yX12_at (Cond.code yX12_at cX12_at 3 ((some .long)) :: GW) { frames := 7, cells := 0, slots := 0, locals := 193 } D cy z h [.ref th, .int x1, .int x2] (rJ r) g := by
  refine Met.ofW (cc := cX12_at) (maxL := 3) (ret := (some .long)) (by decide) rfl ?_
  intro p e s m args below meth c s₁ B hml hv
  obtain ⟨rfl, hw⟩ := hv
  have C : MX p s m ([.ref th, .int x1, .int x2] : List Value).toArray meth c cX12_at 3 ((some .long)) RX12 (Cond.code yX12_at cX12_at 3 ((some .long)) :: GW) := ⟨B.exec, B.bytes, B.returns, hml, findClass_of_methodNamed B.named, atoms_spec (ws := Cond.code yX12_at cX12_at 3 ((some .long)) :: GW) B.pre, B.notSynchronized⟩
  obtain ⟨hx, hb, hr, hml, hown, hts, hlk⟩ := id C
  have w := wd_of hw
  obtain ⟨ls, hen, hl⟩ : ∃ ls : Array Slot, entryFrame m ([.ref th, .int x1, .int x2] : List Value).toArray 3 = F0 m 0 ls [] ∧ lv_has ls 3 [(0, .ref th), (1, .int x1), (2, .int x2)] := by
    exact ⟨_, lg_entry_eq _ _ _, lv_entry _ (Nat.le_of_ble_eq_true rfl)⟩
  rw [hen]
  unfold f_M_at at hE
  refine lv_aload_n hx hb dX12_at_0 rfl (lv_at hl 0 rfl) ?_
  refine lv_iconst (v := 0) hx hb dX12_at_1 (by decide) ?_
  refine w_pI (r := some th) (ci := 0) (k := 1) C w rfl (by decide) (by unfold roK; omega) (GF_wsX120 _) tyX12 tyX12_ok nmX12 (by decide) rfl (List.mem_cons_of_mem _ gw_8_18) rfl rfl (tyX12_ok 1 (by decide)) dX12_at_2 hE (fun h1 H locs w hsh1 e1 => ?_)
  refine lv_aload_n hx hb dX12_at_5 rfl (lv_at hl 0 rfl) ?_
  refine lv_iload_n hx hb dX12_at_6 rfl (lv_at hl 1 rfl) ?_
  refine w_VI GW_good (n := 1) (F := 1) (Lc := 25) (o := some th) (av := [.int x1]) (rest := []) C w rfl (by decide) (fun a r g hf => k_M_isCost l D cy z N h1 a x1 r g hf) gw_24_20 gw_24_21 gw_24_22 gw_1_5 gw_24_23 (by decide +kernel) ⟨Nat.le_of_ble_eq_true rfl, Nat.le_of_ble_eq_true rfl⟩ rfl hl.1 rfl (Nat.le_of_ble_eq_true rfl) dX12_at_7 (fun a => (sh_M_isCost N h1 a x1)) ⟨by decide, by decide⟩ e1 (fun v2 h3 H locs w hsh3 e2 => ?_)
  refine w_if_eq (tgt := 20) C dX12_at_10 (by decide) e2 (fun hc e3 => ?_) (fun hc e3 => ?_)
  · exact b_M_at_20 C N     h3 th x1 _ _ ls w  (lv_sub hl [0, 1] rfl) e3
  · refine lv_iload_n hx hb dX12_at_13 rfl (lv_at hl 2 rfl) ?_
    refine w_SI GW_good (n := 1) (F := 1) (Lc := 25) (av := [.int x2]) (rest := []) C w (fun r g hf => k_M_isX l D cy z N h3 x2 r g hf) gw_34_22 gw_34_23 gw_1_5 gw_35_0 (by decide +kernel) ⟨Nat.le_of_ble_eq_true rfl, Nat.le_of_ble_eq_true rfl⟩ rfl hl.1 rfl (Nat.le_of_ble_eq_true rfl) dX12_at_14 (sh_M_isX N h3 x2) ⟨by decide, by decide⟩ e3 (fun v4 h5 H locs w hsh5 e4 => ?_)
    refine w_if_ne (tgt := 39) C dX12_at_17 (by decide) e4 (fun hc e5 => ?_) (fun hc e5 => ?_)
    · refine lv_aload_n hx hb dX12_at_39 rfl (lv_at hl 0 rfl) ?_
      refine lv_iload_n hx hb dX12_at_40 rfl (lv_at hl 1 rfl) ?_
      refine w_VV GW_good (n := 1) (F := 6) (Lc := 171) (o := some th) (av := [.int x1]) (rest := []) C w rfl (by decide) (fun a r g hf => k_M_tell l D cy z N h5 a x1 r g hf) gw_28_9 gw_28_10 gw_28_11 gw_1_5 gw_28_12 (by decide +kernel) ⟨Nat.le_of_ble_eq_true rfl, Nat.le_of_ble_eq_true rfl⟩ rfl hl.1 rfl (Nat.le_of_ble_eq_true rfl) dX12_at_41 (fun a => (sh_M_tell N h5 a x1)) ⟨by decide, by decide⟩ e5 (fun v6 h7 H locs w hsh7 e6 => ?_)
      refine lv_aload_n hx hb dX12_at_44 rfl (lv_at hl 0 rfl) ?_
      refine w_gR (r := some th) (ci := 0) (k := 4) C w rfl (by decide) (GF_wsX120 _) (by decide) rfl (List.mem_cons_of_mem _ gw_6_23) rfl dX12_at_45 e6 (fun v8 e7 => ?_)
      refine lv_iload_n hx hb dX12_at_48 rfl (lv_at hl 2 rfl) ?_
      obtain ⟨q9, eq9, e8⟩ := nn_some e7
      subst eq9
      refine w_SJ GW_good (n := 2) (F := 1) (Lc := 44) (av := [.ref q9, .int x2]) (rest := []) C w (fun r g hf => k_M_valueAt l D cy z N h7 q9 x2 r g hf) gw_30_7 gw_30_8 gw_1_5 gw_30_9 (by decide +kernel) ⟨Nat.le_of_ble_eq_true rfl, Nat.le_of_ble_eq_true rfl⟩ rfl hl.1 rfl (Nat.le_of_ble_eq_true rfl) dX12_at_49 (sh_M_valueAt N h7 q9 x2) ⟨by decide, by decide⟩ e8 (fun v10 h11 H locs w hsh11 e9 => ?_)
      exact w_lret C w e9 dX12_at_52
    · exact b_M_at_20 C N     h5 th x1 _ _ ls w  (lv_sub hl [0, 1] rfl) e5
set_option maxRecDepth 20000 in
set_option maxHeartbeats 4000000 in
theorem k_M_least (l : Launch) (D : va_G) (cy : cyT) (z : Nat) (N : Nat) (h : hS) (th : Nat) (x1 : Int32) (r : Int64) (g : hS) (hE : f_M_least N h th x1 = some (r, g)) : ct l yX12_least (Cond.code yX12_least cX12_least 2 ((some .long)) :: GW) { frames := 7, cells := 0, slots := 0, locals := 193 } D cy z h [.ref th, .int x1] (rJ r) g := by
  refine Met.ofW (cc := cX12_least) (maxL := 2) (ret := (some .long)) (by decide) rfl ?_
  intro p e s m args below meth c s₁ B hml hv
  obtain ⟨rfl, hw⟩ := hv
  have C : MX p s m ([.ref th, .int x1] : List Value).toArray meth c cX12_least 2 ((some .long)) RX12 (Cond.code yX12_least cX12_least 2 ((some .long)) :: GW) := ⟨B.exec, B.bytes, B.returns, hml, findClass_of_methodNamed B.named, atoms_spec (ws := Cond.code yX12_least cX12_least 2 ((some .long)) :: GW) B.pre, B.notSynchronized⟩
  obtain ⟨hx, hb, hr, hml, hown, hts, hlk⟩ := id C
  have w := wd_of hw
  obtain ⟨ls, hen, hl⟩ : ∃ ls : Array Slot, entryFrame m ([.ref th, .int x1] : List Value).toArray 2 = F0 m 0 ls [] ∧ lv_has ls 2 [(0, .ref th), (1, .int x1)] := by
    exact ⟨_, lg_entry_eq _ _ _, lv_entry _ (Nat.le_of_ble_eq_true rfl)⟩
  rw [hen]
  unfold f_M_least at hE
  refine lv_aload_n hx hb dX12_least_0 rfl (lv_at hl 0 rfl) ?_
  refine lv_iconst (v := 0) hx hb dX12_least_1 (by decide) ?_
  refine w_pI (r := some th) (ci := 0) (k := 1) C w rfl (by decide) (by unfold roK; omega) (GF_wsX120 _) tyX12 tyX12_ok nmX12 (by decide) rfl (List.mem_cons_of_mem _ gw_8_18) rfl rfl (tyX12_ok 1 (by decide)) dX12_least_2 hE (fun h1 H locs w hsh1 e1 => ?_)
  refine lv_aload_n hx hb dX12_least_5 rfl (lv_at hl 0 rfl) ?_
  refine lv_iload_n hx hb dX12_least_6 rfl (lv_at hl 1 rfl) ?_
  refine w_VI GW_good (n := 1) (F := 1) (Lc := 25) (o := some th) (av := [.int x1]) (rest := []) C w rfl (by decide) (fun a r g hf => k_M_isCost l D cy z N h1 a x1 r g hf) gw_24_20 gw_24_21 gw_24_22 gw_1_5 gw_24_23 (by decide +kernel) ⟨Nat.le_of_ble_eq_true rfl, Nat.le_of_ble_eq_true rfl⟩ rfl hl.1 rfl (Nat.le_of_ble_eq_true rfl) dX12_least_7 (fun a => (sh_M_isCost N h1 a x1)) ⟨by decide, by decide⟩ e1 (fun v2 h3 H locs w hsh3 e2 => ?_)
  refine w_if_ne (tgt := 20) C dX12_least_10 (by decide) e2 (fun hc e3 => ?_) (fun hc e3 => ?_)
  · refine lv_aload_n hx hb dX12_least_20 rfl (lv_at hl 0 rfl) ?_
    refine lv_iload_n hx hb dX12_least_21 rfl (lv_at hl 1 rfl) ?_
    refine w_VV GW_good (n := 1) (F := 6) (Lc := 171) (o := some th) (av := [.int x1]) (rest := []) C w rfl (by decide) (fun a r g hf => k_M_tell l D cy z N h3 a x1 r g hf) gw_28_9 gw_28_10 gw_28_11 gw_1_5 gw_28_12 (by decide +kernel) ⟨Nat.le_of_ble_eq_true rfl, Nat.le_of_ble_eq_true rfl⟩ rfl hl.1 rfl (Nat.le_of_ble_eq_true rfl) dX12_least_22 (fun a => (sh_M_tell N h3 a x1)) ⟨by decide, by decide⟩ e3 (fun v4 h5 H locs w hsh5 e4 => ?_)
    refine lv_aload_n hx hb dX12_least_25 rfl (lv_at hl 0 rfl) ?_
    refine w_gR (r := some th) (ci := 0) (k := 4) C w rfl (by decide) (GF_wsX120 _) (by decide) rfl (List.mem_cons_of_mem _ gw_6_23) rfl dX12_least_26 e4 (fun v6 e5 => ?_)
    obtain ⟨q7, eq7, e6⟩ := nn_some e5
    subst eq7
    refine w_SJ GW_good (n := 1) (F := 2) (Lc := 71) (av := [.ref q7]) (rest := []) C w (fun r g hf => k_M_leastOf l D cy z N h5 q7 r g hf) gw_30_17 gw_30_18 gw_1_5 gw_30_19 (by decide +kernel) ⟨Nat.le_of_ble_eq_true rfl, Nat.le_of_ble_eq_true rfl⟩ rfl hl.1 rfl (Nat.le_of_ble_eq_true rfl) dX12_least_29 (sh_M_leastOf N h5 q7) ⟨by decide, by decide⟩ e6 (fun v8 h9 H locs w hsh9 e7 => ?_)
    exact w_lret C w e7 dX12_least_32
  · refine lv_aload_n hx hb dX12_least_13 rfl (lv_at hl 0 rfl) ?_
    refine lv_iconst (v := 1) hx hb dX12_least_14 (by decide) ?_
    refine w_VI GW_good (n := 1) (F := 0) (Lc := 0) (o := some th) (av := [.int (1 : Int32)]) (rest := []) C w rfl (by decide) (fun a r g hf => k_M_fail l D cy z N h3 a (1 : Int32) r g hf) gw_25_4 gw_25_5 gw_25_6 gw_1_5 gw_25_7 (by decide +kernel) ⟨Nat.le_of_ble_eq_true rfl, Nat.le_of_ble_eq_true rfl⟩ rfl hl.1 rfl (Nat.le_of_ble_eq_true rfl) dX12_least_15 (fun a => (sh_M_fail N h3 a (1 : Int32))) ⟨by decide, by decide⟩ e3 (fun v10 h11 H locs w hsh11 e8 => ?_)
    refine lv_i2l hx hb dX12_least_18 rfl ?_
    exact w_lret C w e8 dX12_least_19
set_option maxRecDepth 20000 in
set_option maxHeartbeats 4000000 in
theorem b_M_flat_25 {p : Program} {l : Launch} {e : Env} {s : State} {m : MethodId} {args : Array Value} {below : List Frame} {meth : Method} {c : Code} {D : va_G} {cy : cyT} {z : Nat} (C : MX p s m args meth c cX12_flat 5 ((some .int)) RX12 (Cond.code yX12_flat cX12_flat 5 ((some .int)) :: GW)) (N : Nat) {r : Int32} {g : hS}  : ∀  (h : hS) (th : Nat) (H : Heap) (locs : List Loc) (ls : Array Slot), wd D cy z s 0 h H locs → lv_has ls 5 [(0, .ref th)] → f_M_flat_25 N   h th = some (r, g) → W p l e { frames := 7, cells := 0, slots := 0, locals := 193 } s m args below meth c H locs 0 0 (MQ below (eQ D cy z (rI r) g) args s 0 0 (fun q => z ≤ q)) (F0 m 25 ls []) := by
  obtain ⟨hx, hb, hr, hml, hown, hts, hlk⟩ := id C
  intro  h th H locs ls w  hl hE
  unfold f_M_flat_25 at hE
  refine lv_aload_n hx hb dX12_flat_25 rfl (lv_at hl 0 rfl) ?_
  refine lv_iconst (v := 1) hx hb dX12_flat_26 (by decide) ?_
  refine w_VI GW_good (n := 1) (F := 0) (Lc := 0) (o := some th) (av := [.int (1 : Int32)]) (rest := []) C w rfl (by decide) (fun a r g hf => k_M_fail l D cy z N h a (1 : Int32) r g hf) gw_25_4 gw_25_5 gw_25_6 gw_1_5 gw_25_7 (by decide +kernel) ⟨Nat.le_of_ble_eq_true rfl, Nat.le_of_ble_eq_true rfl⟩ rfl hl.1 rfl (Nat.le_of_ble_eq_true rfl) dX12_flat_27 (fun a => (sh_M_fail N h a (1 : Int32))) ⟨by decide, by decide⟩ hE (fun v1 h2 H locs w hsh2 e1 => ?_)
  exact w_iret C w e1 dX12_flat_30
set_option maxRecDepth 20000 in
set_option maxHeartbeats 4000000 in
theorem b_M_flat_114 {p : Program} {l : Launch} {e : Env} {s : State} {m : MethodId} {args : Array Value} {below : List Frame} {meth : Method} {c : Code} {D : va_G} {cy : cyT} {z : Nat} (C : MX p s m args meth c cX12_flat 5 ((some .int)) RX12 (Cond.code yX12_flat cX12_flat 5 ((some .int)) :: GW)) (N : Nat) {r : Int32} {g : hS}  : ∀  (h : hS) (y0 : Int32) (H : Heap) (locs : List Loc) (ls : Array Slot), wd D cy z s 0 h H locs → lv_has ls 5 [] → f_M_flat_114 N   h y0 = some (r, g) → W p l e { frames := 7, cells := 0, slots := 0, locals := 193 } s m args below meth c H locs 0 0 (MQ below (eQ D cy z (rI r) g) args s 0 0 (fun q => z ≤ q)) (F0 m 114 ls [.int y0]) := by
  obtain ⟨hx, hb, hr, hml, hown, hts, hlk⟩ := id C
  intro  h y0 H locs ls w  hl hE
  unfold f_M_flat_114 at hE
  exact w_iret C w hE dX12_flat_114
set_option maxRecDepth 20000 in
set_option maxHeartbeats 4000000 in
theorem k_M_flat (l : Launch) (D : va_G) (cy : cyT) (z : Nat) (N : Nat) (h : hS) (th : Nat) (x1 : Int32) (x2 : Int32) (r : Int32) (g : hS) (hE : f_M_flat N h th x1 x2 = some (r, g)) : ct l yX12_flat (Cond.code yX12_flat cX12_flat 5 ((some .int)) :: GW) { frames := 7, cells := 0, slots := 0, locals := 193 } D cy z h [.ref th, .int x1, .int x2] (rI r) g := by
  refine Met.ofW (cc := cX12_flat) (maxL := 5) (ret := (some .int)) (by decide) rfl ?_
  intro p e s m args below meth c s₁ B hml hv
  obtain ⟨rfl, hw⟩ := hv
  have C : MX p s m ([.ref th, .int x1, .int x2] : List Value).toArray meth c cX12_flat 5 ((some .int)) RX12 (Cond.code yX12_flat cX12_flat 5 ((some .int)) :: GW) := ⟨B.exec, B.bytes, B.returns, hml, findClass_of_methodNamed B.named, atoms_spec (ws := Cond.code yX12_flat cX12_flat 5 ((some .int)) :: GW) B.pre, B.notSynchronized⟩
  obtain ⟨hx, hb, hr, hml, hown, hts, hlk⟩ := id C
  have w := wd_of hw
  obtain ⟨ls, hen, hl⟩ : ∃ ls : Array Slot, entryFrame m ([.ref th, .int x1, .int x2] : List Value).toArray 5 = F0 m 0 ls [] ∧ lv_has ls 5 [(0, .ref th), (1, .int x1), (2, .int x2)] := by
    exact ⟨_, lg_entry_eq _ _ _, lv_entry _ (Nat.le_of_ble_eq_true rfl)⟩
  rw [hen]
  unfold f_M_flat at hE
  refine lv_aload_n hx hb dX12_flat_0 rfl (lv_at hl 0 rfl) ?_
  refine lv_iconst (v := 0) hx hb dX12_flat_1 (by decide) ?_
  refine w_pI (r := some th) (ci := 0) (k := 1) C w rfl (by decide) (by unfold roK; omega) (GF_wsX120 _) tyX12 tyX12_ok nmX12 (by decide) rfl (List.mem_cons_of_mem _ gw_8_18) rfl rfl (tyX12_ok 1 (by decide)) dX12_flat_2 hE (fun h1 H locs w hsh1 e1 => ?_)
  refine lv_aload_n hx hb dX12_flat_5 rfl (lv_at hl 0 rfl) ?_
  refine lv_iload_n hx hb dX12_flat_6 rfl (lv_at hl 1 rfl) ?_
  refine w_VI GW_good (n := 1) (F := 1) (Lc := 25) (o := some th) (av := [.int x1]) (rest := []) C w rfl (by decide) (fun a r g hf => k_M_isCost l D cy z N h1 a x1 r g hf) gw_24_20 gw_24_21 gw_24_22 gw_1_5 gw_24_23 (by decide +kernel) ⟨Nat.le_of_ble_eq_true rfl, Nat.le_of_ble_eq_true rfl⟩ rfl hl.1 rfl (Nat.le_of_ble_eq_true rfl) dX12_flat_7 (fun a => (sh_M_isCost N h1 a x1)) ⟨by decide, by decide⟩ e1 (fun v2 h3 H locs w hsh3 e2 => ?_)
  refine w_if_eq (tgt := 25) C dX12_flat_10 (by decide) e2 (fun hc e3 => ?_) (fun hc e3 => ?_)
  · exact b_M_flat_25 C N     h3 th _ _ ls w  (lv_sub hl [0] rfl) e3
  · refine lv_iload_n hx hb dX12_flat_13 rfl (lv_at hl 2 rfl) ?_
    refine lv_i2l hx hb dX12_flat_14 rfl ?_
    refine lv_lconst (v := 0) hx hb dX12_flat_15 (by decide) ?_
    refine lv_ldc2 hx hb hown (hts _ (List.mem_cons_of_mem _ gw_37_13)) dX12_flat_16 ?_
    refine w_SI GW_good (n := 3) (F := 0) (Lc := 0) (av := [.long x2.toInt64, .long (0 : Int64), .long (4 : Int64)]) (rest := []) C w (fun r g hf => k_M_isIn l D cy z N h3 x2.toInt64 (0 : Int64) (4 : Int64) r g hf) gw_25_1 gw_25_2 gw_1_5 gw_25_3 (by decide +kernel) ⟨Nat.le_of_ble_eq_true rfl, Nat.le_of_ble_eq_true rfl⟩ rfl hl.1 rfl (Nat.le_of_ble_eq_true rfl) dX12_flat_19 (sh_M_isIn N h3 x2.toInt64 (0 : Int64) (4 : Int64)) ⟨by decide, by decide⟩ e3 (fun v4 h5 H locs w hsh5 e4 => ?_)
    refine w_if_ne (tgt := 31) C dX12_flat_22 (by decide) e4 (fun hc e5 => ?_) (fun hc e5 => ?_)
    · refine lv_aload_n hx hb dX12_flat_31 rfl (lv_at hl 0 rfl) ?_
      refine lv_iload_n hx hb dX12_flat_32 rfl (lv_at hl 1 rfl) ?_
      refine w_VV GW_good (n := 1) (F := 6) (Lc := 171) (o := some th) (av := [.int x1]) (rest := []) C w rfl (by decide) (fun a r g hf => k_M_tell l D cy z N h5 a x1 r g hf) gw_28_9 gw_28_10 gw_28_11 gw_1_5 gw_28_12 (by decide +kernel) ⟨Nat.le_of_ble_eq_true rfl, Nat.le_of_ble_eq_true rfl⟩ rfl hl.1 rfl (Nat.le_of_ble_eq_true rfl) dX12_flat_33 (fun a => (sh_M_tell N h5 a x1)) ⟨by decide, by decide⟩ e5 (fun v6 h7 H locs w hsh7 e6 => ?_)
      refine lv_aload_n hx hb dX12_flat_36 rfl (lv_at hl 0 rfl) ?_
      refine w_gR (r := some th) (ci := 0) (k := 4) C w rfl (by decide) (GF_wsX120 _) (by decide) rfl (List.mem_cons_of_mem _ gw_6_23) rfl dX12_flat_37 e6 (fun v8 e7 => ?_)
      obtain ⟨q9, eq9, e8⟩ := nn_some e7
      subst eq9
      refine w_SI GW_good (n := 1) (F := 1) (Lc := 23) (av := [.ref q9]) (rest := []) C w (fun r g hf => k_M_flatFrom l D cy z N h7 q9 r g hf) gw_28_21 gw_28_22 gw_1_5 gw_28_23 (by decide +kernel) ⟨Nat.le_of_ble_eq_true rfl, Nat.le_of_ble_eq_true rfl⟩ rfl hl.1 rfl (Nat.le_of_ble_eq_true rfl) dX12_flat_40 (sh_M_flatFrom N h7 q9) ⟨by decide, by decide⟩ e8 (fun v10 h11 H locs w hsh11 e9 => ?_)
      refine lv_istore_n (lv' := [(3, .int v10), (0, .ref th), (1, .int x1), (2, .int x2)]) hx hb dX12_flat_43 rfl hl (by decide) rfl (fun ls hl => ?_)
      refine lv_aload_n hx hb dX12_flat_44 rfl (lv_at hl 1 rfl) ?_
      refine w_gR (r := some th) (ci := 0) (k := 4) C w rfl (by decide) (GF_wsX120 _) (by decide) rfl (List.mem_cons_of_mem _ gw_6_23) rfl dX12_flat_45 e9 (fun v12 e10 => ?_)
      obtain ⟨q13, eq13, e11⟩ := nn_some e10
      subst eq13
      refine w_SI GW_good (n := 1) (F := 1) (Lc := 23) (av := [.ref q13]) (rest := []) C w (fun r g hf => k_M_flatTo l D cy z N h11 q13 r g hf) gw_29_5 gw_29_6 gw_1_5 gw_29_7 (by decide +kernel) ⟨Nat.le_of_ble_eq_true rfl, Nat.le_of_ble_eq_true rfl⟩ rfl hl.1 rfl (Nat.le_of_ble_eq_true rfl) dX12_flat_48 (sh_M_flatTo N h11 q13) ⟨by decide, by decide⟩ e11 (fun v14 h15 H locs w hsh15 e12 => ?_)
      refine lv_istore (lv' := [(4, .int v14), (3, .int v10), (0, .ref th), (1, .int x1), (2, .int x2)]) hx hb dX12_flat_51 hl (by decide) rfl (fun ls hl => ?_)
      refine lv_iload_n hx hb dX12_flat_53 rfl (lv_at hl 4 rfl) ?_
      refine w_if_ne (tgt := 64) C dX12_flat_54 (by decide) e12 (fun hc e13 => ?_) (fun hc e13 => ?_)
      · refine lv_iload_n hx hb dX12_flat_64 rfl (lv_at hl 4 rfl) ?_
        refine lv_iconst (v := 1) hx hb dX12_flat_65 (by decide) ?_
        refine w_icmp_ne (tgt := 77) C dX12_flat_66 (by decide) e13 (fun hc e14 => ?_) (fun hc e14 => ?_)
        · refine lv_iload_n hx hb dX12_flat_77 rfl (lv_at hl 4 rfl) ?_
          refine lv_iconst (v := 2) hx hb dX12_flat_78 (by decide) ?_
          refine w_icmp_ne (tgt := 92) C dX12_flat_79 (by decide) e14 (fun hc e15 => ?_) (fun hc e15 => ?_)
          · refine lv_iload_n hx hb dX12_flat_92 rfl (lv_at hl 4 rfl) ?_
            refine lv_iconst (v := 3) hx hb dX12_flat_93 (by decide) ?_
            refine w_icmp_ne (tgt := 107) C dX12_flat_94 (by decide) e15 (fun hc e16 => ?_) (fun hc e16 => ?_)
            · refine lv_aload_n hx hb dX12_flat_107 rfl (lv_at hl 2 rfl) ?_
              refine w_gR (r := some th) (ci := 0) (k := 4) C w rfl (by decide) (GF_wsX120 _) (by decide) rfl (List.mem_cons_of_mem _ gw_6_23) rfl dX12_flat_108 e16 (fun v16 e17 => ?_)
              obtain ⟨q17, eq17, e18⟩ := nn_some e17
              subst eq17
              refine w_SI GW_good (n := 1) (F := 0) (Lc := 0) (av := [.ref q17]) (rest := []) C w (fun r g hf => k_M_weights l D cy z N h15 q17 r g hf) gw_31_3 gw_31_4 gw_1_5 gw_31_5 (by decide +kernel) ⟨Nat.le_of_ble_eq_true rfl, Nat.le_of_ble_eq_true rfl⟩ rfl hl.1 rfl (Nat.le_of_ble_eq_true rfl) dX12_flat_111 (sh_M_weights N h15 q17) ⟨by decide, by decide⟩ e18 (fun v18 h19 H locs w hsh19 e19 => ?_)
              exact b_M_flat_114 C N     h19 v18 _ _ ls w  (lv_sub hl [] rfl) e19
            · refine lv_aload_n hx hb dX12_flat_97 rfl (lv_at hl 2 rfl) ?_
              refine w_gR (r := some th) (ci := 0) (k := 4) C w rfl (by decide) (GF_wsX120 _) (by decide) rfl (List.mem_cons_of_mem _ gw_6_23) rfl dX12_flat_98 e16 (fun v20 e20 => ?_)
              obtain ⟨q21, eq21, e21⟩ := nn_some e20
              subst eq21
              refine w_SI GW_good (n := 1) (F := 0) (Lc := 0) (av := [.ref q21]) (rest := []) C w (fun r g hf => k_M_kinks l D cy z N h15 q21 r g hf) gw_37_20 gw_37_21 gw_1_5 gw_37_22 (by decide +kernel) ⟨Nat.le_of_ble_eq_true rfl, Nat.le_of_ble_eq_true rfl⟩ rfl hl.1 rfl (Nat.le_of_ble_eq_true rfl) dX12_flat_101 (sh_M_kinks N h15 q21) ⟨by decide, by decide⟩ e21 (fun v22 h23 H locs w hsh23 e22 => ?_)
              refine lv_goto (tgt := 114) hx hb dX12_flat_104 (by decide) ?_
              exact b_M_flat_114 C N     h23 v22 _ _ ls w  (lv_sub hl [] rfl) e22
          · refine lv_iload_n hx hb dX12_flat_82 rfl (lv_at hl 1 rfl) ?_
            refine lv_iload hx hb dX12_flat_83 (lv_at hl 0 rfl) ?_
            refine lv_iconst (v := 0) hx hb dX12_flat_85 (by decide) ?_
            refine w_SI GW_good (n := 3) (F := 0) (Lc := 0) (av := [.int v10, .int v14, .int (0 : Int32)]) (rest := []) C w (fun r g hf => k_M_nearest l D cy z N h15 v10 v14 (0 : Int32) r g hf) gw_30_20 gw_30_21 gw_1_5 gw_30_22 (by decide +kernel) ⟨Nat.le_of_ble_eq_true rfl, Nat.le_of_ble_eq_true rfl⟩ rfl hl.1 rfl (Nat.le_of_ble_eq_true rfl) dX12_flat_86 (sh_M_nearest N h15 v10 v14 (0 : Int32)) ⟨by decide, by decide⟩ e15 (fun v24 h25 H locs w hsh25 e23 => ?_)
            refine lv_goto (tgt := 114) hx hb dX12_flat_89 (by decide) ?_
            exact b_M_flat_114 C N     h25 v24 _ _ ls w  (lv_sub hl [] rfl) e23
        · refine lv_iload hx hb dX12_flat_69 (lv_at hl 0 rfl) ?_
          refine w_SI GW_good (n := 1) (F := 1) (Lc := 25) (av := [.int v14]) (rest := []) C w (fun r g hf => k_M_somewhere l D cy z N h15 v14 r g hf) gw_37_14 gw_37_15 gw_1_5 gw_37_16 (by decide +kernel) ⟨Nat.le_of_ble_eq_true rfl, Nat.le_of_ble_eq_true rfl⟩ rfl hl.1 rfl (Nat.le_of_ble_eq_true rfl) dX12_flat_71 (sh_M_somewhere N h15 v14) ⟨by decide, by decide⟩ e14 (fun v26 h27 H locs w hsh27 e24 => ?_)
          refine lv_goto (tgt := 114) hx hb dX12_flat_74 (by decide) ?_
          exact b_M_flat_114 C N     h27 v26 _ _ ls w  (lv_sub hl [] rfl) e24
      · refine lv_iload_n hx hb dX12_flat_57 rfl (lv_at hl 1 rfl) ?_
        refine w_SI GW_good (n := 1) (F := 1) (Lc := 25) (av := [.int v10]) (rest := []) C w (fun r g hf => k_M_somewhere l D cy z N h15 v10 r g hf) gw_37_14 gw_37_15 gw_1_5 gw_37_16 (by decide +kernel) ⟨Nat.le_of_ble_eq_true rfl, Nat.le_of_ble_eq_true rfl⟩ rfl hl.1 rfl (Nat.le_of_ble_eq_true rfl) dX12_flat_58 (sh_M_somewhere N h15 v10) ⟨by decide, by decide⟩ e13 (fun v28 h29 H locs w hsh29 e25 => ?_)
        refine lv_goto (tgt := 114) hx hb dX12_flat_61 (by decide) ?_
        exact b_M_flat_114 C N     h29 v28 _ _ ls w  (lv_sub hl [] rfl) e25
    · exact b_M_flat_25 C N     h5 th _ _ ls w  (lv_sub hl [0] rfl) e5
set_option maxRecDepth 20000 in
set_option maxHeartbeats 4000000 in
theorem b_M_kink_27 {p : Program} {l : Launch} {e : Env} {s : State} {m : MethodId} {args : Array Value} {below : List Frame} {meth : Method} {c : Code} {D : va_G} {cy : cyT} {z : Nat} (C : MX p s m args meth c cX12_kink 6 ((some .int)) RX12 (Cond.code yX12_kink cX12_kink 6 ((some .int)) :: GW)) (N : Nat) {r : Int32} {g : hS}  : ∀  (h : hS) (th : Nat) (H : Heap) (locs : List Loc) (ls : Array Slot), wd D cy z s 0 h H locs → lv_has ls 6 [(0, .ref th)] → f_M_kink_27 N   h th = some (r, g) → W p l e { frames := 7, cells := 0, slots := 0, locals := 193 } s m args below meth c H locs 0 0 (MQ below (eQ D cy z (rI r) g) args s 0 0 (fun q => z ≤ q)) (F0 m 27 ls []) := by
  obtain ⟨hx, hb, hr, hml, hown, hts, hlk⟩ := id C
  intro  h th H locs ls w  hl hE
  unfold f_M_kink_27 at hE
  refine lv_aload_n hx hb dX12_kink_27 rfl (lv_at hl 0 rfl) ?_
  refine lv_iconst (v := 1) hx hb dX12_kink_28 (by decide) ?_
  refine w_VI GW_good (n := 1) (F := 0) (Lc := 0) (o := some th) (av := [.int (1 : Int32)]) (rest := []) C w rfl (by decide) (fun a r g hf => k_M_fail l D cy z N h a (1 : Int32) r g hf) gw_25_4 gw_25_5 gw_25_6 gw_1_5 gw_25_7 (by decide +kernel) ⟨Nat.le_of_ble_eq_true rfl, Nat.le_of_ble_eq_true rfl⟩ rfl hl.1 rfl (Nat.le_of_ble_eq_true rfl) dX12_kink_29 (fun a => (sh_M_fail N h a (1 : Int32))) ⟨by decide, by decide⟩ hE (fun v1 h2 H locs w hsh2 e1 => ?_)
  exact w_iret C w e1 dX12_kink_32
set_option maxRecDepth 20000 in
set_option maxHeartbeats 4000000 in
theorem b_M_kink_98 {p : Program} {l : Launch} {e : Env} {s : State} {m : MethodId} {args : Array Value} {below : List Frame} {meth : Method} {c : Code} {D : va_G} {cy : cyT} {z : Nat} (C : MX p s m args meth c cX12_kink 6 ((some .int)) RX12 (Cond.code yX12_kink cX12_kink 6 ((some .int)) :: GW)) (N : Nat) {r : Int32} {g : hS} {rc44 : hS → Nat → Int32 → Int32 → Int32 → Option (Int32 × hS)}  (hrc44 : ∀ (h : hS) (th : Nat) (x3 : Int32) (x4 : Int32) (x5 : Int32) (H : Heap) (locs : List Loc) (ls : Array Slot), wd D cy z s 0 h H locs → lv_has ls 6 [(0, .ref th), (3, .int x3), (4, .int x4), (5, .int x5)] → rc44 h th x3 x4 x5 = some (r, g) → W p l e { frames := 7, cells := 0, slots := 0, locals := 193 } s m args below meth c H locs 0 0 (MQ below (eQ D cy z (rI r) g) args s 0 0 (fun q => z ≤ q)) (F0 m 44 ls [])) : ∀  (h : hS) (th : Nat) (x3 : Int32) (x4 : Int32) (x5 : Int32) (H : Heap) (locs : List Loc) (ls : Array Slot), wd D cy z s 0 h H locs → lv_has ls 6 [(0, .ref th), (3, .int x3), (4, .int x4), (5, .int x5)] → f_M_kink_98 N rc44  h th x3 x4 x5 = some (r, g) → W p l e { frames := 7, cells := 0, slots := 0, locals := 193 } s m args below meth c H locs 0 0 (MQ below (eQ D cy z (rI r) g) args s 0 0 (fun q => z ≤ q)) (F0 m 98 ls []) := by
  obtain ⟨hx, hb, hr, hml, hown, hts, hlk⟩ := id C
  intro  h th x3 x4 x5 H locs ls w  hl hE
  unfold f_M_kink_98 at hE
  obtain ⟨v1, ev1, e1⟩ := bn_some hE
  refine lv_iinc (v := v1) (lv' := [(5, .int v1), (0, .ref th), (3, .int x3), (4, .int x4)]) hx hb dX12_kink_98 hl (k := 3) rfl (by rw [ev1]; rfl) (by decide) rfl (fun ls hl => ?_)
  refine lv_goto (tgt := 44) hx hb dX12_kink_101 (by decide) ?_
  exact hrc44  h th x3 x4 v1 _ _ ls w  (lv_sub hl [1, 2, 3, 0] rfl) e1
set_option maxRecDepth 20000 in
set_option maxHeartbeats 4000000 in
theorem b_M_kink_94 {p : Program} {l : Launch} {e : Env} {s : State} {m : MethodId} {args : Array Value} {below : List Frame} {meth : Method} {c : Code} {D : va_G} {cy : cyT} {z : Nat} (C : MX p s m args meth c cX12_kink 6 ((some .int)) RX12 (Cond.code yX12_kink cX12_kink 6 ((some .int)) :: GW)) (N : Nat) {r : Int32} {g : hS}  : ∀  (h : hS) (y0 : Int32) (H : Heap) (locs : List Loc) (ls : Array Slot), wd D cy z s 0 h H locs → lv_has ls 6 [] → f_M_kink_94 N   h y0 = some (r, g) → W p l e { frames := 7, cells := 0, slots := 0, locals := 193 } s m args below meth c H locs 0 0 (MQ below (eQ D cy z (rI r) g) args s 0 0 (fun q => z ≤ q)) (F0 m 94 ls [.int y0]) := by
  obtain ⟨hx, hb, hr, hml, hown, hts, hlk⟩ := id C
  intro  h y0 H locs ls w  hl hE
  unfold f_M_kink_94 at hE
  exact w_iret C w hE dX12_kink_94
set_option maxRecDepth 20000 in
set_option maxHeartbeats 4000000 in
theorem b_M_kink_44 {p : Program} {l : Launch} {e : Env} {s : State} {m : MethodId} {args : Array Value} {below : List Frame} {meth : Method} {c : Code} {D : va_G} {cy : cyT} {z : Nat} (C : MX p s m args meth c cX12_kink 6 ((some .int)) RX12 (Cond.code yX12_kink cX12_kink 6 ((some .int)) :: GW)) (N : Nat) {r : Int32} {g : hS}  : ∀ (n : Nat) (h : hS) (th : Nat) (x3 : Int32) (x4 : Int32) (x5 : Int32) (H : Heap) (locs : List Loc) (ls : Array Slot), wd D cy z s 0 h H locs → lv_has ls 6 [(0, .ref th), (3, .int x3), (4, .int x4), (5, .int x5)] → f_M_kink_44 N  n h th x3 x4 x5 = some (r, g) → W p l e { frames := 7, cells := 0, slots := 0, locals := 193 } s m args below meth c H locs 0 0 (MQ below (eQ D cy z (rI r) g) args s 0 0 (fun q => z ≤ q)) (F0 m 44 ls []) := by
  obtain ⟨hx, hb, hr, hml, hown, hts, hlk⟩ := id C
  intro n
  induction n with
  | zero =>
    intro  h th x3 x4 x5 H locs ls w  hl hE
    cases hE
  | succ n ih =>
    intro  h th x3 x4 x5 H locs ls w  hl hE
    unfold f_M_kink_44 at hE
    refine lv_iload hx hb dX12_kink_44 (lv_at hl 3 rfl) ?_
    refine lv_sipush (v := 10001) hx hb dX12_kink_46 (by decide) ?_
    refine w_icmp_ge (tgt := 104) C dX12_kink_49 (by decide) hE (fun hc e1 => ?_) (fun hc e1 => ?_)
    · refine lv_aload_n hx hb dX12_kink_104 rfl (lv_at hl 0 rfl) ?_
      refine lv_iconst (v := 1) hx hb dX12_kink_105 (by decide) ?_
      refine w_VI GW_good (n := 1) (F := 0) (Lc := 0) (o := some th) (av := [.int (1 : Int32)]) (rest := []) C w rfl (by decide) (fun a r g hf => k_M_fail l D cy z N h a (1 : Int32) r g hf) gw_25_4 gw_25_5 gw_25_6 gw_1_5 gw_25_7 (by decide +kernel) ⟨Nat.le_of_ble_eq_true rfl, Nat.le_of_ble_eq_true rfl⟩ rfl hl.1 rfl (Nat.le_of_ble_eq_true rfl) dX12_kink_106 (fun a => (sh_M_fail N h a (1 : Int32))) ⟨by decide, by decide⟩ e1 (fun v1 h2 H locs w hsh2 e2 => ?_)
      exact w_iret C w e2 dX12_kink_109
    · refine lv_aload_n hx hb dX12_kink_52 rfl (lv_at hl 0 rfl) ?_
      refine w_gR (r := some th) (ci := 0) (k := 4) C w rfl (by decide) (GF_wsX120 _) (by decide) rfl (List.mem_cons_of_mem _ gw_6_23) rfl dX12_kink_53 e1 (fun v3 e3 => ?_)
      refine lv_iconst (v := 2) hx hb dX12_kink_56 (by decide) ?_
      refine lv_iload hx hb dX12_kink_57 (lv_at hl 3 rfl) ?_
      refine lv_iadd hx hb dX12_kink_59 ?_
      refine w_aI (r := v3) C w dX12_kink_60 e3 (fun v4 e4 => ?_)
      refine w_if_ne (tgt := 67) C dX12_kink_61 (by decide) e4 (fun hc e5 => ?_) (fun hc e5 => ?_)
      · refine lv_iload hx hb dX12_kink_67 (lv_at hl 2 rfl) ?_
        refine w_if_ne (tgt := 95) C dX12_kink_69 (by decide) e5 (fun hc e6 => ?_) (fun hc e6 => ?_)
        · obtain ⟨v5, ev5, e7⟩ := bn_some e6
          refine lv_iinc (v := v5) (lv' := [(4, .int v5), (0, .ref th), (3, .int x3), (5, .int x5)]) hx hb dX12_kink_95 hl (k := 2) rfl (by rw [ev5]; rfl) (by decide) rfl (fun ls hl => ?_)
          exact b_M_kink_98 C N  ih   h th x3 v5 x5 _ _ ls w  (lv_sub hl [1, 2, 0, 3] rfl) e7
        · refine lv_iload_n hx hb dX12_kink_72 rfl (lv_at hl 1 rfl) ?_
          refine w_if_ne (tgt := 85) C dX12_kink_73 (by decide) e6 (fun hc e8 => ?_) (fun hc e8 => ?_)
          · refine lv_aload_n hx hb dX12_kink_85 rfl (lv_at hl 0 rfl) ?_
            refine w_gR (r := some th) (ci := 0) (k := 4) C w rfl (by decide) (GF_wsX120 _) (by decide) rfl (List.mem_cons_of_mem _ gw_6_23) rfl dX12_kink_86 e8 (fun v6 e9 => ?_)
            refine lv_iconst (v := 2) hx hb dX12_kink_89 (by decide) ?_
            refine lv_iload hx hb dX12_kink_90 (lv_at hl 3 rfl) ?_
            refine lv_iadd hx hb dX12_kink_92 ?_
            refine w_aI (r := v6) C w dX12_kink_93 e9 (fun v7 e10 => ?_)
            exact b_M_kink_94 C N     h v7 _ _ ls w  (lv_sub hl [] rfl) e10
          · refine lv_iload hx hb dX12_kink_76 (lv_at hl 3 rfl) ?_
            refine lv_sipush (v := 5000) hx hb dX12_kink_78 (by decide) ?_
            refine lv_isub hx hb dX12_kink_81 ?_
            refine lv_goto (tgt := 94) hx hb dX12_kink_82 (by decide) ?_
            exact b_M_kink_94 C N     h (x5 - (5000 : Int32)) _ _ ls w  (lv_sub hl [] rfl) e8
      · refine lv_goto (tgt := 98) hx hb dX12_kink_64 (by decide) ?_
        exact b_M_kink_98 C N  ih   h th x3 x4 x5 _ _ ls w  (lv_sub hl [0, 1, 2, 3] rfl) e5
set_option maxRecDepth 20000 in
set_option maxHeartbeats 4000000 in
theorem k_M_kink (l : Launch) (D : va_G) (cy : cyT) (z : Nat) (N : Nat) (h : hS) (th : Nat) (x1 : Int32) (x2 : Int32) (x3 : Int32) (r : Int32) (g : hS) (hE : f_M_kink N h th x1 x2 x3 = some (r, g)) : ct l yX12_kink (Cond.code yX12_kink cX12_kink 6 ((some .int)) :: GW) { frames := 7, cells := 0, slots := 0, locals := 193 } D cy z h [.ref th, .int x1, .int x2, .int x3] (rI r) g := by
  refine Met.ofW (cc := cX12_kink) (maxL := 6) (ret := (some .int)) (by decide) rfl ?_
  intro p e s m args below meth c s₁ B hml hv
  obtain ⟨rfl, hw⟩ := hv
  have C : MX p s m ([.ref th, .int x1, .int x2, .int x3] : List Value).toArray meth c cX12_kink 6 ((some .int)) RX12 (Cond.code yX12_kink cX12_kink 6 ((some .int)) :: GW) := ⟨B.exec, B.bytes, B.returns, hml, findClass_of_methodNamed B.named, atoms_spec (ws := Cond.code yX12_kink cX12_kink 6 ((some .int)) :: GW) B.pre, B.notSynchronized⟩
  obtain ⟨hx, hb, hr, hml, hown, hts, hlk⟩ := id C
  have w := wd_of hw
  obtain ⟨ls, hen, hl⟩ : ∃ ls : Array Slot, entryFrame m ([.ref th, .int x1, .int x2, .int x3] : List Value).toArray 6 = F0 m 0 ls [] ∧ lv_has ls 6 [(0, .ref th), (1, .int x1), (2, .int x2), (3, .int x3)] := by
    exact ⟨_, lg_entry_eq _ _ _, lv_entry _ (Nat.le_of_ble_eq_true rfl)⟩
  rw [hen]
  unfold f_M_kink at hE
  refine lv_aload_n hx hb dX12_kink_0 rfl (lv_at hl 0 rfl) ?_
  refine lv_iconst (v := 0) hx hb dX12_kink_1 (by decide) ?_
  refine w_pI (r := some th) (ci := 0) (k := 1) C w rfl (by decide) (by unfold roK; omega) (GF_wsX120 _) tyX12 tyX12_ok nmX12 (by decide) rfl (List.mem_cons_of_mem _ gw_8_18) rfl rfl (tyX12_ok 1 (by decide)) dX12_kink_2 hE (fun h1 H locs w hsh1 e1 => ?_)
  refine lv_aload_n hx hb dX12_kink_5 rfl (lv_at hl 0 rfl) ?_
  refine lv_iload_n hx hb dX12_kink_6 rfl (lv_at hl 1 rfl) ?_
  refine w_VI GW_good (n := 1) (F := 1) (Lc := 25) (o := some th) (av := [.int x1]) (rest := []) C w rfl (by decide) (fun a r g hf => k_M_isCost l D cy z N h1 a x1 r g hf) gw_24_20 gw_24_21 gw_24_22 gw_1_5 gw_24_23 (by decide +kernel) ⟨Nat.le_of_ble_eq_true rfl, Nat.le_of_ble_eq_true rfl⟩ rfl hl.1 rfl (Nat.le_of_ble_eq_true rfl) dX12_kink_7 (fun a => (sh_M_isCost N h1 a x1)) ⟨by decide, by decide⟩ e1 (fun v2 h3 H locs w hsh3 e2 => ?_)
  refine w_if_eq (tgt := 27) C dX12_kink_10 (by decide) e2 (fun hc e3 => ?_) (fun hc e3 => ?_)
  · exact b_M_kink_27 C N     h3 th _ _ ls w  (lv_sub hl [0] rfl) e3
  · refine lv_iload_n hx hb dX12_kink_13 rfl (lv_at hl 3 rfl) ?_
    refine lv_i2l hx hb dX12_kink_14 rfl ?_
    refine lv_lconst (v := 0) hx hb dX12_kink_15 (by decide) ?_
    refine lv_lconst (v := 1) hx hb dX12_kink_16 (by decide) ?_
    refine w_SI GW_good (n := 3) (F := 0) (Lc := 0) (av := [.long x3.toInt64, .long (0 : Int64), .long (1 : Int64)]) (rest := []) C w (fun r g hf => k_M_isIn l D cy z N h3 x3.toInt64 (0 : Int64) (1 : Int64) r g hf) gw_25_1 gw_25_2 gw_1_5 gw_25_3 (by decide +kernel) ⟨Nat.le_of_ble_eq_true rfl, Nat.le_of_ble_eq_true rfl⟩ rfl hl.1 rfl (Nat.le_of_ble_eq_true rfl) dX12_kink_17 (sh_M_isIn N h3 x3.toInt64 (0 : Int64) (1 : Int64)) ⟨by decide, by decide⟩ e3 (fun v4 h5 H locs w hsh5 e4 => ?_)
    refine w_if_eq (tgt := 27) C dX12_kink_20 (by decide) e4 (fun hc e5 => ?_) (fun hc e5 => ?_)
    · exact b_M_kink_27 C N     h5 th _ _ ls w  (lv_sub hl [0] rfl) e5
    · refine lv_iload_n hx hb dX12_kink_23 rfl (lv_at hl 2 rfl) ?_
      refine w_if_ge (tgt := 33) C dX12_kink_24 (by decide) e5 (fun hc e6 => ?_) (fun hc e6 => ?_)
      · refine lv_aload_n hx hb dX12_kink_33 rfl (lv_at hl 0 rfl) ?_
        refine lv_iload_n hx hb dX12_kink_34 rfl (lv_at hl 1 rfl) ?_
        refine w_VV GW_good (n := 1) (F := 6) (Lc := 171) (o := some th) (av := [.int x1]) (rest := []) C w rfl (by decide) (fun a r g hf => k_M_tell l D cy z N h5 a x1 r g hf) gw_28_9 gw_28_10 gw_28_11 gw_1_5 gw_28_12 (by decide +kernel) ⟨Nat.le_of_ble_eq_true rfl, Nat.le_of_ble_eq_true rfl⟩ rfl hl.1 rfl (Nat.le_of_ble_eq_true rfl) dX12_kink_35 (fun a => (sh_M_tell N h5 a x1)) ⟨by decide, by decide⟩ e6 (fun v6 h7 H locs w hsh7 e7 => ?_)
        refine lv_iload_n hx hb dX12_kink_38 rfl (lv_at hl 2 rfl) ?_
        refine lv_istore (lv' := [(4, .int x2), (0, .ref th), (1, .int x1), (2, .int x2), (3, .int x3)]) hx hb dX12_kink_39 hl (by decide) rfl (fun ls hl => ?_)
        refine lv_iconst (v := 0) hx hb dX12_kink_41 (by decide) ?_
        refine lv_istore (lv' := [(5, .int (0 : Int32)), (4, .int x2), (0, .ref th), (1, .int x1), (2, .int x2), (3, .int x3)]) hx hb dX12_kink_42 hl (by decide) rfl (fun ls hl => ?_)
        exact b_M_kink_44 C N   N  h7 th x3 x2 (0 : Int32) _ _ ls w  (lv_sub hl [2, 5, 1, 0] rfl) e7
      · exact b_M_kink_27 C N     h5 th _ _ ls w  (lv_sub hl [0] rfl) e6
set_option maxRecDepth 20000 in
set_option maxHeartbeats 4000000 in
theorem b_M_slope_23 {p : Program} {l : Launch} {e : Env} {s : State} {m : MethodId} {args : Array Value} {below : List Frame} {meth : Method} {c : Code} {D : va_G} {cy : cyT} {z : Nat} (C : MX p s m args meth c cX12_slope 4 ((some .int)) RX12 (Cond.code yX12_slope cX12_slope 4 ((some .int)) :: GW)) (N : Nat) {r : Int32} {g : hS}  : ∀  (h : hS) (th : Nat) (H : Heap) (locs : List Loc) (ls : Array Slot), wd D cy z s 0 h H locs → lv_has ls 4 [(0, .ref th)] → f_M_slope_23 N   h th = some (r, g) → W p l e { frames := 7, cells := 0, slots := 0, locals := 193 } s m args below meth c H locs 0 0 (MQ below (eQ D cy z (rI r) g) args s 0 0 (fun q => z ≤ q)) (F0 m 23 ls []) := by
  obtain ⟨hx, hb, hr, hml, hown, hts, hlk⟩ := id C
  intro  h th H locs ls w  hl hE
  unfold f_M_slope_23 at hE
  refine lv_aload_n hx hb dX12_slope_23 rfl (lv_at hl 0 rfl) ?_
  refine lv_iconst (v := 1) hx hb dX12_slope_24 (by decide) ?_
  refine w_VI GW_good (n := 1) (F := 0) (Lc := 0) (o := some th) (av := [.int (1 : Int32)]) (rest := []) C w rfl (by decide) (fun a r g hf => k_M_fail l D cy z N h a (1 : Int32) r g hf) gw_25_4 gw_25_5 gw_25_6 gw_1_5 gw_25_7 (by decide +kernel) ⟨Nat.le_of_ble_eq_true rfl, Nat.le_of_ble_eq_true rfl⟩ rfl hl.1 rfl (Nat.le_of_ble_eq_true rfl) dX12_slope_25 (fun a => (sh_M_fail N h a (1 : Int32))) ⟨by decide, by decide⟩ hE (fun v1 h2 H locs w hsh2 e1 => ?_)
  exact w_iret C w e1 dX12_slope_28
set_option maxRecDepth 20000 in
set_option maxHeartbeats 4000000 in
theorem b_M_slope_92 {p : Program} {l : Launch} {e : Env} {s : State} {m : MethodId} {args : Array Value} {below : List Frame} {meth : Method} {c : Code} {D : va_G} {cy : cyT} {z : Nat} (C : MX p s m args meth c cX12_slope 4 ((some .int)) RX12 (Cond.code yX12_slope cX12_slope 4 ((some .int)) :: GW)) (N : Nat) {r : Int32} {g : hS}  : ∀  (h : hS) (y0 : Int64) (H : Heap) (locs : List Loc) (ls : Array Slot), wd D cy z s 0 h H locs → lv_has ls 4 [] → f_M_slope_92 N   h y0 = some (r, g) → W p l e { frames := 7, cells := 0, slots := 0, locals := 193 } s m args below meth c H locs 0 0 (MQ below (eQ D cy z (rI r) g) args s 0 0 (fun q => z ≤ q)) (F0 m 92 ls [.long y0]) := by
  obtain ⟨hx, hb, hr, hml, hown, hts, hlk⟩ := id C
  intro  h y0 H locs ls w  hl hE
  unfold f_M_slope_92 at hE
  refine lv_l2i hx hb dX12_slope_92 rfl ?_
  exact w_iret C w hE dX12_slope_93
set_option maxRecDepth 20000 in
set_option maxHeartbeats 4000000 in
theorem k_M_slope (l : Launch) (D : va_G) (cy : cyT) (z : Nat) (N : Nat) (h : hS) (th : Nat) (x1 : Int32) (x2 : Int32) (x3 : Int32) (r : Int32) (g : hS) (hE : f_M_slope N h th x1 x2 x3 = some (r, g)) : ct l yX12_slope (Cond.code yX12_slope cX12_slope 4 ((some .int)) :: GW) { frames := 7, cells := 0, slots := 0, locals := 193 } D cy z h [.ref th, .int x1, .int x2, .int x3] (rI r) g := by
  refine Met.ofW (cc := cX12_slope) (maxL := 4) (ret := (some .int)) (by decide) rfl ?_
  intro p e s m args below meth c s₁ B hml hv
  obtain ⟨rfl, hw⟩ := hv
  have C : MX p s m ([.ref th, .int x1, .int x2, .int x3] : List Value).toArray meth c cX12_slope 4 ((some .int)) RX12 (Cond.code yX12_slope cX12_slope 4 ((some .int)) :: GW) := ⟨B.exec, B.bytes, B.returns, hml, findClass_of_methodNamed B.named, atoms_spec (ws := Cond.code yX12_slope cX12_slope 4 ((some .int)) :: GW) B.pre, B.notSynchronized⟩
  obtain ⟨hx, hb, hr, hml, hown, hts, hlk⟩ := id C
  have w := wd_of hw
  obtain ⟨ls, hen, hl⟩ : ∃ ls : Array Slot, entryFrame m ([.ref th, .int x1, .int x2, .int x3] : List Value).toArray 4 = F0 m 0 ls [] ∧ lv_has ls 4 [(0, .ref th), (1, .int x1), (2, .int x2), (3, .int x3)] := by
    exact ⟨_, lg_entry_eq _ _ _, lv_entry _ (Nat.le_of_ble_eq_true rfl)⟩
  rw [hen]
  unfold f_M_slope at hE
  refine lv_aload_n hx hb dX12_slope_0 rfl (lv_at hl 0 rfl) ?_
  refine lv_iconst (v := 0) hx hb dX12_slope_1 (by decide) ?_
  refine w_pI (r := some th) (ci := 0) (k := 1) C w rfl (by decide) (by unfold roK; omega) (GF_wsX120 _) tyX12 tyX12_ok nmX12 (by decide) rfl (List.mem_cons_of_mem _ gw_8_18) rfl rfl (tyX12_ok 1 (by decide)) dX12_slope_2 hE (fun h1 H locs w hsh1 e1 => ?_)
  refine lv_aload_n hx hb dX12_slope_5 rfl (lv_at hl 0 rfl) ?_
  refine lv_iload_n hx hb dX12_slope_6 rfl (lv_at hl 1 rfl) ?_
  refine w_VI GW_good (n := 1) (F := 1) (Lc := 25) (o := some th) (av := [.int x1]) (rest := []) C w rfl (by decide) (fun a r g hf => k_M_isCost l D cy z N h1 a x1 r g hf) gw_24_20 gw_24_21 gw_24_22 gw_1_5 gw_24_23 (by decide +kernel) ⟨Nat.le_of_ble_eq_true rfl, Nat.le_of_ble_eq_true rfl⟩ rfl hl.1 rfl (Nat.le_of_ble_eq_true rfl) dX12_slope_7 (fun a => (sh_M_isCost N h1 a x1)) ⟨by decide, by decide⟩ e1 (fun v2 h3 H locs w hsh3 e2 => ?_)
  refine w_if_eq (tgt := 23) C dX12_slope_10 (by decide) e2 (fun hc e3 => ?_) (fun hc e3 => ?_)
  · exact b_M_slope_23 C N     h3 th _ _ ls w  (lv_sub hl [0] rfl) e3
  · refine lv_iload_n hx hb dX12_slope_13 rfl (lv_at hl 3 rfl) ?_
    refine lv_i2l hx hb dX12_slope_14 rfl ?_
    refine lv_lconst (v := 0) hx hb dX12_slope_15 (by decide) ?_
    refine lv_lconst (v := 1) hx hb dX12_slope_16 (by decide) ?_
    refine w_SI GW_good (n := 3) (F := 0) (Lc := 0) (av := [.long x3.toInt64, .long (0 : Int64), .long (1 : Int64)]) (rest := []) C w (fun r g hf => k_M_isIn l D cy z N h3 x3.toInt64 (0 : Int64) (1 : Int64) r g hf) gw_25_1 gw_25_2 gw_1_5 gw_25_3 (by decide +kernel) ⟨Nat.le_of_ble_eq_true rfl, Nat.le_of_ble_eq_true rfl⟩ rfl hl.1 rfl (Nat.le_of_ble_eq_true rfl) dX12_slope_17 (sh_M_isIn N h3 x3.toInt64 (0 : Int64) (1 : Int64)) ⟨by decide, by decide⟩ e3 (fun v4 h5 H locs w hsh5 e4 => ?_)
    refine w_if_ne (tgt := 29) C dX12_slope_20 (by decide) e4 (fun hc e5 => ?_) (fun hc e5 => ?_)
    · refine lv_iload_n hx hb dX12_slope_29 rfl (lv_at hl 2 rfl) ?_
      refine w_SI GW_good (n := 1) (F := 1) (Lc := 25) (av := [.int x2]) (rest := []) C w (fun r g hf => k_M_isX l D cy z N h5 x2 r g hf) gw_34_22 gw_34_23 gw_1_5 gw_35_0 (by decide +kernel) ⟨Nat.le_of_ble_eq_true rfl, Nat.le_of_ble_eq_true rfl⟩ rfl hl.1 rfl (Nat.le_of_ble_eq_true rfl) dX12_slope_30 (sh_M_isX N h5 x2) ⟨by decide, by decide⟩ e5 (fun v6 h7 H locs w hsh7 e6 => ?_)
      refine w_if_ne (tgt := 42) C dX12_slope_33 (by decide) e6 (fun hc e7 => ?_) (fun hc e7 => ?_)
      · refine lv_aload_n hx hb dX12_slope_42 rfl (lv_at hl 0 rfl) ?_
        refine lv_iload_n hx hb dX12_slope_43 rfl (lv_at hl 1 rfl) ?_
        refine w_VV GW_good (n := 1) (F := 6) (Lc := 171) (o := some th) (av := [.int x1]) (rest := []) C w rfl (by decide) (fun a r g hf => k_M_tell l D cy z N h7 a x1 r g hf) gw_28_9 gw_28_10 gw_28_11 gw_1_5 gw_28_12 (by decide +kernel) ⟨Nat.le_of_ble_eq_true rfl, Nat.le_of_ble_eq_true rfl⟩ rfl hl.1 rfl (Nat.le_of_ble_eq_true rfl) dX12_slope_44 (fun a => (sh_M_tell N h7 a x1)) ⟨by decide, by decide⟩ e7 (fun v8 h9 H locs w hsh9 e8 => ?_)
        refine lv_iload_n hx hb dX12_slope_47 rfl (lv_at hl 3 rfl) ?_
        refine w_if_ne (tgt := 73) C dX12_slope_48 (by decide) e8 (fun hc e9 => ?_) (fun hc e9 => ?_)
        · refine lv_aload_n hx hb dX12_slope_73 rfl (lv_at hl 0 rfl) ?_
          refine w_gR (r := some th) (ci := 0) (k := 4) C w rfl (by decide) (GF_wsX120 _) (by decide) rfl (List.mem_cons_of_mem _ gw_6_23) rfl dX12_slope_74 e9 (fun v10 e10 => ?_)
          refine lv_iload_n hx hb dX12_slope_77 rfl (lv_at hl 2 rfl) ?_
          refine lv_iconst (v := 1) hx hb dX12_slope_78 (by decide) ?_
          refine lv_iadd hx hb dX12_slope_79 ?_
          obtain ⟨q11, eq11, e11⟩ := nn_some e10
          subst eq11
          refine w_SJ GW_good (n := 2) (F := 1) (Lc := 44) (av := [.ref q11, .int (x2 + (1 : Int32))]) (rest := []) C w (fun r g hf => k_M_valueAt l D cy z N h9 q11 (x2 + (1 : Int32)) r g hf) gw_30_7 gw_30_8 gw_1_5 gw_30_9 (by decide +kernel) ⟨Nat.le_of_ble_eq_true rfl, Nat.le_of_ble_eq_true rfl⟩ rfl hl.1 rfl (Nat.le_of_ble_eq_true rfl) dX12_slope_80 (sh_M_valueAt N h9 q11 (x2 + (1 : Int32))) ⟨by decide, by decide⟩ e11 (fun v12 h13 H locs w hsh13 e12 => ?_)
          refine lv_aload_n hx hb dX12_slope_83 rfl (lv_at hl 0 rfl) ?_
          refine w_gR (r := some th) (ci := 0) (k := 4) C w rfl (by decide) (GF_wsX120 _) (by decide) rfl (List.mem_cons_of_mem _ gw_6_23) rfl dX12_slope_84 e12 (fun v14 e13 => ?_)
          refine lv_iload_n hx hb dX12_slope_87 rfl (lv_at hl 2 rfl) ?_
          obtain ⟨q15, eq15, e14⟩ := nn_some e13
          subst eq15
          refine w_SJ GW_good (n := 2) (F := 1) (Lc := 44) (av := [.ref q15, .int x2]) (rest := [.long v12]) C w (fun r g hf => k_M_valueAt l D cy z N h13 q15 x2 r g hf) gw_30_7 gw_30_8 gw_1_5 gw_30_9 (by decide +kernel) ⟨Nat.le_of_ble_eq_true rfl, Nat.le_of_ble_eq_true rfl⟩ rfl hl.1 rfl (Nat.le_of_ble_eq_true rfl) dX12_slope_88 (sh_M_valueAt N h13 q15 x2) ⟨by decide, by decide⟩ e14 (fun v16 h17 H locs w hsh17 e15 => ?_)
          refine lv_lsub hx hb dX12_slope_91 ?_
          exact b_M_slope_92 C N     h17 (v12 - v16) _ _ ls w  (lv_sub hl [] rfl) e15
        · refine lv_aload_n hx hb dX12_slope_51 rfl (lv_at hl 0 rfl) ?_
          refine w_gR (r := some th) (ci := 0) (k := 4) C w rfl (by decide) (GF_wsX120 _) (by decide) rfl (List.mem_cons_of_mem _ gw_6_23) rfl dX12_slope_52 e9 (fun v18 e16 => ?_)
          refine lv_iload_n hx hb dX12_slope_55 rfl (lv_at hl 2 rfl) ?_
          obtain ⟨q19, eq19, e17⟩ := nn_some e16
          subst eq19
          refine w_SJ GW_good (n := 2) (F := 1) (Lc := 44) (av := [.ref q19, .int x2]) (rest := []) C w (fun r g hf => k_M_valueAt l D cy z N h9 q19 x2 r g hf) gw_30_7 gw_30_8 gw_1_5 gw_30_9 (by decide +kernel) ⟨Nat.le_of_ble_eq_true rfl, Nat.le_of_ble_eq_true rfl⟩ rfl hl.1 rfl (Nat.le_of_ble_eq_true rfl) dX12_slope_56 (sh_M_valueAt N h9 q19 x2) ⟨by decide, by decide⟩ e17 (fun v20 h21 H locs w hsh21 e18 => ?_)
          refine lv_aload_n hx hb dX12_slope_59 rfl (lv_at hl 0 rfl) ?_
          refine w_gR (r := some th) (ci := 0) (k := 4) C w rfl (by decide) (GF_wsX120 _) (by decide) rfl (List.mem_cons_of_mem _ gw_6_23) rfl dX12_slope_60 e18 (fun v22 e19 => ?_)
          refine lv_iload_n hx hb dX12_slope_63 rfl (lv_at hl 2 rfl) ?_
          refine lv_iconst (v := 1) hx hb dX12_slope_64 (by decide) ?_
          refine lv_isub hx hb dX12_slope_65 ?_
          obtain ⟨q23, eq23, e20⟩ := nn_some e19
          subst eq23
          refine w_SJ GW_good (n := 2) (F := 1) (Lc := 44) (av := [.ref q23, .int (x2 - (1 : Int32))]) (rest := [.long v20]) C w (fun r g hf => k_M_valueAt l D cy z N h21 q23 (x2 - (1 : Int32)) r g hf) gw_30_7 gw_30_8 gw_1_5 gw_30_9 (by decide +kernel) ⟨Nat.le_of_ble_eq_true rfl, Nat.le_of_ble_eq_true rfl⟩ rfl hl.1 rfl (Nat.le_of_ble_eq_true rfl) dX12_slope_66 (sh_M_valueAt N h21 q23 (x2 - (1 : Int32))) ⟨by decide, by decide⟩ e20 (fun v24 h25 H locs w hsh25 e21 => ?_)
          refine lv_lsub hx hb dX12_slope_69 ?_
          refine lv_goto (tgt := 92) hx hb dX12_slope_70 (by decide) ?_
          exact b_M_slope_92 C N     h25 (v20 - v24) _ _ ls w  (lv_sub hl [] rfl) e21
      · refine lv_aload_n hx hb dX12_slope_36 rfl (lv_at hl 0 rfl) ?_
        refine lv_iconst (v := 2) hx hb dX12_slope_37 (by decide) ?_
        refine w_VI GW_good (n := 1) (F := 0) (Lc := 0) (o := some th) (av := [.int (2 : Int32)]) (rest := []) C w rfl (by decide) (fun a r g hf => k_M_fail l D cy z N h7 a (2 : Int32) r g hf) gw_25_4 gw_25_5 gw_25_6 gw_1_5 gw_25_7 (by decide +kernel) ⟨Nat.le_of_ble_eq_true rfl, Nat.le_of_ble_eq_true rfl⟩ rfl hl.1 rfl (Nat.le_of_ble_eq_true rfl) dX12_slope_38 (fun a => (sh_M_fail N h7 a (2 : Int32))) ⟨by decide, by decide⟩ e7 (fun v26 h27 H locs w hsh27 e22 => ?_)
        exact w_iret C w e22 dX12_slope_41
    · exact b_M_slope_23 C N     h5 th _ _ ls w  (lv_sub hl [0] rfl) e5
set_option maxRecDepth 20000 in
set_option maxHeartbeats 4000000 in
theorem b_M_tellPath_197 {p : Program} {l : Launch} {e : Env} {s : State} {m : MethodId} {args : Array Value} {below : List Frame} {meth : Method} {c : Code} {D : va_G} {cy : cyT} {z : Nat} (C : MX p s m args meth c cX12_tellPath 8 (none) RX12 (Cond.code yX12_tellPath cX12_tellPath 8 (none) :: GW)) (N : Nat) {r : Unit} {g : hS} {rc23 : hS → Nat → Int32 → Int32 → Option (Unit × hS)}  (hrc23 : ∀ (h : hS) (th : Nat) (x1 : Int32) (x4 : Int32) (H : Heap) (locs : List Loc) (ls : Array Slot), wd D cy z s 0 h H locs → lv_has ls 8 [(0, .ref th), (1, .int x1), (4, .int x4)] → rc23 h th x1 x4 = some (r, g) → W p l e { frames := 7, cells := 0, slots := 0, locals := 193 } s m args below meth c H locs 0 0 (MQ below (eQ D cy z (rV r) g) args s 0 0 (fun q => z ≤ q)) (F0 m 23 ls [])) : ∀  (h : hS) (th : Nat) (x1 : Int32) (x4 : Int32) (H : Heap) (locs : List Loc) (ls : Array Slot), wd D cy z s 0 h H locs → lv_has ls 8 [(0, .ref th), (1, .int x1), (4, .int x4)] → f_M_tellPath_197 N rc23  h th x1 x4 = some (r, g) → W p l e { frames := 7, cells := 0, slots := 0, locals := 193 } s m args below meth c H locs 0 0 (MQ below (eQ D cy z (rV r) g) args s 0 0 (fun q => z ≤ q)) (F0 m 197 ls []) := by
  obtain ⟨hx, hb, hr, hml, hown, hts, hlk⟩ := id C
  intro  h th x1 x4 H locs ls w  hl hE
  unfold f_M_tellPath_197 at hE
  obtain ⟨v1, ev1, e1⟩ := bn_some hE
  refine lv_iinc (v := v1) (lv' := [(4, .int v1), (0, .ref th), (1, .int x1)]) hx hb dX12_tellPath_197 hl (k := 2) rfl (by rw [ev1]; rfl) (by decide) rfl (fun ls hl => ?_)
  refine lv_goto (tgt := 23) hx hb dX12_tellPath_200 (by decide) ?_
  exact hrc23  h th x1 v1 _ _ ls w  (lv_sub hl [1, 2, 0] rfl) e1
set_option maxRecDepth 20000 in
set_option maxHeartbeats 4000000 in
theorem b_M_tellPath_23 {p : Program} {l : Launch} {e : Env} {s : State} {m : MethodId} {args : Array Value} {below : List Frame} {meth : Method} {c : Code} {D : va_G} {cy : cyT} {z : Nat} (C : MX p s m args meth c cX12_tellPath 8 (none) RX12 (Cond.code yX12_tellPath cX12_tellPath 8 (none) :: GW)) (N : Nat) {r : Unit} {g : hS}  : ∀ (n : Nat) (h : hS) (th : Nat) (x1 : Int32) (x4 : Int32) (H : Heap) (locs : List Loc) (ls : Array Slot), wd D cy z s 0 h H locs → lv_has ls 8 [(0, .ref th), (1, .int x1), (4, .int x4)] → f_M_tellPath_23 N  n h th x1 x4 = some (r, g) → W p l e { frames := 7, cells := 0, slots := 0, locals := 193 } s m args below meth c H locs 0 0 (MQ below (eQ D cy z (rV r) g) args s 0 0 (fun q => z ≤ q)) (F0 m 23 ls []) := by
  obtain ⟨hx, hb, hr, hml, hown, hts, hlk⟩ := id C
  intro n
  induction n with
  | zero =>
    intro  h th x1 x4 H locs ls w  hl hE
    cases hE
  | succ n ih =>
    intro  h th x1 x4 H locs ls w  hl hE
    unfold f_M_tellPath_23 at hE
    refine lv_iload hx hb dX12_tellPath_23 (lv_at hl 2 rfl) ?_
    refine w_if_lt (tgt := 203) C dX12_tellPath_25 (by decide) hE (fun hc e1 => ?_) (fun hc e1 => ?_)
    · exact w_vret C w e1 dX12_tellPath_203
    · refine lv_aload_n hx hb dX12_tellPath_28 rfl (lv_at hl 0 rfl) ?_
      refine w_gR (r := some th) (ci := 0) (k := 30) C w rfl (by decide) (GF_wsX120 _) (by decide) rfl (List.mem_cons_of_mem _ gw_7_15) rfl dX12_tellPath_29 e1 (fun v1 e2 => ?_)
      refine lv_iload hx hb dX12_tellPath_32 (lv_at hl 2 rfl) ?_
      refine lv_iconst (v := 1) hx hb dX12_tellPath_34 (by decide) ?_
      refine lv_iadd hx hb dX12_tellPath_35 ?_
      refine w_aI (r := v1) C w dX12_tellPath_36 e2 (fun v2 e3 => ?_)
      refine lv_istore (lv' := [(5, .int v2), (0, .ref th), (1, .int x1), (4, .int x4)]) hx hb dX12_tellPath_37 hl (by decide) rfl (fun ls hl => ?_)
      refine lv_aload_n hx hb dX12_tellPath_39 rfl (lv_at hl 1 rfl) ?_
      refine lv_iload_n hx hb dX12_tellPath_40 rfl (lv_at hl 2 rfl) ?_
      refine lv_iload hx hb dX12_tellPath_41 (lv_at hl 3 rfl) ?_
      refine lv_iconst (v := 1) hx hb dX12_tellPath_43 (by decide) ?_
      refine w_VI GW_good (n := 3) (F := 0) (Lc := 0) (o := some th) (av := [.int x1, .int x4, .int (1 : Int32)]) (rest := []) C w rfl (by decide) (fun a r g hf => k_M_stepAt l D cy z N h a x1 x4 (1 : Int32) r g hf) gw_33_22 gw_33_23 gw_34_0 gw_1_5 gw_34_1 (by decide +kernel) ⟨Nat.le_of_ble_eq_true rfl, Nat.le_of_ble_eq_true rfl⟩ rfl hl.1 rfl (Nat.le_of_ble_eq_true rfl) dX12_tellPath_44 (fun a => (sh_M_stepAt N h a x1 x4 (1 : Int32))) ⟨by decide, by decide⟩ e3 (fun v3 h4 H locs w hsh4 e4 => ?_)
      refine lv_istore (lv' := [(6, .int v3), (5, .int v2), (0, .ref th), (1, .int x1), (4, .int x4)]) hx hb dX12_tellPath_47 hl (by decide) rfl (fun ls hl => ?_)
      refine lv_aload_n hx hb dX12_tellPath_49 rfl (lv_at hl 2 rfl) ?_
      refine w_gR (r := some th) (ci := 0) (k := 10) C w rfl (by decide) (GF_wsX120 _) (by decide) rfl (List.mem_cons_of_mem _ gw_7_6) rfl dX12_tellPath_50 e4 (fun v5 e5 => ?_)
      refine lv_iload hx hb dX12_tellPath_53 (lv_at hl 4 rfl) ?_
      refine w_aI (r := v5) C w dX12_tellPath_55 e5 (fun v6 e6 => ?_)
      refine lv_aload_n hx hb dX12_tellPath_56 rfl (lv_at hl 2 rfl) ?_
      refine w_gR (r := some th) (ci := 0) (k := 11) C w rfl (by decide) (GF_wsX120 _) (by decide) rfl (List.mem_cons_of_mem _ gw_7_7) rfl dX12_tellPath_57 e6 (fun v7 e7 => ?_)
      refine lv_iload hx hb dX12_tellPath_60 (lv_at hl 4 rfl) ?_
      refine w_aI (r := v7) C w dX12_tellPath_62 e7 (fun v8 e8 => ?_)
      refine lv_iload hx hb dX12_tellPath_63 (lv_at hl 1 rfl) ?_
      refine w_SI GW_good (n := 3) (F := 0) (Lc := 0) (av := [.int v6, .int v8, .int v2]) (rest := []) C w (fun r g hf => k_M_nearest l D cy z N h4 v6 v8 v2 r g hf) gw_30_20 gw_30_21 gw_1_5 gw_30_22 (by decide +kernel) ⟨Nat.le_of_ble_eq_true rfl, Nat.le_of_ble_eq_true rfl⟩ rfl hl.1 rfl (Nat.le_of_ble_eq_true rfl) dX12_tellPath_65 (sh_M_nearest N h4 v6 v8 v2) ⟨by decide, by decide⟩ e8 (fun v9 h10 H locs w hsh10 e9 => ?_)
      refine lv_istore (lv' := [(7, .int v9), (6, .int v3), (5, .int v2), (0, .ref th), (1, .int x1), (4, .int x4)]) hx hb dX12_tellPath_68 hl (by decide) rfl (fun ls hl => ?_)
      refine lv_aload_n hx hb dX12_tellPath_70 rfl (lv_at hl 3 rfl) ?_
      refine lv_iload_n hx hb dX12_tellPath_71 rfl (lv_at hl 4 rfl) ?_
      refine lv_iload hx hb dX12_tellPath_72 (lv_at hl 5 rfl) ?_
      refine lv_iconst (v := 0) hx hb dX12_tellPath_74 (by decide) ?_
      refine w_VI GW_good (n := 3) (F := 0) (Lc := 0) (o := some th) (av := [.int x1, .int x4, .int (0 : Int32)]) (rest := []) C w rfl (by decide) (fun a r g hf => k_M_stepAt l D cy z N h10 a x1 x4 (0 : Int32) r g hf) gw_33_22 gw_33_23 gw_34_0 gw_1_5 gw_34_1 (by decide +kernel) ⟨Nat.le_of_ble_eq_true rfl, Nat.le_of_ble_eq_true rfl⟩ rfl hl.1 rfl (Nat.le_of_ble_eq_true rfl) dX12_tellPath_75 (fun a => (sh_M_stepAt N h10 a x1 x4 (0 : Int32))) ⟨by decide, by decide⟩ e9 (fun v11 h12 H locs w hsh12 e10 => ?_)
      refine w_case e10 (fun hc e11 => ?_) (fun nc78_3 e11 => ?_)
      · refine w_tin (tgt := 108) C hc dX12_tellPath_78 (by decide) (by decide) rfl (by decide) ?_
        refine lv_aload_n hx hb dX12_tellPath_108 rfl (lv_at hl 3 rfl) ?_
        refine w_gR (r := some th) (ci := 0) (k := 30) C w rfl (by decide) (GF_wsX120 _) (by decide) rfl (List.mem_cons_of_mem _ gw_7_15) rfl dX12_tellPath_109 e11 (fun v13 e12 => ?_)
        refine lv_iload hx hb dX12_tellPath_112 (lv_at hl 5 rfl) ?_
        refine lv_iload hx hb dX12_tellPath_114 (lv_at hl 2 rfl) ?_
        refine lv_iload hx hb dX12_tellPath_116 (lv_at hl 1 rfl) ?_
        refine lv_isub hx hb dX12_tellPath_118 ?_
        refine w_uI (r := v13) C w dX12_tellPath_119 e12 (fun h14 H locs w hsh14 e13 => ?_)
        refine lv_goto (tgt := 197) hx hb dX12_tellPath_120 (by decide) ?_
        exact b_M_tellPath_197 C N  ih   h14 th x1 x4 _ _ ls w  (lv_sub hl [3, 4, 5] rfl) e13
      ·
        refine w_case e11 (fun hc e14 => ?_) (fun nc78_4 e14 => ?_)
        · refine w_tin (tgt := 123) C hc dX12_tellPath_78 (by decide) (by decide) rfl (by decide) ?_
          refine lv_aload_n hx hb dX12_tellPath_123 rfl (lv_at hl 3 rfl) ?_
          refine w_gR (r := some th) (ci := 0) (k := 30) C w rfl (by decide) (GF_wsX120 _) (by decide) rfl (List.mem_cons_of_mem _ gw_7_15) rfl dX12_tellPath_124 e14 (fun v15 e15 => ?_)
          refine lv_iload hx hb dX12_tellPath_127 (lv_at hl 5 rfl) ?_
          refine lv_iload hx hb dX12_tellPath_129 (lv_at hl 2 rfl) ?_
          refine lv_aload_n hx hb dX12_tellPath_131 rfl (lv_at hl 3 rfl) ?_
          refine lv_iload_n hx hb dX12_tellPath_132 rfl (lv_at hl 4 rfl) ?_
          refine lv_iload hx hb dX12_tellPath_133 (lv_at hl 5 rfl) ?_
          refine lv_iconst (v := 2) hx hb dX12_tellPath_135 (by decide) ?_
          refine w_VI GW_good (n := 3) (F := 0) (Lc := 0) (o := some th) (av := [.int x1, .int x4, .int (2 : Int32)]) (rest := [.int v2, .int x4, va_rf v15]) C w rfl (by decide) (fun a r g hf => k_M_stepAt l D cy z N h12 a x1 x4 (2 : Int32) r g hf) gw_33_22 gw_33_23 gw_34_0 gw_1_5 gw_34_1 (by decide +kernel) ⟨Nat.le_of_ble_eq_true rfl, Nat.le_of_ble_eq_true rfl⟩ rfl hl.1 rfl (cat_le (Nat.le_of_ble_eq_true rfl)) dX12_tellPath_136 (fun a => (sh_M_stepAt N h12 a x1 x4 (2 : Int32))) ⟨by decide, by decide⟩ e15 (fun v16 h17 H locs w hsh17 e16 => ?_)
          refine lv_isub hx hb dX12_tellPath_139 ?_
          refine lv_iload hx hb dX12_tellPath_140 (lv_at hl 2 rfl) ?_
          refine lv_iload hx hb dX12_tellPath_142 (lv_at hl 1 rfl) ?_
          refine lv_iadd hx hb dX12_tellPath_144 ?_
          refine lv_iload hx hb dX12_tellPath_145 (lv_at hl 0 rfl) ?_
          refine w_SI GW_good (n := 3) (F := 0) (Lc := 0) (av := [.int (v2 - v16), .int (v2 + v3), .int v9]) (rest := [.int x4, va_rf v15]) C w (fun r g hf => k_M_nearest l D cy z N h17 (v2 - v16) (v2 + v3) v9 r g hf) gw_30_20 gw_30_21 gw_1_5 gw_30_22 (by decide +kernel) ⟨Nat.le_of_ble_eq_true rfl, Nat.le_of_ble_eq_true rfl⟩ rfl hl.1 rfl (cat_le (Nat.le_of_ble_eq_true rfl)) dX12_tellPath_147 (sh_M_nearest N h17 (v2 - v16) (v2 + v3) v9) ⟨by decide, by decide⟩ e16 (fun v18 h19 H locs w hsh19 e17 => ?_)
          refine w_uI (r := v15) C w dX12_tellPath_150 e17 (fun h20 H locs w hsh20 e18 => ?_)
          refine lv_goto (tgt := 197) hx hb dX12_tellPath_151 (by decide) ?_
          exact b_M_tellPath_197 C N  ih   h20 th x1 x4 _ _ ls w  (lv_sub hl [3, 4, 5] rfl) e18
        ·
          refine w_case e14 (fun hc e19 => ?_) (fun nc78_5 e19 => ?_)
          · refine w_tin (tgt := 154) C hc dX12_tellPath_78 (by decide) (by decide) rfl (by decide) ?_
            refine lv_aload_n hx hb dX12_tellPath_154 rfl (lv_at hl 3 rfl) ?_
            refine w_gR (r := some th) (ci := 0) (k := 30) C w rfl (by decide) (GF_wsX120 _) (by decide) rfl (List.mem_cons_of_mem _ gw_7_15) rfl dX12_tellPath_155 e19 (fun v21 e20 => ?_)
            refine lv_iload hx hb dX12_tellPath_158 (lv_at hl 5 rfl) ?_
            refine lv_iload hx hb dX12_tellPath_160 (lv_at hl 2 rfl) ?_
            refine lv_iload hx hb dX12_tellPath_162 (lv_at hl 0 rfl) ?_
            refine w_mmin C hl.1 (List.mem_cons_of_mem _ gw_25_15) (List.mem_cons_of_mem _ gw_10_6) (List.mem_cons_of_mem _ gw_10_7) (List.mem_cons_of_mem _ gw_10_8) (Nat.le_of_ble_eq_true rfl) (cat_le13 (Nat.le_of_ble_eq_true rfl) (Nat.le_of_ble_eq_true rfl)) (by decide) (by decide) dX12_tellPath_164 ?_
            refine w_uI (r := v21) C w dX12_tellPath_167 e20 (fun h22 H locs w hsh22 e21 => ?_)
            refine lv_goto (tgt := 197) hx hb dX12_tellPath_168 (by decide) ?_
            exact b_M_tellPath_197 C N  ih   h22 th x1 x4 _ _ ls w  (lv_sub hl [3, 4, 5] rfl) e21
          ·
            refine w_case e19 (fun hc e22 => ?_) (fun nc78_6 e22 => ?_)
            · refine w_tin (tgt := 171) C hc dX12_tellPath_78 (by decide) (by decide) rfl (by decide) ?_
              refine lv_aload_n hx hb dX12_tellPath_171 rfl (lv_at hl 3 rfl) ?_
              refine w_gR (r := some th) (ci := 0) (k := 30) C w rfl (by decide) (GF_wsX120 _) (by decide) rfl (List.mem_cons_of_mem _ gw_7_15) rfl dX12_tellPath_172 e22 (fun v23 e23 => ?_)
              refine lv_iload hx hb dX12_tellPath_175 (lv_at hl 5 rfl) ?_
              refine lv_iload hx hb dX12_tellPath_177 (lv_at hl 2 rfl) ?_
              refine lv_iload hx hb dX12_tellPath_179 (lv_at hl 0 rfl) ?_
              refine w_mmax C hl.1 (List.mem_cons_of_mem _ gw_30_14) (List.mem_cons_of_mem _ gw_30_15) (List.mem_cons_of_mem _ gw_10_7) (List.mem_cons_of_mem _ gw_30_16) (Nat.le_of_ble_eq_true rfl) (cat_le13 (Nat.le_of_ble_eq_true rfl) (Nat.le_of_ble_eq_true rfl)) (by decide) (by decide) dX12_tellPath_181 ?_
              refine w_uI (r := v23) C w dX12_tellPath_184 e23 (fun h24 H locs w hsh24 e24 => ?_)
              refine lv_goto (tgt := 197) hx hb dX12_tellPath_185 (by decide) ?_
              exact b_M_tellPath_197 C N  ih   h24 th x1 x4 _ _ ls w  (lv_sub hl [3, 4, 5] rfl) e24
            ·
              refine w_tout (tgt := 188) 3 4 C (by decide) (by intro k hk; rcases (show k = 0 ∨ k = 1 ∨ k = 2 ∨ k = 3 by omega) with rfl | rfl | rfl | rfl; all_goals assumption) rfl rfl dX12_tellPath_78 (by decide) ?_
              refine lv_aload_n hx hb dX12_tellPath_188 rfl (lv_at hl 3 rfl) ?_
              refine w_gR (r := some th) (ci := 0) (k := 30) C w rfl (by decide) (GF_wsX120 _) (by decide) rfl (List.mem_cons_of_mem _ gw_7_15) rfl dX12_tellPath_189 e22 (fun v25 e25 => ?_)
              refine lv_iload hx hb dX12_tellPath_192 (lv_at hl 5 rfl) ?_
              refine lv_iload hx hb dX12_tellPath_194 (lv_at hl 2 rfl) ?_
              refine w_uI (r := v25) C w dX12_tellPath_196 e25 (fun h26 H locs w hsh26 e26 => ?_)
              exact b_M_tellPath_197 C N  ih   h26 th x1 x4 _ _ ls w  (lv_sub hl [3, 4, 5] rfl) e26
set_option maxRecDepth 20000 in
set_option maxHeartbeats 4000000 in
theorem k_M_tellPath (l : Launch) (D : va_G) (cy : cyT) (z : Nat) (N : Nat) (h : hS) (th : Nat) (x1 : Int32) (x2 : Int32) (r : Unit) (g : hS) (hE : f_M_tellPath N h th x1 x2 = some (r, g)) : ct l yX12_tellPath (Cond.code yX12_tellPath cX12_tellPath 8 (none) :: GW) { frames := 7, cells := 0, slots := 0, locals := 193 } D cy z h [.ref th, .int x1, .int x2] (rV r) g := by
  refine Met.ofW (cc := cX12_tellPath) (maxL := 8) (ret := none) (by decide) rfl ?_
  intro p e s m args below meth c s₁ B hml hv
  obtain ⟨rfl, hw⟩ := hv
  have C : MX p s m ([.ref th, .int x1, .int x2] : List Value).toArray meth c cX12_tellPath 8 (none) RX12 (Cond.code yX12_tellPath cX12_tellPath 8 (none) :: GW) := ⟨B.exec, B.bytes, B.returns, hml, findClass_of_methodNamed B.named, atoms_spec (ws := Cond.code yX12_tellPath cX12_tellPath 8 (none) :: GW) B.pre, B.notSynchronized⟩
  obtain ⟨hx, hb, hr, hml, hown, hts, hlk⟩ := id C
  have w := wd_of hw
  obtain ⟨ls, hen, hl⟩ : ∃ ls : Array Slot, entryFrame m ([.ref th, .int x1, .int x2] : List Value).toArray 8 = F0 m 0 ls [] ∧ lv_has ls 8 [(0, .ref th), (1, .int x1), (2, .int x2)] := by
    exact ⟨_, lg_entry_eq _ _ _, lv_entry _ (Nat.le_of_ble_eq_true rfl)⟩
  rw [hen]
  unfold f_M_tellPath at hE
  refine lv_aload_n hx hb dX12_tellPath_0 rfl (lv_at hl 0 rfl) ?_
  refine lv_iload_n hx hb dX12_tellPath_1 rfl (lv_at hl 1 rfl) ?_
  refine w_VV GW_good (n := 1) (F := 6) (Lc := 171) (o := some th) (av := [.int x1]) (rest := []) C w rfl (by decide) (fun a r g hf => k_M_tell l D cy z N h a x1 r g hf) gw_28_9 gw_28_10 gw_28_11 gw_1_5 gw_28_12 (by decide +kernel) ⟨Nat.le_of_ble_eq_true rfl, Nat.le_of_ble_eq_true rfl⟩ rfl hl.1 rfl (Nat.le_of_ble_eq_true rfl) dX12_tellPath_2 (fun a => (sh_M_tell N h a x1)) ⟨by decide, by decide⟩ hE (fun v1 h2 H locs w hsh2 e1 => ?_)
  refine lv_aload_n hx hb dX12_tellPath_5 rfl (lv_at hl 0 rfl) ?_
  refine lv_iload_n hx hb dX12_tellPath_6 rfl (lv_at hl 1 rfl) ?_
  refine w_VI GW_good (n := 1) (F := 0) (Lc := 0) (o := some th) (av := [.int x1]) (rest := []) C w rfl (by decide) (fun a r g hf => k_M_steps l D cy z N h2 a x1 r g hf) gw_33_18 gw_33_19 gw_33_20 gw_1_5 gw_33_21 (by decide +kernel) ⟨Nat.le_of_ble_eq_true rfl, Nat.le_of_ble_eq_true rfl⟩ rfl hl.1 rfl (Nat.le_of_ble_eq_true rfl) dX12_tellPath_7 (fun a => (sh_M_steps N h2 a x1)) ⟨by decide, by decide⟩ e1 (fun v3 h4 H locs w hsh4 e2 => ?_)
  refine lv_istore_n (lv' := [(3, .int v3), (0, .ref th), (1, .int x1), (2, .int x2)]) hx hb dX12_tellPath_10 rfl hl (by decide) rfl (fun ls hl => ?_)
  refine lv_aload_n hx hb dX12_tellPath_11 rfl (lv_at hl 1 rfl) ?_
  refine w_gR (r := some th) (ci := 0) (k := 30) C w rfl (by decide) (GF_wsX120 _) (by decide) rfl (List.mem_cons_of_mem _ gw_7_15) rfl dX12_tellPath_12 e2 (fun v5 e3 => ?_)
  refine lv_iload_n hx hb dX12_tellPath_15 rfl (lv_at hl 0 rfl) ?_
  refine lv_iload_n hx hb dX12_tellPath_16 rfl (lv_at hl 3 rfl) ?_
  refine w_uI (r := v5) C w dX12_tellPath_17 e3 (fun h6 H locs w hsh6 e4 => ?_)
  refine lv_iload_n hx hb dX12_tellPath_18 rfl (lv_at hl 0 rfl) ?_
  refine lv_iconst (v := 1) hx hb dX12_tellPath_19 (by decide) ?_
  refine lv_isub hx hb dX12_tellPath_20 ?_
  refine w_bnI e4 (fun v7 e5 => ?_)
  refine lv_istore (lv' := [(4, .int v7), (3, .int v3), (0, .ref th), (1, .int x1), (2, .int x2)]) hx hb dX12_tellPath_21 hl (by decide) rfl (fun ls hl => ?_)
  exact b_M_tellPath_23 C N   N  h6 th x1 v7 _ _ ls w  (lv_sub hl [2, 3, 0] rfl) e5
set_option maxRecDepth 20000 in
set_option maxHeartbeats 4000000 in
theorem b_M_path_28 {p : Program} {l : Launch} {e : Env} {s : State} {m : MethodId} {args : Array Value} {below : List Frame} {meth : Method} {c : Code} {D : va_G} {cy : cyT} {z : Nat} (C : MX p s m args meth c cX12_path 4 ((some .int)) RX12 (Cond.code yX12_path cX12_path 4 ((some .int)) :: GW)) (N : Nat) {r : Int32} {g : hS}  : ∀  (h : hS) (th : Nat) (H : Heap) (locs : List Loc) (ls : Array Slot), wd D cy z s 0 h H locs → lv_has ls 4 [(0, .ref th)] → f_M_path_28 N   h th = some (r, g) → W p l e { frames := 8, cells := 0, slots := 0, locals := 220 } s m args below meth c H locs 0 0 (MQ below (eQ D cy z (rI r) g) args s 0 0 (fun q => z ≤ q)) (F0 m 28 ls []) := by
  obtain ⟨hx, hb, hr, hml, hown, hts, hlk⟩ := id C
  intro  h th H locs ls w  hl hE
  unfold f_M_path_28 at hE
  refine lv_aload_n hx hb dX12_path_28 rfl (lv_at hl 0 rfl) ?_
  refine lv_iconst (v := 1) hx hb dX12_path_29 (by decide) ?_
  refine w_VI GW_good (n := 1) (F := 0) (Lc := 0) (o := some th) (av := [.int (1 : Int32)]) (rest := []) C w rfl (by decide) (fun a r g hf => k_M_fail l D cy z N h a (1 : Int32) r g hf) gw_25_4 gw_25_5 gw_25_6 gw_1_5 gw_25_7 (by decide +kernel) ⟨Nat.le_of_ble_eq_true rfl, Nat.le_of_ble_eq_true rfl⟩ rfl hl.1 rfl (Nat.le_of_ble_eq_true rfl) dX12_path_30 (fun a => (sh_M_fail N h a (1 : Int32))) ⟨by decide, by decide⟩ hE (fun v1 h2 H locs w hsh2 e1 => ?_)
  exact w_iret C w e1 dX12_path_33
set_option maxRecDepth 20000 in
set_option maxHeartbeats 4000000 in
theorem k_M_path (l : Launch) (D : va_G) (cy : cyT) (z : Nat) (N : Nat) (h : hS) (th : Nat) (x1 : Int32) (x2 : Int32) (x3 : Int32) (r : Int32) (g : hS) (hE : f_M_path N h th x1 x2 x3 = some (r, g)) : ct l yX12_path (Cond.code yX12_path cX12_path 4 ((some .int)) :: GW) { frames := 8, cells := 0, slots := 0, locals := 220 } D cy z h [.ref th, .int x1, .int x2, .int x3] (rI r) g := by
  refine Met.ofW (cc := cX12_path) (maxL := 4) (ret := (some .int)) (by decide) rfl ?_
  intro p e s m args below meth c s₁ B hml hv
  obtain ⟨rfl, hw⟩ := hv
  have C : MX p s m ([.ref th, .int x1, .int x2, .int x3] : List Value).toArray meth c cX12_path 4 ((some .int)) RX12 (Cond.code yX12_path cX12_path 4 ((some .int)) :: GW) := ⟨B.exec, B.bytes, B.returns, hml, findClass_of_methodNamed B.named, atoms_spec (ws := Cond.code yX12_path cX12_path 4 ((some .int)) :: GW) B.pre, B.notSynchronized⟩
  obtain ⟨hx, hb, hr, hml, hown, hts, hlk⟩ := id C
  have w := wd_of hw
  obtain ⟨ls, hen, hl⟩ : ∃ ls : Array Slot, entryFrame m ([.ref th, .int x1, .int x2, .int x3] : List Value).toArray 4 = F0 m 0 ls [] ∧ lv_has ls 4 [(0, .ref th), (1, .int x1), (2, .int x2), (3, .int x3)] := by
    exact ⟨_, lg_entry_eq _ _ _, lv_entry _ (Nat.le_of_ble_eq_true rfl)⟩
  rw [hen]
  unfold f_M_path at hE
  refine lv_aload_n hx hb dX12_path_0 rfl (lv_at hl 0 rfl) ?_
  refine lv_iconst (v := 0) hx hb dX12_path_1 (by decide) ?_
  refine w_pI (r := some th) (ci := 0) (k := 1) C w rfl (by decide) (by unfold roK; omega) (GF_wsX120 _) tyX12 tyX12_ok nmX12 (by decide) rfl (List.mem_cons_of_mem _ gw_8_18) rfl rfl (tyX12_ok 1 (by decide)) dX12_path_2 hE (fun h1 H locs w hsh1 e1 => ?_)
  refine lv_aload_n hx hb dX12_path_5 rfl (lv_at hl 0 rfl) ?_
  refine lv_iload_n hx hb dX12_path_6 rfl (lv_at hl 1 rfl) ?_
  refine w_VI GW_good (n := 1) (F := 1) (Lc := 25) (o := some th) (av := [.int x1]) (rest := []) C w rfl (by decide) (fun a r g hf => k_M_isCost l D cy z N h1 a x1 r g hf) gw_24_20 gw_24_21 gw_24_22 gw_1_5 gw_24_23 (by decide +kernel) ⟨Nat.le_of_ble_eq_true rfl, Nat.le_of_ble_eq_true rfl⟩ rfl hl.1 rfl (Nat.le_of_ble_eq_true rfl) dX12_path_7 (fun a => (sh_M_isCost N h1 a x1)) ⟨by decide, by decide⟩ e1 (fun v2 h3 H locs w hsh3 e2 => ?_)
  refine w_if_eq (tgt := 28) C dX12_path_10 (by decide) e2 (fun hc e3 => ?_) (fun hc e3 => ?_)
  · exact b_M_path_28 C N     h3 th _ _ ls w  (lv_sub hl [0] rfl) e3
  · refine lv_iload_n hx hb dX12_path_13 rfl (lv_at hl 3 rfl) ?_
    refine lv_i2l hx hb dX12_path_14 rfl ?_
    refine lv_lconst (v := 0) hx hb dX12_path_15 (by decide) ?_
    refine lv_aload_n hx hb dX12_path_16 rfl (lv_at hl 0 rfl) ?_
    refine lv_iload_n hx hb dX12_path_17 rfl (lv_at hl 1 rfl) ?_
    refine w_VI GW_good (n := 1) (F := 0) (Lc := 0) (o := some th) (av := [.int x1]) (rest := [.long (0 : Int64), .long x3.toInt64]) C w rfl (by decide) (fun a r g hf => k_M_steps l D cy z N h3 a x1 r g hf) gw_33_18 gw_33_19 gw_33_20 gw_1_5 gw_33_21 (by decide +kernel) ⟨Nat.le_of_ble_eq_true rfl, Nat.le_of_ble_eq_true rfl⟩ rfl hl.1 rfl (Nat.le_of_ble_eq_true rfl) dX12_path_18 (fun a => (sh_M_steps N h3 a x1)) ⟨by decide, by decide⟩ e3 (fun v4 h5 H locs w hsh5 e4 => ?_)
    refine lv_i2l hx hb dX12_path_21 rfl ?_
    refine w_SI GW_good (n := 3) (F := 0) (Lc := 0) (av := [.long x3.toInt64, .long (0 : Int64), .long v4.toInt64]) (rest := []) C w (fun r g hf => k_M_isIn l D cy z N h5 x3.toInt64 (0 : Int64) v4.toInt64 r g hf) gw_25_1 gw_25_2 gw_1_5 gw_25_3 (by decide +kernel) ⟨Nat.le_of_ble_eq_true rfl, Nat.le_of_ble_eq_true rfl⟩ rfl hl.1 rfl (Nat.le_of_ble_eq_true rfl) dX12_path_22 (sh_M_isIn N h5 x3.toInt64 (0 : Int64) v4.toInt64) ⟨by decide, by decide⟩ e4 (fun v6 h7 H locs w hsh7 e5 => ?_)
    refine w_if_ne (tgt := 34) C dX12_path_25 (by decide) e5 (fun hc e6 => ?_) (fun hc e6 => ?_)
    · refine lv_iload_n hx hb dX12_path_34 rfl (lv_at hl 2 rfl) ?_
      refine w_SI GW_good (n := 1) (F := 1) (Lc := 25) (av := [.int x2]) (rest := []) C w (fun r g hf => k_M_isX l D cy z N h7 x2 r g hf) gw_34_22 gw_34_23 gw_1_5 gw_35_0 (by decide +kernel) ⟨Nat.le_of_ble_eq_true rfl, Nat.le_of_ble_eq_true rfl⟩ rfl hl.1 rfl (Nat.le_of_ble_eq_true rfl) dX12_path_35 (sh_M_isX N h7 x2) ⟨by decide, by decide⟩ e6 (fun v8 h9 H locs w hsh9 e7 => ?_)
      refine w_if_ne (tgt := 47) C dX12_path_38 (by decide) e7 (fun hc e8 => ?_) (fun hc e8 => ?_)
      · refine lv_aload_n hx hb dX12_path_47 rfl (lv_at hl 0 rfl) ?_
        refine lv_iload_n hx hb dX12_path_48 rfl (lv_at hl 1 rfl) ?_
        refine lv_iload_n hx hb dX12_path_49 rfl (lv_at hl 2 rfl) ?_
        refine w_VV GW_good (n := 2) (F := 7) (Lc := 193) (o := some th) (av := [.int x1, .int x2]) (rest := []) C w rfl (by decide) (fun a r g hf => k_M_tellPath l D cy z N h9 a x1 x2 r g hf) gw_40_14 gw_40_15 gw_40_16 gw_1_5 gw_40_17 (by decide +kernel) ⟨Nat.le_of_ble_eq_true rfl, Nat.le_of_ble_eq_true rfl⟩ rfl hl.1 rfl (Nat.le_of_ble_eq_true rfl) dX12_path_50 (fun a => (sh_M_tellPath N h9 a x1 x2)) ⟨by decide, by decide⟩ e8 (fun v10 h11 H locs w hsh11 e9 => ?_)
        refine lv_aload_n hx hb dX12_path_53 rfl (lv_at hl 0 rfl) ?_
        refine w_gR (r := some th) (ci := 0) (k := 30) C w rfl (by decide) (GF_wsX120 _) (by decide) rfl (List.mem_cons_of_mem _ gw_7_15) rfl dX12_path_54 e9 (fun v12 e10 => ?_)
        refine lv_iload_n hx hb dX12_path_57 rfl (lv_at hl 3 rfl) ?_
        refine w_aI (r := v12) C w dX12_path_58 e10 (fun v13 e11 => ?_)
        exact w_iret C w e11 dX12_path_59
      · refine lv_aload_n hx hb dX12_path_41 rfl (lv_at hl 0 rfl) ?_
        refine lv_iconst (v := 2) hx hb dX12_path_42 (by decide) ?_
        refine w_VI GW_good (n := 1) (F := 0) (Lc := 0) (o := some th) (av := [.int (2 : Int32)]) (rest := []) C w rfl (by decide) (fun a r g hf => k_M_fail l D cy z N h9 a (2 : Int32) r g hf) gw_25_4 gw_25_5 gw_25_6 gw_1_5 gw_25_7 (by decide +kernel) ⟨Nat.le_of_ble_eq_true rfl, Nat.le_of_ble_eq_true rfl⟩ rfl hl.1 rfl (Nat.le_of_ble_eq_true rfl) dX12_path_43 (fun a => (sh_M_fail N h9 a (2 : Int32))) ⟨by decide, by decide⟩ e8 (fun v14 h15 H locs w hsh15 e12 => ?_)
        exact w_iret C w e12 dX12_path_46
    · exact b_M_path_28 C N     h7 th _ _ ls w  (lv_sub hl [0] rfl) e6
set_option maxRecDepth 20000 in
set_option maxHeartbeats 4000000 in
theorem b_M_paid_191 {p : Program} {l : Launch} {e : Env} {s : State} {m : MethodId} {args : Array Value} {below : List Frame} {meth : Method} {c : Code} {D : va_G} {cy : cyT} {z : Nat} (C : MX p s m args meth c cX12_paid 8 ((some .long)) RX12 (Cond.code yX12_paid cX12_paid 8 ((some .long)) :: GW)) (N : Nat) {r : Int64} {g : hS}  : ∀  (h : hS)  (H : Heap) (locs : List Loc) (ls : Array Slot), wd D cy z s 0 h H locs → lv_has ls 8 [] → f_M_paid_191 N   h  = some (r, g) → W p l e { frames := 8, cells := 0, slots := 0, locals := 220 } s m args below meth c H locs 0 0 (MQ below (eQ D cy z (rJ r) g) args s 0 0 (fun q => z ≤ q)) (F0 m 191 ls []) := by
  obtain ⟨hx, hb, hr, hml, hown, hts, hlk⟩ := id C
  intro  h  H locs ls w  hl hE
  unfold f_M_paid_191 at hE
  refine lv_lconst (v := 0) hx hb dX12_paid_191 (by decide) ?_
  exact w_lret C w hE dX12_paid_192
set_option maxRecDepth 20000 in
set_option maxHeartbeats 4000000 in
theorem k_M_paid (l : Launch) (D : va_G) (cy : cyT) (z : Nat) (N : Nat) (h : hS) (th : Nat) (x1 : Int32) (x2 : Int32) (x3 : Int32) (r : Int64) (g : hS) (hE : f_M_paid N h th x1 x2 x3 = some (r, g)) : ct l yX12_paid (Cond.code yX12_paid cX12_paid 8 ((some .long)) :: GW) { frames := 8, cells := 0, slots := 0, locals := 220 } D cy z h [.ref th, .int x1, .int x2, .int x3] (rJ r) g := by
  refine Met.ofW (cc := cX12_paid) (maxL := 8) (ret := (some .long)) (by decide) rfl ?_
  intro p e s m args below meth c s₁ B hml hv
  obtain ⟨rfl, hw⟩ := hv
  have C : MX p s m ([.ref th, .int x1, .int x2, .int x3] : List Value).toArray meth c cX12_paid 8 ((some .long)) RX12 (Cond.code yX12_paid cX12_paid 8 ((some .long)) :: GW) := ⟨B.exec, B.bytes, B.returns, hml, findClass_of_methodNamed B.named, atoms_spec (ws := Cond.code yX12_paid cX12_paid 8 ((some .long)) :: GW) B.pre, B.notSynchronized⟩
  obtain ⟨hx, hb, hr, hml, hown, hts, hlk⟩ := id C
  have w := wd_of hw
  obtain ⟨ls, hen, hl⟩ : ∃ ls : Array Slot, entryFrame m ([.ref th, .int x1, .int x2, .int x3] : List Value).toArray 8 = F0 m 0 ls [] ∧ lv_has ls 8 [(0, .ref th), (1, .int x1), (2, .int x2), (3, .int x3)] := by
    exact ⟨_, lg_entry_eq _ _ _, lv_entry _ (Nat.le_of_ble_eq_true rfl)⟩
  rw [hen]
  unfold f_M_paid at hE
  refine lv_aload_n hx hb dX12_paid_0 rfl (lv_at hl 0 rfl) ?_
  refine lv_iconst (v := 0) hx hb dX12_paid_1 (by decide) ?_
  refine w_pI (r := some th) (ci := 0) (k := 1) C w rfl (by decide) (by unfold roK; omega) (GF_wsX120 _) tyX12 tyX12_ok nmX12 (by decide) rfl (List.mem_cons_of_mem _ gw_8_18) rfl rfl (tyX12_ok 1 (by decide)) dX12_paid_2 hE (fun h1 H locs w hsh1 e1 => ?_)
  refine lv_aload_n hx hb dX12_paid_5 rfl (lv_at hl 0 rfl) ?_
  refine lv_iload_n hx hb dX12_paid_6 rfl (lv_at hl 1 rfl) ?_
  refine lv_iload_n hx hb dX12_paid_7 rfl (lv_at hl 3 rfl) ?_
  refine w_VI GW_good (n := 2) (F := 2) (Lc := 46) (o := some th) (av := [.int x1, .int x3]) (rest := []) C w rfl (by decide) (fun a r g hf => k_M_isStep l D cy z N h1 a x1 x3 r g hf) gw_33_14 gw_33_15 gw_33_16 gw_1_5 gw_33_17 (by decide +kernel) ⟨Nat.le_of_ble_eq_true rfl, Nat.le_of_ble_eq_true rfl⟩ rfl hl.1 rfl (Nat.le_of_ble_eq_true rfl) dX12_paid_8 (fun a => (sh_M_isStep N h1 a x1 x3)) ⟨by decide, by decide⟩ e1 (fun v2 h3 H locs w hsh3 e2 => ?_)
  refine w_if_ne (tgt := 21) C dX12_paid_11 (by decide) e2 (fun hc e3 => ?_) (fun hc e3 => ?_)
  · refine lv_iload_n hx hb dX12_paid_21 rfl (lv_at hl 2 rfl) ?_
    refine w_SI GW_good (n := 1) (F := 1) (Lc := 25) (av := [.int x2]) (rest := []) C w (fun r g hf => k_M_isX l D cy z N h3 x2 r g hf) gw_34_22 gw_34_23 gw_1_5 gw_35_0 (by decide +kernel) ⟨Nat.le_of_ble_eq_true rfl, Nat.le_of_ble_eq_true rfl⟩ rfl hl.1 rfl (Nat.le_of_ble_eq_true rfl) dX12_paid_22 (sh_M_isX N h3 x2) ⟨by decide, by decide⟩ e3 (fun v4 h5 H locs w hsh5 e4 => ?_)
    refine w_if_ne (tgt := 35) C dX12_paid_25 (by decide) e4 (fun hc e5 => ?_) (fun hc e5 => ?_)
    · refine lv_aload_n hx hb dX12_paid_35 rfl (lv_at hl 0 rfl) ?_
      refine lv_iload_n hx hb dX12_paid_36 rfl (lv_at hl 1 rfl) ?_
      refine lv_iload_n hx hb dX12_paid_37 rfl (lv_at hl 2 rfl) ?_
      refine w_VV GW_good (n := 2) (F := 7) (Lc := 193) (o := some th) (av := [.int x1, .int x2]) (rest := []) C w rfl (by decide) (fun a r g hf => k_M_tellPath l D cy z N h5 a x1 x2 r g hf) gw_40_14 gw_40_15 gw_40_16 gw_1_5 gw_40_17 (by decide +kernel) ⟨Nat.le_of_ble_eq_true rfl, Nat.le_of_ble_eq_true rfl⟩ rfl hl.1 rfl (Nat.le_of_ble_eq_true rfl) dX12_paid_38 (fun a => (sh_M_tellPath N h5 a x1 x2)) ⟨by decide, by decide⟩ e5 (fun v6 h7 H locs w hsh7 e6 => ?_)
      refine lv_aload_n hx hb dX12_paid_41 rfl (lv_at hl 0 rfl) ?_
      refine lv_iload_n hx hb dX12_paid_42 rfl (lv_at hl 1 rfl) ?_
      refine lv_iload_n hx hb dX12_paid_43 rfl (lv_at hl 3 rfl) ?_
      refine lv_iconst (v := 1) hx hb dX12_paid_44 (by decide) ?_
      refine w_VI GW_good (n := 3) (F := 0) (Lc := 0) (o := some th) (av := [.int x1, .int x3, .int (1 : Int32)]) (rest := []) C w rfl (by decide) (fun a r g hf => k_M_stepAt l D cy z N h7 a x1 x3 (1 : Int32) r g hf) gw_33_22 gw_33_23 gw_34_0 gw_1_5 gw_34_1 (by decide +kernel) ⟨Nat.le_of_ble_eq_true rfl, Nat.le_of_ble_eq_true rfl⟩ rfl hl.1 rfl (Nat.le_of_ble_eq_true rfl) dX12_paid_45 (fun a => (sh_M_stepAt N h7 a x1 x3 (1 : Int32))) ⟨by decide, by decide⟩ e6 (fun v8 h9 H locs w hsh9 e7 => ?_)
      refine lv_istore (lv' := [(4, .int v8), (0, .ref th), (1, .int x1), (2, .int x2), (3, .int x3)]) hx hb dX12_paid_48 hl (by decide) rfl (fun ls hl => ?_)
      refine lv_aload_n hx hb dX12_paid_50 rfl (lv_at hl 1 rfl) ?_
      refine lv_iload_n hx hb dX12_paid_51 rfl (lv_at hl 2 rfl) ?_
      refine lv_iload_n hx hb dX12_paid_52 rfl (lv_at hl 4 rfl) ?_
      refine lv_iconst (v := 2) hx hb dX12_paid_53 (by decide) ?_
      refine w_VI GW_good (n := 3) (F := 0) (Lc := 0) (o := some th) (av := [.int x1, .int x3, .int (2 : Int32)]) (rest := []) C w rfl (by decide) (fun a r g hf => k_M_stepAt l D cy z N h9 a x1 x3 (2 : Int32) r g hf) gw_33_22 gw_33_23 gw_34_0 gw_1_5 gw_34_1 (by decide +kernel) ⟨Nat.le_of_ble_eq_true rfl, Nat.le_of_ble_eq_true rfl⟩ rfl hl.1 rfl (Nat.le_of_ble_eq_true rfl) dX12_paid_54 (fun a => (sh_M_stepAt N h9 a x1 x3 (2 : Int32))) ⟨by decide, by decide⟩ e7 (fun v10 h11 H locs w hsh11 e8 => ?_)
      refine lv_i2l hx hb dX12_paid_57 rfl ?_
      refine w_bnJ e8 (fun v12 e9 => ?_)
      refine lv_lstore (lv' := [(5, .long v12), (4, .int v8), (0, .ref th), (1, .int x1), (2, .int x2), (3, .int x3)]) hx hb dX12_paid_58 hl (by decide) rfl (fun ls hl => ?_)
      refine lv_aload_n hx hb dX12_paid_60 rfl (lv_at hl 2 rfl) ?_
      refine w_gR (r := some th) (ci := 0) (k := 30) C w rfl (by decide) (GF_wsX120 _) (by decide) rfl (List.mem_cons_of_mem _ gw_7_15) rfl dX12_paid_61 e9 (fun v13 e10 => ?_)
      refine lv_iload_n hx hb dX12_paid_64 rfl (lv_at hl 5 rfl) ?_
      refine lv_iconst (v := 1) hx hb dX12_paid_65 (by decide) ?_
      refine lv_iadd hx hb dX12_paid_66 ?_
      refine w_aI (r := v13) C w dX12_paid_67 e10 (fun v14 e11 => ?_)
      refine lv_istore (lv' := [(7, .int v14), (5, .long v12), (4, .int v8), (0, .ref th), (1, .int x1), (2, .int x2), (3, .int x3)]) hx hb dX12_paid_68 hl (by decide) rfl (fun ls hl => ?_)
      refine lv_aload_n hx hb dX12_paid_70 rfl (lv_at hl 3 rfl) ?_
      refine lv_iload_n hx hb dX12_paid_71 rfl (lv_at hl 4 rfl) ?_
      refine lv_iload_n hx hb dX12_paid_72 rfl (lv_at hl 6 rfl) ?_
      refine lv_iconst (v := 0) hx hb dX12_paid_73 (by decide) ?_
      refine w_VI GW_good (n := 3) (F := 0) (Lc := 0) (o := some th) (av := [.int x1, .int x3, .int (0 : Int32)]) (rest := []) C w rfl (by decide) (fun a r g hf => k_M_stepAt l D cy z N h11 a x1 x3 (0 : Int32) r g hf) gw_33_22 gw_33_23 gw_34_0 gw_1_5 gw_34_1 (by decide +kernel) ⟨Nat.le_of_ble_eq_true rfl, Nat.le_of_ble_eq_true rfl⟩ rfl hl.1 rfl (Nat.le_of_ble_eq_true rfl) dX12_paid_74 (fun a => (sh_M_stepAt N h11 a x1 x3 (0 : Int32))) ⟨by decide, by decide⟩ e11 (fun v15 h16 H locs w hsh16 e12 => ?_)
      refine w_case e12 (fun hc e13 => ?_) (fun nc77_0 e13 => ?_)
      · refine w_tin (tgt := 128) C hc dX12_paid_77 (by decide) (by decide) rfl (by decide) ?_
        refine lv_lload hx hb dX12_paid_128 (lv_at hl 1 rfl) ?_
        refine lv_iload hx hb dX12_paid_130 (lv_at hl 0 rfl) ?_
        refine lv_iload hx hb dX12_paid_132 (lv_at hl 2 rfl) ?_
        refine lv_isub hx hb dX12_paid_134 ?_
        refine w_mabs C hl.1 (List.mem_cons_of_mem _ gw_41_17) (List.mem_cons_of_mem _ gw_41_6) (List.mem_cons_of_mem _ gw_10_7) (List.mem_cons_of_mem _ gw_41_7) (Nat.le_of_ble_eq_true rfl) (Nat.le_of_ble_eq_true rfl) (by decide) (by decide) dX12_paid_135 ?_
        refine lv_i2l hx hb dX12_paid_138 rfl ?_
        refine lv_lmul hx hb dX12_paid_139 ?_
        exact w_lret C w e13 dX12_paid_140
      ·
        refine w_case e13 (fun hc e14 => ?_) (fun nc77_1 e14 => ?_)
        · refine w_tin (tgt := 141) C hc dX12_paid_77 (by decide) (by decide) rfl (by decide) ?_
          refine lv_lload hx hb dX12_paid_141 (lv_at hl 1 rfl) ?_
          refine lv_iconst (v := 0) hx hb dX12_paid_143 (by decide) ?_
          refine lv_iload hx hb dX12_paid_144 (lv_at hl 0 rfl) ?_
          refine lv_iload hx hb dX12_paid_146 (lv_at hl 2 rfl) ?_
          refine lv_isub hx hb dX12_paid_148 ?_
          refine w_mmax C hl.1 (List.mem_cons_of_mem _ gw_30_14) (List.mem_cons_of_mem _ gw_30_15) (List.mem_cons_of_mem _ gw_10_7) (List.mem_cons_of_mem _ gw_30_16) (Nat.le_of_ble_eq_true rfl) (Nat.le_of_ble_eq_true rfl) (by decide) (by decide) dX12_paid_149 ?_
          refine lv_i2l hx hb dX12_paid_152 rfl ?_
          refine lv_lmul hx hb dX12_paid_153 ?_
          exact w_lret C w e14 dX12_paid_154
        ·
          refine w_case e14 (fun hc e15 => ?_) (fun nc77_2 e15 => ?_)
          · refine w_tin (tgt := 155) C hc dX12_paid_77 (by decide) (by decide) rfl (by decide) ?_
            refine lv_lload hx hb dX12_paid_155 (lv_at hl 1 rfl) ?_
            refine lv_iconst (v := 0) hx hb dX12_paid_157 (by decide) ?_
            refine lv_iload hx hb dX12_paid_158 (lv_at hl 2 rfl) ?_
            refine lv_iload hx hb dX12_paid_160 (lv_at hl 0 rfl) ?_
            refine lv_isub hx hb dX12_paid_162 ?_
            refine w_mmax C hl.1 (List.mem_cons_of_mem _ gw_30_14) (List.mem_cons_of_mem _ gw_30_15) (List.mem_cons_of_mem _ gw_10_7) (List.mem_cons_of_mem _ gw_30_16) (Nat.le_of_ble_eq_true rfl) (Nat.le_of_ble_eq_true rfl) (by decide) (by decide) dX12_paid_163 ?_
            refine lv_i2l hx hb dX12_paid_166 rfl ?_
            refine lv_lmul hx hb dX12_paid_167 ?_
            exact w_lret C w e15 dX12_paid_168
          ·
            refine w_case e15 (fun hc e16 => ?_) (fun nc77_3 e16 => ?_)
            · refine w_tin (tgt := 191) C hc dX12_paid_77 (by decide) (by decide) rfl (by decide) ?_
              exact b_M_paid_191 C N     h16  _ _ ls w  (lv_sub hl [] rfl) e16
            ·
              refine w_case e16 (fun hc e17 => ?_) (fun nc77_4 e17 => ?_)
              · refine w_tin (tgt := 191) C hc dX12_paid_77 (by decide) (by decide) rfl (by decide) ?_
                exact b_M_paid_191 C N     h16  _ _ ls w  (lv_sub hl [] rfl) e17
              ·
                refine w_case e17 (fun hc e18 => ?_) (fun nc77_5 e18 => ?_)
                · refine w_tin (tgt := 191) C hc dX12_paid_77 (by decide) (by decide) rfl (by decide) ?_
                  exact b_M_paid_191 C N     h16  _ _ ls w  (lv_sub hl [] rfl) e18
                ·
                  refine w_case e18 (fun hc e19 => ?_) (fun nc77_6 e19 => ?_)
                  · refine w_tin (tgt := 191) C hc dX12_paid_77 (by decide) (by decide) rfl (by decide) ?_
                    exact b_M_paid_191 C N     h16  _ _ ls w  (lv_sub hl [] rfl) e19
                  ·
                    refine w_case e19 (fun hc e20 => ?_) (fun nc77_7 e20 => ?_)
                    · refine w_tin (tgt := 169) C hc dX12_paid_77 (by decide) (by decide) rfl (by decide) ?_
                      refine lv_iload hx hb dX12_paid_169 (lv_at hl 2 rfl) ?_
                      refine lv_i2l hx hb dX12_paid_171 rfl ?_
                      exact w_lret C w e20 dX12_paid_172
                    ·
                      refine w_case e20 (fun hc e21 => ?_) (fun nc77_8 e21 => ?_)
                      · refine w_tin (tgt := 173) C hc dX12_paid_77 (by decide) (by decide) rfl (by decide) ?_
                        refine lv_aload_n hx hb dX12_paid_173 rfl (lv_at hl 3 rfl) ?_
                        refine w_gR (r := some th) (ci := 0) (k := 7) C w rfl (by decide) (GF_wsX120 _) (by decide) rfl (List.mem_cons_of_mem _ gw_7_3) rfl dX12_paid_174 e21 (fun v17 e22 => ?_)
                        refine lv_aload_n hx hb dX12_paid_177 rfl (lv_at hl 3 rfl) ?_
                        refine lv_iload_n hx hb dX12_paid_178 rfl (lv_at hl 4 rfl) ?_
                        refine lv_iload_n hx hb dX12_paid_179 rfl (lv_at hl 6 rfl) ?_
                        refine lv_iconst (v := 3) hx hb dX12_paid_180 (by decide) ?_
                        refine w_VI GW_good (n := 3) (F := 0) (Lc := 0) (o := some th) (av := [.int x1, .int x3, .int (3 : Int32)]) (rest := [va_rf v17]) C w rfl (by decide) (fun a r g hf => k_M_stepAt l D cy z N h16 a x1 x3 (3 : Int32) r g hf) gw_33_22 gw_33_23 gw_34_0 gw_1_5 gw_34_1 (by decide +kernel) ⟨Nat.le_of_ble_eq_true rfl, Nat.le_of_ble_eq_true rfl⟩ rfl hl.1 rfl (cat_le (Nat.le_of_ble_eq_true rfl)) dX12_paid_181 (fun a => (sh_M_stepAt N h16 a x1 x3 (3 : Int32))) ⟨by decide, by decide⟩ e22 (fun v18 h19 H locs w hsh19 e23 => ?_)
                        refine w_aR60 (r := v17) C w dX12_paid_184 e23 (fun v20 e24 => ?_)
                        refine lv_iload hx hb dX12_paid_185 (lv_at hl 0 rfl) ?_
                        obtain ⟨q21, eq21, e25⟩ := nn_some e24
                        subst eq21
                        refine w_SJ GW_good (n := 2) (F := 1) (Lc := 44) (av := [.ref q21, .int v14]) (rest := []) C w (fun r g hf => k_M_valueAt l D cy z N h19 q21 v14 r g hf) gw_30_7 gw_30_8 gw_1_5 gw_30_9 (by decide +kernel) ⟨Nat.le_of_ble_eq_true rfl, Nat.le_of_ble_eq_true rfl⟩ rfl hl.1 rfl (Nat.le_of_ble_eq_true rfl) dX12_paid_187 (sh_M_valueAt N h19 q21 v14) ⟨by decide, by decide⟩ e25 (fun v22 h23 H locs w hsh23 e26 => ?_)
                        exact w_lret C w e26 dX12_paid_190
                      ·
                        refine w_tout (tgt := 191) 0 9 C (by decide) (by intro k hk; rcases (show k = 0 ∨ k = 1 ∨ k = 2 ∨ k = 3 ∨ k = 4 ∨ k = 5 ∨ k = 6 ∨ k = 7 ∨ k = 8 by omega) with rfl | rfl | rfl | rfl | rfl | rfl | rfl | rfl | rfl; all_goals assumption) rfl rfl dX12_paid_77 (by decide) ?_
                        exact b_M_paid_191 C N     h16  _ _ ls w  (lv_sub hl [] rfl) e21
    · refine lv_aload_n hx hb dX12_paid_28 rfl (lv_at hl 0 rfl) ?_
      refine lv_iconst (v := 2) hx hb dX12_paid_29 (by decide) ?_
      refine w_VI GW_good (n := 1) (F := 0) (Lc := 0) (o := some th) (av := [.int (2 : Int32)]) (rest := []) C w rfl (by decide) (fun a r g hf => k_M_fail l D cy z N h5 a (2 : Int32) r g hf) gw_25_4 gw_25_5 gw_25_6 gw_1_5 gw_25_7 (by decide +kernel) ⟨Nat.le_of_ble_eq_true rfl, Nat.le_of_ble_eq_true rfl⟩ rfl hl.1 rfl (Nat.le_of_ble_eq_true rfl) dX12_paid_30 (fun a => (sh_M_fail N h5 a (2 : Int32))) ⟨by decide, by decide⟩ e5 (fun v24 h25 H locs w hsh25 e27 => ?_)
      refine lv_i2l hx hb dX12_paid_33 rfl ?_
      exact w_lret C w e27 dX12_paid_34
  · refine lv_aload_n hx hb dX12_paid_14 rfl (lv_at hl 0 rfl) ?_
    refine lv_iconst (v := 1) hx hb dX12_paid_15 (by decide) ?_
    refine w_VI GW_good (n := 1) (F := 0) (Lc := 0) (o := some th) (av := [.int (1 : Int32)]) (rest := []) C w rfl (by decide) (fun a r g hf => k_M_fail l D cy z N h3 a (1 : Int32) r g hf) gw_25_4 gw_25_5 gw_25_6 gw_1_5 gw_25_7 (by decide +kernel) ⟨Nat.le_of_ble_eq_true rfl, Nat.le_of_ble_eq_true rfl⟩ rfl hl.1 rfl (Nat.le_of_ble_eq_true rfl) dX12_paid_16 (fun a => (sh_M_fail N h3 a (1 : Int32))) ⟨by decide, by decide⟩ e3 (fun v26 h27 H locs w hsh27 e28 => ?_)
    refine lv_i2l hx hb dX12_paid_19 rfl ?_
    exact w_lret C w e28 dX12_paid_20
set_option maxRecDepth 20000 in
set_option maxHeartbeats 4000000 in
theorem b_M_stretch_34 {p : Program} {l : Launch} {e : Env} {s : State} {m : MethodId} {args : Array Value} {below : List Frame} {meth : Method} {c : Code} {D : va_G} {cy : cyT} {z : Nat} (C : MX p s m args meth c cX12_stretch 5 ((some .int)) RX12 (Cond.code yX12_stretch cX12_stretch 5 ((some .int)) :: GW)) (N : Nat) {r : Int32} {g : hS}  : ∀  (h : hS) (y0 : Option Nat) (y1 : Int32) (H : Heap) (locs : List Loc) (ls : Array Slot), wd D cy z s 0 h H locs → lv_has ls 5 [] → f_M_stretch_34 N   h y0 y1 = some (r, g) → W p l e { frames := 8, cells := 0, slots := 0, locals := 220 } s m args below meth c H locs 0 0 (MQ below (eQ D cy z (rI r) g) args s 0 0 (fun q => z ≤ q)) (F0 m 34 ls [.int y1, va_rf y0]) := by
  obtain ⟨hx, hb, hr, hml, hown, hts, hlk⟩ := id C
  intro  h y0 y1 H locs ls w  hl hE
  unfold f_M_stretch_34 at hE
  refine w_VI GW_good (n := 1) (F := 0) (Lc := 0) (o := y0) (av := [.int y1]) (rest := []) C w rfl (by decide) (fun a r g hf => k_M_fail l D cy z N h a y1 r g hf) gw_25_4 gw_25_5 gw_25_6 gw_1_5 gw_25_7 (by decide +kernel) ⟨Nat.le_of_ble_eq_true rfl, Nat.le_of_ble_eq_true rfl⟩ rfl hl.1 rfl (Nat.le_of_ble_eq_true rfl) dX12_stretch_34 (fun a => (sh_M_fail N h a y1)) ⟨by decide, by decide⟩ hE (fun v1 h2 H locs w hsh2 e1 => ?_)
  exact w_iret C w e1 dX12_stretch_37
set_option maxRecDepth 20000 in
set_option maxHeartbeats 4000000 in
theorem b_M_stretch_20 {p : Program} {l : Launch} {e : Env} {s : State} {m : MethodId} {args : Array Value} {below : List Frame} {meth : Method} {c : Code} {D : va_G} {cy : cyT} {z : Nat} (C : MX p s m args meth c cX12_stretch 5 ((some .int)) RX12 (Cond.code yX12_stretch cX12_stretch 5 ((some .int)) :: GW)) (N : Nat) {r : Int32} {g : hS}  : ∀  (h : hS) (th : Nat) (x1 : Int32) (H : Heap) (locs : List Loc) (ls : Array Slot), wd D cy z s 0 h H locs → lv_has ls 5 [(0, .ref th), (1, .int x1)] → f_M_stretch_20 N   h th x1 = some (r, g) → W p l e { frames := 8, cells := 0, slots := 0, locals := 220 } s m args below meth c H locs 0 0 (MQ below (eQ D cy z (rI r) g) args s 0 0 (fun q => z ≤ q)) (F0 m 20 ls []) := by
  obtain ⟨hx, hb, hr, hml, hown, hts, hlk⟩ := id C
  intro  h th x1 H locs ls w  hl hE
  unfold f_M_stretch_20 at hE
  refine lv_aload_n hx hb dX12_stretch_20 rfl (lv_at hl 0 rfl) ?_
  refine lv_aload_n hx hb dX12_stretch_21 rfl (lv_at hl 0 rfl) ?_
  refine lv_iload_n hx hb dX12_stretch_22 rfl (lv_at hl 1 rfl) ?_
  refine w_VI GW_good (n := 1) (F := 1) (Lc := 25) (o := some th) (av := [.int x1]) (rest := [.ref th]) C w rfl (by decide) (fun a r g hf => k_M_isCost l D cy z N h a x1 r g hf) gw_24_20 gw_24_21 gw_24_22 gw_1_5 gw_24_23 (by decide +kernel) ⟨Nat.le_of_ble_eq_true rfl, Nat.le_of_ble_eq_true rfl⟩ rfl hl.1 rfl (Nat.le_of_ble_eq_true rfl) dX12_stretch_23 (fun a => (sh_M_isCost N h a x1)) ⟨by decide, by decide⟩ hE (fun v1 h2 H locs w hsh2 e1 => ?_)
  refine w_if_eq (tgt := 33) C dX12_stretch_26 (by decide) e1 (fun hc e2 => ?_) (fun hc e2 => ?_)
  · refine lv_iconst (v := 1) hx hb dX12_stretch_33 (by decide) ?_
    exact b_M_stretch_34 C N     h2 (some th) (1 : Int32) _ _ ls w  (lv_sub hl [] rfl) e2
  · refine lv_iconst (v := 2) hx hb dX12_stretch_29 (by decide) ?_
    refine lv_goto (tgt := 34) hx hb dX12_stretch_30 (by decide) ?_
    exact b_M_stretch_34 C N     h2 (some th) (2 : Int32) _ _ ls w  (lv_sub hl [] rfl) e2
set_option maxRecDepth 20000 in
set_option maxHeartbeats 4000000 in
theorem b_M_stretch_49 {p : Program} {l : Launch} {e : Env} {s : State} {m : MethodId} {args : Array Value} {below : List Frame} {meth : Method} {c : Code} {D : va_G} {cy : cyT} {z : Nat} (C : MX p s m args meth c cX12_stretch 5 ((some .int)) RX12 (Cond.code yX12_stretch cX12_stretch 5 ((some .int)) :: GW)) (N : Nat) {r : Int32} {g : hS}  : ∀ (n : Nat) (h : hS) (th : Nat) (x1 : Int32) (x3 : Int32) (x4 : Int32) (H : Heap) (locs : List Loc) (ls : Array Slot), wd D cy z s 0 h H locs → lv_has ls 5 [(0, .ref th), (1, .int x1), (3, .int x3), (4, .int x4)] → f_M_stretch_49 N  n h th x1 x3 x4 = some (r, g) → W p l e { frames := 8, cells := 0, slots := 0, locals := 220 } s m args below meth c H locs 0 0 (MQ below (eQ D cy z (rI r) g) args s 0 0 (fun q => z ≤ q)) (F0 m 49 ls []) := by
  obtain ⟨hx, hb, hr, hml, hown, hts, hlk⟩ := id C
  intro n
  induction n with
  | zero =>
    intro  h th x1 x3 x4 H locs ls w  hl hE
    cases hE
  | succ n ih =>
    intro  h th x1 x3 x4 H locs ls w  hl hE
    unfold f_M_stretch_49 at hE
    refine lv_iload hx hb dX12_stretch_49 (lv_at hl 3 rfl) ?_
    refine lv_aload_n hx hb dX12_stretch_51 rfl (lv_at hl 0 rfl) ?_
    refine lv_iload_n hx hb dX12_stretch_52 rfl (lv_at hl 1 rfl) ?_
    refine w_VI GW_good (n := 1) (F := 0) (Lc := 0) (o := some th) (av := [.int x1]) (rest := [.int x4]) C w rfl (by decide) (fun a r g hf => k_M_steps l D cy z N h a x1 r g hf) gw_33_18 gw_33_19 gw_33_20 gw_1_5 gw_33_21 (by decide +kernel) ⟨Nat.le_of_ble_eq_true rfl, Nat.le_of_ble_eq_true rfl⟩ rfl hl.1 rfl (Nat.le_of_ble_eq_true rfl) dX12_stretch_53 (fun a => (sh_M_steps N h a x1)) ⟨by decide, by decide⟩ hE (fun v1 h2 H locs w hsh2 e1 => ?_)
    refine w_icmp_ge (tgt := 88) C dX12_stretch_56 (by decide) e1 (fun hc e2 => ?_) (fun hc e2 => ?_)
    · refine lv_iload_n hx hb dX12_stretch_88 rfl (lv_at hl 2 rfl) ?_
      exact w_iret C w e2 dX12_stretch_89
    · refine lv_iload_n hx hb dX12_stretch_59 rfl (lv_at hl 2 rfl) ?_
      refine lv_aload_n hx hb dX12_stretch_60 rfl (lv_at hl 0 rfl) ?_
      refine w_gR (r := some th) (ci := 0) (k := 30) C w rfl (by decide) (GF_wsX120 _) (by decide) rfl (List.mem_cons_of_mem _ gw_7_15) rfl dX12_stretch_61 e2 (fun v3 e3 => ?_)
      refine lv_iload hx hb dX12_stretch_64 (lv_at hl 3 rfl) ?_
      refine lv_iconst (v := 1) hx hb dX12_stretch_66 (by decide) ?_
      refine lv_iadd hx hb dX12_stretch_67 ?_
      refine w_aI (r := v3) C w dX12_stretch_68 e3 (fun v4 e4 => ?_)
      refine lv_aload_n hx hb dX12_stretch_69 rfl (lv_at hl 0 rfl) ?_
      refine w_gR (r := some th) (ci := 0) (k := 30) C w rfl (by decide) (GF_wsX120 _) (by decide) rfl (List.mem_cons_of_mem _ gw_7_15) rfl dX12_stretch_70 e4 (fun v5 e5 => ?_)
      refine lv_iload hx hb dX12_stretch_73 (lv_at hl 3 rfl) ?_
      refine w_aI (r := v5) C w dX12_stretch_75 e5 (fun v6 e6 => ?_)
      refine lv_isub hx hb dX12_stretch_76 ?_
      refine w_mabs C hl.1 (List.mem_cons_of_mem _ gw_41_17) (List.mem_cons_of_mem _ gw_41_6) (List.mem_cons_of_mem _ gw_10_7) (List.mem_cons_of_mem _ gw_41_7) (Nat.le_of_ble_eq_true rfl) (Nat.le_of_ble_eq_true rfl) (by decide) (by decide) dX12_stretch_77 ?_
      refine lv_iadd hx hb dX12_stretch_80 ?_
      refine w_bnI e6 (fun v7 e7 => ?_)
      refine lv_istore_n (lv' := [(3, .int v7), (0, .ref th), (1, .int x1), (4, .int x4)]) hx hb dX12_stretch_81 rfl hl (by decide) rfl (fun ls hl => ?_)
      obtain ⟨v8, ev8, e8⟩ := bn_some e7
      refine lv_iinc (v := v8) (lv' := [(4, .int v8), (3, .int v7), (0, .ref th), (1, .int x1)]) hx hb dX12_stretch_82 hl (k := 3) rfl (by rw [ev8]; rfl) (by decide) rfl (fun ls hl => ?_)
      refine lv_goto (tgt := 49) hx hb dX12_stretch_85 (by decide) ?_
      exact ih  h2 th x1 v7 v8 _ _ ls w  (lv_sub hl [2, 3, 1, 0] rfl) e8
set_option maxRecDepth 20000 in
set_option maxHeartbeats 4000000 in
theorem k_M_stretch (l : Launch) (D : va_G) (cy : cyT) (z : Nat) (N : Nat) (h : hS) (th : Nat) (x1 : Int32) (x2 : Int32) (r : Int32) (g : hS) (hE : f_M_stretch N h th x1 x2 = some (r, g)) : ct l yX12_stretch (Cond.code yX12_stretch cX12_stretch 5 ((some .int)) :: GW) { frames := 8, cells := 0, slots := 0, locals := 220 } D cy z h [.ref th, .int x1, .int x2] (rI r) g := by
  refine Met.ofW (cc := cX12_stretch) (maxL := 5) (ret := (some .int)) (by decide) rfl ?_
  intro p e s m args below meth c s₁ B hml hv
  obtain ⟨rfl, hw⟩ := hv
  have C : MX p s m ([.ref th, .int x1, .int x2] : List Value).toArray meth c cX12_stretch 5 ((some .int)) RX12 (Cond.code yX12_stretch cX12_stretch 5 ((some .int)) :: GW) := ⟨B.exec, B.bytes, B.returns, hml, findClass_of_methodNamed B.named, atoms_spec (ws := Cond.code yX12_stretch cX12_stretch 5 ((some .int)) :: GW) B.pre, B.notSynchronized⟩
  obtain ⟨hx, hb, hr, hml, hown, hts, hlk⟩ := id C
  have w := wd_of hw
  obtain ⟨ls, hen, hl⟩ : ∃ ls : Array Slot, entryFrame m ([.ref th, .int x1, .int x2] : List Value).toArray 5 = F0 m 0 ls [] ∧ lv_has ls 5 [(0, .ref th), (1, .int x1), (2, .int x2)] := by
    exact ⟨_, lg_entry_eq _ _ _, lv_entry _ (Nat.le_of_ble_eq_true rfl)⟩
  rw [hen]
  unfold f_M_stretch at hE
  refine lv_aload_n hx hb dX12_stretch_0 rfl (lv_at hl 0 rfl) ?_
  refine lv_iconst (v := 0) hx hb dX12_stretch_1 (by decide) ?_
  refine w_pI (r := some th) (ci := 0) (k := 1) C w rfl (by decide) (by unfold roK; omega) (GF_wsX120 _) tyX12 tyX12_ok nmX12 (by decide) rfl (List.mem_cons_of_mem _ gw_8_18) rfl rfl (tyX12_ok 1 (by decide)) dX12_stretch_2 hE (fun h1 H locs w hsh1 e1 => ?_)
  refine lv_aload_n hx hb dX12_stretch_5 rfl (lv_at hl 0 rfl) ?_
  refine lv_iload_n hx hb dX12_stretch_6 rfl (lv_at hl 1 rfl) ?_
  refine w_VI GW_good (n := 1) (F := 1) (Lc := 25) (o := some th) (av := [.int x1]) (rest := []) C w rfl (by decide) (fun a r g hf => k_M_isCost l D cy z N h1 a x1 r g hf) gw_24_20 gw_24_21 gw_24_22 gw_1_5 gw_24_23 (by decide +kernel) ⟨Nat.le_of_ble_eq_true rfl, Nat.le_of_ble_eq_true rfl⟩ rfl hl.1 rfl (Nat.le_of_ble_eq_true rfl) dX12_stretch_7 (fun a => (sh_M_isCost N h1 a x1)) ⟨by decide, by decide⟩ e1 (fun v2 h3 H locs w hsh3 e2 => ?_)
  refine w_if_eq (tgt := 20) C dX12_stretch_10 (by decide) e2 (fun hc e3 => ?_) (fun hc e3 => ?_)
  · exact b_M_stretch_20 C N     h3 th x1 _ _ ls w  (lv_sub hl [0, 1] rfl) e3
  · refine lv_iload_n hx hb dX12_stretch_13 rfl (lv_at hl 2 rfl) ?_
    refine w_SI GW_good (n := 1) (F := 1) (Lc := 25) (av := [.int x2]) (rest := []) C w (fun r g hf => k_M_isX l D cy z N h3 x2 r g hf) gw_34_22 gw_34_23 gw_1_5 gw_35_0 (by decide +kernel) ⟨Nat.le_of_ble_eq_true rfl, Nat.le_of_ble_eq_true rfl⟩ rfl hl.1 rfl (Nat.le_of_ble_eq_true rfl) dX12_stretch_14 (sh_M_isX N h3 x2) ⟨by decide, by decide⟩ e3 (fun v4 h5 H locs w hsh5 e4 => ?_)
    refine w_if_ne (tgt := 38) C dX12_stretch_17 (by decide) e4 (fun hc e5 => ?_) (fun hc e5 => ?_)
    · refine lv_aload_n hx hb dX12_stretch_38 rfl (lv_at hl 0 rfl) ?_
      refine lv_iload_n hx hb dX12_stretch_39 rfl (lv_at hl 1 rfl) ?_
      refine lv_iload_n hx hb dX12_stretch_40 rfl (lv_at hl 2 rfl) ?_
      refine w_VV GW_good (n := 2) (F := 7) (Lc := 193) (o := some th) (av := [.int x1, .int x2]) (rest := []) C w rfl (by decide) (fun a r g hf => k_M_tellPath l D cy z N h5 a x1 x2 r g hf) gw_40_14 gw_40_15 gw_40_16 gw_1_5 gw_40_17 (by decide +kernel) ⟨Nat.le_of_ble_eq_true rfl, Nat.le_of_ble_eq_true rfl⟩ rfl hl.1 rfl (Nat.le_of_ble_eq_true rfl) dX12_stretch_41 (fun a => (sh_M_tellPath N h5 a x1 x2)) ⟨by decide, by decide⟩ e5 (fun v6 h7 H locs w hsh7 e6 => ?_)
      refine lv_iconst (v := 0) hx hb dX12_stretch_44 (by decide) ?_
      refine lv_istore_n (lv' := [(3, .int (0 : Int32)), (0, .ref th), (1, .int x1), (2, .int x2)]) hx hb dX12_stretch_45 rfl hl (by decide) rfl (fun ls hl => ?_)
      refine lv_iconst (v := 0) hx hb dX12_stretch_46 (by decide) ?_
      refine lv_istore (lv' := [(4, .int (0 : Int32)), (3, .int (0 : Int32)), (0, .ref th), (1, .int x1), (2, .int x2)]) hx hb dX12_stretch_47 hl (by decide) rfl (fun ls hl => ?_)
      exact b_M_stretch_49 C N   N  h7 th x1 (0 : Int32) (0 : Int32) _ _ ls w  (lv_sub hl [2, 3, 1, 0] rfl) e6
    · exact b_M_stretch_20 C N     h5 th x1 _ _ ls w  (lv_sub hl [0, 1] rfl) e5
set_option maxRecDepth 20000 in
set_option maxHeartbeats 4000000 in
theorem b_M_off_23 {p : Program} {l : Launch} {e : Env} {s : State} {m : MethodId} {args : Array Value} {below : List Frame} {meth : Method} {c : Code} {D : va_G} {cy : cyT} {z : Nat} (C : MX p s m args meth c cX12_off 11 ((some .int)) RX12 (Cond.code yX12_off cX12_off 11 ((some .int)) :: GW)) (N : Nat) {r : Int32} {g : hS}  : ∀  (h : hS) (th : Nat) (H : Heap) (locs : List Loc) (ls : Array Slot), wd D cy z s 0 h H locs → lv_has ls 11 [(0, .ref th)] → f_M_off_23 N   h th = some (r, g) → W p l e { frames := 7, cells := 0, slots := 0, locals := 193 } s m args below meth c H locs 0 0 (MQ below (eQ D cy z (rI r) g) args s 0 0 (fun q => z ≤ q)) (F0 m 23 ls []) := by
  obtain ⟨hx, hb, hr, hml, hown, hts, hlk⟩ := id C
  intro  h th H locs ls w  hl hE
  unfold f_M_off_23 at hE
  refine lv_aload_n hx hb dX12_off_23 rfl (lv_at hl 0 rfl) ?_
  refine lv_iconst (v := 1) hx hb dX12_off_24 (by decide) ?_
  refine w_VI GW_good (n := 1) (F := 0) (Lc := 0) (o := some th) (av := [.int (1 : Int32)]) (rest := []) C w rfl (by decide) (fun a r g hf => k_M_fail l D cy z N h a (1 : Int32) r g hf) gw_25_4 gw_25_5 gw_25_6 gw_1_5 gw_25_7 (by decide +kernel) ⟨Nat.le_of_ble_eq_true rfl, Nat.le_of_ble_eq_true rfl⟩ rfl hl.1 rfl (Nat.le_of_ble_eq_true rfl) dX12_off_25 (fun a => (sh_M_fail N h a (1 : Int32))) ⟨by decide, by decide⟩ hE (fun v1 h2 H locs w hsh2 e1 => ?_)
  exact w_iret C w e1 dX12_off_28
set_option maxRecDepth 20000 in
set_option maxHeartbeats 4000000 in
theorem b_M_off_178 {p : Program} {l : Launch} {e : Env} {s : State} {m : MethodId} {args : Array Value} {below : List Frame} {meth : Method} {c : Code} {D : va_G} {cy : cyT} {z : Nat} (C : MX p s m args meth c cX12_off 11 ((some .int)) RX12 (Cond.code yX12_off cX12_off 11 ((some .int)) :: GW)) (N : Nat) {r : Int32} {g : hS} {rc128 : hS → Nat → Int64 → Int32 → Int32 → Option (Int32 × hS)}  (hrc128 : ∀ (h : hS) (th : Nat) (x5 : Int64) (x8 : Int32) (x9 : Int32) (H : Heap) (locs : List Loc) (ls : Array Slot), wd D cy z s 0 h H locs → lv_has ls 11 [(0, .ref th), (5, .long x5), (8, .int x8), (9, .int x9)] → rc128 h th x5 x8 x9 = some (r, g) → W p l e { frames := 7, cells := 0, slots := 0, locals := 193 } s m args below meth c H locs 0 0 (MQ below (eQ D cy z (rI r) g) args s 0 0 (fun q => z ≤ q)) (F0 m 128 ls [])) : ∀  (h : hS) (th : Nat) (x5 : Int64) (x8 : Int32) (x9 : Int32) (H : Heap) (locs : List Loc) (ls : Array Slot), wd D cy z s 0 h H locs → lv_has ls 11 [(0, .ref th), (5, .long x5), (8, .int x8), (9, .int x9)] → f_M_off_178 N rc128  h th x5 x8 x9 = some (r, g) → W p l e { frames := 7, cells := 0, slots := 0, locals := 193 } s m args below meth c H locs 0 0 (MQ below (eQ D cy z (rI r) g) args s 0 0 (fun q => z ≤ q)) (F0 m 178 ls []) := by
  obtain ⟨hx, hb, hr, hml, hown, hts, hlk⟩ := id C
  intro  h th x5 x8 x9 H locs ls w  hl hE
  unfold f_M_off_178 at hE
  refine lv_goto (tgt := 128) hx hb dX12_off_178 (by decide) ?_
  exact hrc128  h th x5 x8 x9 _ _ ls w  (lv_sub hl [0, 1, 2, 3] rfl) hE
set_option maxRecDepth 20000 in
set_option maxHeartbeats 4000000 in
theorem b_M_off_128 {p : Program} {l : Launch} {e : Env} {s : State} {m : MethodId} {args : Array Value} {below : List Frame} {meth : Method} {c : Code} {D : va_G} {cy : cyT} {z : Nat} (C : MX p s m args meth c cX12_off 11 ((some .int)) RX12 (Cond.code yX12_off cX12_off 11 ((some .int)) :: GW)) (N : Nat) {r : Int32} {g : hS}  : ∀ (n : Nat) (h : hS) (th : Nat) (x5 : Int64) (x8 : Int32) (x9 : Int32) (H : Heap) (locs : List Loc) (ls : Array Slot), wd D cy z s 0 h H locs → lv_has ls 11 [(0, .ref th), (5, .long x5), (8, .int x8), (9, .int x9)] → f_M_off_128 N  n h th x5 x8 x9 = some (r, g) → W p l e { frames := 7, cells := 0, slots := 0, locals := 193 } s m args below meth c H locs 0 0 (MQ below (eQ D cy z (rI r) g) args s 0 0 (fun q => z ≤ q)) (F0 m 128 ls []) := by
  obtain ⟨hx, hb, hr, hml, hown, hts, hlk⟩ := id C
  intro n
  induction n with
  | zero =>
    intro  h th x5 x8 x9 H locs ls w  hl hE
    cases hE
  | succ n ih =>
    intro  h th x5 x8 x9 H locs ls w  hl hE
    unfold f_M_off_128 at hE
    refine lv_iload hx hb dX12_off_128 (lv_at hl 3 rfl) ?_
    refine lv_iload hx hb dX12_off_130 (lv_at hl 2 rfl) ?_
    refine lv_isub hx hb dX12_off_132 ?_
    refine w_mabs C hl.1 (List.mem_cons_of_mem _ gw_41_17) (List.mem_cons_of_mem _ gw_41_6) (List.mem_cons_of_mem _ gw_10_7) (List.mem_cons_of_mem _ gw_41_7) (Nat.le_of_ble_eq_true rfl) (Nat.le_of_ble_eq_true rfl) (by decide) (by decide) dX12_off_133 ?_
    refine lv_iconst (v := 1) hx hb dX12_off_136 (by decide) ?_
    refine w_icmp_le (tgt := 181) C dX12_off_137 (by decide) hE (fun hc e1 => ?_) (fun hc e1 => ?_)
    · refine lv_iload hx hb dX12_off_181 (lv_at hl 2 rfl) ?_
      exact w_iret C w e1 dX12_off_183
    · refine lv_iload hx hb dX12_off_140 (lv_at hl 2 rfl) ?_
      refine lv_iload hx hb dX12_off_142 (lv_at hl 3 rfl) ?_
      refine lv_iload hx hb dX12_off_144 (lv_at hl 2 rfl) ?_
      refine lv_isub hx hb dX12_off_146 ?_
      refine lv_iconst (v := 2) hx hb dX12_off_147 (by decide) ?_
      refine w_idiv C dX12_off_148 e1 (fun e2 => ?_)
      refine lv_iadd hx hb dX12_off_149 ?_
      refine w_bnI e2 (fun v1 e3 => ?_)
      refine lv_istore (lv' := [(10, .int v1), (0, .ref th), (5, .long x5), (8, .int x8), (9, .int x9)]) hx hb dX12_off_150 hl (by decide) rfl (fun ls hl => ?_)
      refine lv_aload_n hx hb dX12_off_152 rfl (lv_at hl 1 rfl) ?_
      refine w_gR (r := some th) (ci := 0) (k := 4) C w rfl (by decide) (GF_wsX120 _) (by decide) rfl (List.mem_cons_of_mem _ gw_6_23) rfl dX12_off_153 e3 (fun v2 e4 => ?_)
      refine lv_iload hx hb dX12_off_156 (lv_at hl 0 rfl) ?_
      obtain ⟨q3, eq3, e5⟩ := nn_some e4
      subst eq3
      refine w_SJ GW_good (n := 2) (F := 1) (Lc := 44) (av := [.ref q3, .int v1]) (rest := []) C w (fun r g hf => k_M_valueAt l D cy z N h q3 v1 r g hf) gw_30_7 gw_30_8 gw_1_5 gw_30_9 (by decide +kernel) ⟨Nat.le_of_ble_eq_true rfl, Nat.le_of_ble_eq_true rfl⟩ rfl hl.1 rfl (Nat.le_of_ble_eq_true rfl) dX12_off_158 (sh_M_valueAt N h q3 v1) ⟨by decide, by decide⟩ e5 (fun v4 h5 H locs w hsh5 e6 => ?_)
      refine lv_lload hx hb dX12_off_161 (lv_at hl 2 rfl) ?_
      refine W.lcmp hx hb dX12_off_163 ?_
      refine w_if_gt (tgt := 174) C dX12_off_164 (by decide) e6 (fun hc e7 => ?_) (fun hc e7 => ?_)
      · refine lv_iload hx hb dX12_off_174 (lv_at hl 0 rfl) ?_
        refine lv_istore (lv' := [(9, .int v1), (10, .int v1), (0, .ref th), (5, .long x5), (8, .int x8)]) hx hb dX12_off_176 hl (by decide) rfl (fun ls hl => ?_)
        exact b_M_off_178 C N  ih   h5 th x5 x8 v1 _ _ ls w  (lv_sub hl [2, 3, 4, 0] rfl) e7
      · refine lv_iload hx hb dX12_off_167 (lv_at hl 0 rfl) ?_
        refine lv_istore (lv' := [(8, .int v1), (10, .int v1), (0, .ref th), (5, .long x5), (9, .int x9)]) hx hb dX12_off_169 hl (by decide) rfl (fun ls hl => ?_)
        refine lv_goto (tgt := 178) hx hb dX12_off_171 (by decide) ?_
        exact b_M_off_178 C N  ih   h5 th x5 v1 x9 _ _ ls w  (lv_sub hl [2, 3, 0, 4] rfl) e7
set_option maxRecDepth 20000 in
set_option maxHeartbeats 4000000 in
theorem b_M_off_111 {p : Program} {l : Launch} {e : Env} {s : State} {m : MethodId} {args : Array Value} {below : List Frame} {meth : Method} {c : Code} {D : va_G} {cy : cyT} {z : Nat} (C : MX p s m args meth c cX12_off 11 ((some .int)) RX12 (Cond.code yX12_off cX12_off 11 ((some .int)) :: GW)) (N : Nat) {r : Int32} {g : hS}  : ∀  (h : hS) (th : Nat) (x4 : Int32) (x5 : Int64) (y0 : Int32) (H : Heap) (locs : List Loc) (ls : Array Slot), wd D cy z s 0 h H locs → lv_has ls 11 [(0, .ref th), (4, .int x4), (5, .long x5)] → f_M_off_111 N   h th x4 x5 y0 = some (r, g) → W p l e { frames := 7, cells := 0, slots := 0, locals := 193 } s m args below meth c H locs 0 0 (MQ below (eQ D cy z (rI r) g) args s 0 0 (fun q => z ≤ q)) (F0 m 111 ls [.int y0]) := by
  obtain ⟨hx, hb, hr, hml, hown, hts, hlk⟩ := id C
  intro  h th x4 x5 y0 H locs ls w  hl hE
  unfold f_M_off_111 at hE
  refine lv_istore (lv' := [(7, .int y0), (0, .ref th), (4, .int x4), (5, .long x5)]) hx hb dX12_off_111 hl (by decide) rfl (fun ls hl => ?_)
  refine lv_iload hx hb dX12_off_113 (lv_at hl 2 rfl) ?_
  refine lv_istore (lv' := [(8, .int x4), (7, .int y0), (0, .ref th), (4, .int x4), (5, .long x5)]) hx hb dX12_off_115 hl (by decide) rfl (fun ls hl => ?_)
  refine lv_iload hx hb dX12_off_117 (lv_at hl 3 rfl) ?_
  refine lv_iload hx hb dX12_off_119 (lv_at hl 1 rfl) ?_
  refine lv_ldcw hx hb hown (hts _ (List.mem_cons_of_mem _ gw_42_10)) dX12_off_121 ?_
  refine lv_imul hx hb dX12_off_124 ?_
  refine lv_iadd hx hb dX12_off_125 ?_
  refine w_bnI hE (fun v1 e1 => ?_)
  refine lv_istore (lv' := [(9, .int v1), (8, .int x4), (7, .int y0), (0, .ref th), (4, .int x4), (5, .long x5)]) hx hb dX12_off_126 hl (by decide) rfl (fun ls hl => ?_)
  exact b_M_off_128 C N   N  h th x5 x4 v1 _ _ ls w  (lv_sub hl [3, 5, 1, 0] rfl) e1
set_option maxRecDepth 20000 in
set_option maxHeartbeats 4000000 in
theorem b_M_off_73 {p : Program} {l : Launch} {e : Env} {s : State} {m : MethodId} {args : Array Value} {below : List Frame} {meth : Method} {c : Code} {D : va_G} {cy : cyT} {z : Nat} (C : MX p s m args meth c cX12_off 11 ((some .int)) RX12 (Cond.code yX12_off cX12_off 11 ((some .int)) :: GW)) (N : Nat) {r : Int32} {g : hS}  : ∀  (h : hS) (th : Nat) (x2 : Int32) (x3 : Int32) (y0 : Int32) (H : Heap) (locs : List Loc) (ls : Array Slot), wd D cy z s 0 h H locs → lv_has ls 11 [(0, .ref th), (2, .int x2), (3, .int x3)] → f_M_off_73 N   h th x2 x3 y0 = some (r, g) → W p l e { frames := 7, cells := 0, slots := 0, locals := 193 } s m args below meth c H locs 0 0 (MQ below (eQ D cy z (rI r) g) args s 0 0 (fun q => z ≤ q)) (F0 m 73 ls [.int y0]) := by
  obtain ⟨hx, hb, hr, hml, hown, hts, hlk⟩ := id C
  intro  h th x2 x3 y0 H locs ls w  hl hE
  unfold f_M_off_73 at hE
  refine lv_istore (lv' := [(4, .int y0), (0, .ref th), (2, .int x2), (3, .int x3)]) hx hb dX12_off_73 hl (by decide) rfl (fun ls hl => ?_)
  refine lv_iload hx hb dX12_off_75 (lv_at hl 0 rfl) ?_
  refine w_SI GW_good (n := 1) (F := 1) (Lc := 25) (av := [.int y0]) (rest := []) C w (fun r g hf => k_M_somewhere l D cy z N h y0 r g hf) gw_37_14 gw_37_15 gw_1_5 gw_37_16 (by decide +kernel) ⟨Nat.le_of_ble_eq_true rfl, Nat.le_of_ble_eq_true rfl⟩ rfl hl.1 rfl (Nat.le_of_ble_eq_true rfl) dX12_off_77 (sh_M_somewhere N h y0) ⟨by decide, by decide⟩ hE (fun v1 h2 H locs w hsh2 e1 => ?_)
  refine lv_ldcw hx hb hown (hts _ (List.mem_cons_of_mem _ gw_37_19)) dX12_off_80 ?_
  refine w_icmp_ne (tgt := 90) C dX12_off_83 (by decide) e1 (fun hc e2 => ?_) (fun hc e2 => ?_)
  · refine lv_aload_n hx hb dX12_off_90 rfl (lv_at hl 1 rfl) ?_
    refine w_gR (r := some th) (ci := 0) (k := 4) C w rfl (by decide) (GF_wsX120 _) (by decide) rfl (List.mem_cons_of_mem _ gw_6_23) rfl dX12_off_91 e2 (fun v3 e3 => ?_)
    obtain ⟨q4, eq4, e4⟩ := nn_some e3
    subst eq4
    refine w_SJ GW_good (n := 1) (F := 2) (Lc := 71) (av := [.ref q4]) (rest := []) C w (fun r g hf => k_M_leastOf l D cy z N h2 q4 r g hf) gw_30_17 gw_30_18 gw_1_5 gw_30_19 (by decide +kernel) ⟨Nat.le_of_ble_eq_true rfl, Nat.le_of_ble_eq_true rfl⟩ rfl hl.1 rfl (Nat.le_of_ble_eq_true rfl) dX12_off_94 (sh_M_leastOf N h2 q4) ⟨by decide, by decide⟩ e4 (fun v5 h6 H locs w hsh6 e5 => ?_)
    refine lv_iload_n hx hb dX12_off_97 rfl (lv_at hl 2 rfl) ?_
    refine lv_i2l hx hb dX12_off_98 rfl ?_
    refine lv_ladd hx hb dX12_off_99 ?_
    refine w_bnJ e5 (fun v7 e6 => ?_)
    refine lv_lstore (lv' := [(5, .long v7), (4, .int y0), (0, .ref th), (2, .int x2), (3, .int x3)]) hx hb dX12_off_100 hl (by decide) rfl (fun ls hl => ?_)
    refine lv_iload_n hx hb dX12_off_102 rfl (lv_at hl 4 rfl) ?_
    refine w_if_ne (tgt := 110) C dX12_off_103 (by decide) e6 (fun hc e7 => ?_) (fun hc e7 => ?_)
    · refine lv_iconst (v := 1) hx hb dX12_off_110 (by decide) ?_
      exact b_M_off_111 C N     h6 th y0 v7 (1 : Int32) _ _ ls w  (lv_sub hl [2, 1, 0] rfl) e7
    · refine lv_iconst (v := -1) hx hb dX12_off_106 (by decide) ?_
      refine lv_goto (tgt := 111) hx hb dX12_off_107 (by decide) ?_
      exact b_M_off_111 C N     h6 th y0 v7 (-1 : Int32) _ _ ls w  (lv_sub hl [2, 1, 0] rfl) e7
  · refine lv_ldcw hx hb hown (hts _ (List.mem_cons_of_mem _ gw_37_19)) dX12_off_86 ?_
    exact w_iret C w e2 dX12_off_89
set_option maxRecDepth 20000 in
set_option maxHeartbeats 4000000 in
theorem k_M_off (l : Launch) (D : va_G) (cy : cyT) (z : Nat) (N : Nat) (h : hS) (th : Nat) (x1 : Int32) (x2 : Int32) (x3 : Int32) (r : Int32) (g : hS) (hE : f_M_off N h th x1 x2 x3 = some (r, g)) : ct l yX12_off (Cond.code yX12_off cX12_off 11 ((some .int)) :: GW) { frames := 7, cells := 0, slots := 0, locals := 193 } D cy z h [.ref th, .int x1, .int x2, .int x3] (rI r) g := by
  refine Met.ofW (cc := cX12_off) (maxL := 11) (ret := (some .int)) (by decide) rfl ?_
  intro p e s m args below meth c s₁ B hml hv
  obtain ⟨rfl, hw⟩ := hv
  have C : MX p s m ([.ref th, .int x1, .int x2, .int x3] : List Value).toArray meth c cX12_off 11 ((some .int)) RX12 (Cond.code yX12_off cX12_off 11 ((some .int)) :: GW) := ⟨B.exec, B.bytes, B.returns, hml, findClass_of_methodNamed B.named, atoms_spec (ws := Cond.code yX12_off cX12_off 11 ((some .int)) :: GW) B.pre, B.notSynchronized⟩
  obtain ⟨hx, hb, hr, hml, hown, hts, hlk⟩ := id C
  have w := wd_of hw
  obtain ⟨ls, hen, hl⟩ : ∃ ls : Array Slot, entryFrame m ([.ref th, .int x1, .int x2, .int x3] : List Value).toArray 11 = F0 m 0 ls [] ∧ lv_has ls 11 [(0, .ref th), (1, .int x1), (2, .int x2), (3, .int x3)] := by
    exact ⟨_, lg_entry_eq _ _ _, lv_entry _ (Nat.le_of_ble_eq_true rfl)⟩
  rw [hen]
  unfold f_M_off at hE
  refine lv_aload_n hx hb dX12_off_0 rfl (lv_at hl 0 rfl) ?_
  refine lv_iconst (v := 0) hx hb dX12_off_1 (by decide) ?_
  refine w_pI (r := some th) (ci := 0) (k := 1) C w rfl (by decide) (by unfold roK; omega) (GF_wsX120 _) tyX12 tyX12_ok nmX12 (by decide) rfl (List.mem_cons_of_mem _ gw_8_18) rfl rfl (tyX12_ok 1 (by decide)) dX12_off_2 hE (fun h1 H locs w hsh1 e1 => ?_)
  refine lv_aload_n hx hb dX12_off_5 rfl (lv_at hl 0 rfl) ?_
  refine lv_iload_n hx hb dX12_off_6 rfl (lv_at hl 1 rfl) ?_
  refine w_VI GW_good (n := 1) (F := 1) (Lc := 25) (o := some th) (av := [.int x1]) (rest := []) C w rfl (by decide) (fun a r g hf => k_M_isCost l D cy z N h1 a x1 r g hf) gw_24_20 gw_24_21 gw_24_22 gw_1_5 gw_24_23 (by decide +kernel) ⟨Nat.le_of_ble_eq_true rfl, Nat.le_of_ble_eq_true rfl⟩ rfl hl.1 rfl (Nat.le_of_ble_eq_true rfl) dX12_off_7 (fun a => (sh_M_isCost N h1 a x1)) ⟨by decide, by decide⟩ e1 (fun v2 h3 H locs w hsh3 e2 => ?_)
  refine w_if_eq (tgt := 23) C dX12_off_10 (by decide) e2 (fun hc e3 => ?_) (fun hc e3 => ?_)
  · exact b_M_off_23 C N     h3 th _ _ ls w  (lv_sub hl [0] rfl) e3
  · refine lv_iload_n hx hb dX12_off_13 rfl (lv_at hl 3 rfl) ?_
    refine lv_i2l hx hb dX12_off_14 rfl ?_
    refine lv_lconst (v := 0) hx hb dX12_off_15 (by decide) ?_
    refine lv_lconst (v := 1) hx hb dX12_off_16 (by decide) ?_
    refine w_SI GW_good (n := 3) (F := 0) (Lc := 0) (av := [.long x3.toInt64, .long (0 : Int64), .long (1 : Int64)]) (rest := []) C w (fun r g hf => k_M_isIn l D cy z N h3 x3.toInt64 (0 : Int64) (1 : Int64) r g hf) gw_25_1 gw_25_2 gw_1_5 gw_25_3 (by decide +kernel) ⟨Nat.le_of_ble_eq_true rfl, Nat.le_of_ble_eq_true rfl⟩ rfl hl.1 rfl (Nat.le_of_ble_eq_true rfl) dX12_off_17 (sh_M_isIn N h3 x3.toInt64 (0 : Int64) (1 : Int64)) ⟨by decide, by decide⟩ e3 (fun v4 h5 H locs w hsh5 e4 => ?_)
    refine w_if_ne (tgt := 29) C dX12_off_20 (by decide) e4 (fun hc e5 => ?_) (fun hc e5 => ?_)
    · refine lv_iload_n hx hb dX12_off_29 rfl (lv_at hl 2 rfl) ?_
      refine lv_i2l hx hb dX12_off_30 rfl ?_
      refine lv_lconst (v := 0) hx hb dX12_off_31 (by decide) ?_
      refine lv_ldc2 hx hb hown (hts _ (List.mem_cons_of_mem _ gw_42_9)) dX12_off_32 ?_
      refine w_SI GW_good (n := 3) (F := 0) (Lc := 0) (av := [.long x2.toInt64, .long (0 : Int64), .long (1000000 : Int64)]) (rest := []) C w (fun r g hf => k_M_isIn l D cy z N h5 x2.toInt64 (0 : Int64) (1000000 : Int64) r g hf) gw_25_1 gw_25_2 gw_1_5 gw_25_3 (by decide +kernel) ⟨Nat.le_of_ble_eq_true rfl, Nat.le_of_ble_eq_true rfl⟩ rfl hl.1 rfl (Nat.le_of_ble_eq_true rfl) dX12_off_35 (sh_M_isIn N h5 x2.toInt64 (0 : Int64) (1000000 : Int64)) ⟨by decide, by decide⟩ e5 (fun v6 h7 H locs w hsh7 e6 => ?_)
      refine w_if_ne (tgt := 47) C dX12_off_38 (by decide) e6 (fun hc e7 => ?_) (fun hc e7 => ?_)
      · refine lv_aload_n hx hb dX12_off_47 rfl (lv_at hl 0 rfl) ?_
        refine lv_iload_n hx hb dX12_off_48 rfl (lv_at hl 1 rfl) ?_
        refine w_VV GW_good (n := 1) (F := 6) (Lc := 171) (o := some th) (av := [.int x1]) (rest := []) C w rfl (by decide) (fun a r g hf => k_M_tell l D cy z N h7 a x1 r g hf) gw_28_9 gw_28_10 gw_28_11 gw_1_5 gw_28_12 (by decide +kernel) ⟨Nat.le_of_ble_eq_true rfl, Nat.le_of_ble_eq_true rfl⟩ rfl hl.1 rfl (Nat.le_of_ble_eq_true rfl) dX12_off_49 (fun a => (sh_M_tell N h7 a x1)) ⟨by decide, by decide⟩ e7 (fun v8 h9 H locs w hsh9 e8 => ?_)
        refine lv_iload_n hx hb dX12_off_52 rfl (lv_at hl 3 rfl) ?_
        refine w_if_ne (tgt := 66) C dX12_off_53 (by decide) e8 (fun hc e9 => ?_) (fun hc e9 => ?_)
        · refine lv_aload_n hx hb dX12_off_66 rfl (lv_at hl 0 rfl) ?_
          refine w_gR (r := some th) (ci := 0) (k := 4) C w rfl (by decide) (GF_wsX120 _) (by decide) rfl (List.mem_cons_of_mem _ gw_6_23) rfl dX12_off_67 e9 (fun v10 e10 => ?_)
          obtain ⟨q11, eq11, e11⟩ := nn_some e10
          subst eq11
          refine w_SI GW_good (n := 1) (F := 1) (Lc := 23) (av := [.ref q11]) (rest := []) C w (fun r g hf => k_M_flatTo l D cy z N h9 q11 r g hf) gw_29_5 gw_29_6 gw_1_5 gw_29_7 (by decide +kernel) ⟨Nat.le_of_ble_eq_true rfl, Nat.le_of_ble_eq_true rfl⟩ rfl hl.1 rfl (Nat.le_of_ble_eq_true rfl) dX12_off_70 (sh_M_flatTo N h9 q11) ⟨by decide, by decide⟩ e11 (fun v12 h13 H locs w hsh13 e12 => ?_)
          exact b_M_off_73 C N     h13 th x2 x3 v12 _ _ ls w  (lv_sub hl [0, 2, 3] rfl) e12
        · refine lv_aload_n hx hb dX12_off_56 rfl (lv_at hl 0 rfl) ?_
          refine w_gR (r := some th) (ci := 0) (k := 4) C w rfl (by decide) (GF_wsX120 _) (by decide) rfl (List.mem_cons_of_mem _ gw_6_23) rfl dX12_off_57 e9 (fun v14 e13 => ?_)
          obtain ⟨q15, eq15, e14⟩ := nn_some e13
          subst eq15
          refine w_SI GW_good (n := 1) (F := 1) (Lc := 23) (av := [.ref q15]) (rest := []) C w (fun r g hf => k_M_flatFrom l D cy z N h9 q15 r g hf) gw_28_21 gw_28_22 gw_1_5 gw_28_23 (by decide +kernel) ⟨Nat.le_of_ble_eq_true rfl, Nat.le_of_ble_eq_true rfl⟩ rfl hl.1 rfl (Nat.le_of_ble_eq_true rfl) dX12_off_60 (sh_M_flatFrom N h9 q15) ⟨by decide, by decide⟩ e14 (fun v16 h17 H locs w hsh17 e15 => ?_)
          refine lv_goto (tgt := 73) hx hb dX12_off_63 (by decide) ?_
          exact b_M_off_73 C N     h17 th x2 x3 v16 _ _ ls w  (lv_sub hl [0, 2, 3] rfl) e15
      · refine lv_aload_n hx hb dX12_off_41 rfl (lv_at hl 0 rfl) ?_
        refine lv_iconst (v := 2) hx hb dX12_off_42 (by decide) ?_
        refine w_VI GW_good (n := 1) (F := 0) (Lc := 0) (o := some th) (av := [.int (2 : Int32)]) (rest := []) C w rfl (by decide) (fun a r g hf => k_M_fail l D cy z N h7 a (2 : Int32) r g hf) gw_25_4 gw_25_5 gw_25_6 gw_1_5 gw_25_7 (by decide +kernel) ⟨Nat.le_of_ble_eq_true rfl, Nat.le_of_ble_eq_true rfl⟩ rfl hl.1 rfl (Nat.le_of_ble_eq_true rfl) dX12_off_43 (fun a => (sh_M_fail N h7 a (2 : Int32))) ⟨by decide, by decide⟩ e7 (fun v18 h19 H locs w hsh19 e16 => ?_)
        exact w_iret C w e16 dX12_off_46
    · exact b_M_off_23 C N     h5 th _ _ ls w  (lv_sub hl [0] rfl) e5
set_option maxRecDepth 20000 in
set_option maxHeartbeats 4000000 in
theorem b_M_against_23 {p : Program} {l : Launch} {e : Env} {s : State} {m : MethodId} {args : Array Value} {below : List Frame} {meth : Method} {c : Code} {D : va_G} {cy : cyT} {z : Nat} (C : MX p s m args meth c cX12_against 4 ((some .long)) RX12 (Cond.code yX12_against cX12_against 4 ((some .long)) :: GW)) (N : Nat) {r : Int64} {g : hS}  : ∀  (h : hS) (th : Nat) (H : Heap) (locs : List Loc) (ls : Array Slot), wd D cy z s 0 h H locs → lv_has ls 4 [(0, .ref th)] → f_M_against_23 N   h th = some (r, g) → W p l e { frames := 7, cells := 0, slots := 0, locals := 193 } s m args below meth c H locs 0 0 (MQ below (eQ D cy z (rJ r) g) args s 0 0 (fun q => z ≤ q)) (F0 m 23 ls []) := by
  obtain ⟨hx, hb, hr, hml, hown, hts, hlk⟩ := id C
  intro  h th H locs ls w  hl hE
  unfold f_M_against_23 at hE
  refine lv_aload_n hx hb dX12_against_23 rfl (lv_at hl 0 rfl) ?_
  refine lv_iconst (v := 1) hx hb dX12_against_24 (by decide) ?_
  refine w_VI GW_good (n := 1) (F := 0) (Lc := 0) (o := some th) (av := [.int (1 : Int32)]) (rest := []) C w rfl (by decide) (fun a r g hf => k_M_fail l D cy z N h a (1 : Int32) r g hf) gw_25_4 gw_25_5 gw_25_6 gw_1_5 gw_25_7 (by decide +kernel) ⟨Nat.le_of_ble_eq_true rfl, Nat.le_of_ble_eq_true rfl⟩ rfl hl.1 rfl (Nat.le_of_ble_eq_true rfl) dX12_against_25 (fun a => (sh_M_fail N h a (1 : Int32))) ⟨by decide, by decide⟩ hE (fun v1 h2 H locs w hsh2 e1 => ?_)
  refine lv_i2l hx hb dX12_against_28 rfl ?_
  exact w_lret C w e1 dX12_against_29
set_option maxRecDepth 20000 in
set_option maxHeartbeats 4000000 in
theorem b_M_against_95 {p : Program} {l : Launch} {e : Env} {s : State} {m : MethodId} {args : Array Value} {below : List Frame} {meth : Method} {c : Code} {D : va_G} {cy : cyT} {z : Nat} (C : MX p s m args meth c cX12_against 4 ((some .long)) RX12 (Cond.code yX12_against cX12_against 4 ((some .long)) :: GW)) (N : Nat) {r : Int64} {g : hS}  : ∀  (h : hS) (y0 : Int64) (H : Heap) (locs : List Loc) (ls : Array Slot), wd D cy z s 0 h H locs → lv_has ls 4 [] → f_M_against_95 N   h y0 = some (r, g) → W p l e { frames := 7, cells := 0, slots := 0, locals := 193 } s m args below meth c H locs 0 0 (MQ below (eQ D cy z (rJ r) g) args s 0 0 (fun q => z ≤ q)) (F0 m 95 ls [.long y0]) := by
  obtain ⟨hx, hb, hr, hml, hown, hts, hlk⟩ := id C
  intro  h y0 H locs ls w  hl hE
  unfold f_M_against_95 at hE
  exact w_lret C w hE dX12_against_95
set_option maxRecDepth 20000 in
set_option maxHeartbeats 4000000 in
theorem k_M_against (l : Launch) (D : va_G) (cy : cyT) (z : Nat) (N : Nat) (h : hS) (th : Nat) (x1 : Int32) (x2 : Int32) (x3 : Int32) (r : Int64) (g : hS) (hE : f_M_against N h th x1 x2 x3 = some (r, g)) : ct l yX12_against (Cond.code yX12_against cX12_against 4 ((some .long)) :: GW) { frames := 7, cells := 0, slots := 0, locals := 193 } D cy z h [.ref th, .int x1, .int x2, .int x3] (rJ r) g := by
  refine Met.ofW (cc := cX12_against) (maxL := 4) (ret := (some .long)) (by decide) rfl ?_
  intro p e s m args below meth c s₁ B hml hv
  obtain ⟨rfl, hw⟩ := hv
  have C : MX p s m ([.ref th, .int x1, .int x2, .int x3] : List Value).toArray meth c cX12_against 4 ((some .long)) RX12 (Cond.code yX12_against cX12_against 4 ((some .long)) :: GW) := ⟨B.exec, B.bytes, B.returns, hml, findClass_of_methodNamed B.named, atoms_spec (ws := Cond.code yX12_against cX12_against 4 ((some .long)) :: GW) B.pre, B.notSynchronized⟩
  obtain ⟨hx, hb, hr, hml, hown, hts, hlk⟩ := id C
  have w := wd_of hw
  obtain ⟨ls, hen, hl⟩ : ∃ ls : Array Slot, entryFrame m ([.ref th, .int x1, .int x2, .int x3] : List Value).toArray 4 = F0 m 0 ls [] ∧ lv_has ls 4 [(0, .ref th), (1, .int x1), (2, .int x2), (3, .int x3)] := by
    exact ⟨_, lg_entry_eq _ _ _, lv_entry _ (Nat.le_of_ble_eq_true rfl)⟩
  rw [hen]
  unfold f_M_against at hE
  refine lv_aload_n hx hb dX12_against_0 rfl (lv_at hl 0 rfl) ?_
  refine lv_iconst (v := 0) hx hb dX12_against_1 (by decide) ?_
  refine w_pI (r := some th) (ci := 0) (k := 1) C w rfl (by decide) (by unfold roK; omega) (GF_wsX120 _) tyX12 tyX12_ok nmX12 (by decide) rfl (List.mem_cons_of_mem _ gw_8_18) rfl rfl (tyX12_ok 1 (by decide)) dX12_against_2 hE (fun h1 H locs w hsh1 e1 => ?_)
  refine lv_aload_n hx hb dX12_against_5 rfl (lv_at hl 0 rfl) ?_
  refine lv_iload_n hx hb dX12_against_6 rfl (lv_at hl 1 rfl) ?_
  refine w_VI GW_good (n := 1) (F := 1) (Lc := 25) (o := some th) (av := [.int x1]) (rest := []) C w rfl (by decide) (fun a r g hf => k_M_isCost l D cy z N h1 a x1 r g hf) gw_24_20 gw_24_21 gw_24_22 gw_1_5 gw_24_23 (by decide +kernel) ⟨Nat.le_of_ble_eq_true rfl, Nat.le_of_ble_eq_true rfl⟩ rfl hl.1 rfl (Nat.le_of_ble_eq_true rfl) dX12_against_7 (fun a => (sh_M_isCost N h1 a x1)) ⟨by decide, by decide⟩ e1 (fun v2 h3 H locs w hsh3 e2 => ?_)
  refine w_if_eq (tgt := 23) C dX12_against_10 (by decide) e2 (fun hc e3 => ?_) (fun hc e3 => ?_)
  · exact b_M_against_23 C N     h3 th _ _ ls w  (lv_sub hl [0] rfl) e3
  · refine lv_iload_n hx hb dX12_against_13 rfl (lv_at hl 3 rfl) ?_
    refine lv_i2l hx hb dX12_against_14 rfl ?_
    refine lv_lconst (v := 0) hx hb dX12_against_15 (by decide) ?_
    refine lv_lconst (v := 1) hx hb dX12_against_16 (by decide) ?_
    refine w_SI GW_good (n := 3) (F := 0) (Lc := 0) (av := [.long x3.toInt64, .long (0 : Int64), .long (1 : Int64)]) (rest := []) C w (fun r g hf => k_M_isIn l D cy z N h3 x3.toInt64 (0 : Int64) (1 : Int64) r g hf) gw_25_1 gw_25_2 gw_1_5 gw_25_3 (by decide +kernel) ⟨Nat.le_of_ble_eq_true rfl, Nat.le_of_ble_eq_true rfl⟩ rfl hl.1 rfl (Nat.le_of_ble_eq_true rfl) dX12_against_17 (sh_M_isIn N h3 x3.toInt64 (0 : Int64) (1 : Int64)) ⟨by decide, by decide⟩ e3 (fun v4 h5 H locs w hsh5 e4 => ?_)
    refine w_if_ne (tgt := 30) C dX12_against_20 (by decide) e4 (fun hc e5 => ?_) (fun hc e5 => ?_)
    · refine lv_iload_n hx hb dX12_against_30 rfl (lv_at hl 2 rfl) ?_
      refine lv_i2l hx hb dX12_against_31 rfl ?_
      refine lv_ldc2 hx hb hown (hts _ (List.mem_cons_of_mem _ gw_48_21)) dX12_against_32 ?_
      refine lv_ldc2 hx hb hown (hts _ (List.mem_cons_of_mem _ gw_48_22)) dX12_against_35 ?_
      refine w_SI GW_good (n := 3) (F := 0) (Lc := 0) (av := [.long x2.toInt64, .long (-200 : Int64), .long (200 : Int64)]) (rest := []) C w (fun r g hf => k_M_isIn l D cy z N h5 x2.toInt64 (-200 : Int64) (200 : Int64) r g hf) gw_25_1 gw_25_2 gw_1_5 gw_25_3 (by decide +kernel) ⟨Nat.le_of_ble_eq_true rfl, Nat.le_of_ble_eq_true rfl⟩ rfl hl.1 rfl (Nat.le_of_ble_eq_true rfl) dX12_against_38 (sh_M_isIn N h5 x2.toInt64 (-200 : Int64) (200 : Int64)) ⟨by decide, by decide⟩ e5 (fun v6 h7 H locs w hsh7 e6 => ?_)
      refine w_if_ne (tgt := 51) C dX12_against_41 (by decide) e6 (fun hc e7 => ?_) (fun hc e7 => ?_)
      · refine lv_aload_n hx hb dX12_against_51 rfl (lv_at hl 0 rfl) ?_
        refine lv_iload_n hx hb dX12_against_52 rfl (lv_at hl 1 rfl) ?_
        refine w_VV GW_good (n := 1) (F := 6) (Lc := 171) (o := some th) (av := [.int x1]) (rest := []) C w rfl (by decide) (fun a r g hf => k_M_tell l D cy z N h7 a x1 r g hf) gw_28_9 gw_28_10 gw_28_11 gw_1_5 gw_28_12 (by decide +kernel) ⟨Nat.le_of_ble_eq_true rfl, Nat.le_of_ble_eq_true rfl⟩ rfl hl.1 rfl (Nat.le_of_ble_eq_true rfl) dX12_against_53 (fun a => (sh_M_tell N h7 a x1)) ⟨by decide, by decide⟩ e7 (fun v8 h9 H locs w hsh9 e8 => ?_)
        refine lv_aload_n hx hb dX12_against_56 rfl (lv_at hl 0 rfl) ?_
        refine w_gR (r := some th) (ci := 0) (k := 4) C w rfl (by decide) (GF_wsX120 _) (by decide) rfl (List.mem_cons_of_mem _ gw_6_23) rfl dX12_against_57 e8 (fun v10 e9 => ?_)
        refine lv_iload_n hx hb dX12_against_60 rfl (lv_at hl 2 rfl) ?_
        obtain ⟨q11, eq11, e10⟩ := nn_some e9
        subst eq11
        refine w_SI GW_good (n := 2) (F := 2) (Lc := 42) (av := [.ref q11, .int x2]) (rest := []) C w (fun r g hf => k_M_isBound l D cy z N h9 q11 x2 r g hf) gw_49_0 gw_49_1 gw_1_5 gw_49_2 (by decide +kernel) ⟨Nat.le_of_ble_eq_true rfl, Nat.le_of_ble_eq_true rfl⟩ rfl hl.1 rfl (Nat.le_of_ble_eq_true rfl) dX12_against_61 (sh_M_isBound N h9 q11 x2) ⟨by decide, by decide⟩ e10 (fun v12 h13 H locs w hsh13 e11 => ?_)
        refine w_if_ne (tgt := 71) C dX12_against_64 (by decide) e11 (fun hc e12 => ?_) (fun hc e12 => ?_)
        · refine lv_iload_n hx hb dX12_against_71 rfl (lv_at hl 3 rfl) ?_
          refine w_if_ne (tgt := 86) C dX12_against_72 (by decide) e12 (fun hc e13 => ?_) (fun hc e13 => ?_)
          · refine lv_aload_n hx hb dX12_against_86 rfl (lv_at hl 0 rfl) ?_
            refine w_gR (r := some th) (ci := 0) (k := 4) C w rfl (by decide) (GF_wsX120 _) (by decide) rfl (List.mem_cons_of_mem _ gw_6_23) rfl dX12_against_87 e13 (fun v14 e14 => ?_)
            refine lv_iload_n hx hb dX12_against_90 rfl (lv_at hl 2 rfl) ?_
            obtain ⟨q15, eq15, e15⟩ := nn_some e14
            subst eq15
            refine w_SI GW_good (n := 2) (F := 1) (Lc := 23) (av := [.ref q15, .int x2]) (rest := []) C w (fun r g hf => k_M_standsAt l D cy z N h13 q15 x2 r g hf) gw_49_6 gw_49_7 gw_1_5 gw_49_8 (by decide +kernel) ⟨Nat.le_of_ble_eq_true rfl, Nat.le_of_ble_eq_true rfl⟩ rfl hl.1 rfl (Nat.le_of_ble_eq_true rfl) dX12_against_91 (sh_M_standsAt N h13 q15 x2) ⟨by decide, by decide⟩ e15 (fun v16 h17 H locs w hsh17 e16 => ?_)
            refine lv_i2l hx hb dX12_against_94 rfl ?_
            exact b_M_against_95 C N     h17 v16.toInt64 _ _ ls w  (lv_sub hl [] rfl) e16
          · refine lv_aload_n hx hb dX12_against_75 rfl (lv_at hl 0 rfl) ?_
            refine w_gR (r := some th) (ci := 0) (k := 4) C w rfl (by decide) (GF_wsX120 _) (by decide) rfl (List.mem_cons_of_mem _ gw_6_23) rfl dX12_against_76 e13 (fun v18 e17 => ?_)
            refine lv_iload_n hx hb dX12_against_79 rfl (lv_at hl 2 rfl) ?_
            obtain ⟨q19, eq19, e18⟩ := nn_some e17
            subst eq19
            refine w_SJ GW_good (n := 2) (F := 2) (Lc := 71) (av := [.ref q19, .int x2]) (rest := []) C w (fun r g hf => k_M_againstOf l D cy z N h13 q19 x2 r g hf) gw_49_3 gw_49_4 gw_1_5 gw_49_5 (by decide +kernel) ⟨Nat.le_of_ble_eq_true rfl, Nat.le_of_ble_eq_true rfl⟩ rfl hl.1 rfl (Nat.le_of_ble_eq_true rfl) dX12_against_80 (sh_M_againstOf N h13 q19 x2) ⟨by decide, by decide⟩ e18 (fun v20 h21 H locs w hsh21 e19 => ?_)
            refine lv_goto (tgt := 95) hx hb dX12_against_83 (by decide) ?_
            exact b_M_against_95 C N     h21 v20 _ _ ls w  (lv_sub hl [] rfl) e19
        · refine lv_ldc2 hx hb hown (hts _ (List.mem_cons_of_mem _ gw_48_23)) dX12_against_67 ?_
          exact w_lret C w e12 dX12_against_70
      · refine lv_aload_n hx hb dX12_against_44 rfl (lv_at hl 0 rfl) ?_
        refine lv_iconst (v := 2) hx hb dX12_against_45 (by decide) ?_
        refine w_VI GW_good (n := 1) (F := 0) (Lc := 0) (o := some th) (av := [.int (2 : Int32)]) (rest := []) C w rfl (by decide) (fun a r g hf => k_M_fail l D cy z N h7 a (2 : Int32) r g hf) gw_25_4 gw_25_5 gw_25_6 gw_1_5 gw_25_7 (by decide +kernel) ⟨Nat.le_of_ble_eq_true rfl, Nat.le_of_ble_eq_true rfl⟩ rfl hl.1 rfl (Nat.le_of_ble_eq_true rfl) dX12_against_46 (fun a => (sh_M_fail N h7 a (2 : Int32))) ⟨by decide, by decide⟩ e7 (fun v22 h23 H locs w hsh23 e20 => ?_)
        refine lv_i2l hx hb dX12_against_49 rfl ?_
        exact w_lret C w e20 dX12_against_50
    · exact b_M_against_23 C N     h5 th _ _ ls w  (lv_sub hl [0] rfl) e5
set_option maxRecDepth 20000 in
set_option maxHeartbeats 4000000 in
theorem k_M_splitNow (l : Launch) (D : va_G) (cy : cyT) (z : Nat) (N : Nat) (h : hS) (th : Nat) (x1 : Int32) (x2 : Int32) (x3 : Int32) (r : Int64) (g : hS) (hE : f_M_splitNow N h th x1 x2 x3 = some (r, g)) : ct l yX12_splitNow (Cond.code yX12_splitNow cX12_splitNow 4 ((some .long)) :: GW) { frames := 8, cells := 0, slots := 0, locals := 215 } D cy z h [.ref th, .int x1, .int x2, .int x3] (rJ r) g := by
  refine Met.ofW (cc := cX12_splitNow) (maxL := 4) (ret := (some .long)) (by decide) rfl ?_
  intro p e s m args below meth c s₁ B hml hv
  obtain ⟨rfl, hw⟩ := hv
  have C : MX p s m ([.ref th, .int x1, .int x2, .int x3] : List Value).toArray meth c cX12_splitNow 4 ((some .long)) RX12 (Cond.code yX12_splitNow cX12_splitNow 4 ((some .long)) :: GW) := ⟨B.exec, B.bytes, B.returns, hml, findClass_of_methodNamed B.named, atoms_spec (ws := Cond.code yX12_splitNow cX12_splitNow 4 ((some .long)) :: GW) B.pre, B.notSynchronized⟩
  obtain ⟨hx, hb, hr, hml, hown, hts, hlk⟩ := id C
  have w := wd_of hw
  obtain ⟨ls, hen, hl⟩ : ∃ ls : Array Slot, entryFrame m ([.ref th, .int x1, .int x2, .int x3] : List Value).toArray 4 = F0 m 0 ls [] ∧ lv_has ls 4 [(0, .ref th), (1, .int x1), (2, .int x2), (3, .int x3)] := by
    exact ⟨_, lg_entry_eq _ _ _, lv_entry _ (Nat.le_of_ble_eq_true rfl)⟩
  rw [hen]
  unfold f_M_splitNow at hE
  refine lv_aload_n hx hb dX12_splitNow_0 rfl (lv_at hl 0 rfl) ?_
  refine lv_iload_n hx hb dX12_splitNow_1 rfl (lv_at hl 1 rfl) ?_
  refine lv_iload_n hx hb dX12_splitNow_2 rfl (lv_at hl 2 rfl) ?_
  refine w_VV GW_good (n := 2) (F := 7) (Lc := 193) (o := some th) (av := [.int x1, .int x2]) (rest := []) C w rfl (by decide) (fun a r g hf => k_M_tellBoth l D cy z N h a x1 x2 r g hf) gw_44_3 gw_44_4 gw_44_5 gw_1_5 gw_44_6 (by decide +kernel) ⟨Nat.le_of_ble_eq_true rfl, Nat.le_of_ble_eq_true rfl⟩ rfl hl.1 rfl (Nat.le_of_ble_eq_true rfl) dX12_splitNow_3 (fun a => (sh_M_tellBoth N h a x1 x2)) ⟨by decide, by decide⟩ hE (fun v1 h2 H locs w hsh2 e1 => ?_)
  refine lv_aload_n hx hb dX12_splitNow_6 rfl (lv_at hl 0 rfl) ?_
  refine w_VV GW_good (n := 0) (F := 0) (Lc := 0) (o := some th) (av := []) (rest := []) C w rfl (by decide) (fun a r g hf => k_M_clearStands l D cy z N h2 a  r g hf) gw_44_7 gw_44_8 gw_44_9 gw_1_5 gw_44_10 (by decide +kernel) ⟨Nat.le_of_ble_eq_true rfl, Nat.le_of_ble_eq_true rfl⟩ rfl hl.1 rfl (Nat.le_of_ble_eq_true rfl) dX12_splitNow_7 (fun a => (sh_M_clearStands N h2 a )) ⟨by decide, by decide⟩ e1 (fun v3 h4 H locs w hsh4 e2 => ?_)
  refine lv_aload_n hx hb dX12_splitNow_10 rfl (lv_at hl 0 rfl) ?_
  refine lv_aload_n hx hb dX12_splitNow_11 rfl (lv_at hl 0 rfl) ?_
  refine w_gR (r := some th) (ci := 0) (k := 4) C w rfl (by decide) (GF_wsX120 _) (by decide) rfl (List.mem_cons_of_mem _ gw_6_23) rfl dX12_splitNow_12 e2 (fun v5 e3 => ?_)
  obtain ⟨q6, eq6, e4⟩ := nn_some e3
  subst eq6
  refine w_VV GW_good (n := 1) (F := 2) (Lc := 44) (o := some th) (av := [.ref q6]) (rest := []) C w rfl (by decide) (fun a r g hf => k_M_addStands l D cy z N h4 a q6 r g hf) gw_44_13 gw_44_14 gw_44_15 gw_1_5 gw_44_16 (by decide +kernel) ⟨Nat.le_of_ble_eq_true rfl, Nat.le_of_ble_eq_true rfl⟩ rfl hl.1 rfl (Nat.le_of_ble_eq_true rfl) dX12_splitNow_15 (fun a => (sh_M_addStands N h4 a q6)) ⟨by decide, by decide⟩ e4 (fun v7 h8 H locs w hsh8 e5 => ?_)
  refine lv_aload_n hx hb dX12_splitNow_18 rfl (lv_at hl 0 rfl) ?_
  refine lv_aload_n hx hb dX12_splitNow_19 rfl (lv_at hl 0 rfl) ?_
  refine w_gR (r := some th) (ci := 0) (k := 5) C w rfl (by decide) (GF_wsX120 _) (by decide) rfl (List.mem_cons_of_mem _ gw_7_0) rfl dX12_splitNow_20 e5 (fun v9 e6 => ?_)
  obtain ⟨q10, eq10, e7⟩ := nn_some e6
  subst eq10
  refine w_VV GW_good (n := 1) (F := 2) (Lc := 44) (o := some th) (av := [.ref q10]) (rest := []) C w rfl (by decide) (fun a r g hf => k_M_addStands l D cy z N h8 a q10 r g hf) gw_44_13 gw_44_14 gw_44_15 gw_1_5 gw_44_16 (by decide +kernel) ⟨Nat.le_of_ble_eq_true rfl, Nat.le_of_ble_eq_true rfl⟩ rfl hl.1 rfl (Nat.le_of_ble_eq_true rfl) dX12_splitNow_23 (fun a => (sh_M_addStands N h8 a q10)) ⟨by decide, by decide⟩ e7 (fun v11 h12 H locs w hsh12 e8 => ?_)
  refine lv_aload_n hx hb dX12_splitNow_26 rfl (lv_at hl 0 rfl) ?_
  refine lv_iload_n hx hb dX12_splitNow_27 rfl (lv_at hl 3 rfl) ?_
  refine w_VJ GW_good (n := 1) (F := 0) (Lc := 0) (o := some th) (av := [.int x3]) (rest := []) C w rfl (by decide) (fun a r g hf => k_M_together l D cy z N h12 a x3 r g hf) gw_44_20 gw_44_21 gw_44_22 gw_1_5 gw_44_23 (by decide +kernel) ⟨Nat.le_of_ble_eq_true rfl, Nat.le_of_ble_eq_true rfl⟩ rfl hl.1 rfl (Nat.le_of_ble_eq_true rfl) dX12_splitNow_28 (fun a => (sh_M_together N h12 a x3)) ⟨by decide, by decide⟩ e8 (fun v13 h14 H locs w hsh14 e9 => ?_)
  exact w_lret C w e9 dX12_splitNow_31
set_option maxRecDepth 20000 in
set_option maxHeartbeats 4000000 in
theorem b_M_split_36 {p : Program} {l : Launch} {e : Env} {s : State} {m : MethodId} {args : Array Value} {below : List Frame} {meth : Method} {c : Code} {D : va_G} {cy : cyT} {z : Nat} (C : MX p s m args meth c cX12_split 5 ((some .long)) RX12 (Cond.code yX12_split cX12_split 5 ((some .long)) :: GW)) (N : Nat) {r : Int64} {g : hS}  : ∀  (h : hS) (y0 : Int64) (H : Heap) (locs : List Loc) (ls : Array Slot), wd D cy z s 0 h H locs → lv_has ls 5 [] → f_M_split_36 N   h y0 = some (r, g) → W p l e { frames := 9, cells := 0, slots := 0, locals := 238 } s m args below meth c H locs 0 0 (MQ below (eQ D cy z (rJ r) g) args s 0 0 (fun q => z ≤ q)) (F0 m 36 ls [.long y0]) := by
  obtain ⟨hx, hb, hr, hml, hown, hts, hlk⟩ := id C
  intro  h y0 H locs ls w  hl hE
  unfold f_M_split_36 at hE
  exact w_lret C w hE dX12_split_36
set_option maxRecDepth 20000 in
set_option maxHeartbeats 4000000 in
theorem k_M_split (l : Launch) (D : va_G) (cy : cyT) (z : Nat) (N : Nat) (h : hS) (th : Nat) (x1 : Int32) (x2 : Int32) (x3 : Int32) (r : Int64) (g : hS) (hE : f_M_split N h th x1 x2 x3 = some (r, g)) : ct l yX12_split (Cond.code yX12_split cX12_split 5 ((some .long)) :: GW) { frames := 9, cells := 0, slots := 0, locals := 238 } D cy z h [.ref th, .int x1, .int x2, .int x3] (rJ r) g := by
  refine Met.ofW (cc := cX12_split) (maxL := 5) (ret := (some .long)) (by decide) rfl ?_
  intro p e s m args below meth c s₁ B hml hv
  obtain ⟨rfl, hw⟩ := hv
  have C : MX p s m ([.ref th, .int x1, .int x2, .int x3] : List Value).toArray meth c cX12_split 5 ((some .long)) RX12 (Cond.code yX12_split cX12_split 5 ((some .long)) :: GW) := ⟨B.exec, B.bytes, B.returns, hml, findClass_of_methodNamed B.named, atoms_spec (ws := Cond.code yX12_split cX12_split 5 ((some .long)) :: GW) B.pre, B.notSynchronized⟩
  obtain ⟨hx, hb, hr, hml, hown, hts, hlk⟩ := id C
  have w := wd_of hw
  obtain ⟨ls, hen, hl⟩ : ∃ ls : Array Slot, entryFrame m ([.ref th, .int x1, .int x2, .int x3] : List Value).toArray 5 = F0 m 0 ls [] ∧ lv_has ls 5 [(0, .ref th), (1, .int x1), (2, .int x2), (3, .int x3)] := by
    exact ⟨_, lg_entry_eq _ _ _, lv_entry _ (Nat.le_of_ble_eq_true rfl)⟩
  rw [hen]
  unfold f_M_split at hE
  refine lv_aload_n hx hb dX12_split_0 rfl (lv_at hl 0 rfl) ?_
  refine lv_iconst (v := 0) hx hb dX12_split_1 (by decide) ?_
  refine w_pI (r := some th) (ci := 0) (k := 1) C w rfl (by decide) (by unfold roK; omega) (GF_wsX120 _) tyX12 tyX12_ok nmX12 (by decide) rfl (List.mem_cons_of_mem _ gw_8_18) rfl rfl (tyX12_ok 1 (by decide)) dX12_split_2 hE (fun h1 H locs w hsh1 e1 => ?_)
  refine lv_aload_n hx hb dX12_split_5 rfl (lv_at hl 0 rfl) ?_
  refine lv_iload_n hx hb dX12_split_6 rfl (lv_at hl 1 rfl) ?_
  refine lv_iload_n hx hb dX12_split_7 rfl (lv_at hl 2 rfl) ?_
  refine lv_iload_n hx hb dX12_split_8 rfl (lv_at hl 3 rfl) ?_
  refine w_VI GW_good (n := 3) (F := 2) (Lc := 46) (o := some th) (av := [.int x1, .int x2, .int x3]) (rest := []) C w rfl (by decide) (fun a r g hf => k_M_refusal l D cy z N h1 a x1 x2 x3 r g hf) gw_43_19 gw_43_20 gw_43_21 gw_1_5 gw_43_22 (by decide +kernel) ⟨Nat.le_of_ble_eq_true rfl, Nat.le_of_ble_eq_true rfl⟩ rfl hl.1 rfl (Nat.le_of_ble_eq_true rfl) dX12_split_9 (fun a => (sh_M_refusal N h1 a x1 x2 x3)) ⟨by decide, by decide⟩ e1 (fun v2 h3 H locs w hsh3 e2 => ?_)
  refine lv_istore (lv' := [(4, .int v2), (0, .ref th), (1, .int x1), (2, .int x2), (3, .int x3)]) hx hb dX12_split_12 hl (by decide) rfl (fun ls hl => ?_)
  refine lv_iload hx hb dX12_split_14 (lv_at hl 0 rfl) ?_
  refine w_if_le (tgt := 29) C dX12_split_16 (by decide) e2 (fun hc e3 => ?_) (fun hc e3 => ?_)
  · refine lv_aload_n hx hb dX12_split_29 rfl (lv_at hl 1 rfl) ?_
    refine lv_iload_n hx hb dX12_split_30 rfl (lv_at hl 2 rfl) ?_
    refine lv_iload_n hx hb dX12_split_31 rfl (lv_at hl 3 rfl) ?_
    refine lv_iload_n hx hb dX12_split_32 rfl (lv_at hl 4 rfl) ?_
    refine w_VJ GW_good (n := 3) (F := 8) (Lc := 215) (o := some th) (av := [.int x1, .int x2, .int x3]) (rest := []) C w rfl (by decide) (fun a r g hf => k_M_splitNow l D cy z N h3 a x1 x2 x3 r g hf) gw_43_23 gw_44_0 gw_44_1 gw_1_5 gw_44_2 (by decide +kernel) ⟨Nat.le_of_ble_eq_true rfl, Nat.le_of_ble_eq_true rfl⟩ rfl hl.1 rfl (Nat.le_of_ble_eq_true rfl) dX12_split_33 (fun a => (sh_M_splitNow N h3 a x1 x2 x3)) ⟨by decide, by decide⟩ e3 (fun v4 h5 H locs w hsh5 e4 => ?_)
    exact b_M_split_36 C N     h5 v4 _ _ ls w  (lv_sub hl [] rfl) e4
  · refine lv_aload_n hx hb dX12_split_19 rfl (lv_at hl 1 rfl) ?_
    refine lv_iload hx hb dX12_split_20 (lv_at hl 0 rfl) ?_
    refine w_VI GW_good (n := 1) (F := 0) (Lc := 0) (o := some th) (av := [.int v2]) (rest := []) C w rfl (by decide) (fun a r g hf => k_M_fail l D cy z N h3 a v2 r g hf) gw_25_4 gw_25_5 gw_25_6 gw_1_5 gw_25_7 (by decide +kernel) ⟨Nat.le_of_ble_eq_true rfl, Nat.le_of_ble_eq_true rfl⟩ rfl hl.1 rfl (Nat.le_of_ble_eq_true rfl) dX12_split_22 (fun a => (sh_M_fail N h3 a v2)) ⟨by decide, by decide⟩ e3 (fun v6 h7 H locs w hsh7 e5 => ?_)
    refine lv_i2l hx hb dX12_split_25 rfl ?_
    refine lv_goto (tgt := 36) hx hb dX12_split_26 (by decide) ?_
    exact b_M_split_36 C N     h7 v6.toInt64 _ _ ls w  (lv_sub hl [] rfl) e5
set_option maxRecDepth 20000 in
set_option maxHeartbeats 4000000 in
theorem k_M_where (l : Launch) (D : va_G) (cy : cyT) (z : Nat) (N : Nat) (h : hS) (th : Nat) (x1 : Int32) (x2 : Int32) (x3 : Int32) (r : Int32) (g : hS) (hE : f_M_where N h th x1 x2 x3 = some (r, g)) : ct l yX12_where (Cond.code yX12_where cX12_where 9 ((some .int)) :: GW) { frames := 9, cells := 0, slots := 0, locals := 238 } D cy z h [.ref th, .int x1, .int x2, .int x3] (rI r) g := by
  refine Met.ofW (cc := cX12_where) (maxL := 9) (ret := (some .int)) (by decide) rfl ?_
  intro p e s m args below meth c s₁ B hml hv
  obtain ⟨rfl, hw⟩ := hv
  have C : MX p s m ([.ref th, .int x1, .int x2, .int x3] : List Value).toArray meth c cX12_where 9 ((some .int)) RX12 (Cond.code yX12_where cX12_where 9 ((some .int)) :: GW) := ⟨B.exec, B.bytes, B.returns, hml, findClass_of_methodNamed B.named, atoms_spec (ws := Cond.code yX12_where cX12_where 9 ((some .int)) :: GW) B.pre, B.notSynchronized⟩
  obtain ⟨hx, hb, hr, hml, hown, hts, hlk⟩ := id C
  have w := wd_of hw
  obtain ⟨ls, hen, hl⟩ : ∃ ls : Array Slot, entryFrame m ([.ref th, .int x1, .int x2, .int x3] : List Value).toArray 9 = F0 m 0 ls [] ∧ lv_has ls 9 [(0, .ref th), (1, .int x1), (2, .int x2), (3, .int x3)] := by
    exact ⟨_, lg_entry_eq _ _ _, lv_entry _ (Nat.le_of_ble_eq_true rfl)⟩
  rw [hen]
  unfold f_M_where at hE
  refine lv_aload_n hx hb dX12_where_0 rfl (lv_at hl 0 rfl) ?_
  refine lv_iconst (v := 0) hx hb dX12_where_1 (by decide) ?_
  refine w_pI (r := some th) (ci := 0) (k := 1) C w rfl (by decide) (by unfold roK; omega) (GF_wsX120 _) tyX12 tyX12_ok nmX12 (by decide) rfl (List.mem_cons_of_mem _ gw_8_18) rfl rfl (tyX12_ok 1 (by decide)) dX12_where_2 hE (fun h1 H locs w hsh1 e1 => ?_)
  refine lv_aload_n hx hb dX12_where_5 rfl (lv_at hl 0 rfl) ?_
  refine lv_iload_n hx hb dX12_where_6 rfl (lv_at hl 1 rfl) ?_
  refine lv_iload_n hx hb dX12_where_7 rfl (lv_at hl 2 rfl) ?_
  refine lv_iload_n hx hb dX12_where_8 rfl (lv_at hl 3 rfl) ?_
  refine w_VI GW_good (n := 3) (F := 2) (Lc := 46) (o := some th) (av := [.int x1, .int x2, .int x3]) (rest := []) C w rfl (by decide) (fun a r g hf => k_M_refusal l D cy z N h1 a x1 x2 x3 r g hf) gw_43_19 gw_43_20 gw_43_21 gw_1_5 gw_43_22 (by decide +kernel) ⟨Nat.le_of_ble_eq_true rfl, Nat.le_of_ble_eq_true rfl⟩ rfl hl.1 rfl (Nat.le_of_ble_eq_true rfl) dX12_where_9 (fun a => (sh_M_refusal N h1 a x1 x2 x3)) ⟨by decide, by decide⟩ e1 (fun v2 h3 H locs w hsh3 e2 => ?_)
  refine lv_istore (lv' := [(4, .int v2), (0, .ref th), (1, .int x1), (2, .int x2), (3, .int x3)]) hx hb dX12_where_12 hl (by decide) rfl (fun ls hl => ?_)
  refine lv_iload hx hb dX12_where_14 (lv_at hl 0 rfl) ?_
  refine w_if_le (tgt := 26) C dX12_where_16 (by decide) e2 (fun hc e3 => ?_) (fun hc e3 => ?_)
  · refine lv_aload_n hx hb dX12_where_26 rfl (lv_at hl 1 rfl) ?_
    refine lv_iload_n hx hb dX12_where_27 rfl (lv_at hl 2 rfl) ?_
    refine lv_iload_n hx hb dX12_where_28 rfl (lv_at hl 3 rfl) ?_
    refine lv_iload_n hx hb dX12_where_29 rfl (lv_at hl 4 rfl) ?_
    refine w_VJ GW_good (n := 3) (F := 8) (Lc := 215) (o := some th) (av := [.int x1, .int x2, .int x3]) (rest := []) C w rfl (by decide) (fun a r g hf => k_M_splitNow l D cy z N h3 a x1 x2 x3 r g hf) gw_43_23 gw_44_0 gw_44_1 gw_1_5 gw_44_2 (by decide +kernel) ⟨Nat.le_of_ble_eq_true rfl, Nat.le_of_ble_eq_true rfl⟩ rfl hl.1 rfl (Nat.le_of_ble_eq_true rfl) dX12_where_30 (fun a => (sh_M_splitNow N h3 a x1 x2 x3)) ⟨by decide, by decide⟩ e3 (fun v4 h5 H locs w hsh5 e4 => ?_)
    refine lv_lstore (lv' := [(5, .long v4), (4, .int v2), (0, .ref th), (1, .int x1), (2, .int x2), (3, .int x3)]) hx hb dX12_where_33 hl (by decide) rfl (fun ls hl => ?_)
    refine lv_aload_n hx hb dX12_where_35 rfl (lv_at hl 2 rfl) ?_
    refine w_gR (r := some th) (ci := 0) (k := 4) C w rfl (by decide) (GF_wsX120 _) (by decide) rfl (List.mem_cons_of_mem _ gw_6_23) rfl dX12_where_36 e4 (fun v6 e5 => ?_)
    refine lv_aload_n hx hb dX12_where_39 rfl (lv_at hl 2 rfl) ?_
    refine w_gI (r := some th) (ci := 0) (k := 35) C w rfl (by decide) (GF_wsX120 _) (by decide) rfl (List.mem_cons_of_mem _ gw_45_0) rfl dX12_where_40 e5 (fun v7 e6 => ?_)
    obtain ⟨q8, eq8, e7⟩ := nn_some e6
    subst eq8
    refine w_SI GW_good (n := 2) (F := 0) (Lc := 0) (av := [.ref q8, .int v7]) (rest := []) C w (fun r g hf => k_M_turnsTo l D cy z N h5 q8 v7 r g hf) gw_29_0 gw_29_1 gw_1_5 gw_29_2 (by decide +kernel) ⟨Nat.le_of_ble_eq_true rfl, Nat.le_of_ble_eq_true rfl⟩ rfl hl.1 rfl (Nat.le_of_ble_eq_true rfl) dX12_where_43 (sh_M_turnsTo N h5 q8 v7) ⟨by decide, by decide⟩ e7 (fun v9 h10 H locs w hsh10 e8 => ?_)
    refine lv_iload_n hx hb dX12_where_46 rfl (lv_at hl 5 rfl) ?_
    refine lv_aload_n hx hb dX12_where_47 rfl (lv_at hl 2 rfl) ?_
    refine w_gR (r := some th) (ci := 0) (k := 5) C w rfl (by decide) (GF_wsX120 _) (by decide) rfl (List.mem_cons_of_mem _ gw_7_0) rfl dX12_where_48 e8 (fun v11 e9 => ?_)
    refine lv_aload_n hx hb dX12_where_51 rfl (lv_at hl 2 rfl) ?_
    refine w_gI (r := some th) (ci := 0) (k := 35) C w rfl (by decide) (GF_wsX120 _) (by decide) rfl (List.mem_cons_of_mem _ gw_45_0) rfl dX12_where_52 e9 (fun v12 e10 => ?_)
    refine lv_iconst (v := 1) hx hb dX12_where_55 (by decide) ?_
    refine lv_iadd hx hb dX12_where_56 ?_
    obtain ⟨q13, eq13, e11⟩ := nn_some e10
    subst eq13
    refine w_SI GW_good (n := 2) (F := 0) (Lc := 0) (av := [.ref q13, .int (v12 + (1 : Int32))]) (rest := [.int x3, .int v9]) C w (fun r g hf => k_M_turnsTo l D cy z N h10 q13 (v12 + (1 : Int32)) r g hf) gw_29_0 gw_29_1 gw_1_5 gw_29_2 (by decide +kernel) ⟨Nat.le_of_ble_eq_true rfl, Nat.le_of_ble_eq_true rfl⟩ rfl hl.1 rfl (Nat.le_of_ble_eq_true rfl) dX12_where_57 (sh_M_turnsTo N h10 q13 (v12 + (1 : Int32))) ⟨by decide, by decide⟩ e11 (fun v14 h15 H locs w hsh15 e12 => ?_)
    refine lv_isub hx hb dX12_where_60 ?_
    refine w_mmax C hl.1 (List.mem_cons_of_mem _ gw_30_14) (List.mem_cons_of_mem _ gw_30_15) (List.mem_cons_of_mem _ gw_10_7) (List.mem_cons_of_mem _ gw_30_16) (Nat.le_of_ble_eq_true rfl) (Nat.le_of_ble_eq_true rfl) (by decide) (by decide) dX12_where_61 ?_
    refine w_bnI e12 (fun v16 e13 => ?_)
    refine lv_istore (lv' := [(7, .int v16), (5, .long v4), (4, .int v2), (0, .ref th), (1, .int x1), (2, .int x2), (3, .int x3)]) hx hb dX12_where_64 hl (by decide) rfl (fun ls hl => ?_)
    refine lv_aload_n hx hb dX12_where_66 rfl (lv_at hl 3 rfl) ?_
    refine w_gR (r := some th) (ci := 0) (k := 4) C w rfl (by decide) (GF_wsX120 _) (by decide) rfl (List.mem_cons_of_mem _ gw_6_23) rfl dX12_where_67 e13 (fun v17 e14 => ?_)
    refine lv_aload_n hx hb dX12_where_70 rfl (lv_at hl 3 rfl) ?_
    refine w_gI (r := some th) (ci := 0) (k := 35) C w rfl (by decide) (GF_wsX120 _) (by decide) rfl (List.mem_cons_of_mem _ gw_45_0) rfl dX12_where_71 e14 (fun v18 e15 => ?_)
    refine lv_iconst (v := 1) hx hb dX12_where_74 (by decide) ?_
    refine lv_iadd hx hb dX12_where_75 ?_
    obtain ⟨q19, eq19, e16⟩ := nn_some e15
    subst eq19
    refine w_SI GW_good (n := 2) (F := 0) (Lc := 0) (av := [.ref q19, .int (v18 + (1 : Int32))]) (rest := []) C w (fun r g hf => k_M_turnsTo l D cy z N h15 q19 (v18 + (1 : Int32)) r g hf) gw_29_0 gw_29_1 gw_1_5 gw_29_2 (by decide +kernel) ⟨Nat.le_of_ble_eq_true rfl, Nat.le_of_ble_eq_true rfl⟩ rfl hl.1 rfl (Nat.le_of_ble_eq_true rfl) dX12_where_76 (sh_M_turnsTo N h15 q19 (v18 + (1 : Int32))) ⟨by decide, by decide⟩ e16 (fun v20 h21 H locs w hsh21 e17 => ?_)
    refine lv_iload_n hx hb dX12_where_79 rfl (lv_at hl 6 rfl) ?_
    refine lv_aload_n hx hb dX12_where_80 rfl (lv_at hl 3 rfl) ?_
    refine w_gR (r := some th) (ci := 0) (k := 5) C w rfl (by decide) (GF_wsX120 _) (by decide) rfl (List.mem_cons_of_mem _ gw_7_0) rfl dX12_where_81 e17 (fun v22 e18 => ?_)
    refine lv_aload_n hx hb dX12_where_84 rfl (lv_at hl 3 rfl) ?_
    refine w_gI (r := some th) (ci := 0) (k := 35) C w rfl (by decide) (GF_wsX120 _) (by decide) rfl (List.mem_cons_of_mem _ gw_45_0) rfl dX12_where_85 e18 (fun v23 e19 => ?_)
    obtain ⟨q24, eq24, e20⟩ := nn_some e19
    subst eq24
    refine w_SI GW_good (n := 2) (F := 0) (Lc := 0) (av := [.ref q24, .int v23]) (rest := [.int x3, .int v20]) C w (fun r g hf => k_M_turnsTo l D cy z N h21 q24 v23 r g hf) gw_29_0 gw_29_1 gw_1_5 gw_29_2 (by decide +kernel) ⟨Nat.le_of_ble_eq_true rfl, Nat.le_of_ble_eq_true rfl⟩ rfl hl.1 rfl (Nat.le_of_ble_eq_true rfl) dX12_where_88 (sh_M_turnsTo N h21 q24 v23) ⟨by decide, by decide⟩ e20 (fun v25 h26 H locs w hsh26 e21 => ?_)
    refine lv_isub hx hb dX12_where_91 ?_
    refine w_mmin C hl.1 (List.mem_cons_of_mem _ gw_25_15) (List.mem_cons_of_mem _ gw_10_6) (List.mem_cons_of_mem _ gw_10_7) (List.mem_cons_of_mem _ gw_10_8) (Nat.le_of_ble_eq_true rfl) (Nat.le_of_ble_eq_true rfl) (by decide) (by decide) dX12_where_92 ?_
    refine w_bnI e21 (fun v27 e22 => ?_)
    refine lv_istore (lv' := [(8, .int v27), (7, .int v16), (5, .long v4), (4, .int v2), (0, .ref th), (1, .int x1), (2, .int x2), (3, .int x3)]) hx hb dX12_where_95 hl (by decide) rfl (fun ls hl => ?_)
    refine lv_iload hx hb dX12_where_97 (lv_at hl 1 rfl) ?_
    refine lv_iload hx hb dX12_where_99 (lv_at hl 0 rfl) ?_
    refine lv_iconst (v := 0) hx hb dX12_where_101 (by decide) ?_
    refine w_SI GW_good (n := 3) (F := 0) (Lc := 0) (av := [.int v16, .int v27, .int (0 : Int32)]) (rest := []) C w (fun r g hf => k_M_nearest l D cy z N h26 v16 v27 (0 : Int32) r g hf) gw_30_20 gw_30_21 gw_1_5 gw_30_22 (by decide +kernel) ⟨Nat.le_of_ble_eq_true rfl, Nat.le_of_ble_eq_true rfl⟩ rfl hl.1 rfl (Nat.le_of_ble_eq_true rfl) dX12_where_102 (sh_M_nearest N h26 v16 v27 (0 : Int32)) ⟨by decide, by decide⟩ e22 (fun v28 h29 H locs w hsh29 e23 => ?_)
    exact w_iret C w e23 dX12_where_105
  · refine lv_aload_n hx hb dX12_where_19 rfl (lv_at hl 1 rfl) ?_
    refine lv_iload hx hb dX12_where_20 (lv_at hl 0 rfl) ?_
    refine w_VI GW_good (n := 1) (F := 0) (Lc := 0) (o := some th) (av := [.int v2]) (rest := []) C w rfl (by decide) (fun a r g hf => k_M_fail l D cy z N h3 a v2 r g hf) gw_25_4 gw_25_5 gw_25_6 gw_1_5 gw_25_7 (by decide +kernel) ⟨Nat.le_of_ble_eq_true rfl, Nat.le_of_ble_eq_true rfl⟩ rfl hl.1 rfl (Nat.le_of_ble_eq_true rfl) dX12_where_22 (fun a => (sh_M_fail N h3 a v2)) ⟨by decide, by decide⟩ e3 (fun v30 h31 H locs w hsh31 e24 => ?_)
    exact w_iret C w e24 dX12_where_25
set_option maxRecDepth 20000 in
set_option maxHeartbeats 4000000 in
theorem b_M_shared_24 {p : Program} {l : Launch} {e : Env} {s : State} {m : MethodId} {args : Array Value} {below : List Frame} {meth : Method} {c : Code} {D : va_G} {cy : cyT} {z : Nat} (C : MX p s m args meth c cX12_shared 4 ((some .long)) RX12 (Cond.code yX12_shared cX12_shared 4 ((some .long)) :: GW)) (N : Nat) {r : Int64} {g : hS}  : ∀  (h : hS) (th : Nat) (H : Heap) (locs : List Loc) (ls : Array Slot), wd D cy z s 0 h H locs → lv_has ls 4 [(0, .ref th)] → f_M_shared_24 N   h th = some (r, g) → W p l e { frames := 7, cells := 0, slots := 0, locals := 193 } s m args below meth c H locs 0 0 (MQ below (eQ D cy z (rJ r) g) args s 0 0 (fun q => z ≤ q)) (F0 m 24 ls []) := by
  obtain ⟨hx, hb, hr, hml, hown, hts, hlk⟩ := id C
  intro  h th H locs ls w  hl hE
  unfold f_M_shared_24 at hE
  refine lv_aload_n hx hb dX12_shared_24 rfl (lv_at hl 0 rfl) ?_
  refine lv_iconst (v := 1) hx hb dX12_shared_25 (by decide) ?_
  refine w_VI GW_good (n := 1) (F := 0) (Lc := 0) (o := some th) (av := [.int (1 : Int32)]) (rest := []) C w rfl (by decide) (fun a r g hf => k_M_fail l D cy z N h a (1 : Int32) r g hf) gw_25_4 gw_25_5 gw_25_6 gw_1_5 gw_25_7 (by decide +kernel) ⟨Nat.le_of_ble_eq_true rfl, Nat.le_of_ble_eq_true rfl⟩ rfl hl.1 rfl (Nat.le_of_ble_eq_true rfl) dX12_shared_26 (fun a => (sh_M_fail N h a (1 : Int32))) ⟨by decide, by decide⟩ hE (fun v1 h2 H locs w hsh2 e1 => ?_)
  refine lv_i2l hx hb dX12_shared_29 rfl ?_
  exact w_lret C w e1 dX12_shared_30
set_option maxRecDepth 20000 in
set_option maxHeartbeats 4000000 in
theorem b_M_shared_66 {p : Program} {l : Launch} {e : Env} {s : State} {m : MethodId} {args : Array Value} {below : List Frame} {meth : Method} {c : Code} {D : va_G} {cy : cyT} {z : Nat} (C : MX p s m args meth c cX12_shared 4 ((some .long)) RX12 (Cond.code yX12_shared cX12_shared 4 ((some .long)) :: GW)) (N : Nat) {r : Int64} {g : hS} {rc37 : hS → Nat → Int32 → Int32 → Int32 → Option (Int64 × hS)}  (hrc37 : ∀ (h : hS) (th : Nat) (x1 : Int32) (x2 : Int32) (x3 : Int32) (H : Heap) (locs : List Loc) (ls : Array Slot), wd D cy z s 0 h H locs → lv_has ls 4 [(0, .ref th), (1, .int x1), (2, .int x2), (3, .int x3)] → rc37 h th x1 x2 x3 = some (r, g) → W p l e { frames := 7, cells := 0, slots := 0, locals := 193 } s m args below meth c H locs 0 0 (MQ below (eQ D cy z (rJ r) g) args s 0 0 (fun q => z ≤ q)) (F0 m 37 ls [])) : ∀  (h : hS) (th : Nat) (x1 : Int32) (x2 : Int32) (x3 : Int32) (H : Heap) (locs : List Loc) (ls : Array Slot), wd D cy z s 0 h H locs → lv_has ls 4 [(0, .ref th), (1, .int x1), (2, .int x2), (3, .int x3)] → f_M_shared_66 N rc37  h th x1 x2 x3 = some (r, g) → W p l e { frames := 7, cells := 0, slots := 0, locals := 193 } s m args below meth c H locs 0 0 (MQ below (eQ D cy z (rJ r) g) args s 0 0 (fun q => z ≤ q)) (F0 m 66 ls []) := by
  obtain ⟨hx, hb, hr, hml, hown, hts, hlk⟩ := id C
  intro  h th x1 x2 x3 H locs ls w  hl hE
  unfold f_M_shared_66 at hE
  obtain ⟨v1, ev1, e1⟩ := bn_some hE
  refine lv_iinc (v := v1) (lv' := [(3, .int v1), (0, .ref th), (1, .int x1), (2, .int x2)]) hx hb dX12_shared_66 hl (k := 3) rfl (by rw [ev1]; rfl) (by decide) rfl (fun ls hl => ?_)
  refine lv_goto (tgt := 37) hx hb dX12_shared_69 (by decide) ?_
  exact hrc37  h th x1 x2 v1 _ _ ls w  (lv_sub hl [1, 2, 3, 0] rfl) e1
set_option maxRecDepth 20000 in
set_option maxHeartbeats 4000000 in
theorem b_M_shared_37 {p : Program} {l : Launch} {e : Env} {s : State} {m : MethodId} {args : Array Value} {below : List Frame} {meth : Method} {c : Code} {D : va_G} {cy : cyT} {z : Nat} (C : MX p s m args meth c cX12_shared 4 ((some .long)) RX12 (Cond.code yX12_shared cX12_shared 4 ((some .long)) :: GW)) (N : Nat) {r : Int64} {g : hS}  : ∀ (n : Nat) (h : hS) (th : Nat) (x1 : Int32) (x2 : Int32) (x3 : Int32) (H : Heap) (locs : List Loc) (ls : Array Slot), wd D cy z s 0 h H locs → lv_has ls 4 [(0, .ref th), (1, .int x1), (2, .int x2), (3, .int x3)] → f_M_shared_37 N  n h th x1 x2 x3 = some (r, g) → W p l e { frames := 7, cells := 0, slots := 0, locals := 193 } s m args below meth c H locs 0 0 (MQ below (eQ D cy z (rJ r) g) args s 0 0 (fun q => z ≤ q)) (F0 m 37 ls []) := by
  obtain ⟨hx, hb, hr, hml, hown, hts, hlk⟩ := id C
  intro n
  induction n with
  | zero =>
    intro  h th x1 x2 x3 H locs ls w  hl hE
    cases hE
  | succ n ih =>
    intro  h th x1 x2 x3 H locs ls w  hl hE
    unfold f_M_shared_37 at hE
    refine lv_iload_n hx hb dX12_shared_37 rfl (lv_at hl 3 rfl) ?_
    refine lv_iconst (v := 4) hx hb dX12_shared_38 (by decide) ?_
    refine w_icmp_ge (tgt := 72) C dX12_shared_39 (by decide) hE (fun hc e1 => ?_) (fun hc e1 => ?_)
    · refine lv_aload_n hx hb dX12_shared_72 rfl (lv_at hl 0 rfl) ?_
      refine lv_iload_n hx hb dX12_shared_73 rfl (lv_at hl 2 rfl) ?_
      refine w_VJ GW_good (n := 1) (F := 0) (Lc := 0) (o := some th) (av := [.int x2]) (rest := []) C w rfl (by decide) (fun a r g hf => k_M_together l D cy z N h a x2 r g hf) gw_44_20 gw_44_21 gw_44_22 gw_1_5 gw_44_23 (by decide +kernel) ⟨Nat.le_of_ble_eq_true rfl, Nat.le_of_ble_eq_true rfl⟩ rfl hl.1 rfl (Nat.le_of_ble_eq_true rfl) dX12_shared_74 (fun a => (sh_M_together N h a x2)) ⟨by decide, by decide⟩ e1 (fun v1 h2 H locs w hsh2 e2 => ?_)
      exact w_lret C w e2 dX12_shared_77
    · refine lv_iload_n hx hb dX12_shared_42 rfl (lv_at hl 1 rfl) ?_
      refine lv_iload_n hx hb dX12_shared_43 rfl (lv_at hl 3 rfl) ?_
      refine lv_ishr hx hb dX12_shared_44 ?_
      refine lv_iconst (v := 1) hx hb dX12_shared_45 (by decide) ?_
      refine lv_iand hx hb dX12_shared_46 ?_
      refine w_if_ne (tgt := 53) C dX12_shared_47 (by decide) e1 (fun hc e3 => ?_) (fun hc e3 => ?_)
      · refine lv_aload_n hx hb dX12_shared_53 rfl (lv_at hl 0 rfl) ?_
        refine lv_iload_n hx hb dX12_shared_54 rfl (lv_at hl 3 rfl) ?_
        refine w_VV GW_good (n := 1) (F := 6) (Lc := 171) (o := some th) (av := [.int x3]) (rest := []) C w rfl (by decide) (fun a r g hf => k_M_tell l D cy z N h a x3 r g hf) gw_28_9 gw_28_10 gw_28_11 gw_1_5 gw_28_12 (by decide +kernel) ⟨Nat.le_of_ble_eq_true rfl, Nat.le_of_ble_eq_true rfl⟩ rfl hl.1 rfl (Nat.le_of_ble_eq_true rfl) dX12_shared_55 (fun a => (sh_M_tell N h a x3)) ⟨by decide, by decide⟩ e3 (fun v3 h4 H locs w hsh4 e4 => ?_)
        refine lv_aload_n hx hb dX12_shared_58 rfl (lv_at hl 0 rfl) ?_
        refine lv_aload_n hx hb dX12_shared_59 rfl (lv_at hl 0 rfl) ?_
        refine w_gR (r := some th) (ci := 0) (k := 4) C w rfl (by decide) (GF_wsX120 _) (by decide) rfl (List.mem_cons_of_mem _ gw_6_23) rfl dX12_shared_60 e4 (fun v5 e5 => ?_)
        obtain ⟨q6, eq6, e6⟩ := nn_some e5
        subst eq6
        refine w_VV GW_good (n := 1) (F := 2) (Lc := 44) (o := some th) (av := [.ref q6]) (rest := []) C w rfl (by decide) (fun a r g hf => k_M_addStands l D cy z N h4 a q6 r g hf) gw_44_13 gw_44_14 gw_44_15 gw_1_5 gw_44_16 (by decide +kernel) ⟨Nat.le_of_ble_eq_true rfl, Nat.le_of_ble_eq_true rfl⟩ rfl hl.1 rfl (Nat.le_of_ble_eq_true rfl) dX12_shared_63 (fun a => (sh_M_addStands N h4 a q6)) ⟨by decide, by decide⟩ e6 (fun v7 h8 H locs w hsh8 e7 => ?_)
        exact b_M_shared_66 C N  ih   h8 th x1 x2 x3 _ _ ls w  (lv_sub hl [0, 1, 2, 3] rfl) e7
      · refine lv_goto (tgt := 66) hx hb dX12_shared_50 (by decide) ?_
        exact b_M_shared_66 C N  ih   h th x1 x2 x3 _ _ ls w  (lv_sub hl [0, 1, 2, 3] rfl) e3
set_option maxRecDepth 20000 in
set_option maxHeartbeats 4000000 in
theorem k_M_shared (l : Launch) (D : va_G) (cy : cyT) (z : Nat) (N : Nat) (h : hS) (th : Nat) (x1 : Int32) (x2 : Int32) (r : Int64) (g : hS) (hE : f_M_shared N h th x1 x2 = some (r, g)) : ct l yX12_shared (Cond.code yX12_shared cX12_shared 4 ((some .long)) :: GW) { frames := 7, cells := 0, slots := 0, locals := 193 } D cy z h [.ref th, .int x1, .int x2] (rJ r) g := by
  refine Met.ofW (cc := cX12_shared) (maxL := 4) (ret := (some .long)) (by decide) rfl ?_
  intro p e s m args below meth c s₁ B hml hv
  obtain ⟨rfl, hw⟩ := hv
  have C : MX p s m ([.ref th, .int x1, .int x2] : List Value).toArray meth c cX12_shared 4 ((some .long)) RX12 (Cond.code yX12_shared cX12_shared 4 ((some .long)) :: GW) := ⟨B.exec, B.bytes, B.returns, hml, findClass_of_methodNamed B.named, atoms_spec (ws := Cond.code yX12_shared cX12_shared 4 ((some .long)) :: GW) B.pre, B.notSynchronized⟩
  obtain ⟨hx, hb, hr, hml, hown, hts, hlk⟩ := id C
  have w := wd_of hw
  obtain ⟨ls, hen, hl⟩ : ∃ ls : Array Slot, entryFrame m ([.ref th, .int x1, .int x2] : List Value).toArray 4 = F0 m 0 ls [] ∧ lv_has ls 4 [(0, .ref th), (1, .int x1), (2, .int x2)] := by
    exact ⟨_, lg_entry_eq _ _ _, lv_entry _ (Nat.le_of_ble_eq_true rfl)⟩
  rw [hen]
  unfold f_M_shared at hE
  refine lv_aload_n hx hb dX12_shared_0 rfl (lv_at hl 0 rfl) ?_
  refine lv_iconst (v := 0) hx hb dX12_shared_1 (by decide) ?_
  refine w_pI (r := some th) (ci := 0) (k := 1) C w rfl (by decide) (by unfold roK; omega) (GF_wsX120 _) tyX12 tyX12_ok nmX12 (by decide) rfl (List.mem_cons_of_mem _ gw_8_18) rfl rfl (tyX12_ok 1 (by decide)) dX12_shared_2 hE (fun h1 H locs w hsh1 e1 => ?_)
  refine lv_iload_n hx hb dX12_shared_5 rfl (lv_at hl 1 rfl) ?_
  refine lv_i2l hx hb dX12_shared_6 rfl ?_
  refine lv_lconst (v := 1) hx hb dX12_shared_7 (by decide) ?_
  refine lv_ldc2 hx hb hown (hts _ (List.mem_cons_of_mem _ gw_46_0)) dX12_shared_8 ?_
  refine w_SI GW_good (n := 3) (F := 0) (Lc := 0) (av := [.long x1.toInt64, .long (1 : Int64), .long (15 : Int64)]) (rest := []) C w (fun r g hf => k_M_isIn l D cy z N h1 x1.toInt64 (1 : Int64) (15 : Int64) r g hf) gw_25_1 gw_25_2 gw_1_5 gw_25_3 (by decide +kernel) ⟨Nat.le_of_ble_eq_true rfl, Nat.le_of_ble_eq_true rfl⟩ rfl hl.1 rfl (Nat.le_of_ble_eq_true rfl) dX12_shared_11 (sh_M_isIn N h1 x1.toInt64 (1 : Int64) (15 : Int64)) ⟨by decide, by decide⟩ e1 (fun v2 h3 H locs w hsh3 e2 => ?_)
  refine w_if_eq (tgt := 24) C dX12_shared_14 (by decide) e2 (fun hc e3 => ?_) (fun hc e3 => ?_)
  · exact b_M_shared_24 C N     h3 th _ _ ls w  (lv_sub hl [0] rfl) e3
  · refine lv_iload_n hx hb dX12_shared_17 rfl (lv_at hl 2 rfl) ?_
    refine w_SI GW_good (n := 1) (F := 1) (Lc := 25) (av := [.int x2]) (rest := []) C w (fun r g hf => k_M_isX l D cy z N h3 x2 r g hf) gw_34_22 gw_34_23 gw_1_5 gw_35_0 (by decide +kernel) ⟨Nat.le_of_ble_eq_true rfl, Nat.le_of_ble_eq_true rfl⟩ rfl hl.1 rfl (Nat.le_of_ble_eq_true rfl) dX12_shared_18 (sh_M_isX N h3 x2) ⟨by decide, by decide⟩ e3 (fun v4 h5 H locs w hsh5 e4 => ?_)
    refine w_if_ne (tgt := 31) C dX12_shared_21 (by decide) e4 (fun hc e5 => ?_) (fun hc e5 => ?_)
    · refine lv_aload_n hx hb dX12_shared_31 rfl (lv_at hl 0 rfl) ?_
      refine w_VV GW_good (n := 0) (F := 0) (Lc := 0) (o := some th) (av := []) (rest := []) C w rfl (by decide) (fun a r g hf => k_M_clearStands l D cy z N h5 a  r g hf) gw_44_7 gw_44_8 gw_44_9 gw_1_5 gw_44_10 (by decide +kernel) ⟨Nat.le_of_ble_eq_true rfl, Nat.le_of_ble_eq_true rfl⟩ rfl hl.1 rfl (Nat.le_of_ble_eq_true rfl) dX12_shared_32 (fun a => (sh_M_clearStands N h5 a )) ⟨by decide, by decide⟩ e5 (fun v6 h7 H locs w hsh7 e6 => ?_)
      refine lv_iconst (v := 0) hx hb dX12_shared_35 (by decide) ?_
      refine lv_istore_n (lv' := [(3, .int (0 : Int32)), (0, .ref th), (1, .int x1), (2, .int x2)]) hx hb dX12_shared_36 rfl hl (by decide) rfl (fun ls hl => ?_)
      exact b_M_shared_37 C N   N  h7 th x1 x2 (0 : Int32) _ _ ls w  (lv_sub hl [1, 2, 3, 0] rfl) e6
    · exact b_M_shared_24 C N     h5 th _ _ ls w  (lv_sub hl [0] rfl) e5
set_option maxRecDepth 20000 in
set_option maxHeartbeats 4000000 in
theorem b_M_lays_44 {p : Program} {l : Launch} {e : Env} {s : State} {m : MethodId} {args : Array Value} {below : List Frame} {meth : Method} {c : Code} {D : va_G} {cy : cyT} {z : Nat} (C : MX p s m args meth c cX12_lays 6 (none) RX12 (Cond.code yX12_lays cX12_lays 6 (none) :: GW)) (N : Nat) {r : Unit} {g : hS}  : ∀ (n : Nat) (h : hS) (a0 : Nat) (a1 : Nat) (x2 : Int64) (x4 : Int32) (x5 : Int32) (H : Heap) (locs : List Loc) (ls : Array Slot), wd D cy z s 0 h H locs → lv_has ls 6 [(0, .ref a0), (1, .ref a1), (2, .long x2), (4, .int x4), (5, .int x5)] → f_M_lays_44 N  n h a0 a1 x2 x4 x5 = some (r, g) → W p l e { frames := 2, cells := 0, slots := 0, locals := 71 } s m args below meth c H locs 0 0 (MQ below (eQ D cy z (rV r) g) args s 0 0 (fun q => z ≤ q)) (F0 m 44 ls []) := by
  obtain ⟨hx, hb, hr, hml, hown, hts, hlk⟩ := id C
  intro n
  induction n with
  | zero =>
    intro  h a0 a1 x2 x4 x5 H locs ls w  hl hE
    cases hE
  | succ n ih =>
    intro  h a0 a1 x2 x4 x5 H locs ls w  hl hE
    unfold f_M_lays_44 at hE
    refine lv_iload hx hb dX12_lays_44 (lv_at hl 4 rfl) ?_
    refine lv_aload_n hx hb dX12_lays_46 rfl (lv_at hl 0 rfl) ?_
    refine w_lenJ (r := some a0) C w dX12_lays_47 hE (fun v1 e1 => ?_)
    refine w_icmp_ge (tgt := 81) C dX12_lays_48 (by decide) e1 (fun hc e2 => ?_) (fun hc e2 => ?_)
    · exact w_vret C w e2 dX12_lays_81
    · refine lv_aload_n hx hb dX12_lays_51 rfl (lv_at hl 0 rfl) ?_
      refine lv_iload hx hb dX12_lays_52 (lv_at hl 4 rfl) ?_
      refine lv_lload_n hx hb dX12_lays_54 rfl (lv_at hl 2 rfl) ?_
      refine w_uJ (r := some a0) C w dX12_lays_55 e2 (fun h2 H locs w hsh2 e3 => ?_)
      refine lv_iload hx hb dX12_lays_56 (lv_at hl 3 rfl) ?_
      refine lv_aload_n hx hb dX12_lays_58 rfl (lv_at hl 1 rfl) ?_
      refine lv_sipush (v := 4002) hx hb dX12_lays_59 (by decide) ?_
      refine lv_iload hx hb dX12_lays_62 (lv_at hl 4 rfl) ?_
      refine lv_iadd hx hb dX12_lays_64 ?_
      refine w_aI (r := some a1) C w dX12_lays_65 e3 (fun v3 e4 => ?_)
      refine lv_iadd hx hb dX12_lays_66 ?_
      refine w_bnI e4 (fun v4 e5 => ?_)
      refine lv_istore (lv' := [(4, .int v4), (0, .ref a0), (1, .ref a1), (2, .long x2), (5, .int x5)]) hx hb dX12_lays_67 hl (by decide) rfl (fun ls hl => ?_)
      refine lv_lload_n hx hb dX12_lays_69 rfl (lv_at hl 3 rfl) ?_
      refine lv_iload hx hb dX12_lays_70 (lv_at hl 0 rfl) ?_
      refine lv_i2l hx hb dX12_lays_72 rfl ?_
      refine lv_ladd hx hb dX12_lays_73 ?_
      refine w_bnJ e5 (fun v5 e6 => ?_)
      refine lv_lstore_n (lv' := [(2, .long v5), (4, .int v4), (0, .ref a0), (1, .ref a1), (5, .int x5)]) hx hb dX12_lays_74 rfl hl (by decide) rfl (fun ls hl => ?_)
      obtain ⟨v6, ev6, e7⟩ := bn_some e6
      refine lv_iinc (v := v6) (lv' := [(5, .int v6), (2, .long v5), (4, .int v4), (0, .ref a0), (1, .ref a1)]) hx hb dX12_lays_75 hl (k := 4) rfl (by rw [ev6]; rfl) (by decide) rfl (fun ls hl => ?_)
      refine lv_goto (tgt := 44) hx hb dX12_lays_78 (by decide) ?_
      exact ih  h2 a0 a1 v5 v4 v6 _ _ ls w  (lv_sub hl [3, 4, 1, 2, 0] rfl) e7
set_option maxRecDepth 20000 in
set_option maxHeartbeats 4000000 in
theorem b_M_lays_16 {p : Program} {l : Launch} {e : Env} {s : State} {m : MethodId} {args : Array Value} {below : List Frame} {meth : Method} {c : Code} {D : va_G} {cy : cyT} {z : Nat} (C : MX p s m args meth c cX12_lays 6 (none) RX12 (Cond.code yX12_lays cX12_lays 6 (none) :: GW)) (N : Nat) {r : Unit} {g : hS}  : ∀ (n : Nat) (h : hS) (a0 : Nat) (a1 : Nat) (x2 : Int64) (x4 : Int32) (x5 : Int32) (H : Heap) (locs : List Loc) (ls : Array Slot), wd D cy z s 0 h H locs → lv_has ls 6 [(0, .ref a0), (1, .ref a1), (2, .long x2), (4, .int x4), (5, .int x5)] → f_M_lays_16 N  n h a0 a1 x2 x4 x5 = some (r, g) → W p l e { frames := 2, cells := 0, slots := 0, locals := 71 } s m args below meth c H locs 0 0 (MQ below (eQ D cy z (rV r) g) args s 0 0 (fun q => z ≤ q)) (F0 m 16 ls []) := by
  obtain ⟨hx, hb, hr, hml, hown, hts, hlk⟩ := id C
  intro n
  induction n with
  | zero =>
    intro  h a0 a1 x2 x4 x5 H locs ls w  hl hE
    cases hE
  | succ n ih =>
    intro  h a0 a1 x2 x4 x5 H locs ls w  hl hE
    unfold f_M_lays_16 at hE
    refine lv_iload hx hb dX12_lays_16 (lv_at hl 4 rfl) ?_
    refine lv_sipush (v := 4000) hx hb dX12_lays_18 (by decide) ?_
    refine w_icmp_ge (tgt := 41) C dX12_lays_21 (by decide) hE (fun hc e1 => ?_) (fun hc e1 => ?_)
    · refine lv_iconst (v := 0) hx hb dX12_lays_41 (by decide) ?_
      refine lv_istore (lv' := [(5, .int (0 : Int32)), (0, .ref a0), (1, .ref a1), (2, .long x2), (4, .int x4)]) hx hb dX12_lays_42 hl (by decide) rfl (fun ls hl => ?_)
      exact b_M_lays_44 C N   N  h a0 a1 x2 x4 (0 : Int32) _ _ ls w  (lv_sub hl [1, 2, 3, 4, 0] rfl) e1
    · refine lv_iload hx hb dX12_lays_24 (lv_at hl 3 rfl) ?_
      refine lv_aload_n hx hb dX12_lays_26 rfl (lv_at hl 1 rfl) ?_
      refine lv_iconst (v := 2) hx hb dX12_lays_27 (by decide) ?_
      refine lv_iload hx hb dX12_lays_28 (lv_at hl 4 rfl) ?_
      refine lv_iadd hx hb dX12_lays_30 ?_
      refine w_aI (r := some a1) C w dX12_lays_31 e1 (fun v1 e2 => ?_)
      refine lv_iadd hx hb dX12_lays_32 ?_
      refine w_bnI e2 (fun v2 e3 => ?_)
      refine lv_istore (lv' := [(4, .int v2), (0, .ref a0), (1, .ref a1), (2, .long x2), (5, .int x5)]) hx hb dX12_lays_33 hl (by decide) rfl (fun ls hl => ?_)
      obtain ⟨v3, ev3, e4⟩ := bn_some e3
      refine lv_iinc (v := v3) (lv' := [(5, .int v3), (4, .int v2), (0, .ref a0), (1, .ref a1), (2, .long x2)]) hx hb dX12_lays_35 hl (k := 4) rfl (by rw [ev3]; rfl) (by decide) rfl (fun ls hl => ?_)
      refine lv_goto (tgt := 16) hx hb dX12_lays_38 (by decide) ?_
      exact ih  h a0 a1 x2 v2 v3 _ _ ls w  (lv_sub hl [2, 3, 4, 1, 0] rfl) e4
set_option maxRecDepth 20000 in
set_option maxHeartbeats 4000000 in
theorem k_M_lays (l : Launch) (D : va_G) (cy : cyT) (z : Nat) (N : Nat) (h : hS) (a0 : Nat) (a1 : Nat) (r : Unit) (g : hS) (hE : f_M_lays N h a0 a1 = some (r, g)) : ct l yX12_lays (Cond.code yX12_lays cX12_lays 6 (none) :: GW) { frames := 2, cells := 0, slots := 0, locals := 71 } D cy z h [.ref a0, .ref a1] (rV r) g := by
  refine Met.ofW (cc := cX12_lays) (maxL := 6) (ret := none) (by decide) rfl ?_
  intro p e s m args below meth c s₁ B hml hv
  obtain ⟨rfl, hw⟩ := hv
  have C : MX p s m ([.ref a0, .ref a1] : List Value).toArray meth c cX12_lays 6 (none) RX12 (Cond.code yX12_lays cX12_lays 6 (none) :: GW) := ⟨B.exec, B.bytes, B.returns, hml, findClass_of_methodNamed B.named, atoms_spec (ws := Cond.code yX12_lays cX12_lays 6 (none) :: GW) B.pre, B.notSynchronized⟩
  obtain ⟨hx, hb, hr, hml, hown, hts, hlk⟩ := id C
  have w := wd_of hw
  obtain ⟨ls, hen, hl⟩ : ∃ ls : Array Slot, entryFrame m ([.ref a0, .ref a1] : List Value).toArray 6 = F0 m 0 ls [] ∧ lv_has ls 6 [(0, .ref a0), (1, .ref a1)] := by
    exact ⟨_, lg_entry_eq _ _ _, lv_entry _ (Nat.le_of_ble_eq_true rfl)⟩
  rw [hen]
  unfold f_M_lays at hE
  refine lv_aload_n hx hb dX12_lays_0 rfl (lv_at hl 1 rfl) ?_
  refine lv_sipush (v := -1000) hx hb dX12_lays_1 (by decide) ?_
  refine w_SJ GW_good (n := 2) (F := 1) (Lc := 44) (av := [.ref a1, .int (-1000 : Int32)]) (rest := []) C w (fun r g hf => k_M_valueAt l D cy z N h a1 (-1000 : Int32) r g hf) gw_30_7 gw_30_8 gw_1_5 gw_30_9 (by decide +kernel) ⟨Nat.le_of_ble_eq_true rfl, Nat.le_of_ble_eq_true rfl⟩ rfl hl.1 rfl (Nat.le_of_ble_eq_true rfl) dX12_lays_4 (sh_M_valueAt N h a1 (-1000 : Int32)) ⟨by decide, by decide⟩ hE (fun v1 h2 H locs w hsh2 e1 => ?_)
  refine lv_lstore_n (lv' := [(2, .long v1), (0, .ref a0), (1, .ref a1)]) hx hb dX12_lays_7 rfl hl (by decide) rfl (fun ls hl => ?_)
  refine lv_aload_n hx hb dX12_lays_8 rfl (lv_at hl 2 rfl) ?_
  refine lv_iconst (v := 0) hx hb dX12_lays_9 (by decide) ?_
  refine w_aI (r := some a1) C w dX12_lays_10 e1 (fun v3 e2 => ?_)
  refine lv_istore (lv' := [(4, .int v3), (2, .long v1), (0, .ref a0), (1, .ref a1)]) hx hb dX12_lays_11 hl (by decide) rfl (fun ls hl => ?_)
  refine lv_iconst (v := 0) hx hb dX12_lays_13 (by decide) ?_
  refine lv_istore (lv' := [(5, .int (0 : Int32)), (4, .int v3), (2, .long v1), (0, .ref a0), (1, .ref a1)]) hx hb dX12_lays_14 hl (by decide) rfl (fun ls hl => ?_)
  exact b_M_lays_16 C N   N  h2 a0 a1 v1 v3 (0 : Int32) _ _ ls w  (lv_sub hl [3, 4, 2, 1, 0] rfl) e2
set_option maxRecDepth 20000 in
set_option maxHeartbeats 4000000 in
theorem b_M_laysBoth_16 {p : Program} {l : Launch} {e : Env} {s : State} {m : MethodId} {args : Array Value} {below : List Frame} {meth : Method} {c : Code} {D : va_G} {cy : cyT} {z : Nat} (C : MX p s m args meth c cX12_laysBoth 3 ((some .boolean)) RX12 (Cond.code yX12_laysBoth cX12_laysBoth 3 ((some .boolean)) :: GW)) (N : Nat) {r : Int32} {g : hS}  : ∀  (h : hS)  (H : Heap) (locs : List Loc) (ls : Array Slot), wd D cy z s 0 h H locs → lv_has ls 3 [] → f_M_laysBoth_16 N   h  = some (r, g) → W p l e { frames := 8, cells := 0, slots := 0, locals := 215 } s m args below meth c H locs 0 0 (MQ below (eQ D cy z (rI r) g) args s 0 0 (fun q => z ≤ q)) (F0 m 16 ls []) := by
  obtain ⟨hx, hb, hr, hml, hown, hts, hlk⟩ := id C
  intro  h  H locs ls w  hl hE
  unfold f_M_laysBoth_16 at hE
  refine lv_iconst (v := 0) hx hb dX12_laysBoth_16 (by decide) ?_
  exact w_zret C w hE dX12_laysBoth_17
set_option maxRecDepth 20000 in
set_option maxHeartbeats 4000000 in
theorem k_M_laysBoth (l : Launch) (D : va_G) (cy : cyT) (z : Nat) (N : Nat) (h : hS) (th : Nat) (x1 : Int32) (x2 : Int32) (r : Int32) (g : hS) (hE : f_M_laysBoth N h th x1 x2 = some (r, g)) : ct l yX12_laysBoth (Cond.code yX12_laysBoth cX12_laysBoth 3 ((some .boolean)) :: GW) { frames := 8, cells := 0, slots := 0, locals := 215 } D cy z h [.ref th, .int x1, .int x2] (rI r) g := by
  refine Met.ofW (cc := cX12_laysBoth) (maxL := 3) (ret := (some .boolean)) (by decide) rfl ?_
  intro p e s m args below meth c s₁ B hml hv
  obtain ⟨rfl, hw⟩ := hv
  have C : MX p s m ([.ref th, .int x1, .int x2] : List Value).toArray meth c cX12_laysBoth 3 ((some .boolean)) RX12 (Cond.code yX12_laysBoth cX12_laysBoth 3 ((some .boolean)) :: GW) := ⟨B.exec, B.bytes, B.returns, hml, findClass_of_methodNamed B.named, atoms_spec (ws := Cond.code yX12_laysBoth cX12_laysBoth 3 ((some .boolean)) :: GW) B.pre, B.notSynchronized⟩
  obtain ⟨hx, hb, hr, hml, hown, hts, hlk⟩ := id C
  have w := wd_of hw
  obtain ⟨ls, hen, hl⟩ : ∃ ls : Array Slot, entryFrame m ([.ref th, .int x1, .int x2] : List Value).toArray 3 = F0 m 0 ls [] ∧ lv_has ls 3 [(0, .ref th), (1, .int x1), (2, .int x2)] := by
    exact ⟨_, lg_entry_eq _ _ _, lv_entry _ (Nat.le_of_ble_eq_true rfl)⟩
  rw [hen]
  unfold f_M_laysBoth at hE
  refine lv_aload_n hx hb dX12_laysBoth_0 rfl (lv_at hl 0 rfl) ?_
  refine lv_iload_n hx hb dX12_laysBoth_1 rfl (lv_at hl 1 rfl) ?_
  refine w_VI GW_good (n := 1) (F := 1) (Lc := 25) (o := some th) (av := [.int x1]) (rest := []) C w rfl (by decide) (fun a r g hf => k_M_isCost l D cy z N h a x1 r g hf) gw_24_20 gw_24_21 gw_24_22 gw_1_5 gw_24_23 (by decide +kernel) ⟨Nat.le_of_ble_eq_true rfl, Nat.le_of_ble_eq_true rfl⟩ rfl hl.1 rfl (Nat.le_of_ble_eq_true rfl) dX12_laysBoth_2 (fun a => (sh_M_isCost N h a x1)) ⟨by decide, by decide⟩ hE (fun v1 h2 H locs w hsh2 e1 => ?_)
  refine w_if_eq (tgt := 16) C dX12_laysBoth_5 (by decide) e1 (fun hc e2 => ?_) (fun hc e2 => ?_)
  · exact b_M_laysBoth_16 C N     h2  _ _ ls w  (lv_sub hl [] rfl) e2
  · refine lv_aload_n hx hb dX12_laysBoth_8 rfl (lv_at hl 0 rfl) ?_
    refine lv_iload_n hx hb dX12_laysBoth_9 rfl (lv_at hl 2 rfl) ?_
    refine w_VI GW_good (n := 1) (F := 1) (Lc := 25) (o := some th) (av := [.int x2]) (rest := []) C w rfl (by decide) (fun a r g hf => k_M_isCost l D cy z N h2 a x2 r g hf) gw_24_20 gw_24_21 gw_24_22 gw_1_5 gw_24_23 (by decide +kernel) ⟨Nat.le_of_ble_eq_true rfl, Nat.le_of_ble_eq_true rfl⟩ rfl hl.1 rfl (Nat.le_of_ble_eq_true rfl) dX12_laysBoth_10 (fun a => (sh_M_isCost N h2 a x2)) ⟨by decide, by decide⟩ e2 (fun v3 h4 H locs w hsh4 e3 => ?_)
    refine w_if_ne (tgt := 18) C dX12_laysBoth_13 (by decide) e3 (fun hc e4 => ?_) (fun hc e4 => ?_)
    · refine lv_aload_n hx hb dX12_laysBoth_18 rfl (lv_at hl 0 rfl) ?_
      refine lv_iload_n hx hb dX12_laysBoth_19 rfl (lv_at hl 1 rfl) ?_
      refine lv_iload_n hx hb dX12_laysBoth_20 rfl (lv_at hl 2 rfl) ?_
      refine w_VV GW_good (n := 2) (F := 7) (Lc := 193) (o := some th) (av := [.int x1, .int x2]) (rest := []) C w rfl (by decide) (fun a r g hf => k_M_tellBoth l D cy z N h4 a x1 x2 r g hf) gw_44_3 gw_44_4 gw_44_5 gw_1_5 gw_44_6 (by decide +kernel) ⟨Nat.le_of_ble_eq_true rfl, Nat.le_of_ble_eq_true rfl⟩ rfl hl.1 rfl (Nat.le_of_ble_eq_true rfl) dX12_laysBoth_21 (fun a => (sh_M_tellBoth N h4 a x1 x2)) ⟨by decide, by decide⟩ e4 (fun v5 h6 H locs w hsh6 e5 => ?_)
      refine lv_aload_n hx hb dX12_laysBoth_24 rfl (lv_at hl 0 rfl) ?_
      refine w_gR (r := some th) (ci := 0) (k := 36) C w rfl (by decide) (GF_wsX120 _) (by decide) rfl (List.mem_cons_of_mem _ gw_7_18) rfl dX12_laysBoth_25 e5 (fun v7 e6 => ?_)
      refine lv_aload_n hx hb dX12_laysBoth_28 rfl (lv_at hl 0 rfl) ?_
      refine w_gR (r := some th) (ci := 0) (k := 4) C w rfl (by decide) (GF_wsX120 _) (by decide) rfl (List.mem_cons_of_mem _ gw_6_23) rfl dX12_laysBoth_29 e6 (fun v8 e7 => ?_)
      obtain ⟨q9, eq9, e8⟩ := nn_some e7
      subst eq9
      obtain ⟨q10, eq10, e9⟩ := nn_some e8
      subst eq10
      refine w_SV GW_good (n := 2) (F := 2) (Lc := 71) (av := [.ref q9, .ref q10]) (rest := []) C w (fun r g hf => k_M_lays l D cy z N h6 q9 q10 r g hf) gw_48_6 gw_48_7 gw_1_5 gw_48_8 (by decide +kernel) ⟨Nat.le_of_ble_eq_true rfl, Nat.le_of_ble_eq_true rfl⟩ rfl hl.1 rfl (Nat.le_of_ble_eq_true rfl) dX12_laysBoth_32 (sh_M_lays N h6 q9 q10) ⟨by decide, by decide⟩ e9 (fun v11 h12 H locs w hsh12 e10 => ?_)
      refine lv_aload_n hx hb dX12_laysBoth_35 rfl (lv_at hl 0 rfl) ?_
      refine w_gR (r := some th) (ci := 0) (k := 37) C w rfl (by decide) (GF_wsX120 _) (by decide) rfl (List.mem_cons_of_mem _ gw_7_19) rfl dX12_laysBoth_36 e10 (fun v13 e11 => ?_)
      refine lv_aload_n hx hb dX12_laysBoth_39 rfl (lv_at hl 0 rfl) ?_
      refine w_gR (r := some th) (ci := 0) (k := 5) C w rfl (by decide) (GF_wsX120 _) (by decide) rfl (List.mem_cons_of_mem _ gw_7_0) rfl dX12_laysBoth_40 e11 (fun v14 e12 => ?_)
      obtain ⟨q15, eq15, e13⟩ := nn_some e12
      subst eq15
      obtain ⟨q16, eq16, e14⟩ := nn_some e13
      subst eq16
      refine w_SV GW_good (n := 2) (F := 2) (Lc := 71) (av := [.ref q15, .ref q16]) (rest := []) C w (fun r g hf => k_M_lays l D cy z N h12 q15 q16 r g hf) gw_48_6 gw_48_7 gw_1_5 gw_48_8 (by decide +kernel) ⟨Nat.le_of_ble_eq_true rfl, Nat.le_of_ble_eq_true rfl⟩ rfl hl.1 rfl (Nat.le_of_ble_eq_true rfl) dX12_laysBoth_43 (sh_M_lays N h12 q15 q16) ⟨by decide, by decide⟩ e14 (fun v17 h18 H locs w hsh18 e15 => ?_)
      refine lv_iconst (v := 1) hx hb dX12_laysBoth_46 (by decide) ?_
      exact w_zret C w e15 dX12_laysBoth_47
    · exact b_M_laysBoth_16 C N     h4  _ _ ls w  (lv_sub hl [] rfl) e4
set_option maxRecDepth 20000 in
set_option maxHeartbeats 4000000 in
theorem b_M_leads_24 {p : Program} {l : Launch} {e : Env} {s : State} {m : MethodId} {args : Array Value} {below : List Frame} {meth : Method} {c : Code} {D : va_G} {cy : cyT} {z : Nat} (C : MX p s m args meth c cX12_leads 7 ((some .int)) RX12 (Cond.code yX12_leads cX12_leads 7 ((some .int)) :: GW)) (N : Nat) {r : Int32} {g : hS}  : ∀  (h : hS) (th : Nat) (H : Heap) (locs : List Loc) (ls : Array Slot), wd D cy z s 0 h H locs → lv_has ls 7 [(0, .ref th)] → f_M_leads_24 N   h th = some (r, g) → W p l e { frames := 9, cells := 0, slots := 0, locals := 237 } s m args below meth c H locs 0 0 (MQ below (eQ D cy z (rI r) g) args s 0 0 (fun q => z ≤ q)) (F0 m 24 ls []) := by
  obtain ⟨hx, hb, hr, hml, hown, hts, hlk⟩ := id C
  intro  h th H locs ls w  hl hE
  unfold f_M_leads_24 at hE
  refine lv_aload_n hx hb dX12_leads_24 rfl (lv_at hl 0 rfl) ?_
  refine lv_iconst (v := 1) hx hb dX12_leads_25 (by decide) ?_
  refine w_VI GW_good (n := 1) (F := 0) (Lc := 0) (o := some th) (av := [.int (1 : Int32)]) (rest := []) C w rfl (by decide) (fun a r g hf => k_M_fail l D cy z N h a (1 : Int32) r g hf) gw_25_4 gw_25_5 gw_25_6 gw_1_5 gw_25_7 (by decide +kernel) ⟨Nat.le_of_ble_eq_true rfl, Nat.le_of_ble_eq_true rfl⟩ rfl hl.1 rfl (Nat.le_of_ble_eq_true rfl) dX12_leads_26 (fun a => (sh_M_fail N h a (1 : Int32))) ⟨by decide, by decide⟩ hE (fun v1 h2 H locs w hsh2 e1 => ?_)
  exact w_iret C w e1 dX12_leads_29
set_option maxRecDepth 20000 in
set_option maxHeartbeats 4000000 in
theorem b_M_leads_104 {p : Program} {l : Launch} {e : Env} {s : State} {m : MethodId} {args : Array Value} {below : List Frame} {meth : Method} {c : Code} {D : va_G} {cy : cyT} {z : Nat} (C : MX p s m args meth c cX12_leads 7 ((some .int)) RX12 (Cond.code yX12_leads cX12_leads 7 ((some .int)) :: GW)) (N : Nat) {r : Int32} {g : hS}  : ∀  (h : hS) (y0 : Int32) (H : Heap) (locs : List Loc) (ls : Array Slot), wd D cy z s 0 h H locs → lv_has ls 7 [] → f_M_leads_104 N   h y0 = some (r, g) → W p l e { frames := 9, cells := 0, slots := 0, locals := 237 } s m args below meth c H locs 0 0 (MQ below (eQ D cy z (rI r) g) args s 0 0 (fun q => z ≤ q)) (F0 m 104 ls [.int y0]) := by
  obtain ⟨hx, hb, hr, hml, hown, hts, hlk⟩ := id C
  intro  h y0 H locs ls w  hl hE
  unfold f_M_leads_104 at hE
  exact w_iret C w hE dX12_leads_104
set_option maxRecDepth 20000 in
set_option maxHeartbeats 4000000 in
theorem b_M_leads_87 {p : Program} {l : Launch} {e : Env} {s : State} {m : MethodId} {args : Array Value} {below : List Frame} {meth : Method} {c : Code} {D : va_G} {cy : cyT} {z : Nat} (C : MX p s m args meth c cX12_leads 7 ((some .int)) RX12 (Cond.code yX12_leads cX12_leads 7 ((some .int)) :: GW)) (N : Nat) {r : Int32} {g : hS} {rc43 : hS → Nat → Int32 → Int32 → Int32 → Int32 → Option (Int32 × hS)}  (hrc43 : ∀ (h : hS) (th : Nat) (x3 : Int32) (x4 : Int32) (x5 : Int32) (x6 : Int32) (H : Heap) (locs : List Loc) (ls : Array Slot), wd D cy z s 0 h H locs → lv_has ls 7 [(0, .ref th), (3, .int x3), (4, .int x4), (5, .int x5), (6, .int x6)] → rc43 h th x3 x4 x5 x6 = some (r, g) → W p l e { frames := 9, cells := 0, slots := 0, locals := 237 } s m args below meth c H locs 0 0 (MQ below (eQ D cy z (rI r) g) args s 0 0 (fun q => z ≤ q)) (F0 m 43 ls [])) : ∀  (h : hS) (th : Nat) (x3 : Int32) (x4 : Int32) (x5 : Int32) (x6 : Int32) (H : Heap) (locs : List Loc) (ls : Array Slot), wd D cy z s 0 h H locs → lv_has ls 7 [(0, .ref th), (3, .int x3), (4, .int x4), (5, .int x5), (6, .int x6)] → f_M_leads_87 N rc43  h th x3 x4 x5 x6 = some (r, g) → W p l e { frames := 9, cells := 0, slots := 0, locals := 237 } s m args below meth c H locs 0 0 (MQ below (eQ D cy z (rI r) g) args s 0 0 (fun q => z ≤ q)) (F0 m 87 ls []) := by
  obtain ⟨hx, hb, hr, hml, hown, hts, hlk⟩ := id C
  intro  h th x3 x4 x5 x6 H locs ls w  hl hE
  unfold f_M_leads_87 at hE
  obtain ⟨v1, ev1, e1⟩ := bn_some hE
  refine lv_iinc (v := v1) (lv' := [(6, .int v1), (0, .ref th), (3, .int x3), (4, .int x4), (5, .int x5)]) hx hb dX12_leads_87 hl (k := 4) rfl (by rw [ev1]; rfl) (by decide) rfl (fun ls hl => ?_)
  refine lv_goto (tgt := 43) hx hb dX12_leads_90 (by decide) ?_
  exact hrc43  h th x3 x4 x5 v1 _ _ ls w  (lv_sub hl [1, 2, 3, 4, 0] rfl) e1
set_option maxRecDepth 20000 in
set_option maxHeartbeats 4000000 in
theorem b_M_leads_43 {p : Program} {l : Launch} {e : Env} {s : State} {m : MethodId} {args : Array Value} {below : List Frame} {meth : Method} {c : Code} {D : va_G} {cy : cyT} {z : Nat} (C : MX p s m args meth c cX12_leads 7 ((some .int)) RX12 (Cond.code yX12_leads cX12_leads 7 ((some .int)) :: GW)) (N : Nat) {r : Int32} {g : hS}  : ∀ (n : Nat) (h : hS) (th : Nat) (x3 : Int32) (x4 : Int32) (x5 : Int32) (x6 : Int32) (H : Heap) (locs : List Loc) (ls : Array Slot), wd D cy z s 0 h H locs → lv_has ls 7 [(0, .ref th), (3, .int x3), (4, .int x4), (5, .int x5), (6, .int x6)] → f_M_leads_43 N  n h th x3 x4 x5 x6 = some (r, g) → W p l e { frames := 9, cells := 0, slots := 0, locals := 237 } s m args below meth c H locs 0 0 (MQ below (eQ D cy z (rI r) g) args s 0 0 (fun q => z ≤ q)) (F0 m 43 ls []) := by
  obtain ⟨hx, hb, hr, hml, hown, hts, hlk⟩ := id C
  intro n
  induction n with
  | zero =>
    intro  h th x3 x4 x5 x6 H locs ls w  hl hE
    cases hE
  | succ n ih =>
    intro  h th x3 x4 x5 x6 H locs ls w  hl hE
    unfold f_M_leads_43 at hE
    refine lv_iload hx hb dX12_leads_43 (lv_at hl 4 rfl) ?_
    refine lv_sipush (v := -500) hx hb dX12_leads_45 (by decide) ?_
    refine w_icmp_lt (tgt := 93) C dX12_leads_48 (by decide) hE (fun hc e1 => ?_) (fun hc e1 => ?_)
    · refine lv_iload_n hx hb dX12_leads_93 rfl (lv_at hl 1 rfl) ?_
      refine w_if_ne (tgt := 102) C dX12_leads_94 (by decide) e1 (fun hc e2 => ?_) (fun hc e2 => ?_)
      · refine lv_iload hx hb dX12_leads_102 (lv_at hl 3 rfl) ?_
        exact b_M_leads_104 C N     h x5 _ _ ls w  (lv_sub hl [] rfl) e2
      · refine lv_iload hx hb dX12_leads_97 (lv_at hl 2 rfl) ?_
        refine lv_goto (tgt := 104) hx hb dX12_leads_99 (by decide) ?_
        exact b_M_leads_104 C N     h x4 _ _ ls w  (lv_sub hl [] rfl) e2
    · refine lv_aload_n hx hb dX12_leads_51 rfl (lv_at hl 0 rfl) ?_
      refine w_gR (r := some th) (ci := 0) (k := 36) C w rfl (by decide) (GF_wsX120 _) (by decide) rfl (List.mem_cons_of_mem _ gw_7_18) rfl dX12_leads_52 e1 (fun v1 e3 => ?_)
      refine lv_sipush (v := 1000) hx hb dX12_leads_55 (by decide) ?_
      refine lv_iload hx hb dX12_leads_58 (lv_at hl 4 rfl) ?_
      refine lv_iadd hx hb dX12_leads_60 ?_
      refine w_aJ (r := v1) C w dX12_leads_61 e3 (fun v2 e4 => ?_)
      refine lv_aload_n hx hb dX12_leads_62 rfl (lv_at hl 0 rfl) ?_
      refine w_gR (r := some th) (ci := 0) (k := 37) C w rfl (by decide) (GF_wsX120 _) (by decide) rfl (List.mem_cons_of_mem _ gw_7_19) rfl dX12_leads_63 e4 (fun v3 e5 => ?_)
      refine lv_sipush (v := 1000) hx hb dX12_leads_66 (by decide) ?_
      refine lv_iload hx hb dX12_leads_69 (lv_at hl 4 rfl) ?_
      refine lv_iadd hx hb dX12_leads_71 ?_
      refine w_aJ (r := v3) C w dX12_leads_72 e5 (fun v4 e6 => ?_)
      refine W.lcmp hx hb dX12_leads_73 ?_
      refine w_if_lt (tgt := 80) C dX12_leads_74 (by decide) e6 (fun hc e7 => ?_) (fun hc e7 => ?_)
      · obtain ⟨v5, ev5, e8⟩ := bn_some e7
        refine lv_iinc (v := v5) (lv' := [(4, .int v5), (0, .ref th), (3, .int x3), (5, .int x5), (6, .int x6)]) hx hb dX12_leads_80 hl (k := 2) rfl (by rw [ev5]; rfl) (by decide) rfl (fun ls hl => ?_)
        refine lv_iload hx hb dX12_leads_83 (lv_at hl 4 rfl) ?_
        refine lv_istore (lv' := [(5, .int x6), (4, .int v5), (0, .ref th), (3, .int x3), (6, .int x6)]) hx hb dX12_leads_85 hl (by decide) rfl (fun ls hl => ?_)
        exact b_M_leads_87 C N  ih   h th x3 v5 x6 x6 _ _ ls w  (lv_sub hl [2, 3, 1, 0, 4] rfl) e8
      · refine lv_goto (tgt := 87) hx hb dX12_leads_77 (by decide) ?_
        exact b_M_leads_87 C N  ih   h th x3 x4 x5 x6 _ _ ls w  (lv_sub hl [0, 1, 2, 3, 4] rfl) e7
set_option maxRecDepth 20000 in
set_option maxHeartbeats 4000000 in
theorem k_M_leads (l : Launch) (D : va_G) (cy : cyT) (z : Nat) (N : Nat) (h : hS) (th : Nat) (x1 : Int32) (x2 : Int32) (x3 : Int32) (r : Int32) (g : hS) (hE : f_M_leads N h th x1 x2 x3 = some (r, g)) : ct l yX12_leads (Cond.code yX12_leads cX12_leads 7 ((some .int)) :: GW) { frames := 9, cells := 0, slots := 0, locals := 237 } D cy z h [.ref th, .int x1, .int x2, .int x3] (rI r) g := by
  refine Met.ofW (cc := cX12_leads) (maxL := 7) (ret := (some .int)) (by decide) rfl ?_
  intro p e s m args below meth c s₁ B hml hv
  obtain ⟨rfl, hw⟩ := hv
  have C : MX p s m ([.ref th, .int x1, .int x2, .int x3] : List Value).toArray meth c cX12_leads 7 ((some .int)) RX12 (Cond.code yX12_leads cX12_leads 7 ((some .int)) :: GW) := ⟨B.exec, B.bytes, B.returns, hml, findClass_of_methodNamed B.named, atoms_spec (ws := Cond.code yX12_leads cX12_leads 7 ((some .int)) :: GW) B.pre, B.notSynchronized⟩
  obtain ⟨hx, hb, hr, hml, hown, hts, hlk⟩ := id C
  have w := wd_of hw
  obtain ⟨ls, hen, hl⟩ : ∃ ls : Array Slot, entryFrame m ([.ref th, .int x1, .int x2, .int x3] : List Value).toArray 7 = F0 m 0 ls [] ∧ lv_has ls 7 [(0, .ref th), (1, .int x1), (2, .int x2), (3, .int x3)] := by
    exact ⟨_, lg_entry_eq _ _ _, lv_entry _ (Nat.le_of_ble_eq_true rfl)⟩
  rw [hen]
  unfold f_M_leads at hE
  refine lv_aload_n hx hb dX12_leads_0 rfl (lv_at hl 0 rfl) ?_
  refine lv_iconst (v := 0) hx hb dX12_leads_1 (by decide) ?_
  refine w_pI (r := some th) (ci := 0) (k := 1) C w rfl (by decide) (by unfold roK; omega) (GF_wsX120 _) tyX12 tyX12_ok nmX12 (by decide) rfl (List.mem_cons_of_mem _ gw_8_18) rfl rfl (tyX12_ok 1 (by decide)) dX12_leads_2 hE (fun h1 H locs w hsh1 e1 => ?_)
  refine lv_iload_n hx hb dX12_leads_5 rfl (lv_at hl 3 rfl) ?_
  refine lv_i2l hx hb dX12_leads_6 rfl ?_
  refine lv_lconst (v := 0) hx hb dX12_leads_7 (by decide) ?_
  refine lv_lconst (v := 1) hx hb dX12_leads_8 (by decide) ?_
  refine w_SI GW_good (n := 3) (F := 0) (Lc := 0) (av := [.long x3.toInt64, .long (0 : Int64), .long (1 : Int64)]) (rest := []) C w (fun r g hf => k_M_isIn l D cy z N h1 x3.toInt64 (0 : Int64) (1 : Int64) r g hf) gw_25_1 gw_25_2 gw_1_5 gw_25_3 (by decide +kernel) ⟨Nat.le_of_ble_eq_true rfl, Nat.le_of_ble_eq_true rfl⟩ rfl hl.1 rfl (Nat.le_of_ble_eq_true rfl) dX12_leads_9 (sh_M_isIn N h1 x3.toInt64 (0 : Int64) (1 : Int64)) ⟨by decide, by decide⟩ e1 (fun v2 h3 H locs w hsh3 e2 => ?_)
  refine w_if_eq (tgt := 24) C dX12_leads_12 (by decide) e2 (fun hc e3 => ?_) (fun hc e3 => ?_)
  · exact b_M_leads_24 C N     h3 th _ _ ls w  (lv_sub hl [0] rfl) e3
  · refine lv_aload_n hx hb dX12_leads_15 rfl (lv_at hl 0 rfl) ?_
    refine lv_iload_n hx hb dX12_leads_16 rfl (lv_at hl 1 rfl) ?_
    refine lv_iload_n hx hb dX12_leads_17 rfl (lv_at hl 2 rfl) ?_
    refine w_VI GW_good (n := 2) (F := 8) (Lc := 215) (o := some th) (av := [.int x1, .int x2]) (rest := []) C w rfl (by decide) (fun a r g hf => k_M_laysBoth l D cy z N h3 a x1 x2 r g hf) gw_48_2 gw_48_3 gw_48_4 gw_1_5 gw_48_5 (by decide +kernel) ⟨Nat.le_of_ble_eq_true rfl, Nat.le_of_ble_eq_true rfl⟩ rfl hl.1 rfl (Nat.le_of_ble_eq_true rfl) dX12_leads_18 (fun a => (sh_M_laysBoth N h3 a x1 x2)) ⟨by decide, by decide⟩ e3 (fun v4 h5 H locs w hsh5 e4 => ?_)
    refine w_if_ne (tgt := 30) C dX12_leads_21 (by decide) e4 (fun hc e5 => ?_) (fun hc e5 => ?_)
    · refine lv_iconst (v := 0) hx hb dX12_leads_30 (by decide) ?_
      refine lv_istore (lv' := [(4, .int (0 : Int32)), (0, .ref th), (1, .int x1), (2, .int x2), (3, .int x3)]) hx hb dX12_leads_31 hl (by decide) rfl (fun ls hl => ?_)
      refine lv_ldcw hx hb hown (hts _ (List.mem_cons_of_mem _ gw_37_19)) dX12_leads_33 ?_
      refine lv_istore (lv' := [(5, .int (-10000000 : Int32)), (4, .int (0 : Int32)), (0, .ref th), (1, .int x1), (2, .int x2), (3, .int x3)]) hx hb dX12_leads_36 hl (by decide) rfl (fun ls hl => ?_)
      refine lv_sipush (v := 500) hx hb dX12_leads_38 (by decide) ?_
      refine lv_istore (lv' := [(6, .int (500 : Int32)), (5, .int (-10000000 : Int32)), (4, .int (0 : Int32)), (0, .ref th), (1, .int x1), (2, .int x2), (3, .int x3)]) hx hb dX12_leads_41 hl (by decide) rfl (fun ls hl => ?_)
      exact b_M_leads_43 C N   N  h5 th x3 (0 : Int32) (-10000000 : Int32) (500 : Int32) _ _ ls w  (lv_sub hl [3, 6, 2, 1, 0] rfl) e5
    · exact b_M_leads_24 C N     h5 th _ _ ls w  (lv_sub hl [0] rfl) e5
set_option maxRecDepth 20000 in
set_option maxHeartbeats 4000000 in
theorem b_M_meet_22 {p : Program} {l : Launch} {e : Env} {s : State} {m : MethodId} {args : Array Value} {below : List Frame} {meth : Method} {c : Code} {D : va_G} {cy : cyT} {z : Nat} (C : MX p s m args meth c cX12_meet 4 ((some .int)) RX12 (Cond.code yX12_meet cX12_meet 4 ((some .int)) :: GW)) (N : Nat) {r : Int32} {g : hS}  : ∀ (n : Nat) (h : hS) (th : Nat) (x3 : Int32) (H : Heap) (locs : List Loc) (ls : Array Slot), wd D cy z s 0 h H locs → lv_has ls 4 [(0, .ref th), (3, .int x3)] → f_M_meet_22 N  n h th x3 = some (r, g) → W p l e { frames := 9, cells := 0, slots := 0, locals := 237 } s m args below meth c H locs 0 0 (MQ below (eQ D cy z (rI r) g) args s 0 0 (fun q => z ≤ q)) (F0 m 22 ls []) := by
  obtain ⟨hx, hb, hr, hml, hown, hts, hlk⟩ := id C
  intro n
  induction n with
  | zero =>
    intro  h th x3 H locs ls w  hl hE
    cases hE
  | succ n ih =>
    intro  h th x3 H locs ls w  hl hE
    unfold f_M_meet_22 at hE
    refine lv_iload_n hx hb dX12_meet_22 rfl (lv_at hl 1 rfl) ?_
    refine lv_sipush (v := 1000) hx hb dX12_meet_23 (by decide) ?_
    refine w_icmp_gt (tgt := 88) C dX12_meet_26 (by decide) hE (fun hc e1 => ?_) (fun hc e1 => ?_)
    · refine lv_ldcw hx hb hown (hts _ (List.mem_cons_of_mem _ gw_37_19)) dX12_meet_88 ?_
      exact w_iret C w e1 dX12_meet_91
    · refine lv_aload_n hx hb dX12_meet_29 rfl (lv_at hl 0 rfl) ?_
      refine w_gR (r := some th) (ci := 0) (k := 36) C w rfl (by decide) (GF_wsX120 _) (by decide) rfl (List.mem_cons_of_mem _ gw_7_18) rfl dX12_meet_30 e1 (fun v1 e2 => ?_)
      refine lv_sipush (v := 1000) hx hb dX12_meet_33 (by decide) ?_
      refine lv_iload_n hx hb dX12_meet_36 rfl (lv_at hl 1 rfl) ?_
      refine lv_isub hx hb dX12_meet_37 ?_
      refine w_aJ (r := v1) C w dX12_meet_38 e2 (fun v2 e3 => ?_)
      refine lv_aload_n hx hb dX12_meet_39 rfl (lv_at hl 0 rfl) ?_
      refine w_gR (r := some th) (ci := 0) (k := 37) C w rfl (by decide) (GF_wsX120 _) (by decide) rfl (List.mem_cons_of_mem _ gw_7_19) rfl dX12_meet_40 e3 (fun v3 e4 => ?_)
      refine lv_sipush (v := 1000) hx hb dX12_meet_43 (by decide) ?_
      refine lv_iload_n hx hb dX12_meet_46 rfl (lv_at hl 1 rfl) ?_
      refine lv_isub hx hb dX12_meet_47 ?_
      refine w_aJ (r := v3) C w dX12_meet_48 e4 (fun v4 e5 => ?_)
      refine W.lcmp hx hb dX12_meet_49 ?_
      refine w_if_ne (tgt := 56) C dX12_meet_50 (by decide) e5 (fun hc e6 => ?_) (fun hc e6 => ?_)
      · refine lv_aload_n hx hb dX12_meet_56 rfl (lv_at hl 0 rfl) ?_
        refine w_gR (r := some th) (ci := 0) (k := 36) C w rfl (by decide) (GF_wsX120 _) (by decide) rfl (List.mem_cons_of_mem _ gw_7_18) rfl dX12_meet_57 e6 (fun v5 e7 => ?_)
        refine lv_sipush (v := 1000) hx hb dX12_meet_60 (by decide) ?_
        refine lv_iload_n hx hb dX12_meet_63 rfl (lv_at hl 1 rfl) ?_
        refine lv_iadd hx hb dX12_meet_64 ?_
        refine w_aJ (r := v5) C w dX12_meet_65 e7 (fun v6 e8 => ?_)
        refine lv_aload_n hx hb dX12_meet_66 rfl (lv_at hl 0 rfl) ?_
        refine w_gR (r := some th) (ci := 0) (k := 37) C w rfl (by decide) (GF_wsX120 _) (by decide) rfl (List.mem_cons_of_mem _ gw_7_19) rfl dX12_meet_67 e8 (fun v7 e9 => ?_)
        refine lv_sipush (v := 1000) hx hb dX12_meet_70 (by decide) ?_
        refine lv_iload_n hx hb dX12_meet_73 rfl (lv_at hl 1 rfl) ?_
        refine lv_iadd hx hb dX12_meet_74 ?_
        refine w_aJ (r := v7) C w dX12_meet_75 e9 (fun v8 e10 => ?_)
        refine W.lcmp hx hb dX12_meet_76 ?_
        refine w_if_ne (tgt := 82) C dX12_meet_77 (by decide) e10 (fun hc e11 => ?_) (fun hc e11 => ?_)
        · obtain ⟨v9, ev9, e12⟩ := bn_some e11
          refine lv_iinc (v := v9) (lv' := [(3, .int v9), (0, .ref th)]) hx hb dX12_meet_82 hl (k := 1) rfl (by rw [ev9]; rfl) (by decide) rfl (fun ls hl => ?_)
          refine lv_goto (tgt := 22) hx hb dX12_meet_85 (by decide) ?_
          exact ih  h th v9 _ _ ls w  (lv_sub hl [1, 0] rfl) e12
        · refine lv_iload_n hx hb dX12_meet_80 rfl (lv_at hl 1 rfl) ?_
          exact w_iret C w e11 dX12_meet_81
      · refine lv_iload_n hx hb dX12_meet_53 rfl (lv_at hl 1 rfl) ?_
        refine lv_ineg hx hb dX12_meet_54 ?_
        exact w_iret C w e6 dX12_meet_55
set_option maxRecDepth 20000 in
set_option maxHeartbeats 4000000 in
theorem k_M_meet (l : Launch) (D : va_G) (cy : cyT) (z : Nat) (N : Nat) (h : hS) (th : Nat) (x1 : Int32) (x2 : Int32) (r : Int32) (g : hS) (hE : f_M_meet N h th x1 x2 = some (r, g)) : ct l yX12_meet (Cond.code yX12_meet cX12_meet 4 ((some .int)) :: GW) { frames := 9, cells := 0, slots := 0, locals := 237 } D cy z h [.ref th, .int x1, .int x2] (rI r) g := by
  refine Met.ofW (cc := cX12_meet) (maxL := 4) (ret := (some .int)) (by decide) rfl ?_
  intro p e s m args below meth c s₁ B hml hv
  obtain ⟨rfl, hw⟩ := hv
  have C : MX p s m ([.ref th, .int x1, .int x2] : List Value).toArray meth c cX12_meet 4 ((some .int)) RX12 (Cond.code yX12_meet cX12_meet 4 ((some .int)) :: GW) := ⟨B.exec, B.bytes, B.returns, hml, findClass_of_methodNamed B.named, atoms_spec (ws := Cond.code yX12_meet cX12_meet 4 ((some .int)) :: GW) B.pre, B.notSynchronized⟩
  obtain ⟨hx, hb, hr, hml, hown, hts, hlk⟩ := id C
  have w := wd_of hw
  obtain ⟨ls, hen, hl⟩ : ∃ ls : Array Slot, entryFrame m ([.ref th, .int x1, .int x2] : List Value).toArray 4 = F0 m 0 ls [] ∧ lv_has ls 4 [(0, .ref th), (1, .int x1), (2, .int x2)] := by
    exact ⟨_, lg_entry_eq _ _ _, lv_entry _ (Nat.le_of_ble_eq_true rfl)⟩
  rw [hen]
  unfold f_M_meet at hE
  refine lv_aload_n hx hb dX12_meet_0 rfl (lv_at hl 0 rfl) ?_
  refine lv_iconst (v := 0) hx hb dX12_meet_1 (by decide) ?_
  refine w_pI (r := some th) (ci := 0) (k := 1) C w rfl (by decide) (by unfold roK; omega) (GF_wsX120 _) tyX12 tyX12_ok nmX12 (by decide) rfl (List.mem_cons_of_mem _ gw_8_18) rfl rfl (tyX12_ok 1 (by decide)) dX12_meet_2 hE (fun h1 H locs w hsh1 e1 => ?_)
  refine lv_aload_n hx hb dX12_meet_5 rfl (lv_at hl 0 rfl) ?_
  refine lv_iload_n hx hb dX12_meet_6 rfl (lv_at hl 1 rfl) ?_
  refine lv_iload_n hx hb dX12_meet_7 rfl (lv_at hl 2 rfl) ?_
  refine w_VI GW_good (n := 2) (F := 8) (Lc := 215) (o := some th) (av := [.int x1, .int x2]) (rest := []) C w rfl (by decide) (fun a r g hf => k_M_laysBoth l D cy z N h1 a x1 x2 r g hf) gw_48_2 gw_48_3 gw_48_4 gw_1_5 gw_48_5 (by decide +kernel) ⟨Nat.le_of_ble_eq_true rfl, Nat.le_of_ble_eq_true rfl⟩ rfl hl.1 rfl (Nat.le_of_ble_eq_true rfl) dX12_meet_8 (fun a => (sh_M_laysBoth N h1 a x1 x2)) ⟨by decide, by decide⟩ e1 (fun v2 h3 H locs w hsh3 e2 => ?_)
  refine w_if_ne (tgt := 20) C dX12_meet_11 (by decide) e2 (fun hc e3 => ?_) (fun hc e3 => ?_)
  · refine lv_iconst (v := 0) hx hb dX12_meet_20 (by decide) ?_
    refine lv_istore_n (lv' := [(3, .int (0 : Int32)), (0, .ref th), (1, .int x1), (2, .int x2)]) hx hb dX12_meet_21 rfl hl (by decide) rfl (fun ls hl => ?_)
    exact b_M_meet_22 C N   N  h3 th (0 : Int32) _ _ ls w  (lv_sub hl [1, 0] rfl) e3
  · refine lv_aload_n hx hb dX12_meet_14 rfl (lv_at hl 0 rfl) ?_
    refine lv_iconst (v := 1) hx hb dX12_meet_15 (by decide) ?_
    refine w_VI GW_good (n := 1) (F := 0) (Lc := 0) (o := some th) (av := [.int (1 : Int32)]) (rest := []) C w rfl (by decide) (fun a r g hf => k_M_fail l D cy z N h3 a (1 : Int32) r g hf) gw_25_4 gw_25_5 gw_25_6 gw_1_5 gw_25_7 (by decide +kernel) ⟨Nat.le_of_ble_eq_true rfl, Nat.le_of_ble_eq_true rfl⟩ rfl hl.1 rfl (Nat.le_of_ble_eq_true rfl) dX12_meet_16 (fun a => (sh_M_fail N h3 a (1 : Int32))) ⟨by decide, by decide⟩ e3 (fun v4 h5 H locs w hsh5 e4 => ?_)
    exact w_iret C w e4 dX12_meet_19
set_option maxRecDepth 20000 in
set_option maxHeartbeats 4000000 in
theorem b_M_gap_28 {p : Program} {l : Launch} {e : Env} {s : State} {m : MethodId} {args : Array Value} {below : List Frame} {meth : Method} {c : Code} {D : va_G} {cy : cyT} {z : Nat} (C : MX p s m args meth c cX12_gap 6 ((some .long)) RX12 (Cond.code yX12_gap cX12_gap 6 ((some .long)) :: GW)) (N : Nat) {r : Int64} {g : hS}  : ∀ (n : Nat) (h : hS) (th : Nat) (x3 : Int64) (x5 : Int32) (H : Heap) (locs : List Loc) (ls : Array Slot), wd D cy z s 0 h H locs → lv_has ls 6 [(0, .ref th), (3, .long x3), (5, .int x5)] → f_M_gap_28 N  n h th x3 x5 = some (r, g) → W p l e { frames := 9, cells := 0, slots := 0, locals := 237 } s m args below meth c H locs 0 0 (MQ below (eQ D cy z (rJ r) g) args s 0 0 (fun q => z ≤ q)) (F0 m 28 ls []) := by
  obtain ⟨hx, hb, hr, hml, hown, hts, hlk⟩ := id C
  intro n
  induction n with
  | zero =>
    intro  h th x3 x5 H locs ls w  hl hE
    cases hE
  | succ n ih =>
    intro  h th x3 x5 H locs ls w  hl hE
    unfold f_M_gap_28 at hE
    refine lv_iload hx hb dX12_gap_28 (lv_at hl 2 rfl) ?_
    refine lv_sipush (v := 500) hx hb dX12_gap_30 (by decide) ?_
    refine w_icmp_gt (tgt := 73) C dX12_gap_33 (by decide) hE (fun hc e1 => ?_) (fun hc e1 => ?_)
    · refine lv_lload_n hx hb dX12_gap_73 rfl (lv_at hl 1 rfl) ?_
      exact w_lret C w e1 dX12_gap_74
    · refine lv_lload_n hx hb dX12_gap_36 rfl (lv_at hl 1 rfl) ?_
      refine lv_aload_n hx hb dX12_gap_37 rfl (lv_at hl 0 rfl) ?_
      refine w_gR (r := some th) (ci := 0) (k := 36) C w rfl (by decide) (GF_wsX120 _) (by decide) rfl (List.mem_cons_of_mem _ gw_7_18) rfl dX12_gap_38 e1 (fun v1 e2 => ?_)
      refine lv_sipush (v := 1000) hx hb dX12_gap_41 (by decide) ?_
      refine lv_iload hx hb dX12_gap_44 (lv_at hl 2 rfl) ?_
      refine lv_iadd hx hb dX12_gap_46 ?_
      refine w_aJ (r := v1) C w dX12_gap_47 e2 (fun v2 e3 => ?_)
      refine lv_aload_n hx hb dX12_gap_48 rfl (lv_at hl 0 rfl) ?_
      refine w_gR (r := some th) (ci := 0) (k := 37) C w rfl (by decide) (GF_wsX120 _) (by decide) rfl (List.mem_cons_of_mem _ gw_7_19) rfl dX12_gap_49 e3 (fun v3 e4 => ?_)
      refine lv_sipush (v := 1000) hx hb dX12_gap_52 (by decide) ?_
      refine lv_iload hx hb dX12_gap_55 (lv_at hl 2 rfl) ?_
      refine lv_iadd hx hb dX12_gap_57 ?_
      refine w_aJ (r := v3) C w dX12_gap_58 e4 (fun v4 e5 => ?_)
      refine lv_lsub hx hb dX12_gap_59 ?_
      refine w_mabsl C hl.1 (List.mem_cons_of_mem _ gw_53_7) (List.mem_cons_of_mem _ gw_52_22) (List.mem_cons_of_mem _ gw_10_7) (List.mem_cons_of_mem _ gw_52_23) (Nat.le_of_ble_eq_true rfl) (Nat.le_of_ble_eq_true rfl) (by decide) (by decide) dX12_gap_60 ?_
      refine w_mmaxl C hl.1 (List.mem_cons_of_mem _ gw_53_8) (List.mem_cons_of_mem _ gw_53_1) (List.mem_cons_of_mem _ gw_10_7) (List.mem_cons_of_mem _ gw_53_2) (Nat.le_of_ble_eq_true rfl) (Nat.le_of_ble_eq_true rfl) (by decide) (by decide) dX12_gap_63 ?_
      refine w_bnJ e5 (fun v5 e6 => ?_)
      refine lv_lstore_n (lv' := [(3, .long v5), (0, .ref th), (5, .int x5)]) hx hb dX12_gap_66 rfl hl (by decide) rfl (fun ls hl => ?_)
      obtain ⟨v6, ev6, e7⟩ := bn_some e6
      refine lv_iinc (v := v6) (lv' := [(5, .int v6), (3, .long v5), (0, .ref th)]) hx hb dX12_gap_67 hl (k := 2) rfl (by rw [ev6]; rfl) (by decide) rfl (fun ls hl => ?_)
      refine lv_goto (tgt := 28) hx hb dX12_gap_70 (by decide) ?_
      exact ih  h th v5 v6 _ _ ls w  (lv_sub hl [2, 1, 0] rfl) e7
set_option maxRecDepth 20000 in
set_option maxHeartbeats 4000000 in
theorem k_M_gap (l : Launch) (D : va_G) (cy : cyT) (z : Nat) (N : Nat) (h : hS) (th : Nat) (x1 : Int32) (x2 : Int32) (r : Int64) (g : hS) (hE : f_M_gap N h th x1 x2 = some (r, g)) : ct l yX12_gap (Cond.code yX12_gap cX12_gap 6 ((some .long)) :: GW) { frames := 9, cells := 0, slots := 0, locals := 237 } D cy z h [.ref th, .int x1, .int x2] (rJ r) g := by
  refine Met.ofW (cc := cX12_gap) (maxL := 6) (ret := (some .long)) (by decide) rfl ?_
  intro p e s m args below meth c s₁ B hml hv
  obtain ⟨rfl, hw⟩ := hv
  have C : MX p s m ([.ref th, .int x1, .int x2] : List Value).toArray meth c cX12_gap 6 ((some .long)) RX12 (Cond.code yX12_gap cX12_gap 6 ((some .long)) :: GW) := ⟨B.exec, B.bytes, B.returns, hml, findClass_of_methodNamed B.named, atoms_spec (ws := Cond.code yX12_gap cX12_gap 6 ((some .long)) :: GW) B.pre, B.notSynchronized⟩
  obtain ⟨hx, hb, hr, hml, hown, hts, hlk⟩ := id C
  have w := wd_of hw
  obtain ⟨ls, hen, hl⟩ : ∃ ls : Array Slot, entryFrame m ([.ref th, .int x1, .int x2] : List Value).toArray 6 = F0 m 0 ls [] ∧ lv_has ls 6 [(0, .ref th), (1, .int x1), (2, .int x2)] := by
    exact ⟨_, lg_entry_eq _ _ _, lv_entry _ (Nat.le_of_ble_eq_true rfl)⟩
  rw [hen]
  unfold f_M_gap at hE
  refine lv_aload_n hx hb dX12_gap_0 rfl (lv_at hl 0 rfl) ?_
  refine lv_iconst (v := 0) hx hb dX12_gap_1 (by decide) ?_
  refine w_pI (r := some th) (ci := 0) (k := 1) C w rfl (by decide) (by unfold roK; omega) (GF_wsX120 _) tyX12 tyX12_ok nmX12 (by decide) rfl (List.mem_cons_of_mem _ gw_8_18) rfl rfl (tyX12_ok 1 (by decide)) dX12_gap_2 hE (fun h1 H locs w hsh1 e1 => ?_)
  refine lv_aload_n hx hb dX12_gap_5 rfl (lv_at hl 0 rfl) ?_
  refine lv_iload_n hx hb dX12_gap_6 rfl (lv_at hl 1 rfl) ?_
  refine lv_iload_n hx hb dX12_gap_7 rfl (lv_at hl 2 rfl) ?_
  refine w_VI GW_good (n := 2) (F := 8) (Lc := 215) (o := some th) (av := [.int x1, .int x2]) (rest := []) C w rfl (by decide) (fun a r g hf => k_M_laysBoth l D cy z N h1 a x1 x2 r g hf) gw_48_2 gw_48_3 gw_48_4 gw_1_5 gw_48_5 (by decide +kernel) ⟨Nat.le_of_ble_eq_true rfl, Nat.le_of_ble_eq_true rfl⟩ rfl hl.1 rfl (Nat.le_of_ble_eq_true rfl) dX12_gap_8 (fun a => (sh_M_laysBoth N h1 a x1 x2)) ⟨by decide, by decide⟩ e1 (fun v2 h3 H locs w hsh3 e2 => ?_)
  refine w_if_ne (tgt := 21) C dX12_gap_11 (by decide) e2 (fun hc e3 => ?_) (fun hc e3 => ?_)
  · refine lv_lconst (v := 0) hx hb dX12_gap_21 (by decide) ?_
    refine lv_lstore_n (lv' := [(3, .long (0 : Int64)), (0, .ref th), (1, .int x1), (2, .int x2)]) hx hb dX12_gap_22 rfl hl (by decide) rfl (fun ls hl => ?_)
    refine lv_sipush (v := -500) hx hb dX12_gap_23 (by decide) ?_
    refine lv_istore (lv' := [(5, .int (-500 : Int32)), (3, .long (0 : Int64)), (0, .ref th), (1, .int x1), (2, .int x2)]) hx hb dX12_gap_26 hl (by decide) rfl (fun ls hl => ?_)
    exact b_M_gap_28 C N   N  h3 th (0 : Int64) (-500 : Int32) _ _ ls w  (lv_sub hl [2, 1, 0] rfl) e3
  · refine lv_aload_n hx hb dX12_gap_14 rfl (lv_at hl 0 rfl) ?_
    refine lv_iconst (v := 1) hx hb dX12_gap_15 (by decide) ?_
    refine w_VI GW_good (n := 1) (F := 0) (Lc := 0) (o := some th) (av := [.int (1 : Int32)]) (rest := []) C w rfl (by decide) (fun a r g hf => k_M_fail l D cy z N h3 a (1 : Int32) r g hf) gw_25_4 gw_25_5 gw_25_6 gw_1_5 gw_25_7 (by decide +kernel) ⟨Nat.le_of_ble_eq_true rfl, Nat.le_of_ble_eq_true rfl⟩ rfl hl.1 rfl (Nat.le_of_ble_eq_true rfl) dX12_gap_16 (fun a => (sh_M_fail N h3 a (1 : Int32))) ⟨by decide, by decide⟩ e3 (fun v4 h5 H locs w hsh5 e4 => ?_)
    refine lv_i2l hx hb dX12_gap_19 rfl ?_
    exact w_lret C w e4 dX12_gap_20
set_option maxRecDepth 20000 in
set_option maxHeartbeats 4000000 in
theorem b_M_alike_21 {p : Program} {l : Launch} {e : Env} {s : State} {m : MethodId} {args : Array Value} {below : List Frame} {meth : Method} {c : Code} {D : va_G} {cy : cyT} {z : Nat} (C : MX p s m args meth c cX12_alike 5 ((some .int)) RX12 (Cond.code yX12_alike cX12_alike 5 ((some .int)) :: GW)) (N : Nat) {r : Int32} {g : hS}  : ∀  (h : hS) (th : Nat) (H : Heap) (locs : List Loc) (ls : Array Slot), wd D cy z s 0 h H locs → lv_has ls 5 [(0, .ref th)] → f_M_alike_21 N   h th = some (r, g) → W p l e { frames := 8, cells := 0, slots := 0, locals := 215 } s m args below meth c H locs 0 0 (MQ below (eQ D cy z (rI r) g) args s 0 0 (fun q => z ≤ q)) (F0 m 21 ls []) := by
  obtain ⟨hx, hb, hr, hml, hown, hts, hlk⟩ := id C
  intro  h th H locs ls w  hl hE
  unfold f_M_alike_21 at hE
  refine lv_aload_n hx hb dX12_alike_21 rfl (lv_at hl 0 rfl) ?_
  refine lv_iconst (v := 1) hx hb dX12_alike_22 (by decide) ?_
  refine w_VI GW_good (n := 1) (F := 0) (Lc := 0) (o := some th) (av := [.int (1 : Int32)]) (rest := []) C w rfl (by decide) (fun a r g hf => k_M_fail l D cy z N h a (1 : Int32) r g hf) gw_25_4 gw_25_5 gw_25_6 gw_1_5 gw_25_7 (by decide +kernel) ⟨Nat.le_of_ble_eq_true rfl, Nat.le_of_ble_eq_true rfl⟩ rfl hl.1 rfl (Nat.le_of_ble_eq_true rfl) dX12_alike_23 (fun a => (sh_M_fail N h a (1 : Int32))) ⟨by decide, by decide⟩ hE (fun v1 h2 H locs w hsh2 e1 => ?_)
  exact w_iret C w e1 dX12_alike_26
set_option maxRecDepth 20000 in
set_option maxHeartbeats 4000000 in
theorem b_M_alike_90 {p : Program} {l : Launch} {e : Env} {s : State} {m : MethodId} {args : Array Value} {below : List Frame} {meth : Method} {c : Code} {D : va_G} {cy : cyT} {z : Nat} (C : MX p s m args meth c cX12_alike 5 ((some .int)) RX12 (Cond.code yX12_alike cX12_alike 5 ((some .int)) :: GW)) (N : Nat) {r : Int32} {g : hS}  : ∀  (h : hS) (y0 : Int32) (H : Heap) (locs : List Loc) (ls : Array Slot), wd D cy z s 0 h H locs → lv_has ls 5 [] → f_M_alike_90 N   h y0 = some (r, g) → W p l e { frames := 8, cells := 0, slots := 0, locals := 215 } s m args below meth c H locs 0 0 (MQ below (eQ D cy z (rI r) g) args s 0 0 (fun q => z ≤ q)) (F0 m 90 ls [.int y0]) := by
  obtain ⟨hx, hb, hr, hml, hown, hts, hlk⟩ := id C
  intro  h y0 H locs ls w  hl hE
  unfold f_M_alike_90 at hE
  exact w_iret C w hE dX12_alike_90
set_option maxRecDepth 20000 in
set_option maxHeartbeats 4000000 in
theorem b_M_alike_81 {p : Program} {l : Launch} {e : Env} {s : State} {m : MethodId} {args : Array Value} {below : List Frame} {meth : Method} {c : Code} {D : va_G} {cy : cyT} {z : Nat} (C : MX p s m args meth c cX12_alike 5 ((some .int)) RX12 (Cond.code yX12_alike cX12_alike 5 ((some .int)) :: GW)) (N : Nat) {r : Int32} {g : hS}  : ∀  (h : hS) (x3 : Int32) (H : Heap) (locs : List Loc) (ls : Array Slot), wd D cy z s 0 h H locs → lv_has ls 5 [(3, .int x3)] → f_M_alike_81 N   h x3 = some (r, g) → W p l e { frames := 8, cells := 0, slots := 0, locals := 215 } s m args below meth c H locs 0 0 (MQ below (eQ D cy z (rI r) g) args s 0 0 (fun q => z ≤ q)) (F0 m 81 ls []) := by
  obtain ⟨hx, hb, hr, hml, hown, hts, hlk⟩ := id C
  intro  h x3 H locs ls w  hl hE
  unfold f_M_alike_81 at hE
  refine lv_iload_n hx hb dX12_alike_81 rfl (lv_at hl 0 rfl) ?_
  refine w_if_eq (tgt := 89) C dX12_alike_82 (by decide) hE (fun hc e1 => ?_) (fun hc e1 => ?_)
  · refine lv_iconst (v := 0) hx hb dX12_alike_89 (by decide) ?_
    exact b_M_alike_90 C N     h (0 : Int32) _ _ ls w  (lv_sub hl [] rfl) e1
  · refine lv_iconst (v := 1) hx hb dX12_alike_85 (by decide) ?_
    refine lv_goto (tgt := 90) hx hb dX12_alike_86 (by decide) ?_
    exact b_M_alike_90 C N     h (1 : Int32) _ _ ls w  (lv_sub hl [] rfl) e1
set_option maxRecDepth 20000 in
set_option maxHeartbeats 4000000 in
theorem b_M_alike_74 {p : Program} {l : Launch} {e : Env} {s : State} {m : MethodId} {args : Array Value} {below : List Frame} {meth : Method} {c : Code} {D : va_G} {cy : cyT} {z : Nat} (C : MX p s m args meth c cX12_alike 5 ((some .int)) RX12 (Cond.code yX12_alike cX12_alike 5 ((some .int)) :: GW)) (N : Nat) {r : Int32} {g : hS} {rc38 : hS → Nat → Int32 → Int32 → Option (Int32 × hS)}  (hrc38 : ∀ (h : hS) (th : Nat) (x3 : Int32) (x4 : Int32) (H : Heap) (locs : List Loc) (ls : Array Slot), wd D cy z s 0 h H locs → lv_has ls 5 [(0, .ref th), (3, .int x3), (4, .int x4)] → rc38 h th x3 x4 = some (r, g) → W p l e { frames := 8, cells := 0, slots := 0, locals := 215 } s m args below meth c H locs 0 0 (MQ below (eQ D cy z (rI r) g) args s 0 0 (fun q => z ≤ q)) (F0 m 38 ls [])) : ∀  (h : hS) (th : Nat) (x4 : Int32) (y0 : Int32) (H : Heap) (locs : List Loc) (ls : Array Slot), wd D cy z s 0 h H locs → lv_has ls 5 [(0, .ref th), (4, .int x4)] → f_M_alike_74 N rc38  h th x4 y0 = some (r, g) → W p l e { frames := 8, cells := 0, slots := 0, locals := 215 } s m args below meth c H locs 0 0 (MQ below (eQ D cy z (rI r) g) args s 0 0 (fun q => z ≤ q)) (F0 m 74 ls [.int y0]) := by
  obtain ⟨hx, hb, hr, hml, hown, hts, hlk⟩ := id C
  intro  h th x4 y0 H locs ls w  hl hE
  unfold f_M_alike_74 at hE
  refine lv_istore_n (lv' := [(3, .int y0), (0, .ref th), (4, .int x4)]) hx hb dX12_alike_74 rfl hl (by decide) rfl (fun ls hl => ?_)
  obtain ⟨v1, ev1, e1⟩ := bn_some hE
  refine lv_iinc (v := v1) (lv' := [(4, .int v1), (3, .int y0), (0, .ref th)]) hx hb dX12_alike_75 hl (k := 2) rfl (by rw [ev1]; rfl) (by decide) rfl (fun ls hl => ?_)
  refine lv_goto (tgt := 38) hx hb dX12_alike_78 (by decide) ?_
  exact hrc38  h th y0 v1 _ _ ls w  (lv_sub hl [2, 1, 0] rfl) e1
set_option maxRecDepth 20000 in
set_option maxHeartbeats 4000000 in
theorem b_M_alike_38 {p : Program} {l : Launch} {e : Env} {s : State} {m : MethodId} {args : Array Value} {below : List Frame} {meth : Method} {c : Code} {D : va_G} {cy : cyT} {z : Nat} (C : MX p s m args meth c cX12_alike 5 ((some .int)) RX12 (Cond.code yX12_alike cX12_alike 5 ((some .int)) :: GW)) (N : Nat) {r : Int32} {g : hS}  : ∀ (n : Nat) (h : hS) (th : Nat) (x3 : Int32) (x4 : Int32) (H : Heap) (locs : List Loc) (ls : Array Slot), wd D cy z s 0 h H locs → lv_has ls 5 [(0, .ref th), (3, .int x3), (4, .int x4)] → f_M_alike_38 N  n h th x3 x4 = some (r, g) → W p l e { frames := 8, cells := 0, slots := 0, locals := 215 } s m args below meth c H locs 0 0 (MQ below (eQ D cy z (rI r) g) args s 0 0 (fun q => z ≤ q)) (F0 m 38 ls []) := by
  obtain ⟨hx, hb, hr, hml, hown, hts, hlk⟩ := id C
  intro n
  induction n with
  | zero =>
    intro  h th x3 x4 H locs ls w  hl hE
    cases hE
  | succ n ih =>
    intro  h th x3 x4 H locs ls w  hl hE
    unfold f_M_alike_38 at hE
    refine lv_iload hx hb dX12_alike_38 (lv_at hl 2 rfl) ?_
    refine lv_aload_n hx hb dX12_alike_40 rfl (lv_at hl 0 rfl) ?_
    refine w_gR (r := some th) (ci := 0) (k := 4) C w rfl (by decide) (GF_wsX120 _) (by decide) rfl (List.mem_cons_of_mem _ gw_6_23) rfl dX12_alike_41 hE (fun v1 e1 => ?_)
    refine w_lenI (r := v1) C w dX12_alike_44 e1 (fun v2 e2 => ?_)
    refine w_icmp_ge (tgt := 81) C dX12_alike_45 (by decide) e2 (fun hc e3 => ?_) (fun hc e3 => ?_)
    · exact b_M_alike_81 C N     h x3 _ _ ls w  (lv_sub hl [1] rfl) e3
    · refine lv_iload_n hx hb dX12_alike_48 rfl (lv_at hl 1 rfl) ?_
      refine w_if_eq (tgt := 81) C dX12_alike_49 (by decide) e3 (fun hc e4 => ?_) (fun hc e4 => ?_)
      · exact b_M_alike_81 C N     h x3 _ _ ls w  (lv_sub hl [1] rfl) e4
      · refine lv_aload_n hx hb dX12_alike_52 rfl (lv_at hl 0 rfl) ?_
        refine w_gR (r := some th) (ci := 0) (k := 4) C w rfl (by decide) (GF_wsX120 _) (by decide) rfl (List.mem_cons_of_mem _ gw_6_23) rfl dX12_alike_53 e4 (fun v3 e5 => ?_)
        refine lv_iload hx hb dX12_alike_56 (lv_at hl 2 rfl) ?_
        refine w_aI (r := v3) C w dX12_alike_58 e5 (fun v4 e6 => ?_)
        refine lv_aload_n hx hb dX12_alike_59 rfl (lv_at hl 0 rfl) ?_
        refine w_gR (r := some th) (ci := 0) (k := 5) C w rfl (by decide) (GF_wsX120 _) (by decide) rfl (List.mem_cons_of_mem _ gw_7_0) rfl dX12_alike_60 e6 (fun v5 e7 => ?_)
        refine lv_iload hx hb dX12_alike_63 (lv_at hl 2 rfl) ?_
        refine w_aI (r := v5) C w dX12_alike_65 e7 (fun v6 e8 => ?_)
        refine w_icmp_ne (tgt := 73) C dX12_alike_66 (by decide) e8 (fun hc e9 => ?_) (fun hc e9 => ?_)
        · refine lv_iconst (v := 0) hx hb dX12_alike_73 (by decide) ?_
          exact b_M_alike_74 C N  ih   h th x4 (0 : Int32) _ _ ls w  (lv_sub hl [0, 2] rfl) e9
        · refine lv_iconst (v := 1) hx hb dX12_alike_69 (by decide) ?_
          refine lv_goto (tgt := 74) hx hb dX12_alike_70 (by decide) ?_
          exact b_M_alike_74 C N  ih   h th x4 (1 : Int32) _ _ ls w  (lv_sub hl [0, 2] rfl) e9
set_option maxRecDepth 20000 in
set_option maxHeartbeats 4000000 in
theorem k_M_alike (l : Launch) (D : va_G) (cy : cyT) (z : Nat) (N : Nat) (h : hS) (th : Nat) (x1 : Int32) (x2 : Int32) (r : Int32) (g : hS) (hE : f_M_alike N h th x1 x2 = some (r, g)) : ct l yX12_alike (Cond.code yX12_alike cX12_alike 5 ((some .int)) :: GW) { frames := 8, cells := 0, slots := 0, locals := 215 } D cy z h [.ref th, .int x1, .int x2] (rI r) g := by
  refine Met.ofW (cc := cX12_alike) (maxL := 5) (ret := (some .int)) (by decide) rfl ?_
  intro p e s m args below meth c s₁ B hml hv
  obtain ⟨rfl, hw⟩ := hv
  have C : MX p s m ([.ref th, .int x1, .int x2] : List Value).toArray meth c cX12_alike 5 ((some .int)) RX12 (Cond.code yX12_alike cX12_alike 5 ((some .int)) :: GW) := ⟨B.exec, B.bytes, B.returns, hml, findClass_of_methodNamed B.named, atoms_spec (ws := Cond.code yX12_alike cX12_alike 5 ((some .int)) :: GW) B.pre, B.notSynchronized⟩
  obtain ⟨hx, hb, hr, hml, hown, hts, hlk⟩ := id C
  have w := wd_of hw
  obtain ⟨ls, hen, hl⟩ : ∃ ls : Array Slot, entryFrame m ([.ref th, .int x1, .int x2] : List Value).toArray 5 = F0 m 0 ls [] ∧ lv_has ls 5 [(0, .ref th), (1, .int x1), (2, .int x2)] := by
    exact ⟨_, lg_entry_eq _ _ _, lv_entry _ (Nat.le_of_ble_eq_true rfl)⟩
  rw [hen]
  unfold f_M_alike at hE
  refine lv_aload_n hx hb dX12_alike_0 rfl (lv_at hl 0 rfl) ?_
  refine lv_iconst (v := 0) hx hb dX12_alike_1 (by decide) ?_
  refine w_pI (r := some th) (ci := 0) (k := 1) C w rfl (by decide) (by unfold roK; omega) (GF_wsX120 _) tyX12 tyX12_ok nmX12 (by decide) rfl (List.mem_cons_of_mem _ gw_8_18) rfl rfl (tyX12_ok 1 (by decide)) dX12_alike_2 hE (fun h1 H locs w hsh1 e1 => ?_)
  refine lv_aload_n hx hb dX12_alike_5 rfl (lv_at hl 0 rfl) ?_
  refine lv_iload_n hx hb dX12_alike_6 rfl (lv_at hl 1 rfl) ?_
  refine w_VI GW_good (n := 1) (F := 1) (Lc := 25) (o := some th) (av := [.int x1]) (rest := []) C w rfl (by decide) (fun a r g hf => k_M_isCost l D cy z N h1 a x1 r g hf) gw_24_20 gw_24_21 gw_24_22 gw_1_5 gw_24_23 (by decide +kernel) ⟨Nat.le_of_ble_eq_true rfl, Nat.le_of_ble_eq_true rfl⟩ rfl hl.1 rfl (Nat.le_of_ble_eq_true rfl) dX12_alike_7 (fun a => (sh_M_isCost N h1 a x1)) ⟨by decide, by decide⟩ e1 (fun v2 h3 H locs w hsh3 e2 => ?_)
  refine w_if_eq (tgt := 21) C dX12_alike_10 (by decide) e2 (fun hc e3 => ?_) (fun hc e3 => ?_)
  · exact b_M_alike_21 C N     h3 th _ _ ls w  (lv_sub hl [0] rfl) e3
  · refine lv_aload_n hx hb dX12_alike_13 rfl (lv_at hl 0 rfl) ?_
    refine lv_iload_n hx hb dX12_alike_14 rfl (lv_at hl 2 rfl) ?_
    refine w_VI GW_good (n := 1) (F := 1) (Lc := 25) (o := some th) (av := [.int x2]) (rest := []) C w rfl (by decide) (fun a r g hf => k_M_isCost l D cy z N h3 a x2 r g hf) gw_24_20 gw_24_21 gw_24_22 gw_1_5 gw_24_23 (by decide +kernel) ⟨Nat.le_of_ble_eq_true rfl, Nat.le_of_ble_eq_true rfl⟩ rfl hl.1 rfl (Nat.le_of_ble_eq_true rfl) dX12_alike_15 (fun a => (sh_M_isCost N h3 a x2)) ⟨by decide, by decide⟩ e3 (fun v4 h5 H locs w hsh5 e4 => ?_)
    refine w_if_ne (tgt := 27) C dX12_alike_18 (by decide) e4 (fun hc e5 => ?_) (fun hc e5 => ?_)
    · refine lv_aload_n hx hb dX12_alike_27 rfl (lv_at hl 0 rfl) ?_
      refine lv_iload_n hx hb dX12_alike_28 rfl (lv_at hl 1 rfl) ?_
      refine lv_iload_n hx hb dX12_alike_29 rfl (lv_at hl 2 rfl) ?_
      refine w_VV GW_good (n := 2) (F := 7) (Lc := 193) (o := some th) (av := [.int x1, .int x2]) (rest := []) C w rfl (by decide) (fun a r g hf => k_M_tellBoth l D cy z N h5 a x1 x2 r g hf) gw_44_3 gw_44_4 gw_44_5 gw_1_5 gw_44_6 (by decide +kernel) ⟨Nat.le_of_ble_eq_true rfl, Nat.le_of_ble_eq_true rfl⟩ rfl hl.1 rfl (Nat.le_of_ble_eq_true rfl) dX12_alike_30 (fun a => (sh_M_tellBoth N h5 a x1 x2)) ⟨by decide, by decide⟩ e5 (fun v6 h7 H locs w hsh7 e6 => ?_)
      refine lv_iconst (v := 1) hx hb dX12_alike_33 (by decide) ?_
      refine lv_istore_n (lv' := [(3, .int (1 : Int32)), (0, .ref th), (1, .int x1), (2, .int x2)]) hx hb dX12_alike_34 rfl hl (by decide) rfl (fun ls hl => ?_)
      refine lv_iconst (v := 0) hx hb dX12_alike_35 (by decide) ?_
      refine lv_istore (lv' := [(4, .int (0 : Int32)), (3, .int (1 : Int32)), (0, .ref th), (1, .int x1), (2, .int x2)]) hx hb dX12_alike_36 hl (by decide) rfl (fun ls hl => ?_)
      exact b_M_alike_38 C N   N  h7 th (1 : Int32) (0 : Int32) _ _ ls w  (lv_sub hl [2, 1, 0] rfl) e6
    · exact b_M_alike_21 C N     h5 th _ _ ls w  (lv_sub hl [0] rfl) e5
set_option maxRecDepth 20000 in
set_option maxHeartbeats 4000000 in
theorem k_M_runsWithout (l : Launch) (D : va_G) (cy : cyT) (z : Nat) (N : Nat) (h : hS) (th : Nat) (x1 : Int32) (x2 : Int32) (r : Int32) (g : hS) (hE : f_M_runsWithout N h th x1 x2 = some (r, g)) : ct l yX12_runsWithout (Cond.code yX12_runsWithout cX12_runsWithout 4 ((some .boolean)) :: GW) { frames := 6, cells := 0, slots := 0, locals := 171 } D cy z h [.ref th, .int x1, .int x2] (rI r) g := by
  refine Met.ofW (cc := cX12_runsWithout) (maxL := 4) (ret := (some .boolean)) (by decide) rfl ?_
  intro p e s m args below meth c s₁ B hml hv
  obtain ⟨rfl, hw⟩ := hv
  have C : MX p s m ([.ref th, .int x1, .int x2] : List Value).toArray meth c cX12_runsWithout 4 ((some .boolean)) RX12 (Cond.code yX12_runsWithout cX12_runsWithout 4 ((some .boolean)) :: GW) := ⟨B.exec, B.bytes, B.returns, hml, findClass_of_methodNamed B.named, atoms_spec (ws := Cond.code yX12_runsWithout cX12_runsWithout 4 ((some .boolean)) :: GW) B.pre, B.notSynchronized⟩
  obtain ⟨hx, hb, hr, hml, hown, hts, hlk⟩ := id C
  have w := wd_of hw
  obtain ⟨ls, hen, hl⟩ : ∃ ls : Array Slot, entryFrame m ([.ref th, .int x1, .int x2] : List Value).toArray 4 = F0 m 0 ls [] ∧ lv_has ls 4 [(0, .ref th), (1, .int x1), (2, .int x2)] := by
    exact ⟨_, lg_entry_eq _ _ _, lv_entry _ (Nat.le_of_ble_eq_true rfl)⟩
  rw [hen]
  unfold f_M_runsWithout at hE
  refine lv_aload_n hx hb dX12_runsWithout_0 rfl (lv_at hl 0 rfl) ?_
  refine lv_iload_n hx hb dX12_runsWithout_1 rfl (lv_at hl 2 rfl) ?_
  refine w_pI (r := some th) (ci := 0) (k := 13) C w rfl (by decide) (by unfold roK; omega) (GF_wsX120 _) tyX12 tyX12_ok nmX12 (by decide) rfl (List.mem_cons_of_mem _ gw_7_8) rfl rfl (tyX12_ok 13 (by decide)) dX12_runsWithout_2 hE (fun h1 H locs w hsh1 e1 => ?_)
  refine lv_aload_n hx hb dX12_runsWithout_5 rfl (lv_at hl 0 rfl) ?_
  refine lv_aload_n hx hb dX12_runsWithout_6 rfl (lv_at hl 0 rfl) ?_
  refine w_gR (r := some th) (ci := 0) (k := 2) C w rfl (by decide) (GF_wsX120 _) (by decide) rfl (List.mem_cons_of_mem _ gw_6_21) rfl dX12_runsWithout_7 e1 (fun v2 e2 => ?_)
  refine lv_iload_n hx hb dX12_runsWithout_10 rfl (lv_at hl 1 rfl) ?_
  obtain ⟨q3, eq3, e3⟩ := nn_some e2
  subst eq3
  refine w_VI GW_good (n := 2) (F := 5) (Lc := 146) (o := some th) (av := [.ref q3, .int x1]) (rest := []) C w rfl (by decide) (fun a r g hf => k_M_runs l D cy z N h1 a q3 x1 r g hf) gw_28_13 gw_28_14 gw_28_15 gw_1_5 gw_28_16 (by decide +kernel) ⟨Nat.le_of_ble_eq_true rfl, Nat.le_of_ble_eq_true rfl⟩ rfl hl.1 rfl (Nat.le_of_ble_eq_true rfl) dX12_runsWithout_11 (fun a => (sh_M_runs N h1 a q3 x1)) ⟨by decide, by decide⟩ e3 (fun v4 h5 H locs w hsh5 e4 => ?_)
  refine lv_istore_n (lv' := [(3, .int v4), (0, .ref th), (1, .int x1), (2, .int x2)]) hx hb dX12_runsWithout_14 rfl hl (by decide) rfl (fun ls hl => ?_)
  refine lv_aload_n hx hb dX12_runsWithout_15 rfl (lv_at hl 1 rfl) ?_
  refine lv_iconst (v := -1) hx hb dX12_runsWithout_16 (by decide) ?_
  refine w_pI (r := some th) (ci := 0) (k := 13) C w rfl (by decide) (by unfold roK; omega) (GF_wsX120 _) tyX12 tyX12_ok nmX12 (by decide) rfl (List.mem_cons_of_mem _ gw_7_8) rfl rfl (tyX12_ok 13 (by decide)) dX12_runsWithout_17 e4 (fun h6 H locs w hsh6 e5 => ?_)
  refine lv_iload_n hx hb dX12_runsWithout_20 rfl (lv_at hl 0 rfl) ?_
  exact w_zret C w e5 dX12_runsWithout_21
set_option maxRecDepth 20000 in
set_option maxHeartbeats 4000000 in
theorem k_M_runsWith (l : Launch) (D : va_G) (cy : cyT) (z : Nat) (N : Nat) (h : hS) (th : Nat) (x1 : Int32) (x2 : Int32) (x3 : Int32) (r : Int32) (g : hS) (hE : f_M_runsWith N h th x1 x2 x3 = some (r, g)) : ct l yX12_runsWith (Cond.code yX12_runsWith cX12_runsWith 5 ((some .boolean)) :: GW) { frames := 6, cells := 0, slots := 0, locals := 171 } D cy z h [.ref th, .int x1, .int x2, .int x3] (rI r) g := by
  refine Met.ofW (cc := cX12_runsWith) (maxL := 5) (ret := (some .boolean)) (by decide) rfl ?_
  intro p e s m args below meth c s₁ B hml hv
  obtain ⟨rfl, hw⟩ := hv
  have C : MX p s m ([.ref th, .int x1, .int x2, .int x3] : List Value).toArray meth c cX12_runsWith 5 ((some .boolean)) RX12 (Cond.code yX12_runsWith cX12_runsWith 5 ((some .boolean)) :: GW) := ⟨B.exec, B.bytes, B.returns, hml, findClass_of_methodNamed B.named, atoms_spec (ws := Cond.code yX12_runsWith cX12_runsWith 5 ((some .boolean)) :: GW) B.pre, B.notSynchronized⟩
  obtain ⟨hx, hb, hr, hml, hown, hts, hlk⟩ := id C
  have w := wd_of hw
  obtain ⟨ls, hen, hl⟩ : ∃ ls : Array Slot, entryFrame m ([.ref th, .int x1, .int x2, .int x3] : List Value).toArray 5 = F0 m 0 ls [] ∧ lv_has ls 5 [(0, .ref th), (1, .int x1), (2, .int x2), (3, .int x3)] := by
    exact ⟨_, lg_entry_eq _ _ _, lv_entry _ (Nat.le_of_ble_eq_true rfl)⟩
  rw [hen]
  unfold f_M_runsWith at hE
  refine lv_aload_n hx hb dX12_runsWith_0 rfl (lv_at hl 0 rfl) ?_
  refine lv_iload_n hx hb dX12_runsWith_1 rfl (lv_at hl 2 rfl) ?_
  refine w_pI (r := some th) (ci := 0) (k := 14) C w rfl (by decide) (by unfold roK; omega) (GF_wsX120 _) tyX12 tyX12_ok nmX12 (by decide) rfl (List.mem_cons_of_mem _ gw_7_9) rfl rfl (tyX12_ok 14 (by decide)) dX12_runsWith_2 hE (fun h1 H locs w hsh1 e1 => ?_)
  refine lv_aload_n hx hb dX12_runsWith_5 rfl (lv_at hl 0 rfl) ?_
  refine lv_iload_n hx hb dX12_runsWith_6 rfl (lv_at hl 3 rfl) ?_
  refine w_pI (r := some th) (ci := 0) (k := 15) C w rfl (by decide) (by unfold roK; omega) (GF_wsX120 _) tyX12 tyX12_ok nmX12 (by decide) rfl (List.mem_cons_of_mem _ gw_28_17) rfl rfl (tyX12_ok 15 (by decide)) dX12_runsWith_7 e1 (fun h2 H locs w hsh2 e2 => ?_)
  refine lv_aload_n hx hb dX12_runsWith_10 rfl (lv_at hl 0 rfl) ?_
  refine lv_aload_n hx hb dX12_runsWith_11 rfl (lv_at hl 0 rfl) ?_
  refine w_gR (r := some th) (ci := 0) (k := 2) C w rfl (by decide) (GF_wsX120 _) (by decide) rfl (List.mem_cons_of_mem _ gw_6_21) rfl dX12_runsWith_12 e2 (fun v3 e3 => ?_)
  refine lv_iload_n hx hb dX12_runsWith_15 rfl (lv_at hl 1 rfl) ?_
  obtain ⟨q4, eq4, e4⟩ := nn_some e3
  subst eq4
  refine w_VI GW_good (n := 2) (F := 5) (Lc := 146) (o := some th) (av := [.ref q4, .int x1]) (rest := []) C w rfl (by decide) (fun a r g hf => k_M_runs l D cy z N h2 a q4 x1 r g hf) gw_28_13 gw_28_14 gw_28_15 gw_1_5 gw_28_16 (by decide +kernel) ⟨Nat.le_of_ble_eq_true rfl, Nat.le_of_ble_eq_true rfl⟩ rfl hl.1 rfl (Nat.le_of_ble_eq_true rfl) dX12_runsWith_16 (fun a => (sh_M_runs N h2 a q4 x1)) ⟨by decide, by decide⟩ e4 (fun v5 h6 H locs w hsh6 e5 => ?_)
  refine lv_istore (lv' := [(4, .int v5), (0, .ref th), (1, .int x1), (2, .int x2), (3, .int x3)]) hx hb dX12_runsWith_19 hl (by decide) rfl (fun ls hl => ?_)
  refine lv_aload_n hx hb dX12_runsWith_21 rfl (lv_at hl 1 rfl) ?_
  refine lv_iconst (v := -1) hx hb dX12_runsWith_22 (by decide) ?_
  refine w_pI (r := some th) (ci := 0) (k := 14) C w rfl (by decide) (by unfold roK; omega) (GF_wsX120 _) tyX12 tyX12_ok nmX12 (by decide) rfl (List.mem_cons_of_mem _ gw_7_9) rfl rfl (tyX12_ok 14 (by decide)) dX12_runsWith_23 e5 (fun h7 H locs w hsh7 e6 => ?_)
  refine lv_iload hx hb dX12_runsWith_26 (lv_at hl 0 rfl) ?_
  exact w_zret C w e6 dX12_runsWith_28
set_option maxRecDepth 20000 in
set_option maxHeartbeats 4000000 in
theorem b_M_isWeighed_25 {p : Program} {l : Launch} {e : Env} {s : State} {m : MethodId} {args : Array Value} {below : List Frame} {meth : Method} {c : Code} {D : va_G} {cy : cyT} {z : Nat} (C : MX p s m args meth c cX12_isWeighed 3 ((some .boolean)) RX12 (Cond.code yX12_isWeighed cX12_isWeighed 3 ((some .boolean)) :: GW)) (N : Nat) {r : Int32} {g : hS}  : ∀  (h : hS) (y0 : Int32) (H : Heap) (locs : List Loc) (ls : Array Slot), wd D cy z s 0 h H locs → lv_has ls 3 [] → f_M_isWeighed_25 N   h y0 = some (r, g) → W p l e { frames := 3, cells := 0, slots := 0, locals := 68 } s m args below meth c H locs 0 0 (MQ below (eQ D cy z (rI r) g) args s 0 0 (fun q => z ≤ q)) (F0 m 25 ls [.int y0]) := by
  obtain ⟨hx, hb, hr, hml, hown, hts, hlk⟩ := id C
  intro  h y0 H locs ls w  hl hE
  unfold f_M_isWeighed_25 at hE
  exact w_zret C w hE dX12_isWeighed_25
set_option maxRecDepth 20000 in
set_option maxHeartbeats 4000000 in
theorem b_M_isWeighed_24 {p : Program} {l : Launch} {e : Env} {s : State} {m : MethodId} {args : Array Value} {below : List Frame} {meth : Method} {c : Code} {D : va_G} {cy : cyT} {z : Nat} (C : MX p s m args meth c cX12_isWeighed 3 ((some .boolean)) RX12 (Cond.code yX12_isWeighed cX12_isWeighed 3 ((some .boolean)) :: GW)) (N : Nat) {r : Int32} {g : hS}  : ∀  (h : hS)  (H : Heap) (locs : List Loc) (ls : Array Slot), wd D cy z s 0 h H locs → lv_has ls 3 [] → f_M_isWeighed_24 N   h  = some (r, g) → W p l e { frames := 3, cells := 0, slots := 0, locals := 68 } s m args below meth c H locs 0 0 (MQ below (eQ D cy z (rI r) g) args s 0 0 (fun q => z ≤ q)) (F0 m 24 ls []) := by
  obtain ⟨hx, hb, hr, hml, hown, hts, hlk⟩ := id C
  intro  h  H locs ls w  hl hE
  unfold f_M_isWeighed_24 at hE
  refine lv_iconst (v := 0) hx hb dX12_isWeighed_24 (by decide) ?_
  exact b_M_isWeighed_25 C N     h (0 : Int32) _ _ ls w  (lv_sub hl [] rfl) hE
set_option maxRecDepth 20000 in
set_option maxHeartbeats 4000000 in
theorem k_M_isWeighed (l : Launch) (D : va_G) (cy : cyT) (z : Nat) (N : Nat) (h : hS) (th : Nat) (x1 : Int32) (x2 : Int32) (r : Int32) (g : hS) (hE : f_M_isWeighed N h th x1 x2 = some (r, g)) : ct l yX12_isWeighed (Cond.code yX12_isWeighed cX12_isWeighed 3 ((some .boolean)) :: GW) { frames := 3, cells := 0, slots := 0, locals := 68 } D cy z h [.ref th, .int x1, .int x2] (rI r) g := by
  refine Met.ofW (cc := cX12_isWeighed) (maxL := 3) (ret := (some .boolean)) (by decide) rfl ?_
  intro p e s m args below meth c s₁ B hml hv
  obtain ⟨rfl, hw⟩ := hv
  have C : MX p s m ([.ref th, .int x1, .int x2] : List Value).toArray meth c cX12_isWeighed 3 ((some .boolean)) RX12 (Cond.code yX12_isWeighed cX12_isWeighed 3 ((some .boolean)) :: GW) := ⟨B.exec, B.bytes, B.returns, hml, findClass_of_methodNamed B.named, atoms_spec (ws := Cond.code yX12_isWeighed cX12_isWeighed 3 ((some .boolean)) :: GW) B.pre, B.notSynchronized⟩
  obtain ⟨hx, hb, hr, hml, hown, hts, hlk⟩ := id C
  have w := wd_of hw
  obtain ⟨ls, hen, hl⟩ : ∃ ls : Array Slot, entryFrame m ([.ref th, .int x1, .int x2] : List Value).toArray 3 = F0 m 0 ls [] ∧ lv_has ls 3 [(0, .ref th), (1, .int x1), (2, .int x2)] := by
    exact ⟨_, lg_entry_eq _ _ _, lv_entry _ (Nat.le_of_ble_eq_true rfl)⟩
  rw [hen]
  unfold f_M_isWeighed at hE
  refine lv_aload_n hx hb dX12_isWeighed_0 rfl (lv_at hl 0 rfl) ?_
  refine lv_iload_n hx hb dX12_isWeighed_1 rfl (lv_at hl 1 rfl) ?_
  refine lv_iload_n hx hb dX12_isWeighed_2 rfl (lv_at hl 2 rfl) ?_
  refine w_VI GW_good (n := 2) (F := 2) (Lc := 46) (o := some th) (av := [.int x1, .int x2]) (rest := []) C w rfl (by decide) (fun a r g hf => k_M_isStep l D cy z N h a x1 x2 r g hf) gw_33_14 gw_33_15 gw_33_16 gw_1_5 gw_33_17 (by decide +kernel) ⟨Nat.le_of_ble_eq_true rfl, Nat.le_of_ble_eq_true rfl⟩ rfl hl.1 rfl (Nat.le_of_ble_eq_true rfl) dX12_isWeighed_3 (fun a => (sh_M_isStep N h a x1 x2)) ⟨by decide, by decide⟩ hE (fun v1 h2 H locs w hsh2 e1 => ?_)
  refine w_if_eq (tgt := 24) C dX12_isWeighed_6 (by decide) e1 (fun hc e2 => ?_) (fun hc e2 => ?_)
  · exact b_M_isWeighed_24 C N     h2  _ _ ls w  (lv_sub hl [] rfl) e2
  · refine lv_aload_n hx hb dX12_isWeighed_9 rfl (lv_at hl 0 rfl) ?_
    refine lv_iload_n hx hb dX12_isWeighed_10 rfl (lv_at hl 1 rfl) ?_
    refine lv_iload_n hx hb dX12_isWeighed_11 rfl (lv_at hl 2 rfl) ?_
    refine lv_iconst (v := 0) hx hb dX12_isWeighed_12 (by decide) ?_
    refine w_VI GW_good (n := 3) (F := 0) (Lc := 0) (o := some th) (av := [.int x1, .int x2, .int (0 : Int32)]) (rest := []) C w rfl (by decide) (fun a r g hf => k_M_stepAt l D cy z N h2 a x1 x2 (0 : Int32) r g hf) gw_33_22 gw_33_23 gw_34_0 gw_1_5 gw_34_1 (by decide +kernel) ⟨Nat.le_of_ble_eq_true rfl, Nat.le_of_ble_eq_true rfl⟩ rfl hl.1 rfl (Nat.le_of_ble_eq_true rfl) dX12_isWeighed_13 (fun a => (sh_M_stepAt N h2 a x1 x2 (0 : Int32))) ⟨by decide, by decide⟩ e2 (fun v3 h4 H locs w hsh4 e3 => ?_)
    refine lv_iconst (v := 2) hx hb dX12_isWeighed_16 (by decide) ?_
    refine w_icmp_gt (tgt := 24) C dX12_isWeighed_17 (by decide) e3 (fun hc e4 => ?_) (fun hc e4 => ?_)
    · exact b_M_isWeighed_24 C N     h4  _ _ ls w  (lv_sub hl [] rfl) e4
    · refine lv_iconst (v := 1) hx hb dX12_isWeighed_20 (by decide) ?_
      refine lv_goto (tgt := 25) hx hb dX12_isWeighed_21 (by decide) ?_
      exact b_M_isWeighed_25 C N     h4 (1 : Int32) _ _ ls w  (lv_sub hl [] rfl) e4
set_option maxRecDepth 20000 in
set_option maxHeartbeats 4000000 in
theorem b_M_heaviest_74 {p : Program} {l : Launch} {e : Env} {s : State} {m : MethodId} {args : Array Value} {below : List Frame} {meth : Method} {c : Code} {D : va_G} {cy : cyT} {z : Nat} (C : MX p s m args meth c cX12_heaviest 5 ((some .int)) RX12 (Cond.code yX12_heaviest cX12_heaviest 5 ((some .int)) :: GW)) (N : Nat) {r : Int32} {g : hS} {rc42 : hS → Nat → Int32 → Int32 → Int32 → Int32 → Option (Int32 × hS)}  (hrc42 : ∀ (h : hS) (th : Nat) (x1 : Int32) (x2 : Int32) (x3 : Int32) (x4 : Int32) (H : Heap) (locs : List Loc) (ls : Array Slot), wd D cy z s 0 h H locs → lv_has ls 5 [(0, .ref th), (1, .int x1), (2, .int x2), (3, .int x3), (4, .int x4)] → rc42 h th x1 x2 x3 x4 = some (r, g) → W p l e { frames := 7, cells := 0, slots := 0, locals := 195 } s m args below meth c H locs 0 0 (MQ below (eQ D cy z (rI r) g) args s 0 0 (fun q => z ≤ q)) (F0 m 42 ls [])) : ∀  (h : hS) (th : Nat) (x1 : Int32) (x2 : Int32) (x3 : Int32) (x4 : Int32) (H : Heap) (locs : List Loc) (ls : Array Slot), wd D cy z s 0 h H locs → lv_has ls 5 [(0, .ref th), (1, .int x1), (2, .int x2), (3, .int x3), (4, .int x4)] → f_M_heaviest_74 N rc42  h th x1 x2 x3 x4 = some (r, g) → W p l e { frames := 7, cells := 0, slots := 0, locals := 195 } s m args below meth c H locs 0 0 (MQ below (eQ D cy z (rI r) g) args s 0 0 (fun q => z ≤ q)) (F0 m 74 ls []) := by
  obtain ⟨hx, hb, hr, hml, hown, hts, hlk⟩ := id C
  intro  h th x1 x2 x3 x4 H locs ls w  hl hE
  unfold f_M_heaviest_74 at hE
  obtain ⟨v1, ev1, e1⟩ := bn_some hE
  refine lv_iinc (v := v1) (lv' := [(4, .int v1), (0, .ref th), (1, .int x1), (2, .int x2), (3, .int x3)]) hx hb dX12_heaviest_74 hl (k := 4) rfl (by rw [ev1]; rfl) (by decide) rfl (fun ls hl => ?_)
  refine lv_goto (tgt := 42) hx hb dX12_heaviest_77 (by decide) ?_
  exact hrc42  h th x1 x2 x3 v1 _ _ ls w  (lv_sub hl [1, 2, 3, 4, 0] rfl) e1
set_option maxRecDepth 20000 in
set_option maxHeartbeats 4000000 in
theorem b_M_heaviest_42 {p : Program} {l : Launch} {e : Env} {s : State} {m : MethodId} {args : Array Value} {below : List Frame} {meth : Method} {c : Code} {D : va_G} {cy : cyT} {z : Nat} (C : MX p s m args meth c cX12_heaviest 5 ((some .int)) RX12 (Cond.code yX12_heaviest cX12_heaviest 5 ((some .int)) :: GW)) (N : Nat) {r : Int32} {g : hS}  : ∀ (n : Nat) (h : hS) (th : Nat) (x1 : Int32) (x2 : Int32) (x3 : Int32) (x4 : Int32) (H : Heap) (locs : List Loc) (ls : Array Slot), wd D cy z s 0 h H locs → lv_has ls 5 [(0, .ref th), (1, .int x1), (2, .int x2), (3, .int x3), (4, .int x4)] → f_M_heaviest_42 N  n h th x1 x2 x3 x4 = some (r, g) → W p l e { frames := 7, cells := 0, slots := 0, locals := 195 } s m args below meth c H locs 0 0 (MQ below (eQ D cy z (rI r) g) args s 0 0 (fun q => z ≤ q)) (F0 m 42 ls []) := by
  obtain ⟨hx, hb, hr, hml, hown, hts, hlk⟩ := id C
  intro n
  induction n with
  | zero =>
    intro  h th x1 x2 x3 x4 H locs ls w  hl hE
    cases hE
  | succ n ih =>
    intro  h th x1 x2 x3 x4 H locs ls w  hl hE
    unfold f_M_heaviest_42 at hE
    refine lv_iload hx hb dX12_heaviest_42 (lv_at hl 4 rfl) ?_
    refine w_if_lt (tgt := 80) C dX12_heaviest_44 (by decide) hE (fun hc e1 => ?_) (fun hc e1 => ?_)
    · refine lv_iconst (v := -1) hx hb dX12_heaviest_80 (by decide) ?_
      exact w_iret C w e1 dX12_heaviest_81
    · refine lv_aload_n hx hb dX12_heaviest_47 rfl (lv_at hl 0 rfl) ?_
      refine lv_iload_n hx hb dX12_heaviest_48 rfl (lv_at hl 1 rfl) ?_
      refine lv_iload_n hx hb dX12_heaviest_49 rfl (lv_at hl 2 rfl) ?_
      refine lv_iload hx hb dX12_heaviest_50 (lv_at hl 4 rfl) ?_
      refine w_VI GW_good (n := 3) (F := 6) (Lc := 171) (o := some th) (av := [.int x1, .int x2, .int x4]) (rest := []) C w rfl (by decide) (fun a r g hf => k_M_runsWith l D cy z N h a x1 x2 x4 r g hf) gw_50_22 gw_50_23 gw_51_0 gw_1_5 gw_51_1 (by decide +kernel) ⟨Nat.le_of_ble_eq_true rfl, Nat.le_of_ble_eq_true rfl⟩ rfl hl.1 rfl (Nat.le_of_ble_eq_true rfl) dX12_heaviest_52 (fun a => (sh_M_runsWith N h a x1 x2 x4)) ⟨by decide, by decide⟩ e1 (fun v1 h2 H locs w hsh2 e2 => ?_)
      refine w_if_eq (tgt := 74) C dX12_heaviest_55 (by decide) e2 (fun hc e3 => ?_) (fun hc e3 => ?_)
      · exact b_M_heaviest_74 C N  ih   h2 th x1 x2 x3 x4 _ _ ls w  (lv_sub hl [0, 1, 2, 3, 4] rfl) e3
      · refine lv_aload_n hx hb dX12_heaviest_58 rfl (lv_at hl 0 rfl) ?_
        refine w_gR (r := some th) (ci := 0) (k := 4) C w rfl (by decide) (GF_wsX120 _) (by decide) rfl (List.mem_cons_of_mem _ gw_6_23) rfl dX12_heaviest_59 e3 (fun v3 e4 => ?_)
        obtain ⟨q4, eq4, e5⟩ := nn_some e4
        subst eq4
        refine w_SJ GW_good (n := 1) (F := 2) (Lc := 71) (av := [.ref q4]) (rest := []) C w (fun r g hf => k_M_leastOf l D cy z N h2 q4 r g hf) gw_30_17 gw_30_18 gw_1_5 gw_30_19 (by decide +kernel) ⟨Nat.le_of_ble_eq_true rfl, Nat.le_of_ble_eq_true rfl⟩ rfl hl.1 rfl (Nat.le_of_ble_eq_true rfl) dX12_heaviest_62 (sh_M_leastOf N h2 q4) ⟨by decide, by decide⟩ e5 (fun v5 h6 H locs w hsh6 e6 => ?_)
        refine lv_iload_n hx hb dX12_heaviest_65 rfl (lv_at hl 3 rfl) ?_
        refine lv_i2l hx hb dX12_heaviest_66 rfl ?_
        refine W.lcmp hx hb dX12_heaviest_67 ?_
        refine w_if_gt (tgt := 74) C dX12_heaviest_68 (by decide) e6 (fun hc e7 => ?_) (fun hc e7 => ?_)
        · exact b_M_heaviest_74 C N  ih   h6 th x1 x2 x3 x4 _ _ ls w  (lv_sub hl [0, 1, 2, 3, 4] rfl) e7
        · refine lv_iload hx hb dX12_heaviest_71 (lv_at hl 4 rfl) ?_
          exact w_iret C w e7 dX12_heaviest_73
set_option maxRecDepth 20000 in
set_option maxHeartbeats 4000000 in
theorem k_M_heaviest (l : Launch) (D : va_G) (cy : cyT) (z : Nat) (N : Nat) (h : hS) (th : Nat) (x1 : Int32) (x2 : Int32) (x3 : Int32) (r : Int32) (g : hS) (hE : f_M_heaviest N h th x1 x2 x3 = some (r, g)) : ct l yX12_heaviest (Cond.code yX12_heaviest cX12_heaviest 5 ((some .int)) :: GW) { frames := 7, cells := 0, slots := 0, locals := 195 } D cy z h [.ref th, .int x1, .int x2, .int x3] (rI r) g := by
  refine Met.ofW (cc := cX12_heaviest) (maxL := 5) (ret := (some .int)) (by decide) rfl ?_
  intro p e s m args below meth c s₁ B hml hv
  obtain ⟨rfl, hw⟩ := hv
  have C : MX p s m ([.ref th, .int x1, .int x2, .int x3] : List Value).toArray meth c cX12_heaviest 5 ((some .int)) RX12 (Cond.code yX12_heaviest cX12_heaviest 5 ((some .int)) :: GW) := ⟨B.exec, B.bytes, B.returns, hml, findClass_of_methodNamed B.named, atoms_spec (ws := Cond.code yX12_heaviest cX12_heaviest 5 ((some .int)) :: GW) B.pre, B.notSynchronized⟩
  obtain ⟨hx, hb, hr, hml, hown, hts, hlk⟩ := id C
  have w := wd_of hw
  obtain ⟨ls, hen, hl⟩ : ∃ ls : Array Slot, entryFrame m ([.ref th, .int x1, .int x2, .int x3] : List Value).toArray 5 = F0 m 0 ls [] ∧ lv_has ls 5 [(0, .ref th), (1, .int x1), (2, .int x2), (3, .int x3)] := by
    exact ⟨_, lg_entry_eq _ _ _, lv_entry _ (Nat.le_of_ble_eq_true rfl)⟩
  rw [hen]
  unfold f_M_heaviest at hE
  refine lv_aload_n hx hb dX12_heaviest_0 rfl (lv_at hl 0 rfl) ?_
  refine lv_iconst (v := 0) hx hb dX12_heaviest_1 (by decide) ?_
  refine w_pI (r := some th) (ci := 0) (k := 1) C w rfl (by decide) (by unfold roK; omega) (GF_wsX120 _) tyX12 tyX12_ok nmX12 (by decide) rfl (List.mem_cons_of_mem _ gw_8_18) rfl rfl (tyX12_ok 1 (by decide)) dX12_heaviest_2 hE (fun h1 H locs w hsh1 e1 => ?_)
  refine lv_aload_n hx hb dX12_heaviest_5 rfl (lv_at hl 0 rfl) ?_
  refine lv_iload_n hx hb dX12_heaviest_6 rfl (lv_at hl 1 rfl) ?_
  refine lv_iload_n hx hb dX12_heaviest_7 rfl (lv_at hl 2 rfl) ?_
  refine w_VI GW_good (n := 2) (F := 3) (Lc := 68) (o := some th) (av := [.int x1, .int x2]) (rest := []) C w rfl (by decide) (fun a r g hf => k_M_isWeighed l D cy z N h1 a x1 x2 r g hf) gw_50_18 gw_50_19 gw_50_20 gw_1_5 gw_50_21 (by decide +kernel) ⟨Nat.le_of_ble_eq_true rfl, Nat.le_of_ble_eq_true rfl⟩ rfl hl.1 rfl (Nat.le_of_ble_eq_true rfl) dX12_heaviest_8 (fun a => (sh_M_isWeighed N h1 a x1 x2)) ⟨by decide, by decide⟩ e1 (fun v2 h3 H locs w hsh3 e2 => ?_)
  refine w_if_ne (tgt := 20) C dX12_heaviest_11 (by decide) e2 (fun hc e3 => ?_) (fun hc e3 => ?_)
  · refine lv_iload_n hx hb dX12_heaviest_20 rfl (lv_at hl 3 rfl) ?_
    refine lv_i2l hx hb dX12_heaviest_21 rfl ?_
    refine lv_lconst (v := 0) hx hb dX12_heaviest_22 (by decide) ?_
    refine lv_ldc2 hx hb hown (hts _ (List.mem_cons_of_mem _ gw_29_13)) dX12_heaviest_23 ?_
    refine w_SI GW_good (n := 3) (F := 0) (Lc := 0) (av := [.long x3.toInt64, .long (0 : Int64), .long (100000000 : Int64)]) (rest := []) C w (fun r g hf => k_M_isIn l D cy z N h3 x3.toInt64 (0 : Int64) (100000000 : Int64) r g hf) gw_25_1 gw_25_2 gw_1_5 gw_25_3 (by decide +kernel) ⟨Nat.le_of_ble_eq_true rfl, Nat.le_of_ble_eq_true rfl⟩ rfl hl.1 rfl (Nat.le_of_ble_eq_true rfl) dX12_heaviest_26 (sh_M_isIn N h3 x3.toInt64 (0 : Int64) (100000000 : Int64)) ⟨by decide, by decide⟩ e3 (fun v4 h5 H locs w hsh5 e4 => ?_)
    refine w_if_ne (tgt := 38) C dX12_heaviest_29 (by decide) e4 (fun hc e5 => ?_) (fun hc e5 => ?_)
    · refine lv_bipush (v := 40) hx hb dX12_heaviest_38 (by decide) ?_
      refine lv_istore (lv' := [(4, .int (40 : Int32)), (0, .ref th), (1, .int x1), (2, .int x2), (3, .int x3)]) hx hb dX12_heaviest_40 hl (by decide) rfl (fun ls hl => ?_)
      exact b_M_heaviest_42 C N   N  h5 th x1 x2 x3 (40 : Int32) _ _ ls w  (lv_sub hl [1, 2, 3, 4, 0] rfl) e5
    · refine lv_aload_n hx hb dX12_heaviest_32 rfl (lv_at hl 0 rfl) ?_
      refine lv_iconst (v := 2) hx hb dX12_heaviest_33 (by decide) ?_
      refine w_VI GW_good (n := 1) (F := 0) (Lc := 0) (o := some th) (av := [.int (2 : Int32)]) (rest := []) C w rfl (by decide) (fun a r g hf => k_M_fail l D cy z N h5 a (2 : Int32) r g hf) gw_25_4 gw_25_5 gw_25_6 gw_1_5 gw_25_7 (by decide +kernel) ⟨Nat.le_of_ble_eq_true rfl, Nat.le_of_ble_eq_true rfl⟩ rfl hl.1 rfl (Nat.le_of_ble_eq_true rfl) dX12_heaviest_34 (fun a => (sh_M_fail N h5 a (2 : Int32))) ⟨by decide, by decide⟩ e5 (fun v6 h7 H locs w hsh7 e6 => ?_)
      exact w_iret C w e6 dX12_heaviest_37
  · refine lv_aload_n hx hb dX12_heaviest_14 rfl (lv_at hl 0 rfl) ?_
    refine lv_iconst (v := 1) hx hb dX12_heaviest_15 (by decide) ?_
    refine w_VI GW_good (n := 1) (F := 0) (Lc := 0) (o := some th) (av := [.int (1 : Int32)]) (rest := []) C w rfl (by decide) (fun a r g hf => k_M_fail l D cy z N h3 a (1 : Int32) r g hf) gw_25_4 gw_25_5 gw_25_6 gw_1_5 gw_25_7 (by decide +kernel) ⟨Nat.le_of_ble_eq_true rfl, Nat.le_of_ble_eq_true rfl⟩ rfl hl.1 rfl (Nat.le_of_ble_eq_true rfl) dX12_heaviest_16 (fun a => (sh_M_fail N h3 a (1 : Int32))) ⟨by decide, by decide⟩ e3 (fun v8 h9 H locs w hsh9 e7 => ?_)
    exact w_iret C w e7 dX12_heaviest_19
set_option maxRecDepth 20000 in
set_option maxHeartbeats 4000000 in
theorem b_M_sparedBy_37 {p : Program} {l : Launch} {e : Env} {s : State} {m : MethodId} {args : Array Value} {below : List Frame} {meth : Method} {c : Code} {D : va_G} {cy : cyT} {z : Nat} (C : MX p s m args meth c cX12_sparedBy 5 ((some .long)) RX12 (Cond.code yX12_sparedBy cX12_sparedBy 5 ((some .long)) :: GW)) (N : Nat) {r : Int64} {g : hS}  : ∀  (h : hS) (y0 : Int64) (H : Heap) (locs : List Loc) (ls : Array Slot), wd D cy z s 0 h H locs → lv_has ls 5 [] → f_M_sparedBy_37 N   h y0 = some (r, g) → W p l e { frames := 7, cells := 0, slots := 0, locals := 194 } s m args below meth c H locs 0 0 (MQ below (eQ D cy z (rJ r) g) args s 0 0 (fun q => z ≤ q)) (F0 m 37 ls [.long y0]) := by
  obtain ⟨hx, hb, hr, hml, hown, hts, hlk⟩ := id C
  intro  h y0 H locs ls w  hl hE
  unfold f_M_sparedBy_37 at hE
  exact w_lret C w hE dX12_sparedBy_37
set_option maxRecDepth 20000 in
set_option maxHeartbeats 4000000 in
theorem k_M_sparedBy (l : Launch) (D : va_G) (cy : cyT) (z : Nat) (N : Nat) (h : hS) (th : Nat) (x1 : Int32) (x2 : Int32) (r : Int64) (g : hS) (hE : f_M_sparedBy N h th x1 x2 = some (r, g)) : ct l yX12_sparedBy (Cond.code yX12_sparedBy cX12_sparedBy 5 ((some .long)) :: GW) { frames := 7, cells := 0, slots := 0, locals := 194 } D cy z h [.ref th, .int x1, .int x2] (rJ r) g := by
  refine Met.ofW (cc := cX12_sparedBy) (maxL := 5) (ret := (some .long)) (by decide) rfl ?_
  intro p e s m args below meth c s₁ B hml hv
  obtain ⟨rfl, hw⟩ := hv
  have C : MX p s m ([.ref th, .int x1, .int x2] : List Value).toArray meth c cX12_sparedBy 5 ((some .long)) RX12 (Cond.code yX12_sparedBy cX12_sparedBy 5 ((some .long)) :: GW) := ⟨B.exec, B.bytes, B.returns, hml, findClass_of_methodNamed B.named, atoms_spec (ws := Cond.code yX12_sparedBy cX12_sparedBy 5 ((some .long)) :: GW) B.pre, B.notSynchronized⟩
  obtain ⟨hx, hb, hr, hml, hown, hts, hlk⟩ := id C
  have w := wd_of hw
  obtain ⟨ls, hen, hl⟩ : ∃ ls : Array Slot, entryFrame m ([.ref th, .int x1, .int x2] : List Value).toArray 5 = F0 m 0 ls [] ∧ lv_has ls 5 [(0, .ref th), (1, .int x1), (2, .int x2)] := by
    exact ⟨_, lg_entry_eq _ _ _, lv_entry _ (Nat.le_of_ble_eq_true rfl)⟩
  rw [hen]
  unfold f_M_sparedBy at hE
  refine lv_aload_n hx hb dX12_sparedBy_0 rfl (lv_at hl 0 rfl) ?_
  refine lv_iload_n hx hb dX12_sparedBy_1 rfl (lv_at hl 1 rfl) ?_
  refine w_VV GW_good (n := 1) (F := 6) (Lc := 171) (o := some th) (av := [.int x1]) (rest := []) C w rfl (by decide) (fun a r g hf => k_M_tell l D cy z N h a x1 r g hf) gw_28_9 gw_28_10 gw_28_11 gw_1_5 gw_28_12 (by decide +kernel) ⟨Nat.le_of_ble_eq_true rfl, Nat.le_of_ble_eq_true rfl⟩ rfl hl.1 rfl (Nat.le_of_ble_eq_true rfl) dX12_sparedBy_2 (fun a => (sh_M_tell N h a x1)) ⟨by decide, by decide⟩ hE (fun v1 h2 H locs w hsh2 e1 => ?_)
  refine lv_aload_n hx hb dX12_sparedBy_5 rfl (lv_at hl 0 rfl) ?_
  refine w_gR (r := some th) (ci := 0) (k := 4) C w rfl (by decide) (GF_wsX120 _) (by decide) rfl (List.mem_cons_of_mem _ gw_6_23) rfl dX12_sparedBy_6 e1 (fun v3 e2 => ?_)
  obtain ⟨q4, eq4, e3⟩ := nn_some e2
  subst eq4
  refine w_SJ GW_good (n := 1) (F := 2) (Lc := 71) (av := [.ref q4]) (rest := []) C w (fun r g hf => k_M_leastOf l D cy z N h2 q4 r g hf) gw_30_17 gw_30_18 gw_1_5 gw_30_19 (by decide +kernel) ⟨Nat.le_of_ble_eq_true rfl, Nat.le_of_ble_eq_true rfl⟩ rfl hl.1 rfl (Nat.le_of_ble_eq_true rfl) dX12_sparedBy_9 (sh_M_leastOf N h2 q4) ⟨by decide, by decide⟩ e3 (fun v5 h6 H locs w hsh6 e4 => ?_)
  refine lv_lstore_n (lv' := [(3, .long v5), (0, .ref th), (1, .int x1), (2, .int x2)]) hx hb dX12_sparedBy_12 rfl hl (by decide) rfl (fun ls hl => ?_)
  refine lv_aload_n hx hb dX12_sparedBy_13 rfl (lv_at hl 1 rfl) ?_
  refine lv_iload_n hx hb dX12_sparedBy_14 rfl (lv_at hl 2 rfl) ?_
  refine lv_iload_n hx hb dX12_sparedBy_15 rfl (lv_at hl 3 rfl) ?_
  refine w_VI GW_good (n := 2) (F := 6) (Lc := 171) (o := some th) (av := [.int x1, .int x2]) (rest := []) C w rfl (by decide) (fun a r g hf => k_M_runsWithout l D cy z N h6 a x1 x2 r g hf) gw_51_23 gw_52_0 gw_52_1 gw_1_5 gw_52_2 (by decide +kernel) ⟨Nat.le_of_ble_eq_true rfl, Nat.le_of_ble_eq_true rfl⟩ rfl hl.1 rfl (Nat.le_of_ble_eq_true rfl) dX12_sparedBy_16 (fun a => (sh_M_runsWithout N h6 a x1 x2)) ⟨by decide, by decide⟩ e4 (fun v7 h8 H locs w hsh8 e5 => ?_)
  refine w_if_eq (tgt := 34) C dX12_sparedBy_19 (by decide) e5 (fun hc e6 => ?_) (fun hc e6 => ?_)
  · refine lv_ldc2 hx hb hown (hts _ (List.mem_cons_of_mem _ gw_51_22)) dX12_sparedBy_34 ?_
    exact b_M_sparedBy_37 C N     h8 (-1000000000 : Int64) _ _ ls w  (lv_sub hl [] rfl) e6
  · refine lv_lload_n hx hb dX12_sparedBy_22 rfl (lv_at hl 0 rfl) ?_
    refine lv_aload_n hx hb dX12_sparedBy_23 rfl (lv_at hl 1 rfl) ?_
    refine w_gR (r := some th) (ci := 0) (k := 4) C w rfl (by decide) (GF_wsX120 _) (by decide) rfl (List.mem_cons_of_mem _ gw_6_23) rfl dX12_sparedBy_24 e6 (fun v9 e7 => ?_)
    obtain ⟨q10, eq10, e8⟩ := nn_some e7
    subst eq10
    refine w_SJ GW_good (n := 1) (F := 2) (Lc := 71) (av := [.ref q10]) (rest := [.long v5]) C w (fun r g hf => k_M_leastOf l D cy z N h8 q10 r g hf) gw_30_17 gw_30_18 gw_1_5 gw_30_19 (by decide +kernel) ⟨Nat.le_of_ble_eq_true rfl, Nat.le_of_ble_eq_true rfl⟩ rfl hl.1 rfl (Nat.le_of_ble_eq_true rfl) dX12_sparedBy_27 (sh_M_leastOf N h8 q10) ⟨by decide, by decide⟩ e8 (fun v11 h12 H locs w hsh12 e9 => ?_)
    refine lv_lsub hx hb dX12_sparedBy_30 ?_
    refine lv_goto (tgt := 37) hx hb dX12_sparedBy_31 (by decide) ?_
    exact b_M_sparedBy_37 C N     h12 (v5 - v11) _ _ ls w  (lv_sub hl [] rfl) e9
set_option maxRecDepth 20000 in
set_option maxHeartbeats 4000000 in
theorem b_M_spared_29 {p : Program} {l : Launch} {e : Env} {s : State} {m : MethodId} {args : Array Value} {below : List Frame} {meth : Method} {c : Code} {D : va_G} {cy : cyT} {z : Nat} (C : MX p s m args meth c cX12_spared 3 ((some .long)) RX12 (Cond.code yX12_spared cX12_spared 3 ((some .long)) :: GW)) (N : Nat) {r : Int64} {g : hS}  : ∀  (h : hS) (y0 : Int64) (H : Heap) (locs : List Loc) (ls : Array Slot), wd D cy z s 0 h H locs → lv_has ls 3 [] → f_M_spared_29 N   h y0 = some (r, g) → W p l e { frames := 8, cells := 0, slots := 0, locals := 218 } s m args below meth c H locs 0 0 (MQ below (eQ D cy z (rJ r) g) args s 0 0 (fun q => z ≤ q)) (F0 m 29 ls [.long y0]) := by
  obtain ⟨hx, hb, hr, hml, hown, hts, hlk⟩ := id C
  intro  h y0 H locs ls w  hl hE
  unfold f_M_spared_29 at hE
  exact w_lret C w hE dX12_spared_29
set_option maxRecDepth 20000 in
set_option maxHeartbeats 4000000 in
theorem k_M_spared (l : Launch) (D : va_G) (cy : cyT) (z : Nat) (N : Nat) (h : hS) (th : Nat) (x1 : Int32) (x2 : Int32) (r : Int64) (g : hS) (hE : f_M_spared N h th x1 x2 = some (r, g)) : ct l yX12_spared (Cond.code yX12_spared cX12_spared 3 ((some .long)) :: GW) { frames := 8, cells := 0, slots := 0, locals := 218 } D cy z h [.ref th, .int x1, .int x2] (rJ r) g := by
  refine Met.ofW (cc := cX12_spared) (maxL := 3) (ret := (some .long)) (by decide) rfl ?_
  intro p e s m args below meth c s₁ B hml hv
  obtain ⟨rfl, hw⟩ := hv
  have C : MX p s m ([.ref th, .int x1, .int x2] : List Value).toArray meth c cX12_spared 3 ((some .long)) RX12 (Cond.code yX12_spared cX12_spared 3 ((some .long)) :: GW) := ⟨B.exec, B.bytes, B.returns, hml, findClass_of_methodNamed B.named, atoms_spec (ws := Cond.code yX12_spared cX12_spared 3 ((some .long)) :: GW) B.pre, B.notSynchronized⟩
  obtain ⟨hx, hb, hr, hml, hown, hts, hlk⟩ := id C
  have w := wd_of hw
  obtain ⟨ls, hen, hl⟩ : ∃ ls : Array Slot, entryFrame m ([.ref th, .int x1, .int x2] : List Value).toArray 3 = F0 m 0 ls [] ∧ lv_has ls 3 [(0, .ref th), (1, .int x1), (2, .int x2)] := by
    exact ⟨_, lg_entry_eq _ _ _, lv_entry _ (Nat.le_of_ble_eq_true rfl)⟩
  rw [hen]
  unfold f_M_spared at hE
  refine lv_aload_n hx hb dX12_spared_0 rfl (lv_at hl 0 rfl) ?_
  refine lv_iconst (v := 0) hx hb dX12_spared_1 (by decide) ?_
  refine w_pI (r := some th) (ci := 0) (k := 1) C w rfl (by decide) (by unfold roK; omega) (GF_wsX120 _) tyX12 tyX12_ok nmX12 (by decide) rfl (List.mem_cons_of_mem _ gw_8_18) rfl rfl (tyX12_ok 1 (by decide)) dX12_spared_2 hE (fun h1 H locs w hsh1 e1 => ?_)
  refine lv_aload_n hx hb dX12_spared_5 rfl (lv_at hl 0 rfl) ?_
  refine lv_iload_n hx hb dX12_spared_6 rfl (lv_at hl 1 rfl) ?_
  refine lv_iload_n hx hb dX12_spared_7 rfl (lv_at hl 2 rfl) ?_
  refine w_VI GW_good (n := 2) (F := 2) (Lc := 46) (o := some th) (av := [.int x1, .int x2]) (rest := []) C w rfl (by decide) (fun a r g hf => k_M_isStep l D cy z N h1 a x1 x2 r g hf) gw_33_14 gw_33_15 gw_33_16 gw_1_5 gw_33_17 (by decide +kernel) ⟨Nat.le_of_ble_eq_true rfl, Nat.le_of_ble_eq_true rfl⟩ rfl hl.1 rfl (Nat.le_of_ble_eq_true rfl) dX12_spared_8 (fun a => (sh_M_isStep N h1 a x1 x2)) ⟨by decide, by decide⟩ e1 (fun v2 h3 H locs w hsh3 e2 => ?_)
  refine w_if_eq (tgt := 23) C dX12_spared_11 (by decide) e2 (fun hc e3 => ?_) (fun hc e3 => ?_)
  · refine lv_aload_n hx hb dX12_spared_23 rfl (lv_at hl 0 rfl) ?_
    refine lv_iconst (v := 1) hx hb dX12_spared_24 (by decide) ?_
    refine w_VI GW_good (n := 1) (F := 0) (Lc := 0) (o := some th) (av := [.int (1 : Int32)]) (rest := []) C w rfl (by decide) (fun a r g hf => k_M_fail l D cy z N h3 a (1 : Int32) r g hf) gw_25_4 gw_25_5 gw_25_6 gw_1_5 gw_25_7 (by decide +kernel) ⟨Nat.le_of_ble_eq_true rfl, Nat.le_of_ble_eq_true rfl⟩ rfl hl.1 rfl (Nat.le_of_ble_eq_true rfl) dX12_spared_25 (fun a => (sh_M_fail N h3 a (1 : Int32))) ⟨by decide, by decide⟩ e3 (fun v4 h5 H locs w hsh5 e4 => ?_)
    refine lv_i2l hx hb dX12_spared_28 rfl ?_
    exact b_M_spared_29 C N     h5 v4.toInt64 _ _ ls w  (lv_sub hl [] rfl) e4
  · refine lv_aload_n hx hb dX12_spared_14 rfl (lv_at hl 0 rfl) ?_
    refine lv_iload_n hx hb dX12_spared_15 rfl (lv_at hl 1 rfl) ?_
    refine lv_iload_n hx hb dX12_spared_16 rfl (lv_at hl 2 rfl) ?_
    refine w_VJ GW_good (n := 2) (F := 7) (Lc := 194) (o := some th) (av := [.int x1, .int x2]) (rest := []) C w rfl (by decide) (fun a r g hf => k_M_sparedBy l D cy z N h3 a x1 x2 r g hf) gw_51_18 gw_51_19 gw_51_20 gw_1_5 gw_51_21 (by decide +kernel) ⟨Nat.le_of_ble_eq_true rfl, Nat.le_of_ble_eq_true rfl⟩ rfl hl.1 rfl (Nat.le_of_ble_eq_true rfl) dX12_spared_17 (fun a => (sh_M_sparedBy N h3 a x1 x2)) ⟨by decide, by decide⟩ e3 (fun v6 h7 H locs w hsh7 e5 => ?_)
    refine lv_goto (tgt := 29) hx hb dX12_spared_20 (by decide) ?_
    exact b_M_spared_29 C N     h7 v6 _ _ ls w  (lv_sub hl [] rfl) e5
set_option maxRecDepth 20000 in
set_option maxHeartbeats 4000000 in
theorem b_M_dearest_66 {p : Program} {l : Launch} {e : Env} {s : State} {m : MethodId} {args : Array Value} {below : List Frame} {meth : Method} {c : Code} {D : va_G} {cy : cyT} {z : Nat} (C : MX p s m args meth c cX12_dearest 8 ((some .int)) RX12 (Cond.code yX12_dearest cX12_dearest 8 ((some .int)) :: GW)) (N : Nat) {r : Int32} {g : hS} {rc26 : hS → Nat → Int32 → Int32 → Int64 → Int32 → Option (Int32 × hS)}  (hrc26 : ∀ (h : hS) (th : Nat) (x1 : Int32) (x2 : Int32) (x3 : Int64) (x5 : Int32) (H : Heap) (locs : List Loc) (ls : Array Slot), wd D cy z s 0 h H locs → lv_has ls 8 [(0, .ref th), (1, .int x1), (2, .int x2), (3, .long x3), (5, .int x5)] → rc26 h th x1 x2 x3 x5 = some (r, g) → W p l e { frames := 8, cells := 0, slots := 0, locals := 218 } s m args below meth c H locs 0 0 (MQ below (eQ D cy z (rI r) g) args s 0 0 (fun q => z ≤ q)) (F0 m 26 ls [])) : ∀  (h : hS) (th : Nat) (x1 : Int32) (x2 : Int32) (x3 : Int64) (x5 : Int32) (H : Heap) (locs : List Loc) (ls : Array Slot), wd D cy z s 0 h H locs → lv_has ls 8 [(0, .ref th), (1, .int x1), (2, .int x2), (3, .long x3), (5, .int x5)] → f_M_dearest_66 N rc26  h th x1 x2 x3 x5 = some (r, g) → W p l e { frames := 8, cells := 0, slots := 0, locals := 218 } s m args below meth c H locs 0 0 (MQ below (eQ D cy z (rI r) g) args s 0 0 (fun q => z ≤ q)) (F0 m 66 ls []) := by
  obtain ⟨hx, hb, hr, hml, hown, hts, hlk⟩ := id C
  intro  h th x1 x2 x3 x5 H locs ls w  hl hE
  unfold f_M_dearest_66 at hE
  obtain ⟨v1, ev1, e1⟩ := bn_some hE
  refine lv_iinc (v := v1) (lv' := [(5, .int v1), (0, .ref th), (1, .int x1), (2, .int x2), (3, .long x3)]) hx hb dX12_dearest_66 hl (k := 4) rfl (by rw [ev1]; rfl) (by decide) rfl (fun ls hl => ?_)
  refine lv_goto (tgt := 26) hx hb dX12_dearest_69 (by decide) ?_
  exact hrc26  h th x1 x2 x3 v1 _ _ ls w  (lv_sub hl [1, 2, 3, 4, 0] rfl) e1
set_option maxRecDepth 20000 in
set_option maxHeartbeats 4000000 in
theorem b_M_dearest_60 {p : Program} {l : Launch} {e : Env} {s : State} {m : MethodId} {args : Array Value} {below : List Frame} {meth : Method} {c : Code} {D : va_G} {cy : cyT} {z : Nat} (C : MX p s m args meth c cX12_dearest 8 ((some .int)) RX12 (Cond.code yX12_dearest cX12_dearest 8 ((some .int)) :: GW)) (N : Nat) {r : Int32} {g : hS} {rc26 : hS → Nat → Int32 → Int32 → Int64 → Int32 → Option (Int32 × hS)}  (hrc26 : ∀ (h : hS) (th : Nat) (x1 : Int32) (x2 : Int32) (x3 : Int64) (x5 : Int32) (H : Heap) (locs : List Loc) (ls : Array Slot), wd D cy z s 0 h H locs → lv_has ls 8 [(0, .ref th), (1, .int x1), (2, .int x2), (3, .long x3), (5, .int x5)] → rc26 h th x1 x2 x3 x5 = some (r, g) → W p l e { frames := 8, cells := 0, slots := 0, locals := 218 } s m args below meth c H locs 0 0 (MQ below (eQ D cy z (rI r) g) args s 0 0 (fun q => z ≤ q)) (F0 m 26 ls [])) : ∀  (h : hS) (th : Nat) (x1 : Int32) (x5 : Int32) (x6 : Int64) (H : Heap) (locs : List Loc) (ls : Array Slot), wd D cy z s 0 h H locs → lv_has ls 8 [(0, .ref th), (1, .int x1), (5, .int x5), (6, .long x6)] → f_M_dearest_60 N rc26  h th x1 x5 x6 = some (r, g) → W p l e { frames := 8, cells := 0, slots := 0, locals := 218 } s m args below meth c H locs 0 0 (MQ below (eQ D cy z (rI r) g) args s 0 0 (fun q => z ≤ q)) (F0 m 60 ls []) := by
  obtain ⟨hx, hb, hr, hml, hown, hts, hlk⟩ := id C
  intro  h th x1 x5 x6 H locs ls w  hl hE
  unfold f_M_dearest_60 at hE
  refine lv_iload hx hb dX12_dearest_60 (lv_at hl 2 rfl) ?_
  refine lv_istore_n (lv' := [(2, .int x5), (0, .ref th), (1, .int x1), (5, .int x5), (6, .long x6)]) hx hb dX12_dearest_62 rfl hl (by decide) rfl (fun ls hl => ?_)
  refine lv_lload hx hb dX12_dearest_63 (lv_at hl 4 rfl) ?_
  refine lv_lstore_n (lv' := [(3, .long x6), (2, .int x5), (0, .ref th), (1, .int x1), (5, .int x5), (6, .long x6)]) hx hb dX12_dearest_65 rfl hl (by decide) rfl (fun ls hl => ?_)
  exact b_M_dearest_66 C N  hrc26   h th x1 x5 x6 x5 _ _ ls w  (lv_sub hl [2, 3, 1, 0, 4] rfl) hE
set_option maxRecDepth 20000 in
set_option maxHeartbeats 4000000 in
theorem b_M_dearest_26 {p : Program} {l : Launch} {e : Env} {s : State} {m : MethodId} {args : Array Value} {below : List Frame} {meth : Method} {c : Code} {D : va_G} {cy : cyT} {z : Nat} (C : MX p s m args meth c cX12_dearest 8 ((some .int)) RX12 (Cond.code yX12_dearest cX12_dearest 8 ((some .int)) :: GW)) (N : Nat) {r : Int32} {g : hS}  : ∀ (n : Nat) (h : hS) (th : Nat) (x1 : Int32) (x2 : Int32) (x3 : Int64) (x5 : Int32) (H : Heap) (locs : List Loc) (ls : Array Slot), wd D cy z s 0 h H locs → lv_has ls 8 [(0, .ref th), (1, .int x1), (2, .int x2), (3, .long x3), (5, .int x5)] → f_M_dearest_26 N  n h th x1 x2 x3 x5 = some (r, g) → W p l e { frames := 8, cells := 0, slots := 0, locals := 218 } s m args below meth c H locs 0 0 (MQ below (eQ D cy z (rI r) g) args s 0 0 (fun q => z ≤ q)) (F0 m 26 ls []) := by
  obtain ⟨hx, hb, hr, hml, hown, hts, hlk⟩ := id C
  intro n
  induction n with
  | zero =>
    intro  h th x1 x2 x3 x5 H locs ls w  hl hE
    cases hE
  | succ n ih =>
    intro  h th x1 x2 x3 x5 H locs ls w  hl hE
    unfold f_M_dearest_26 at hE
    refine lv_iload hx hb dX12_dearest_26 (lv_at hl 4 rfl) ?_
    refine lv_aload_n hx hb dX12_dearest_28 rfl (lv_at hl 0 rfl) ?_
    refine lv_iload_n hx hb dX12_dearest_29 rfl (lv_at hl 1 rfl) ?_
    refine w_VI GW_good (n := 1) (F := 0) (Lc := 0) (o := some th) (av := [.int x1]) (rest := [.int x5]) C w rfl (by decide) (fun a r g hf => k_M_steps l D cy z N h a x1 r g hf) gw_33_18 gw_33_19 gw_33_20 gw_1_5 gw_33_21 (by decide +kernel) ⟨Nat.le_of_ble_eq_true rfl, Nat.le_of_ble_eq_true rfl⟩ rfl hl.1 rfl (Nat.le_of_ble_eq_true rfl) dX12_dearest_30 (fun a => (sh_M_steps N h a x1)) ⟨by decide, by decide⟩ hE (fun v1 h2 H locs w hsh2 e1 => ?_)
    refine w_icmp_ge (tgt := 72) C dX12_dearest_33 (by decide) e1 (fun hc e2 => ?_) (fun hc e2 => ?_)
    · refine lv_iload_n hx hb dX12_dearest_72 rfl (lv_at hl 2 rfl) ?_
      exact w_iret C w e2 dX12_dearest_73
    · refine lv_aload_n hx hb dX12_dearest_36 rfl (lv_at hl 0 rfl) ?_
      refine lv_iload_n hx hb dX12_dearest_37 rfl (lv_at hl 1 rfl) ?_
      refine lv_iload hx hb dX12_dearest_38 (lv_at hl 4 rfl) ?_
      refine w_VJ GW_good (n := 2) (F := 7) (Lc := 194) (o := some th) (av := [.int x1, .int x5]) (rest := []) C w rfl (by decide) (fun a r g hf => k_M_sparedBy l D cy z N h2 a x1 x5 r g hf) gw_51_18 gw_51_19 gw_51_20 gw_1_5 gw_51_21 (by decide +kernel) ⟨Nat.le_of_ble_eq_true rfl, Nat.le_of_ble_eq_true rfl⟩ rfl hl.1 rfl (Nat.le_of_ble_eq_true rfl) dX12_dearest_40 (fun a => (sh_M_sparedBy N h2 a x1 x5)) ⟨by decide, by decide⟩ e2 (fun v3 h4 H locs w hsh4 e3 => ?_)
      refine lv_lstore (lv' := [(6, .long v3), (0, .ref th), (1, .int x1), (2, .int x2), (3, .long x3), (5, .int x5)]) hx hb dX12_dearest_43 hl (by decide) rfl (fun ls hl => ?_)
      refine lv_iload_n hx hb dX12_dearest_45 rfl (lv_at hl 3 rfl) ?_
      refine lv_iconst (v := -1) hx hb dX12_dearest_46 (by decide) ?_
      refine w_icmp_eq (tgt := 60) C dX12_dearest_47 (by decide) e3 (fun hc e4 => ?_) (fun hc e4 => ?_)
      · exact b_M_dearest_60 C N  ih   h4 th x1 x5 v3 _ _ ls w  (lv_sub hl [1, 2, 5, 0] rfl) e4
      · refine lv_lload hx hb dX12_dearest_50 (lv_at hl 0 rfl) ?_
        refine lv_lload_n hx hb dX12_dearest_52 rfl (lv_at hl 4 rfl) ?_
        refine W.lcmp hx hb dX12_dearest_53 ?_
        refine w_if_gt (tgt := 60) C dX12_dearest_54 (by decide) e4 (fun hc e5 => ?_) (fun hc e5 => ?_)
        · exact b_M_dearest_60 C N  ih   h4 th x1 x5 v3 _ _ ls w  (lv_sub hl [1, 2, 5, 0] rfl) e5
        · refine lv_goto (tgt := 66) hx hb dX12_dearest_57 (by decide) ?_
          exact b_M_dearest_66 C N  ih   h4 th x1 x2 x3 x5 _ _ ls w  (lv_sub hl [1, 2, 3, 4, 5] rfl) e5
set_option maxRecDepth 20000 in
set_option maxHeartbeats 4000000 in
theorem k_M_dearest (l : Launch) (D : va_G) (cy : cyT) (z : Nat) (N : Nat) (h : hS) (th : Nat) (x1 : Int32) (r : Int32) (g : hS) (hE : f_M_dearest N h th x1 = some (r, g)) : ct l yX12_dearest (Cond.code yX12_dearest cX12_dearest 8 ((some .int)) :: GW) { frames := 8, cells := 0, slots := 0, locals := 218 } D cy z h [.ref th, .int x1] (rI r) g := by
  refine Met.ofW (cc := cX12_dearest) (maxL := 8) (ret := (some .int)) (by decide) rfl ?_
  intro p e s m args below meth c s₁ B hml hv
  obtain ⟨rfl, hw⟩ := hv
  have C : MX p s m ([.ref th, .int x1] : List Value).toArray meth c cX12_dearest 8 ((some .int)) RX12 (Cond.code yX12_dearest cX12_dearest 8 ((some .int)) :: GW) := ⟨B.exec, B.bytes, B.returns, hml, findClass_of_methodNamed B.named, atoms_spec (ws := Cond.code yX12_dearest cX12_dearest 8 ((some .int)) :: GW) B.pre, B.notSynchronized⟩
  obtain ⟨hx, hb, hr, hml, hown, hts, hlk⟩ := id C
  have w := wd_of hw
  obtain ⟨ls, hen, hl⟩ : ∃ ls : Array Slot, entryFrame m ([.ref th, .int x1] : List Value).toArray 8 = F0 m 0 ls [] ∧ lv_has ls 8 [(0, .ref th), (1, .int x1)] := by
    exact ⟨_, lg_entry_eq _ _ _, lv_entry _ (Nat.le_of_ble_eq_true rfl)⟩
  rw [hen]
  unfold f_M_dearest at hE
  refine lv_aload_n hx hb dX12_dearest_0 rfl (lv_at hl 0 rfl) ?_
  refine lv_iconst (v := 0) hx hb dX12_dearest_1 (by decide) ?_
  refine w_pI (r := some th) (ci := 0) (k := 1) C w rfl (by decide) (by unfold roK; omega) (GF_wsX120 _) tyX12 tyX12_ok nmX12 (by decide) rfl (List.mem_cons_of_mem _ gw_8_18) rfl rfl (tyX12_ok 1 (by decide)) dX12_dearest_2 hE (fun h1 H locs w hsh1 e1 => ?_)
  refine lv_aload_n hx hb dX12_dearest_5 rfl (lv_at hl 0 rfl) ?_
  refine lv_iload_n hx hb dX12_dearest_6 rfl (lv_at hl 1 rfl) ?_
  refine w_VI GW_good (n := 1) (F := 1) (Lc := 25) (o := some th) (av := [.int x1]) (rest := []) C w rfl (by decide) (fun a r g hf => k_M_isCost l D cy z N h1 a x1 r g hf) gw_24_20 gw_24_21 gw_24_22 gw_1_5 gw_24_23 (by decide +kernel) ⟨Nat.le_of_ble_eq_true rfl, Nat.le_of_ble_eq_true rfl⟩ rfl hl.1 rfl (Nat.le_of_ble_eq_true rfl) dX12_dearest_7 (fun a => (sh_M_isCost N h1 a x1)) ⟨by decide, by decide⟩ e1 (fun v2 h3 H locs w hsh3 e2 => ?_)
  refine w_if_ne (tgt := 19) C dX12_dearest_10 (by decide) e2 (fun hc e3 => ?_) (fun hc e3 => ?_)
  · refine lv_iconst (v := -1) hx hb dX12_dearest_19 (by decide) ?_
    refine lv_istore_n (lv' := [(2, .int (-1 : Int32)), (0, .ref th), (1, .int x1)]) hx hb dX12_dearest_20 rfl hl (by decide) rfl (fun ls hl => ?_)
    refine lv_lconst (v := 0) hx hb dX12_dearest_21 (by decide) ?_
    refine lv_lstore_n (lv' := [(3, .long (0 : Int64)), (2, .int (-1 : Int32)), (0, .ref th), (1, .int x1)]) hx hb dX12_dearest_22 rfl hl (by decide) rfl (fun ls hl => ?_)
    refine lv_iconst (v := 0) hx hb dX12_dearest_23 (by decide) ?_
    refine lv_istore (lv' := [(5, .int (0 : Int32)), (3, .long (0 : Int64)), (2, .int (-1 : Int32)), (0, .ref th), (1, .int x1)]) hx hb dX12_dearest_24 hl (by decide) rfl (fun ls hl => ?_)
    exact b_M_dearest_26 C N   N  h3 th x1 (-1 : Int32) (0 : Int64) (0 : Int32) _ _ ls w  (lv_sub hl [3, 4, 2, 1, 0] rfl) e3
  · refine lv_aload_n hx hb dX12_dearest_13 rfl (lv_at hl 0 rfl) ?_
    refine lv_iconst (v := 1) hx hb dX12_dearest_14 (by decide) ?_
    refine w_VI GW_good (n := 1) (F := 0) (Lc := 0) (o := some th) (av := [.int (1 : Int32)]) (rest := []) C w rfl (by decide) (fun a r g hf => k_M_fail l D cy z N h3 a (1 : Int32) r g hf) gw_25_4 gw_25_5 gw_25_6 gw_1_5 gw_25_7 (by decide +kernel) ⟨Nat.le_of_ble_eq_true rfl, Nat.le_of_ble_eq_true rfl⟩ rfl hl.1 rfl (Nat.le_of_ble_eq_true rfl) dX12_dearest_15 (fun a => (sh_M_fail N h3 a (1 : Int32))) ⟨by decide, by decide⟩ e3 (fun v4 h5 H locs w hsh5 e4 => ?_)
    exact w_iret C w e4 dX12_dearest_18
set_option maxRecDepth 20000 in
set_option maxHeartbeats 4000000 in
theorem b_M_becomes_24 {p : Program} {l : Launch} {e : Env} {s : State} {m : MethodId} {args : Array Value} {below : List Frame} {meth : Method} {c : Code} {D : va_G} {cy : cyT} {z : Nat} (C : MX p s m args meth c cX12_becomes 3 ((some .int)) RX12 (Cond.code yX12_becomes cX12_becomes 3 ((some .int)) :: GW)) (N : Nat) {r : Int32} {g : hS}  : ∀ (n : Nat) (h : hS) (th : Nat) (x1 : Int32) (x2 : Int32) (H : Heap) (locs : List Loc) (ls : Array Slot), wd D cy z s 0 h H locs → lv_has ls 3 [(0, .ref th), (1, .int x1), (2, .int x2)] → f_M_becomes_24 N  n h th x1 x2 = some (r, g) → W p l e { frames := 6, cells := 0, slots := 0, locals := 171 } s m args below meth c H locs 0 0 (MQ below (eQ D cy z (rI r) g) args s 0 0 (fun q => z ≤ q)) (F0 m 24 ls []) := by
  obtain ⟨hx, hb, hr, hml, hown, hts, hlk⟩ := id C
  intro n
  induction n with
  | zero =>
    intro  h th x1 x2 H locs ls w  hl hE
    cases hE
  | succ n ih =>
    intro  h th x1 x2 H locs ls w  hl hE
    unfold f_M_becomes_24 at hE
    refine lv_iload_n hx hb dX12_becomes_24 rfl (lv_at hl 2 rfl) ?_
    refine lv_sipush (v := 161) hx hb dX12_becomes_25 (by decide) ?_
    refine w_icmp_ge (tgt := 55) C dX12_becomes_28 (by decide) hE (fun hc e1 => ?_) (fun hc e1 => ?_)
    · refine lv_aload_n hx hb dX12_becomes_55 rfl (lv_at hl 0 rfl) ?_
      refine w_gR (r := some th) (ci := 0) (k := 18) C w rfl (by decide) (GF_wsX120 _) (by decide) rfl (List.mem_cons_of_mem _ gw_7_12) rfl dX12_becomes_56 e1 (fun v1 e2 => ?_)
      refine lv_iconst (v := 0) hx hb dX12_becomes_59 (by decide) ?_
      refine w_aI (r := v1) C w dX12_becomes_60 e2 (fun v2 e3 => ?_)
      exact w_iret C w e3 dX12_becomes_61
    · refine lv_aload_n hx hb dX12_becomes_31 rfl (lv_at hl 0 rfl) ?_
      refine w_gR (r := some th) (ci := 0) (k := 2) C w rfl (by decide) (GF_wsX120 _) (by decide) rfl (List.mem_cons_of_mem _ gw_6_21) rfl dX12_becomes_32 e1 (fun v3 e4 => ?_)
      refine lv_sipush (v := 161) hx hb dX12_becomes_35 (by decide) ?_
      refine lv_iload_n hx hb dX12_becomes_38 rfl (lv_at hl 1 rfl) ?_
      refine lv_imul hx hb dX12_becomes_39 ?_
      refine lv_iload_n hx hb dX12_becomes_40 rfl (lv_at hl 2 rfl) ?_
      refine lv_iadd hx hb dX12_becomes_41 ?_
      refine lv_aload_n hx hb dX12_becomes_42 rfl (lv_at hl 0 rfl) ?_
      refine w_gR (r := some th) (ci := 0) (k := 18) C w rfl (by decide) (GF_wsX120 _) (by decide) rfl (List.mem_cons_of_mem _ gw_7_12) rfl dX12_becomes_43 e4 (fun v4 e5 => ?_)
      refine lv_iload_n hx hb dX12_becomes_46 rfl (lv_at hl 2 rfl) ?_
      refine w_aI (r := v4) C w dX12_becomes_47 e5 (fun v5 e6 => ?_)
      refine w_uI (r := v3) C w dX12_becomes_48 e6 (fun h6 H locs w hsh6 e7 => ?_)
      obtain ⟨v7, ev7, e8⟩ := bn_some e7
      refine lv_iinc (v := v7) (lv' := [(2, .int v7), (0, .ref th), (1, .int x1)]) hx hb dX12_becomes_49 hl (k := 2) rfl (by rw [ev7]; rfl) (by decide) rfl (fun ls hl => ?_)
      refine lv_goto (tgt := 24) hx hb dX12_becomes_52 (by decide) ?_
      exact ih  h6 th x1 v7 _ _ ls w  (lv_sub hl [1, 2, 0] rfl) e8
set_option maxRecDepth 20000 in
set_option maxHeartbeats 4000000 in
theorem k_M_becomes (l : Launch) (D : va_G) (cy : cyT) (z : Nat) (N : Nat) (h : hS) (th : Nat) (x1 : Int32) (r : Int32) (g : hS) (hE : f_M_becomes N h th x1 = some (r, g)) : ct l yX12_becomes (Cond.code yX12_becomes cX12_becomes 3 ((some .int)) :: GW) { frames := 6, cells := 0, slots := 0, locals := 171 } D cy z h [.ref th, .int x1] (rI r) g := by
  refine Met.ofW (cc := cX12_becomes) (maxL := 3) (ret := (some .int)) (by decide) rfl ?_
  intro p e s m args below meth c s₁ B hml hv
  obtain ⟨rfl, hw⟩ := hv
  have C : MX p s m ([.ref th, .int x1] : List Value).toArray meth c cX12_becomes 3 ((some .int)) RX12 (Cond.code yX12_becomes cX12_becomes 3 ((some .int)) :: GW) := ⟨B.exec, B.bytes, B.returns, hml, findClass_of_methodNamed B.named, atoms_spec (ws := Cond.code yX12_becomes cX12_becomes 3 ((some .int)) :: GW) B.pre, B.notSynchronized⟩
  obtain ⟨hx, hb, hr, hml, hown, hts, hlk⟩ := id C
  have w := wd_of hw
  obtain ⟨ls, hen, hl⟩ : ∃ ls : Array Slot, entryFrame m ([.ref th, .int x1] : List Value).toArray 3 = F0 m 0 ls [] ∧ lv_has ls 3 [(0, .ref th), (1, .int x1)] := by
    exact ⟨_, lg_entry_eq _ _ _, lv_entry _ (Nat.le_of_ble_eq_true rfl)⟩
  rw [hen]
  unfold f_M_becomes at hE
  refine lv_aload_n hx hb dX12_becomes_0 rfl (lv_at hl 0 rfl) ?_
  refine lv_aload_n hx hb dX12_becomes_1 rfl (lv_at hl 0 rfl) ?_
  refine w_gR (r := some th) (ci := 0) (k := 18) C w rfl (by decide) (GF_wsX120 _) (by decide) rfl (List.mem_cons_of_mem _ gw_7_12) rfl dX12_becomes_2 hE (fun v1 e1 => ?_)
  refine lv_iconst (v := 0) hx hb dX12_becomes_5 (by decide) ?_
  obtain ⟨q2, eq2, e2⟩ := nn_some e1
  subst eq2
  refine w_VI GW_good (n := 2) (F := 5) (Lc := 146) (o := some th) (av := [.ref q2, .int (0 : Int32)]) (rest := []) C w rfl (by decide) (fun a r g hf => k_M_runs l D cy z N h a q2 (0 : Int32) r g hf) gw_28_13 gw_28_14 gw_28_15 gw_1_5 gw_28_16 (by decide +kernel) ⟨Nat.le_of_ble_eq_true rfl, Nat.le_of_ble_eq_true rfl⟩ rfl hl.1 rfl (Nat.le_of_ble_eq_true rfl) dX12_becomes_6 (fun a => (sh_M_runs N h a q2 (0 : Int32))) ⟨by decide, by decide⟩ e2 (fun v3 h4 H locs w hsh4 e3 => ?_)
  refine w_if_ne (tgt := 18) C dX12_becomes_9 (by decide) e3 (fun hc e4 => ?_) (fun hc e4 => ?_)
  · refine lv_aload_n hx hb dX12_becomes_18 rfl (lv_at hl 0 rfl) ?_
    refine w_VV GW_good (n := 0) (F := 0) (Lc := 0) (o := some th) (av := []) (rest := []) C w rfl (by decide) (fun a r g hf => k_M_keep l D cy z N h4 a  r g hf) gw_31_6 gw_31_7 gw_31_8 gw_1_5 gw_31_9 (by decide +kernel) ⟨Nat.le_of_ble_eq_true rfl, Nat.le_of_ble_eq_true rfl⟩ rfl hl.1 rfl (Nat.le_of_ble_eq_true rfl) dX12_becomes_19 (fun a => (sh_M_keep N h4 a )) ⟨by decide, by decide⟩ e4 (fun v5 h6 H locs w hsh6 e5 => ?_)
    refine lv_iconst (v := 0) hx hb dX12_becomes_22 (by decide) ?_
    refine lv_istore_n (lv' := [(2, .int (0 : Int32)), (0, .ref th), (1, .int x1)]) hx hb dX12_becomes_23 rfl hl (by decide) rfl (fun ls hl => ?_)
    exact b_M_becomes_24 C N   N  h6 th x1 (0 : Int32) _ _ ls w  (lv_sub hl [1, 2, 0] rfl) e5
  · refine lv_aload_n hx hb dX12_becomes_12 rfl (lv_at hl 0 rfl) ?_
    refine lv_iconst (v := 1) hx hb dX12_becomes_13 (by decide) ?_
    refine w_VI GW_good (n := 1) (F := 0) (Lc := 0) (o := some th) (av := [.int (1 : Int32)]) (rest := []) C w rfl (by decide) (fun a r g hf => k_M_refuse l D cy z N h4 a (1 : Int32) r g hf) gw_57_23 gw_58_0 gw_58_1 gw_1_5 gw_58_2 (by decide +kernel) ⟨Nat.le_of_ble_eq_true rfl, Nat.le_of_ble_eq_true rfl⟩ rfl hl.1 rfl (Nat.le_of_ble_eq_true rfl) dX12_becomes_14 (fun a => (sh_M_refuse N h4 a (1 : Int32))) ⟨by decide, by decide⟩ e4 (fun v7 h8 H locs w hsh8 e6 => ?_)
    exact w_iret C w e6 dX12_becomes_17
set_option maxRecDepth 20000 in
set_option maxHeartbeats 4000000 in
theorem b_M_takes_59 {p : Program} {l : Launch} {e : Env} {s : State} {m : MethodId} {args : Array Value} {below : List Frame} {meth : Method} {c : Code} {D : va_G} {cy : cyT} {z : Nat} (C : MX p s m args meth c cX12_takes 4 ((some .int)) RX12 (Cond.code yX12_takes cX12_takes 4 ((some .int)) :: GW)) (N : Nat) {r : Int32} {g : hS}  : ∀ (n : Nat) (h : hS) (th : Nat) (x1 : Int32) (x3 : Int32) (H : Heap) (locs : List Loc) (ls : Array Slot), wd D cy z s 0 h H locs → lv_has ls 4 [(0, .ref th), (1, .int x1), (3, .int x3)] → f_M_takes_59 N  n h th x1 x3 = some (r, g) → W p l e { frames := 7, cells := 0, slots := 0, locals := 193 } s m args below meth c H locs 0 0 (MQ below (eQ D cy z (rI r) g) args s 0 0 (fun q => z ≤ q)) (F0 m 59 ls []) := by
  obtain ⟨hx, hb, hr, hml, hown, hts, hlk⟩ := id C
  intro n
  induction n with
  | zero =>
    intro  h th x1 x3 H locs ls w  hl hE
    cases hE
  | succ n ih =>
    intro  h th x1 x3 H locs ls w  hl hE
    unfold f_M_takes_59 at hE
    refine lv_iload_n hx hb dX12_takes_59 rfl (lv_at hl 2 rfl) ?_
    refine lv_iconst (v := 4) hx hb dX12_takes_60 (by decide) ?_
    refine lv_iadd hx hb dX12_takes_61 ?_
    refine lv_sipush (v := 161) hx hb dX12_takes_62 (by decide) ?_
    refine w_icmp_ge (tgt := 88) C dX12_takes_65 (by decide) hE (fun hc e1 => ?_) (fun hc e1 => ?_)
    · refine lv_aload_n hx hb dX12_takes_88 rfl (lv_at hl 0 rfl) ?_
      refine w_gR (r := some th) (ci := 0) (k := 18) C w rfl (by decide) (GF_wsX120 _) (by decide) rfl (List.mem_cons_of_mem _ gw_7_12) rfl dX12_takes_89 e1 (fun v1 e2 => ?_)
      refine lv_iconst (v := 0) hx hb dX12_takes_92 (by decide) ?_
      refine lv_dup2_11 hx hb dX12_takes_93 rfl (va_rf_cat _) ?_
      refine w_aI (r := v1) C w dX12_takes_94 e2 (fun v2 e3 => ?_)
      refine lv_iconst (v := 1) hx hb dX12_takes_95 (by decide) ?_
      refine lv_isub hx hb dX12_takes_96 ?_
      refine w_uI (r := v1) C w dX12_takes_97 e3 (fun h3 H locs w hsh3 e4 => ?_)
      refine lv_aload_n hx hb dX12_takes_98 rfl (lv_at hl 0 rfl) ?_
      refine lv_iload_n hx hb dX12_takes_99 rfl (lv_at hl 1 rfl) ?_
      refine w_VI GW_good (n := 1) (F := 6) (Lc := 171) (o := some th) (av := [.int x1]) (rest := []) C w rfl (by decide) (fun a r g hf => k_M_becomes l D cy z N h3 a x1 r g hf) gw_58_3 gw_58_4 gw_58_5 gw_1_5 gw_58_6 (by decide +kernel) ⟨Nat.le_of_ble_eq_true rfl, Nat.le_of_ble_eq_true rfl⟩ rfl hl.1 rfl (Nat.le_of_ble_eq_true rfl) dX12_takes_100 (fun a => (sh_M_becomes N h3 a x1)) ⟨by decide, by decide⟩ e4 (fun v4 h5 H locs w hsh5 e5 => ?_)
      exact w_iret C w e5 dX12_takes_103
    · refine lv_aload_n hx hb dX12_takes_68 rfl (lv_at hl 0 rfl) ?_
      refine w_gR (r := some th) (ci := 0) (k := 18) C w rfl (by decide) (GF_wsX120 _) (by decide) rfl (List.mem_cons_of_mem _ gw_7_12) rfl dX12_takes_69 e1 (fun v6 e6 => ?_)
      refine lv_iload_n hx hb dX12_takes_72 rfl (lv_at hl 2 rfl) ?_
      refine lv_aload_n hx hb dX12_takes_73 rfl (lv_at hl 0 rfl) ?_
      refine w_gR (r := some th) (ci := 0) (k := 18) C w rfl (by decide) (GF_wsX120 _) (by decide) rfl (List.mem_cons_of_mem _ gw_7_12) rfl dX12_takes_74 e6 (fun v7 e7 => ?_)
      refine lv_iload_n hx hb dX12_takes_77 rfl (lv_at hl 2 rfl) ?_
      refine lv_iconst (v := 4) hx hb dX12_takes_78 (by decide) ?_
      refine lv_iadd hx hb dX12_takes_79 ?_
      refine w_aI (r := v7) C w dX12_takes_80 e7 (fun v8 e8 => ?_)
      refine w_uI (r := v6) C w dX12_takes_81 e8 (fun h9 H locs w hsh9 e9 => ?_)
      obtain ⟨v10, ev10, e10⟩ := bn_some e9
      refine lv_iinc (v := v10) (lv' := [(3, .int v10), (0, .ref th), (1, .int x1)]) hx hb dX12_takes_82 hl (k := 2) rfl (by rw [ev10]; rfl) (by decide) rfl (fun ls hl => ?_)
      refine lv_goto (tgt := 59) hx hb dX12_takes_85 (by decide) ?_
      exact ih  h9 th x1 v10 _ _ ls w  (lv_sub hl [1, 2, 0] rfl) e10
set_option maxRecDepth 20000 in
set_option maxHeartbeats 4000000 in
theorem b_M_takes_22 {p : Program} {l : Launch} {e : Env} {s : State} {m : MethodId} {args : Array Value} {below : List Frame} {meth : Method} {c : Code} {D : va_G} {cy : cyT} {z : Nat} (C : MX p s m args meth c cX12_takes 4 ((some .int)) RX12 (Cond.code yX12_takes cX12_takes 4 ((some .int)) :: GW)) (N : Nat) {r : Int32} {g : hS}  : ∀ (n : Nat) (h : hS) (th : Nat) (x1 : Int32) (x2 : Int32) (x3 : Int32) (H : Heap) (locs : List Loc) (ls : Array Slot), wd D cy z s 0 h H locs → lv_has ls 4 [(0, .ref th), (1, .int x1), (2, .int x2), (3, .int x3)] → f_M_takes_22 N  n h th x1 x2 x3 = some (r, g) → W p l e { frames := 7, cells := 0, slots := 0, locals := 193 } s m args below meth c H locs 0 0 (MQ below (eQ D cy z (rI r) g) args s 0 0 (fun q => z ≤ q)) (F0 m 22 ls []) := by
  obtain ⟨hx, hb, hr, hml, hown, hts, hlk⟩ := id C
  intro n
  induction n with
  | zero =>
    intro  h th x1 x2 x3 H locs ls w  hl hE
    cases hE
  | succ n ih =>
    intro  h th x1 x2 x3 H locs ls w  hl hE
    unfold f_M_takes_22 at hE
    refine lv_iload_n hx hb dX12_takes_22 rfl (lv_at hl 3 rfl) ?_
    refine lv_sipush (v := 161) hx hb dX12_takes_23 (by decide) ?_
    refine w_icmp_ge (tgt := 53) C dX12_takes_26 (by decide) hE (fun hc e1 => ?_) (fun hc e1 => ?_)
    · refine lv_iconst (v := 1) hx hb dX12_takes_53 (by decide) ?_
      refine lv_iconst (v := 4) hx hb dX12_takes_54 (by decide) ?_
      refine lv_iload_n hx hb dX12_takes_55 rfl (lv_at hl 2 rfl) ?_
      refine lv_imul hx hb dX12_takes_56 ?_
      refine lv_iadd hx hb dX12_takes_57 ?_
      refine w_bnI e1 (fun v1 e2 => ?_)
      refine lv_istore_n (lv' := [(3, .int v1), (0, .ref th), (1, .int x1), (2, .int x2)]) hx hb dX12_takes_58 rfl hl (by decide) rfl (fun ls hl => ?_)
      exact b_M_takes_59 C N   N  h th x1 v1 _ _ ls w  (lv_sub hl [1, 2, 0] rfl) e2
    · refine lv_aload_n hx hb dX12_takes_29 rfl (lv_at hl 0 rfl) ?_
      refine w_gR (r := some th) (ci := 0) (k := 18) C w rfl (by decide) (GF_wsX120 _) (by decide) rfl (List.mem_cons_of_mem _ gw_7_12) rfl dX12_takes_30 e1 (fun v2 e3 => ?_)
      refine lv_iload_n hx hb dX12_takes_33 rfl (lv_at hl 3 rfl) ?_
      refine lv_aload_n hx hb dX12_takes_34 rfl (lv_at hl 0 rfl) ?_
      refine w_gR (r := some th) (ci := 0) (k := 2) C w rfl (by decide) (GF_wsX120 _) (by decide) rfl (List.mem_cons_of_mem _ gw_6_21) rfl dX12_takes_35 e3 (fun v3 e4 => ?_)
      refine lv_sipush (v := 161) hx hb dX12_takes_38 (by decide) ?_
      refine lv_iload_n hx hb dX12_takes_41 rfl (lv_at hl 1 rfl) ?_
      refine lv_imul hx hb dX12_takes_42 ?_
      refine lv_iload_n hx hb dX12_takes_43 rfl (lv_at hl 3 rfl) ?_
      refine lv_iadd hx hb dX12_takes_44 ?_
      refine w_aI (r := v3) C w dX12_takes_45 e4 (fun v4 e5 => ?_)
      refine w_uI (r := v2) C w dX12_takes_46 e5 (fun h5 H locs w hsh5 e6 => ?_)
      obtain ⟨v6, ev6, e7⟩ := bn_some e6
      refine lv_iinc (v := v6) (lv' := [(3, .int v6), (0, .ref th), (1, .int x1), (2, .int x2)]) hx hb dX12_takes_47 hl (k := 3) rfl (by rw [ev6]; rfl) (by decide) rfl (fun ls hl => ?_)
      refine lv_goto (tgt := 22) hx hb dX12_takes_50 (by decide) ?_
      exact ih  h5 th x1 x2 v6 _ _ ls w  (lv_sub hl [1, 2, 3, 0] rfl) e7
set_option maxRecDepth 20000 in
set_option maxHeartbeats 4000000 in
theorem k_M_takes (l : Launch) (D : va_G) (cy : cyT) (z : Nat) (N : Nat) (h : hS) (th : Nat) (x1 : Int32) (x2 : Int32) (r : Int32) (g : hS) (hE : f_M_takes N h th x1 x2 = some (r, g)) : ct l yX12_takes (Cond.code yX12_takes cX12_takes 4 ((some .int)) :: GW) { frames := 7, cells := 0, slots := 0, locals := 193 } D cy z h [.ref th, .int x1, .int x2] (rI r) g := by
  refine Met.ofW (cc := cX12_takes) (maxL := 4) (ret := (some .int)) (by decide) rfl ?_
  intro p e s m args below meth c s₁ B hml hv
  obtain ⟨rfl, hw⟩ := hv
  have C : MX p s m ([.ref th, .int x1, .int x2] : List Value).toArray meth c cX12_takes 4 ((some .int)) RX12 (Cond.code yX12_takes cX12_takes 4 ((some .int)) :: GW) := ⟨B.exec, B.bytes, B.returns, hml, findClass_of_methodNamed B.named, atoms_spec (ws := Cond.code yX12_takes cX12_takes 4 ((some .int)) :: GW) B.pre, B.notSynchronized⟩
  obtain ⟨hx, hb, hr, hml, hown, hts, hlk⟩ := id C
  have w := wd_of hw
  obtain ⟨ls, hen, hl⟩ : ∃ ls : Array Slot, entryFrame m ([.ref th, .int x1, .int x2] : List Value).toArray 4 = F0 m 0 ls [] ∧ lv_has ls 4 [(0, .ref th), (1, .int x1), (2, .int x2)] := by
    exact ⟨_, lg_entry_eq _ _ _, lv_entry _ (Nat.le_of_ble_eq_true rfl)⟩
  rw [hen]
  unfold f_M_takes at hE
  refine lv_aload_n hx hb dX12_takes_0 rfl (lv_at hl 0 rfl) ?_
  refine lv_iconst (v := 0) hx hb dX12_takes_1 (by decide) ?_
  refine w_pI (r := some th) (ci := 0) (k := 1) C w rfl (by decide) (by unfold roK; omega) (GF_wsX120 _) tyX12 tyX12_ok nmX12 (by decide) rfl (List.mem_cons_of_mem _ gw_8_18) rfl rfl (tyX12_ok 1 (by decide)) dX12_takes_2 hE (fun h1 H locs w hsh1 e1 => ?_)
  refine lv_aload_n hx hb dX12_takes_5 rfl (lv_at hl 0 rfl) ?_
  refine lv_iload_n hx hb dX12_takes_6 rfl (lv_at hl 1 rfl) ?_
  refine lv_iload_n hx hb dX12_takes_7 rfl (lv_at hl 2 rfl) ?_
  refine w_VI GW_good (n := 2) (F := 2) (Lc := 46) (o := some th) (av := [.int x1, .int x2]) (rest := []) C w rfl (by decide) (fun a r g hf => k_M_isStep l D cy z N h1 a x1 x2 r g hf) gw_33_14 gw_33_15 gw_33_16 gw_1_5 gw_33_17 (by decide +kernel) ⟨Nat.le_of_ble_eq_true rfl, Nat.le_of_ble_eq_true rfl⟩ rfl hl.1 rfl (Nat.le_of_ble_eq_true rfl) dX12_takes_8 (fun a => (sh_M_isStep N h1 a x1 x2)) ⟨by decide, by decide⟩ e1 (fun v2 h3 H locs w hsh3 e2 => ?_)
  refine w_if_ne (tgt := 20) C dX12_takes_11 (by decide) e2 (fun hc e3 => ?_) (fun hc e3 => ?_)
  · refine lv_iconst (v := 0) hx hb dX12_takes_20 (by decide) ?_
    refine lv_istore_n (lv' := [(3, .int (0 : Int32)), (0, .ref th), (1, .int x1), (2, .int x2)]) hx hb dX12_takes_21 rfl hl (by decide) rfl (fun ls hl => ?_)
    exact b_M_takes_22 C N   N  h3 th x1 x2 (0 : Int32) _ _ ls w  (lv_sub hl [1, 2, 3, 0] rfl) e3
  · refine lv_aload_n hx hb dX12_takes_14 rfl (lv_at hl 0 rfl) ?_
    refine lv_iconst (v := 1) hx hb dX12_takes_15 (by decide) ?_
    refine w_VI GW_good (n := 1) (F := 0) (Lc := 0) (o := some th) (av := [.int (1 : Int32)]) (rest := []) C w rfl (by decide) (fun a r g hf => k_M_refuse l D cy z N h3 a (1 : Int32) r g hf) gw_57_23 gw_58_0 gw_58_1 gw_1_5 gw_58_2 (by decide +kernel) ⟨Nat.le_of_ble_eq_true rfl, Nat.le_of_ble_eq_true rfl⟩ rfl hl.1 rfl (Nat.le_of_ble_eq_true rfl) dX12_takes_16 (fun a => (sh_M_refuse N h3 a (1 : Int32))) ⟨by decide, by decide⟩ e3 (fun v4 h5 H locs w hsh5 e4 => ?_)
    exact w_iret C w e4 dX12_takes_19
set_option maxRecDepth 20000 in
set_option maxHeartbeats 4000000 in
theorem b_M_copy_26 {p : Program} {l : Launch} {e : Env} {s : State} {m : MethodId} {args : Array Value} {below : List Frame} {meth : Method} {c : Code} {D : va_G} {cy : cyT} {z : Nat} (C : MX p s m args meth c cX12_copy 5 ((some .int)) RX12 (Cond.code yX12_copy cX12_copy 5 ((some .int)) :: GW)) (N : Nat) {r : Int32} {g : hS}  : ∀  (h : hS) (th : Nat) (H : Heap) (locs : List Loc) (ls : Array Slot), wd D cy z s 0 h H locs → lv_has ls 5 [(0, .ref th)] → f_M_copy_26 N   h th = some (r, g) → W p l e { frames := 7, cells := 0, slots := 0, locals := 193 } s m args below meth c H locs 0 0 (MQ below (eQ D cy z (rI r) g) args s 0 0 (fun q => z ≤ q)) (F0 m 26 ls []) := by
  obtain ⟨hx, hb, hr, hml, hown, hts, hlk⟩ := id C
  intro  h th H locs ls w  hl hE
  unfold f_M_copy_26 at hE
  refine lv_aload_n hx hb dX12_copy_26 rfl (lv_at hl 0 rfl) ?_
  refine lv_iconst (v := 1) hx hb dX12_copy_27 (by decide) ?_
  refine w_VI GW_good (n := 1) (F := 0) (Lc := 0) (o := some th) (av := [.int (1 : Int32)]) (rest := []) C w rfl (by decide) (fun a r g hf => k_M_refuse l D cy z N h a (1 : Int32) r g hf) gw_57_23 gw_58_0 gw_58_1 gw_1_5 gw_58_2 (by decide +kernel) ⟨Nat.le_of_ble_eq_true rfl, Nat.le_of_ble_eq_true rfl⟩ rfl hl.1 rfl (Nat.le_of_ble_eq_true rfl) dX12_copy_28 (fun a => (sh_M_refuse N h a (1 : Int32))) ⟨by decide, by decide⟩ hE (fun v1 h2 H locs w hsh2 e1 => ?_)
  exact w_iret C w e1 dX12_copy_31
set_option maxRecDepth 20000 in
set_option maxHeartbeats 4000000 in
theorem b_M_copy_101 {p : Program} {l : Launch} {e : Env} {s : State} {m : MethodId} {args : Array Value} {below : List Frame} {meth : Method} {c : Code} {D : va_G} {cy : cyT} {z : Nat} (C : MX p s m args meth c cX12_copy 5 ((some .int)) RX12 (Cond.code yX12_copy cX12_copy 5 ((some .int)) :: GW)) (N : Nat) {r : Int32} {g : hS}  : ∀ (n : Nat) (h : hS) (th : Nat) (x1 : Int32) (x2 : Int32) (x4 : Int32) (H : Heap) (locs : List Loc) (ls : Array Slot), wd D cy z s 0 h H locs → lv_has ls 5 [(0, .ref th), (1, .int x1), (2, .int x2), (4, .int x4)] → f_M_copy_101 N  n h th x1 x2 x4 = some (r, g) → W p l e { frames := 7, cells := 0, slots := 0, locals := 193 } s m args below meth c H locs 0 0 (MQ below (eQ D cy z (rI r) g) args s 0 0 (fun q => z ≤ q)) (F0 m 101 ls []) := by
  obtain ⟨hx, hb, hr, hml, hown, hts, hlk⟩ := id C
  intro n
  induction n with
  | zero =>
    intro  h th x1 x2 x4 H locs ls w  hl hE
    cases hE
  | succ n ih =>
    intro  h th x1 x2 x4 H locs ls w  hl hE
    unfold f_M_copy_101 at hE
    refine lv_iload hx hb dX12_copy_101 (lv_at hl 3 rfl) ?_
    refine lv_sipush (v := 161) hx hb dX12_copy_103 (by decide) ?_
    refine w_icmp_ge (tgt := 135) C dX12_copy_106 (by decide) hE (fun hc e1 => ?_) (fun hc e1 => ?_)
    · refine lv_aload_n hx hb dX12_copy_135 rfl (lv_at hl 0 rfl) ?_
      refine lv_iload_n hx hb dX12_copy_136 rfl (lv_at hl 1 rfl) ?_
      refine w_VI GW_good (n := 1) (F := 6) (Lc := 171) (o := some th) (av := [.int x1]) (rest := []) C w rfl (by decide) (fun a r g hf => k_M_becomes l D cy z N h a x1 r g hf) gw_58_3 gw_58_4 gw_58_5 gw_1_5 gw_58_6 (by decide +kernel) ⟨Nat.le_of_ble_eq_true rfl, Nat.le_of_ble_eq_true rfl⟩ rfl hl.1 rfl (Nat.le_of_ble_eq_true rfl) dX12_copy_137 (fun a => (sh_M_becomes N h a x1)) ⟨by decide, by decide⟩ e1 (fun v1 h2 H locs w hsh2 e2 => ?_)
      exact w_iret C w e2 dX12_copy_140
    · refine lv_aload_n hx hb dX12_copy_109 rfl (lv_at hl 0 rfl) ?_
      refine w_gR (r := some th) (ci := 0) (k := 18) C w rfl (by decide) (GF_wsX120 _) (by decide) rfl (List.mem_cons_of_mem _ gw_7_12) rfl dX12_copy_110 e1 (fun v3 e3 => ?_)
      refine lv_iload hx hb dX12_copy_113 (lv_at hl 3 rfl) ?_
      refine lv_aload_n hx hb dX12_copy_115 rfl (lv_at hl 0 rfl) ?_
      refine w_gR (r := some th) (ci := 0) (k := 2) C w rfl (by decide) (GF_wsX120 _) (by decide) rfl (List.mem_cons_of_mem _ gw_6_21) rfl dX12_copy_116 e3 (fun v4 e4 => ?_)
      refine lv_sipush (v := 161) hx hb dX12_copy_119 (by decide) ?_
      refine lv_iload_n hx hb dX12_copy_122 rfl (lv_at hl 2 rfl) ?_
      refine lv_imul hx hb dX12_copy_123 ?_
      refine lv_iload hx hb dX12_copy_124 (lv_at hl 3 rfl) ?_
      refine lv_iadd hx hb dX12_copy_126 ?_
      refine w_aI (r := v4) C w dX12_copy_127 e4 (fun v5 e5 => ?_)
      refine w_uI (r := v3) C w dX12_copy_128 e5 (fun h6 H locs w hsh6 e6 => ?_)
      obtain ⟨v7, ev7, e7⟩ := bn_some e6
      refine lv_iinc (v := v7) (lv' := [(4, .int v7), (0, .ref th), (1, .int x1), (2, .int x2)]) hx hb dX12_copy_129 hl (k := 3) rfl (by rw [ev7]; rfl) (by decide) rfl (fun ls hl => ?_)
      refine lv_goto (tgt := 101) hx hb dX12_copy_132 (by decide) ?_
      exact ih  h6 th x1 x2 v7 _ _ ls w  (lv_sub hl [1, 2, 3, 0] rfl) e7
set_option maxRecDepth 20000 in
set_option maxHeartbeats 4000000 in
theorem b_M_copy_81 {p : Program} {l : Launch} {e : Env} {s : State} {m : MethodId} {args : Array Value} {below : List Frame} {meth : Method} {c : Code} {D : va_G} {cy : cyT} {z : Nat} (C : MX p s m args meth c cX12_copy 5 ((some .int)) RX12 (Cond.code yX12_copy cX12_copy 5 ((some .int)) :: GW)) (N : Nat) {r : Int32} {g : hS} {rc37 : hS → Nat → Int32 → Int32 → Int32 → Int32 → Option (Int32 × hS)}  (hrc37 : ∀ (h : hS) (th : Nat) (x1 : Int32) (x2 : Int32) (x3 : Int32) (x4 : Int32) (H : Heap) (locs : List Loc) (ls : Array Slot), wd D cy z s 0 h H locs → lv_has ls 5 [(0, .ref th), (1, .int x1), (2, .int x2), (3, .int x3), (4, .int x4)] → rc37 h th x1 x2 x3 x4 = some (r, g) → W p l e { frames := 7, cells := 0, slots := 0, locals := 193 } s m args below meth c H locs 0 0 (MQ below (eQ D cy z (rI r) g) args s 0 0 (fun q => z ≤ q)) (F0 m 37 ls [])) : ∀  (h : hS) (th : Nat) (x1 : Int32) (x2 : Int32) (x4 : Int32) (y0 : Int32) (H : Heap) (locs : List Loc) (ls : Array Slot), wd D cy z s 0 h H locs → lv_has ls 5 [(0, .ref th), (1, .int x1), (2, .int x2), (4, .int x4)] → f_M_copy_81 N rc37  h th x1 x2 x4 y0 = some (r, g) → W p l e { frames := 7, cells := 0, slots := 0, locals := 193 } s m args below meth c H locs 0 0 (MQ below (eQ D cy z (rI r) g) args s 0 0 (fun q => z ≤ q)) (F0 m 81 ls [.int y0]) := by
  obtain ⟨hx, hb, hr, hml, hown, hts, hlk⟩ := id C
  intro  h th x1 x2 x4 y0 H locs ls w  hl hE
  unfold f_M_copy_81 at hE
  refine lv_istore_n (lv' := [(3, .int y0), (0, .ref th), (1, .int x1), (2, .int x2), (4, .int x4)]) hx hb dX12_copy_81 rfl hl (by decide) rfl (fun ls hl => ?_)
  obtain ⟨v1, ev1, e1⟩ := bn_some hE
  refine lv_iinc (v := v1) (lv' := [(4, .int v1), (3, .int y0), (0, .ref th), (1, .int x1), (2, .int x2)]) hx hb dX12_copy_82 hl (k := 4) rfl (by rw [ev1]; rfl) (by decide) rfl (fun ls hl => ?_)
  refine lv_goto (tgt := 37) hx hb dX12_copy_85 (by decide) ?_
  exact hrc37  h th x1 x2 y0 v1 _ _ ls w  (lv_sub hl [2, 3, 4, 1, 0] rfl) e1
set_option maxRecDepth 20000 in
set_option maxHeartbeats 4000000 in
theorem b_M_copy_76 {p : Program} {l : Launch} {e : Env} {s : State} {m : MethodId} {args : Array Value} {below : List Frame} {meth : Method} {c : Code} {D : va_G} {cy : cyT} {z : Nat} (C : MX p s m args meth c cX12_copy 5 ((some .int)) RX12 (Cond.code yX12_copy cX12_copy 5 ((some .int)) :: GW)) (N : Nat) {r : Int32} {g : hS} {rc37 : hS → Nat → Int32 → Int32 → Int32 → Int32 → Option (Int32 × hS)}  (hrc37 : ∀ (h : hS) (th : Nat) (x1 : Int32) (x2 : Int32) (x3 : Int32) (x4 : Int32) (H : Heap) (locs : List Loc) (ls : Array Slot), wd D cy z s 0 h H locs → lv_has ls 5 [(0, .ref th), (1, .int x1), (2, .int x2), (3, .int x3), (4, .int x4)] → rc37 h th x1 x2 x3 x4 = some (r, g) → W p l e { frames := 7, cells := 0, slots := 0, locals := 193 } s m args below meth c H locs 0 0 (MQ below (eQ D cy z (rI r) g) args s 0 0 (fun q => z ≤ q)) (F0 m 37 ls [])) : ∀  (h : hS) (th : Nat) (x1 : Int32) (x2 : Int32) (x4 : Int32) (H : Heap) (locs : List Loc) (ls : Array Slot), wd D cy z s 0 h H locs → lv_has ls 5 [(0, .ref th), (1, .int x1), (2, .int x2), (4, .int x4)] → f_M_copy_76 N rc37  h th x1 x2 x4 = some (r, g) → W p l e { frames := 7, cells := 0, slots := 0, locals := 193 } s m args below meth c H locs 0 0 (MQ below (eQ D cy z (rI r) g) args s 0 0 (fun q => z ≤ q)) (F0 m 76 ls []) := by
  obtain ⟨hx, hb, hr, hml, hown, hts, hlk⟩ := id C
  intro  h th x1 x2 x4 H locs ls w  hl hE
  unfold f_M_copy_76 at hE
  refine lv_iconst (v := 1) hx hb dX12_copy_76 (by decide) ?_
  refine lv_goto (tgt := 81) hx hb dX12_copy_77 (by decide) ?_
  exact b_M_copy_81 C N  hrc37   h th x1 x2 x4 (1 : Int32) _ _ ls w  (lv_sub hl [0, 1, 2, 3] rfl) hE
set_option maxRecDepth 20000 in
set_option maxHeartbeats 4000000 in
theorem b_M_copy_80 {p : Program} {l : Launch} {e : Env} {s : State} {m : MethodId} {args : Array Value} {below : List Frame} {meth : Method} {c : Code} {D : va_G} {cy : cyT} {z : Nat} (C : MX p s m args meth c cX12_copy 5 ((some .int)) RX12 (Cond.code yX12_copy cX12_copy 5 ((some .int)) :: GW)) (N : Nat) {r : Int32} {g : hS} {rc37 : hS → Nat → Int32 → Int32 → Int32 → Int32 → Option (Int32 × hS)}  (hrc37 : ∀ (h : hS) (th : Nat) (x1 : Int32) (x2 : Int32) (x3 : Int32) (x4 : Int32) (H : Heap) (locs : List Loc) (ls : Array Slot), wd D cy z s 0 h H locs → lv_has ls 5 [(0, .ref th), (1, .int x1), (2, .int x2), (3, .int x3), (4, .int x4)] → rc37 h th x1 x2 x3 x4 = some (r, g) → W p l e { frames := 7, cells := 0, slots := 0, locals := 193 } s m args below meth c H locs 0 0 (MQ below (eQ D cy z (rI r) g) args s 0 0 (fun q => z ≤ q)) (F0 m 37 ls [])) : ∀  (h : hS) (th : Nat) (x1 : Int32) (x2 : Int32) (x4 : Int32) (H : Heap) (locs : List Loc) (ls : Array Slot), wd D cy z s 0 h H locs → lv_has ls 5 [(0, .ref th), (1, .int x1), (2, .int x2), (4, .int x4)] → f_M_copy_80 N rc37  h th x1 x2 x4 = some (r, g) → W p l e { frames := 7, cells := 0, slots := 0, locals := 193 } s m args below meth c H locs 0 0 (MQ below (eQ D cy z (rI r) g) args s 0 0 (fun q => z ≤ q)) (F0 m 80 ls []) := by
  obtain ⟨hx, hb, hr, hml, hown, hts, hlk⟩ := id C
  intro  h th x1 x2 x4 H locs ls w  hl hE
  unfold f_M_copy_80 at hE
  refine lv_iconst (v := 0) hx hb dX12_copy_80 (by decide) ?_
  exact b_M_copy_81 C N  hrc37   h th x1 x2 x4 (0 : Int32) _ _ ls w  (lv_sub hl [0, 1, 2, 3] rfl) hE
set_option maxRecDepth 20000 in
set_option maxHeartbeats 4000000 in
theorem b_M_copy_37 {p : Program} {l : Launch} {e : Env} {s : State} {m : MethodId} {args : Array Value} {below : List Frame} {meth : Method} {c : Code} {D : va_G} {cy : cyT} {z : Nat} (C : MX p s m args meth c cX12_copy 5 ((some .int)) RX12 (Cond.code yX12_copy cX12_copy 5 ((some .int)) :: GW)) (N : Nat) {r : Int32} {g : hS}  : ∀ (n : Nat) (h : hS) (th : Nat) (x1 : Int32) (x2 : Int32) (x3 : Int32) (x4 : Int32) (H : Heap) (locs : List Loc) (ls : Array Slot), wd D cy z s 0 h H locs → lv_has ls 5 [(0, .ref th), (1, .int x1), (2, .int x2), (3, .int x3), (4, .int x4)] → f_M_copy_37 N  n h th x1 x2 x3 x4 = some (r, g) → W p l e { frames := 7, cells := 0, slots := 0, locals := 193 } s m args below meth c H locs 0 0 (MQ below (eQ D cy z (rI r) g) args s 0 0 (fun q => z ≤ q)) (F0 m 37 ls []) := by
  obtain ⟨hx, hb, hr, hml, hown, hts, hlk⟩ := id C
  intro n
  induction n with
  | zero =>
    intro  h th x1 x2 x3 x4 H locs ls w  hl hE
    cases hE
  | succ n ih =>
    intro  h th x1 x2 x3 x4 H locs ls w  hl hE
    unfold f_M_copy_37 at hE
    refine lv_iload hx hb dX12_copy_37 (lv_at hl 4 rfl) ?_
    refine lv_aload_n hx hb dX12_copy_39 rfl (lv_at hl 0 rfl) ?_
    refine lv_iload_n hx hb dX12_copy_40 rfl (lv_at hl 2 rfl) ?_
    refine w_VI GW_good (n := 1) (F := 0) (Lc := 0) (o := some th) (av := [.int x2]) (rest := [.int x4]) C w rfl (by decide) (fun a r g hf => k_M_steps l D cy z N h a x2 r g hf) gw_33_18 gw_33_19 gw_33_20 gw_1_5 gw_33_21 (by decide +kernel) ⟨Nat.le_of_ble_eq_true rfl, Nat.le_of_ble_eq_true rfl⟩ rfl hl.1 rfl (Nat.le_of_ble_eq_true rfl) dX12_copy_41 (fun a => (sh_M_steps N h a x2)) ⟨by decide, by decide⟩ hE (fun v1 h2 H locs w hsh2 e1 => ?_)
    refine w_icmp_ge (tgt := 88) C dX12_copy_44 (by decide) e1 (fun hc e2 => ?_) (fun hc e2 => ?_)
    · refine lv_iload_n hx hb dX12_copy_88 rfl (lv_at hl 3 rfl) ?_
      refine w_if_eq (tgt := 98) C dX12_copy_89 (by decide) e2 (fun hc e3 => ?_) (fun hc e3 => ?_)
      · refine lv_iconst (v := 0) hx hb dX12_copy_98 (by decide) ?_
        refine lv_istore (lv' := [(4, .int (0 : Int32)), (0, .ref th), (1, .int x1), (2, .int x2), (3, .int x3)]) hx hb dX12_copy_99 hl (by decide) rfl (fun ls hl => ?_)
        exact b_M_copy_101 C N   N  h2 th x1 x2 (0 : Int32) _ _ ls w  (lv_sub hl [1, 2, 3, 0] rfl) e3
      · refine lv_aload_n hx hb dX12_copy_92 rfl (lv_at hl 0 rfl) ?_
        refine lv_iconst (v := 1) hx hb dX12_copy_93 (by decide) ?_
        refine w_VI GW_good (n := 1) (F := 0) (Lc := 0) (o := some th) (av := [.int (1 : Int32)]) (rest := []) C w rfl (by decide) (fun a r g hf => k_M_refuse l D cy z N h2 a (1 : Int32) r g hf) gw_57_23 gw_58_0 gw_58_1 gw_1_5 gw_58_2 (by decide +kernel) ⟨Nat.le_of_ble_eq_true rfl, Nat.le_of_ble_eq_true rfl⟩ rfl hl.1 rfl (Nat.le_of_ble_eq_true rfl) dX12_copy_94 (fun a => (sh_M_refuse N h2 a (1 : Int32))) ⟨by decide, by decide⟩ e3 (fun v3 h4 H locs w hsh4 e4 => ?_)
        exact w_iret C w e4 dX12_copy_97
    · refine lv_iload_n hx hb dX12_copy_47 rfl (lv_at hl 3 rfl) ?_
      refine w_if_ne (tgt := 76) C dX12_copy_48 (by decide) e2 (fun hc e5 => ?_) (fun hc e5 => ?_)
      · exact b_M_copy_76 C N  ih   h2 th x1 x2 x4 _ _ ls w  (lv_sub hl [0, 1, 2, 4] rfl) e5
      · refine lv_aload_n hx hb dX12_copy_51 rfl (lv_at hl 0 rfl) ?_
        refine lv_iload_n hx hb dX12_copy_52 rfl (lv_at hl 2 rfl) ?_
        refine lv_iload hx hb dX12_copy_53 (lv_at hl 4 rfl) ?_
        refine lv_iconst (v := 0) hx hb dX12_copy_55 (by decide) ?_
        refine w_VI GW_good (n := 3) (F := 0) (Lc := 0) (o := some th) (av := [.int x2, .int x4, .int (0 : Int32)]) (rest := []) C w rfl (by decide) (fun a r g hf => k_M_stepAt l D cy z N h2 a x2 x4 (0 : Int32) r g hf) gw_33_22 gw_33_23 gw_34_0 gw_1_5 gw_34_1 (by decide +kernel) ⟨Nat.le_of_ble_eq_true rfl, Nat.le_of_ble_eq_true rfl⟩ rfl hl.1 rfl (Nat.le_of_ble_eq_true rfl) dX12_copy_56 (fun a => (sh_M_stepAt N h2 a x2 x4 (0 : Int32))) ⟨by decide, by decide⟩ e5 (fun v5 h6 H locs w hsh6 e6 => ?_)
        refine lv_bipush (v := 8) hx hb dX12_copy_59 (by decide) ?_
        refine w_icmp_ne (tgt := 80) C dX12_copy_61 (by decide) e6 (fun hc e7 => ?_) (fun hc e7 => ?_)
        · exact b_M_copy_80 C N  ih   h6 th x1 x2 x4 _ _ ls w  (lv_sub hl [0, 1, 2, 4] rfl) e7
        · refine lv_aload_n hx hb dX12_copy_64 rfl (lv_at hl 0 rfl) ?_
          refine lv_iload_n hx hb dX12_copy_65 rfl (lv_at hl 2 rfl) ?_
          refine lv_iload hx hb dX12_copy_66 (lv_at hl 4 rfl) ?_
          refine lv_iconst (v := 1) hx hb dX12_copy_68 (by decide) ?_
          refine w_VI GW_good (n := 3) (F := 0) (Lc := 0) (o := some th) (av := [.int x2, .int x4, .int (1 : Int32)]) (rest := []) C w rfl (by decide) (fun a r g hf => k_M_stepAt l D cy z N h6 a x2 x4 (1 : Int32) r g hf) gw_33_22 gw_33_23 gw_34_0 gw_1_5 gw_34_1 (by decide +kernel) ⟨Nat.le_of_ble_eq_true rfl, Nat.le_of_ble_eq_true rfl⟩ rfl hl.1 rfl (Nat.le_of_ble_eq_true rfl) dX12_copy_69 (fun a => (sh_M_stepAt N h6 a x2 x4 (1 : Int32))) ⟨by decide, by decide⟩ e7 (fun v7 h8 H locs w hsh8 e8 => ?_)
          refine lv_iload_n hx hb dX12_copy_72 rfl (lv_at hl 1 rfl) ?_
          refine w_icmp_ne (tgt := 80) C dX12_copy_73 (by decide) e8 (fun hc e9 => ?_) (fun hc e9 => ?_)
          · exact b_M_copy_80 C N  ih   h8 th x1 x2 x4 _ _ ls w  (lv_sub hl [0, 1, 2, 4] rfl) e9
          · exact b_M_copy_76 C N  ih   h8 th x1 x2 x4 _ _ ls w  (lv_sub hl [0, 1, 2, 4] rfl) e9
set_option maxRecDepth 20000 in
set_option maxHeartbeats 4000000 in
theorem k_M_copy (l : Launch) (D : va_G) (cy : cyT) (z : Nat) (N : Nat) (h : hS) (th : Nat) (x1 : Int32) (x2 : Int32) (r : Int32) (g : hS) (hE : f_M_copy N h th x1 x2 = some (r, g)) : ct l yX12_copy (Cond.code yX12_copy cX12_copy 5 ((some .int)) :: GW) { frames := 7, cells := 0, slots := 0, locals := 193 } D cy z h [.ref th, .int x1, .int x2] (rI r) g := by
  refine Met.ofW (cc := cX12_copy) (maxL := 5) (ret := (some .int)) (by decide) rfl ?_
  intro p e s m args below meth c s₁ B hml hv
  obtain ⟨rfl, hw⟩ := hv
  have C : MX p s m ([.ref th, .int x1, .int x2] : List Value).toArray meth c cX12_copy 5 ((some .int)) RX12 (Cond.code yX12_copy cX12_copy 5 ((some .int)) :: GW) := ⟨B.exec, B.bytes, B.returns, hml, findClass_of_methodNamed B.named, atoms_spec (ws := Cond.code yX12_copy cX12_copy 5 ((some .int)) :: GW) B.pre, B.notSynchronized⟩
  obtain ⟨hx, hb, hr, hml, hown, hts, hlk⟩ := id C
  have w := wd_of hw
  obtain ⟨ls, hen, hl⟩ : ∃ ls : Array Slot, entryFrame m ([.ref th, .int x1, .int x2] : List Value).toArray 5 = F0 m 0 ls [] ∧ lv_has ls 5 [(0, .ref th), (1, .int x1), (2, .int x2)] := by
    exact ⟨_, lg_entry_eq _ _ _, lv_entry _ (Nat.le_of_ble_eq_true rfl)⟩
  rw [hen]
  unfold f_M_copy at hE
  refine lv_aload_n hx hb dX12_copy_0 rfl (lv_at hl 0 rfl) ?_
  refine lv_iconst (v := 0) hx hb dX12_copy_1 (by decide) ?_
  refine w_pI (r := some th) (ci := 0) (k := 1) C w rfl (by decide) (by unfold roK; omega) (GF_wsX120 _) tyX12 tyX12_ok nmX12 (by decide) rfl (List.mem_cons_of_mem _ gw_8_18) rfl rfl (tyX12_ok 1 (by decide)) dX12_copy_2 hE (fun h1 H locs w hsh1 e1 => ?_)
  refine lv_aload_n hx hb dX12_copy_5 rfl (lv_at hl 0 rfl) ?_
  refine lv_iload_n hx hb dX12_copy_6 rfl (lv_at hl 1 rfl) ?_
  refine w_VI GW_good (n := 1) (F := 1) (Lc := 25) (o := some th) (av := [.int x1]) (rest := []) C w rfl (by decide) (fun a r g hf => k_M_isCost l D cy z N h1 a x1 r g hf) gw_24_20 gw_24_21 gw_24_22 gw_1_5 gw_24_23 (by decide +kernel) ⟨Nat.le_of_ble_eq_true rfl, Nat.le_of_ble_eq_true rfl⟩ rfl hl.1 rfl (Nat.le_of_ble_eq_true rfl) dX12_copy_7 (fun a => (sh_M_isCost N h1 a x1)) ⟨by decide, by decide⟩ e1 (fun v2 h3 H locs w hsh3 e2 => ?_)
  refine w_if_eq (tgt := 26) C dX12_copy_10 (by decide) e2 (fun hc e3 => ?_) (fun hc e3 => ?_)
  · exact b_M_copy_26 C N     h3 th _ _ ls w  (lv_sub hl [0] rfl) e3
  · refine lv_aload_n hx hb dX12_copy_13 rfl (lv_at hl 0 rfl) ?_
    refine lv_iload_n hx hb dX12_copy_14 rfl (lv_at hl 2 rfl) ?_
    refine w_VI GW_good (n := 1) (F := 1) (Lc := 25) (o := some th) (av := [.int x2]) (rest := []) C w rfl (by decide) (fun a r g hf => k_M_isCost l D cy z N h3 a x2 r g hf) gw_24_20 gw_24_21 gw_24_22 gw_1_5 gw_24_23 (by decide +kernel) ⟨Nat.le_of_ble_eq_true rfl, Nat.le_of_ble_eq_true rfl⟩ rfl hl.1 rfl (Nat.le_of_ble_eq_true rfl) dX12_copy_15 (fun a => (sh_M_isCost N h3 a x2)) ⟨by decide, by decide⟩ e3 (fun v4 h5 H locs w hsh5 e4 => ?_)
    refine w_if_eq (tgt := 26) C dX12_copy_18 (by decide) e4 (fun hc e5 => ?_) (fun hc e5 => ?_)
    · exact b_M_copy_26 C N     h5 th _ _ ls w  (lv_sub hl [0] rfl) e5
    · refine lv_iload_n hx hb dX12_copy_21 rfl (lv_at hl 1 rfl) ?_
      refine lv_iload_n hx hb dX12_copy_22 rfl (lv_at hl 2 rfl) ?_
      refine w_icmp_ne (tgt := 32) C dX12_copy_23 (by decide) e5 (fun hc e6 => ?_) (fun hc e6 => ?_)
      · refine lv_iconst (v := 0) hx hb dX12_copy_32 (by decide) ?_
        refine lv_istore_n (lv' := [(3, .int (0 : Int32)), (0, .ref th), (1, .int x1), (2, .int x2)]) hx hb dX12_copy_33 rfl hl (by decide) rfl (fun ls hl => ?_)
        refine lv_iconst (v := 0) hx hb dX12_copy_34 (by decide) ?_
        refine lv_istore (lv' := [(4, .int (0 : Int32)), (3, .int (0 : Int32)), (0, .ref th), (1, .int x1), (2, .int x2)]) hx hb dX12_copy_35 hl (by decide) rfl (fun ls hl => ?_)
        exact b_M_copy_37 C N   N  h5 th x1 x2 (0 : Int32) (0 : Int32) _ _ ls w  (lv_sub hl [2, 3, 4, 1, 0] rfl) e6
      · exact b_M_copy_26 C N     h5 th _ _ ls w  (lv_sub hl [0] rfl) e6
set_option maxRecDepth 20000 in
set_option maxHeartbeats 4000000 in
theorem b_M_tellFits_121 {p : Program} {l : Launch} {e : Env} {s : State} {m : MethodId} {args : Array Value} {below : List Frame} {meth : Method} {c : Code} {D : va_G} {cy : cyT} {z : Nat} (C : MX p s m args meth c cX12_tellFits 5 (none) RX12 (Cond.code yX12_tellFits cX12_tellFits 5 (none) :: GW)) (N : Nat) {r : Unit} {g : hS} {rc2 : hS → Nat → Int32 → Int32 → Option (Unit × hS)}  (hrc2 : ∀ (h : hS) (th : Nat) (x1 : Int32) (x2 : Int32) (H : Heap) (locs : List Loc) (ls : Array Slot), wd D cy z s 0 h H locs → lv_has ls 5 [(0, .ref th), (1, .int x1), (2, .int x2)] → rc2 h th x1 x2 = some (r, g) → W p l e { frames := 7, cells := 0, slots := 0, locals := 195 } s m args below meth c H locs 0 0 (MQ below (eQ D cy z (rV r) g) args s 0 0 (fun q => z ≤ q)) (F0 m 2 ls [])) : ∀  (h : hS) (th : Nat) (x1 : Int32) (x2 : Int32) (H : Heap) (locs : List Loc) (ls : Array Slot), wd D cy z s 0 h H locs → lv_has ls 5 [(0, .ref th), (1, .int x1), (2, .int x2)] → f_M_tellFits_121 N rc2  h th x1 x2 = some (r, g) → W p l e { frames := 7, cells := 0, slots := 0, locals := 195 } s m args below meth c H locs 0 0 (MQ below (eQ D cy z (rV r) g) args s 0 0 (fun q => z ≤ q)) (F0 m 121 ls []) := by
  obtain ⟨hx, hb, hr, hml, hown, hts, hlk⟩ := id C
  intro  h th x1 x2 H locs ls w  hl hE
  unfold f_M_tellFits_121 at hE
  obtain ⟨v1, ev1, e1⟩ := bn_some hE
  refine lv_iinc (v := v1) (lv' := [(2, .int v1), (0, .ref th), (1, .int x1)]) hx hb dX12_tellFits_121 hl (k := 2) rfl (by rw [ev1]; rfl) (by decide) rfl (fun ls hl => ?_)
  refine lv_goto (tgt := 2) hx hb dX12_tellFits_124 (by decide) ?_
  exact hrc2  h th x1 v1 _ _ ls w  (lv_sub hl [1, 2, 0] rfl) e1
set_option maxRecDepth 20000 in
set_option maxHeartbeats 4000000 in
theorem b_M_tellFits_80 {p : Program} {l : Launch} {e : Env} {s : State} {m : MethodId} {args : Array Value} {below : List Frame} {meth : Method} {c : Code} {D : va_G} {cy : cyT} {z : Nat} (C : MX p s m args meth c cX12_tellFits 5 (none) RX12 (Cond.code yX12_tellFits cX12_tellFits 5 (none) :: GW)) (N : Nat) {r : Unit} {g : hS} {rc2 : hS → Nat → Int32 → Int32 → Option (Unit × hS)}  (hrc2 : ∀ (h : hS) (th : Nat) (x1 : Int32) (x2 : Int32) (H : Heap) (locs : List Loc) (ls : Array Slot), wd D cy z s 0 h H locs → lv_has ls 5 [(0, .ref th), (1, .int x1), (2, .int x2)] → rc2 h th x1 x2 = some (r, g) → W p l e { frames := 7, cells := 0, slots := 0, locals := 195 } s m args below meth c H locs 0 0 (MQ below (eQ D cy z (rV r) g) args s 0 0 (fun q => z ≤ q)) (F0 m 2 ls [])) : ∀ (n : Nat) (h : hS) (th : Nat) (x1 : Int32) (x2 : Int32) (x3 : Int32) (x4 : Int32) (H : Heap) (locs : List Loc) (ls : Array Slot), wd D cy z s 0 h H locs → lv_has ls 5 [(0, .ref th), (1, .int x1), (2, .int x2), (3, .int x3), (4, .int x4)] → f_M_tellFits_80 N rc2 n h th x1 x2 x3 x4 = some (r, g) → W p l e { frames := 7, cells := 0, slots := 0, locals := 195 } s m args below meth c H locs 0 0 (MQ below (eQ D cy z (rV r) g) args s 0 0 (fun q => z ≤ q)) (F0 m 80 ls []) := by
  obtain ⟨hx, hb, hr, hml, hown, hts, hlk⟩ := id C
  intro n
  induction n with
  | zero =>
    intro  h th x1 x2 x3 x4 H locs ls w  hl hE
    cases hE
  | succ n ih =>
    intro  h th x1 x2 x3 x4 H locs ls w  hl hE
    unfold f_M_tellFits_80 at hE
    refine lv_iload hx hb dX12_tellFits_80 (lv_at hl 4 rfl) ?_
    refine lv_bipush (v := 20) hx hb dX12_tellFits_82 (by decide) ?_
    refine w_icmp_gt (tgt := 121) C dX12_tellFits_84 (by decide) hE (fun hc e1 => ?_) (fun hc e1 => ?_)
    · exact b_M_tellFits_121 C N  hrc2   h th x1 x2 _ _ ls w  (lv_sub hl [0, 1, 2] rfl) e1
    · refine lv_iload_n hx hb dX12_tellFits_87 rfl (lv_at hl 3 rfl) ?_
      refine w_if_eq (tgt := 121) C dX12_tellFits_88 (by decide) e1 (fun hc e2 => ?_) (fun hc e2 => ?_)
      · exact b_M_tellFits_121 C N  hrc2   h th x1 x2 _ _ ls w  (lv_sub hl [0, 1, 2] rfl) e2
      · refine lv_aload_n hx hb dX12_tellFits_91 rfl (lv_at hl 0 rfl) ?_
        refine w_gR (r := some th) (ci := 0) (k := 47) C w rfl (by decide) (GF_wsX120 _) (by decide) rfl (List.mem_cons_of_mem _ gw_8_0) rfl dX12_tellFits_92 e2 (fun v1 e3 => ?_)
        refine lv_bipush (v := 41) hx hb dX12_tellFits_95 (by decide) ?_
        refine lv_iload_n hx hb dX12_tellFits_97 rfl (lv_at hl 2 rfl) ?_
        refine lv_imul hx hb dX12_tellFits_98 ?_
        refine lv_iload hx hb dX12_tellFits_99 (lv_at hl 4 rfl) ?_
        refine lv_iadd hx hb dX12_tellFits_101 ?_
        refine lv_bipush (v := 20) hx hb dX12_tellFits_102 (by decide) ?_
        refine lv_iadd hx hb dX12_tellFits_104 ?_
        refine lv_aload_n hx hb dX12_tellFits_105 rfl (lv_at hl 0 rfl) ?_
        refine w_gR (r := some th) (ci := 0) (k := 4) C w rfl (by decide) (GF_wsX120 _) (by decide) rfl (List.mem_cons_of_mem _ gw_6_23) rfl dX12_tellFits_106 e3 (fun v2 e4 => ?_)
        refine lv_iload hx hb dX12_tellFits_109 (lv_at hl 4 rfl) ?_
        obtain ⟨q3, eq3, e5⟩ := nn_some e4
        subst eq3
        refine w_SJ GW_good (n := 2) (F := 1) (Lc := 44) (av := [.ref q3, .int x4]) (rest := [.int ((((41 : Int32) * x2) + x4) + (20 : Int32)), va_rf v1]) C w (fun r g hf => k_M_valueAt l D cy z N h q3 x4 r g hf) gw_30_7 gw_30_8 gw_1_5 gw_30_9 (by decide +kernel) ⟨Nat.le_of_ble_eq_true rfl, Nat.le_of_ble_eq_true rfl⟩ rfl hl.1 rfl (cat_le (Nat.le_of_ble_eq_true rfl)) dX12_tellFits_111 (sh_M_valueAt N h q3 x4) ⟨by decide, by decide⟩ e5 (fun v4 h5 H locs w hsh5 e6 => ?_)
        refine w_uJ (r := v1) C w dX12_tellFits_114 e6 (fun h6 H locs w hsh6 e7 => ?_)
        obtain ⟨v7, ev7, e8⟩ := bn_some e7
        refine lv_iinc (v := v7) (lv' := [(4, .int v7), (0, .ref th), (1, .int x1), (2, .int x2), (3, .int x3)]) hx hb dX12_tellFits_115 hl (k := 4) rfl (by rw [ev7]; rfl) (by decide) rfl (fun ls hl => ?_)
        refine lv_goto (tgt := 80) hx hb dX12_tellFits_118 (by decide) ?_
        exact ih  h6 th x1 x2 x3 v7 _ _ ls w  (lv_sub hl [1, 2, 3, 4, 0] rfl) e8
set_option maxRecDepth 20000 in
set_option maxHeartbeats 4000000 in
theorem b_M_tellFits_69 {p : Program} {l : Launch} {e : Env} {s : State} {m : MethodId} {args : Array Value} {below : List Frame} {meth : Method} {c : Code} {D : va_G} {cy : cyT} {z : Nat} (C : MX p s m args meth c cX12_tellFits 5 (none) RX12 (Cond.code yX12_tellFits cX12_tellFits 5 (none) :: GW)) (N : Nat) {r : Unit} {g : hS} {rc2 : hS → Nat → Int32 → Int32 → Option (Unit × hS)}  (hrc2 : ∀ (h : hS) (th : Nat) (x1 : Int32) (x2 : Int32) (H : Heap) (locs : List Loc) (ls : Array Slot), wd D cy z s 0 h H locs → lv_has ls 5 [(0, .ref th), (1, .int x1), (2, .int x2)] → rc2 h th x1 x2 = some (r, g) → W p l e { frames := 7, cells := 0, slots := 0, locals := 195 } s m args below meth c H locs 0 0 (MQ below (eQ D cy z (rV r) g) args s 0 0 (fun q => z ≤ q)) (F0 m 2 ls [])) : ∀  (h : hS) (th : Nat) (x1 : Int32) (x2 : Int32) (x3 : Int32) (H : Heap) (locs : List Loc) (ls : Array Slot), wd D cy z s 0 h H locs → lv_has ls 5 [(0, .ref th), (1, .int x1), (2, .int x2), (3, .int x3)] → f_M_tellFits_69 N rc2  h th x1 x2 x3 = some (r, g) → W p l e { frames := 7, cells := 0, slots := 0, locals := 195 } s m args below meth c H locs 0 0 (MQ below (eQ D cy z (rV r) g) args s 0 0 (fun q => z ≤ q)) (F0 m 69 ls []) := by
  obtain ⟨hx, hb, hr, hml, hown, hts, hlk⟩ := id C
  intro  h th x1 x2 x3 H locs ls w  hl hE
  unfold f_M_tellFits_69 at hE
  refine lv_aload_n hx hb dX12_tellFits_69 rfl (lv_at hl 0 rfl) ?_
  refine w_gR (r := some th) (ci := 0) (k := 46) C w rfl (by decide) (GF_wsX120 _) (by decide) rfl (List.mem_cons_of_mem _ gw_7_23) rfl dX12_tellFits_70 hE (fun v1 e1 => ?_)
  refine lv_iload_n hx hb dX12_tellFits_73 rfl (lv_at hl 2 rfl) ?_
  refine lv_iload_n hx hb dX12_tellFits_74 rfl (lv_at hl 3 rfl) ?_
  refine w_uZ (r := v1) C w dX12_tellFits_75 e1 (fun h2 H locs w hsh2 e2 => ?_)
  refine lv_bipush (v := -20) hx hb dX12_tellFits_76 (by decide) ?_
  refine lv_istore (lv' := [(4, .int (-20 : Int32)), (0, .ref th), (1, .int x1), (2, .int x2), (3, .int x3)]) hx hb dX12_tellFits_78 hl (by decide) rfl (fun ls hl => ?_)
  exact b_M_tellFits_80 C N  hrc2 N  h2 th x1 x2 x3 (-20 : Int32) _ _ ls w  (lv_sub hl [1, 2, 3, 4, 0] rfl) e2
set_option maxRecDepth 20000 in
set_option maxHeartbeats 4000000 in
theorem b_M_tellFits_62 {p : Program} {l : Launch} {e : Env} {s : State} {m : MethodId} {args : Array Value} {below : List Frame} {meth : Method} {c : Code} {D : va_G} {cy : cyT} {z : Nat} (C : MX p s m args meth c cX12_tellFits 5 (none) RX12 (Cond.code yX12_tellFits cX12_tellFits 5 (none) :: GW)) (N : Nat) {r : Unit} {g : hS} {rc2 : hS → Nat → Int32 → Int32 → Option (Unit × hS)}  (hrc2 : ∀ (h : hS) (th : Nat) (x1 : Int32) (x2 : Int32) (H : Heap) (locs : List Loc) (ls : Array Slot), wd D cy z s 0 h H locs → lv_has ls 5 [(0, .ref th), (1, .int x1), (2, .int x2)] → rc2 h th x1 x2 = some (r, g) → W p l e { frames := 7, cells := 0, slots := 0, locals := 195 } s m args below meth c H locs 0 0 (MQ below (eQ D cy z (rV r) g) args s 0 0 (fun q => z ≤ q)) (F0 m 2 ls [])) {rc19 : hS → Nat → Int32 → Int32 → Int32 → Int32 → Option (Unit × hS)}  (hrc19 : ∀ (h : hS) (th : Nat) (x1 : Int32) (x2 : Int32) (x3 : Int32) (x4 : Int32) (H : Heap) (locs : List Loc) (ls : Array Slot), wd D cy z s 0 h H locs → lv_has ls 5 [(0, .ref th), (1, .int x1), (2, .int x2), (3, .int x3), (4, .int x4)] → rc19 h th x1 x2 x3 x4 = some (r, g) → W p l e { frames := 7, cells := 0, slots := 0, locals := 195 } s m args below meth c H locs 0 0 (MQ below (eQ D cy z (rV r) g) args s 0 0 (fun q => z ≤ q)) (F0 m 19 ls [])) : ∀  (h : hS) (th : Nat) (x1 : Int32) (x2 : Int32) (x4 : Int32) (y0 : Int32) (H : Heap) (locs : List Loc) (ls : Array Slot), wd D cy z s 0 h H locs → lv_has ls 5 [(0, .ref th), (1, .int x1), (2, .int x2), (4, .int x4)] → f_M_tellFits_62 N rc2 rc19  h th x1 x2 x4 y0 = some (r, g) → W p l e { frames := 7, cells := 0, slots := 0, locals := 195 } s m args below meth c H locs 0 0 (MQ below (eQ D cy z (rV r) g) args s 0 0 (fun q => z ≤ q)) (F0 m 62 ls [.int y0]) := by
  obtain ⟨hx, hb, hr, hml, hown, hts, hlk⟩ := id C
  intro  h th x1 x2 x4 y0 H locs ls w  hl hE
  unfold f_M_tellFits_62 at hE
  refine lv_istore_n (lv' := [(3, .int y0), (0, .ref th), (1, .int x1), (2, .int x2), (4, .int x4)]) hx hb dX12_tellFits_62 rfl hl (by decide) rfl (fun ls hl => ?_)
  obtain ⟨v1, ev1, e1⟩ := bn_some hE
  refine lv_iinc (v := v1) (lv' := [(4, .int v1), (3, .int y0), (0, .ref th), (1, .int x1), (2, .int x2)]) hx hb dX12_tellFits_63 hl (k := 4) rfl (by rw [ev1]; rfl) (by decide) rfl (fun ls hl => ?_)
  refine lv_goto (tgt := 19) hx hb dX12_tellFits_66 (by decide) ?_
  exact hrc19  h th x1 x2 y0 v1 _ _ ls w  (lv_sub hl [2, 3, 4, 1, 0] rfl) e1
set_option maxRecDepth 20000 in
set_option maxHeartbeats 4000000 in
theorem b_M_tellFits_19 {p : Program} {l : Launch} {e : Env} {s : State} {m : MethodId} {args : Array Value} {below : List Frame} {meth : Method} {c : Code} {D : va_G} {cy : cyT} {z : Nat} (C : MX p s m args meth c cX12_tellFits 5 (none) RX12 (Cond.code yX12_tellFits cX12_tellFits 5 (none) :: GW)) (N : Nat) {r : Unit} {g : hS} {rc2 : hS → Nat → Int32 → Int32 → Option (Unit × hS)}  (hrc2 : ∀ (h : hS) (th : Nat) (x1 : Int32) (x2 : Int32) (H : Heap) (locs : List Loc) (ls : Array Slot), wd D cy z s 0 h H locs → lv_has ls 5 [(0, .ref th), (1, .int x1), (2, .int x2)] → rc2 h th x1 x2 = some (r, g) → W p l e { frames := 7, cells := 0, slots := 0, locals := 195 } s m args below meth c H locs 0 0 (MQ below (eQ D cy z (rV r) g) args s 0 0 (fun q => z ≤ q)) (F0 m 2 ls [])) : ∀ (n : Nat) (h : hS) (th : Nat) (x1 : Int32) (x2 : Int32) (x3 : Int32) (x4 : Int32) (H : Heap) (locs : List Loc) (ls : Array Slot), wd D cy z s 0 h H locs → lv_has ls 5 [(0, .ref th), (1, .int x1), (2, .int x2), (3, .int x3), (4, .int x4)] → f_M_tellFits_19 N rc2 n h th x1 x2 x3 x4 = some (r, g) → W p l e { frames := 7, cells := 0, slots := 0, locals := 195 } s m args below meth c H locs 0 0 (MQ below (eQ D cy z (rV r) g) args s 0 0 (fun q => z ≤ q)) (F0 m 19 ls []) := by
  obtain ⟨hx, hb, hr, hml, hown, hts, hlk⟩ := id C
  intro n
  induction n with
  | zero =>
    intro  h th x1 x2 x3 x4 H locs ls w  hl hE
    cases hE
  | succ n ih =>
    intro  h th x1 x2 x3 x4 H locs ls w  hl hE
    unfold f_M_tellFits_19 at hE
    refine lv_iload hx hb dX12_tellFits_19 (lv_at hl 4 rfl) ?_
    refine lv_aload_n hx hb dX12_tellFits_21 rfl (lv_at hl 0 rfl) ?_
    refine w_gI (r := some th) (ci := 0) (k := 43) C w rfl (by decide) (GF_wsX120 _) (by decide) rfl (List.mem_cons_of_mem _ gw_32_17) rfl dX12_tellFits_22 hE (fun v1 e1 => ?_)
    refine w_icmp_ge (tgt := 69) C dX12_tellFits_25 (by decide) e1 (fun hc e2 => ?_) (fun hc e2 => ?_)
    · exact b_M_tellFits_69 C N  hrc2   h th x1 x2 x3 _ _ ls w  (lv_sub hl [0, 1, 2, 3] rfl) e2
    · refine lv_iload_n hx hb dX12_tellFits_28 rfl (lv_at hl 3 rfl) ?_
      refine w_if_eq (tgt := 69) C dX12_tellFits_29 (by decide) e2 (fun hc e3 => ?_) (fun hc e3 => ?_)
      · exact b_M_tellFits_69 C N  hrc2   h th x1 x2 x3 _ _ ls w  (lv_sub hl [0, 1, 2, 3] rfl) e3
      · refine lv_aload_n hx hb dX12_tellFits_32 rfl (lv_at hl 0 rfl) ?_
        refine w_gR (r := some th) (ci := 0) (k := 4) C w rfl (by decide) (GF_wsX120 _) (by decide) rfl (List.mem_cons_of_mem _ gw_6_23) rfl dX12_tellFits_33 e3 (fun v2 e4 => ?_)
        refine lv_aload_n hx hb dX12_tellFits_36 rfl (lv_at hl 0 rfl) ?_
        refine w_gR (r := some th) (ci := 0) (k := 44) C w rfl (by decide) (GF_wsX120 _) (by decide) rfl (List.mem_cons_of_mem _ gw_7_21) rfl dX12_tellFits_37 e4 (fun v3 e5 => ?_)
        refine lv_iload hx hb dX12_tellFits_40 (lv_at hl 4 rfl) ?_
        refine w_aI (r := v3) C w dX12_tellFits_42 e5 (fun v4 e6 => ?_)
        obtain ⟨q5, eq5, e7⟩ := nn_some e6
        subst eq5
        refine w_SJ GW_good (n := 2) (F := 1) (Lc := 44) (av := [.ref q5, .int v4]) (rest := []) C w (fun r g hf => k_M_valueAt l D cy z N h q5 v4 r g hf) gw_30_7 gw_30_8 gw_1_5 gw_30_9 (by decide +kernel) ⟨Nat.le_of_ble_eq_true rfl, Nat.le_of_ble_eq_true rfl⟩ rfl hl.1 rfl (Nat.le_of_ble_eq_true rfl) dX12_tellFits_43 (sh_M_valueAt N h q5 v4) ⟨by decide, by decide⟩ e7 (fun v6 h7 H locs w hsh7 e8 => ?_)
        refine lv_aload_n hx hb dX12_tellFits_46 rfl (lv_at hl 0 rfl) ?_
        refine w_gR (r := some th) (ci := 0) (k := 45) C w rfl (by decide) (GF_wsX120 _) (by decide) rfl (List.mem_cons_of_mem _ gw_7_22) rfl dX12_tellFits_47 e8 (fun v8 e9 => ?_)
        refine lv_iload hx hb dX12_tellFits_50 (lv_at hl 4 rfl) ?_
        refine w_aJ (r := v8) C w dX12_tellFits_52 e9 (fun v9 e10 => ?_)
        refine W.lcmp hx hb dX12_tellFits_53 ?_
        refine w_if_ne (tgt := 61) C dX12_tellFits_54 (by decide) e10 (fun hc e11 => ?_) (fun hc e11 => ?_)
        · refine lv_iconst (v := 0) hx hb dX12_tellFits_61 (by decide) ?_
          exact b_M_tellFits_62 C N  hrc2 ih   h7 th x1 x2 x4 (0 : Int32) _ _ ls w  (lv_sub hl [0, 1, 2, 4] rfl) e11
        · refine lv_iconst (v := 1) hx hb dX12_tellFits_57 (by decide) ?_
          refine lv_goto (tgt := 62) hx hb dX12_tellFits_58 (by decide) ?_
          exact b_M_tellFits_62 C N  hrc2 ih   h7 th x1 x2 x4 (1 : Int32) _ _ ls w  (lv_sub hl [0, 1, 2, 4] rfl) e11
set_option maxRecDepth 20000 in
set_option maxHeartbeats 4000000 in
theorem b_M_tellFits_2 {p : Program} {l : Launch} {e : Env} {s : State} {m : MethodId} {args : Array Value} {below : List Frame} {meth : Method} {c : Code} {D : va_G} {cy : cyT} {z : Nat} (C : MX p s m args meth c cX12_tellFits 5 (none) RX12 (Cond.code yX12_tellFits cX12_tellFits 5 (none) :: GW)) (N : Nat) {r : Unit} {g : hS}  : ∀ (n : Nat) (h : hS) (th : Nat) (x1 : Int32) (x2 : Int32) (H : Heap) (locs : List Loc) (ls : Array Slot), wd D cy z s 0 h H locs → lv_has ls 5 [(0, .ref th), (1, .int x1), (2, .int x2)] → f_M_tellFits_2 N  n h th x1 x2 = some (r, g) → W p l e { frames := 7, cells := 0, slots := 0, locals := 195 } s m args below meth c H locs 0 0 (MQ below (eQ D cy z (rV r) g) args s 0 0 (fun q => z ≤ q)) (F0 m 2 ls []) := by
  obtain ⟨hx, hb, hr, hml, hown, hts, hlk⟩ := id C
  intro n
  induction n with
  | zero =>
    intro  h th x1 x2 H locs ls w  hl hE
    cases hE
  | succ n ih =>
    intro  h th x1 x2 H locs ls w  hl hE
    unfold f_M_tellFits_2 at hE
    refine lv_iload_n hx hb dX12_tellFits_2 rfl (lv_at hl 2 rfl) ?_
    refine lv_bipush (v := 40) hx hb dX12_tellFits_3 (by decide) ?_
    refine w_icmp_gt (tgt := 127) C dX12_tellFits_5 (by decide) hE (fun hc e1 => ?_) (fun hc e1 => ?_)
    · exact w_vret C w e1 dX12_tellFits_127
    · refine lv_aload_n hx hb dX12_tellFits_8 rfl (lv_at hl 0 rfl) ?_
      refine lv_iconst (v := 0) hx hb dX12_tellFits_9 (by decide) ?_
      refine lv_iload_n hx hb dX12_tellFits_10 rfl (lv_at hl 1 rfl) ?_
      refine lv_iload_n hx hb dX12_tellFits_11 rfl (lv_at hl 2 rfl) ?_
      refine w_VI GW_good (n := 3) (F := 6) (Lc := 171) (o := some th) (av := [.int (0 : Int32), .int x1, .int x2]) (rest := []) C w rfl (by decide) (fun a r g hf => k_M_runsWith l D cy z N h a (0 : Int32) x1 x2 r g hf) gw_50_22 gw_50_23 gw_51_0 gw_1_5 gw_51_1 (by decide +kernel) ⟨Nat.le_of_ble_eq_true rfl, Nat.le_of_ble_eq_true rfl⟩ rfl hl.1 rfl (Nat.le_of_ble_eq_true rfl) dX12_tellFits_12 (fun a => (sh_M_runsWith N h a (0 : Int32) x1 x2)) ⟨by decide, by decide⟩ e1 (fun v1 h2 H locs w hsh2 e2 => ?_)
      refine lv_istore_n (lv' := [(3, .int v1), (0, .ref th), (1, .int x1), (2, .int x2)]) hx hb dX12_tellFits_15 rfl hl (by decide) rfl (fun ls hl => ?_)
      refine lv_iconst (v := 0) hx hb dX12_tellFits_16 (by decide) ?_
      refine lv_istore (lv' := [(4, .int (0 : Int32)), (3, .int v1), (0, .ref th), (1, .int x1), (2, .int x2)]) hx hb dX12_tellFits_17 hl (by decide) rfl (fun ls hl => ?_)
      exact b_M_tellFits_19 C N  ih N  h2 th x1 x2 v1 (0 : Int32) _ _ ls w  (lv_sub hl [2, 3, 4, 1, 0] rfl) e2
set_option maxRecDepth 20000 in
set_option maxHeartbeats 4000000 in
theorem k_M_tellFits (l : Launch) (D : va_G) (cy : cyT) (z : Nat) (N : Nat) (h : hS) (th : Nat) (x1 : Int32) (r : Unit) (g : hS) (hE : f_M_tellFits N h th x1 = some (r, g)) : ct l yX12_tellFits (Cond.code yX12_tellFits cX12_tellFits 5 (none) :: GW) { frames := 7, cells := 0, slots := 0, locals := 195 } D cy z h [.ref th, .int x1] (rV r) g := by
  refine Met.ofW (cc := cX12_tellFits) (maxL := 5) (ret := none) (by decide) rfl ?_
  intro p e s m args below meth c s₁ B hml hv
  obtain ⟨rfl, hw⟩ := hv
  have C : MX p s m ([.ref th, .int x1] : List Value).toArray meth c cX12_tellFits 5 (none) RX12 (Cond.code yX12_tellFits cX12_tellFits 5 (none) :: GW) := ⟨B.exec, B.bytes, B.returns, hml, findClass_of_methodNamed B.named, atoms_spec (ws := Cond.code yX12_tellFits cX12_tellFits 5 (none) :: GW) B.pre, B.notSynchronized⟩
  obtain ⟨hx, hb, hr, hml, hown, hts, hlk⟩ := id C
  have w := wd_of hw
  obtain ⟨ls, hen, hl⟩ : ∃ ls : Array Slot, entryFrame m ([.ref th, .int x1] : List Value).toArray 5 = F0 m 0 ls [] ∧ lv_has ls 5 [(0, .ref th), (1, .int x1)] := by
    exact ⟨_, lg_entry_eq _ _ _, lv_entry _ (Nat.le_of_ble_eq_true rfl)⟩
  rw [hen]
  unfold f_M_tellFits at hE
  refine lv_iconst (v := 0) hx hb dX12_tellFits_0 (by decide) ?_
  refine lv_istore_n (lv' := [(2, .int (0 : Int32)), (0, .ref th), (1, .int x1)]) hx hb dX12_tellFits_1 rfl hl (by decide) rfl (fun ls hl => ?_)
  exact b_M_tellFits_2 C N   N  h th x1 (0 : Int32) _ _ ls w  (lv_sub hl [1, 2, 0] rfl) hE
set_option maxRecDepth 20000 in
set_option maxHeartbeats 4000000 in
theorem b_M_fits_24 {p : Program} {l : Launch} {e : Env} {s : State} {m : MethodId} {args : Array Value} {below : List Frame} {meth : Method} {c : Code} {D : va_G} {cy : cyT} {z : Nat} (C : MX p s m args meth c cX12_fits 6 ((some .int)) RX12 (Cond.code yX12_fits cX12_fits 6 ((some .int)) :: GW)) (N : Nat) {r : Int32} {g : hS}  : ∀  (h : hS) (th : Nat) (H : Heap) (locs : List Loc) (ls : Array Slot), wd D cy z s 0 h H locs → lv_has ls 6 [(0, .ref th)] → f_M_fits_24 N   h th = some (r, g) → W p l e { frames := 8, cells := 0, slots := 0, locals := 219 } s m args below meth c H locs 0 0 (MQ below (eQ D cy z (rI r) g) args s 0 0 (fun q => z ≤ q)) (F0 m 24 ls []) := by
  obtain ⟨hx, hb, hr, hml, hown, hts, hlk⟩ := id C
  intro  h th H locs ls w  hl hE
  unfold f_M_fits_24 at hE
  refine lv_aload_n hx hb dX12_fits_24 rfl (lv_at hl 0 rfl) ?_
  refine lv_iconst (v := 1) hx hb dX12_fits_25 (by decide) ?_
  refine w_VI GW_good (n := 1) (F := 0) (Lc := 0) (o := some th) (av := [.int (1 : Int32)]) (rest := []) C w rfl (by decide) (fun a r g hf => k_M_fail l D cy z N h a (1 : Int32) r g hf) gw_25_4 gw_25_5 gw_25_6 gw_1_5 gw_25_7 (by decide +kernel) ⟨Nat.le_of_ble_eq_true rfl, Nat.le_of_ble_eq_true rfl⟩ rfl hl.1 rfl (Nat.le_of_ble_eq_true rfl) dX12_fits_26 (fun a => (sh_M_fail N h a (1 : Int32))) ⟨by decide, by decide⟩ hE (fun v1 h2 H locs w hsh2 e1 => ?_)
  exact w_iret C w e1 dX12_fits_29
set_option maxRecDepth 20000 in
set_option maxHeartbeats 4000000 in
theorem b_M_fits_85 {p : Program} {l : Launch} {e : Env} {s : State} {m : MethodId} {args : Array Value} {below : List Frame} {meth : Method} {c : Code} {D : va_G} {cy : cyT} {z : Nat} (C : MX p s m args meth c cX12_fits 6 ((some .int)) RX12 (Cond.code yX12_fits cX12_fits 6 ((some .int)) :: GW)) (N : Nat) {r : Int32} {g : hS}  : ∀  (h : hS) (y0 : Int32) (H : Heap) (locs : List Loc) (ls : Array Slot), wd D cy z s 0 h H locs → lv_has ls 6 [] → f_M_fits_85 N   h y0 = some (r, g) → W p l e { frames := 8, cells := 0, slots := 0, locals := 219 } s m args below meth c H locs 0 0 (MQ below (eQ D cy z (rI r) g) args s 0 0 (fun q => z ≤ q)) (F0 m 85 ls [.int y0]) := by
  obtain ⟨hx, hb, hr, hml, hown, hts, hlk⟩ := id C
  intro  h y0 H locs ls w  hl hE
  unfold f_M_fits_85 at hE
  exact w_iret C w hE dX12_fits_85
set_option maxRecDepth 20000 in
set_option maxHeartbeats 4000000 in
theorem b_M_fits_69 {p : Program} {l : Launch} {e : Env} {s : State} {m : MethodId} {args : Array Value} {below : List Frame} {meth : Method} {c : Code} {D : va_G} {cy : cyT} {z : Nat} (C : MX p s m args meth c cX12_fits 6 ((some .int)) RX12 (Cond.code yX12_fits cX12_fits 6 ((some .int)) :: GW)) (N : Nat) {r : Int32} {g : hS} {rc44 : hS → Nat → Int32 → Int32 → Int32 → Int32 → Option (Int32 × hS)}  (hrc44 : ∀ (h : hS) (th : Nat) (x2 : Int32) (x3 : Int32) (x4 : Int32) (x5 : Int32) (H : Heap) (locs : List Loc) (ls : Array Slot), wd D cy z s 0 h H locs → lv_has ls 6 [(0, .ref th), (2, .int x2), (3, .int x3), (4, .int x4), (5, .int x5)] → rc44 h th x2 x3 x4 x5 = some (r, g) → W p l e { frames := 8, cells := 0, slots := 0, locals := 219 } s m args below meth c H locs 0 0 (MQ below (eQ D cy z (rI r) g) args s 0 0 (fun q => z ≤ q)) (F0 m 44 ls [])) : ∀  (h : hS) (th : Nat) (x2 : Int32) (x3 : Int32) (x4 : Int32) (x5 : Int32) (H : Heap) (locs : List Loc) (ls : Array Slot), wd D cy z s 0 h H locs → lv_has ls 6 [(0, .ref th), (2, .int x2), (3, .int x3), (4, .int x4), (5, .int x5)] → f_M_fits_69 N rc44  h th x2 x3 x4 x5 = some (r, g) → W p l e { frames := 8, cells := 0, slots := 0, locals := 219 } s m args below meth c H locs 0 0 (MQ below (eQ D cy z (rI r) g) args s 0 0 (fun q => z ≤ q)) (F0 m 69 ls []) := by
  obtain ⟨hx, hb, hr, hml, hown, hts, hlk⟩ := id C
  intro  h th x2 x3 x4 x5 H locs ls w  hl hE
  unfold f_M_fits_69 at hE
  obtain ⟨v1, ev1, e1⟩ := bn_some hE
  refine lv_iinc (v := v1) (lv' := [(5, .int v1), (0, .ref th), (2, .int x2), (3, .int x3), (4, .int x4)]) hx hb dX12_fits_69 hl (k := 4) rfl (by rw [ev1]; rfl) (by decide) rfl (fun ls hl => ?_)
  refine lv_goto (tgt := 44) hx hb dX12_fits_72 (by decide) ?_
  exact hrc44  h th x2 x3 x4 v1 _ _ ls w  (lv_sub hl [1, 2, 3, 4, 0] rfl) e1
set_option maxRecDepth 20000 in
set_option maxHeartbeats 4000000 in
theorem b_M_fits_44 {p : Program} {l : Launch} {e : Env} {s : State} {m : MethodId} {args : Array Value} {below : List Frame} {meth : Method} {c : Code} {D : va_G} {cy : cyT} {z : Nat} (C : MX p s m args meth c cX12_fits 6 ((some .int)) RX12 (Cond.code yX12_fits cX12_fits 6 ((some .int)) :: GW)) (N : Nat) {r : Int32} {g : hS}  : ∀ (n : Nat) (h : hS) (th : Nat) (x2 : Int32) (x3 : Int32) (x4 : Int32) (x5 : Int32) (H : Heap) (locs : List Loc) (ls : Array Slot), wd D cy z s 0 h H locs → lv_has ls 6 [(0, .ref th), (2, .int x2), (3, .int x3), (4, .int x4), (5, .int x5)] → f_M_fits_44 N  n h th x2 x3 x4 x5 = some (r, g) → W p l e { frames := 8, cells := 0, slots := 0, locals := 219 } s m args below meth c H locs 0 0 (MQ below (eQ D cy z (rI r) g) args s 0 0 (fun q => z ≤ q)) (F0 m 44 ls []) := by
  obtain ⟨hx, hb, hr, hml, hown, hts, hlk⟩ := id C
  intro n
  induction n with
  | zero =>
    intro  h th x2 x3 x4 x5 H locs ls w  hl hE
    cases hE
  | succ n ih =>
    intro  h th x2 x3 x4 x5 H locs ls w  hl hE
    unfold f_M_fits_44 at hE
    refine lv_iload hx hb dX12_fits_44 (lv_at hl 4 rfl) ?_
    refine w_if_lt (tgt := 75) C dX12_fits_46 (by decide) hE (fun hc e1 => ?_) (fun hc e1 => ?_)
    · refine lv_iload_n hx hb dX12_fits_75 rfl (lv_at hl 1 rfl) ?_
      refine w_if_ne (tgt := 83) C dX12_fits_76 (by decide) e1 (fun hc e2 => ?_) (fun hc e2 => ?_)
      · refine lv_iload hx hb dX12_fits_83 (lv_at hl 3 rfl) ?_
        exact b_M_fits_85 C N     h x4 _ _ ls w  (lv_sub hl [] rfl) e2
      · refine lv_iload_n hx hb dX12_fits_79 rfl (lv_at hl 2 rfl) ?_
        refine lv_goto (tgt := 85) hx hb dX12_fits_80 (by decide) ?_
        exact b_M_fits_85 C N     h x3 _ _ ls w  (lv_sub hl [] rfl) e2
    · refine lv_aload_n hx hb dX12_fits_49 rfl (lv_at hl 0 rfl) ?_
      refine w_gR (r := some th) (ci := 0) (k := 46) C w rfl (by decide) (GF_wsX120 _) (by decide) rfl (List.mem_cons_of_mem _ gw_7_23) rfl dX12_fits_50 e1 (fun v1 e3 => ?_)
      refine lv_iload hx hb dX12_fits_53 (lv_at hl 4 rfl) ?_
      refine w_aZ (r := v1) C w dX12_fits_55 e3 (fun v2 e4 => ?_)
      refine w_if_ne (tgt := 62) C dX12_fits_56 (by decide) e4 (fun hc e5 => ?_) (fun hc e5 => ?_)
      · obtain ⟨v3, ev3, e6⟩ := bn_some e5
        refine lv_iinc (v := v3) (lv' := [(3, .int v3), (0, .ref th), (2, .int x2), (4, .int x4), (5, .int x5)]) hx hb dX12_fits_62 hl (k := 2) rfl (by rw [ev3]; rfl) (by decide) rfl (fun ls hl => ?_)
        refine lv_iload hx hb dX12_fits_65 (lv_at hl 4 rfl) ?_
        refine lv_istore (lv' := [(4, .int x5), (3, .int v3), (0, .ref th), (2, .int x2), (5, .int x5)]) hx hb dX12_fits_67 hl (by decide) rfl (fun ls hl => ?_)
        exact b_M_fits_69 C N  ih   h th x2 v3 x5 x5 _ _ ls w  (lv_sub hl [2, 3, 1, 0, 4] rfl) e6
      · refine lv_goto (tgt := 69) hx hb dX12_fits_59 (by decide) ?_
        exact b_M_fits_69 C N  ih   h th x2 x3 x4 x5 _ _ ls w  (lv_sub hl [0, 1, 2, 3, 4] rfl) e5
set_option maxRecDepth 20000 in
set_option maxHeartbeats 4000000 in
theorem k_M_fits (l : Launch) (D : va_G) (cy : cyT) (z : Nat) (N : Nat) (h : hS) (th : Nat) (x1 : Int32) (x2 : Int32) (r : Int32) (g : hS) (hE : f_M_fits N h th x1 x2 = some (r, g)) : ct l yX12_fits (Cond.code yX12_fits cX12_fits 6 ((some .int)) :: GW) { frames := 8, cells := 0, slots := 0, locals := 219 } D cy z h [.ref th, .int x1, .int x2] (rI r) g := by
  refine Met.ofW (cc := cX12_fits) (maxL := 6) (ret := (some .int)) (by decide) rfl ?_
  intro p e s m args below meth c s₁ B hml hv
  obtain ⟨rfl, hw⟩ := hv
  have C : MX p s m ([.ref th, .int x1, .int x2] : List Value).toArray meth c cX12_fits 6 ((some .int)) RX12 (Cond.code yX12_fits cX12_fits 6 ((some .int)) :: GW) := ⟨B.exec, B.bytes, B.returns, hml, findClass_of_methodNamed B.named, atoms_spec (ws := Cond.code yX12_fits cX12_fits 6 ((some .int)) :: GW) B.pre, B.notSynchronized⟩
  obtain ⟨hx, hb, hr, hml, hown, hts, hlk⟩ := id C
  have w := wd_of hw
  obtain ⟨ls, hen, hl⟩ : ∃ ls : Array Slot, entryFrame m ([.ref th, .int x1, .int x2] : List Value).toArray 6 = F0 m 0 ls [] ∧ lv_has ls 6 [(0, .ref th), (1, .int x1), (2, .int x2)] := by
    exact ⟨_, lg_entry_eq _ _ _, lv_entry _ (Nat.le_of_ble_eq_true rfl)⟩
  rw [hen]
  unfold f_M_fits at hE
  refine lv_aload_n hx hb dX12_fits_0 rfl (lv_at hl 0 rfl) ?_
  refine lv_iconst (v := 0) hx hb dX12_fits_1 (by decide) ?_
  refine w_pI (r := some th) (ci := 0) (k := 1) C w rfl (by decide) (by unfold roK; omega) (GF_wsX120 _) tyX12 tyX12_ok nmX12 (by decide) rfl (List.mem_cons_of_mem _ gw_8_18) rfl rfl (tyX12_ok 1 (by decide)) dX12_fits_2 hE (fun h1 H locs w hsh1 e1 => ?_)
  refine lv_aload_n hx hb dX12_fits_5 rfl (lv_at hl 0 rfl) ?_
  refine lv_iconst (v := 0) hx hb dX12_fits_6 (by decide) ?_
  refine lv_iload_n hx hb dX12_fits_7 rfl (lv_at hl 1 rfl) ?_
  refine w_VI GW_good (n := 2) (F := 3) (Lc := 68) (o := some th) (av := [.int (0 : Int32), .int x1]) (rest := []) C w rfl (by decide) (fun a r g hf => k_M_isWeighed l D cy z N h1 a (0 : Int32) x1 r g hf) gw_50_18 gw_50_19 gw_50_20 gw_1_5 gw_50_21 (by decide +kernel) ⟨Nat.le_of_ble_eq_true rfl, Nat.le_of_ble_eq_true rfl⟩ rfl hl.1 rfl (Nat.le_of_ble_eq_true rfl) dX12_fits_8 (fun a => (sh_M_isWeighed N h1 a (0 : Int32) x1)) ⟨by decide, by decide⟩ e1 (fun v2 h3 H locs w hsh3 e2 => ?_)
  refine w_if_eq (tgt := 24) C dX12_fits_11 (by decide) e2 (fun hc e3 => ?_) (fun hc e3 => ?_)
  · exact b_M_fits_24 C N     h3 th _ _ ls w  (lv_sub hl [0] rfl) e3
  · refine lv_iload_n hx hb dX12_fits_14 rfl (lv_at hl 2 rfl) ?_
    refine lv_i2l hx hb dX12_fits_15 rfl ?_
    refine lv_lconst (v := 0) hx hb dX12_fits_16 (by decide) ?_
    refine lv_lconst (v := 1) hx hb dX12_fits_17 (by decide) ?_
    refine w_SI GW_good (n := 3) (F := 0) (Lc := 0) (av := [.long x2.toInt64, .long (0 : Int64), .long (1 : Int64)]) (rest := []) C w (fun r g hf => k_M_isIn l D cy z N h3 x2.toInt64 (0 : Int64) (1 : Int64) r g hf) gw_25_1 gw_25_2 gw_1_5 gw_25_3 (by decide +kernel) ⟨Nat.le_of_ble_eq_true rfl, Nat.le_of_ble_eq_true rfl⟩ rfl hl.1 rfl (Nat.le_of_ble_eq_true rfl) dX12_fits_18 (sh_M_isIn N h3 x2.toInt64 (0 : Int64) (1 : Int64)) ⟨by decide, by decide⟩ e3 (fun v4 h5 H locs w hsh5 e4 => ?_)
    refine w_if_ne (tgt := 30) C dX12_fits_21 (by decide) e4 (fun hc e5 => ?_) (fun hc e5 => ?_)
    · refine lv_aload_n hx hb dX12_fits_30 rfl (lv_at hl 0 rfl) ?_
      refine lv_iload_n hx hb dX12_fits_31 rfl (lv_at hl 1 rfl) ?_
      refine w_VV GW_good (n := 1) (F := 7) (Lc := 195) (o := some th) (av := [.int x1]) (rest := []) C w rfl (by decide) (fun a r g hf => k_M_tellFits l D cy z N h5 a x1 r g hf) gw_61_16 gw_61_17 gw_61_18 gw_1_5 gw_61_19 (by decide +kernel) ⟨Nat.le_of_ble_eq_true rfl, Nat.le_of_ble_eq_true rfl⟩ rfl hl.1 rfl (Nat.le_of_ble_eq_true rfl) dX12_fits_32 (fun a => (sh_M_tellFits N h5 a x1)) ⟨by decide, by decide⟩ e5 (fun v6 h7 H locs w hsh7 e6 => ?_)
      refine lv_iconst (v := 0) hx hb dX12_fits_35 (by decide) ?_
      refine lv_istore_n (lv' := [(3, .int (0 : Int32)), (0, .ref th), (1, .int x1), (2, .int x2)]) hx hb dX12_fits_36 rfl hl (by decide) rfl (fun ls hl => ?_)
      refine lv_iconst (v := -1) hx hb dX12_fits_37 (by decide) ?_
      refine lv_istore (lv' := [(4, .int (-1 : Int32)), (3, .int (0 : Int32)), (0, .ref th), (1, .int x1), (2, .int x2)]) hx hb dX12_fits_38 hl (by decide) rfl (fun ls hl => ?_)
      refine lv_bipush (v := 40) hx hb dX12_fits_40 (by decide) ?_
      refine lv_istore (lv' := [(5, .int (40 : Int32)), (4, .int (-1 : Int32)), (3, .int (0 : Int32)), (0, .ref th), (1, .int x1), (2, .int x2)]) hx hb dX12_fits_42 hl (by decide) rfl (fun ls hl => ?_)
      exact b_M_fits_44 C N   N  h7 th x2 (0 : Int32) (-1 : Int32) (40 : Int32) _ _ ls w  (lv_sub hl [3, 5, 2, 1, 0] rfl) e6
    · exact b_M_fits_24 C N     h5 th _ _ ls w  (lv_sub hl [0] rfl) e5
set_option maxRecDepth 20000 in
set_option maxHeartbeats 4000000 in
theorem b_M_look_24 {p : Program} {l : Launch} {e : Env} {s : State} {m : MethodId} {args : Array Value} {below : List Frame} {meth : Method} {c : Code} {D : va_G} {cy : cyT} {z : Nat} (C : MX p s m args meth c cX12_look 7 ((some .int)) RX12 (Cond.code yX12_look cX12_look 7 ((some .int)) :: GW)) (N : Nat) {r : Int32} {g : hS}  : ∀  (h : hS) (th : Nat) (H : Heap) (locs : List Loc) (ls : Array Slot), wd D cy z s 0 h H locs → lv_has ls 7 [(0, .ref th)] → f_M_look_24 N   h th = some (r, g) → W p l e { frames := 8, cells := 0, slots := 0, locals := 219 } s m args below meth c H locs 0 0 (MQ below (eQ D cy z (rI r) g) args s 0 0 (fun q => z ≤ q)) (F0 m 24 ls []) := by
  obtain ⟨hx, hb, hr, hml, hown, hts, hlk⟩ := id C
  intro  h th H locs ls w  hl hE
  unfold f_M_look_24 at hE
  refine lv_aload_n hx hb dX12_look_24 rfl (lv_at hl 0 rfl) ?_
  refine lv_iconst (v := 1) hx hb dX12_look_25 (by decide) ?_
  refine w_VI GW_good (n := 1) (F := 0) (Lc := 0) (o := some th) (av := [.int (1 : Int32)]) (rest := []) C w rfl (by decide) (fun a r g hf => k_M_fail l D cy z N h a (1 : Int32) r g hf) gw_25_4 gw_25_5 gw_25_6 gw_1_5 gw_25_7 (by decide +kernel) ⟨Nat.le_of_ble_eq_true rfl, Nat.le_of_ble_eq_true rfl⟩ rfl hl.1 rfl (Nat.le_of_ble_eq_true rfl) dX12_look_26 (fun a => (sh_M_fail N h a (1 : Int32))) ⟨by decide, by decide⟩ hE (fun v1 h2 H locs w hsh2 e1 => ?_)
  exact w_iret C w e1 dX12_look_29
set_option maxRecDepth 20000 in
set_option maxHeartbeats 4000000 in
theorem b_M_look_94 {p : Program} {l : Launch} {e : Env} {s : State} {m : MethodId} {args : Array Value} {below : List Frame} {meth : Method} {c : Code} {D : va_G} {cy : cyT} {z : Nat} (C : MX p s m args meth c cX12_look 7 ((some .int)) RX12 (Cond.code yX12_look cX12_look 7 ((some .int)) :: GW)) (N : Nat) {r : Int32} {g : hS}  : ∀  (h : hS) (y0 : Int32) (H : Heap) (locs : List Loc) (ls : Array Slot), wd D cy z s 0 h H locs → lv_has ls 7 [] → f_M_look_94 N   h y0 = some (r, g) → W p l e { frames := 8, cells := 0, slots := 0, locals := 219 } s m args below meth c H locs 0 0 (MQ below (eQ D cy z (rI r) g) args s 0 0 (fun q => z ≤ q)) (F0 m 94 ls [.int y0]) := by
  obtain ⟨hx, hb, hr, hml, hown, hts, hlk⟩ := id C
  intro  h y0 H locs ls w  hl hE
  unfold f_M_look_94 at hE
  exact w_iret C w hE dX12_look_94
set_option maxRecDepth 20000 in
set_option maxHeartbeats 4000000 in
theorem b_M_look_78 {p : Program} {l : Launch} {e : Env} {s : State} {m : MethodId} {args : Array Value} {below : List Frame} {meth : Method} {c : Code} {D : va_G} {cy : cyT} {z : Nat} (C : MX p s m args meth c cX12_look 7 ((some .int)) RX12 (Cond.code yX12_look cX12_look 7 ((some .int)) :: GW)) (N : Nat) {r : Int32} {g : hS} {rc46 : hS → Nat → Int32 → Int32 → Int32 → Int32 → Option (Int32 × hS)}  (hrc46 : ∀ (h : hS) (th : Nat) (x2 : Int32) (x3 : Int32) (x4 : Int32) (x5 : Int32) (H : Heap) (locs : List Loc) (ls : Array Slot), wd D cy z s 0 h H locs → lv_has ls 7 [(0, .ref th), (2, .int x2), (3, .int x3), (4, .int x4), (5, .int x5)] → rc46 h th x2 x3 x4 x5 = some (r, g) → W p l e { frames := 8, cells := 0, slots := 0, locals := 219 } s m args below meth c H locs 0 0 (MQ below (eQ D cy z (rI r) g) args s 0 0 (fun q => z ≤ q)) (F0 m 46 ls [])) : ∀  (h : hS) (th : Nat) (x2 : Int32) (x3 : Int32) (x4 : Int32) (x5 : Int32) (H : Heap) (locs : List Loc) (ls : Array Slot), wd D cy z s 0 h H locs → lv_has ls 7 [(0, .ref th), (2, .int x2), (3, .int x3), (4, .int x4), (5, .int x5)] → f_M_look_78 N rc46  h th x2 x3 x4 x5 = some (r, g) → W p l e { frames := 8, cells := 0, slots := 0, locals := 219 } s m args below meth c H locs 0 0 (MQ below (eQ D cy z (rI r) g) args s 0 0 (fun q => z ≤ q)) (F0 m 78 ls []) := by
  obtain ⟨hx, hb, hr, hml, hown, hts, hlk⟩ := id C
  intro  h th x2 x3 x4 x5 H locs ls w  hl hE
  unfold f_M_look_78 at hE
  obtain ⟨v1, ev1, e1⟩ := bn_some hE
  refine lv_iinc (v := v1) (lv' := [(5, .int v1), (0, .ref th), (2, .int x2), (3, .int x3), (4, .int x4)]) hx hb dX12_look_78 hl (k := 4) rfl (by rw [ev1]; rfl) (by decide) rfl (fun ls hl => ?_)
  refine lv_goto (tgt := 46) hx hb dX12_look_81 (by decide) ?_
  exact hrc46  h th x2 x3 x4 v1 _ _ ls w  (lv_sub hl [1, 2, 3, 4, 0] rfl) e1
set_option maxRecDepth 20000 in
set_option maxHeartbeats 4000000 in
theorem b_M_look_46 {p : Program} {l : Launch} {e : Env} {s : State} {m : MethodId} {args : Array Value} {below : List Frame} {meth : Method} {c : Code} {D : va_G} {cy : cyT} {z : Nat} (C : MX p s m args meth c cX12_look 7 ((some .int)) RX12 (Cond.code yX12_look cX12_look 7 ((some .int)) :: GW)) (N : Nat) {r : Int32} {g : hS}  : ∀ (n : Nat) (h : hS) (th : Nat) (x2 : Int32) (x3 : Int32) (x4 : Int32) (x5 : Int32) (H : Heap) (locs : List Loc) (ls : Array Slot), wd D cy z s 0 h H locs → lv_has ls 7 [(0, .ref th), (2, .int x2), (3, .int x3), (4, .int x4), (5, .int x5)] → f_M_look_46 N  n h th x2 x3 x4 x5 = some (r, g) → W p l e { frames := 8, cells := 0, slots := 0, locals := 219 } s m args below meth c H locs 0 0 (MQ below (eQ D cy z (rI r) g) args s 0 0 (fun q => z ≤ q)) (F0 m 46 ls []) := by
  obtain ⟨hx, hb, hr, hml, hown, hts, hlk⟩ := id C
  intro n
  induction n with
  | zero =>
    intro  h th x2 x3 x4 x5 H locs ls w  hl hE
    cases hE
  | succ n ih =>
    intro  h th x2 x3 x4 x5 H locs ls w  hl hE
    unfold f_M_look_46 at hE
    refine lv_iload hx hb dX12_look_46 (lv_at hl 4 rfl) ?_
    refine lv_bipush (v := 20) hx hb dX12_look_48 (by decide) ?_
    refine w_icmp_gt (tgt := 84) C dX12_look_50 (by decide) hE (fun hc e1 => ?_) (fun hc e1 => ?_)
    · refine lv_iload_n hx hb dX12_look_84 rfl (lv_at hl 1 rfl) ?_
      refine w_if_ne (tgt := 92) C dX12_look_85 (by decide) e1 (fun hc e2 => ?_) (fun hc e2 => ?_)
      · refine lv_iload hx hb dX12_look_92 (lv_at hl 3 rfl) ?_
        exact b_M_look_94 C N     h x4 _ _ ls w  (lv_sub hl [] rfl) e2
      · refine lv_iload_n hx hb dX12_look_88 rfl (lv_at hl 2 rfl) ?_
        refine lv_goto (tgt := 94) hx hb dX12_look_89 (by decide) ?_
        exact b_M_look_94 C N     h x3 _ _ ls w  (lv_sub hl [] rfl) e2
    · refine lv_aload_n hx hb dX12_look_53 rfl (lv_at hl 0 rfl) ?_
      refine lv_iload hx hb dX12_look_54 (lv_at hl 4 rfl) ?_
      refine w_VI GW_good (n := 1) (F := 0) (Lc := 0) (o := some th) (av := [.int x5]) (rest := []) C w rfl (by decide) (fun a r g hf => k_M_unlike l D cy z N h a x5 r g hf) gw_62_14 gw_62_15 gw_62_16 gw_1_5 gw_62_17 (by decide +kernel) ⟨Nat.le_of_ble_eq_true rfl, Nat.le_of_ble_eq_true rfl⟩ rfl hl.1 rfl (Nat.le_of_ble_eq_true rfl) dX12_look_56 (fun a => (sh_M_unlike N h a x5)) ⟨by decide, by decide⟩ e1 (fun v1 h2 H locs w hsh2 e3 => ?_)
      refine lv_istore (lv' := [(6, .int v1), (0, .ref th), (2, .int x2), (3, .int x3), (4, .int x4), (5, .int x5)]) hx hb dX12_look_59 hl (by decide) rfl (fun ls hl => ?_)
      refine lv_iload hx hb dX12_look_61 (lv_at hl 0 rfl) ?_
      refine lv_iload hx hb dX12_look_63 (lv_at hl 4 rfl) ?_
      refine w_icmp_gt (tgt := 71) C dX12_look_65 (by decide) e3 (fun hc e4 => ?_) (fun hc e4 => ?_)
      · refine lv_iload hx hb dX12_look_71 (lv_at hl 5 rfl) ?_
        refine lv_istore_n (lv' := [(3, .int x5), (6, .int v1), (0, .ref th), (2, .int x2), (4, .int x4), (5, .int x5)]) hx hb dX12_look_73 rfl hl (by decide) rfl (fun ls hl => ?_)
        refine lv_iload hx hb dX12_look_74 (lv_at hl 1 rfl) ?_
        refine lv_istore (lv' := [(4, .int v1), (3, .int x5), (6, .int v1), (0, .ref th), (2, .int x2), (5, .int x5)]) hx hb dX12_look_76 hl (by decide) rfl (fun ls hl => ?_)
        exact b_M_look_78 C N  ih   h2 th x2 x5 v1 x5 _ _ ls w  (lv_sub hl [3, 4, 1, 0, 5] rfl) e4
      · refine lv_goto (tgt := 78) hx hb dX12_look_68 (by decide) ?_
        exact b_M_look_78 C N  ih   h2 th x2 x3 x4 x5 _ _ ls w  (lv_sub hl [1, 2, 3, 4, 5] rfl) e4
set_option maxRecDepth 20000 in
set_option maxHeartbeats 4000000 in
theorem k_M_look (l : Launch) (D : va_G) (cy : cyT) (z : Nat) (N : Nat) (h : hS) (th : Nat) (x1 : Int32) (x2 : Int32) (r : Int32) (g : hS) (hE : f_M_look N h th x1 x2 = some (r, g)) : ct l yX12_look (Cond.code yX12_look cX12_look 7 ((some .int)) :: GW) { frames := 8, cells := 0, slots := 0, locals := 219 } D cy z h [.ref th, .int x1, .int x2] (rI r) g := by
  refine Met.ofW (cc := cX12_look) (maxL := 7) (ret := (some .int)) (by decide) rfl ?_
  intro p e s m args below meth c s₁ B hml hv
  obtain ⟨rfl, hw⟩ := hv
  have C : MX p s m ([.ref th, .int x1, .int x2] : List Value).toArray meth c cX12_look 7 ((some .int)) RX12 (Cond.code yX12_look cX12_look 7 ((some .int)) :: GW) := ⟨B.exec, B.bytes, B.returns, hml, findClass_of_methodNamed B.named, atoms_spec (ws := Cond.code yX12_look cX12_look 7 ((some .int)) :: GW) B.pre, B.notSynchronized⟩
  obtain ⟨hx, hb, hr, hml, hown, hts, hlk⟩ := id C
  have w := wd_of hw
  obtain ⟨ls, hen, hl⟩ : ∃ ls : Array Slot, entryFrame m ([.ref th, .int x1, .int x2] : List Value).toArray 7 = F0 m 0 ls [] ∧ lv_has ls 7 [(0, .ref th), (1, .int x1), (2, .int x2)] := by
    exact ⟨_, lg_entry_eq _ _ _, lv_entry _ (Nat.le_of_ble_eq_true rfl)⟩
  rw [hen]
  unfold f_M_look at hE
  refine lv_aload_n hx hb dX12_look_0 rfl (lv_at hl 0 rfl) ?_
  refine lv_iconst (v := 0) hx hb dX12_look_1 (by decide) ?_
  refine w_pI (r := some th) (ci := 0) (k := 1) C w rfl (by decide) (by unfold roK; omega) (GF_wsX120 _) tyX12 tyX12_ok nmX12 (by decide) rfl (List.mem_cons_of_mem _ gw_8_18) rfl rfl (tyX12_ok 1 (by decide)) dX12_look_2 hE (fun h1 H locs w hsh1 e1 => ?_)
  refine lv_aload_n hx hb dX12_look_5 rfl (lv_at hl 0 rfl) ?_
  refine lv_iconst (v := 0) hx hb dX12_look_6 (by decide) ?_
  refine lv_iload_n hx hb dX12_look_7 rfl (lv_at hl 1 rfl) ?_
  refine w_VI GW_good (n := 2) (F := 3) (Lc := 68) (o := some th) (av := [.int (0 : Int32), .int x1]) (rest := []) C w rfl (by decide) (fun a r g hf => k_M_isWeighed l D cy z N h1 a (0 : Int32) x1 r g hf) gw_50_18 gw_50_19 gw_50_20 gw_1_5 gw_50_21 (by decide +kernel) ⟨Nat.le_of_ble_eq_true rfl, Nat.le_of_ble_eq_true rfl⟩ rfl hl.1 rfl (Nat.le_of_ble_eq_true rfl) dX12_look_8 (fun a => (sh_M_isWeighed N h1 a (0 : Int32) x1)) ⟨by decide, by decide⟩ e1 (fun v2 h3 H locs w hsh3 e2 => ?_)
  refine w_if_eq (tgt := 24) C dX12_look_11 (by decide) e2 (fun hc e3 => ?_) (fun hc e3 => ?_)
  · exact b_M_look_24 C N     h3 th _ _ ls w  (lv_sub hl [0] rfl) e3
  · refine lv_iload_n hx hb dX12_look_14 rfl (lv_at hl 2 rfl) ?_
    refine lv_i2l hx hb dX12_look_15 rfl ?_
    refine lv_lconst (v := 0) hx hb dX12_look_16 (by decide) ?_
    refine lv_lconst (v := 1) hx hb dX12_look_17 (by decide) ?_
    refine w_SI GW_good (n := 3) (F := 0) (Lc := 0) (av := [.long x2.toInt64, .long (0 : Int64), .long (1 : Int64)]) (rest := []) C w (fun r g hf => k_M_isIn l D cy z N h3 x2.toInt64 (0 : Int64) (1 : Int64) r g hf) gw_25_1 gw_25_2 gw_1_5 gw_25_3 (by decide +kernel) ⟨Nat.le_of_ble_eq_true rfl, Nat.le_of_ble_eq_true rfl⟩ rfl hl.1 rfl (Nat.le_of_ble_eq_true rfl) dX12_look_18 (sh_M_isIn N h3 x2.toInt64 (0 : Int64) (1 : Int64)) ⟨by decide, by decide⟩ e3 (fun v4 h5 H locs w hsh5 e4 => ?_)
    refine w_if_ne (tgt := 30) C dX12_look_21 (by decide) e4 (fun hc e5 => ?_) (fun hc e5 => ?_)
    · refine lv_aload_n hx hb dX12_look_30 rfl (lv_at hl 0 rfl) ?_
      refine lv_iload_n hx hb dX12_look_31 rfl (lv_at hl 1 rfl) ?_
      refine w_VV GW_good (n := 1) (F := 7) (Lc := 195) (o := some th) (av := [.int x1]) (rest := []) C w rfl (by decide) (fun a r g hf => k_M_tellFits l D cy z N h5 a x1 r g hf) gw_61_16 gw_61_17 gw_61_18 gw_1_5 gw_61_19 (by decide +kernel) ⟨Nat.le_of_ble_eq_true rfl, Nat.le_of_ble_eq_true rfl⟩ rfl hl.1 rfl (Nat.le_of_ble_eq_true rfl) dX12_look_32 (fun a => (sh_M_tellFits N h5 a x1)) ⟨by decide, by decide⟩ e5 (fun v6 h7 H locs w hsh7 e6 => ?_)
      refine lv_ldcw hx hb hown (hts _ (List.mem_cons_of_mem _ gw_37_19)) dX12_look_35 ?_
      refine lv_istore_n (lv' := [(3, .int (-10000000 : Int32)), (0, .ref th), (1, .int x1), (2, .int x2)]) hx hb dX12_look_38 rfl hl (by decide) rfl (fun ls hl => ?_)
      refine lv_iconst (v := 0) hx hb dX12_look_39 (by decide) ?_
      refine lv_istore (lv' := [(4, .int (0 : Int32)), (3, .int (-10000000 : Int32)), (0, .ref th), (1, .int x1), (2, .int x2)]) hx hb dX12_look_40 hl (by decide) rfl (fun ls hl => ?_)
      refine lv_bipush (v := -20) hx hb dX12_look_42 (by decide) ?_
      refine lv_istore (lv' := [(5, .int (-20 : Int32)), (4, .int (0 : Int32)), (3, .int (-10000000 : Int32)), (0, .ref th), (1, .int x1), (2, .int x2)]) hx hb dX12_look_44 hl (by decide) rfl (fun ls hl => ?_)
      exact b_M_look_46 C N   N  h7 th x2 (-10000000 : Int32) (0 : Int32) (-20 : Int32) _ _ ls w  (lv_sub hl [3, 5, 2, 1, 0] rfl) e6
    · exact b_M_look_24 C N     h5 th _ _ ls w  (lv_sub hl [0] rfl) e5
set_option maxRecDepth 20000 in
set_option maxHeartbeats 4000000 in
theorem b_M_happens_170 {p : Program} {l : Launch} {e : Env} {s : State} {m : MethodId} {args : Array Value} {below : List Frame} {meth : Method} {c : Code} {D : va_G} {cy : cyT} {z : Nat} (C : MX p s m args meth c cX12_happens 5 (none) RX12 (Cond.code yX12_happens cX12_happens 5 (none) :: GW)) (N : Nat) {r : Unit} {g : hS}  : ∀  (h : hS)  (H : Heap) (locs : List Loc) (ls : Array Slot), wd D cy z s 0 h H locs → lv_has ls 5 [] → f_M_happens_170 N   h  = some (r, g) → W p l e { frames := 5, cells := 0, slots := 0, locals := 146 } s m args below meth c H locs 0 0 (MQ below (eQ D cy z (rV r) g) args s 0 0 (fun q => z ≤ q)) (F0 m 170 ls []) := by
  obtain ⟨hx, hb, hr, hml, hown, hts, hlk⟩ := id C
  intro  h  H locs ls w  hl hE
  unfold f_M_happens_170 at hE
  exact w_vret C w hE dX12_happens_170
set_option maxRecDepth 20000 in
set_option maxHeartbeats 4000000 in
theorem b_M_happens_134 {p : Program} {l : Launch} {e : Env} {s : State} {m : MethodId} {args : Array Value} {below : List Frame} {meth : Method} {c : Code} {D : va_G} {cy : cyT} {z : Nat} (C : MX p s m args meth c cX12_happens 5 (none) RX12 (Cond.code yX12_happens cX12_happens 5 (none) :: GW)) (N : Nat) {r : Unit} {g : hS}  : ∀  (h : hS) (th : Nat) (x2 : Int32) (x3 : Int32) (y0 : Int32) (H : Heap) (locs : List Loc) (ls : Array Slot), wd D cy z s 0 h H locs → lv_has ls 5 [(0, .ref th), (2, .int x2), (3, .int x3)] → f_M_happens_134 N   h th x2 x3 y0 = some (r, g) → W p l e { frames := 5, cells := 0, slots := 0, locals := 146 } s m args below meth c H locs 0 0 (MQ below (eQ D cy z (rV r) g) args s 0 0 (fun q => z ≤ q)) (F0 m 134 ls [.int y0]) := by
  obtain ⟨hx, hb, hr, hml, hown, hts, hlk⟩ := id C
  intro  h th x2 x3 y0 H locs ls w  hl hE
  unfold f_M_happens_134 at hE
  refine lv_istore (lv' := [(4, .int y0), (0, .ref th), (2, .int x2), (3, .int x3)]) hx hb dX12_happens_134 hl (by decide) rfl (fun ls hl => ?_)
  refine lv_aload_n hx hb dX12_happens_136 rfl (lv_at hl 1 rfl) ?_
  refine w_gR (r := some th) (ci := 0) (k := 5) C w rfl (by decide) (GF_wsX120 _) (by decide) rfl (List.mem_cons_of_mem _ gw_7_0) rfl dX12_happens_137 hE (fun v1 e1 => ?_)
  refine lv_aload_n hx hb dX12_happens_140 rfl (lv_at hl 1 rfl) ?_
  refine w_gR (r := some th) (ci := 0) (k := 4) C w rfl (by decide) (GF_wsX120 _) (by decide) rfl (List.mem_cons_of_mem _ gw_6_23) rfl dX12_happens_141 e1 (fun v2 e2 => ?_)
  obtain ⟨q3, eq3, e3⟩ := nn_some e2
  subst eq3
  obtain ⟨q4, eq4, e4⟩ := nn_some e3
  subst eq4
  refine w_SV GW_good (n := 2) (F := 0) (Lc := 0) (av := [.ref q3, .ref q4]) (rest := []) C w (fun r g hf => k_M_copyTo l D cy z N h q3 q4 r g hf) gw_30_4 gw_30_5 gw_1_5 gw_30_6 (by decide +kernel) ⟨Nat.le_of_ble_eq_true rfl, Nat.le_of_ble_eq_true rfl⟩ rfl hl.1 rfl (Nat.le_of_ble_eq_true rfl) dX12_happens_144 (sh_M_copyTo N h q3 q4) ⟨by decide, by decide⟩ e4 (fun v5 h6 H locs w hsh6 e5 => ?_)
  refine lv_aload_n hx hb dX12_happens_147 rfl (lv_at hl 1 rfl) ?_
  refine lv_iload_n hx hb dX12_happens_148 rfl (lv_at hl 2 rfl) ?_
  refine lv_iload_n hx hb dX12_happens_149 rfl (lv_at hl 3 rfl) ?_
  refine lv_iload hx hb dX12_happens_150 (lv_at hl 0 rfl) ?_
  refine lv_iconst (v := -1) hx hb dX12_happens_152 (by decide) ?_
  refine w_VI GW_good (n := 4) (F := 4) (Lc := 122) (o := some th) (av := [.int x2, .int x3, .int y0, .int (-1 : Int32)]) (rest := []) C w rfl (by decide) (fun a r g hf => k_M_goes l D cy z N h6 a x2 x3 y0 (-1 : Int32) r g hf) gw_29_8 gw_29_9 gw_29_10 gw_1_5 gw_29_11 (by decide +kernel) ⟨Nat.le_of_ble_eq_true rfl, Nat.le_of_ble_eq_true rfl⟩ rfl hl.1 rfl (Nat.le_of_ble_eq_true rfl) dX12_happens_153 (fun a => (sh_M_goes N h6 a x2 x3 y0 (-1 : Int32))) ⟨by decide, by decide⟩ e5 (fun v7 h8 H locs w hsh8 e6 => ?_)
  refine w_if_ne (tgt := 170) C dX12_happens_156 (by decide) e6 (fun hc e7 => ?_) (fun hc e7 => ?_)
  · exact b_M_happens_170 C N     h8  _ _ ls w  (lv_sub hl [] rfl) e7
  · refine lv_aload_n hx hb dX12_happens_159 rfl (lv_at hl 1 rfl) ?_
    refine w_gR (r := some th) (ci := 0) (k := 4) C w rfl (by decide) (GF_wsX120 _) (by decide) rfl (List.mem_cons_of_mem _ gw_6_23) rfl dX12_happens_160 e7 (fun v9 e8 => ?_)
    refine lv_aload_n hx hb dX12_happens_163 rfl (lv_at hl 1 rfl) ?_
    refine w_gR (r := some th) (ci := 0) (k := 5) C w rfl (by decide) (GF_wsX120 _) (by decide) rfl (List.mem_cons_of_mem _ gw_7_0) rfl dX12_happens_164 e8 (fun v10 e9 => ?_)
    obtain ⟨q11, eq11, e10⟩ := nn_some e9
    subst eq11
    obtain ⟨q12, eq12, e11⟩ := nn_some e10
    subst eq12
    refine w_SV GW_good (n := 2) (F := 0) (Lc := 0) (av := [.ref q11, .ref q12]) (rest := []) C w (fun r g hf => k_M_copyTo l D cy z N h8 q11 q12 r g hf) gw_30_4 gw_30_5 gw_1_5 gw_30_6 (by decide +kernel) ⟨Nat.le_of_ble_eq_true rfl, Nat.le_of_ble_eq_true rfl⟩ rfl hl.1 rfl (Nat.le_of_ble_eq_true rfl) dX12_happens_167 (sh_M_copyTo N h8 q11 q12) ⟨by decide, by decide⟩ e11 (fun v13 h14 H locs w hsh14 e12 => ?_)
    exact b_M_happens_170 C N     h14  _ _ ls w  (lv_sub hl [] rfl) e12
set_option maxRecDepth 20000 in
set_option maxHeartbeats 4000000 in
theorem b_M_happens_104 {p : Program} {l : Launch} {e : Env} {s : State} {m : MethodId} {args : Array Value} {below : List Frame} {meth : Method} {c : Code} {D : va_G} {cy : cyT} {z : Nat} (C : MX p s m args meth c cX12_happens 5 (none) RX12 (Cond.code yX12_happens cX12_happens 5 (none) :: GW)) (N : Nat) {r : Unit} {g : hS}  : ∀  (h : hS) (th : Nat) (x1 : Int32) (x2 : Int32) (y0 : Int32) (H : Heap) (locs : List Loc) (ls : Array Slot), wd D cy z s 0 h H locs → lv_has ls 5 [(0, .ref th), (1, .int x1), (2, .int x2)] → f_M_happens_104 N   h th x1 x2 y0 = some (r, g) → W p l e { frames := 5, cells := 0, slots := 0, locals := 146 } s m args below meth c H locs 0 0 (MQ below (eQ D cy z (rV r) g) args s 0 0 (fun q => z ≤ q)) (F0 m 104 ls [.int y0]) := by
  obtain ⟨hx, hb, hr, hml, hown, hts, hlk⟩ := id C
  intro  h th x1 x2 y0 H locs ls w  hl hE
  unfold f_M_happens_104 at hE
  refine lv_istore_n (lv' := [(3, .int y0), (0, .ref th), (1, .int x1), (2, .int x2)]) hx hb dX12_happens_104 rfl hl (by decide) rfl (fun ls hl => ?_)
  refine lv_iload_n hx hb dX12_happens_105 rfl (lv_at hl 2 rfl) ?_
  refine lv_iconst (v := 4) hx hb dX12_happens_106 (by decide) ?_
  refine w_icmp_ge (tgt := 119) C dX12_happens_107 (by decide) hE (fun hc e1 => ?_) (fun hc e1 => ?_)
  · refine lv_iload_n hx hb dX12_happens_119 rfl (lv_at hl 2 rfl) ?_
    refine lv_iconst (v := 5) hx hb dX12_happens_120 (by decide) ?_
    refine w_icmp_ne (tgt := 133) C dX12_happens_121 (by decide) e1 (fun hc e2 => ?_) (fun hc e2 => ?_)
    · refine lv_iconst (v := 0) hx hb dX12_happens_133 (by decide) ?_
      exact b_M_happens_134 C N     h th x2 y0 (0 : Int32) _ _ ls w  (lv_sub hl [1, 3, 0] rfl) e2
    · refine lv_aload_n hx hb dX12_happens_124 rfl (lv_at hl 1 rfl) ?_
      refine lv_bipush (v := 6) hx hb dX12_happens_125 (by decide) ?_
      refine w_VI GW_good (n := 1) (F := 0) (Lc := 0) (o := some th) (av := [.int (6 : Int32)]) (rest := []) C w rfl (by decide) (fun a r g hf => k_M_draw l D cy z N h a (6 : Int32) r g hf) gw_64_8 gw_64_9 gw_64_10 gw_1_5 gw_64_11 (by decide +kernel) ⟨Nat.le_of_ble_eq_true rfl, Nat.le_of_ble_eq_true rfl⟩ rfl hl.1 rfl (Nat.le_of_ble_eq_true rfl) dX12_happens_127 (fun a => (sh_M_draw N h a (6 : Int32))) ⟨by decide, by decide⟩ e2 (fun v1 h2 H locs w hsh2 e3 => ?_)
      refine lv_goto (tgt := 134) hx hb dX12_happens_130 (by decide) ?_
      exact b_M_happens_134 C N     h2 th x2 y0 v1 _ _ ls w  (lv_sub hl [1, 3, 0] rfl) e3
  · refine lv_aload_n hx hb dX12_happens_110 rfl (lv_at hl 1 rfl) ?_
    refine lv_bipush (v := 10) hx hb dX12_happens_111 (by decide) ?_
    refine w_VI GW_good (n := 1) (F := 0) (Lc := 0) (o := some th) (av := [.int (10 : Int32)]) (rest := []) C w rfl (by decide) (fun a r g hf => k_M_draw l D cy z N h a (10 : Int32) r g hf) gw_64_8 gw_64_9 gw_64_10 gw_1_5 gw_64_11 (by decide +kernel) ⟨Nat.le_of_ble_eq_true rfl, Nat.le_of_ble_eq_true rfl⟩ rfl hl.1 rfl (Nat.le_of_ble_eq_true rfl) dX12_happens_113 (fun a => (sh_M_draw N h a (10 : Int32))) ⟨by decide, by decide⟩ e1 (fun v3 h4 H locs w hsh4 e4 => ?_)
    refine lv_goto (tgt := 134) hx hb dX12_happens_116 (by decide) ?_
    exact b_M_happens_134 C N     h4 th x2 y0 v3 _ _ ls w  (lv_sub hl [1, 3, 0] rfl) e4
set_option maxRecDepth 20000 in
set_option maxHeartbeats 4000000 in
theorem b_M_happens_39 {p : Program} {l : Launch} {e : Env} {s : State} {m : MethodId} {args : Array Value} {below : List Frame} {meth : Method} {c : Code} {D : va_G} {cy : cyT} {z : Nat} (C : MX p s m args meth c cX12_happens 5 (none) RX12 (Cond.code yX12_happens cX12_happens 5 (none) :: GW)) (N : Nat) {r : Unit} {g : hS}  : ∀  (h : hS) (th : Nat) (x1 : Int32) (y0 : Int32) (H : Heap) (locs : List Loc) (ls : Array Slot), wd D cy z s 0 h H locs → lv_has ls 5 [(0, .ref th), (1, .int x1)] → f_M_happens_39 N   h th x1 y0 = some (r, g) → W p l e { frames := 5, cells := 0, slots := 0, locals := 146 } s m args below meth c H locs 0 0 (MQ below (eQ D cy z (rV r) g) args s 0 0 (fun q => z ≤ q)) (F0 m 39 ls [.int y0]) := by
  obtain ⟨hx, hb, hr, hml, hown, hts, hlk⟩ := id C
  intro  h th x1 y0 H locs ls w  hl hE
  unfold f_M_happens_39 at hE
  refine lv_istore_n (lv' := [(2, .int y0), (0, .ref th), (1, .int x1)]) hx hb dX12_happens_39 rfl hl (by decide) rfl (fun ls hl => ?_)
  refine lv_iload_n hx hb dX12_happens_40 rfl (lv_at hl 2 rfl) ?_
  refine lv_iconst (v := 4) hx hb dX12_happens_41 (by decide) ?_
  refine w_icmp_ge (tgt := 57) C dX12_happens_42 (by decide) hE (fun hc e1 => ?_) (fun hc e1 => ?_)
  · refine lv_iload_n hx hb dX12_happens_57 rfl (lv_at hl 2 rfl) ?_
    refine lv_iconst (v := 4) hx hb dX12_happens_58 (by decide) ?_
    refine w_icmp_ne (tgt := 74) C dX12_happens_59 (by decide) e1 (fun hc e2 => ?_) (fun hc e2 => ?_)
    · refine lv_iload_n hx hb dX12_happens_74 rfl (lv_at hl 2 rfl) ?_
      refine lv_iconst (v := 5) hx hb dX12_happens_75 (by decide) ?_
      refine w_icmp_ne (tgt := 88) C dX12_happens_76 (by decide) e2 (fun hc e3 => ?_) (fun hc e3 => ?_)
      · refine lv_iload_n hx hb dX12_happens_88 rfl (lv_at hl 2 rfl) ?_
        refine lv_bipush (v := 7) hx hb dX12_happens_89 (by decide) ?_
        refine w_icmp_ne (tgt := 103) C dX12_happens_91 (by decide) e3 (fun hc e4 => ?_) (fun hc e4 => ?_)
        · refine lv_iconst (v := 0) hx hb dX12_happens_103 (by decide) ?_
          exact b_M_happens_104 C N     h th x1 y0 (0 : Int32) _ _ ls w  (lv_sub hl [1, 2, 0] rfl) e4
        · refine lv_aload_n hx hb dX12_happens_94 rfl (lv_at hl 1 rfl) ?_
          refine lv_bipush (v := 10) hx hb dX12_happens_95 (by decide) ?_
          refine w_VI GW_good (n := 1) (F := 0) (Lc := 0) (o := some th) (av := [.int (10 : Int32)]) (rest := []) C w rfl (by decide) (fun a r g hf => k_M_draw l D cy z N h a (10 : Int32) r g hf) gw_64_8 gw_64_9 gw_64_10 gw_1_5 gw_64_11 (by decide +kernel) ⟨Nat.le_of_ble_eq_true rfl, Nat.le_of_ble_eq_true rfl⟩ rfl hl.1 rfl (Nat.le_of_ble_eq_true rfl) dX12_happens_97 (fun a => (sh_M_draw N h a (10 : Int32))) ⟨by decide, by decide⟩ e4 (fun v1 h2 H locs w hsh2 e5 => ?_)
          refine lv_goto (tgt := 104) hx hb dX12_happens_100 (by decide) ?_
          exact b_M_happens_104 C N     h2 th x1 y0 v1 _ _ ls w  (lv_sub hl [1, 2, 0] rfl) e5
      · refine lv_aload_n hx hb dX12_happens_79 rfl (lv_at hl 1 rfl) ?_
        refine lv_bipush (v := 6) hx hb dX12_happens_80 (by decide) ?_
        refine w_VI GW_good (n := 1) (F := 0) (Lc := 0) (o := some th) (av := [.int (6 : Int32)]) (rest := []) C w rfl (by decide) (fun a r g hf => k_M_draw l D cy z N h a (6 : Int32) r g hf) gw_64_8 gw_64_9 gw_64_10 gw_1_5 gw_64_11 (by decide +kernel) ⟨Nat.le_of_ble_eq_true rfl, Nat.le_of_ble_eq_true rfl⟩ rfl hl.1 rfl (Nat.le_of_ble_eq_true rfl) dX12_happens_82 (fun a => (sh_M_draw N h a (6 : Int32))) ⟨by decide, by decide⟩ e3 (fun v3 h4 H locs w hsh4 e6 => ?_)
        refine lv_goto (tgt := 104) hx hb dX12_happens_85 (by decide) ?_
        exact b_M_happens_104 C N     h4 th x1 y0 v3 _ _ ls w  (lv_sub hl [1, 2, 0] rfl) e6
    · refine lv_aload_n hx hb dX12_happens_62 rfl (lv_at hl 1 rfl) ?_
      refine lv_bipush (v := 21) hx hb dX12_happens_63 (by decide) ?_
      refine w_VI GW_good (n := 1) (F := 0) (Lc := 0) (o := some th) (av := [.int (21 : Int32)]) (rest := []) C w rfl (by decide) (fun a r g hf => k_M_draw l D cy z N h a (21 : Int32) r g hf) gw_64_8 gw_64_9 gw_64_10 gw_1_5 gw_64_11 (by decide +kernel) ⟨Nat.le_of_ble_eq_true rfl, Nat.le_of_ble_eq_true rfl⟩ rfl hl.1 rfl (Nat.le_of_ble_eq_true rfl) dX12_happens_65 (fun a => (sh_M_draw N h a (21 : Int32))) ⟨by decide, by decide⟩ e2 (fun v5 h6 H locs w hsh6 e7 => ?_)
      refine lv_bipush (v := 10) hx hb dX12_happens_68 (by decide) ?_
      refine lv_isub hx hb dX12_happens_70 ?_
      refine lv_goto (tgt := 104) hx hb dX12_happens_71 (by decide) ?_
      exact b_M_happens_104 C N     h6 th x1 y0 (v5 - (10 : Int32)) _ _ ls w  (lv_sub hl [1, 2, 0] rfl) e7
  · refine lv_aload_n hx hb dX12_happens_45 rfl (lv_at hl 1 rfl) ?_
    refine lv_bipush (v := 101) hx hb dX12_happens_46 (by decide) ?_
    refine w_VI GW_good (n := 1) (F := 0) (Lc := 0) (o := some th) (av := [.int (101 : Int32)]) (rest := []) C w rfl (by decide) (fun a r g hf => k_M_draw l D cy z N h a (101 : Int32) r g hf) gw_64_8 gw_64_9 gw_64_10 gw_1_5 gw_64_11 (by decide +kernel) ⟨Nat.le_of_ble_eq_true rfl, Nat.le_of_ble_eq_true rfl⟩ rfl hl.1 rfl (Nat.le_of_ble_eq_true rfl) dX12_happens_48 (fun a => (sh_M_draw N h a (101 : Int32))) ⟨by decide, by decide⟩ e1 (fun v7 h8 H locs w hsh8 e8 => ?_)
    refine lv_bipush (v := 50) hx hb dX12_happens_51 (by decide) ?_
    refine lv_isub hx hb dX12_happens_53 ?_
    refine lv_goto (tgt := 104) hx hb dX12_happens_54 (by decide) ?_
    exact b_M_happens_104 C N     h8 th x1 y0 (v7 - (50 : Int32)) _ _ ls w  (lv_sub hl [1, 2, 0] rfl) e8
set_option maxRecDepth 20000 in
set_option maxHeartbeats 4000000 in
theorem k_M_happens (l : Launch) (D : va_G) (cy : cyT) (z : Nat) (N : Nat) (h : hS) (th : Nat) (r : Unit) (g : hS) (hE : f_M_happens N h th = some (r, g)) : ct l yX12_happens (Cond.code yX12_happens cX12_happens 5 (none) :: GW) { frames := 5, cells := 0, slots := 0, locals := 146 } D cy z h [.ref th] (rV r) g := by
  refine Met.ofW (cc := cX12_happens) (maxL := 5) (ret := none) (by decide) rfl ?_
  intro p e s m args below meth c s₁ B hml hv
  obtain ⟨rfl, hw⟩ := hv
  have C : MX p s m ([.ref th] : List Value).toArray meth c cX12_happens 5 (none) RX12 (Cond.code yX12_happens cX12_happens 5 (none) :: GW) := ⟨B.exec, B.bytes, B.returns, hml, findClass_of_methodNamed B.named, atoms_spec (ws := Cond.code yX12_happens cX12_happens 5 (none) :: GW) B.pre, B.notSynchronized⟩
  obtain ⟨hx, hb, hr, hml, hown, hts, hlk⟩ := id C
  have w := wd_of hw
  obtain ⟨ls, hen, hl⟩ : ∃ ls : Array Slot, entryFrame m ([.ref th] : List Value).toArray 5 = F0 m 0 ls [] ∧ lv_has ls 5 [(0, .ref th)] := by
    exact ⟨_, lg_entry_eq _ _ _, lv_entry _ (Nat.le_of_ble_eq_true rfl)⟩
  rw [hen]
  unfold f_M_happens at hE
  refine lv_aload_n hx hb dX12_happens_0 rfl (lv_at hl 0 rfl) ?_
  refine lv_bipush (v := 8) hx hb dX12_happens_1 (by decide) ?_
  refine w_VI GW_good (n := 1) (F := 0) (Lc := 0) (o := some th) (av := [.int (8 : Int32)]) (rest := []) C w rfl (by decide) (fun a r g hf => k_M_draw l D cy z N h a (8 : Int32) r g hf) gw_64_8 gw_64_9 gw_64_10 gw_1_5 gw_64_11 (by decide +kernel) ⟨Nat.le_of_ble_eq_true rfl, Nat.le_of_ble_eq_true rfl⟩ rfl hl.1 rfl (Nat.le_of_ble_eq_true rfl) dX12_happens_3 (fun a => (sh_M_draw N h a (8 : Int32))) ⟨by decide, by decide⟩ hE (fun v1 h2 H locs w hsh2 e1 => ?_)
  refine lv_istore_n (lv' := [(1, .int v1), (0, .ref th)]) hx hb dX12_happens_6 rfl hl (by decide) rfl (fun ls hl => ?_)
  refine lv_iload_n hx hb dX12_happens_7 rfl (lv_at hl 0 rfl) ?_
  refine lv_iconst (v := 3) hx hb dX12_happens_8 (by decide) ?_
  refine w_icmp_ge (tgt := 16) C dX12_happens_9 (by decide) e1 (fun hc e2 => ?_) (fun hc e2 => ?_)
  · refine lv_iload_n hx hb dX12_happens_16 rfl (lv_at hl 0 rfl) ?_
    refine lv_iconst (v := 3) hx hb dX12_happens_17 (by decide) ?_
    refine w_icmp_ne (tgt := 25) C dX12_happens_18 (by decide) e2 (fun hc e3 => ?_) (fun hc e3 => ?_)
    · refine lv_iload_n hx hb dX12_happens_25 rfl (lv_at hl 0 rfl) ?_
      refine lv_bipush (v := 7) hx hb dX12_happens_26 (by decide) ?_
      refine w_icmp_ne (tgt := 36) C dX12_happens_28 (by decide) e3 (fun hc e4 => ?_) (fun hc e4 => ?_)
      · refine lv_iload_n hx hb dX12_happens_36 rfl (lv_at hl 0 rfl) ?_
        refine lv_iconst (v := 1) hx hb dX12_happens_37 (by decide) ?_
        refine lv_isub hx hb dX12_happens_38 ?_
        exact b_M_happens_39 C N     h2 th v1 (v1 - (1 : Int32)) _ _ ls w  (lv_sub hl [1, 0] rfl) e4
      · refine lv_bipush (v := 7) hx hb dX12_happens_31 (by decide) ?_
        refine lv_goto (tgt := 39) hx hb dX12_happens_33 (by decide) ?_
        exact b_M_happens_39 C N     h2 th v1 (7 : Int32) _ _ ls w  (lv_sub hl [1, 0] rfl) e4
    · refine lv_iconst (v := 2) hx hb dX12_happens_21 (by decide) ?_
      refine lv_goto (tgt := 39) hx hb dX12_happens_22 (by decide) ?_
      exact b_M_happens_39 C N     h2 th v1 (2 : Int32) _ _ ls w  (lv_sub hl [1, 0] rfl) e3
  · refine lv_iload_n hx hb dX12_happens_12 rfl (lv_at hl 0 rfl) ?_
    refine lv_goto (tgt := 39) hx hb dX12_happens_13 (by decide) ?_
    exact b_M_happens_39 C N     h2 th v1 v1 _ _ ls w  (lv_sub hl [1, 0] rfl) e2
set_option maxRecDepth 20000 in
set_option maxHeartbeats 4000000 in
theorem b_M_years_110 {p : Program} {l : Launch} {e : Env} {s : State} {m : MethodId} {args : Array Value} {below : List Frame} {meth : Method} {c : Code} {D : va_G} {cy : cyT} {z : Nat} (C : MX p s m args meth c cX12_years 5 ((some .long)) RX12 (Cond.code yX12_years cX12_years 5 ((some .long)) :: GW)) (N : Nat) {r : Int64} {g : hS}  : ∀  (h : hS) (y0 : Int64) (H : Heap) (locs : List Loc) (ls : Array Slot), wd D cy z s 0 h H locs → lv_has ls 5 [] → f_M_years_110 N   h y0 = some (r, g) → W p l e { frames := 7, cells := 0, slots := 0, locals := 193 } s m args below meth c H locs 0 0 (MQ below (eQ D cy z (rJ r) g) args s 0 0 (fun q => z ≤ q)) (F0 m 110 ls [.long y0]) := by
  obtain ⟨hx, hb, hr, hml, hown, hts, hlk⟩ := id C
  intro  h y0 H locs ls w  hl hE
  unfold f_M_years_110 at hE
  exact w_lret C w hE dX12_years_110
set_option maxRecDepth 20000 in
set_option maxHeartbeats 4000000 in
theorem b_M_years_56 {p : Program} {l : Launch} {e : Env} {s : State} {m : MethodId} {args : Array Value} {below : List Frame} {meth : Method} {c : Code} {D : va_G} {cy : cyT} {z : Nat} (C : MX p s m args meth c cX12_years 5 ((some .long)) RX12 (Cond.code yX12_years cX12_years 5 ((some .long)) :: GW)) (N : Nat) {r : Int64} {g : hS}  : ∀ (n : Nat) (h : hS) (th : Nat) (x2 : Int32) (x3 : Int32) (x4 : Int32) (H : Heap) (locs : List Loc) (ls : Array Slot), wd D cy z s 0 h H locs → lv_has ls 5 [(0, .ref th), (2, .int x2), (3, .int x3), (4, .int x4)] → f_M_years_56 N  n h th x2 x3 x4 = some (r, g) → W p l e { frames := 7, cells := 0, slots := 0, locals := 193 } s m args below meth c H locs 0 0 (MQ below (eQ D cy z (rJ r) g) args s 0 0 (fun q => z ≤ q)) (F0 m 56 ls []) := by
  obtain ⟨hx, hb, hr, hml, hown, hts, hlk⟩ := id C
  intro n
  induction n with
  | zero =>
    intro  h th x2 x3 x4 H locs ls w  hl hE
    cases hE
  | succ n ih =>
    intro  h th x2 x3 x4 H locs ls w  hl hE
    unfold f_M_years_56 at hE
    refine lv_iload hx hb dX12_years_56 (lv_at hl 3 rfl) ?_
    refine lv_iload_n hx hb dX12_years_58 rfl (lv_at hl 1 rfl) ?_
    refine w_icmp_ge (tgt := 72) C dX12_years_59 (by decide) hE (fun hc e1 => ?_) (fun hc e1 => ?_)
    · refine lv_iload_n hx hb dX12_years_72 rfl (lv_at hl 2 rfl) ?_
      refine w_if_ne (tgt := 86) C dX12_years_73 (by decide) e1 (fun hc e2 => ?_) (fun hc e2 => ?_)
      · refine lv_iload_n hx hb dX12_years_86 rfl (lv_at hl 2 rfl) ?_
        refine lv_iconst (v := 1) hx hb dX12_years_87 (by decide) ?_
        refine w_icmp_ne (tgt := 102) C dX12_years_88 (by decide) e2 (fun hc e3 => ?_) (fun hc e3 => ?_)
        · refine lv_aload_n hx hb dX12_years_102 rfl (lv_at hl 0 rfl) ?_
          refine w_gR (r := some th) (ci := 0) (k := 4) C w rfl (by decide) (GF_wsX120 _) (by decide) rfl (List.mem_cons_of_mem _ gw_6_23) rfl dX12_years_103 e3 (fun v1 e4 => ?_)
          refine lv_iconst (v := 0) hx hb dX12_years_106 (by decide) ?_
          obtain ⟨q2, eq2, e5⟩ := nn_some e4
          subst eq2
          refine w_SJ GW_good (n := 2) (F := 1) (Lc := 44) (av := [.ref q2, .int (0 : Int32)]) (rest := []) C w (fun r g hf => k_M_valueAt l D cy z N h q2 (0 : Int32) r g hf) gw_30_7 gw_30_8 gw_1_5 gw_30_9 (by decide +kernel) ⟨Nat.le_of_ble_eq_true rfl, Nat.le_of_ble_eq_true rfl⟩ rfl hl.1 rfl (Nat.le_of_ble_eq_true rfl) dX12_years_107 (sh_M_valueAt N h q2 (0 : Int32)) ⟨by decide, by decide⟩ e5 (fun v3 h4 H locs w hsh4 e6 => ?_)
          exact b_M_years_110 C N     h4 v3 _ _ ls w  (lv_sub hl [] rfl) e6
        · refine lv_aload_n hx hb dX12_years_91 rfl (lv_at hl 0 rfl) ?_
          refine w_gR (r := some th) (ci := 0) (k := 4) C w rfl (by decide) (GF_wsX120 _) (by decide) rfl (List.mem_cons_of_mem _ gw_6_23) rfl dX12_years_92 e3 (fun v5 e7 => ?_)
          obtain ⟨q6, eq6, e8⟩ := nn_some e7
          subst eq6
          refine w_SI GW_good (n := 1) (F := 0) (Lc := 0) (av := [.ref q6]) (rest := []) C w (fun r g hf => k_M_kinks l D cy z N h q6 r g hf) gw_37_20 gw_37_21 gw_1_5 gw_37_22 (by decide +kernel) ⟨Nat.le_of_ble_eq_true rfl, Nat.le_of_ble_eq_true rfl⟩ rfl hl.1 rfl (Nat.le_of_ble_eq_true rfl) dX12_years_95 (sh_M_kinks N h q6) ⟨by decide, by decide⟩ e8 (fun v7 h8 H locs w hsh8 e9 => ?_)
          refine lv_i2l hx hb dX12_years_98 rfl ?_
          refine lv_goto (tgt := 110) hx hb dX12_years_99 (by decide) ?_
          exact b_M_years_110 C N     h8 v7.toInt64 _ _ ls w  (lv_sub hl [] rfl) e9
      · refine lv_aload_n hx hb dX12_years_76 rfl (lv_at hl 0 rfl) ?_
        refine w_gR (r := some th) (ci := 0) (k := 4) C w rfl (by decide) (GF_wsX120 _) (by decide) rfl (List.mem_cons_of_mem _ gw_6_23) rfl dX12_years_77 e2 (fun v9 e10 => ?_)
        obtain ⟨q10, eq10, e11⟩ := nn_some e10
        subst eq10
        refine w_SJ GW_good (n := 1) (F := 2) (Lc := 71) (av := [.ref q10]) (rest := []) C w (fun r g hf => k_M_leastOf l D cy z N h q10 r g hf) gw_30_17 gw_30_18 gw_1_5 gw_30_19 (by decide +kernel) ⟨Nat.le_of_ble_eq_true rfl, Nat.le_of_ble_eq_true rfl⟩ rfl hl.1 rfl (Nat.le_of_ble_eq_true rfl) dX12_years_80 (sh_M_leastOf N h q10) ⟨by decide, by decide⟩ e11 (fun v11 h12 H locs w hsh12 e12 => ?_)
        refine lv_goto (tgt := 110) hx hb dX12_years_83 (by decide) ?_
        exact b_M_years_110 C N     h12 v11 _ _ ls w  (lv_sub hl [] rfl) e12
    · refine lv_aload_n hx hb dX12_years_62 rfl (lv_at hl 0 rfl) ?_
      refine w_VV GW_good (n := 0) (F := 5) (Lc := 146) (o := some th) (av := []) (rest := []) C w rfl (by decide) (fun a r g hf => k_M_happens l D cy z N h a  r g hf) gw_64_4 gw_64_5 gw_64_6 gw_1_5 gw_64_7 (by decide +kernel) ⟨Nat.le_of_ble_eq_true rfl, Nat.le_of_ble_eq_true rfl⟩ rfl hl.1 rfl (Nat.le_of_ble_eq_true rfl) dX12_years_63 (fun a => (sh_M_happens N h a )) ⟨by decide, by decide⟩ e1 (fun v13 h14 H locs w hsh14 e13 => ?_)
      obtain ⟨v15, ev15, e14⟩ := bn_some e13
      refine lv_iinc (v := v15) (lv' := [(4, .int v15), (0, .ref th), (2, .int x2), (3, .int x3)]) hx hb dX12_years_66 hl (k := 3) rfl (by rw [ev15]; rfl) (by decide) rfl (fun ls hl => ?_)
      refine lv_goto (tgt := 56) hx hb dX12_years_69 (by decide) ?_
      exact ih  h14 th x2 x3 v15 _ _ ls w  (lv_sub hl [1, 2, 3, 0] rfl) e14
set_option maxRecDepth 20000 in
set_option maxHeartbeats 4000000 in
theorem k_M_years (l : Launch) (D : va_G) (cy : cyT) (z : Nat) (N : Nat) (h : hS) (th : Nat) (x1 : Int32) (x2 : Int32) (x3 : Int32) (r : Int64) (g : hS) (hE : f_M_years N h th x1 x2 x3 = some (r, g)) : ct l yX12_years (Cond.code yX12_years cX12_years 5 ((some .long)) :: GW) { frames := 7, cells := 0, slots := 0, locals := 193 } D cy z h [.ref th, .int x1, .int x2, .int x3] (rJ r) g := by
  refine Met.ofW (cc := cX12_years) (maxL := 5) (ret := (some .long)) (by decide) rfl ?_
  intro p e s m args below meth c s₁ B hml hv
  obtain ⟨rfl, hw⟩ := hv
  have C : MX p s m ([.ref th, .int x1, .int x2, .int x3] : List Value).toArray meth c cX12_years 5 ((some .long)) RX12 (Cond.code yX12_years cX12_years 5 ((some .long)) :: GW) := ⟨B.exec, B.bytes, B.returns, hml, findClass_of_methodNamed B.named, atoms_spec (ws := Cond.code yX12_years cX12_years 5 ((some .long)) :: GW) B.pre, B.notSynchronized⟩
  obtain ⟨hx, hb, hr, hml, hown, hts, hlk⟩ := id C
  have w := wd_of hw
  obtain ⟨ls, hen, hl⟩ : ∃ ls : Array Slot, entryFrame m ([.ref th, .int x1, .int x2, .int x3] : List Value).toArray 5 = F0 m 0 ls [] ∧ lv_has ls 5 [(0, .ref th), (1, .int x1), (2, .int x2), (3, .int x3)] := by
    exact ⟨_, lg_entry_eq _ _ _, lv_entry _ (Nat.le_of_ble_eq_true rfl)⟩
  rw [hen]
  unfold f_M_years at hE
  refine lv_aload_n hx hb dX12_years_0 rfl (lv_at hl 0 rfl) ?_
  refine lv_iconst (v := 0) hx hb dX12_years_1 (by decide) ?_
  refine w_pI (r := some th) (ci := 0) (k := 1) C w rfl (by decide) (by unfold roK; omega) (GF_wsX120 _) tyX12 tyX12_ok nmX12 (by decide) rfl (List.mem_cons_of_mem _ gw_8_18) rfl rfl (tyX12_ok 1 (by decide)) dX12_years_2 hE (fun h1 H locs w hsh1 e1 => ?_)
  refine lv_iload_n hx hb dX12_years_5 rfl (lv_at hl 3 rfl) ?_
  refine lv_i2l hx hb dX12_years_6 rfl ?_
  refine lv_lconst (v := 0) hx hb dX12_years_7 (by decide) ?_
  refine lv_ldc2 hx hb hown (hts _ (List.mem_cons_of_mem _ gw_33_13)) dX12_years_8 ?_
  refine w_SI GW_good (n := 3) (F := 0) (Lc := 0) (av := [.long x3.toInt64, .long (0 : Int64), .long (2 : Int64)]) (rest := []) C w (fun r g hf => k_M_isIn l D cy z N h1 x3.toInt64 (0 : Int64) (2 : Int64) r g hf) gw_25_1 gw_25_2 gw_1_5 gw_25_3 (by decide +kernel) ⟨Nat.le_of_ble_eq_true rfl, Nat.le_of_ble_eq_true rfl⟩ rfl hl.1 rfl (Nat.le_of_ble_eq_true rfl) dX12_years_11 (sh_M_isIn N h1 x3.toInt64 (0 : Int64) (2 : Int64)) ⟨by decide, by decide⟩ e1 (fun v2 h3 H locs w hsh3 e2 => ?_)
  refine w_if_ne (tgt := 24) C dX12_years_14 (by decide) e2 (fun hc e3 => ?_) (fun hc e3 => ?_)
  · refine lv_iload_n hx hb dX12_years_24 rfl (lv_at hl 2 rfl) ?_
    refine lv_i2l hx hb dX12_years_25 rfl ?_
    refine lv_lconst (v := 0) hx hb dX12_years_26 (by decide) ?_
    refine lv_ldc2 hx hb hown (hts _ (List.mem_cons_of_mem _ gw_64_2)) dX12_years_27 ?_
    refine w_SI GW_good (n := 3) (F := 0) (Lc := 0) (av := [.long x2.toInt64, .long (0 : Int64), .long (20 : Int64)]) (rest := []) C w (fun r g hf => k_M_isIn l D cy z N h3 x2.toInt64 (0 : Int64) (20 : Int64) r g hf) gw_25_1 gw_25_2 gw_1_5 gw_25_3 (by decide +kernel) ⟨Nat.le_of_ble_eq_true rfl, Nat.le_of_ble_eq_true rfl⟩ rfl hl.1 rfl (Nat.le_of_ble_eq_true rfl) dX12_years_30 (sh_M_isIn N h3 x2.toInt64 (0 : Int64) (20 : Int64)) ⟨by decide, by decide⟩ e3 (fun v4 h5 H locs w hsh5 e4 => ?_)
    refine w_if_ne (tgt := 43) C dX12_years_33 (by decide) e4 (fun hc e5 => ?_) (fun hc e5 => ?_)
    · refine lv_aload_n hx hb dX12_years_43 rfl (lv_at hl 0 rfl) ?_
      refine lv_iconst (v := 0) hx hb dX12_years_44 (by decide) ?_
      refine w_VV GW_good (n := 1) (F := 6) (Lc := 171) (o := some th) (av := [.int (0 : Int32)]) (rest := []) C w rfl (by decide) (fun a r g hf => k_M_tell l D cy z N h5 a (0 : Int32) r g hf) gw_28_9 gw_28_10 gw_28_11 gw_1_5 gw_28_12 (by decide +kernel) ⟨Nat.le_of_ble_eq_true rfl, Nat.le_of_ble_eq_true rfl⟩ rfl hl.1 rfl (Nat.le_of_ble_eq_true rfl) dX12_years_45 (fun a => (sh_M_tell N h5 a (0 : Int32))) ⟨by decide, by decide⟩ e5 (fun v6 h7 H locs w hsh7 e6 => ?_)
      refine lv_aload_n hx hb dX12_years_48 rfl (lv_at hl 0 rfl) ?_
      refine lv_iload_n hx hb dX12_years_49 rfl (lv_at hl 1 rfl) ?_
      refine w_pI (r := some th) (ci := 0) (k := 48) C w rfl (by decide) (by unfold roK; omega) (GF_wsX120 _) tyX12 tyX12_ok nmX12 (by decide) rfl (List.mem_cons_of_mem _ gw_64_3) rfl rfl (tyX12_ok 48 (by decide)) dX12_years_50 e6 (fun h8 H locs w hsh8 e7 => ?_)
      refine lv_iconst (v := 0) hx hb dX12_years_53 (by decide) ?_
      refine lv_istore (lv' := [(4, .int (0 : Int32)), (0, .ref th), (1, .int x1), (2, .int x2), (3, .int x3)]) hx hb dX12_years_54 hl (by decide) rfl (fun ls hl => ?_)
      exact b_M_years_56 C N   N  h8 th x2 x3 (0 : Int32) _ _ ls w  (lv_sub hl [1, 3, 4, 0] rfl) e7
    · refine lv_aload_n hx hb dX12_years_36 rfl (lv_at hl 0 rfl) ?_
      refine lv_iconst (v := 2) hx hb dX12_years_37 (by decide) ?_
      refine w_VI GW_good (n := 1) (F := 0) (Lc := 0) (o := some th) (av := [.int (2 : Int32)]) (rest := []) C w rfl (by decide) (fun a r g hf => k_M_fail l D cy z N h5 a (2 : Int32) r g hf) gw_25_4 gw_25_5 gw_25_6 gw_1_5 gw_25_7 (by decide +kernel) ⟨Nat.le_of_ble_eq_true rfl, Nat.le_of_ble_eq_true rfl⟩ rfl hl.1 rfl (Nat.le_of_ble_eq_true rfl) dX12_years_38 (fun a => (sh_M_fail N h5 a (2 : Int32))) ⟨by decide, by decide⟩ e5 (fun v9 h10 H locs w hsh10 e8 => ?_)
      refine lv_i2l hx hb dX12_years_41 rfl ?_
      exact w_lret C w e8 dX12_years_42
  · refine lv_aload_n hx hb dX12_years_17 rfl (lv_at hl 0 rfl) ?_
    refine lv_iconst (v := 1) hx hb dX12_years_18 (by decide) ?_
    refine w_VI GW_good (n := 1) (F := 0) (Lc := 0) (o := some th) (av := [.int (1 : Int32)]) (rest := []) C w rfl (by decide) (fun a r g hf => k_M_fail l D cy z N h3 a (1 : Int32) r g hf) gw_25_4 gw_25_5 gw_25_6 gw_1_5 gw_25_7 (by decide +kernel) ⟨Nat.le_of_ble_eq_true rfl, Nat.le_of_ble_eq_true rfl⟩ rfl hl.1 rfl (Nat.le_of_ble_eq_true rfl) dX12_years_19 (fun a => (sh_M_fail N h3 a (1 : Int32))) ⟨by decide, by decide⟩ e3 (fun v11 h12 H locs w hsh12 e9 => ?_)
    refine lv_i2l hx hb dX12_years_22 rfl ?_
    exact w_lret C w e9 dX12_years_23
