def f_Curve_init_8 (N : Nat)  (h : hS) (th : Nat) (y0 : Option Nat) (y1 : Option Nat) : Option (Unit × hS) := pR h y0 3 1 y1 fun h1 => pI h1 (some th) 3 0 (0 : Int32) fun h2 => pI h2 (some th) 3 2 (0 : Int32) fun h3 => pI h3 (some th) 3 3 (0 : Int32) fun h4 => pJ h4 (some th) 3 4 (0 : Int64) fun h5 => some ((), h5)
def f_Curve_init (N : Nat) (h : hS) (th : Nat) : Option (Unit × hS) := nwA h 50 (0 : Int32) fun q1 h2 => f_Curve_init_8 N   h2 th (some th) (some q1)
def f_Bench_init_45 (N : Nat)  (h : hS) (th : Nat) (y0 : Option Nat) (y1 : Option Nat) : Option (Unit × hS) := pR h y0 1 3 y1 fun h1 => pI h1 (some th) 1 4 (-1 : Int32) fun h2 => some ((), h2)
def f_Bench_init_41 (N : Nat)  (h : hS) (th : Nat) (y0 : Option Nat) (y1 : Option Nat) : Option (Unit × hS) := nn y1 fun q3 => cl (f_Curve_init N h q3 ) fun _ h2 => f_Bench_init_45 N   h2 th y0 (some q3)
def f_Bench_init_34 (N : Nat)  (h : hS) (th : Nat) (y0 : Option Nat) (y1 : Option Nat) : Option (Unit × hS) := pR h y0 1 2 y1 fun h1 => nwO h1 3 5 fun q2 h3 => f_Bench_init_41 N   h3 th (some th) (some q2)
def f_Bench_init_30 (N : Nat)  (h : hS) (th : Nat) (y0 : Option Nat) (y1 : Option Nat) : Option (Unit × hS) := nn y1 fun q3 => cl (f_Curve_init N h q3 ) fun _ h2 => f_Bench_init_34 N   h2 th y0 (some q3)
def f_Bench_init_23 (N : Nat)  (h : hS) (th : Nat) (y0 : Option Nat) (y1 : Option Nat) : Option (Unit × hS) := pR h y0 1 1 y1 fun h1 => nwO h1 3 5 fun q2 h3 => f_Bench_init_30 N   h3 th (some th) (some q2)
def f_Bench_init_19 (N : Nat)  (h : hS) (th : Nat) (y0 : Option Nat) (y1 : Option Nat) : Option (Unit × hS) := nn y1 fun q3 => cl (f_Curve_init N h q3 ) fun _ h2 => f_Bench_init_23 N   h2 th y0 (some q3)
def f_Bench_init_12 (N : Nat)  (h : hS) (th : Nat) (y0 : Option Nat) (y1 : Option Nat) : Option (Unit × hS) := pR h y0 1 0 y1 fun h1 => nwO h1 3 5 fun q2 h3 => f_Bench_init_19 N   h3 th (some th) (some q2)
def f_Bench_init_8 (N : Nat)  (h : hS) (th : Nat) (y0 : Option Nat) (y1 : Option Nat) : Option (Unit × hS) := nn y1 fun q3 => cl (f_Curve_init N h q3 ) fun _ h2 => f_Bench_init_12 N   h2 th y0 (some q3)
def f_Bench_init (N : Nat) (h : hS) (th : Nat) : Option (Unit × hS) := nwO h 3 5 fun q1 h2 => f_Bench_init_8 N   h2 th (some th) (some q1)
def f_Curve_clear_42 (N : Nat)  (h : hS) (th : Nat) : Option (Unit × hS) := pI h (some th) 3 0 (0 : Int32) fun h1 => pI h1 (some th) 3 2 (0 : Int32) fun h2 => pI h2 (some th) 3 3 (0 : Int32) fun h3 => pJ h3 (some th) 3 4 (0 : Int64) fun h4 => some ((), h4)
def f_Curve_clear_39 (N : Nat)  (h : hS) (th : Nat) (y0 : Option Nat) (y1 : Option Nat) : Option (Unit × hS) := pR h y0 3 1 y1 fun h1 => f_Curve_clear_42 N   h1 th
def f_Curve_clear_37 (N : Nat)  (h : hS) (th : Nat) (y0 : Option Nat) (y1 : Int32) : Option (Unit × hS) := nwA h 50 y1 fun q1 h2 => f_Curve_clear_39 N   h2 th y0 (some q1)
def f_Curve_clear_23 (N : Nat)  (h : hS) (th : Nat) (x1 : Int32) (y0 : Int32) : Option (Unit × hS) := if x1 ≤ y0 then (f_Curve_clear_37 N   h th (some th) y0) else (f_Curve_clear_37 N   h th (some th) (5001 : Int32))
def f_Curve_clear (N : Nat) (h : hS) (th : Nat) (x1 : Int32) : Option (Unit × hS) := gR h (some th) 3 1 fun v1 => lnA h 50 v1 fun v2 => if x1 ≤ v2 then (f_Curve_clear_42 N   h th) else (if x1 ≤ (48 : Int32) then (f_Curve_clear_23 N   h th x1 (48 : Int32)) else (f_Curve_clear_23 N   h th x1 (480 : Int32)))
def f_Bench_startAnew_8 (N : Nat)  (h : hS)  : Option (Unit × hS) := some ((), h)
def f_Bench_startAnew (N : Nat) (h : hS) (th : Nat) : Option (Unit × hS) := gR h (some th) 1 0 fun v1 => cv h v1 3 (fun a => f_Curve_clear N h a (0 : Int32)) fun _ h3 => f_Bench_startAnew_8 N   h3 
def f_Curve_take_8 (N : Nat)  (h : hS) (th : Nat) (a1 : Option Nat) : Option (Unit × hS) := gI h a1 3 0 fun v1 => gR h a1 3 1 fun v2 => lnA h 50 v2 fun v3 => gR h (some th) 3 1 fun v4 => lnA h 50 v4 fun v5 => pI h (some th) 3 0 (jmn v1 (jmn v3 v5)) fun h6 => gR h6 a1 3 1 fun v7 => gR h6 (some th) 3 1 fun v8 => gI h6 (some th) 3 0 fun v9 => cpI h6 v7 (0 : Int32) v8 (0 : Int32) v9 fun h10 => gI h10 a1 3 2 fun v11 => pI h10 (some th) 3 2 v11 fun h12 => gI h12 a1 3 3 fun v13 => pI h12 (some th) 3 3 v13 fun h14 => gJ h14 a1 3 4 fun v15 => pJ h14 (some th) 3 4 v15 fun h16 => some ((), h16)
def f_Curve_take (N : Nat) (h : hS) (th : Nat) (a1 : Option Nat) : Option (Unit × hS) := gI h a1 3 0 fun v1 => cv h (some th) 3 (fun a => f_Curve_clear N h a v1) fun _ h3 => f_Curve_take_8 N   h3 th a1
def f_Bench_startWith_8 (N : Nat)  (h : hS)  : Option (Unit × hS) := some ((), h)
def f_Bench_startWith (N : Nat) (h : hS) (th : Nat) (a1 : Option Nat) : Option (Unit × hS) := gR h (some th) 1 0 fun v1 => cv h v1 3 (fun a => f_Curve_take N h a a1) fun _ h3 => f_Bench_startWith_8 N   h3 
def f_Chain_stepAt_31 (N : Nat)  (h : hS) (y0 : Option Nat) : Option (Option Nat × hS) := some (y0, h)
def f_Chain_stepAt_30 (N : Nat)  (h : hS)  : Option (Option Nat × hS) := f_Chain_stepAt_31 N   h none
def f_Chain_stepAt (N : Nat) (h : hS) (th : Nat) (x1 : Int32) : Option (Option Nat × hS) := if x1 < (0 : Int32) then (f_Chain_stepAt_30 N   h ) else (gI h (some th) 2 1 fun v1 => if v1 ≤ x1 then (f_Chain_stepAt_30 N   h ) else (gR h (some th) 2 0 fun v2 => lnA h 64 v2 fun v3 => if v3 ≤ x1 then (f_Chain_stepAt_30 N   h ) else (gR h (some th) 2 0 fun v4 => aR h 64 v4 x1 fun v5 => f_Chain_stepAt_31 N   h v5)))
def f_Curve_placeOf_34 (N : Nat)  (h : hS) (y0 : Int32) : Option (Int32 × hS) := some (y0, h)
def f_Curve_placeOf_33 (N : Nat)  (h : hS)  : Option (Int32 × hS) := f_Curve_placeOf_34 N   h (0 : Int32)
def f_Curve_placeOf (N : Nat) (h : hS) (th : Nat) (x1 : Int32) : Option (Int32 × hS) := if x1 < (0 : Int32) then (f_Curve_placeOf_33 N   h ) else (gI h (some th) 3 0 fun v1 => if v1 ≤ x1 then (f_Curve_placeOf_33 N   h ) else (gR h (some th) 3 1 fun v2 => lnA h 50 v2 fun v3 => if v3 ≤ x1 then (f_Curve_placeOf_33 N   h ) else (gR h (some th) 3 1 fun v4 => aI h 50 v4 x1 fun v5 => f_Curve_placeOf_34 N   h (v5 >>> ((13 : Int32) &&& 31)))))
def f_Curve_append_113 (N : Nat)  (h : hS)  : Option (Unit × hS) := some ((), h)
def f_Curve_append_66 (N : Nat)  (h : hS) (th : Nat) (x1 : Int32) (x2 : Int32) : Option (Unit × hS) := gI h (some th) 3 0 fun v1 => gR h (some th) 3 1 fun v2 => lnA h 50 v2 fun v3 => if v3 ≤ v1 then (f_Curve_append_113 N   h ) else (gR h (some th) 3 1 fun v4 => gI h (some th) 3 0 fun v5 => uI h v4 v5 ((x1 <<< ((13 : Int32) &&& 31)) + x2) fun h6 => gI h6 (some th) 3 0 fun v7 => pI h6 (some th) 3 0 (v7 + (1 : Int32)) fun h8 => gI h8 (some th) 3 3 fun v9 => pI h8 (some th) 3 3 (v9 + x2) fun h10 => f_Curve_append_113 N   h10 )
def f_Curve_append (N : Nat) (h : hS) (th : Nat) (x1 : Int32) (x2 : Int32) : Option (Unit × hS) := if (0 : Int32) < x2 then (gI h (some th) 3 0 fun v1 => if v1 ≤ (0 : Int32) then (f_Curve_append_66 N   h th x1 x2) else (gI h (some th) 3 0 fun v2 => gR h (some th) 3 1 fun v3 => lnA h 50 v3 fun v4 => if v4 < v2 then (f_Curve_append_66 N   h th x1 x2) else (gI h (some th) 3 0 fun v5 => cv h (some th) 3 (fun a => f_Curve_placeOf N h a (v5 - (1 : Int32))) fun v6 h7 => if v6 = x1 then (gR h7 (some th) 3 1 fun v8 => gI h7 (some th) 3 0 fun v9 => aI h7 50 v8 (v9 - (1 : Int32)) fun v10 => uI h7 v8 (v9 - (1 : Int32)) (v10 + x2) fun h11 => gI h11 (some th) 3 3 fun v12 => pI h11 (some th) 3 3 (v12 + x2) fun h13 => f_Curve_append_113 N   h13 ) else (f_Curve_append_66 N   h7 th x1 x2)))) else (some ((), h))
def f_Curve_becomeKink_5 (N : Nat)  (h : hS) (th : Nat) (x1 : Int32) (x2 : Int32) (x3 : Int32) : Option (Unit × hS) := cv h (some th) 3 (fun a => f_Curve_append N h a x1 x2) fun _ h2 => pI h2 (some th) 3 2 x3 fun h3 => some ((), h3)
def f_Curve_becomeKink (N : Nat) (h : hS) (th : Nat) (x1 : Int32) (x2 : Int32) (x3 : Int32) : Option (Unit × hS) := cv h (some th) 3 (fun a => f_Curve_clear N h a (1 : Int32)) fun _ h2 => f_Curve_becomeKink_5 N   h2 th x1 x2 x3
def f_Curve_weightOf_35 (N : Nat)  (h : hS) (y0 : Int32) : Option (Int32 × hS) := some (y0, h)
def f_Curve_weightOf_34 (N : Nat)  (h : hS)  : Option (Int32 × hS) := f_Curve_weightOf_35 N   h (0 : Int32)
def f_Curve_weightOf (N : Nat) (h : hS) (th : Nat) (x1 : Int32) : Option (Int32 × hS) := if x1 < (0 : Int32) then (f_Curve_weightOf_34 N   h ) else (gI h (some th) 3 0 fun v1 => if v1 ≤ x1 then (f_Curve_weightOf_34 N   h ) else (gR h (some th) 3 1 fun v2 => lnA h 50 v2 fun v3 => if v3 ≤ x1 then (f_Curve_weightOf_34 N   h ) else (gR h (some th) 3 1 fun v4 => aI h 50 v4 x1 fun v5 => f_Curve_weightOf_35 N   h (v5 &&& (8191 : Int32)))))
def f_Curve_someLowest_7 (N : Nat)  : Nat → hS → Nat → Int32 → Int32 → Option (Int32 × hS)
  | 0 => fun _ _ _ _ => none
  | n + 1 => fun h th x1 x2 => gI h (some th) 3 0 fun v1 => if v1 ≤ x2 then (some ((0 : Int32), h)) else (cv h (some th) 3 (fun a => f_Curve_weightOf N h a x2) fun v2 h3 => bn ((x1 - v2)) fun v4 => if (0 : Int32) < v4 then (bn (x2 + (1 : Int32)) fun v5 => f_Curve_someLowest_7 N  n h3 th v4 v5) else (cv h3 (some th) 3 (fun a => f_Curve_placeOf N h3 a x2) fun v6 h7 => some (v6, h7)))
def f_Curve_someLowest (N : Nat) (h : hS) (th : Nat) : Option (Int32 × hS) := gI h (some th) 3 2 fun v1 => f_Curve_someLowest_7 N  N h th v1 (0 : Int32)
def f_Curve_valueAt_86 (N : Nat) (rc14 : hS → Nat → Int32 → Int64 → Int32 → Int32 → Option (Int64 × hS)) (h : hS) (th : Nat) (x1 : Int32) (x4 : Int32) (x5 : Int32) (y0 : Int64) (y1 : Int64) : Option (Int64 × hS) := bn ((y0 + y1)) fun v1 => bn (x5 + (1 : Int32)) fun v2 => rc14 h th x1 v1 x4 v2
def f_Curve_valueAt_14 (N : Nat)  : Nat → hS → Nat → Int32 → Int64 → Int32 → Int32 → Option (Int64 × hS)
  | 0 => fun _ _ _ _ _ _ => none
  | n + 1 => fun h th x1 x2 x4 x5 => gI h (some th) 3 0 fun v1 => if v1 ≤ x5 then (some (x2, h)) else (cv h (some th) 3 (fun a => f_Curve_weightOf N h a x5) fun v2 h3 => bn ((jmn x4 v2)) fun v4 => bn ((x4 - v4)) fun v5 => cv h3 (some th) 3 (fun a => f_Curve_placeOf N h3 a x5) fun v6 h7 => bn ((x1.toInt64 - v6.toInt64)) fun v8 => if (0 : Int32) ≤ (lg_cmp v8 (0 : Int64)) then (f_Curve_valueAt_86 N (f_Curve_valueAt_14 N  n)  h7 th x1 v5 x5 x2 (v8 * ((v2 - v4).toInt64))) else (f_Curve_valueAt_86 N (f_Curve_valueAt_14 N  n)  h7 th x1 v5 x5 x2 ((-v8) * v4.toInt64)))
def f_Curve_valueAt (N : Nat) (h : hS) (th : Nat) (x1 : Int32) : Option (Int64 × hS) := gJ h (some th) 3 4 fun v1 => gI h (some th) 3 2 fun v2 => f_Curve_valueAt_14 N  N h th x1 v1 v2 (0 : Int32)
def f_Bench_swap (N : Nat) (h : hS) (th : Nat) : Option (Unit × hS) := gR h (some th) 1 1 fun v1 => gR h (some th) 1 0 fun v2 => pR h (some th) 1 1 v2 fun h3 => pR h3 (some th) 1 0 v1 fun h4 => some ((), h4)
def f_Curve_isTooMuch_21 (N : Nat)  (h : hS)  : Option (Int32 × hS) := bz (1 : Int32) (some ((1 : Int32), h))
def f_Curve_isTooMuch_62 (N : Nat)  (h : hS) (y0 : Int32) : Option (Int32 × hS) := bz y0 (some (y0, h))
def f_Curve_isTooMuch_61 (N : Nat)  (h : hS)  : Option (Int32 × hS) := f_Curve_isTooMuch_62 N   h (0 : Int32)
def f_Curve_isTooMuch_57 (N : Nat)  (h : hS)  : Option (Int32 × hS) := f_Curve_isTooMuch_62 N   h (1 : Int32)
def f_Curve_isTooMuch (N : Nat) (h : hS) (th : Nat) : Option (Int32 × hS) := gI h (some th) 3 3 fun v1 => if (5000 : Int32) < v1 then (f_Curve_isTooMuch_21 N   h ) else (gJ h (some th) 3 4 fun v2 => if (lg_cmp v2 (100000000 : Int64)) ≤ (0 : Int32) then (gI h (some th) 3 0 fun v3 => if v3 ≤ (0 : Int32) then (f_Curve_isTooMuch_61 N   h ) else (cv h (some th) 3 (fun a => f_Curve_placeOf N h a (0 : Int32)) fun v4 h5 => if v4 < (-5000 : Int32) then (f_Curve_isTooMuch_57 N   h5 ) else (gI h5 (some th) 3 0 fun v6 => cv h5 (some th) 3 (fun a => f_Curve_placeOf N h5 a (v6 - (1 : Int32))) fun v7 h8 => if v7 ≤ (5000 : Int32) then (f_Curve_isTooMuch_61 N   h8 ) else (f_Curve_isTooMuch_57 N   h8 )))) else (f_Curve_isTooMuch_21 N   h ))
def f_Bench_add_238 (N : Nat)  (h : hS) (y0 : Int32) : Option (Int32 × hS) := bz y0 (some (y0, h))
def f_Bench_add_156 (N : Nat) (rc54 : hS → Nat → Int32 → Int32 → Int32 → Int32 → Option (Int32 × hS)) (h : hS) (th : Nat) (x1 : Int32) (x2 : Int32) (x3 : Int32) (x4 : Int32) : Option (Int32 × hS) := bn (x4 + (1 : Int32)) fun v1 => rc54 h th x1 x2 x3 v1
def f_Bench_add_101 (N : Nat) (rc54 : hS → Nat → Int32 → Int32 → Int32 → Int32 → Option (Int32 × hS)) (h : hS) (th : Nat) (x1 : Int32) (x2 : Int32) (x3 : Int32) (x4 : Int32) : Option (Int32 × hS) := gR h (some th) 1 1 fun v1 => gR h (some th) 1 0 fun v2 => cv h v2 3 (fun a => f_Curve_placeOf N h a x2) fun v3 h4 => gR h4 (some th) 1 0 fun v5 => cv h4 v5 3 (fun a => f_Curve_weightOf N h4 a x2) fun v6 h7 => cv h7 v1 3 (fun a => f_Curve_append N h7 a v3 v6) fun _ h9 => bn (x2 + (1 : Int32)) fun v10 => f_Bench_add_156 N rc54  h9 th x1 v10 x3 x4
def f_Bench_add_130 (N : Nat) (rc54 : hS → Nat → Int32 → Int32 → Int32 → Int32 → Option (Int32 × hS)) (h : hS) (th : Nat) (x1 : Int32) (x2 : Int32) (x3 : Int32) (x4 : Int32) : Option (Int32 × hS) := gR h (some th) 1 1 fun v1 => gR h (some th) 1 3 fun v2 => cv h v2 3 (fun a => f_Curve_placeOf N h a x3) fun v3 h4 => gR h4 (some th) 1 3 fun v5 => cv h4 v5 3 (fun a => f_Curve_weightOf N h4 a x3) fun v6 h7 => cv h7 v1 3 (fun a => f_Curve_append N h7 a v3 v6) fun _ h9 => bn (x3 + (1 : Int32)) fun v10 => f_Bench_add_156 N rc54  h9 th x1 x2 v10 x4
def f_Bench_add_54 (N : Nat)  : Nat → hS → Nat → Int32 → Int32 → Int32 → Int32 → Option (Int32 × hS)
  | 0 => fun _ _ _ _ _ _ => none
  | n + 1 => fun h th x1 x2 x3 x4 => if x1 ≤ x4 then (gR h (some th) 1 1 fun v1 => gR h (some th) 1 0 fun v2 => gI h v2 3 2 fun v3 => gR h (some th) 1 3 fun v4 => gI h v4 3 2 fun v5 => pI h v1 3 2 (v3 + v5) fun h6 => gR h6 (some th) 1 1 fun v7 => cv h6 v7 3 (fun a => f_Curve_someLowest N h6 a ) fun v8 h9 => gR h9 (some th) 1 1 fun v10 => gR h9 (some th) 1 0 fun v11 => cv h9 v11 3 (fun a => f_Curve_valueAt N h9 a v8) fun v12 h13 => gR h13 (some th) 1 3 fun v14 => cv h13 v14 3 (fun a => f_Curve_valueAt N h13 a v8) fun v15 h16 => pJ h16 v10 3 4 (v12 + v15) fun h17 => cv h17 (some th) 1 (fun a => f_Bench_swap N h17 a ) fun _ h19 => gR h19 (some th) 1 0 fun v20 => cv h19 v20 3 (fun a => f_Curve_isTooMuch N h19 a ) fun v21 h22 => if v21 = (0 : Int32) then (f_Bench_add_238 N   h22 (1 : Int32)) else (f_Bench_add_238 N   h22 (0 : Int32))) else (gR h (some th) 1 3 fun v23 => gI h v23 3 0 fun v24 => if v24 ≤ x3 then (f_Bench_add_101 N (f_Bench_add_54 N  n)  h th x1 x2 x3 x4) else (gR h (some th) 1 0 fun v25 => gI h v25 3 0 fun v26 => if v26 ≤ x2 then (f_Bench_add_130 N (f_Bench_add_54 N  n)  h th x1 x2 x3 x4) else (gR h (some th) 1 0 fun v27 => cv h v27 3 (fun a => f_Curve_placeOf N h a x2) fun v28 h29 => gR h29 (some th) 1 3 fun v30 => cv h29 v30 3 (fun a => f_Curve_placeOf N h29 a x3) fun v31 h32 => if v31 < v28 then (f_Bench_add_130 N (f_Bench_add_54 N  n)  h32 th x1 x2 x3 x4) else (f_Bench_add_101 N (f_Bench_add_54 N  n)  h32 th x1 x2 x3 x4))))
def f_Bench_add_47 (N : Nat)  (h : hS) (th : Nat) (x1 : Int32) : Option (Int32 × hS) := f_Bench_add_54 N  N h th x1 (0 : Int32) (0 : Int32) (0 : Int32)
def f_Bench_add (N : Nat) (h : hS) (th : Nat) : Option (Int32 × hS) := gR h (some th) 1 0 fun v1 => gI h v1 3 3 fun v2 => gR h (some th) 1 3 fun v3 => gI h v3 3 3 fun v4 => if (v2 + v4) ≤ (5000 : Int32) then (gR h (some th) 1 0 fun v5 => gI h v5 3 0 fun v6 => gR h (some th) 1 3 fun v7 => gI h v7 3 0 fun v8 => bn ((v6 + v8)) fun v9 => gR h (some th) 1 1 fun v10 => cv h v10 3 (fun a => f_Curve_clear N h a v9) fun _ h12 => f_Bench_add_47 N   h12 th v9) else (bz (0 : Int32) (some ((0 : Int32), h)))
def f_Bench_reshape_155 (N : Nat)  (h : hS) (th : Nat) (y0 : Option Nat) (y1 : Int32) : Option (Unit × hS) := pI h y0 3 2 y1 fun h1 => gR h1 (some th) 1 1 fun v2 => gR h1 (some th) 1 0 fun v3 => gJ h1 v3 3 4 fun v4 => pJ h1 v2 3 4 v4 fun h5 => cv h5 (some th) 1 (fun a => f_Bench_swap N h5 a ) fun _ h7 => some ((), h7)
def f_Bench_reshape_127 (N : Nat) (rc28 : hS → Nat → Int32 → Int32 → Int32 → Int32 → Int32 → Int32 → Option (Unit × hS)) (h : hS) (th : Nat) (x1 : Int32) (x2 : Int32) (x3 : Int32) (x4 : Int32) (x5 : Int32) (x6 : Int32) (y0 : Option Nat) (y1 : Int32) (y2 : Int32) : Option (Unit × hS) := cv h y0 3 (fun a => f_Curve_append N h a y1 y2) fun _ h2 => bn (x6 + (1 : Int32)) fun v3 => rc28 h2 th x1 x2 x3 x4 x5 v3
def f_Bench_reshape_88 (N : Nat) (rc28 : hS → Nat → Int32 → Int32 → Int32 → Int32 → Int32 → Int32 → Option (Unit × hS)) (h : hS) (th : Nat) (x1 : Int32) (x2 : Int32) (x3 : Int32) (x4 : Int32) (x5 : Int32) (x6 : Int32) (x7 : Int32) (y0 : Option Nat) (y1 : Int32) (y2 : Int32) : Option (Unit × hS) := cv h y0 3 (fun a => f_Curve_append N h a y1 y2) fun _ h2 => gR h2 (some th) 1 1 fun v3 => gR h2 (some th) 1 0 fun v4 => cv h2 v4 3 (fun a => f_Curve_placeOf N h2 a x6) fun v5 h6 => if x2 = (0 : Int32) then (f_Bench_reshape_127 N rc28  h6 th x1 x2 x3 x4 x5 x6 v3 (v5 + x4) (0 : Int32)) else (gR h6 (some th) 1 0 fun v7 => cv h6 v7 3 (fun a => f_Curve_weightOf N h6 a x6) fun v8 h9 => f_Bench_reshape_127 N rc28  h9 th x1 x2 x3 x4 x5 x6 v3 (v5 + x4) (v8 - x7))
def f_Bench_reshape_28 (N : Nat)  : Nat → hS → Nat → Int32 → Int32 → Int32 → Int32 → Int32 → Int32 → Option (Unit × hS)
  | 0 => fun _ _ _ _ _ _ _ _ => none
  | n + 1 => fun h th x1 x2 x3 x4 x5 x6 => gR h (some th) 1 0 fun v1 => gI h v1 3 0 fun v2 => if v2 ≤ x6 then (gR h (some th) 1 1 fun v3 => if x1 = (0 : Int32) then (f_Bench_reshape_155 N   h th v3 (0 : Int32)) else (gR h (some th) 1 0 fun v4 => gI h v4 3 2 fun v5 => f_Bench_reshape_155 N   h th v3 v5)) else (gR h (some th) 1 0 fun v6 => cv h v6 3 (fun a => f_Curve_weightOf N h a x6) fun v7 h8 => bn ((jmn x5 v7)) fun v9 => bn ((x5 - v9)) fun v10 => gR h8 (some th) 1 1 fun v11 => gR h8 (some th) 1 0 fun v12 => cv h8 v12 3 (fun a => f_Curve_placeOf N h8 a x6) fun v13 h14 => if x1 = (0 : Int32) then (f_Bench_reshape_88 N (f_Bench_reshape_28 N  n)  h14 th x1 x2 x3 x4 v10 x6 v9 v11 (v13 - x3) (0 : Int32)) else (f_Bench_reshape_88 N (f_Bench_reshape_28 N  n)  h14 th x1 x2 x3 x4 v10 x6 v9 v11 (v13 - x3) v9))
def f_Bench_reshape_16 (N : Nat)  (h : hS) (th : Nat) (x1 : Int32) (x2 : Int32) (x3 : Int32) (x4 : Int32) : Option (Unit × hS) := gR h (some th) 1 0 fun v1 => gI h v1 3 2 fun v2 => f_Bench_reshape_28 N  N h th x1 x2 x3 x4 v2 (0 : Int32)
def f_Bench_reshape (N : Nat) (h : hS) (th : Nat) (x1 : Int32) (x2 : Int32) (x3 : Int32) (x4 : Int32) : Option (Unit × hS) := gR h (some th) 1 1 fun v1 => gR h (some th) 1 0 fun v2 => gI h v2 3 0 fun v3 => cv h v1 3 (fun a => f_Curve_clear N h a (v3 + (1 : Int32))) fun _ h5 => f_Bench_reshape_16 N   h5 th x1 x2 x3 x4
def f_Keepsake_showOn_93 (N : Nat) (rc15 : hS → Nat → Option Nat → Int32 → Int32 → Option (Unit × hS)) (h : hS) (th : Nat) (a1 : Option Nat) (x3 : Int32) (y0 : Int32) (y1 : Int32) : Option (Unit × hS) := bn ((y0 + y1)) fun v1 => bn (x3 + (1 : Int32)) fun v2 => rc15 h th a1 v1 v2
def f_Keepsake_showOn_79 (N : Nat) (rc15 : hS → Nat → Option Nat → Int32 → Int32 → Option (Unit × hS)) (h : hS) (th : Nat) (a1 : Option Nat) (x2 : Int32) (x3 : Int32) (x4 : Int64) : Option (Unit × hS) := if (lg_cmp x4 (0 : Int64)) = (0 : Int32) then (f_Keepsake_showOn_93 N rc15  h th a1 x3 x2 (64 : Int32)) else (f_Keepsake_showOn_93 N rc15  h th a1 x3 x2 (0 : Int32))
def f_Keepsake_showOn_73 (N : Nat) (rc15 : hS → Nat → Option Nat → Int32 → Int32 → Option (Unit × hS)) (rc35 : hS → Nat → Option Nat → Int32 → Int32 → Int64 → Int32 → Option (Unit × hS)) (h : hS) (th : Nat) (a1 : Option Nat) (x2 : Int32) (x3 : Int32) (x4 : Int64) (x6 : Int32) : Option (Unit × hS) := bn (x6 + (1 : Int32)) fun v1 => rc35 h th a1 x2 x3 x4 v1
def f_Keepsake_showOn_35 (N : Nat) (rc15 : hS → Nat → Option Nat → Int32 → Int32 → Option (Unit × hS)) : Nat → hS → Nat → Option Nat → Int32 → Int32 → Int64 → Int32 → Option (Unit × hS)
  | 0 => fun _ _ _ _ _ _ _ => none
  | n + 1 => fun h th a1 x2 x3 x4 x6 => if (64 : Int32) ≤ x6 then (f_Keepsake_showOn_79 N rc15  h th a1 x2 x3 x4) else (if (lg_cmp x4 (0 : Int64)) = (0 : Int32) then (f_Keepsake_showOn_79 N rc15  h th a1 x2 x3 x4) else (if (lg_cmp (((x4.toUInt64 >>> (x6.toInt64.toUInt64 &&& Int64.toUInt64 63)).toInt64) &&& (1 : Int64)) (1 : Int64)) = (0 : Int32) then (cv h a1 3 (fun a => f_Curve_append N h a x2 (1 : Int32)) fun _ h3 => f_Keepsake_showOn_73 N rc15 (f_Keepsake_showOn_35 N rc15 n)  h3 th a1 x2 x3 x4 x6) else (bn (x2 + (1 : Int32)) fun v1 => f_Keepsake_showOn_73 N rc15 (f_Keepsake_showOn_35 N rc15 n)  h th a1 v1 x3 x4 x6)))
def f_Keepsake_showOn_15 (N : Nat)  : Nat → hS → Nat → Option Nat → Int32 → Int32 → Option (Unit × hS)
  | 0 => fun _ _ _ _ _ => none
  | n + 1 => fun h th a1 x2 x3 => gR h (some th) 4 4 fun v1 => lnA h 51 v1 fun v2 => if v2 ≤ x3 then (gI h (some th) 4 2 fun v3 => pI h a1 3 2 v3 fun h4 => gJ h4 (some th) 4 3 fun v5 => pJ h4 a1 3 4 v5 fun h6 => some ((), h6)) else (gR h (some th) 4 4 fun v7 => aJ h v7 x3 fun v8 => f_Keepsake_showOn_35 N (f_Keepsake_showOn_15 N  n) N h th a1 x2 x3 v8 (0 : Int32))
def f_Keepsake_showOn_8 (N : Nat)  (h : hS) (th : Nat) (a1 : Option Nat) : Option (Unit × hS) := gI h (some th) 4 1 fun v1 => f_Keepsake_showOn_15 N  N h th a1 v1 (0 : Int32)
def f_Keepsake_showOn (N : Nat) (h : hS) (th : Nat) (a1 : Option Nat) : Option (Unit × hS) := gI h (some th) 4 0 fun v1 => cv h a1 3 (fun a => f_Curve_clear N h a v1) fun _ h3 => f_Keepsake_showOn_8 N   h3 th a1
theorem mo_Curve_init_8 (N : Nat)  : ∀  (h : hS) (th : Nat) (y0 : Option Nat) (y1 : Option Nat), Mo h (f_Curve_init_8 N   h th y0 y1) := by
  intro h th y0 y1
  unfold f_Curve_init_8
  refine Mo_pR (fun h1 => ?_)
  refine Mo_pI (fun h2 => ?_)
  refine Mo_pI (fun h3 => ?_)
  refine Mo_pI (fun h4 => ?_)
  refine Mo_pJ (fun h5 => ?_)
  exact Mo_some
theorem mo_Curve_init (N : Nat) (h : hS) (th : Nat) : Mo h (f_Curve_init N h th) := by
  unfold f_Curve_init
  refine Mo_nwA (fun q1 h2 => ?_)
  exact mo_Curve_init_8 N   h2 th (some th) (some q1)
theorem mo_Bench_init_45 (N : Nat)  : ∀  (h : hS) (th : Nat) (y0 : Option Nat) (y1 : Option Nat), Mo h (f_Bench_init_45 N   h th y0 y1) := by
  intro h th y0 y1
  unfold f_Bench_init_45
  refine Mo_pR (fun h1 => ?_)
  refine Mo_pI (fun h2 => ?_)
  exact Mo_some
theorem mo_Bench_init_41 (N : Nat)  : ∀  (h : hS) (th : Nat) (y0 : Option Nat) (y1 : Option Nat), Mo h (f_Bench_init_41 N   h th y0 y1) := by
  intro h th y0 y1
  unfold f_Bench_init_41
  refine Mo_nn (fun q3 => ?_)
  refine Mo_cl (mo_Curve_init N h q3 ) (fun v1 h2 => ?_)
  exact mo_Bench_init_45 N   h2 th y0 (some q3)
theorem mo_Bench_init_34 (N : Nat)  : ∀  (h : hS) (th : Nat) (y0 : Option Nat) (y1 : Option Nat), Mo h (f_Bench_init_34 N   h th y0 y1) := by
  intro h th y0 y1
  unfold f_Bench_init_34
  refine Mo_pR (fun h1 => ?_)
  refine Mo_nwO (fun q2 h3 => ?_)
  exact mo_Bench_init_41 N   h3 th (some th) (some q2)
theorem mo_Bench_init_30 (N : Nat)  : ∀  (h : hS) (th : Nat) (y0 : Option Nat) (y1 : Option Nat), Mo h (f_Bench_init_30 N   h th y0 y1) := by
  intro h th y0 y1
  unfold f_Bench_init_30
  refine Mo_nn (fun q3 => ?_)
  refine Mo_cl (mo_Curve_init N h q3 ) (fun v1 h2 => ?_)
  exact mo_Bench_init_34 N   h2 th y0 (some q3)
theorem mo_Bench_init_23 (N : Nat)  : ∀  (h : hS) (th : Nat) (y0 : Option Nat) (y1 : Option Nat), Mo h (f_Bench_init_23 N   h th y0 y1) := by
  intro h th y0 y1
  unfold f_Bench_init_23
  refine Mo_pR (fun h1 => ?_)
  refine Mo_nwO (fun q2 h3 => ?_)
  exact mo_Bench_init_30 N   h3 th (some th) (some q2)
theorem mo_Bench_init_19 (N : Nat)  : ∀  (h : hS) (th : Nat) (y0 : Option Nat) (y1 : Option Nat), Mo h (f_Bench_init_19 N   h th y0 y1) := by
  intro h th y0 y1
  unfold f_Bench_init_19
  refine Mo_nn (fun q3 => ?_)
  refine Mo_cl (mo_Curve_init N h q3 ) (fun v1 h2 => ?_)
  exact mo_Bench_init_23 N   h2 th y0 (some q3)
theorem mo_Bench_init_12 (N : Nat)  : ∀  (h : hS) (th : Nat) (y0 : Option Nat) (y1 : Option Nat), Mo h (f_Bench_init_12 N   h th y0 y1) := by
  intro h th y0 y1
  unfold f_Bench_init_12
  refine Mo_pR (fun h1 => ?_)
  refine Mo_nwO (fun q2 h3 => ?_)
  exact mo_Bench_init_19 N   h3 th (some th) (some q2)
theorem mo_Bench_init_8 (N : Nat)  : ∀  (h : hS) (th : Nat) (y0 : Option Nat) (y1 : Option Nat), Mo h (f_Bench_init_8 N   h th y0 y1) := by
  intro h th y0 y1
  unfold f_Bench_init_8
  refine Mo_nn (fun q3 => ?_)
  refine Mo_cl (mo_Curve_init N h q3 ) (fun v1 h2 => ?_)
  exact mo_Bench_init_12 N   h2 th y0 (some q3)
theorem mo_Bench_init (N : Nat) (h : hS) (th : Nat) : Mo h (f_Bench_init N h th) := by
  unfold f_Bench_init
  refine Mo_nwO (fun q1 h2 => ?_)
  exact mo_Bench_init_8 N   h2 th (some th) (some q1)
theorem mo_Curve_clear_42 (N : Nat)  : ∀  (h : hS) (th : Nat), Mo h (f_Curve_clear_42 N   h th) := by
  intro h th
  unfold f_Curve_clear_42
  refine Mo_pI (fun h1 => ?_)
  refine Mo_pI (fun h2 => ?_)
  refine Mo_pI (fun h3 => ?_)
  refine Mo_pJ (fun h4 => ?_)
  exact Mo_some
theorem mo_Curve_clear_39 (N : Nat)  : ∀  (h : hS) (th : Nat) (y0 : Option Nat) (y1 : Option Nat), Mo h (f_Curve_clear_39 N   h th y0 y1) := by
  intro h th y0 y1
  unfold f_Curve_clear_39
  refine Mo_pR (fun h1 => ?_)
  exact mo_Curve_clear_42 N   h1 th
theorem mo_Curve_clear_37 (N : Nat)  : ∀  (h : hS) (th : Nat) (y0 : Option Nat) (y1 : Int32), Mo h (f_Curve_clear_37 N   h th y0 y1) := by
  intro h th y0 y1
  unfold f_Curve_clear_37
  refine Mo_nwA (fun q1 h2 => ?_)
  exact mo_Curve_clear_39 N   h2 th y0 (some q1)
theorem mo_Curve_clear_23 (N : Nat)  : ∀  (h : hS) (th : Nat) (x1 : Int32) (y0 : Int32), Mo h (f_Curve_clear_23 N   h th x1 y0) := by
  intro h th x1 y0
  unfold f_Curve_clear_23
  refine Mo_ite ?_ ?_
  · exact mo_Curve_clear_37 N   h th (some th) y0
  · exact mo_Curve_clear_37 N   h th (some th) (5001 : Int32)
theorem mo_Curve_clear (N : Nat) (h : hS) (th : Nat) (x1 : Int32) : Mo h (f_Curve_clear N h th x1) := by
  unfold f_Curve_clear
  refine Mo_gR (fun v1 => ?_)
  refine Mo_lnA (fun v2 => ?_)
  refine Mo_ite ?_ ?_
  · exact mo_Curve_clear_42 N   h th
  · refine Mo_ite ?_ ?_
    · exact mo_Curve_clear_23 N   h th x1 (48 : Int32)
    · exact mo_Curve_clear_23 N   h th x1 (480 : Int32)
theorem mo_Bench_startAnew_8 (N : Nat)  : ∀  (h : hS) , Mo h (f_Bench_startAnew_8 N   h ) := by
  intro h 
  unfold f_Bench_startAnew_8
  exact Mo_some
theorem mo_Bench_startAnew (N : Nat) (h : hS) (th : Nat) : Mo h (f_Bench_startAnew N h th) := by
  unfold f_Bench_startAnew
  refine Mo_gR (fun v1 => ?_)
  refine Mo_cv (fun a => (mo_Curve_clear N h a (0 : Int32))) (fun v2 h3 => ?_)
  exact mo_Bench_startAnew_8 N   h3 
theorem mo_Curve_take_8 (N : Nat)  : ∀  (h : hS) (th : Nat) (a1 : Option Nat), Mo h (f_Curve_take_8 N   h th a1) := by
  intro h th a1
  unfold f_Curve_take_8
  refine Mo_gI (fun v1 => ?_)
  refine Mo_gR (fun v2 => ?_)
  refine Mo_lnA (fun v3 => ?_)
  refine Mo_gR (fun v4 => ?_)
  refine Mo_lnA (fun v5 => ?_)
  refine Mo_pI (fun h6 => ?_)
  refine Mo_gR (fun v7 => ?_)
  refine Mo_gR (fun v8 => ?_)
  refine Mo_gI (fun v9 => ?_)
  refine Mo_cpI (fun h10 => ?_)
  refine Mo_gI (fun v11 => ?_)
  refine Mo_pI (fun h12 => ?_)
  refine Mo_gI (fun v13 => ?_)
  refine Mo_pI (fun h14 => ?_)
  refine Mo_gJ (fun v15 => ?_)
  refine Mo_pJ (fun h16 => ?_)
  exact Mo_some
theorem mo_Curve_take (N : Nat) (h : hS) (th : Nat) (a1 : Option Nat) : Mo h (f_Curve_take N h th a1) := by
  unfold f_Curve_take
  refine Mo_gI (fun v1 => ?_)
  refine Mo_cv (fun a => (mo_Curve_clear N h a v1)) (fun v2 h3 => ?_)
  exact mo_Curve_take_8 N   h3 th a1
theorem mo_Bench_startWith_8 (N : Nat)  : ∀  (h : hS) , Mo h (f_Bench_startWith_8 N   h ) := by
  intro h 
  unfold f_Bench_startWith_8
  exact Mo_some
theorem mo_Bench_startWith (N : Nat) (h : hS) (th : Nat) (a1 : Option Nat) : Mo h (f_Bench_startWith N h th a1) := by
  unfold f_Bench_startWith
  refine Mo_gR (fun v1 => ?_)
  refine Mo_cv (fun a => (mo_Curve_take N h a a1)) (fun v2 h3 => ?_)
  exact mo_Bench_startWith_8 N   h3 
theorem sh_Chain_stepAt_31 (N : Nat)  : ∀  (h : hS) (y0 : Option Nat), Sh h (f_Chain_stepAt_31 N   h y0) := by
  intro h y0
  unfold f_Chain_stepAt_31
  exact Sh_some
theorem sh_Chain_stepAt_30 (N : Nat)  : ∀  (h : hS) , Sh h (f_Chain_stepAt_30 N   h ) := by
  intro h 
  unfold f_Chain_stepAt_30
  exact sh_Chain_stepAt_31 N   h none
theorem sh_Chain_stepAt (N : Nat) (h : hS) (th : Nat) (x1 : Int32) : Sh h (f_Chain_stepAt N h th x1) := by
  unfold f_Chain_stepAt
  refine Sh_ite ?_ ?_
  · exact sh_Chain_stepAt_30 N   h 
  · refine Sh_gI (fun v1 => ?_)
    refine Sh_ite ?_ ?_
    · exact sh_Chain_stepAt_30 N   h 
    · refine Sh_gR (fun v2 => ?_)
      refine Sh_lnA (fun v3 => ?_)
      refine Sh_ite ?_ ?_
      · exact sh_Chain_stepAt_30 N   h 
      · refine Sh_gR (fun v4 => ?_)
        refine Sh_aR (fun v5 => ?_)
        exact sh_Chain_stepAt_31 N   h v5
theorem sh_Curve_placeOf_34 (N : Nat)  : ∀  (h : hS) (y0 : Int32), Sh h (f_Curve_placeOf_34 N   h y0) := by
  intro h y0
  unfold f_Curve_placeOf_34
  exact Sh_some
theorem sh_Curve_placeOf_33 (N : Nat)  : ∀  (h : hS) , Sh h (f_Curve_placeOf_33 N   h ) := by
  intro h 
  unfold f_Curve_placeOf_33
  exact sh_Curve_placeOf_34 N   h (0 : Int32)
theorem sh_Curve_placeOf (N : Nat) (h : hS) (th : Nat) (x1 : Int32) : Sh h (f_Curve_placeOf N h th x1) := by
  unfold f_Curve_placeOf
  refine Sh_ite ?_ ?_
  · exact sh_Curve_placeOf_33 N   h 
  · refine Sh_gI (fun v1 => ?_)
    refine Sh_ite ?_ ?_
    · exact sh_Curve_placeOf_33 N   h 
    · refine Sh_gR (fun v2 => ?_)
      refine Sh_lnA (fun v3 => ?_)
      refine Sh_ite ?_ ?_
      · exact sh_Curve_placeOf_33 N   h 
      · refine Sh_gR (fun v4 => ?_)
        refine Sh_aI (fun v5 => ?_)
        exact sh_Curve_placeOf_34 N   h (v5 >>> ((13 : Int32) &&& 31))
theorem sh_Curve_append_113 (N : Nat)  : ∀  (h : hS) , Sh h (f_Curve_append_113 N   h ) := by
  intro h 
  unfold f_Curve_append_113
  exact Sh_some
theorem sh_Curve_append_66 (N : Nat)  : ∀  (h : hS) (th : Nat) (x1 : Int32) (x2 : Int32), Sh h (f_Curve_append_66 N   h th x1 x2) := by
  intro h th x1 x2
  unfold f_Curve_append_66
  refine Sh_gI (fun v1 => ?_)
  refine Sh_gR (fun v2 => ?_)
  refine Sh_lnA (fun v3 => ?_)
  refine Sh_ite ?_ ?_
  · exact sh_Curve_append_113 N   h 
  · refine Sh_gR (fun v4 => ?_)
    refine Sh_gI (fun v5 => ?_)
    refine Sh_uI (fun h6 => ?_)
    refine Sh_gI (fun v7 => ?_)
    refine Sh_pI (fun h8 => ?_)
    refine Sh_gI (fun v9 => ?_)
    refine Sh_pI (fun h10 => ?_)
    exact sh_Curve_append_113 N   h10 
theorem sh_Curve_append (N : Nat) (h : hS) (th : Nat) (x1 : Int32) (x2 : Int32) : Sh h (f_Curve_append N h th x1 x2) := by
  unfold f_Curve_append
  refine Sh_ite ?_ ?_
  · refine Sh_gI (fun v1 => ?_)
    refine Sh_ite ?_ ?_
    · exact sh_Curve_append_66 N   h th x1 x2
    · refine Sh_gI (fun v2 => ?_)
      refine Sh_gR (fun v3 => ?_)
      refine Sh_lnA (fun v4 => ?_)
      refine Sh_ite ?_ ?_
      · exact sh_Curve_append_66 N   h th x1 x2
      · refine Sh_gI (fun v5 => ?_)
        refine Sh_cv (fun a => (sh_Curve_placeOf N h a (v5 - (1 : Int32)))) (fun v6 h7 => ?_)
        refine Sh_ite ?_ ?_
        · refine Sh_gR (fun v8 => ?_)
          refine Sh_gI (fun v9 => ?_)
          refine Sh_aI (fun v10 => ?_)
          refine Sh_uI (fun h11 => ?_)
          refine Sh_gI (fun v12 => ?_)
          refine Sh_pI (fun h13 => ?_)
          exact sh_Curve_append_113 N   h13 
        · exact sh_Curve_append_66 N   h7 th x1 x2
  · exact Sh_some
theorem mo_Curve_becomeKink_5 (N : Nat)  : ∀  (h : hS) (th : Nat) (x1 : Int32) (x2 : Int32) (x3 : Int32), Mo h (f_Curve_becomeKink_5 N   h th x1 x2 x3) := by
  intro h th x1 x2 x3
  unfold f_Curve_becomeKink_5
  refine Mo_cv (fun a => (Sh.mo (sh_Curve_append N h a x1 x2))) (fun v1 h2 => ?_)
  refine Mo_pI (fun h3 => ?_)
  exact Mo_some
theorem mo_Curve_becomeKink (N : Nat) (h : hS) (th : Nat) (x1 : Int32) (x2 : Int32) (x3 : Int32) : Mo h (f_Curve_becomeKink N h th x1 x2 x3) := by
  unfold f_Curve_becomeKink
  refine Mo_cv (fun a => (mo_Curve_clear N h a (1 : Int32))) (fun v1 h2 => ?_)
  exact mo_Curve_becomeKink_5 N   h2 th x1 x2 x3
theorem sh_Curve_weightOf_35 (N : Nat)  : ∀  (h : hS) (y0 : Int32), Sh h (f_Curve_weightOf_35 N   h y0) := by
  intro h y0
  unfold f_Curve_weightOf_35
  exact Sh_some
theorem sh_Curve_weightOf_34 (N : Nat)  : ∀  (h : hS) , Sh h (f_Curve_weightOf_34 N   h ) := by
  intro h 
  unfold f_Curve_weightOf_34
  exact sh_Curve_weightOf_35 N   h (0 : Int32)
theorem sh_Curve_weightOf (N : Nat) (h : hS) (th : Nat) (x1 : Int32) : Sh h (f_Curve_weightOf N h th x1) := by
  unfold f_Curve_weightOf
  refine Sh_ite ?_ ?_
  · exact sh_Curve_weightOf_34 N   h 
  · refine Sh_gI (fun v1 => ?_)
    refine Sh_ite ?_ ?_
    · exact sh_Curve_weightOf_34 N   h 
    · refine Sh_gR (fun v2 => ?_)
      refine Sh_lnA (fun v3 => ?_)
      refine Sh_ite ?_ ?_
      · exact sh_Curve_weightOf_34 N   h 
      · refine Sh_gR (fun v4 => ?_)
        refine Sh_aI (fun v5 => ?_)
        exact sh_Curve_weightOf_35 N   h (v5 &&& (8191 : Int32))
theorem sh_Curve_someLowest_7 (N : Nat)  : ∀ (n : Nat) (h : hS) (th : Nat) (x1 : Int32) (x2 : Int32), Sh h (f_Curve_someLowest_7 N  n h th x1 x2) := by
  intro n
  induction n with
  | zero =>
    intro h th x1 x2
    exact Sh_none
  | succ n ih =>
    intro h th x1 x2
    unfold f_Curve_someLowest_7
    refine Sh_gI (fun v1 => ?_)
    refine Sh_ite ?_ ?_
    · exact Sh_some
    · refine Sh_cv (fun a => (sh_Curve_weightOf N h a x2)) (fun v2 h3 => ?_)
      refine Sh_bn (fun v4 => ?_)
      refine Sh_ite ?_ ?_
      · refine Sh_bn (fun v5 => ?_)
        exact ih h3 th v4 v5
      · refine Sh_cv (fun a => (sh_Curve_placeOf N h3 a x2)) (fun v6 h7 => ?_)
        exact Sh_some
theorem sh_Curve_someLowest (N : Nat) (h : hS) (th : Nat) : Sh h (f_Curve_someLowest N h th) := by
  unfold f_Curve_someLowest
  refine Sh_gI (fun v1 => ?_)
  exact sh_Curve_someLowest_7 N  N h th v1 (0 : Int32)
theorem sh_Curve_valueAt_86 (N : Nat) {rc14 : hS → Nat → Int32 → Int64 → Int32 → Int32 → Option (Int64 × hS)} (hsh14 : ∀ (h : hS) (th : Nat) (x1 : Int32) (x2 : Int64) (x4 : Int32) (x5 : Int32), Sh h (rc14 h th x1 x2 x4 x5)) : ∀  (h : hS) (th : Nat) (x1 : Int32) (x4 : Int32) (x5 : Int32) (y0 : Int64) (y1 : Int64), Sh h (f_Curve_valueAt_86 N rc14  h th x1 x4 x5 y0 y1) := by
  intro h th x1 x4 x5 y0 y1
  unfold f_Curve_valueAt_86
  refine Sh_bn (fun v1 => ?_)
  refine Sh_bn (fun v2 => ?_)
  exact hsh14 h th x1 v1 x4 v2
theorem sh_Curve_valueAt_14 (N : Nat)  : ∀ (n : Nat) (h : hS) (th : Nat) (x1 : Int32) (x2 : Int64) (x4 : Int32) (x5 : Int32), Sh h (f_Curve_valueAt_14 N  n h th x1 x2 x4 x5) := by
  intro n
  induction n with
  | zero =>
    intro h th x1 x2 x4 x5
    exact Sh_none
  | succ n ih =>
    intro h th x1 x2 x4 x5
    unfold f_Curve_valueAt_14
    refine Sh_gI (fun v1 => ?_)
    refine Sh_ite ?_ ?_
    · exact Sh_some
    · refine Sh_cv (fun a => (sh_Curve_weightOf N h a x5)) (fun v2 h3 => ?_)
      refine Sh_bn (fun v4 => ?_)
      refine Sh_bn (fun v5 => ?_)
      refine Sh_cv (fun a => (sh_Curve_placeOf N h3 a x5)) (fun v6 h7 => ?_)
      refine Sh_bn (fun v8 => ?_)
      refine Sh_ite ?_ ?_
      · exact sh_Curve_valueAt_86 N ih  h7 th x1 v5 x5 x2 (v8 * ((v2 - v4).toInt64))
      · exact sh_Curve_valueAt_86 N ih  h7 th x1 v5 x5 x2 ((-v8) * v4.toInt64)
theorem sh_Curve_valueAt (N : Nat) (h : hS) (th : Nat) (x1 : Int32) : Sh h (f_Curve_valueAt N h th x1) := by
  unfold f_Curve_valueAt
  refine Sh_gJ (fun v1 => ?_)
  refine Sh_gI (fun v2 => ?_)
  exact sh_Curve_valueAt_14 N  N h th x1 v1 v2 (0 : Int32)
theorem sh_Bench_swap (N : Nat) (h : hS) (th : Nat) : Sh h (f_Bench_swap N h th) := by
  unfold f_Bench_swap
  refine Sh_gR (fun v1 => ?_)
  refine Sh_gR (fun v2 => ?_)
  refine Sh_pR (fun h3 => ?_)
  refine Sh_pR (fun h4 => ?_)
  exact Sh_some
theorem sh_Curve_isTooMuch_21 (N : Nat)  : ∀  (h : hS) , Sh h (f_Curve_isTooMuch_21 N   h ) := by
  intro h 
  unfold f_Curve_isTooMuch_21
  exact Sh_bz Sh_some
theorem sh_Curve_isTooMuch_62 (N : Nat)  : ∀  (h : hS) (y0 : Int32), Sh h (f_Curve_isTooMuch_62 N   h y0) := by
  intro h y0
  unfold f_Curve_isTooMuch_62
  exact Sh_bz Sh_some
theorem sh_Curve_isTooMuch_61 (N : Nat)  : ∀  (h : hS) , Sh h (f_Curve_isTooMuch_61 N   h ) := by
  intro h 
  unfold f_Curve_isTooMuch_61
  exact sh_Curve_isTooMuch_62 N   h (0 : Int32)
theorem sh_Curve_isTooMuch_57 (N : Nat)  : ∀  (h : hS) , Sh h (f_Curve_isTooMuch_57 N   h ) := by
  intro h 
  unfold f_Curve_isTooMuch_57
  exact sh_Curve_isTooMuch_62 N   h (1 : Int32)
theorem sh_Curve_isTooMuch (N : Nat) (h : hS) (th : Nat) : Sh h (f_Curve_isTooMuch N h th) := by
  unfold f_Curve_isTooMuch
  refine Sh_gI (fun v1 => ?_)
  refine Sh_ite ?_ ?_
  · exact sh_Curve_isTooMuch_21 N   h 
  · refine Sh_gJ (fun v2 => ?_)
    refine Sh_ite ?_ ?_
    · refine Sh_gI (fun v3 => ?_)
      refine Sh_ite ?_ ?_
      · exact sh_Curve_isTooMuch_61 N   h 
      · refine Sh_cv (fun a => (sh_Curve_placeOf N h a (0 : Int32))) (fun v4 h5 => ?_)
        refine Sh_ite ?_ ?_
        · exact sh_Curve_isTooMuch_57 N   h5 
        · refine Sh_gI (fun v6 => ?_)
          refine Sh_cv (fun a => (sh_Curve_placeOf N h5 a (v6 - (1 : Int32)))) (fun v7 h8 => ?_)
          refine Sh_ite ?_ ?_
          · exact sh_Curve_isTooMuch_61 N   h8 
          · exact sh_Curve_isTooMuch_57 N   h8 
    · exact sh_Curve_isTooMuch_21 N   h 
theorem mo_Bench_add_238 (N : Nat)  : ∀  (h : hS) (y0 : Int32), Mo h (f_Bench_add_238 N   h y0) := by
  intro h y0
  unfold f_Bench_add_238
  exact Mo_bz Mo_some
theorem mo_Bench_add_156 (N : Nat) {rc54 : hS → Nat → Int32 → Int32 → Int32 → Int32 → Option (Int32 × hS)} (hsh54 : ∀ (h : hS) (th : Nat) (x1 : Int32) (x2 : Int32) (x3 : Int32) (x4 : Int32), Mo h (rc54 h th x1 x2 x3 x4)) : ∀  (h : hS) (th : Nat) (x1 : Int32) (x2 : Int32) (x3 : Int32) (x4 : Int32), Mo h (f_Bench_add_156 N rc54  h th x1 x2 x3 x4) := by
  intro h th x1 x2 x3 x4
  unfold f_Bench_add_156
  refine Mo_bn (fun v1 => ?_)
  exact hsh54 h th x1 x2 x3 v1
theorem mo_Bench_add_101 (N : Nat) {rc54 : hS → Nat → Int32 → Int32 → Int32 → Int32 → Option (Int32 × hS)} (hsh54 : ∀ (h : hS) (th : Nat) (x1 : Int32) (x2 : Int32) (x3 : Int32) (x4 : Int32), Mo h (rc54 h th x1 x2 x3 x4)) : ∀  (h : hS) (th : Nat) (x1 : Int32) (x2 : Int32) (x3 : Int32) (x4 : Int32), Mo h (f_Bench_add_101 N rc54  h th x1 x2 x3 x4) := by
  intro h th x1 x2 x3 x4
  unfold f_Bench_add_101
  refine Mo_gR (fun v1 => ?_)
  refine Mo_gR (fun v2 => ?_)
  refine Mo_cv (fun a => (Sh.mo (sh_Curve_placeOf N h a x2))) (fun v3 h4 => ?_)
  refine Mo_gR (fun v5 => ?_)
  refine Mo_cv (fun a => (Sh.mo (sh_Curve_weightOf N h4 a x2))) (fun v6 h7 => ?_)
  refine Mo_cv (fun a => (Sh.mo (sh_Curve_append N h7 a v3 v6))) (fun v8 h9 => ?_)
  refine Mo_bn (fun v10 => ?_)
  exact mo_Bench_add_156 N hsh54  h9 th x1 v10 x3 x4
theorem mo_Bench_add_130 (N : Nat) {rc54 : hS → Nat → Int32 → Int32 → Int32 → Int32 → Option (Int32 × hS)} (hsh54 : ∀ (h : hS) (th : Nat) (x1 : Int32) (x2 : Int32) (x3 : Int32) (x4 : Int32), Mo h (rc54 h th x1 x2 x3 x4)) : ∀  (h : hS) (th : Nat) (x1 : Int32) (x2 : Int32) (x3 : Int32) (x4 : Int32), Mo h (f_Bench_add_130 N rc54  h th x1 x2 x3 x4) := by
  intro h th x1 x2 x3 x4
  unfold f_Bench_add_130
  refine Mo_gR (fun v1 => ?_)
  refine Mo_gR (fun v2 => ?_)
  refine Mo_cv (fun a => (Sh.mo (sh_Curve_placeOf N h a x3))) (fun v3 h4 => ?_)
  refine Mo_gR (fun v5 => ?_)
  refine Mo_cv (fun a => (Sh.mo (sh_Curve_weightOf N h4 a x3))) (fun v6 h7 => ?_)
  refine Mo_cv (fun a => (Sh.mo (sh_Curve_append N h7 a v3 v6))) (fun v8 h9 => ?_)
  refine Mo_bn (fun v10 => ?_)
  exact mo_Bench_add_156 N hsh54  h9 th x1 x2 v10 x4
theorem mo_Bench_add_54 (N : Nat)  : ∀ (n : Nat) (h : hS) (th : Nat) (x1 : Int32) (x2 : Int32) (x3 : Int32) (x4 : Int32), Mo h (f_Bench_add_54 N  n h th x1 x2 x3 x4) := by
  intro n
  induction n with
  | zero =>
    intro h th x1 x2 x3 x4
    exact Mo_none
  | succ n ih =>
    intro h th x1 x2 x3 x4
    unfold f_Bench_add_54
    refine Mo_ite ?_ ?_
    · refine Mo_gR (fun v1 => ?_)
      refine Mo_gR (fun v2 => ?_)
      refine Mo_gI (fun v3 => ?_)
      refine Mo_gR (fun v4 => ?_)
      refine Mo_gI (fun v5 => ?_)
      refine Mo_pI (fun h6 => ?_)
      refine Mo_gR (fun v7 => ?_)
      refine Mo_cv (fun a => (Sh.mo (sh_Curve_someLowest N h6 a ))) (fun v8 h9 => ?_)
      refine Mo_gR (fun v10 => ?_)
      refine Mo_gR (fun v11 => ?_)
      refine Mo_cv (fun a => (Sh.mo (sh_Curve_valueAt N h9 a v8))) (fun v12 h13 => ?_)
      refine Mo_gR (fun v14 => ?_)
      refine Mo_cv (fun a => (Sh.mo (sh_Curve_valueAt N h13 a v8))) (fun v15 h16 => ?_)
      refine Mo_pJ (fun h17 => ?_)
      refine Mo_cv (fun a => (Sh.mo (sh_Bench_swap N h17 a ))) (fun v18 h19 => ?_)
      refine Mo_gR (fun v20 => ?_)
      refine Mo_cv (fun a => (Sh.mo (sh_Curve_isTooMuch N h19 a ))) (fun v21 h22 => ?_)
      refine Mo_ite ?_ ?_
      · exact mo_Bench_add_238 N   h22 (1 : Int32)
      · exact mo_Bench_add_238 N   h22 (0 : Int32)
    · refine Mo_gR (fun v23 => ?_)
      refine Mo_gI (fun v24 => ?_)
      refine Mo_ite ?_ ?_
      · exact mo_Bench_add_101 N ih  h th x1 x2 x3 x4
      · refine Mo_gR (fun v25 => ?_)
        refine Mo_gI (fun v26 => ?_)
        refine Mo_ite ?_ ?_
        · exact mo_Bench_add_130 N ih  h th x1 x2 x3 x4
        · refine Mo_gR (fun v27 => ?_)
          refine Mo_cv (fun a => (Sh.mo (sh_Curve_placeOf N h a x2))) (fun v28 h29 => ?_)
          refine Mo_gR (fun v30 => ?_)
          refine Mo_cv (fun a => (Sh.mo (sh_Curve_placeOf N h29 a x3))) (fun v31 h32 => ?_)
          refine Mo_ite ?_ ?_
          · exact mo_Bench_add_130 N ih  h32 th x1 x2 x3 x4
          · exact mo_Bench_add_101 N ih  h32 th x1 x2 x3 x4
theorem mo_Bench_add_47 (N : Nat)  : ∀  (h : hS) (th : Nat) (x1 : Int32), Mo h (f_Bench_add_47 N   h th x1) := by
  intro h th x1
  unfold f_Bench_add_47
  exact mo_Bench_add_54 N  N h th x1 (0 : Int32) (0 : Int32) (0 : Int32)
theorem mo_Bench_add (N : Nat) (h : hS) (th : Nat) : Mo h (f_Bench_add N h th) := by
  unfold f_Bench_add
  refine Mo_gR (fun v1 => ?_)
  refine Mo_gI (fun v2 => ?_)
  refine Mo_gR (fun v3 => ?_)
  refine Mo_gI (fun v4 => ?_)
  refine Mo_ite ?_ ?_
  · refine Mo_gR (fun v5 => ?_)
    refine Mo_gI (fun v6 => ?_)
    refine Mo_gR (fun v7 => ?_)
    refine Mo_gI (fun v8 => ?_)
    refine Mo_bn (fun v9 => ?_)
    refine Mo_gR (fun v10 => ?_)
    refine Mo_cv (fun a => (mo_Curve_clear N h a v9)) (fun v11 h12 => ?_)
    exact mo_Bench_add_47 N   h12 th v9
  · exact Mo_bz Mo_some
theorem mo_Bench_reshape_155 (N : Nat)  : ∀  (h : hS) (th : Nat) (y0 : Option Nat) (y1 : Int32), Mo h (f_Bench_reshape_155 N   h th y0 y1) := by
  intro h th y0 y1
  unfold f_Bench_reshape_155
  refine Mo_pI (fun h1 => ?_)
  refine Mo_gR (fun v2 => ?_)
  refine Mo_gR (fun v3 => ?_)
  refine Mo_gJ (fun v4 => ?_)
  refine Mo_pJ (fun h5 => ?_)
  refine Mo_cv (fun a => (Sh.mo (sh_Bench_swap N h5 a ))) (fun v6 h7 => ?_)
  exact Mo_some
theorem mo_Bench_reshape_127 (N : Nat) {rc28 : hS → Nat → Int32 → Int32 → Int32 → Int32 → Int32 → Int32 → Option (Unit × hS)} (hsh28 : ∀ (h : hS) (th : Nat) (x1 : Int32) (x2 : Int32) (x3 : Int32) (x4 : Int32) (x5 : Int32) (x6 : Int32), Mo h (rc28 h th x1 x2 x3 x4 x5 x6)) : ∀  (h : hS) (th : Nat) (x1 : Int32) (x2 : Int32) (x3 : Int32) (x4 : Int32) (x5 : Int32) (x6 : Int32) (y0 : Option Nat) (y1 : Int32) (y2 : Int32), Mo h (f_Bench_reshape_127 N rc28  h th x1 x2 x3 x4 x5 x6 y0 y1 y2) := by
  intro h th x1 x2 x3 x4 x5 x6 y0 y1 y2
  unfold f_Bench_reshape_127
  refine Mo_cv (fun a => (Sh.mo (sh_Curve_append N h a y1 y2))) (fun v1 h2 => ?_)
  refine Mo_bn (fun v3 => ?_)
  exact hsh28 h2 th x1 x2 x3 x4 x5 v3
theorem mo_Bench_reshape_88 (N : Nat) {rc28 : hS → Nat → Int32 → Int32 → Int32 → Int32 → Int32 → Int32 → Option (Unit × hS)} (hsh28 : ∀ (h : hS) (th : Nat) (x1 : Int32) (x2 : Int32) (x3 : Int32) (x4 : Int32) (x5 : Int32) (x6 : Int32), Mo h (rc28 h th x1 x2 x3 x4 x5 x6)) : ∀  (h : hS) (th : Nat) (x1 : Int32) (x2 : Int32) (x3 : Int32) (x4 : Int32) (x5 : Int32) (x6 : Int32) (x7 : Int32) (y0 : Option Nat) (y1 : Int32) (y2 : Int32), Mo h (f_Bench_reshape_88 N rc28  h th x1 x2 x3 x4 x5 x6 x7 y0 y1 y2) := by
  intro h th x1 x2 x3 x4 x5 x6 x7 y0 y1 y2
  unfold f_Bench_reshape_88
  refine Mo_cv (fun a => (Sh.mo (sh_Curve_append N h a y1 y2))) (fun v1 h2 => ?_)
  refine Mo_gR (fun v3 => ?_)
  refine Mo_gR (fun v4 => ?_)
  refine Mo_cv (fun a => (Sh.mo (sh_Curve_placeOf N h2 a x6))) (fun v5 h6 => ?_)
  refine Mo_ite ?_ ?_
  · exact mo_Bench_reshape_127 N hsh28  h6 th x1 x2 x3 x4 x5 x6 v3 (v5 + x4) (0 : Int32)
  · refine Mo_gR (fun v7 => ?_)
    refine Mo_cv (fun a => (Sh.mo (sh_Curve_weightOf N h6 a x6))) (fun v8 h9 => ?_)
    exact mo_Bench_reshape_127 N hsh28  h9 th x1 x2 x3 x4 x5 x6 v3 (v5 + x4) (v8 - x7)
theorem mo_Bench_reshape_28 (N : Nat)  : ∀ (n : Nat) (h : hS) (th : Nat) (x1 : Int32) (x2 : Int32) (x3 : Int32) (x4 : Int32) (x5 : Int32) (x6 : Int32), Mo h (f_Bench_reshape_28 N  n h th x1 x2 x3 x4 x5 x6) := by
  intro n
  induction n with
  | zero =>
    intro h th x1 x2 x3 x4 x5 x6
    exact Mo_none
  | succ n ih =>
    intro h th x1 x2 x3 x4 x5 x6
    unfold f_Bench_reshape_28
    refine Mo_gR (fun v1 => ?_)
    refine Mo_gI (fun v2 => ?_)
    refine Mo_ite ?_ ?_
    · refine Mo_gR (fun v3 => ?_)
      refine Mo_ite ?_ ?_
      · exact mo_Bench_reshape_155 N   h th v3 (0 : Int32)
      · refine Mo_gR (fun v4 => ?_)
        refine Mo_gI (fun v5 => ?_)
        exact mo_Bench_reshape_155 N   h th v3 v5
    · refine Mo_gR (fun v6 => ?_)
      refine Mo_cv (fun a => (Sh.mo (sh_Curve_weightOf N h a x6))) (fun v7 h8 => ?_)
      refine Mo_bn (fun v9 => ?_)
      refine Mo_bn (fun v10 => ?_)
      refine Mo_gR (fun v11 => ?_)
      refine Mo_gR (fun v12 => ?_)
      refine Mo_cv (fun a => (Sh.mo (sh_Curve_placeOf N h8 a x6))) (fun v13 h14 => ?_)
      refine Mo_ite ?_ ?_
      · exact mo_Bench_reshape_88 N ih  h14 th x1 x2 x3 x4 v10 x6 v9 v11 (v13 - x3) (0 : Int32)
      · exact mo_Bench_reshape_88 N ih  h14 th x1 x2 x3 x4 v10 x6 v9 v11 (v13 - x3) v9
theorem mo_Bench_reshape_16 (N : Nat)  : ∀  (h : hS) (th : Nat) (x1 : Int32) (x2 : Int32) (x3 : Int32) (x4 : Int32), Mo h (f_Bench_reshape_16 N   h th x1 x2 x3 x4) := by
  intro h th x1 x2 x3 x4
  unfold f_Bench_reshape_16
  refine Mo_gR (fun v1 => ?_)
  refine Mo_gI (fun v2 => ?_)
  exact mo_Bench_reshape_28 N  N h th x1 x2 x3 x4 v2 (0 : Int32)
theorem mo_Bench_reshape (N : Nat) (h : hS) (th : Nat) (x1 : Int32) (x2 : Int32) (x3 : Int32) (x4 : Int32) : Mo h (f_Bench_reshape N h th x1 x2 x3 x4) := by
  unfold f_Bench_reshape
  refine Mo_gR (fun v1 => ?_)
  refine Mo_gR (fun v2 => ?_)
  refine Mo_gI (fun v3 => ?_)
  refine Mo_cv (fun a => (mo_Curve_clear N h a (v3 + (1 : Int32)))) (fun v4 h5 => ?_)
  exact mo_Bench_reshape_16 N   h5 th x1 x2 x3 x4
theorem mo_Keepsake_showOn_93 (N : Nat) {rc15 : hS → Nat → Option Nat → Int32 → Int32 → Option (Unit × hS)} (hsh15 : ∀ (h : hS) (th : Nat) (a1 : Option Nat) (x2 : Int32) (x3 : Int32), Mo h (rc15 h th a1 x2 x3)) : ∀  (h : hS) (th : Nat) (a1 : Option Nat) (x3 : Int32) (y0 : Int32) (y1 : Int32), Mo h (f_Keepsake_showOn_93 N rc15  h th a1 x3 y0 y1) := by
  intro h th a1 x3 y0 y1
  unfold f_Keepsake_showOn_93
  refine Mo_bn (fun v1 => ?_)
  refine Mo_bn (fun v2 => ?_)
  exact hsh15 h th a1 v1 v2
theorem mo_Keepsake_showOn_79 (N : Nat) {rc15 : hS → Nat → Option Nat → Int32 → Int32 → Option (Unit × hS)} (hsh15 : ∀ (h : hS) (th : Nat) (a1 : Option Nat) (x2 : Int32) (x3 : Int32), Mo h (rc15 h th a1 x2 x3)) : ∀  (h : hS) (th : Nat) (a1 : Option Nat) (x2 : Int32) (x3 : Int32) (x4 : Int64), Mo h (f_Keepsake_showOn_79 N rc15  h th a1 x2 x3 x4) := by
  intro h th a1 x2 x3 x4
  unfold f_Keepsake_showOn_79
  refine Mo_ite ?_ ?_
  · exact mo_Keepsake_showOn_93 N hsh15  h th a1 x3 x2 (64 : Int32)
  · exact mo_Keepsake_showOn_93 N hsh15  h th a1 x3 x2 (0 : Int32)
theorem mo_Keepsake_showOn_73 (N : Nat) {rc15 : hS → Nat → Option Nat → Int32 → Int32 → Option (Unit × hS)} (hsh15 : ∀ (h : hS) (th : Nat) (a1 : Option Nat) (x2 : Int32) (x3 : Int32), Mo h (rc15 h th a1 x2 x3)) {rc35 : hS → Nat → Option Nat → Int32 → Int32 → Int64 → Int32 → Option (Unit × hS)} (hsh35 : ∀ (h : hS) (th : Nat) (a1 : Option Nat) (x2 : Int32) (x3 : Int32) (x4 : Int64) (x6 : Int32), Mo h (rc35 h th a1 x2 x3 x4 x6)) : ∀  (h : hS) (th : Nat) (a1 : Option Nat) (x2 : Int32) (x3 : Int32) (x4 : Int64) (x6 : Int32), Mo h (f_Keepsake_showOn_73 N rc15 rc35  h th a1 x2 x3 x4 x6) := by
  intro h th a1 x2 x3 x4 x6
  unfold f_Keepsake_showOn_73
  refine Mo_bn (fun v1 => ?_)
  exact hsh35 h th a1 x2 x3 x4 v1
theorem mo_Keepsake_showOn_35 (N : Nat) {rc15 : hS → Nat → Option Nat → Int32 → Int32 → Option (Unit × hS)} (hsh15 : ∀ (h : hS) (th : Nat) (a1 : Option Nat) (x2 : Int32) (x3 : Int32), Mo h (rc15 h th a1 x2 x3)) : ∀ (n : Nat) (h : hS) (th : Nat) (a1 : Option Nat) (x2 : Int32) (x3 : Int32) (x4 : Int64) (x6 : Int32), Mo h (f_Keepsake_showOn_35 N rc15 n h th a1 x2 x3 x4 x6) := by
  intro n
  induction n with
  | zero =>
    intro h th a1 x2 x3 x4 x6
    exact Mo_none
  | succ n ih =>
    intro h th a1 x2 x3 x4 x6
    unfold f_Keepsake_showOn_35
    refine Mo_ite ?_ ?_
    · exact mo_Keepsake_showOn_79 N hsh15  h th a1 x2 x3 x4
    · refine Mo_ite ?_ ?_
      · exact mo_Keepsake_showOn_79 N hsh15  h th a1 x2 x3 x4
      · refine Mo_ite ?_ ?_
        · refine Mo_cv (fun a => (Sh.mo (sh_Curve_append N h a x2 (1 : Int32)))) (fun v2 h3 => ?_)
          exact mo_Keepsake_showOn_73 N hsh15 ih  h3 th a1 x2 x3 x4 x6
        · refine Mo_bn (fun v1 => ?_)
          exact mo_Keepsake_showOn_73 N hsh15 ih  h th a1 v1 x3 x4 x6
theorem mo_Keepsake_showOn_15 (N : Nat)  : ∀ (n : Nat) (h : hS) (th : Nat) (a1 : Option Nat) (x2 : Int32) (x3 : Int32), Mo h (f_Keepsake_showOn_15 N  n h th a1 x2 x3) := by
  intro n
  induction n with
  | zero =>
    intro h th a1 x2 x3
    exact Mo_none
  | succ n ih =>
    intro h th a1 x2 x3
    unfold f_Keepsake_showOn_15
    refine Mo_gR (fun v1 => ?_)
    refine Mo_lnA (fun v2 => ?_)
    refine Mo_ite ?_ ?_
    · refine Mo_gI (fun v3 => ?_)
      refine Mo_pI (fun h4 => ?_)
      refine Mo_gJ (fun v5 => ?_)
      refine Mo_pJ (fun h6 => ?_)
      exact Mo_some
    · refine Mo_gR (fun v7 => ?_)
      refine Mo_aJ (kd := 0) (fun v8 => ?_)
      exact mo_Keepsake_showOn_35 N ih N h th a1 x2 x3 v8 (0 : Int32)
theorem mo_Keepsake_showOn_8 (N : Nat)  : ∀  (h : hS) (th : Nat) (a1 : Option Nat), Mo h (f_Keepsake_showOn_8 N   h th a1) := by
  intro h th a1
  unfold f_Keepsake_showOn_8
  refine Mo_gI (fun v1 => ?_)
  exact mo_Keepsake_showOn_15 N  N h th a1 v1 (0 : Int32)
theorem mo_Keepsake_showOn (N : Nat) (h : hS) (th : Nat) (a1 : Option Nat) : Mo h (f_Keepsake_showOn N h th a1) := by
  unfold f_Keepsake_showOn
  refine Mo_gI (fun v1 => ?_)
  refine Mo_cv (fun a => (mo_Curve_clear N h a v1)) (fun v2 h3 => ?_)
  exact mo_Keepsake_showOn_8 N   h3 th a1
set_option maxRecDepth 20000 in
set_option maxHeartbeats 4000000 in
theorem b_Curve_init_8 {p : Program} {l : Launch} {e : Env} {s : State} {m : MethodId} {args : Array Value} {below : List Frame} {meth : Method} {c : Code} {D : va_G} {cy : cyT} {z : Nat} (C : MX p s m args meth c cX2_init 1 (none) RX2 (Cond.code yX2_init cX2_init 1 (none) :: GW)) (hni : meth.name = "<init>") (N : Nat) (n0 s0 : Nat) (hn0 : s.heap.size = n0) {r : Unit} {g : hS}  : ∀  (cells slots : Nat) (h : hS) (th : Nat) (y0 : Option Nat) (y1 : Option Nat) (H : Heap) (locs : List Loc) (ls : Array Slot), wd D cy z s cells h H locs → h_s h = s0 + slots → lv_has ls 1 [(0, .ref th)] → f_Curve_init_8 N   h th y0 y1 = some (r, g) → W p l e { frames := 1, cells := h_x g - n0, slots := h_s g - s0, locals := 44 } s m args below meth c H locs cells slots (MQ below (eQ D cy z (rV r) g) args s (h_x g - n0) (h_s g - s0) (fun q => z ≤ q)) (F0 m 8 ls [va_rf y1, va_rf y0]) := by
  obtain ⟨hx, hb, hr, hml, hown, hts, hlk⟩ := id C
  intro cells slots h th y0 y1 H locs ls w hsl hl hE
  have hcc : cells ≤ h_x g - n0 ∧ slots ≤ h_s g - s0 := by
    have q1 := mo_Curve_init_8 N  h th y0 y1 _ _ hE
    have q2 := wd_x w
    have q3 := q1.1
    have q4 := q1.2.1
    omega
  unfold f_Curve_init_8 at hE
  refine w_pR (r := y0) (ci := 3) (k := 1) (v := y1) (Or.inr ⟨_, rfl⟩) C w rfl (by decide) (by unfold roK; omega) (GF_wsX20 _) tyX2 tyX2_ok nmX2 (by decide) rfl (List.mem_cons_of_mem _ gw_4_12) rfl rfl (tyX2_ok 1 (by decide)) dX2_init_8 hE (fun h1 H locs w hsh1 e1 => ?_)
  have hsl := hsh1.2.2.2.trans hsl
  refine lv_aload_n hx hb dX2_init_11 rfl (lv_at hl 0 rfl) ?_
  refine lv_iconst (v := 0) hx hb dX2_init_12 (by decide) ?_
  refine w_pI (r := some th) (ci := 3) (k := 0) C w rfl (by decide) (by unfold roK; omega) (GF_wsX20 _) tyX2 tyX2_ok nmX2 (by decide) rfl (List.mem_cons_of_mem _ gw_4_13) rfl rfl (tyX2_ok 0 (by decide)) dX2_init_13 e1 (fun h2 H locs w hsh2 e2 => ?_)
  have hsl := hsh2.2.2.2.trans hsl
  refine lv_aload_n hx hb dX2_init_16 rfl (lv_at hl 0 rfl) ?_
  refine lv_iconst (v := 0) hx hb dX2_init_17 (by decide) ?_
  refine w_pI (r := some th) (ci := 3) (k := 2) C w rfl (by decide) (by unfold roK; omega) (GF_wsX20 _) tyX2 tyX2_ok nmX2 (by decide) rfl (List.mem_cons_of_mem _ gw_4_14) rfl rfl (tyX2_ok 2 (by decide)) dX2_init_18 e2 (fun h3 H locs w hsh3 e3 => ?_)
  have hsl := hsh3.2.2.2.trans hsl
  refine lv_aload_n hx hb dX2_init_21 rfl (lv_at hl 0 rfl) ?_
  refine lv_iconst (v := 0) hx hb dX2_init_22 (by decide) ?_
  refine w_pI (r := some th) (ci := 3) (k := 3) C w rfl (by decide) (by unfold roK; omega) (GF_wsX20 _) tyX2 tyX2_ok nmX2 (by decide) rfl (List.mem_cons_of_mem _ gw_4_15) rfl rfl (tyX2_ok 3 (by decide)) dX2_init_23 e3 (fun h4 H locs w hsh4 e4 => ?_)
  have hsl := hsh4.2.2.2.trans hsl
  refine lv_aload_n hx hb dX2_init_26 rfl (lv_at hl 0 rfl) ?_
  refine lv_lconst (v := 0) hx hb dX2_init_27 (by decide) ?_
  refine w_pJ (r := some th) (ci := 3) (k := 4) C w rfl (by decide) (by unfold roK; omega) (GF_wsX20 _) tyX2 tyX2_ok nmX2 (by decide) rfl (List.mem_cons_of_mem _ gw_4_16) rfl rfl (tyX2_ok 4 (by decide)) dX2_init_28 e4 (fun h5 H locs w hsh5 e5 => ?_)
  have hsl := hsh5.2.2.2.trans hsl
  refine W.widen (k := h_x g - n0) (n := h_s g - s0) hcc.1 hcc.2 ?_
  exact w_vret C w e5 dX2_init_31
set_option maxRecDepth 20000 in
set_option maxHeartbeats 4000000 in
theorem k_Curve_init (l : Launch) (D : va_G) (cy : cyT) (z : Nat) (N : Nat) (h : hS) (th : Nat) (r : Unit) (g : hS) (hE : f_Curve_init N h th = some (r, g)) : ct l yX2_init (Cond.code yX2_init cX2_init 1 (none) :: GW) { frames := 1, cells := h_x g - h_x h, slots := h_s g - h_s h, locals := 44 } D cy z h [.ref th] (rV r) g := by
  refine Met.ofW (cc := cX2_init) (maxL := 1) (ret := none) (by decide) rfl ?_
  intro p e s m args below meth c s₁ B hml hv
  obtain ⟨rfl, hw⟩ := hv
  have hni : meth.name = "<init>" := (name_of_methodNamed B.named B.method).1
  have C : MX p s m ([.ref th] : List Value).toArray meth c cX2_init 1 (none) RX2 (Cond.code yX2_init cX2_init 1 (none) :: GW) := ⟨B.exec, B.bytes, B.returns, hml, findClass_of_methodNamed B.named, atoms_spec (ws := Cond.code yX2_init cX2_init 1 (none) :: GW) B.pre, B.notSynchronized⟩
  obtain ⟨hx, hb, hr, hml, hown, hts, hlk⟩ := id C
  have w := wd_of hw
  have hsl : h_s h = h_s h + 0 := rfl
  have hn0 : s.heap.size = h_x h := (wd_x w).1
  obtain ⟨ls, hen, hl⟩ : ∃ ls : Array Slot, entryFrame m ([.ref th] : List Value).toArray 1 = F0 m 0 ls [] ∧ lv_has ls 1 [(0, .ref th)] := by
    exact ⟨_, lg_entry_eq _ _ _, lv_entry _ (Nat.le_of_ble_eq_true rfl)⟩
  rw [hen]
  have hcc : 0 ≤ h_x g - h_x h ∧ 0 ≤ h_s g - h_s h := ⟨Nat.zero_le _, Nat.zero_le _⟩
  unfold f_Curve_init at hE
  refine lv_aload_n hx hb dX2_init_0 rfl (lv_at hl 0 rfl) ?_
  refine w_oinit (a := th) C hl.1 (List.mem_cons_of_mem _ gw_4_11) (List.mem_cons_of_mem _ gw_1_12) (List.mem_cons_of_mem _ gw_1_13) (Nat.le_of_ble_eq_true rfl) (Nat.le_of_ble_eq_true rfl) dX2_init_1 ?_
  refine lv_aload_n hx hb dX2_init_4 rfl (lv_at hl 0 rfl) ?_
  refine lv_iconst (v := 0) hx hb dX2_init_5 (by decide) ?_
  have hm := mo_Curve_init_8 N   (nw h 50 (0 : Int32).toNatClampNeg (0 : Int32).toNatClampNeg) th (some th) (some (h_x h)) _ _ (nwA_some hE).2
  have hm1 := hm.1
  have hm2 := hm.2.1
  rw [h_x_nw] at hm1
  rw [h_s_nw] at hm2
  have hwx := wd_x w
  refine w_nwI C w (List.mem_cons_of_mem _ gw_2_16) dX2_init_6 hE (by show 0 + 1 ≤ h_x g - (h_x h); omega) (by show 0 + _ ≤ h_s g - (h_s h); omega) (fun H w e1 => ?_)
  exact b_Curve_init_8 C hni N (h_x h) (h_s h) hn0   (0 + 1) (0 + (0 : Int32).toNatClampNeg) (nw h 50 (0 : Int32).toNatClampNeg (0 : Int32).toNatClampNeg) th (some th) (some (h_x h)) _ _ ls w (by first | (rw [h_s_nw, hsl]; done) | (rw [h_s_nw, hsl]; omega)) (lv_sub hl [0] rfl) e1
set_option maxRecDepth 20000 in
set_option maxHeartbeats 4000000 in
theorem b_Bench_init_45 {p : Program} {l : Launch} {e : Env} {s : State} {m : MethodId} {args : Array Value} {below : List Frame} {meth : Method} {c : Code} {D : va_G} {cy : cyT} {z : Nat} (C : MX p s m args meth c cX0_init 1 (none) RX0 (Cond.code yX0_init cX0_init 1 (none) :: GW)) (hni : meth.name = "<init>") (N : Nat) (n0 s0 : Nat) (hn0 : s.heap.size = n0) {r : Unit} {g : hS}  : ∀  (cells slots : Nat) (h : hS) (th : Nat) (y0 : Option Nat) (y1 : Option Nat) (H : Heap) (locs : List Loc) (ls : Array Slot), wd D cy z s cells h H locs → h_s h = s0 + slots → lv_has ls 1 [(0, .ref th)] → f_Bench_init_45 N   h th y0 y1 = some (r, g) → W p l e { frames := 2, cells := h_x g - n0, slots := h_s g - s0, locals := 64 } s m args below meth c H locs cells slots (MQ below (eQ D cy z (rV r) g) args s (h_x g - n0) (h_s g - s0) (fun q => z ≤ q)) (F0 m 45 ls [va_rf y1, va_rf y0]) := by
  obtain ⟨hx, hb, hr, hml, hown, hts, hlk⟩ := id C
  intro cells slots h th y0 y1 H locs ls w hsl hl hE
  have hcc : cells ≤ h_x g - n0 ∧ slots ≤ h_s g - s0 := by
    have q1 := mo_Bench_init_45 N  h th y0 y1 _ _ hE
    have q2 := wd_x w
    have q3 := q1.1
    have q4 := q1.2.1
    omega
  unfold f_Bench_init_45 at hE
  refine w_pRF (r := y0) (ci := 1) (k := 3) (v := y1) (Or.inl ⟨_, rfl⟩) C w rfl (by decide) (by unfold roK; omega) (GF_wsX00 _) tyX0 tyX0_ok nmX0 (by decide) rfl (List.mem_cons_of_mem _ gw_4_6) rfl rfl hni rfl (tyX0_ok 3 (by decide)) dX0_init_45 hE (fun h1 H locs w hsh1 e1 => ?_)
  have hsl := hsh1.2.2.2.trans hsl
  refine lv_aload_n hx hb dX0_init_48 rfl (lv_at hl 0 rfl) ?_
  refine lv_iconst (v := -1) hx hb dX0_init_49 (by decide) ?_
  refine w_pI (r := some th) (ci := 1) (k := 4) C w rfl (by decide) (by unfold roK; omega) (GF_wsX00 _) tyX0 tyX0_ok nmX0 (by decide) rfl (List.mem_cons_of_mem _ gw_4_7) rfl rfl (tyX0_ok 4 (by decide)) dX0_init_50 e1 (fun h2 H locs w hsh2 e2 => ?_)
  have hsl := hsh2.2.2.2.trans hsl
  refine W.widen (k := h_x g - n0) (n := h_s g - s0) hcc.1 hcc.2 ?_
  exact w_vret C w e2 dX0_init_53
set_option maxRecDepth 20000 in
set_option maxHeartbeats 4000000 in
theorem b_Bench_init_41 {p : Program} {l : Launch} {e : Env} {s : State} {m : MethodId} {args : Array Value} {below : List Frame} {meth : Method} {c : Code} {D : va_G} {cy : cyT} {z : Nat} (C : MX p s m args meth c cX0_init 1 (none) RX0 (Cond.code yX0_init cX0_init 1 (none) :: GW)) (hni : meth.name = "<init>") (N : Nat) (n0 s0 : Nat) (hn0 : s.heap.size = n0) {r : Unit} {g : hS}  : ∀  (cells slots : Nat) (h : hS) (th : Nat) (y0 : Option Nat) (y1 : Option Nat) (H : Heap) (locs : List Loc) (ls : Array Slot), wd D cy z s cells h H locs → h_s h = s0 + slots → lv_has ls 1 [(0, .ref th)] → f_Bench_init_41 N   h th y0 y1 = some (r, g) → W p l e { frames := 2, cells := h_x g - n0, slots := h_s g - s0, locals := 64 } s m args below meth c H locs cells slots (MQ below (eQ D cy z (rV r) g) args s (h_x g - n0) (h_s g - s0) (fun q => z ≤ q)) (F0 m 41 ls [va_rf y1, va_rf y0]) := by
  obtain ⟨hx, hb, hr, hml, hown, hts, hlk⟩ := id C
  intro cells slots h th y0 y1 H locs ls w hsl hl hE
  have hcc : cells ≤ h_x g - n0 ∧ slots ≤ h_s g - s0 := by
    have q1 := mo_Bench_init_41 N  h th y0 y1 _ _ hE
    have q2 := wd_x w
    have q3 := q1.1
    have q4 := q1.2.1
    omega
  unfold f_Bench_init_41 at hE
  refine lv_dup hx hb dX0_init_41 (va_rf_cat _) ?_
  obtain ⟨q3, eq3, e1⟩ := nn_some hE
  subst eq3
  refine w_IAV GW_good (b := q3) (n := 0) (F := 1) (Lc := 44) (av := []) (rest := [.ref q3, va_rf y0]) C w (fun r g hf => k_Curve_init l D cy z N h q3  r g hf) gw_4_8 gw_4_9 gw_2_22 gw_4_10 rfl (by decide +kernel) ⟨Nat.le_of_ble_eq_true rfl, Nat.le_of_ble_eq_true rfl⟩ rfl hl.1 rfl (cat_le (Nat.le_of_ble_eq_true rfl)) dX0_init_42 (mo_Curve_init N h q3 ) (fun v1 h2 q1 q2 => by have u1 := (mo_Curve_init N h q3 ) _ _ q1; have u2 := mo_Bench_init_45 N   h2 th y0 (some q3) _ _ q2; have u3 := wd_x w; have u4 := u1.1; have u5 := u1.2.1; have u6 := u2.1; have u7 := u2.2.1; show cells + _ ≤ h_x g - n0 ∧ slots + _ ≤ h_s g - s0; omega) e1 (fun v1 h2 H locs w hsh2 e2 => ?_)
  exact b_Bench_init_45 C hni N n0 s0 hn0   _ _ h2 th y0 (some q3) _ _ ls w (by have u5 := hsh2.2.1; have u8 := hsl; omega) (lv_sub hl [0] rfl) e2
set_option maxRecDepth 20000 in
set_option maxHeartbeats 4000000 in
theorem b_Bench_init_34 {p : Program} {l : Launch} {e : Env} {s : State} {m : MethodId} {args : Array Value} {below : List Frame} {meth : Method} {c : Code} {D : va_G} {cy : cyT} {z : Nat} (C : MX p s m args meth c cX0_init 1 (none) RX0 (Cond.code yX0_init cX0_init 1 (none) :: GW)) (hni : meth.name = "<init>") (N : Nat) (n0 s0 : Nat) (hn0 : s.heap.size = n0) {r : Unit} {g : hS}  : ∀  (cells slots : Nat) (h : hS) (th : Nat) (y0 : Option Nat) (y1 : Option Nat) (H : Heap) (locs : List Loc) (ls : Array Slot), wd D cy z s cells h H locs → h_s h = s0 + slots → lv_has ls 1 [(0, .ref th)] → f_Bench_init_34 N   h th y0 y1 = some (r, g) → W p l e { frames := 2, cells := h_x g - n0, slots := h_s g - s0, locals := 64 } s m args below meth c H locs cells slots (MQ below (eQ D cy z (rV r) g) args s (h_x g - n0) (h_s g - s0) (fun q => z ≤ q)) (F0 m 34 ls [va_rf y1, va_rf y0]) := by
  obtain ⟨hx, hb, hr, hml, hown, hts, hlk⟩ := id C
  intro cells slots h th y0 y1 H locs ls w hsl hl hE
  have hcc : cells ≤ h_x g - n0 ∧ slots ≤ h_s g - s0 := by
    have q1 := mo_Bench_init_34 N  h th y0 y1 _ _ hE
    have q2 := wd_x w
    have q3 := q1.1
    have q4 := q1.2.1
    omega
  unfold f_Bench_init_34 at hE
  refine w_pRF (r := y0) (ci := 1) (k := 2) (v := y1) (Or.inl ⟨_, rfl⟩) C w rfl (by decide) (by unfold roK; omega) (GF_wsX00 _) tyX0 tyX0_ok nmX0 (by decide) rfl (List.mem_cons_of_mem _ gw_4_5) rfl rfl hni rfl (tyX0_ok 2 (by decide)) dX0_init_34 hE (fun h1 H locs w hsh1 e1 => ?_)
  have hsl := hsh1.2.2.2.trans hsl
  refine lv_aload_n hx hb dX0_init_37 rfl (lv_at hl 0 rfl) ?_
  have hm := mo_Bench_init_41 N   (nw h1 4 0 5) th (some th) (some (h_x h1)) _ _ e1
  have hm1 := hm.1
  have hm2 := hm.2.1
  rw [h_x_nw] at hm1
  rw [h_s_nw] at hm2
  have hwx := wd_x w
  refine w_newO (ci := 3) C w rfl (by decide) (GF_wsX20 _) tyX2 tyX2_ok (List.mem_cons_of_mem _ gw_4_2) (List.mem_cons_of_mem _ gw_2_21) (List.mem_cons_of_mem _ gw_2_22) (fun j hj => by rcases (show j = 0 ∨ j = 1 ∨ j = 2 ∨ j = 3 ∨ j = 4 by omega) with rfl | rfl | rfl | rfl | rfl <;> rfl) dX0_init_38 e1 (by show cells + 1 ≤ h_x g - n0; omega) (by show slots + _ ≤ h_s g - s0; omega) (fun H w e2 => ?_)
  exact b_Bench_init_41 C hni N n0 s0 hn0   (cells + 1) (slots + 5) (nw h1 4 0 5) th (some th) (some (h_x h1)) _ _ ls w (by first | (rw [h_s_nw, hsl]; done) | (rw [h_s_nw, hsl]; omega)) (lv_sub hl [0] rfl) e2
set_option maxRecDepth 20000 in
set_option maxHeartbeats 4000000 in
theorem b_Bench_init_30 {p : Program} {l : Launch} {e : Env} {s : State} {m : MethodId} {args : Array Value} {below : List Frame} {meth : Method} {c : Code} {D : va_G} {cy : cyT} {z : Nat} (C : MX p s m args meth c cX0_init 1 (none) RX0 (Cond.code yX0_init cX0_init 1 (none) :: GW)) (hni : meth.name = "<init>") (N : Nat) (n0 s0 : Nat) (hn0 : s.heap.size = n0) {r : Unit} {g : hS}  : ∀  (cells slots : Nat) (h : hS) (th : Nat) (y0 : Option Nat) (y1 : Option Nat) (H : Heap) (locs : List Loc) (ls : Array Slot), wd D cy z s cells h H locs → h_s h = s0 + slots → lv_has ls 1 [(0, .ref th)] → f_Bench_init_30 N   h th y0 y1 = some (r, g) → W p l e { frames := 2, cells := h_x g - n0, slots := h_s g - s0, locals := 64 } s m args below meth c H locs cells slots (MQ below (eQ D cy z (rV r) g) args s (h_x g - n0) (h_s g - s0) (fun q => z ≤ q)) (F0 m 30 ls [va_rf y1, va_rf y0]) := by
  obtain ⟨hx, hb, hr, hml, hown, hts, hlk⟩ := id C
  intro cells slots h th y0 y1 H locs ls w hsl hl hE
  have hcc : cells ≤ h_x g - n0 ∧ slots ≤ h_s g - s0 := by
    have q1 := mo_Bench_init_30 N  h th y0 y1 _ _ hE
    have q2 := wd_x w
    have q3 := q1.1
    have q4 := q1.2.1
    omega
  unfold f_Bench_init_30 at hE
  refine lv_dup hx hb dX0_init_30 (va_rf_cat _) ?_
  obtain ⟨q3, eq3, e1⟩ := nn_some hE
  subst eq3
  refine w_IAV GW_good (b := q3) (n := 0) (F := 1) (Lc := 44) (av := []) (rest := [.ref q3, va_rf y0]) C w (fun r g hf => k_Curve_init l D cy z N h q3  r g hf) gw_4_8 gw_4_9 gw_2_22 gw_4_10 rfl (by decide +kernel) ⟨Nat.le_of_ble_eq_true rfl, Nat.le_of_ble_eq_true rfl⟩ rfl hl.1 rfl (cat_le (Nat.le_of_ble_eq_true rfl)) dX0_init_31 (mo_Curve_init N h q3 ) (fun v1 h2 q1 q2 => by have u1 := (mo_Curve_init N h q3 ) _ _ q1; have u2 := mo_Bench_init_34 N   h2 th y0 (some q3) _ _ q2; have u3 := wd_x w; have u4 := u1.1; have u5 := u1.2.1; have u6 := u2.1; have u7 := u2.2.1; show cells + _ ≤ h_x g - n0 ∧ slots + _ ≤ h_s g - s0; omega) e1 (fun v1 h2 H locs w hsh2 e2 => ?_)
  exact b_Bench_init_34 C hni N n0 s0 hn0   _ _ h2 th y0 (some q3) _ _ ls w (by have u5 := hsh2.2.1; have u8 := hsl; omega) (lv_sub hl [0] rfl) e2
set_option maxRecDepth 20000 in
set_option maxHeartbeats 4000000 in
theorem b_Bench_init_23 {p : Program} {l : Launch} {e : Env} {s : State} {m : MethodId} {args : Array Value} {below : List Frame} {meth : Method} {c : Code} {D : va_G} {cy : cyT} {z : Nat} (C : MX p s m args meth c cX0_init 1 (none) RX0 (Cond.code yX0_init cX0_init 1 (none) :: GW)) (hni : meth.name = "<init>") (N : Nat) (n0 s0 : Nat) (hn0 : s.heap.size = n0) {r : Unit} {g : hS}  : ∀  (cells slots : Nat) (h : hS) (th : Nat) (y0 : Option Nat) (y1 : Option Nat) (H : Heap) (locs : List Loc) (ls : Array Slot), wd D cy z s cells h H locs → h_s h = s0 + slots → lv_has ls 1 [(0, .ref th)] → f_Bench_init_23 N   h th y0 y1 = some (r, g) → W p l e { frames := 2, cells := h_x g - n0, slots := h_s g - s0, locals := 64 } s m args below meth c H locs cells slots (MQ below (eQ D cy z (rV r) g) args s (h_x g - n0) (h_s g - s0) (fun q => z ≤ q)) (F0 m 23 ls [va_rf y1, va_rf y0]) := by
  obtain ⟨hx, hb, hr, hml, hown, hts, hlk⟩ := id C
  intro cells slots h th y0 y1 H locs ls w hsl hl hE
  have hcc : cells ≤ h_x g - n0 ∧ slots ≤ h_s g - s0 := by
    have q1 := mo_Bench_init_23 N  h th y0 y1 _ _ hE
    have q2 := wd_x w
    have q3 := q1.1
    have q4 := q1.2.1
    omega
  unfold f_Bench_init_23 at hE
  refine w_pR (r := y0) (ci := 1) (k := 1) (v := y1) (Or.inl ⟨_, rfl⟩) C w rfl (by decide) (by unfold roK; omega) (GF_wsX00 _) tyX0 tyX0_ok nmX0 (by decide) rfl (List.mem_cons_of_mem _ gw_4_4) rfl rfl (tyX0_ok 1 (by decide)) dX0_init_23 hE (fun h1 H locs w hsh1 e1 => ?_)
  have hsl := hsh1.2.2.2.trans hsl
  refine lv_aload_n hx hb dX0_init_26 rfl (lv_at hl 0 rfl) ?_
  have hm := mo_Bench_init_30 N   (nw h1 4 0 5) th (some th) (some (h_x h1)) _ _ e1
  have hm1 := hm.1
  have hm2 := hm.2.1
  rw [h_x_nw] at hm1
  rw [h_s_nw] at hm2
  have hwx := wd_x w
  refine w_newO (ci := 3) C w rfl (by decide) (GF_wsX20 _) tyX2 tyX2_ok (List.mem_cons_of_mem _ gw_4_2) (List.mem_cons_of_mem _ gw_2_21) (List.mem_cons_of_mem _ gw_2_22) (fun j hj => by rcases (show j = 0 ∨ j = 1 ∨ j = 2 ∨ j = 3 ∨ j = 4 by omega) with rfl | rfl | rfl | rfl | rfl <;> rfl) dX0_init_27 e1 (by show cells + 1 ≤ h_x g - n0; omega) (by show slots + _ ≤ h_s g - s0; omega) (fun H w e2 => ?_)
  exact b_Bench_init_30 C hni N n0 s0 hn0   (cells + 1) (slots + 5) (nw h1 4 0 5) th (some th) (some (h_x h1)) _ _ ls w (by first | (rw [h_s_nw, hsl]; done) | (rw [h_s_nw, hsl]; omega)) (lv_sub hl [0] rfl) e2
set_option maxRecDepth 20000 in
set_option maxHeartbeats 4000000 in
theorem b_Bench_init_19 {p : Program} {l : Launch} {e : Env} {s : State} {m : MethodId} {args : Array Value} {below : List Frame} {meth : Method} {c : Code} {D : va_G} {cy : cyT} {z : Nat} (C : MX p s m args meth c cX0_init 1 (none) RX0 (Cond.code yX0_init cX0_init 1 (none) :: GW)) (hni : meth.name = "<init>") (N : Nat) (n0 s0 : Nat) (hn0 : s.heap.size = n0) {r : Unit} {g : hS}  : ∀  (cells slots : Nat) (h : hS) (th : Nat) (y0 : Option Nat) (y1 : Option Nat) (H : Heap) (locs : List Loc) (ls : Array Slot), wd D cy z s cells h H locs → h_s h = s0 + slots → lv_has ls 1 [(0, .ref th)] → f_Bench_init_19 N   h th y0 y1 = some (r, g) → W p l e { frames := 2, cells := h_x g - n0, slots := h_s g - s0, locals := 64 } s m args below meth c H locs cells slots (MQ below (eQ D cy z (rV r) g) args s (h_x g - n0) (h_s g - s0) (fun q => z ≤ q)) (F0 m 19 ls [va_rf y1, va_rf y0]) := by
  obtain ⟨hx, hb, hr, hml, hown, hts, hlk⟩ := id C
  intro cells slots h th y0 y1 H locs ls w hsl hl hE
  have hcc : cells ≤ h_x g - n0 ∧ slots ≤ h_s g - s0 := by
    have q1 := mo_Bench_init_19 N  h th y0 y1 _ _ hE
    have q2 := wd_x w
    have q3 := q1.1
    have q4 := q1.2.1
    omega
  unfold f_Bench_init_19 at hE
  refine lv_dup hx hb dX0_init_19 (va_rf_cat _) ?_
  obtain ⟨q3, eq3, e1⟩ := nn_some hE
  subst eq3
  refine w_IAV GW_good (b := q3) (n := 0) (F := 1) (Lc := 44) (av := []) (rest := [.ref q3, va_rf y0]) C w (fun r g hf => k_Curve_init l D cy z N h q3  r g hf) gw_4_8 gw_4_9 gw_2_22 gw_4_10 rfl (by decide +kernel) ⟨Nat.le_of_ble_eq_true rfl, Nat.le_of_ble_eq_true rfl⟩ rfl hl.1 rfl (cat_le (Nat.le_of_ble_eq_true rfl)) dX0_init_20 (mo_Curve_init N h q3 ) (fun v1 h2 q1 q2 => by have u1 := (mo_Curve_init N h q3 ) _ _ q1; have u2 := mo_Bench_init_23 N   h2 th y0 (some q3) _ _ q2; have u3 := wd_x w; have u4 := u1.1; have u5 := u1.2.1; have u6 := u2.1; have u7 := u2.2.1; show cells + _ ≤ h_x g - n0 ∧ slots + _ ≤ h_s g - s0; omega) e1 (fun v1 h2 H locs w hsh2 e2 => ?_)
  exact b_Bench_init_23 C hni N n0 s0 hn0   _ _ h2 th y0 (some q3) _ _ ls w (by have u5 := hsh2.2.1; have u8 := hsl; omega) (lv_sub hl [0] rfl) e2
set_option maxRecDepth 20000 in
set_option maxHeartbeats 4000000 in
theorem b_Bench_init_12 {p : Program} {l : Launch} {e : Env} {s : State} {m : MethodId} {args : Array Value} {below : List Frame} {meth : Method} {c : Code} {D : va_G} {cy : cyT} {z : Nat} (C : MX p s m args meth c cX0_init 1 (none) RX0 (Cond.code yX0_init cX0_init 1 (none) :: GW)) (hni : meth.name = "<init>") (N : Nat) (n0 s0 : Nat) (hn0 : s.heap.size = n0) {r : Unit} {g : hS}  : ∀  (cells slots : Nat) (h : hS) (th : Nat) (y0 : Option Nat) (y1 : Option Nat) (H : Heap) (locs : List Loc) (ls : Array Slot), wd D cy z s cells h H locs → h_s h = s0 + slots → lv_has ls 1 [(0, .ref th)] → f_Bench_init_12 N   h th y0 y1 = some (r, g) → W p l e { frames := 2, cells := h_x g - n0, slots := h_s g - s0, locals := 64 } s m args below meth c H locs cells slots (MQ below (eQ D cy z (rV r) g) args s (h_x g - n0) (h_s g - s0) (fun q => z ≤ q)) (F0 m 12 ls [va_rf y1, va_rf y0]) := by
  obtain ⟨hx, hb, hr, hml, hown, hts, hlk⟩ := id C
  intro cells slots h th y0 y1 H locs ls w hsl hl hE
  have hcc : cells ≤ h_x g - n0 ∧ slots ≤ h_s g - s0 := by
    have q1 := mo_Bench_init_12 N  h th y0 y1 _ _ hE
    have q2 := wd_x w
    have q3 := q1.1
    have q4 := q1.2.1
    omega
  unfold f_Bench_init_12 at hE
  refine w_pR (r := y0) (ci := 1) (k := 0) (v := y1) (Or.inl ⟨_, rfl⟩) C w rfl (by decide) (by unfold roK; omega) (GF_wsX00 _) tyX0 tyX0_ok nmX0 (by decide) rfl (List.mem_cons_of_mem _ gw_4_3) rfl rfl (tyX0_ok 0 (by decide)) dX0_init_12 hE (fun h1 H locs w hsh1 e1 => ?_)
  have hsl := hsh1.2.2.2.trans hsl
  refine lv_aload_n hx hb dX0_init_15 rfl (lv_at hl 0 rfl) ?_
  have hm := mo_Bench_init_19 N   (nw h1 4 0 5) th (some th) (some (h_x h1)) _ _ e1
  have hm1 := hm.1
  have hm2 := hm.2.1
  rw [h_x_nw] at hm1
  rw [h_s_nw] at hm2
  have hwx := wd_x w
  refine w_newO (ci := 3) C w rfl (by decide) (GF_wsX20 _) tyX2 tyX2_ok (List.mem_cons_of_mem _ gw_4_2) (List.mem_cons_of_mem _ gw_2_21) (List.mem_cons_of_mem _ gw_2_22) (fun j hj => by rcases (show j = 0 ∨ j = 1 ∨ j = 2 ∨ j = 3 ∨ j = 4 by omega) with rfl | rfl | rfl | rfl | rfl <;> rfl) dX0_init_16 e1 (by show cells + 1 ≤ h_x g - n0; omega) (by show slots + _ ≤ h_s g - s0; omega) (fun H w e2 => ?_)
  exact b_Bench_init_19 C hni N n0 s0 hn0   (cells + 1) (slots + 5) (nw h1 4 0 5) th (some th) (some (h_x h1)) _ _ ls w (by first | (rw [h_s_nw, hsl]; done) | (rw [h_s_nw, hsl]; omega)) (lv_sub hl [0] rfl) e2
set_option maxRecDepth 20000 in
set_option maxHeartbeats 4000000 in
theorem b_Bench_init_8 {p : Program} {l : Launch} {e : Env} {s : State} {m : MethodId} {args : Array Value} {below : List Frame} {meth : Method} {c : Code} {D : va_G} {cy : cyT} {z : Nat} (C : MX p s m args meth c cX0_init 1 (none) RX0 (Cond.code yX0_init cX0_init 1 (none) :: GW)) (hni : meth.name = "<init>") (N : Nat) (n0 s0 : Nat) (hn0 : s.heap.size = n0) {r : Unit} {g : hS}  : ∀  (cells slots : Nat) (h : hS) (th : Nat) (y0 : Option Nat) (y1 : Option Nat) (H : Heap) (locs : List Loc) (ls : Array Slot), wd D cy z s cells h H locs → h_s h = s0 + slots → lv_has ls 1 [(0, .ref th)] → f_Bench_init_8 N   h th y0 y1 = some (r, g) → W p l e { frames := 2, cells := h_x g - n0, slots := h_s g - s0, locals := 64 } s m args below meth c H locs cells slots (MQ below (eQ D cy z (rV r) g) args s (h_x g - n0) (h_s g - s0) (fun q => z ≤ q)) (F0 m 8 ls [va_rf y1, va_rf y0]) := by
  obtain ⟨hx, hb, hr, hml, hown, hts, hlk⟩ := id C
  intro cells slots h th y0 y1 H locs ls w hsl hl hE
  have hcc : cells ≤ h_x g - n0 ∧ slots ≤ h_s g - s0 := by
    have q1 := mo_Bench_init_8 N  h th y0 y1 _ _ hE
    have q2 := wd_x w
    have q3 := q1.1
    have q4 := q1.2.1
    omega
  unfold f_Bench_init_8 at hE
  refine lv_dup hx hb dX0_init_8 (va_rf_cat _) ?_
  obtain ⟨q3, eq3, e1⟩ := nn_some hE
  subst eq3
  refine w_IAV GW_good (b := q3) (n := 0) (F := 1) (Lc := 44) (av := []) (rest := [.ref q3, va_rf y0]) C w (fun r g hf => k_Curve_init l D cy z N h q3  r g hf) gw_4_8 gw_4_9 gw_2_22 gw_4_10 rfl (by decide +kernel) ⟨Nat.le_of_ble_eq_true rfl, Nat.le_of_ble_eq_true rfl⟩ rfl hl.1 rfl (cat_le (Nat.le_of_ble_eq_true rfl)) dX0_init_9 (mo_Curve_init N h q3 ) (fun v1 h2 q1 q2 => by have u1 := (mo_Curve_init N h q3 ) _ _ q1; have u2 := mo_Bench_init_12 N   h2 th y0 (some q3) _ _ q2; have u3 := wd_x w; have u4 := u1.1; have u5 := u1.2.1; have u6 := u2.1; have u7 := u2.2.1; show cells + _ ≤ h_x g - n0 ∧ slots + _ ≤ h_s g - s0; omega) e1 (fun v1 h2 H locs w hsh2 e2 => ?_)
  exact b_Bench_init_12 C hni N n0 s0 hn0   _ _ h2 th y0 (some q3) _ _ ls w (by have u5 := hsh2.2.1; have u8 := hsl; omega) (lv_sub hl [0] rfl) e2
set_option maxRecDepth 20000 in
set_option maxHeartbeats 4000000 in
theorem k_Bench_init (l : Launch) (D : va_G) (cy : cyT) (z : Nat) (N : Nat) (h : hS) (th : Nat) (r : Unit) (g : hS) (hE : f_Bench_init N h th = some (r, g)) : ct l yX0_init (Cond.code yX0_init cX0_init 1 (none) :: GW) { frames := 2, cells := h_x g - h_x h, slots := h_s g - h_s h, locals := 64 } D cy z h [.ref th] (rV r) g := by
  refine Met.ofW (cc := cX0_init) (maxL := 1) (ret := none) (by decide) rfl ?_
  intro p e s m args below meth c s₁ B hml hv
  obtain ⟨rfl, hw⟩ := hv
  have hni : meth.name = "<init>" := (name_of_methodNamed B.named B.method).1
  have C : MX p s m ([.ref th] : List Value).toArray meth c cX0_init 1 (none) RX0 (Cond.code yX0_init cX0_init 1 (none) :: GW) := ⟨B.exec, B.bytes, B.returns, hml, findClass_of_methodNamed B.named, atoms_spec (ws := Cond.code yX0_init cX0_init 1 (none) :: GW) B.pre, B.notSynchronized⟩
  obtain ⟨hx, hb, hr, hml, hown, hts, hlk⟩ := id C
  have w := wd_of hw
  have hsl : h_s h = h_s h + 0 := rfl
  have hn0 : s.heap.size = h_x h := (wd_x w).1
  obtain ⟨ls, hen, hl⟩ : ∃ ls : Array Slot, entryFrame m ([.ref th] : List Value).toArray 1 = F0 m 0 ls [] ∧ lv_has ls 1 [(0, .ref th)] := by
    exact ⟨_, lg_entry_eq _ _ _, lv_entry _ (Nat.le_of_ble_eq_true rfl)⟩
  rw [hen]
  have hcc : 0 ≤ h_x g - h_x h ∧ 0 ≤ h_s g - h_s h := ⟨Nat.zero_le _, Nat.zero_le _⟩
  unfold f_Bench_init at hE
  refine lv_aload_n hx hb dX0_init_0 rfl (lv_at hl 0 rfl) ?_
  refine w_oinit (a := th) C hl.1 (List.mem_cons_of_mem _ gw_4_1) (List.mem_cons_of_mem _ gw_1_12) (List.mem_cons_of_mem _ gw_1_13) (Nat.le_of_ble_eq_true rfl) (Nat.le_of_ble_eq_true rfl) dX0_init_1 ?_
  refine lv_aload_n hx hb dX0_init_4 rfl (lv_at hl 0 rfl) ?_
  have hm := mo_Bench_init_8 N   (nw h 4 0 5) th (some th) (some (h_x h)) _ _ hE
  have hm1 := hm.1
  have hm2 := hm.2.1
  rw [h_x_nw] at hm1
  rw [h_s_nw] at hm2
  have hwx := wd_x w
  refine w_newO (ci := 3) C w rfl (by decide) (GF_wsX20 _) tyX2 tyX2_ok (List.mem_cons_of_mem _ gw_4_2) (List.mem_cons_of_mem _ gw_2_21) (List.mem_cons_of_mem _ gw_2_22) (fun j hj => by rcases (show j = 0 ∨ j = 1 ∨ j = 2 ∨ j = 3 ∨ j = 4 by omega) with rfl | rfl | rfl | rfl | rfl <;> rfl) dX0_init_5 hE (by show 0 + 1 ≤ h_x g - (h_x h); omega) (by show 0 + _ ≤ h_s g - (h_s h); omega) (fun H w e1 => ?_)
  exact b_Bench_init_8 C hni N (h_x h) (h_s h) hn0   (0 + 1) (0 + 5) (nw h 4 0 5) th (some th) (some (h_x h)) _ _ ls w (by first | (rw [h_s_nw, hsl]; done) | (rw [h_s_nw, hsl]; omega)) (lv_sub hl [0] rfl) e1
set_option maxRecDepth 20000 in
set_option maxHeartbeats 4000000 in
theorem b_Curve_clear_42 {p : Program} {l : Launch} {e : Env} {s : State} {m : MethodId} {args : Array Value} {below : List Frame} {meth : Method} {c : Code} {D : va_G} {cy : cyT} {z : Nat} (C : MX p s m args meth c cX2_clear 3 (none) RX2 (Cond.code yX2_clear cX2_clear 3 (none) :: GW)) (N : Nat) (n0 s0 : Nat) (hn0 : s.heap.size = n0) {r : Unit} {g : hS}  : ∀  (cells slots : Nat) (h : hS) (th : Nat) (H : Heap) (locs : List Loc) (ls : Array Slot), wd D cy z s cells h H locs → h_s h = s0 + slots → lv_has ls 3 [(0, .ref th)] → f_Curve_clear_42 N   h th = some (r, g) → W p l e { frames := 0, cells := h_x g - n0, slots := h_s g - s0, locals := 0 } s m args below meth c H locs cells slots (MQ below (eQ D cy z (rV r) g) args s (h_x g - n0) (h_s g - s0) (fun q => z ≤ q)) (F0 m 42 ls []) := by
  obtain ⟨hx, hb, hr, hml, hown, hts, hlk⟩ := id C
  intro cells slots h th H locs ls w hsl hl hE
  have hcc : cells ≤ h_x g - n0 ∧ slots ≤ h_s g - s0 := by
    have q1 := mo_Curve_clear_42 N  h th _ _ hE
    have q2 := wd_x w
    have q3 := q1.1
    have q4 := q1.2.1
    omega
  unfold f_Curve_clear_42 at hE
  refine lv_aload_n hx hb dX2_clear_42 rfl (lv_at hl 0 rfl) ?_
  refine lv_iconst (v := 0) hx hb dX2_clear_43 (by decide) ?_
  refine w_pI (r := some th) (ci := 3) (k := 0) C w rfl (by decide) (by unfold roK; omega) (GF_wsX20 _) tyX2 tyX2_ok nmX2 (by decide) rfl (List.mem_cons_of_mem _ gw_4_13) rfl rfl (tyX2_ok 0 (by decide)) dX2_clear_44 hE (fun h1 H locs w hsh1 e1 => ?_)
  have hsl := hsh1.2.2.2.trans hsl
  refine lv_aload_n hx hb dX2_clear_47 rfl (lv_at hl 0 rfl) ?_
  refine lv_iconst (v := 0) hx hb dX2_clear_48 (by decide) ?_
  refine w_pI (r := some th) (ci := 3) (k := 2) C w rfl (by decide) (by unfold roK; omega) (GF_wsX20 _) tyX2 tyX2_ok nmX2 (by decide) rfl (List.mem_cons_of_mem _ gw_4_14) rfl rfl (tyX2_ok 2 (by decide)) dX2_clear_49 e1 (fun h2 H locs w hsh2 e2 => ?_)
  have hsl := hsh2.2.2.2.trans hsl
  refine lv_aload_n hx hb dX2_clear_52 rfl (lv_at hl 0 rfl) ?_
  refine lv_iconst (v := 0) hx hb dX2_clear_53 (by decide) ?_
  refine w_pI (r := some th) (ci := 3) (k := 3) C w rfl (by decide) (by unfold roK; omega) (GF_wsX20 _) tyX2 tyX2_ok nmX2 (by decide) rfl (List.mem_cons_of_mem _ gw_4_15) rfl rfl (tyX2_ok 3 (by decide)) dX2_clear_54 e2 (fun h3 H locs w hsh3 e3 => ?_)
  have hsl := hsh3.2.2.2.trans hsl
  refine lv_aload_n hx hb dX2_clear_57 rfl (lv_at hl 0 rfl) ?_
  refine lv_lconst (v := 0) hx hb dX2_clear_58 (by decide) ?_
  refine w_pJ (r := some th) (ci := 3) (k := 4) C w rfl (by decide) (by unfold roK; omega) (GF_wsX20 _) tyX2 tyX2_ok nmX2 (by decide) rfl (List.mem_cons_of_mem _ gw_4_16) rfl rfl (tyX2_ok 4 (by decide)) dX2_clear_59 e3 (fun h4 H locs w hsh4 e4 => ?_)
  have hsl := hsh4.2.2.2.trans hsl
  refine W.widen (k := h_x g - n0) (n := h_s g - s0) hcc.1 hcc.2 ?_
  exact w_vret C w e4 dX2_clear_62
set_option maxRecDepth 20000 in
set_option maxHeartbeats 4000000 in
theorem b_Curve_clear_39 {p : Program} {l : Launch} {e : Env} {s : State} {m : MethodId} {args : Array Value} {below : List Frame} {meth : Method} {c : Code} {D : va_G} {cy : cyT} {z : Nat} (C : MX p s m args meth c cX2_clear 3 (none) RX2 (Cond.code yX2_clear cX2_clear 3 (none) :: GW)) (N : Nat) (n0 s0 : Nat) (hn0 : s.heap.size = n0) {r : Unit} {g : hS}  : ∀  (cells slots : Nat) (h : hS) (th : Nat) (y0 : Option Nat) (y1 : Option Nat) (H : Heap) (locs : List Loc) (ls : Array Slot), wd D cy z s cells h H locs → h_s h = s0 + slots → lv_has ls 3 [(0, .ref th)] → f_Curve_clear_39 N   h th y0 y1 = some (r, g) → W p l e { frames := 0, cells := h_x g - n0, slots := h_s g - s0, locals := 0 } s m args below meth c H locs cells slots (MQ below (eQ D cy z (rV r) g) args s (h_x g - n0) (h_s g - s0) (fun q => z ≤ q)) (F0 m 39 ls [va_rf y1, va_rf y0]) := by
  obtain ⟨hx, hb, hr, hml, hown, hts, hlk⟩ := id C
  intro cells slots h th y0 y1 H locs ls w hsl hl hE
  have hcc : cells ≤ h_x g - n0 ∧ slots ≤ h_s g - s0 := by
    have q1 := mo_Curve_clear_39 N  h th y0 y1 _ _ hE
    have q2 := wd_x w
    have q3 := q1.1
    have q4 := q1.2.1
    omega
  unfold f_Curve_clear_39 at hE
  refine w_pR (r := y0) (ci := 3) (k := 1) (v := y1) (Or.inr ⟨_, rfl⟩) C w rfl (by decide) (by unfold roK; omega) (GF_wsX20 _) tyX2 tyX2_ok nmX2 (by decide) rfl (List.mem_cons_of_mem _ gw_4_12) rfl rfl (tyX2_ok 1 (by decide)) dX2_clear_39 hE (fun h1 H locs w hsh1 e1 => ?_)
  have hsl := hsh1.2.2.2.trans hsl
  exact b_Curve_clear_42 C N n0 s0 hn0   _ _ h1 th _ _ ls w hsl (lv_sub hl [0] rfl) e1
set_option maxRecDepth 20000 in
set_option maxHeartbeats 4000000 in
theorem b_Curve_clear_37 {p : Program} {l : Launch} {e : Env} {s : State} {m : MethodId} {args : Array Value} {below : List Frame} {meth : Method} {c : Code} {D : va_G} {cy : cyT} {z : Nat} (C : MX p s m args meth c cX2_clear 3 (none) RX2 (Cond.code yX2_clear cX2_clear 3 (none) :: GW)) (N : Nat) (n0 s0 : Nat) (hn0 : s.heap.size = n0) {r : Unit} {g : hS}  : ∀  (cells slots : Nat) (h : hS) (th : Nat) (y0 : Option Nat) (y1 : Int32) (H : Heap) (locs : List Loc) (ls : Array Slot), wd D cy z s cells h H locs → h_s h = s0 + slots → lv_has ls 3 [(0, .ref th)] → f_Curve_clear_37 N   h th y0 y1 = some (r, g) → W p l e { frames := 0, cells := h_x g - n0, slots := h_s g - s0, locals := 0 } s m args below meth c H locs cells slots (MQ below (eQ D cy z (rV r) g) args s (h_x g - n0) (h_s g - s0) (fun q => z ≤ q)) (F0 m 37 ls [.int y1, va_rf y0]) := by
  obtain ⟨hx, hb, hr, hml, hown, hts, hlk⟩ := id C
  intro cells slots h th y0 y1 H locs ls w hsl hl hE
  have hcc : cells ≤ h_x g - n0 ∧ slots ≤ h_s g - s0 := by
    have q1 := mo_Curve_clear_37 N  h th y0 y1 _ _ hE
    have q2 := wd_x w
    have q3 := q1.1
    have q4 := q1.2.1
    omega
  unfold f_Curve_clear_37 at hE
  have hm := mo_Curve_clear_39 N   (nw h 50 y1.toNatClampNeg y1.toNatClampNeg) th y0 (some (h_x h)) _ _ (nwA_some hE).2
  have hm1 := hm.1
  have hm2 := hm.2.1
  rw [h_x_nw] at hm1
  rw [h_s_nw] at hm2
  have hwx := wd_x w
  refine w_nwI C w (List.mem_cons_of_mem _ gw_2_16) dX2_clear_37 hE (by show cells + 1 ≤ h_x g - n0; omega) (by show slots + _ ≤ h_s g - s0; omega) (fun H w e1 => ?_)
  exact b_Curve_clear_39 C N n0 s0 hn0   (cells + 1) (slots + y1.toNatClampNeg) (nw h 50 y1.toNatClampNeg y1.toNatClampNeg) th y0 (some (h_x h)) _ _ ls w (by first | (rw [h_s_nw, hsl]; done) | (rw [h_s_nw, hsl]; omega)) (lv_sub hl [0] rfl) e1
set_option maxRecDepth 20000 in
set_option maxHeartbeats 4000000 in
theorem b_Curve_clear_23 {p : Program} {l : Launch} {e : Env} {s : State} {m : MethodId} {args : Array Value} {below : List Frame} {meth : Method} {c : Code} {D : va_G} {cy : cyT} {z : Nat} (C : MX p s m args meth c cX2_clear 3 (none) RX2 (Cond.code yX2_clear cX2_clear 3 (none) :: GW)) (N : Nat) (n0 s0 : Nat) (hn0 : s.heap.size = n0) {r : Unit} {g : hS}  : ∀  (cells slots : Nat) (h : hS) (th : Nat) (x1 : Int32) (y0 : Int32) (H : Heap) (locs : List Loc) (ls : Array Slot), wd D cy z s cells h H locs → h_s h = s0 + slots → lv_has ls 3 [(0, .ref th), (1, .int x1)] → f_Curve_clear_23 N   h th x1 y0 = some (r, g) → W p l e { frames := 0, cells := h_x g - n0, slots := h_s g - s0, locals := 0 } s m args below meth c H locs cells slots (MQ below (eQ D cy z (rV r) g) args s (h_x g - n0) (h_s g - s0) (fun q => z ≤ q)) (F0 m 23 ls [.int y0]) := by
  obtain ⟨hx, hb, hr, hml, hown, hts, hlk⟩ := id C
  intro cells slots h th x1 y0 H locs ls w hsl hl hE
  have hcc : cells ≤ h_x g - n0 ∧ slots ≤ h_s g - s0 := by
    have q1 := mo_Curve_clear_23 N  h th x1 y0 _ _ hE
    have q2 := wd_x w
    have q3 := q1.1
    have q4 := q1.2.1
    omega
  unfold f_Curve_clear_23 at hE
  refine lv_istore_n (lv' := [(2, .int y0), (0, .ref th), (1, .int x1)]) hx hb dX2_clear_23 rfl hl (by decide) rfl (fun ls hl => ?_)
  refine lv_aload_n hx hb dX2_clear_24 rfl (lv_at hl 1 rfl) ?_
  refine lv_iload_n hx hb dX2_clear_25 rfl (lv_at hl 2 rfl) ?_
  refine lv_iload_n hx hb dX2_clear_26 rfl (lv_at hl 0 rfl) ?_
  refine w_icmp_le (tgt := 36) C dX2_clear_27 (by decide) hE (fun hc e1 => ?_) (fun hc e1 => ?_)
  · refine lv_iload_n hx hb dX2_clear_36 rfl (lv_at hl 0 rfl) ?_
    exact b_Curve_clear_37 C N n0 s0 hn0   _ _ h th (some th) y0 _ _ ls w hsl (lv_sub hl [1] rfl) e1
  · refine lv_sipush (v := 5001) hx hb dX2_clear_30 (by decide) ?_
    refine lv_goto (tgt := 37) hx hb dX2_clear_33 (by decide) ?_
    exact b_Curve_clear_37 C N n0 s0 hn0   _ _ h th (some th) (5001 : Int32) _ _ ls w hsl (lv_sub hl [1] rfl) e1
set_option maxRecDepth 20000 in
set_option maxHeartbeats 4000000 in
theorem k_Curve_clear (l : Launch) (D : va_G) (cy : cyT) (z : Nat) (N : Nat) (h : hS) (th : Nat) (x1 : Int32) (r : Unit) (g : hS) (hE : f_Curve_clear N h th x1 = some (r, g)) : ct l yX2_clear (Cond.code yX2_clear cX2_clear 3 (none) :: GW) { frames := 0, cells := h_x g - h_x h, slots := h_s g - h_s h, locals := 0 } D cy z h [.ref th, .int x1] (rV r) g := by
  refine Met.ofW (cc := cX2_clear) (maxL := 3) (ret := none) (by decide) rfl ?_
  intro p e s m args below meth c s₁ B hml hv
  obtain ⟨rfl, hw⟩ := hv
  have C : MX p s m ([.ref th, .int x1] : List Value).toArray meth c cX2_clear 3 (none) RX2 (Cond.code yX2_clear cX2_clear 3 (none) :: GW) := ⟨B.exec, B.bytes, B.returns, hml, findClass_of_methodNamed B.named, atoms_spec (ws := Cond.code yX2_clear cX2_clear 3 (none) :: GW) B.pre, B.notSynchronized⟩
  obtain ⟨hx, hb, hr, hml, hown, hts, hlk⟩ := id C
  have w := wd_of hw
  have hsl : h_s h = h_s h + 0 := rfl
  have hn0 : s.heap.size = h_x h := (wd_x w).1
  obtain ⟨ls, hen, hl⟩ : ∃ ls : Array Slot, entryFrame m ([.ref th, .int x1] : List Value).toArray 3 = F0 m 0 ls [] ∧ lv_has ls 3 [(0, .ref th), (1, .int x1)] := by
    exact ⟨_, lg_entry_eq _ _ _, lv_entry _ (Nat.le_of_ble_eq_true rfl)⟩
  rw [hen]
  have hcc : 0 ≤ h_x g - h_x h ∧ 0 ≤ h_s g - h_s h := ⟨Nat.zero_le _, Nat.zero_le _⟩
  unfold f_Curve_clear at hE
  refine lv_iload_n hx hb dX2_clear_0 rfl (lv_at hl 1 rfl) ?_
  refine lv_aload_n hx hb dX2_clear_1 rfl (lv_at hl 0 rfl) ?_
  refine w_gR (r := some th) (ci := 3) (k := 1) C w rfl (by decide) (GF_wsX20 _) (by decide) rfl (List.mem_cons_of_mem _ gw_4_12) rfl dX2_clear_2 hE (fun v1 e1 => ?_)
  refine w_lenI (r := v1) C w dX2_clear_5 e1 (fun v2 e2 => ?_)
  refine w_icmp_le (tgt := 42) C dX2_clear_6 (by decide) e2 (fun hc e3 => ?_) (fun hc e3 => ?_)
  · exact b_Curve_clear_42 C N (h_x h) (h_s h) hn0   _ _ h th _ _ ls w hsl (lv_sub hl [0] rfl) e3
  · refine lv_iload_n hx hb dX2_clear_9 rfl (lv_at hl 1 rfl) ?_
    refine lv_bipush (v := 48) hx hb dX2_clear_10 (by decide) ?_
    refine w_icmp_le (tgt := 21) C dX2_clear_12 (by decide) e3 (fun hc e4 => ?_) (fun hc e4 => ?_)
    · refine lv_bipush (v := 48) hx hb dX2_clear_21 (by decide) ?_
      exact b_Curve_clear_23 C N (h_x h) (h_s h) hn0   _ _ h th x1 (48 : Int32) _ _ ls w hsl (lv_sub hl [0, 1] rfl) e4
    · refine lv_sipush (v := 480) hx hb dX2_clear_15 (by decide) ?_
      refine lv_goto (tgt := 23) hx hb dX2_clear_18 (by decide) ?_
      exact b_Curve_clear_23 C N (h_x h) (h_s h) hn0   _ _ h th x1 (480 : Int32) _ _ ls w hsl (lv_sub hl [0, 1] rfl) e4
set_option maxRecDepth 20000 in
set_option maxHeartbeats 4000000 in
theorem b_Bench_startAnew_8 {p : Program} {l : Launch} {e : Env} {s : State} {m : MethodId} {args : Array Value} {below : List Frame} {meth : Method} {c : Code} {D : va_G} {cy : cyT} {z : Nat} (C : MX p s m args meth c cX0_startAnew 1 (none) RX0 (Cond.code yX0_startAnew cX0_startAnew 1 (none) :: GW)) (N : Nat) (n0 s0 : Nat) (hn0 : s.heap.size = n0) {r : Unit} {g : hS}  : ∀  (cells slots : Nat) (h : hS)  (H : Heap) (locs : List Loc) (ls : Array Slot), wd D cy z s cells h H locs → h_s h = s0 + slots → lv_has ls 1 [] → f_Bench_startAnew_8 N   h  = some (r, g) → W p l e { frames := 1, cells := h_x g - n0, slots := h_s g - s0, locals := 22 } s m args below meth c H locs cells slots (MQ below (eQ D cy z (rV r) g) args s (h_x g - n0) (h_s g - s0) (fun q => z ≤ q)) (F0 m 8 ls []) := by
  obtain ⟨hx, hb, hr, hml, hown, hts, hlk⟩ := id C
  intro cells slots h  H locs ls w hsl hl hE
  have hcc : cells ≤ h_x g - n0 ∧ slots ≤ h_s g - s0 := by
    have q1 := mo_Bench_startAnew_8 N  h  _ _ hE
    have q2 := wd_x w
    have q3 := q1.1
    have q4 := q1.2.1
    omega
  unfold f_Bench_startAnew_8 at hE
  refine W.widen (k := h_x g - n0) (n := h_s g - s0) hcc.1 hcc.2 ?_
  exact w_vret C w hE dX0_startAnew_8
set_option maxRecDepth 20000 in
set_option maxHeartbeats 4000000 in
theorem k_Bench_startAnew (l : Launch) (D : va_G) (cy : cyT) (z : Nat) (N : Nat) (h : hS) (th : Nat) (r : Unit) (g : hS) (hE : f_Bench_startAnew N h th = some (r, g)) : ct l yX0_startAnew (Cond.code yX0_startAnew cX0_startAnew 1 (none) :: GW) { frames := 1, cells := h_x g - h_x h, slots := h_s g - h_s h, locals := 22 } D cy z h [.ref th] (rV r) g := by
  refine Met.ofW (cc := cX0_startAnew) (maxL := 1) (ret := none) (by decide) rfl ?_
  intro p e s m args below meth c s₁ B hml hv
  obtain ⟨rfl, hw⟩ := hv
  have C : MX p s m ([.ref th] : List Value).toArray meth c cX0_startAnew 1 (none) RX0 (Cond.code yX0_startAnew cX0_startAnew 1 (none) :: GW) := ⟨B.exec, B.bytes, B.returns, hml, findClass_of_methodNamed B.named, atoms_spec (ws := Cond.code yX0_startAnew cX0_startAnew 1 (none) :: GW) B.pre, B.notSynchronized⟩
  obtain ⟨hx, hb, hr, hml, hown, hts, hlk⟩ := id C
  have w := wd_of hw
  have hsl : h_s h = h_s h + 0 := rfl
  have hn0 : s.heap.size = h_x h := (wd_x w).1
  obtain ⟨ls, hen, hl⟩ : ∃ ls : Array Slot, entryFrame m ([.ref th] : List Value).toArray 1 = F0 m 0 ls [] ∧ lv_has ls 1 [(0, .ref th)] := by
    exact ⟨_, lg_entry_eq _ _ _, lv_entry _ (Nat.le_of_ble_eq_true rfl)⟩
  rw [hen]
  have hcc : 0 ≤ h_x g - h_x h ∧ 0 ≤ h_s g - h_s h := ⟨Nat.zero_le _, Nat.zero_le _⟩
  unfold f_Bench_startAnew at hE
  refine lv_aload_n hx hb dX0_startAnew_0 rfl (lv_at hl 0 rfl) ?_
  refine w_gR (r := some th) (ci := 1) (k := 0) C w rfl (by decide) (GF_wsX00 _) (by decide) rfl (List.mem_cons_of_mem _ gw_4_3) rfl dX0_startAnew_1 hE (fun v1 e1 => ?_)
  refine lv_iconst (v := 0) hx hb dX0_startAnew_4 (by decide) ?_
  refine w_VAV GW_good (n := 1) (F := 0) (Lc := 0) (o := v1) (av := [.int (0 : Int32)]) (rest := []) C w rfl (by decide) (fun a r g hf => k_Curve_clear l D cy z N h a (0 : Int32) r g hf) gw_20_2 gw_20_3 gw_20_4 gw_2_22 gw_20_5 (by decide +kernel) ⟨Nat.le_of_ble_eq_true rfl, Nat.le_of_ble_eq_true rfl⟩ rfl hl.1 rfl (Nat.le_of_ble_eq_true rfl) dX0_startAnew_5 (fun a => (mo_Curve_clear N h a (0 : Int32))) (fun a v2 h3 q1 q2 => by have u1 := (mo_Curve_clear N h a (0 : Int32)) _ _ q1; have u2 := mo_Bench_startAnew_8 N   h3  _ _ q2; have u3 := wd_x w; have u4 := u1.1; have u5 := u1.2.1; have u6 := u2.1; have u7 := u2.2.1; show 0 + _ ≤ h_x g - (h_x h) ∧ 0 + _ ≤ h_s g - (h_s h); omega) e1 (fun v2 h3 H locs w hsh3 e2 => ?_)
  exact b_Bench_startAnew_8 C N (h_x h) (h_s h) hn0   _ _ h3  _ _ ls w (by have u5 := hsh3.2.1; have u8 := hsl; omega) (lv_sub hl [] rfl) e2
set_option maxRecDepth 20000 in
set_option maxHeartbeats 4000000 in
theorem b_Curve_take_8 {p : Program} {l : Launch} {e : Env} {s : State} {m : MethodId} {args : Array Value} {below : List Frame} {meth : Method} {c : Code} {D : va_G} {cy : cyT} {z : Nat} (C : MX p s m args meth c cX2_take 2 (none) RX2 (Cond.code yX2_take cX2_take 2 (none) :: GW)) (N : Nat) (n0 s0 : Nat) (hn0 : s.heap.size = n0) {r : Unit} {g : hS}  : ∀  (cells slots : Nat) (h : hS) (th : Nat) (a1 : Option Nat) (H : Heap) (locs : List Loc) (ls : Array Slot), wd D cy z s cells h H locs → h_s h = s0 + slots → lv_has ls 2 [(0, .ref th), (1, va_rf a1)] → f_Curve_take_8 N   h th a1 = some (r, g) → W p l e { frames := 1, cells := h_x g - n0, slots := h_s g - s0, locals := 60 } s m args below meth c H locs cells slots (MQ below (eQ D cy z (rV r) g) args s (h_x g - n0) (h_s g - s0) (fun q => z ≤ q)) (F0 m 8 ls []) := by
  obtain ⟨hx, hb, hr, hml, hown, hts, hlk⟩ := id C
  intro cells slots h th a1 H locs ls w hsl hl hE
  have hcc : cells ≤ h_x g - n0 ∧ slots ≤ h_s g - s0 := by
    have q1 := mo_Curve_take_8 N  h th a1 _ _ hE
    have q2 := wd_x w
    have q3 := q1.1
    have q4 := q1.2.1
    omega
  unfold f_Curve_take_8 at hE
  refine lv_aload_n hx hb dX2_take_8 rfl (lv_at hl 0 rfl) ?_
  refine w_aload_n C dX2_take_9 rfl (lv_at hl 1 rfl) ?_
  refine w_gI (r := a1) (ci := 3) (k := 0) C w rfl (by decide) (GF_wsX20 _) (by decide) rfl (List.mem_cons_of_mem _ gw_4_13) rfl dX2_take_10 hE (fun v1 e1 => ?_)
  refine w_aload_n C dX2_take_13 rfl (lv_at hl 1 rfl) ?_
  refine w_gR (r := a1) (ci := 3) (k := 1) C w rfl (by decide) (GF_wsX20 _) (by decide) rfl (List.mem_cons_of_mem _ gw_4_12) rfl dX2_take_14 e1 (fun v2 e2 => ?_)
  refine w_lenI (r := v2) C w dX2_take_17 e2 (fun v3 e3 => ?_)
  refine lv_aload_n hx hb dX2_take_18 rfl (lv_at hl 0 rfl) ?_
  refine w_gR (r := some th) (ci := 3) (k := 1) C w rfl (by decide) (GF_wsX20 _) (by decide) rfl (List.mem_cons_of_mem _ gw_4_12) rfl dX2_take_19 e3 (fun v4 e4 => ?_)
  refine w_lenI (r := v4) C w dX2_take_22 e4 (fun v5 e5 => ?_)
  refine w_mmin C hl.1 (List.mem_cons_of_mem _ gw_22_4) (List.mem_cons_of_mem _ gw_10_6) (List.mem_cons_of_mem _ gw_10_7) (List.mem_cons_of_mem _ gw_10_8) (Nat.le_of_ble_eq_true rfl) (Nat.le_of_ble_eq_true rfl) hcc.1 hcc.2 dX2_take_23 ?_
  refine w_mmin C hl.1 (List.mem_cons_of_mem _ gw_22_4) (List.mem_cons_of_mem _ gw_10_6) (List.mem_cons_of_mem _ gw_10_7) (List.mem_cons_of_mem _ gw_10_8) (Nat.le_of_ble_eq_true rfl) (Nat.le_of_ble_eq_true rfl) hcc.1 hcc.2 dX2_take_26 ?_
  refine w_pI (r := some th) (ci := 3) (k := 0) C w rfl (by decide) (by unfold roK; omega) (GF_wsX20 _) tyX2 tyX2_ok nmX2 (by decide) rfl (List.mem_cons_of_mem _ gw_4_13) rfl rfl (tyX2_ok 0 (by decide)) dX2_take_29 e5 (fun h6 H locs w hsh6 e6 => ?_)
  have hsl := hsh6.2.2.2.trans hsl
  refine w_aload_n C dX2_take_32 rfl (lv_at hl 1 rfl) ?_
  refine w_gR (r := a1) (ci := 3) (k := 1) C w rfl (by decide) (GF_wsX20 _) (by decide) rfl (List.mem_cons_of_mem _ gw_4_12) rfl dX2_take_33 e6 (fun v7 e7 => ?_)
  refine lv_iconst (v := 0) hx hb dX2_take_36 (by decide) ?_
  refine lv_aload_n hx hb dX2_take_37 rfl (lv_at hl 0 rfl) ?_
  refine w_gR (r := some th) (ci := 3) (k := 1) C w rfl (by decide) (GF_wsX20 _) (by decide) rfl (List.mem_cons_of_mem _ gw_4_12) rfl dX2_take_38 e7 (fun v8 e8 => ?_)
  refine lv_iconst (v := 0) hx hb dX2_take_41 (by decide) ?_
  refine lv_aload_n hx hb dX2_take_42 rfl (lv_at hl 0 rfl) ?_
  refine w_gI (r := some th) (ci := 3) (k := 0) C w rfl (by decide) (GF_wsX20 _) (by decide) rfl (List.mem_cons_of_mem _ gw_4_13) rfl dX2_take_43 e8 (fun v9 e9 => ?_)
  refine w_cpI (src := v7) (dst := v8) C w hl.1 (List.mem_cons_of_mem _ gw_24_9) (List.mem_cons_of_mem _ gw_18_14) (List.mem_cons_of_mem _ gw_18_15) (List.mem_cons_of_mem _ gw_18_16) (Nat.le_of_ble_eq_true rfl) (Nat.le_of_ble_eq_true rfl) dX2_take_46 e9 (fun h10 H locs w hsh10 e10 => ?_)
  have hsl := hsh10.2.2.2.trans hsl
  refine lv_aload_n hx hb dX2_take_49 rfl (lv_at hl 0 rfl) ?_
  refine w_aload_n C dX2_take_50 rfl (lv_at hl 1 rfl) ?_
  refine w_gI (r := a1) (ci := 3) (k := 2) C w rfl (by decide) (GF_wsX20 _) (by decide) rfl (List.mem_cons_of_mem _ gw_4_14) rfl dX2_take_51 e10 (fun v11 e11 => ?_)
  refine w_pI (r := some th) (ci := 3) (k := 2) C w rfl (by decide) (by unfold roK; omega) (GF_wsX20 _) tyX2 tyX2_ok nmX2 (by decide) rfl (List.mem_cons_of_mem _ gw_4_14) rfl rfl (tyX2_ok 2 (by decide)) dX2_take_54 e11 (fun h12 H locs w hsh12 e12 => ?_)
  have hsl := hsh12.2.2.2.trans hsl
  refine lv_aload_n hx hb dX2_take_57 rfl (lv_at hl 0 rfl) ?_
  refine w_aload_n C dX2_take_58 rfl (lv_at hl 1 rfl) ?_
  refine w_gI (r := a1) (ci := 3) (k := 3) C w rfl (by decide) (GF_wsX20 _) (by decide) rfl (List.mem_cons_of_mem _ gw_4_15) rfl dX2_take_59 e12 (fun v13 e13 => ?_)
  refine w_pI (r := some th) (ci := 3) (k := 3) C w rfl (by decide) (by unfold roK; omega) (GF_wsX20 _) tyX2 tyX2_ok nmX2 (by decide) rfl (List.mem_cons_of_mem _ gw_4_15) rfl rfl (tyX2_ok 3 (by decide)) dX2_take_62 e13 (fun h14 H locs w hsh14 e14 => ?_)
  have hsl := hsh14.2.2.2.trans hsl
  refine lv_aload_n hx hb dX2_take_65 rfl (lv_at hl 0 rfl) ?_
  refine w_aload_n C dX2_take_66 rfl (lv_at hl 1 rfl) ?_
  refine w_gJ (r := a1) (ci := 3) (k := 4) C w rfl (by decide) (GF_wsX20 _) (by decide) rfl (List.mem_cons_of_mem _ gw_4_16) rfl dX2_take_67 e14 (fun v15 e15 => ?_)
  refine w_pJ (r := some th) (ci := 3) (k := 4) C w rfl (by decide) (by unfold roK; omega) (GF_wsX20 _) tyX2 tyX2_ok nmX2 (by decide) rfl (List.mem_cons_of_mem _ gw_4_16) rfl rfl (tyX2_ok 4 (by decide)) dX2_take_70 e15 (fun h16 H locs w hsh16 e16 => ?_)
  have hsl := hsh16.2.2.2.trans hsl
  refine W.widen (k := h_x g - n0) (n := h_s g - s0) hcc.1 hcc.2 ?_
  exact w_vret C w e16 dX2_take_73
set_option maxRecDepth 20000 in
set_option maxHeartbeats 4000000 in
theorem k_Curve_take (l : Launch) (D : va_G) (cy : cyT) (z : Nat) (N : Nat) (h : hS) (th : Nat) (a1 : Option Nat) (r : Unit) (g : hS) (hE : f_Curve_take N h th a1 = some (r, g)) : ct l yX2_take (Cond.code yX2_take cX2_take 2 (none) :: GW) { frames := 1, cells := h_x g - h_x h, slots := h_s g - h_s h, locals := 60 } D cy z h [.ref th, va_rf a1] (rV r) g := by
  refine Met.ofW (cc := cX2_take) (maxL := 2) (ret := none) (by decide) rfl ?_
  intro p e s m args below meth c s₁ B hml hv
  obtain ⟨rfl, hw⟩ := hv
  have C : MX p s m ([.ref th, va_rf a1] : List Value).toArray meth c cX2_take 2 (none) RX2 (Cond.code yX2_take cX2_take 2 (none) :: GW) := ⟨B.exec, B.bytes, B.returns, hml, findClass_of_methodNamed B.named, atoms_spec (ws := Cond.code yX2_take cX2_take 2 (none) :: GW) B.pre, B.notSynchronized⟩
  obtain ⟨hx, hb, hr, hml, hown, hts, hlk⟩ := id C
  have w := wd_of hw
  have hsl : h_s h = h_s h + 0 := rfl
  have hn0 : s.heap.size = h_x h := (wd_x w).1
  obtain ⟨ls, hen, hl⟩ : ∃ ls : Array Slot, entryFrame m ([.ref th, va_rf a1] : List Value).toArray 2 = F0 m 0 ls [] ∧ lv_has ls 2 [(0, .ref th), (1, va_rf a1)] := by
    cases a1 <;> exact ⟨_, lg_entry_eq _ _ _, lv_entry _ (Nat.le_of_ble_eq_true rfl)⟩
  rw [hen]
  have hcc : 0 ≤ h_x g - h_x h ∧ 0 ≤ h_s g - h_s h := ⟨Nat.zero_le _, Nat.zero_le _⟩
  unfold f_Curve_take at hE
  refine lv_aload_n hx hb dX2_take_0 rfl (lv_at hl 0 rfl) ?_
  refine w_aload_n C dX2_take_1 rfl (lv_at hl 1 rfl) ?_
  refine w_gI (r := a1) (ci := 3) (k := 0) C w rfl (by decide) (GF_wsX20 _) (by decide) rfl (List.mem_cons_of_mem _ gw_4_13) rfl dX2_take_2 hE (fun v1 e1 => ?_)
  refine w_VAV GW_good (n := 1) (F := 0) (Lc := 0) (o := some th) (av := [.int v1]) (rest := []) C w rfl (by decide) (fun a r g hf => k_Curve_clear l D cy z N h a v1 r g hf) gw_21_3 gw_20_3 gw_20_4 gw_2_22 gw_20_5 (by decide +kernel) ⟨Nat.le_of_ble_eq_true rfl, Nat.le_of_ble_eq_true rfl⟩ rfl hl.1 rfl (Nat.le_of_ble_eq_true rfl) dX2_take_5 (fun a => (mo_Curve_clear N h a v1)) (fun a v2 h3 q1 q2 => by have u1 := (mo_Curve_clear N h a v1) _ _ q1; have u2 := mo_Curve_take_8 N   h3 th a1 _ _ q2; have u3 := wd_x w; have u4 := u1.1; have u5 := u1.2.1; have u6 := u2.1; have u7 := u2.2.1; show 0 + _ ≤ h_x g - (h_x h) ∧ 0 + _ ≤ h_s g - (h_s h); omega) e1 (fun v2 h3 H locs w hsh3 e2 => ?_)
  exact b_Curve_take_8 C N (h_x h) (h_s h) hn0   _ _ h3 th a1 _ _ ls w (by have u5 := hsh3.2.1; have u8 := hsl; omega) (lv_sub hl [0, 1] rfl) e2
set_option maxRecDepth 20000 in
set_option maxHeartbeats 4000000 in
theorem b_Bench_startWith_8 {p : Program} {l : Launch} {e : Env} {s : State} {m : MethodId} {args : Array Value} {below : List Frame} {meth : Method} {c : Code} {D : va_G} {cy : cyT} {z : Nat} (C : MX p s m args meth c cX0_startWith 2 (none) RX0 (Cond.code yX0_startWith cX0_startWith 2 (none) :: GW)) (N : Nat) (n0 s0 : Nat) (hn0 : s.heap.size = n0) {r : Unit} {g : hS}  : ∀  (cells slots : Nat) (h : hS)  (H : Heap) (locs : List Loc) (ls : Array Slot), wd D cy z s cells h H locs → h_s h = s0 + slots → lv_has ls 2 [] → f_Bench_startWith_8 N   h  = some (r, g) → W p l e { frames := 2, cells := h_x g - n0, slots := h_s g - s0, locals := 81 } s m args below meth c H locs cells slots (MQ below (eQ D cy z (rV r) g) args s (h_x g - n0) (h_s g - s0) (fun q => z ≤ q)) (F0 m 8 ls []) := by
  obtain ⟨hx, hb, hr, hml, hown, hts, hlk⟩ := id C
  intro cells slots h  H locs ls w hsl hl hE
  have hcc : cells ≤ h_x g - n0 ∧ slots ≤ h_s g - s0 := by
    have q1 := mo_Bench_startWith_8 N  h  _ _ hE
    have q2 := wd_x w
    have q3 := q1.1
    have q4 := q1.2.1
    omega
  unfold f_Bench_startWith_8 at hE
  refine W.widen (k := h_x g - n0) (n := h_s g - s0) hcc.1 hcc.2 ?_
  exact w_vret C w hE dX0_startWith_8
set_option maxRecDepth 20000 in
set_option maxHeartbeats 4000000 in
theorem k_Bench_startWith (l : Launch) (D : va_G) (cy : cyT) (z : Nat) (N : Nat) (h : hS) (th : Nat) (a1 : Option Nat) (r : Unit) (g : hS) (hE : f_Bench_startWith N h th a1 = some (r, g)) : ct l yX0_startWith (Cond.code yX0_startWith cX0_startWith 2 (none) :: GW) { frames := 2, cells := h_x g - h_x h, slots := h_s g - h_s h, locals := 81 } D cy z h [.ref th, va_rf a1] (rV r) g := by
  refine Met.ofW (cc := cX0_startWith) (maxL := 2) (ret := none) (by decide) rfl ?_
  intro p e s m args below meth c s₁ B hml hv
  obtain ⟨rfl, hw⟩ := hv
  have C : MX p s m ([.ref th, va_rf a1] : List Value).toArray meth c cX0_startWith 2 (none) RX0 (Cond.code yX0_startWith cX0_startWith 2 (none) :: GW) := ⟨B.exec, B.bytes, B.returns, hml, findClass_of_methodNamed B.named, atoms_spec (ws := Cond.code yX0_startWith cX0_startWith 2 (none) :: GW) B.pre, B.notSynchronized⟩
  obtain ⟨hx, hb, hr, hml, hown, hts, hlk⟩ := id C
  have w := wd_of hw
  have hsl : h_s h = h_s h + 0 := rfl
  have hn0 : s.heap.size = h_x h := (wd_x w).1
  obtain ⟨ls, hen, hl⟩ : ∃ ls : Array Slot, entryFrame m ([.ref th, va_rf a1] : List Value).toArray 2 = F0 m 0 ls [] ∧ lv_has ls 2 [(0, .ref th), (1, va_rf a1)] := by
    cases a1 <;> exact ⟨_, lg_entry_eq _ _ _, lv_entry _ (Nat.le_of_ble_eq_true rfl)⟩
  rw [hen]
  have hcc : 0 ≤ h_x g - h_x h ∧ 0 ≤ h_s g - h_s h := ⟨Nat.zero_le _, Nat.zero_le _⟩
  unfold f_Bench_startWith at hE
  refine lv_aload_n hx hb dX0_startWith_0 rfl (lv_at hl 0 rfl) ?_
  refine w_gR (r := some th) (ci := 1) (k := 0) C w rfl (by decide) (GF_wsX00 _) (by decide) rfl (List.mem_cons_of_mem _ gw_4_3) rfl dX0_startWith_1 hE (fun v1 e1 => ?_)
  refine w_aload_n C dX0_startWith_4 rfl (lv_at hl 1 rfl) ?_
  refine w_VAV GW_good (n := 1) (F := 1) (Lc := 60) (o := v1) (av := [va_rf a1]) (rest := []) C w rfl (by decide) (fun a r g hf => k_Curve_take l D cy z N h a a1 r g hf) gw_50_9 gw_24_6 gw_24_7 gw_2_22 gw_24_8 (by decide +kernel) ⟨Nat.le_of_ble_eq_true rfl, Nat.le_of_ble_eq_true rfl⟩ rfl hl.1 rfl (Nat.le_of_ble_eq_true rfl) dX0_startWith_5 (fun a => (mo_Curve_take N h a a1)) (fun a v2 h3 q1 q2 => by have u1 := (mo_Curve_take N h a a1) _ _ q1; have u2 := mo_Bench_startWith_8 N   h3  _ _ q2; have u3 := wd_x w; have u4 := u1.1; have u5 := u1.2.1; have u6 := u2.1; have u7 := u2.2.1; show 0 + _ ≤ h_x g - (h_x h) ∧ 0 + _ ≤ h_s g - (h_s h); omega) e1 (fun v2 h3 H locs w hsh3 e2 => ?_)
  exact b_Bench_startWith_8 C N (h_x h) (h_s h) hn0   _ _ h3  _ _ ls w (by have u5 := hsh3.2.1; have u8 := hsl; omega) (lv_sub hl [] rfl) e2
set_option maxRecDepth 20000 in
set_option maxHeartbeats 4000000 in
theorem b_Chain_stepAt_31 {p : Program} {l : Launch} {e : Env} {s : State} {m : MethodId} {args : Array Value} {below : List Frame} {meth : Method} {c : Code} {D : va_G} {cy : cyT} {z : Nat} (C : MX p s m args meth c cX1_stepAt 2 ((some (.object "SlopeKeeper$Step"))) RX1 (Cond.code yX1_stepAt cX1_stepAt 2 ((some (.object "SlopeKeeper$Step"))) :: GW)) (N : Nat) {r : Option Nat} {g : hS}  : ∀  (h : hS) (y0 : Option Nat) (H : Heap) (locs : List Loc) (ls : Array Slot), wd D cy z s 0 h H locs → lv_has ls 2 [] → f_Chain_stepAt_31 N   h y0 = some (r, g) → W p l e { frames := 0, cells := 0, slots := 0, locals := 0 } s m args below meth c H locs 0 0 (MQ below (eQ D cy z (rR r) g) args s 0 0 (fun q => z ≤ q)) (F0 m 31 ls [va_rf y0]) := by
  obtain ⟨hx, hb, hr, hml, hown, hts, hlk⟩ := id C
  intro  h y0 H locs ls w  hl hE
  unfold f_Chain_stepAt_31 at hE
  exact w_aret (v := y0) (Or.inl ⟨_, rfl⟩) C w hE dX1_stepAt_31
set_option maxRecDepth 20000 in
set_option maxHeartbeats 4000000 in
theorem b_Chain_stepAt_30 {p : Program} {l : Launch} {e : Env} {s : State} {m : MethodId} {args : Array Value} {below : List Frame} {meth : Method} {c : Code} {D : va_G} {cy : cyT} {z : Nat} (C : MX p s m args meth c cX1_stepAt 2 ((some (.object "SlopeKeeper$Step"))) RX1 (Cond.code yX1_stepAt cX1_stepAt 2 ((some (.object "SlopeKeeper$Step"))) :: GW)) (N : Nat) {r : Option Nat} {g : hS}  : ∀  (h : hS)  (H : Heap) (locs : List Loc) (ls : Array Slot), wd D cy z s 0 h H locs → lv_has ls 2 [] → f_Chain_stepAt_30 N   h  = some (r, g) → W p l e { frames := 0, cells := 0, slots := 0, locals := 0 } s m args below meth c H locs 0 0 (MQ below (eQ D cy z (rR r) g) args s 0 0 (fun q => z ≤ q)) (F0 m 30 ls []) := by
  obtain ⟨hx, hb, hr, hml, hown, hts, hlk⟩ := id C
  intro  h  H locs ls w  hl hE
  unfold f_Chain_stepAt_30 at hE
  refine lv_null hx hb dX1_stepAt_30 ?_
  exact b_Chain_stepAt_31 C N     h none _ _ ls w  (lv_sub hl [] rfl) hE
set_option maxRecDepth 20000 in
set_option maxHeartbeats 4000000 in
theorem k_Chain_stepAt (l : Launch) (D : va_G) (cy : cyT) (z : Nat) (N : Nat) (h : hS) (th : Nat) (x1 : Int32) (r : Option Nat) (g : hS) (hE : f_Chain_stepAt N h th x1 = some (r, g)) : ct l yX1_stepAt (Cond.code yX1_stepAt cX1_stepAt 2 ((some (.object "SlopeKeeper$Step"))) :: GW) { frames := 0, cells := 0, slots := 0, locals := 0 } D cy z h [.ref th, .int x1] (rR r) g := by
  refine Met.ofW (cc := cX1_stepAt) (maxL := 2) (ret := (some (.object "SlopeKeeper$Step"))) (by decide) rfl ?_
  intro p e s m args below meth c s₁ B hml hv
  obtain ⟨rfl, hw⟩ := hv
  have C : MX p s m ([.ref th, .int x1] : List Value).toArray meth c cX1_stepAt 2 ((some (.object "SlopeKeeper$Step"))) RX1 (Cond.code yX1_stepAt cX1_stepAt 2 ((some (.object "SlopeKeeper$Step"))) :: GW) := ⟨B.exec, B.bytes, B.returns, hml, findClass_of_methodNamed B.named, atoms_spec (ws := Cond.code yX1_stepAt cX1_stepAt 2 ((some (.object "SlopeKeeper$Step"))) :: GW) B.pre, B.notSynchronized⟩
  obtain ⟨hx, hb, hr, hml, hown, hts, hlk⟩ := id C
  have w := wd_of hw
  obtain ⟨ls, hen, hl⟩ : ∃ ls : Array Slot, entryFrame m ([.ref th, .int x1] : List Value).toArray 2 = F0 m 0 ls [] ∧ lv_has ls 2 [(0, .ref th), (1, .int x1)] := by
    exact ⟨_, lg_entry_eq _ _ _, lv_entry _ (Nat.le_of_ble_eq_true rfl)⟩
  rw [hen]
  unfold f_Chain_stepAt at hE
  refine lv_iload_n hx hb dX1_stepAt_0 rfl (lv_at hl 1 rfl) ?_
  refine w_if_lt (tgt := 30) C dX1_stepAt_1 (by decide) hE (fun hc e1 => ?_) (fun hc e1 => ?_)
  · exact b_Chain_stepAt_30 C N     h  _ _ ls w  (lv_sub hl [] rfl) e1
  · refine lv_iload_n hx hb dX1_stepAt_4 rfl (lv_at hl 1 rfl) ?_
    refine lv_aload_n hx hb dX1_stepAt_5 rfl (lv_at hl 0 rfl) ?_
    refine w_gI (r := some th) (ci := 2) (k := 1) C w rfl (by decide) (GF_wsX10 _) (by decide) rfl (List.mem_cons_of_mem _ gw_5_14) rfl dX1_stepAt_6 e1 (fun v1 e2 => ?_)
    refine w_icmp_ge (tgt := 30) C dX1_stepAt_9 (by decide) e2 (fun hc e3 => ?_) (fun hc e3 => ?_)
    · exact b_Chain_stepAt_30 C N     h  _ _ ls w  (lv_sub hl [] rfl) e3
    · refine lv_iload_n hx hb dX1_stepAt_12 rfl (lv_at hl 1 rfl) ?_
      refine lv_aload_n hx hb dX1_stepAt_13 rfl (lv_at hl 0 rfl) ?_
      refine w_gR (r := some th) (ci := 2) (k := 0) C w rfl (by decide) (GF_wsX10 _) (by decide) rfl (List.mem_cons_of_mem _ gw_5_13) rfl dX1_stepAt_14 e3 (fun v2 e4 => ?_)
      refine w_lenRq (kd := 64) (t0 := 8) (r := v2) C w rfl (by decide) dX1_stepAt_17 e4 (fun v3 e5 => ?_)
      refine w_icmp_ge (tgt := 30) C dX1_stepAt_18 (by decide) e5 (fun hc e6 => ?_) (fun hc e6 => ?_)
      · exact b_Chain_stepAt_30 C N     h  _ _ ls w  (lv_sub hl [] rfl) e6
      · refine lv_aload_n hx hb dX1_stepAt_21 rfl (lv_at hl 0 rfl) ?_
        refine w_gR (r := some th) (ci := 2) (k := 0) C w rfl (by decide) (GF_wsX10 _) (by decide) rfl (List.mem_cons_of_mem _ gw_5_13) rfl dX1_stepAt_22 e6 (fun v4 e7 => ?_)
        refine lv_iload_n hx hb dX1_stepAt_25 rfl (lv_at hl 1 rfl) ?_
        refine w_aRq (kd := 64) (t0 := 8) (r := v4) C w rfl (by decide) dX1_stepAt_26 e7 (fun v5 e8 => ?_)
        refine lv_goto (tgt := 31) hx hb dX1_stepAt_27 (by decide) ?_
        exact b_Chain_stepAt_31 C N     h v5 _ _ ls w  (lv_sub hl [] rfl) e8
set_option maxRecDepth 20000 in
set_option maxHeartbeats 4000000 in
theorem b_Curve_placeOf_34 {p : Program} {l : Launch} {e : Env} {s : State} {m : MethodId} {args : Array Value} {below : List Frame} {meth : Method} {c : Code} {D : va_G} {cy : cyT} {z : Nat} (C : MX p s m args meth c cX2_placeOf 2 ((some .int)) RX2 (Cond.code yX2_placeOf cX2_placeOf 2 ((some .int)) :: GW)) (N : Nat) {r : Int32} {g : hS}  : ∀  (h : hS) (y0 : Int32) (H : Heap) (locs : List Loc) (ls : Array Slot), wd D cy z s 0 h H locs → lv_has ls 2 [] → f_Curve_placeOf_34 N   h y0 = some (r, g) → W p l e { frames := 0, cells := 0, slots := 0, locals := 0 } s m args below meth c H locs 0 0 (MQ below (eQ D cy z (rI r) g) args s 0 0 (fun q => z ≤ q)) (F0 m 34 ls [.int y0]) := by
  obtain ⟨hx, hb, hr, hml, hown, hts, hlk⟩ := id C
  intro  h y0 H locs ls w  hl hE
  unfold f_Curve_placeOf_34 at hE
  exact w_iret C w hE dX2_placeOf_34
set_option maxRecDepth 20000 in
set_option maxHeartbeats 4000000 in
theorem b_Curve_placeOf_33 {p : Program} {l : Launch} {e : Env} {s : State} {m : MethodId} {args : Array Value} {below : List Frame} {meth : Method} {c : Code} {D : va_G} {cy : cyT} {z : Nat} (C : MX p s m args meth c cX2_placeOf 2 ((some .int)) RX2 (Cond.code yX2_placeOf cX2_placeOf 2 ((some .int)) :: GW)) (N : Nat) {r : Int32} {g : hS}  : ∀  (h : hS)  (H : Heap) (locs : List Loc) (ls : Array Slot), wd D cy z s 0 h H locs → lv_has ls 2 [] → f_Curve_placeOf_33 N   h  = some (r, g) → W p l e { frames := 0, cells := 0, slots := 0, locals := 0 } s m args below meth c H locs 0 0 (MQ below (eQ D cy z (rI r) g) args s 0 0 (fun q => z ≤ q)) (F0 m 33 ls []) := by
  obtain ⟨hx, hb, hr, hml, hown, hts, hlk⟩ := id C
  intro  h  H locs ls w  hl hE
  unfold f_Curve_placeOf_33 at hE
  refine lv_iconst (v := 0) hx hb dX2_placeOf_33 (by decide) ?_
  exact b_Curve_placeOf_34 C N     h (0 : Int32) _ _ ls w  (lv_sub hl [] rfl) hE
set_option maxRecDepth 20000 in
set_option maxHeartbeats 4000000 in
theorem k_Curve_placeOf (l : Launch) (D : va_G) (cy : cyT) (z : Nat) (N : Nat) (h : hS) (th : Nat) (x1 : Int32) (r : Int32) (g : hS) (hE : f_Curve_placeOf N h th x1 = some (r, g)) : ct l yX2_placeOf (Cond.code yX2_placeOf cX2_placeOf 2 ((some .int)) :: GW) { frames := 0, cells := 0, slots := 0, locals := 0 } D cy z h [.ref th, .int x1] (rI r) g := by
  refine Met.ofW (cc := cX2_placeOf) (maxL := 2) (ret := (some .int)) (by decide) rfl ?_
  intro p e s m args below meth c s₁ B hml hv
  obtain ⟨rfl, hw⟩ := hv
  have C : MX p s m ([.ref th, .int x1] : List Value).toArray meth c cX2_placeOf 2 ((some .int)) RX2 (Cond.code yX2_placeOf cX2_placeOf 2 ((some .int)) :: GW) := ⟨B.exec, B.bytes, B.returns, hml, findClass_of_methodNamed B.named, atoms_spec (ws := Cond.code yX2_placeOf cX2_placeOf 2 ((some .int)) :: GW) B.pre, B.notSynchronized⟩
  obtain ⟨hx, hb, hr, hml, hown, hts, hlk⟩ := id C
  have w := wd_of hw
  obtain ⟨ls, hen, hl⟩ : ∃ ls : Array Slot, entryFrame m ([.ref th, .int x1] : List Value).toArray 2 = F0 m 0 ls [] ∧ lv_has ls 2 [(0, .ref th), (1, .int x1)] := by
    exact ⟨_, lg_entry_eq _ _ _, lv_entry _ (Nat.le_of_ble_eq_true rfl)⟩
  rw [hen]
  unfold f_Curve_placeOf at hE
  refine lv_iload_n hx hb dX2_placeOf_0 rfl (lv_at hl 1 rfl) ?_
  refine w_if_lt (tgt := 33) C dX2_placeOf_1 (by decide) hE (fun hc e1 => ?_) (fun hc e1 => ?_)
  · exact b_Curve_placeOf_33 C N     h  _ _ ls w  (lv_sub hl [] rfl) e1
  · refine lv_iload_n hx hb dX2_placeOf_4 rfl (lv_at hl 1 rfl) ?_
    refine lv_aload_n hx hb dX2_placeOf_5 rfl (lv_at hl 0 rfl) ?_
    refine w_gI (r := some th) (ci := 3) (k := 0) C w rfl (by decide) (GF_wsX20 _) (by decide) rfl (List.mem_cons_of_mem _ gw_4_13) rfl dX2_placeOf_6 e1 (fun v1 e2 => ?_)
    refine w_icmp_ge (tgt := 33) C dX2_placeOf_9 (by decide) e2 (fun hc e3 => ?_) (fun hc e3 => ?_)
    · exact b_Curve_placeOf_33 C N     h  _ _ ls w  (lv_sub hl [] rfl) e3
    · refine lv_iload_n hx hb dX2_placeOf_12 rfl (lv_at hl 1 rfl) ?_
      refine lv_aload_n hx hb dX2_placeOf_13 rfl (lv_at hl 0 rfl) ?_
      refine w_gR (r := some th) (ci := 3) (k := 1) C w rfl (by decide) (GF_wsX20 _) (by decide) rfl (List.mem_cons_of_mem _ gw_4_12) rfl dX2_placeOf_14 e3 (fun v2 e4 => ?_)
      refine w_lenI (r := v2) C w dX2_placeOf_17 e4 (fun v3 e5 => ?_)
      refine w_icmp_ge (tgt := 33) C dX2_placeOf_18 (by decide) e5 (fun hc e6 => ?_) (fun hc e6 => ?_)
      · exact b_Curve_placeOf_33 C N     h  _ _ ls w  (lv_sub hl [] rfl) e6
      · refine lv_aload_n hx hb dX2_placeOf_21 rfl (lv_at hl 0 rfl) ?_
        refine w_gR (r := some th) (ci := 3) (k := 1) C w rfl (by decide) (GF_wsX20 _) (by decide) rfl (List.mem_cons_of_mem _ gw_4_12) rfl dX2_placeOf_22 e6 (fun v4 e7 => ?_)
        refine lv_iload_n hx hb dX2_placeOf_25 rfl (lv_at hl 1 rfl) ?_
        refine w_aI (r := v4) C w dX2_placeOf_26 e7 (fun v5 e8 => ?_)
        refine lv_bipush (v := 13) hx hb dX2_placeOf_27 (by decide) ?_
        refine lv_ishr hx hb dX2_placeOf_29 ?_
        refine lv_goto (tgt := 34) hx hb dX2_placeOf_30 (by decide) ?_
        exact b_Curve_placeOf_34 C N     h (v5 >>> ((13 : Int32) &&& 31)) _ _ ls w  (lv_sub hl [] rfl) e8
set_option maxRecDepth 20000 in
set_option maxHeartbeats 4000000 in
theorem b_Curve_append_113 {p : Program} {l : Launch} {e : Env} {s : State} {m : MethodId} {args : Array Value} {below : List Frame} {meth : Method} {c : Code} {D : va_G} {cy : cyT} {z : Nat} (C : MX p s m args meth c cX2_append 3 (none) RX2 (Cond.code yX2_append cX2_append 3 (none) :: GW)) (N : Nat) {r : Unit} {g : hS}  : ∀  (h : hS)  (H : Heap) (locs : List Loc) (ls : Array Slot), wd D cy z s 0 h H locs → lv_has ls 3 [] → f_Curve_append_113 N   h  = some (r, g) → W p l e { frames := 1, cells := 0, slots := 0, locals := 21 } s m args below meth c H locs 0 0 (MQ below (eQ D cy z (rV r) g) args s 0 0 (fun q => z ≤ q)) (F0 m 113 ls []) := by
  obtain ⟨hx, hb, hr, hml, hown, hts, hlk⟩ := id C
  intro  h  H locs ls w  hl hE
  unfold f_Curve_append_113 at hE
  exact w_vret C w hE dX2_append_113
set_option maxRecDepth 20000 in
set_option maxHeartbeats 4000000 in
theorem b_Curve_append_66 {p : Program} {l : Launch} {e : Env} {s : State} {m : MethodId} {args : Array Value} {below : List Frame} {meth : Method} {c : Code} {D : va_G} {cy : cyT} {z : Nat} (C : MX p s m args meth c cX2_append 3 (none) RX2 (Cond.code yX2_append cX2_append 3 (none) :: GW)) (N : Nat) {r : Unit} {g : hS}  : ∀  (h : hS) (th : Nat) (x1 : Int32) (x2 : Int32) (H : Heap) (locs : List Loc) (ls : Array Slot), wd D cy z s 0 h H locs → lv_has ls 3 [(0, .ref th), (1, .int x1), (2, .int x2)] → f_Curve_append_66 N   h th x1 x2 = some (r, g) → W p l e { frames := 1, cells := 0, slots := 0, locals := 21 } s m args below meth c H locs 0 0 (MQ below (eQ D cy z (rV r) g) args s 0 0 (fun q => z ≤ q)) (F0 m 66 ls []) := by
  obtain ⟨hx, hb, hr, hml, hown, hts, hlk⟩ := id C
  intro  h th x1 x2 H locs ls w  hl hE
  unfold f_Curve_append_66 at hE
  refine lv_aload_n hx hb dX2_append_66 rfl (lv_at hl 0 rfl) ?_
  refine w_gI (r := some th) (ci := 3) (k := 0) C w rfl (by decide) (GF_wsX20 _) (by decide) rfl (List.mem_cons_of_mem _ gw_4_13) rfl dX2_append_67 hE (fun v1 e1 => ?_)
  refine lv_aload_n hx hb dX2_append_70 rfl (lv_at hl 0 rfl) ?_
  refine w_gR (r := some th) (ci := 3) (k := 1) C w rfl (by decide) (GF_wsX20 _) (by decide) rfl (List.mem_cons_of_mem _ gw_4_12) rfl dX2_append_71 e1 (fun v2 e2 => ?_)
  refine w_lenI (r := v2) C w dX2_append_74 e2 (fun v3 e3 => ?_)
  refine w_icmp_ge (tgt := 113) C dX2_append_75 (by decide) e3 (fun hc e4 => ?_) (fun hc e4 => ?_)
  · exact b_Curve_append_113 C N     h  _ _ ls w  (lv_sub hl [] rfl) e4
  · refine lv_aload_n hx hb dX2_append_78 rfl (lv_at hl 0 rfl) ?_
    refine w_gR (r := some th) (ci := 3) (k := 1) C w rfl (by decide) (GF_wsX20 _) (by decide) rfl (List.mem_cons_of_mem _ gw_4_12) rfl dX2_append_79 e4 (fun v4 e5 => ?_)
    refine lv_aload_n hx hb dX2_append_82 rfl (lv_at hl 0 rfl) ?_
    refine w_gI (r := some th) (ci := 3) (k := 0) C w rfl (by decide) (GF_wsX20 _) (by decide) rfl (List.mem_cons_of_mem _ gw_4_13) rfl dX2_append_83 e5 (fun v5 e6 => ?_)
    refine lv_iload_n hx hb dX2_append_86 rfl (lv_at hl 1 rfl) ?_
    refine lv_bipush (v := 13) hx hb dX2_append_87 (by decide) ?_
    refine lv_ishl hx hb dX2_append_89 ?_
    refine lv_iload_n hx hb dX2_append_90 rfl (lv_at hl 2 rfl) ?_
    refine lv_iadd hx hb dX2_append_91 ?_
    refine w_uI (r := v4) C w dX2_append_92 e6 (fun h6 H locs w hsh6 e7 => ?_)
    refine lv_aload_n hx hb dX2_append_93 rfl (lv_at hl 0 rfl) ?_
    refine lv_dup hx hb dX2_append_94 rfl ?_
    refine w_gI (r := some th) (ci := 3) (k := 0) C w rfl (by decide) (GF_wsX20 _) (by decide) rfl (List.mem_cons_of_mem _ gw_4_13) rfl dX2_append_95 e7 (fun v7 e8 => ?_)
    refine lv_iconst (v := 1) hx hb dX2_append_98 (by decide) ?_
    refine lv_iadd hx hb dX2_append_99 ?_
    refine w_pI (r := some th) (ci := 3) (k := 0) C w rfl (by decide) (by unfold roK; omega) (GF_wsX20 _) tyX2 tyX2_ok nmX2 (by decide) rfl (List.mem_cons_of_mem _ gw_4_13) rfl rfl (tyX2_ok 0 (by decide)) dX2_append_100 e8 (fun h8 H locs w hsh8 e9 => ?_)
    refine lv_aload_n hx hb dX2_append_103 rfl (lv_at hl 0 rfl) ?_
    refine lv_dup hx hb dX2_append_104 rfl ?_
    refine w_gI (r := some th) (ci := 3) (k := 3) C w rfl (by decide) (GF_wsX20 _) (by decide) rfl (List.mem_cons_of_mem _ gw_4_15) rfl dX2_append_105 e9 (fun v9 e10 => ?_)
    refine lv_iload_n hx hb dX2_append_108 rfl (lv_at hl 2 rfl) ?_
    refine lv_iadd hx hb dX2_append_109 ?_
    refine w_pI (r := some th) (ci := 3) (k := 3) C w rfl (by decide) (by unfold roK; omega) (GF_wsX20 _) tyX2 tyX2_ok nmX2 (by decide) rfl (List.mem_cons_of_mem _ gw_4_15) rfl rfl (tyX2_ok 3 (by decide)) dX2_append_110 e10 (fun h10 H locs w hsh10 e11 => ?_)
    exact b_Curve_append_113 C N     h10  _ _ ls w  (lv_sub hl [] rfl) e11
set_option maxRecDepth 20000 in
set_option maxHeartbeats 4000000 in
theorem k_Curve_append (l : Launch) (D : va_G) (cy : cyT) (z : Nat) (N : Nat) (h : hS) (th : Nat) (x1 : Int32) (x2 : Int32) (r : Unit) (g : hS) (hE : f_Curve_append N h th x1 x2 = some (r, g)) : ct l yX2_append (Cond.code yX2_append cX2_append 3 (none) :: GW) { frames := 1, cells := 0, slots := 0, locals := 21 } D cy z h [.ref th, .int x1, .int x2] (rV r) g := by
  refine Met.ofW (cc := cX2_append) (maxL := 3) (ret := none) (by decide) rfl ?_
  intro p e s m args below meth c s₁ B hml hv
  obtain ⟨rfl, hw⟩ := hv
  have C : MX p s m ([.ref th, .int x1, .int x2] : List Value).toArray meth c cX2_append 3 (none) RX2 (Cond.code yX2_append cX2_append 3 (none) :: GW) := ⟨B.exec, B.bytes, B.returns, hml, findClass_of_methodNamed B.named, atoms_spec (ws := Cond.code yX2_append cX2_append 3 (none) :: GW) B.pre, B.notSynchronized⟩
  obtain ⟨hx, hb, hr, hml, hown, hts, hlk⟩ := id C
  have w := wd_of hw
  obtain ⟨ls, hen, hl⟩ : ∃ ls : Array Slot, entryFrame m ([.ref th, .int x1, .int x2] : List Value).toArray 3 = F0 m 0 ls [] ∧ lv_has ls 3 [(0, .ref th), (1, .int x1), (2, .int x2)] := by
    exact ⟨_, lg_entry_eq _ _ _, lv_entry _ (Nat.le_of_ble_eq_true rfl)⟩
  rw [hen]
  unfold f_Curve_append at hE
  refine lv_iload_n hx hb dX2_append_0 rfl (lv_at hl 2 rfl) ?_
  refine w_if_gt (tgt := 5) C dX2_append_1 (by decide) hE (fun hc e1 => ?_) (fun hc e1 => ?_)
  · refine lv_aload_n hx hb dX2_append_5 rfl (lv_at hl 0 rfl) ?_
    refine w_gI (r := some th) (ci := 3) (k := 0) C w rfl (by decide) (GF_wsX20 _) (by decide) rfl (List.mem_cons_of_mem _ gw_4_13) rfl dX2_append_6 e1 (fun v1 e2 => ?_)
    refine w_if_le (tgt := 66) C dX2_append_9 (by decide) e2 (fun hc e3 => ?_) (fun hc e3 => ?_)
    · exact b_Curve_append_66 C N     h th x1 x2 _ _ ls w  (lv_sub hl [0, 1, 2] rfl) e3
    · refine lv_aload_n hx hb dX2_append_12 rfl (lv_at hl 0 rfl) ?_
      refine w_gI (r := some th) (ci := 3) (k := 0) C w rfl (by decide) (GF_wsX20 _) (by decide) rfl (List.mem_cons_of_mem _ gw_4_13) rfl dX2_append_13 e3 (fun v2 e4 => ?_)
      refine lv_aload_n hx hb dX2_append_16 rfl (lv_at hl 0 rfl) ?_
      refine w_gR (r := some th) (ci := 3) (k := 1) C w rfl (by decide) (GF_wsX20 _) (by decide) rfl (List.mem_cons_of_mem _ gw_4_12) rfl dX2_append_17 e4 (fun v3 e5 => ?_)
      refine w_lenI (r := v3) C w dX2_append_20 e5 (fun v4 e6 => ?_)
      refine w_icmp_gt (tgt := 66) C dX2_append_21 (by decide) e6 (fun hc e7 => ?_) (fun hc e7 => ?_)
      · exact b_Curve_append_66 C N     h th x1 x2 _ _ ls w  (lv_sub hl [0, 1, 2] rfl) e7
      · refine lv_aload_n hx hb dX2_append_24 rfl (lv_at hl 0 rfl) ?_
        refine lv_aload_n hx hb dX2_append_25 rfl (lv_at hl 0 rfl) ?_
        refine w_gI (r := some th) (ci := 3) (k := 0) C w rfl (by decide) (GF_wsX20 _) (by decide) rfl (List.mem_cons_of_mem _ gw_4_13) rfl dX2_append_26 e7 (fun v5 e8 => ?_)
        refine lv_iconst (v := 1) hx hb dX2_append_29 (by decide) ?_
        refine lv_isub hx hb dX2_append_30 ?_
        refine w_VI GW_good (n := 1) (F := 0) (Lc := 0) (o := some th) (av := [.int (v5 - (1 : Int32))]) (rest := []) C w rfl (by decide) (fun a r g hf => k_Curve_placeOf l D cy z N h a (v5 - (1 : Int32)) r g hf) gw_21_8 gw_17_2 gw_17_3 gw_2_22 gw_17_4 (by decide +kernel) ⟨Nat.le_of_ble_eq_true rfl, Nat.le_of_ble_eq_true rfl⟩ rfl hl.1 rfl (Nat.le_of_ble_eq_true rfl) dX2_append_31 (fun a => (sh_Curve_placeOf N h a (v5 - (1 : Int32)))) ⟨by decide, by decide⟩ e8 (fun v6 h7 H locs w hsh7 e9 => ?_)
        refine lv_iload_n hx hb dX2_append_34 rfl (lv_at hl 1 rfl) ?_
        refine w_icmp_ne (tgt := 66) C dX2_append_35 (by decide) e9 (fun hc e10 => ?_) (fun hc e10 => ?_)
        · exact b_Curve_append_66 C N     h7 th x1 x2 _ _ ls w  (lv_sub hl [0, 1, 2] rfl) e10
        · refine lv_aload_n hx hb dX2_append_38 rfl (lv_at hl 0 rfl) ?_
          refine w_gR (r := some th) (ci := 3) (k := 1) C w rfl (by decide) (GF_wsX20 _) (by decide) rfl (List.mem_cons_of_mem _ gw_4_12) rfl dX2_append_39 e10 (fun v8 e11 => ?_)
          refine lv_aload_n hx hb dX2_append_42 rfl (lv_at hl 0 rfl) ?_
          refine w_gI (r := some th) (ci := 3) (k := 0) C w rfl (by decide) (GF_wsX20 _) (by decide) rfl (List.mem_cons_of_mem _ gw_4_13) rfl dX2_append_43 e11 (fun v9 e12 => ?_)
          refine lv_iconst (v := 1) hx hb dX2_append_46 (by decide) ?_
          refine lv_isub hx hb dX2_append_47 ?_
          refine lv_dup2_11 hx hb dX2_append_48 rfl (va_rf_cat _) ?_
          refine w_aI (r := v8) C w dX2_append_49 e12 (fun v10 e13 => ?_)
          refine lv_iload_n hx hb dX2_append_50 rfl (lv_at hl 2 rfl) ?_
          refine lv_iadd hx hb dX2_append_51 ?_
          refine w_uI (r := v8) C w dX2_append_52 e13 (fun h11 H locs w hsh11 e14 => ?_)
          refine lv_aload_n hx hb dX2_append_53 rfl (lv_at hl 0 rfl) ?_
          refine lv_dup hx hb dX2_append_54 rfl ?_
          refine w_gI (r := some th) (ci := 3) (k := 3) C w rfl (by decide) (GF_wsX20 _) (by decide) rfl (List.mem_cons_of_mem _ gw_4_15) rfl dX2_append_55 e14 (fun v12 e15 => ?_)
          refine lv_iload_n hx hb dX2_append_58 rfl (lv_at hl 2 rfl) ?_
          refine lv_iadd hx hb dX2_append_59 ?_
          refine w_pI (r := some th) (ci := 3) (k := 3) C w rfl (by decide) (by unfold roK; omega) (GF_wsX20 _) tyX2 tyX2_ok nmX2 (by decide) rfl (List.mem_cons_of_mem _ gw_4_15) rfl rfl (tyX2_ok 3 (by decide)) dX2_append_60 e15 (fun h13 H locs w hsh13 e16 => ?_)
          refine lv_goto (tgt := 113) hx hb dX2_append_63 (by decide) ?_
          exact b_Curve_append_113 C N     h13  _ _ ls w  (lv_sub hl [] rfl) e16
  · exact w_vret C w e1 dX2_append_4
set_option maxRecDepth 20000 in
set_option maxHeartbeats 4000000 in
theorem b_Curve_becomeKink_5 {p : Program} {l : Launch} {e : Env} {s : State} {m : MethodId} {args : Array Value} {below : List Frame} {meth : Method} {c : Code} {D : va_G} {cy : cyT} {z : Nat} (C : MX p s m args meth c cX2_becomeKink 4 (none) RX2 (Cond.code yX2_becomeKink cX2_becomeKink 4 (none) :: GW)) (N : Nat) (n0 s0 : Nat) (hn0 : s.heap.size = n0) {r : Unit} {g : hS}  : ∀  (cells slots : Nat) (h : hS) (th : Nat) (x1 : Int32) (x2 : Int32) (x3 : Int32) (H : Heap) (locs : List Loc) (ls : Array Slot), wd D cy z s cells h H locs → h_s h = s0 + slots → lv_has ls 4 [(0, .ref th), (1, .int x1), (2, .int x2), (3, .int x3)] → f_Curve_becomeKink_5 N   h th x1 x2 x3 = some (r, g) → W p l e { frames := 2, cells := h_x g - n0, slots := h_s g - s0, locals := 43 } s m args below meth c H locs cells slots (MQ below (eQ D cy z (rV r) g) args s (h_x g - n0) (h_s g - s0) (fun q => z ≤ q)) (F0 m 5 ls []) := by
  obtain ⟨hx, hb, hr, hml, hown, hts, hlk⟩ := id C
  intro cells slots h th x1 x2 x3 H locs ls w hsl hl hE
  have hcc : cells ≤ h_x g - n0 ∧ slots ≤ h_s g - s0 := by
    have q1 := mo_Curve_becomeKink_5 N  h th x1 x2 x3 _ _ hE
    have q2 := wd_x w
    have q3 := q1.1
    have q4 := q1.2.1
    omega
  unfold f_Curve_becomeKink_5 at hE
  refine lv_aload_n hx hb dX2_becomeKink_5 rfl (lv_at hl 0 rfl) ?_
  refine lv_iload_n hx hb dX2_becomeKink_6 rfl (lv_at hl 1 rfl) ?_
  refine lv_iload_n hx hb dX2_becomeKink_7 rfl (lv_at hl 2 rfl) ?_
  refine w_VV GW_good (n := 2) (F := 1) (Lc := 21) (o := some th) (av := [.int x1, .int x2]) (rest := []) C w rfl (by decide) (fun a r g hf => k_Curve_append l D cy z N h a x1 x2 r g hf) gw_21_4 gw_21_5 gw_21_6 gw_2_22 gw_21_7 (by decide +kernel) ⟨Nat.le_of_ble_eq_true rfl, Nat.le_of_ble_eq_true rfl⟩ rfl hl.1 rfl (Nat.le_of_ble_eq_true rfl) dX2_becomeKink_8 (fun a => (sh_Curve_append N h a x1 x2)) ⟨hcc.1, hcc.2⟩ hE (fun v1 h2 H locs w hsh2 e1 => ?_)
  have hsl := hsh2.2.2.2.trans hsl
  refine lv_aload_n hx hb dX2_becomeKink_11 rfl (lv_at hl 0 rfl) ?_
  refine lv_iload_n hx hb dX2_becomeKink_12 rfl (lv_at hl 3 rfl) ?_
  refine w_pI (r := some th) (ci := 3) (k := 2) C w rfl (by decide) (by unfold roK; omega) (GF_wsX20 _) tyX2 tyX2_ok nmX2 (by decide) rfl (List.mem_cons_of_mem _ gw_4_14) rfl rfl (tyX2_ok 2 (by decide)) dX2_becomeKink_13 e1 (fun h3 H locs w hsh3 e2 => ?_)
  have hsl := hsh3.2.2.2.trans hsl
  refine W.widen (k := h_x g - n0) (n := h_s g - s0) hcc.1 hcc.2 ?_
  exact w_vret C w e2 dX2_becomeKink_16
set_option maxRecDepth 20000 in
set_option maxHeartbeats 4000000 in
theorem k_Curve_becomeKink (l : Launch) (D : va_G) (cy : cyT) (z : Nat) (N : Nat) (h : hS) (th : Nat) (x1 : Int32) (x2 : Int32) (x3 : Int32) (r : Unit) (g : hS) (hE : f_Curve_becomeKink N h th x1 x2 x3 = some (r, g)) : ct l yX2_becomeKink (Cond.code yX2_becomeKink cX2_becomeKink 4 (none) :: GW) { frames := 2, cells := h_x g - h_x h, slots := h_s g - h_s h, locals := 43 } D cy z h [.ref th, .int x1, .int x2, .int x3] (rV r) g := by
  refine Met.ofW (cc := cX2_becomeKink) (maxL := 4) (ret := none) (by decide) rfl ?_
  intro p e s m args below meth c s₁ B hml hv
  obtain ⟨rfl, hw⟩ := hv
  have C : MX p s m ([.ref th, .int x1, .int x2, .int x3] : List Value).toArray meth c cX2_becomeKink 4 (none) RX2 (Cond.code yX2_becomeKink cX2_becomeKink 4 (none) :: GW) := ⟨B.exec, B.bytes, B.returns, hml, findClass_of_methodNamed B.named, atoms_spec (ws := Cond.code yX2_becomeKink cX2_becomeKink 4 (none) :: GW) B.pre, B.notSynchronized⟩
  obtain ⟨hx, hb, hr, hml, hown, hts, hlk⟩ := id C
  have w := wd_of hw
  have hsl : h_s h = h_s h + 0 := rfl
  have hn0 : s.heap.size = h_x h := (wd_x w).1
  obtain ⟨ls, hen, hl⟩ : ∃ ls : Array Slot, entryFrame m ([.ref th, .int x1, .int x2, .int x3] : List Value).toArray 4 = F0 m 0 ls [] ∧ lv_has ls 4 [(0, .ref th), (1, .int x1), (2, .int x2), (3, .int x3)] := by
    exact ⟨_, lg_entry_eq _ _ _, lv_entry _ (Nat.le_of_ble_eq_true rfl)⟩
  rw [hen]
  have hcc : 0 ≤ h_x g - h_x h ∧ 0 ≤ h_s g - h_s h := ⟨Nat.zero_le _, Nat.zero_le _⟩
  unfold f_Curve_becomeKink at hE
  refine lv_aload_n hx hb dX2_becomeKink_0 rfl (lv_at hl 0 rfl) ?_
  refine lv_iconst (v := 1) hx hb dX2_becomeKink_1 (by decide) ?_
  refine w_VAV GW_good (n := 1) (F := 0) (Lc := 0) (o := some th) (av := [.int (1 : Int32)]) (rest := []) C w rfl (by decide) (fun a r g hf => k_Curve_clear l D cy z N h a (1 : Int32) r g hf) gw_21_3 gw_20_3 gw_20_4 gw_2_22 gw_20_5 (by decide +kernel) ⟨Nat.le_of_ble_eq_true rfl, Nat.le_of_ble_eq_true rfl⟩ rfl hl.1 rfl (Nat.le_of_ble_eq_true rfl) dX2_becomeKink_2 (fun a => (mo_Curve_clear N h a (1 : Int32))) (fun a v1 h2 q1 q2 => by have u1 := (mo_Curve_clear N h a (1 : Int32)) _ _ q1; have u2 := mo_Curve_becomeKink_5 N   h2 th x1 x2 x3 _ _ q2; have u3 := wd_x w; have u4 := u1.1; have u5 := u1.2.1; have u6 := u2.1; have u7 := u2.2.1; show 0 + _ ≤ h_x g - (h_x h) ∧ 0 + _ ≤ h_s g - (h_s h); omega) hE (fun v1 h2 H locs w hsh2 e1 => ?_)
  exact b_Curve_becomeKink_5 C N (h_x h) (h_s h) hn0   _ _ h2 th x1 x2 x3 _ _ ls w (by have u5 := hsh2.2.1; have u8 := hsl; omega) (lv_sub hl [0, 1, 2, 3] rfl) e1
set_option maxRecDepth 20000 in
set_option maxHeartbeats 4000000 in
theorem b_Curve_weightOf_35 {p : Program} {l : Launch} {e : Env} {s : State} {m : MethodId} {args : Array Value} {below : List Frame} {meth : Method} {c : Code} {D : va_G} {cy : cyT} {z : Nat} (C : MX p s m args meth c cX2_weightOf 2 ((some .int)) RX2 (Cond.code yX2_weightOf cX2_weightOf 2 ((some .int)) :: GW)) (N : Nat) {r : Int32} {g : hS}  : ∀  (h : hS) (y0 : Int32) (H : Heap) (locs : List Loc) (ls : Array Slot), wd D cy z s 0 h H locs → lv_has ls 2 [] → f_Curve_weightOf_35 N   h y0 = some (r, g) → W p l e { frames := 0, cells := 0, slots := 0, locals := 0 } s m args below meth c H locs 0 0 (MQ below (eQ D cy z (rI r) g) args s 0 0 (fun q => z ≤ q)) (F0 m 35 ls [.int y0]) := by
  obtain ⟨hx, hb, hr, hml, hown, hts, hlk⟩ := id C
  intro  h y0 H locs ls w  hl hE
  unfold f_Curve_weightOf_35 at hE
  exact w_iret C w hE dX2_weightOf_35
set_option maxRecDepth 20000 in
set_option maxHeartbeats 4000000 in
theorem b_Curve_weightOf_34 {p : Program} {l : Launch} {e : Env} {s : State} {m : MethodId} {args : Array Value} {below : List Frame} {meth : Method} {c : Code} {D : va_G} {cy : cyT} {z : Nat} (C : MX p s m args meth c cX2_weightOf 2 ((some .int)) RX2 (Cond.code yX2_weightOf cX2_weightOf 2 ((some .int)) :: GW)) (N : Nat) {r : Int32} {g : hS}  : ∀  (h : hS)  (H : Heap) (locs : List Loc) (ls : Array Slot), wd D cy z s 0 h H locs → lv_has ls 2 [] → f_Curve_weightOf_34 N   h  = some (r, g) → W p l e { frames := 0, cells := 0, slots := 0, locals := 0 } s m args below meth c H locs 0 0 (MQ below (eQ D cy z (rI r) g) args s 0 0 (fun q => z ≤ q)) (F0 m 34 ls []) := by
  obtain ⟨hx, hb, hr, hml, hown, hts, hlk⟩ := id C
  intro  h  H locs ls w  hl hE
  unfold f_Curve_weightOf_34 at hE
  refine lv_iconst (v := 0) hx hb dX2_weightOf_34 (by decide) ?_
  exact b_Curve_weightOf_35 C N     h (0 : Int32) _ _ ls w  (lv_sub hl [] rfl) hE
set_option maxRecDepth 20000 in
set_option maxHeartbeats 4000000 in
theorem k_Curve_weightOf (l : Launch) (D : va_G) (cy : cyT) (z : Nat) (N : Nat) (h : hS) (th : Nat) (x1 : Int32) (r : Int32) (g : hS) (hE : f_Curve_weightOf N h th x1 = some (r, g)) : ct l yX2_weightOf (Cond.code yX2_weightOf cX2_weightOf 2 ((some .int)) :: GW) { frames := 0, cells := 0, slots := 0, locals := 0 } D cy z h [.ref th, .int x1] (rI r) g := by
  refine Met.ofW (cc := cX2_weightOf) (maxL := 2) (ret := (some .int)) (by decide) rfl ?_
  intro p e s m args below meth c s₁ B hml hv
  obtain ⟨rfl, hw⟩ := hv
  have C : MX p s m ([.ref th, .int x1] : List Value).toArray meth c cX2_weightOf 2 ((some .int)) RX2 (Cond.code yX2_weightOf cX2_weightOf 2 ((some .int)) :: GW) := ⟨B.exec, B.bytes, B.returns, hml, findClass_of_methodNamed B.named, atoms_spec (ws := Cond.code yX2_weightOf cX2_weightOf 2 ((some .int)) :: GW) B.pre, B.notSynchronized⟩
  obtain ⟨hx, hb, hr, hml, hown, hts, hlk⟩ := id C
  have w := wd_of hw
  obtain ⟨ls, hen, hl⟩ : ∃ ls : Array Slot, entryFrame m ([.ref th, .int x1] : List Value).toArray 2 = F0 m 0 ls [] ∧ lv_has ls 2 [(0, .ref th), (1, .int x1)] := by
    exact ⟨_, lg_entry_eq _ _ _, lv_entry _ (Nat.le_of_ble_eq_true rfl)⟩
  rw [hen]
  unfold f_Curve_weightOf at hE
  refine lv_iload_n hx hb dX2_weightOf_0 rfl (lv_at hl 1 rfl) ?_
  refine w_if_lt (tgt := 34) C dX2_weightOf_1 (by decide) hE (fun hc e1 => ?_) (fun hc e1 => ?_)
  · exact b_Curve_weightOf_34 C N     h  _ _ ls w  (lv_sub hl [] rfl) e1
  · refine lv_iload_n hx hb dX2_weightOf_4 rfl (lv_at hl 1 rfl) ?_
    refine lv_aload_n hx hb dX2_weightOf_5 rfl (lv_at hl 0 rfl) ?_
    refine w_gI (r := some th) (ci := 3) (k := 0) C w rfl (by decide) (GF_wsX20 _) (by decide) rfl (List.mem_cons_of_mem _ gw_4_13) rfl dX2_weightOf_6 e1 (fun v1 e2 => ?_)
    refine w_icmp_ge (tgt := 34) C dX2_weightOf_9 (by decide) e2 (fun hc e3 => ?_) (fun hc e3 => ?_)
    · exact b_Curve_weightOf_34 C N     h  _ _ ls w  (lv_sub hl [] rfl) e3
    · refine lv_iload_n hx hb dX2_weightOf_12 rfl (lv_at hl 1 rfl) ?_
      refine lv_aload_n hx hb dX2_weightOf_13 rfl (lv_at hl 0 rfl) ?_
      refine w_gR (r := some th) (ci := 3) (k := 1) C w rfl (by decide) (GF_wsX20 _) (by decide) rfl (List.mem_cons_of_mem _ gw_4_12) rfl dX2_weightOf_14 e3 (fun v2 e4 => ?_)
      refine w_lenI (r := v2) C w dX2_weightOf_17 e4 (fun v3 e5 => ?_)
      refine w_icmp_ge (tgt := 34) C dX2_weightOf_18 (by decide) e5 (fun hc e6 => ?_) (fun hc e6 => ?_)
      · exact b_Curve_weightOf_34 C N     h  _ _ ls w  (lv_sub hl [] rfl) e6
      · refine lv_aload_n hx hb dX2_weightOf_21 rfl (lv_at hl 0 rfl) ?_
        refine w_gR (r := some th) (ci := 3) (k := 1) C w rfl (by decide) (GF_wsX20 _) (by decide) rfl (List.mem_cons_of_mem _ gw_4_12) rfl dX2_weightOf_22 e6 (fun v4 e7 => ?_)
        refine lv_iload_n hx hb dX2_weightOf_25 rfl (lv_at hl 1 rfl) ?_
        refine w_aI (r := v4) C w dX2_weightOf_26 e7 (fun v5 e8 => ?_)
        refine lv_sipush (v := 8191) hx hb dX2_weightOf_27 (by decide) ?_
        refine lv_iand hx hb dX2_weightOf_30 ?_
        refine lv_goto (tgt := 35) hx hb dX2_weightOf_31 (by decide) ?_
        exact b_Curve_weightOf_35 C N     h (v5 &&& (8191 : Int32)) _ _ ls w  (lv_sub hl [] rfl) e8
set_option maxRecDepth 20000 in
set_option maxHeartbeats 4000000 in
theorem b_Curve_someLowest_7 {p : Program} {l : Launch} {e : Env} {s : State} {m : MethodId} {args : Array Value} {below : List Frame} {meth : Method} {c : Code} {D : va_G} {cy : cyT} {z : Nat} (C : MX p s m args meth c cX2_someLowest 3 ((some .int)) RX2 (Cond.code yX2_someLowest cX2_someLowest 3 ((some .int)) :: GW)) (N : Nat) {r : Int32} {g : hS}  : ∀ (n : Nat) (h : hS) (th : Nat) (x1 : Int32) (x2 : Int32) (H : Heap) (locs : List Loc) (ls : Array Slot), wd D cy z s 0 h H locs → lv_has ls 3 [(0, .ref th), (1, .int x1), (2, .int x2)] → f_Curve_someLowest_7 N  n h th x1 x2 = some (r, g) → W p l e { frames := 1, cells := 0, slots := 0, locals := 21 } s m args below meth c H locs 0 0 (MQ below (eQ D cy z (rI r) g) args s 0 0 (fun q => z ≤ q)) (F0 m 7 ls []) := by
  obtain ⟨hx, hb, hr, hml, hown, hts, hlk⟩ := id C
  intro n
  induction n with
  | zero =>
    intro  h th x1 x2 H locs ls w  hl hE
    cases hE
  | succ n ih =>
    intro  h th x1 x2 H locs ls w  hl hE
    unfold f_Curve_someLowest_7 at hE
    refine lv_iload_n hx hb dX2_someLowest_7 rfl (lv_at hl 2 rfl) ?_
    refine lv_aload_n hx hb dX2_someLowest_8 rfl (lv_at hl 0 rfl) ?_
    refine w_gI (r := some th) (ci := 3) (k := 0) C w rfl (by decide) (GF_wsX20 _) (by decide) rfl (List.mem_cons_of_mem _ gw_4_13) rfl dX2_someLowest_9 hE (fun v1 e1 => ?_)
    refine w_icmp_ge (tgt := 39) C dX2_someLowest_12 (by decide) e1 (fun hc e2 => ?_) (fun hc e2 => ?_)
    · refine lv_iconst (v := 0) hx hb dX2_someLowest_39 (by decide) ?_
      exact w_iret C w e2 dX2_someLowest_40
    · refine lv_iload_n hx hb dX2_someLowest_15 rfl (lv_at hl 1 rfl) ?_
      refine lv_aload_n hx hb dX2_someLowest_16 rfl (lv_at hl 0 rfl) ?_
      refine lv_iload_n hx hb dX2_someLowest_17 rfl (lv_at hl 2 rfl) ?_
      refine w_VI GW_good (n := 1) (F := 0) (Lc := 0) (o := some th) (av := [.int x2]) (rest := [.int x1]) C w rfl (by decide) (fun a r g hf => k_Curve_weightOf l D cy z N h a x2 r g hf) gw_21_23 gw_17_6 gw_17_7 gw_2_22 gw_17_8 (by decide +kernel) ⟨Nat.le_of_ble_eq_true rfl, Nat.le_of_ble_eq_true rfl⟩ rfl hl.1 rfl (Nat.le_of_ble_eq_true rfl) dX2_someLowest_18 (fun a => (sh_Curve_weightOf N h a x2)) ⟨by decide, by decide⟩ e2 (fun v2 h3 H locs w hsh3 e3 => ?_)
      refine lv_isub hx hb dX2_someLowest_21 ?_
      refine w_bnI e3 (fun v4 e4 => ?_)
      refine lv_istore_n (lv' := [(1, .int v4), (0, .ref th), (2, .int x2)]) hx hb dX2_someLowest_22 rfl hl (by decide) rfl (fun ls hl => ?_)
      refine lv_iload_n hx hb dX2_someLowest_23 rfl (lv_at hl 0 rfl) ?_
      refine w_if_gt (tgt := 33) C dX2_someLowest_24 (by decide) e4 (fun hc e5 => ?_) (fun hc e5 => ?_)
      · obtain ⟨v5, ev5, e6⟩ := bn_some e5
        refine lv_iinc (v := v5) (lv' := [(2, .int v5), (1, .int v4), (0, .ref th)]) hx hb dX2_someLowest_33 hl (k := 2) rfl (by rw [ev5]; rfl) (by decide) rfl (fun ls hl => ?_)
        refine lv_goto (tgt := 7) hx hb dX2_someLowest_36 (by decide) ?_
        exact ih  h3 th v4 v5 _ _ ls w  (lv_sub hl [2, 1, 0] rfl) e6
      · refine lv_aload_n hx hb dX2_someLowest_27 rfl (lv_at hl 1 rfl) ?_
        refine lv_iload_n hx hb dX2_someLowest_28 rfl (lv_at hl 2 rfl) ?_
        refine w_VI GW_good (n := 1) (F := 0) (Lc := 0) (o := some th) (av := [.int x2]) (rest := []) C w rfl (by decide) (fun a r g hf => k_Curve_placeOf l D cy z N h3 a x2 r g hf) gw_21_8 gw_17_2 gw_17_3 gw_2_22 gw_17_4 (by decide +kernel) ⟨Nat.le_of_ble_eq_true rfl, Nat.le_of_ble_eq_true rfl⟩ rfl hl.1 rfl (Nat.le_of_ble_eq_true rfl) dX2_someLowest_29 (fun a => (sh_Curve_placeOf N h3 a x2)) ⟨by decide, by decide⟩ e5 (fun v6 h7 H locs w hsh7 e7 => ?_)
        exact w_iret C w e7 dX2_someLowest_32
set_option maxRecDepth 20000 in
set_option maxHeartbeats 4000000 in
theorem k_Curve_someLowest (l : Launch) (D : va_G) (cy : cyT) (z : Nat) (N : Nat) (h : hS) (th : Nat) (r : Int32) (g : hS) (hE : f_Curve_someLowest N h th = some (r, g)) : ct l yX2_someLowest (Cond.code yX2_someLowest cX2_someLowest 3 ((some .int)) :: GW) { frames := 1, cells := 0, slots := 0, locals := 21 } D cy z h [.ref th] (rI r) g := by
  refine Met.ofW (cc := cX2_someLowest) (maxL := 3) (ret := (some .int)) (by decide) rfl ?_
  intro p e s m args below meth c s₁ B hml hv
  obtain ⟨rfl, hw⟩ := hv
  have C : MX p s m ([.ref th] : List Value).toArray meth c cX2_someLowest 3 ((some .int)) RX2 (Cond.code yX2_someLowest cX2_someLowest 3 ((some .int)) :: GW) := ⟨B.exec, B.bytes, B.returns, hml, findClass_of_methodNamed B.named, atoms_spec (ws := Cond.code yX2_someLowest cX2_someLowest 3 ((some .int)) :: GW) B.pre, B.notSynchronized⟩
  obtain ⟨hx, hb, hr, hml, hown, hts, hlk⟩ := id C
  have w := wd_of hw
  obtain ⟨ls, hen, hl⟩ : ∃ ls : Array Slot, entryFrame m ([.ref th] : List Value).toArray 3 = F0 m 0 ls [] ∧ lv_has ls 3 [(0, .ref th)] := by
    exact ⟨_, lg_entry_eq _ _ _, lv_entry _ (Nat.le_of_ble_eq_true rfl)⟩
  rw [hen]
  unfold f_Curve_someLowest at hE
  refine lv_aload_n hx hb dX2_someLowest_0 rfl (lv_at hl 0 rfl) ?_
  refine w_gI (r := some th) (ci := 3) (k := 2) C w rfl (by decide) (GF_wsX20 _) (by decide) rfl (List.mem_cons_of_mem _ gw_4_14) rfl dX2_someLowest_1 hE (fun v1 e1 => ?_)
  refine lv_istore_n (lv' := [(1, .int v1), (0, .ref th)]) hx hb dX2_someLowest_4 rfl hl (by decide) rfl (fun ls hl => ?_)
  refine lv_iconst (v := 0) hx hb dX2_someLowest_5 (by decide) ?_
  refine lv_istore_n (lv' := [(2, .int (0 : Int32)), (1, .int v1), (0, .ref th)]) hx hb dX2_someLowest_6 rfl hl (by decide) rfl (fun ls hl => ?_)
  exact b_Curve_someLowest_7 C N   N  h th v1 (0 : Int32) _ _ ls w  (lv_sub hl [2, 1, 0] rfl) e1
set_option maxRecDepth 20000 in
set_option maxHeartbeats 4000000 in
theorem b_Curve_valueAt_86 {p : Program} {l : Launch} {e : Env} {s : State} {m : MethodId} {args : Array Value} {below : List Frame} {meth : Method} {c : Code} {D : va_G} {cy : cyT} {z : Nat} (C : MX p s m args meth c cX2_valueAt 10 ((some .long)) RX2 (Cond.code yX2_valueAt cX2_valueAt 10 ((some .long)) :: GW)) (N : Nat) {r : Int64} {g : hS} {rc14 : hS → Nat → Int32 → Int64 → Int32 → Int32 → Option (Int64 × hS)}  (hrc14 : ∀ (h : hS) (th : Nat) (x1 : Int32) (x2 : Int64) (x4 : Int32) (x5 : Int32) (H : Heap) (locs : List Loc) (ls : Array Slot), wd D cy z s 0 h H locs → lv_has ls 10 [(0, .ref th), (1, .int x1), (2, .long x2), (4, .int x4), (5, .int x5)] → rc14 h th x1 x2 x4 x5 = some (r, g) → W p l e { frames := 1, cells := 0, slots := 0, locals := 44 } s m args below meth c H locs 0 0 (MQ below (eQ D cy z (rJ r) g) args s 0 0 (fun q => z ≤ q)) (F0 m 14 ls [])) : ∀  (h : hS) (th : Nat) (x1 : Int32) (x4 : Int32) (x5 : Int32) (y0 : Int64) (y1 : Int64) (H : Heap) (locs : List Loc) (ls : Array Slot), wd D cy z s 0 h H locs → lv_has ls 10 [(0, .ref th), (1, .int x1), (4, .int x4), (5, .int x5)] → f_Curve_valueAt_86 N rc14  h th x1 x4 x5 y0 y1 = some (r, g) → W p l e { frames := 1, cells := 0, slots := 0, locals := 44 } s m args below meth c H locs 0 0 (MQ below (eQ D cy z (rJ r) g) args s 0 0 (fun q => z ≤ q)) (F0 m 86 ls [.long y1, .long y0]) := by
  obtain ⟨hx, hb, hr, hml, hown, hts, hlk⟩ := id C
  intro  h th x1 x4 x5 y0 y1 H locs ls w  hl hE
  unfold f_Curve_valueAt_86 at hE
  refine lv_ladd hx hb dX2_valueAt_86 ?_
  refine w_bnJ hE (fun v1 e1 => ?_)
  refine lv_lstore_n (lv' := [(2, .long v1), (0, .ref th), (1, .int x1), (4, .int x4), (5, .int x5)]) hx hb dX2_valueAt_87 rfl hl (by decide) rfl (fun ls hl => ?_)
  obtain ⟨v2, ev2, e2⟩ := bn_some e1
  refine lv_iinc (v := v2) (lv' := [(5, .int v2), (2, .long v1), (0, .ref th), (1, .int x1), (4, .int x4)]) hx hb dX2_valueAt_88 hl (k := 4) rfl (by rw [ev2]; rfl) (by decide) rfl (fun ls hl => ?_)
  refine lv_goto (tgt := 14) hx hb dX2_valueAt_91 (by decide) ?_
  exact hrc14  h th x1 v1 x4 v2 _ _ ls w  (lv_sub hl [2, 3, 1, 4, 0] rfl) e2
set_option maxRecDepth 20000 in
set_option maxHeartbeats 4000000 in
theorem b_Curve_valueAt_14 {p : Program} {l : Launch} {e : Env} {s : State} {m : MethodId} {args : Array Value} {below : List Frame} {meth : Method} {c : Code} {D : va_G} {cy : cyT} {z : Nat} (C : MX p s m args meth c cX2_valueAt 10 ((some .long)) RX2 (Cond.code yX2_valueAt cX2_valueAt 10 ((some .long)) :: GW)) (N : Nat) {r : Int64} {g : hS}  : ∀ (n : Nat) (h : hS) (th : Nat) (x1 : Int32) (x2 : Int64) (x4 : Int32) (x5 : Int32) (H : Heap) (locs : List Loc) (ls : Array Slot), wd D cy z s 0 h H locs → lv_has ls 10 [(0, .ref th), (1, .int x1), (2, .long x2), (4, .int x4), (5, .int x5)] → f_Curve_valueAt_14 N  n h th x1 x2 x4 x5 = some (r, g) → W p l e { frames := 1, cells := 0, slots := 0, locals := 44 } s m args below meth c H locs 0 0 (MQ below (eQ D cy z (rJ r) g) args s 0 0 (fun q => z ≤ q)) (F0 m 14 ls []) := by
  obtain ⟨hx, hb, hr, hml, hown, hts, hlk⟩ := id C
  intro n
  induction n with
  | zero =>
    intro  h th x1 x2 x4 x5 H locs ls w  hl hE
    cases hE
  | succ n ih =>
    intro  h th x1 x2 x4 x5 H locs ls w  hl hE
    unfold f_Curve_valueAt_14 at hE
    refine lv_iload hx hb dX2_valueAt_14 (lv_at hl 4 rfl) ?_
    refine lv_aload_n hx hb dX2_valueAt_16 rfl (lv_at hl 0 rfl) ?_
    refine w_gI (r := some th) (ci := 3) (k := 0) C w rfl (by decide) (GF_wsX20 _) (by decide) rfl (List.mem_cons_of_mem _ gw_4_13) rfl dX2_valueAt_17 hE (fun v1 e1 => ?_)
    refine w_icmp_ge (tgt := 94) C dX2_valueAt_20 (by decide) e1 (fun hc e2 => ?_) (fun hc e2 => ?_)
    · refine lv_lload_n hx hb dX2_valueAt_94 rfl (lv_at hl 2 rfl) ?_
      exact w_lret C w e2 dX2_valueAt_95
    · refine lv_aload_n hx hb dX2_valueAt_23 rfl (lv_at hl 0 rfl) ?_
      refine lv_iload hx hb dX2_valueAt_24 (lv_at hl 4 rfl) ?_
      refine w_VI GW_good (n := 1) (F := 0) (Lc := 0) (o := some th) (av := [.int x5]) (rest := []) C w rfl (by decide) (fun a r g hf => k_Curve_weightOf l D cy z N h a x5 r g hf) gw_21_23 gw_17_6 gw_17_7 gw_2_22 gw_17_8 (by decide +kernel) ⟨Nat.le_of_ble_eq_true rfl, Nat.le_of_ble_eq_true rfl⟩ rfl hl.1 rfl (Nat.le_of_ble_eq_true rfl) dX2_valueAt_26 (fun a => (sh_Curve_weightOf N h a x5)) ⟨by decide, by decide⟩ e2 (fun v2 h3 H locs w hsh3 e3 => ?_)
      refine lv_istore (lv' := [(6, .int v2), (0, .ref th), (1, .int x1), (2, .long x2), (4, .int x4), (5, .int x5)]) hx hb dX2_valueAt_29 hl (by decide) rfl (fun ls hl => ?_)
      refine lv_iload hx hb dX2_valueAt_31 (lv_at hl 4 rfl) ?_
      refine lv_iload hx hb dX2_valueAt_33 (lv_at hl 0 rfl) ?_
      refine w_mmin C hl.1 (List.mem_cons_of_mem _ gw_22_4) (List.mem_cons_of_mem _ gw_10_6) (List.mem_cons_of_mem _ gw_10_7) (List.mem_cons_of_mem _ gw_10_8) (Nat.le_of_ble_eq_true rfl) (Nat.le_of_ble_eq_true rfl) (by decide) (by decide) dX2_valueAt_35 ?_
      refine w_bnI e3 (fun v4 e4 => ?_)
      refine lv_istore (lv' := [(7, .int v4), (6, .int v2), (0, .ref th), (1, .int x1), (2, .long x2), (4, .int x4), (5, .int x5)]) hx hb dX2_valueAt_38 hl (by decide) rfl (fun ls hl => ?_)
      refine lv_iload hx hb dX2_valueAt_40 (lv_at hl 5 rfl) ?_
      refine lv_iload hx hb dX2_valueAt_42 (lv_at hl 0 rfl) ?_
      refine lv_isub hx hb dX2_valueAt_44 ?_
      refine w_bnI e4 (fun v5 e5 => ?_)
      refine lv_istore (lv' := [(4, .int v5), (7, .int v4), (6, .int v2), (0, .ref th), (1, .int x1), (2, .long x2), (5, .int x5)]) hx hb dX2_valueAt_45 hl (by decide) rfl (fun ls hl => ?_)
      refine lv_iload_n hx hb dX2_valueAt_47 rfl (lv_at hl 4 rfl) ?_
      refine lv_i2l hx hb dX2_valueAt_48 rfl ?_
      refine lv_aload_n hx hb dX2_valueAt_49 rfl (lv_at hl 3 rfl) ?_
      refine lv_iload hx hb dX2_valueAt_50 (lv_at hl 6 rfl) ?_
      refine w_VI GW_good (n := 1) (F := 0) (Lc := 0) (o := some th) (av := [.int x5]) (rest := [.long x1.toInt64]) C w rfl (by decide) (fun a r g hf => k_Curve_placeOf l D cy z N h3 a x5 r g hf) gw_21_8 gw_17_2 gw_17_3 gw_2_22 gw_17_4 (by decide +kernel) ⟨Nat.le_of_ble_eq_true rfl, Nat.le_of_ble_eq_true rfl⟩ rfl hl.1 rfl (Nat.le_of_ble_eq_true rfl) dX2_valueAt_52 (fun a => (sh_Curve_placeOf N h3 a x5)) ⟨by decide, by decide⟩ e5 (fun v6 h7 H locs w hsh7 e6 => ?_)
      refine lv_i2l hx hb dX2_valueAt_55 rfl ?_
      refine lv_lsub hx hb dX2_valueAt_56 ?_
      refine w_bnJ e6 (fun v8 e7 => ?_)
      refine lv_lstore (lv' := [(8, .long v8), (4, .int v5), (7, .int v4), (6, .int v2), (0, .ref th), (1, .int x1), (2, .long x2), (5, .int x5)]) hx hb dX2_valueAt_57 hl (by decide) rfl (fun ls hl => ?_)
      refine lv_lload_n hx hb dX2_valueAt_59 rfl (lv_at hl 6 rfl) ?_
      refine lv_lload hx hb dX2_valueAt_60 (lv_at hl 0 rfl) ?_
      refine lv_lconst (v := 0) hx hb dX2_valueAt_62 (by decide) ?_
      refine W.lcmp hx hb dX2_valueAt_63 ?_
      refine w_if_ge (tgt := 77) C dX2_valueAt_64 (by decide) e7 (fun hc e8 => ?_) (fun hc e8 => ?_)
      · refine lv_lload hx hb dX2_valueAt_77 (lv_at hl 0 rfl) ?_
        refine lv_iload hx hb dX2_valueAt_79 (lv_at hl 3 rfl) ?_
        refine lv_iload hx hb dX2_valueAt_81 (lv_at hl 2 rfl) ?_
        refine lv_isub hx hb dX2_valueAt_83 ?_
        refine lv_i2l hx hb dX2_valueAt_84 rfl ?_
        refine lv_lmul hx hb dX2_valueAt_85 ?_
        exact b_Curve_valueAt_86 C N  ih   h7 th x1 v5 x5 x2 (v8 * ((v2 - v4).toInt64)) _ _ ls w  (lv_sub hl [4, 5, 1, 7] rfl) e8
      · refine lv_lload hx hb dX2_valueAt_67 (lv_at hl 0 rfl) ?_
        refine lv_lneg hx hb dX2_valueAt_69 ?_
        refine lv_iload hx hb dX2_valueAt_70 (lv_at hl 2 rfl) ?_
        refine lv_i2l hx hb dX2_valueAt_72 rfl ?_
        refine lv_lmul hx hb dX2_valueAt_73 ?_
        refine lv_goto (tgt := 86) hx hb dX2_valueAt_74 (by decide) ?_
        exact b_Curve_valueAt_86 C N  ih   h7 th x1 v5 x5 x2 ((-v8) * v4.toInt64) _ _ ls w  (lv_sub hl [4, 5, 1, 7] rfl) e8
set_option maxRecDepth 20000 in
set_option maxHeartbeats 4000000 in
theorem k_Curve_valueAt (l : Launch) (D : va_G) (cy : cyT) (z : Nat) (N : Nat) (h : hS) (th : Nat) (x1 : Int32) (r : Int64) (g : hS) (hE : f_Curve_valueAt N h th x1 = some (r, g)) : ct l yX2_valueAt (Cond.code yX2_valueAt cX2_valueAt 10 ((some .long)) :: GW) { frames := 1, cells := 0, slots := 0, locals := 44 } D cy z h [.ref th, .int x1] (rJ r) g := by
  refine Met.ofW (cc := cX2_valueAt) (maxL := 10) (ret := (some .long)) (by decide) rfl ?_
  intro p e s m args below meth c s₁ B hml hv
  obtain ⟨rfl, hw⟩ := hv
  have C : MX p s m ([.ref th, .int x1] : List Value).toArray meth c cX2_valueAt 10 ((some .long)) RX2 (Cond.code yX2_valueAt cX2_valueAt 10 ((some .long)) :: GW) := ⟨B.exec, B.bytes, B.returns, hml, findClass_of_methodNamed B.named, atoms_spec (ws := Cond.code yX2_valueAt cX2_valueAt 10 ((some .long)) :: GW) B.pre, B.notSynchronized⟩
  obtain ⟨hx, hb, hr, hml, hown, hts, hlk⟩ := id C
  have w := wd_of hw
  obtain ⟨ls, hen, hl⟩ : ∃ ls : Array Slot, entryFrame m ([.ref th, .int x1] : List Value).toArray 10 = F0 m 0 ls [] ∧ lv_has ls 10 [(0, .ref th), (1, .int x1)] := by
    exact ⟨_, lg_entry_eq _ _ _, lv_entry _ (Nat.le_of_ble_eq_true rfl)⟩
  rw [hen]
  unfold f_Curve_valueAt at hE
  refine lv_aload_n hx hb dX2_valueAt_0 rfl (lv_at hl 0 rfl) ?_
  refine w_gJ (r := some th) (ci := 3) (k := 4) C w rfl (by decide) (GF_wsX20 _) (by decide) rfl (List.mem_cons_of_mem _ gw_4_16) rfl dX2_valueAt_1 hE (fun v1 e1 => ?_)
  refine lv_lstore_n (lv' := [(2, .long v1), (0, .ref th), (1, .int x1)]) hx hb dX2_valueAt_4 rfl hl (by decide) rfl (fun ls hl => ?_)
  refine lv_aload_n hx hb dX2_valueAt_5 rfl (lv_at hl 1 rfl) ?_
  refine w_gI (r := some th) (ci := 3) (k := 2) C w rfl (by decide) (GF_wsX20 _) (by decide) rfl (List.mem_cons_of_mem _ gw_4_14) rfl dX2_valueAt_6 e1 (fun v2 e2 => ?_)
  refine lv_istore (lv' := [(4, .int v2), (2, .long v1), (0, .ref th), (1, .int x1)]) hx hb dX2_valueAt_9 hl (by decide) rfl (fun ls hl => ?_)
  refine lv_iconst (v := 0) hx hb dX2_valueAt_11 (by decide) ?_
  refine lv_istore (lv' := [(5, .int (0 : Int32)), (4, .int v2), (2, .long v1), (0, .ref th), (1, .int x1)]) hx hb dX2_valueAt_12 hl (by decide) rfl (fun ls hl => ?_)
  exact b_Curve_valueAt_14 C N   N  h th x1 v1 v2 (0 : Int32) _ _ ls w  (lv_sub hl [3, 4, 2, 1, 0] rfl) e2
set_option maxRecDepth 20000 in
set_option maxHeartbeats 4000000 in
theorem k_Bench_swap (l : Launch) (D : va_G) (cy : cyT) (z : Nat) (N : Nat) (h : hS) (th : Nat) (r : Unit) (g : hS) (hE : f_Bench_swap N h th = some (r, g)) : ct l yX0_swap (Cond.code yX0_swap cX0_swap 2 (none) :: GW) { frames := 0, cells := 0, slots := 0, locals := 0 } D cy z h [.ref th] (rV r) g := by
  refine Met.ofW (cc := cX0_swap) (maxL := 2) (ret := none) (by decide) rfl ?_
  intro p e s m args below meth c s₁ B hml hv
  obtain ⟨rfl, hw⟩ := hv
  have C : MX p s m ([.ref th] : List Value).toArray meth c cX0_swap 2 (none) RX0 (Cond.code yX0_swap cX0_swap 2 (none) :: GW) := ⟨B.exec, B.bytes, B.returns, hml, findClass_of_methodNamed B.named, atoms_spec (ws := Cond.code yX0_swap cX0_swap 2 (none) :: GW) B.pre, B.notSynchronized⟩
  obtain ⟨hx, hb, hr, hml, hown, hts, hlk⟩ := id C
  have w := wd_of hw
  obtain ⟨ls, hen, hl⟩ : ∃ ls : Array Slot, entryFrame m ([.ref th] : List Value).toArray 2 = F0 m 0 ls [] ∧ lv_has ls 2 [(0, .ref th)] := by
    exact ⟨_, lg_entry_eq _ _ _, lv_entry _ (Nat.le_of_ble_eq_true rfl)⟩
  rw [hen]
  unfold f_Bench_swap at hE
  refine lv_aload_n hx hb dX0_swap_0 rfl (lv_at hl 0 rfl) ?_
  refine w_gR (r := some th) (ci := 1) (k := 1) C w rfl (by decide) (GF_wsX00 _) (by decide) rfl (List.mem_cons_of_mem _ gw_4_4) rfl dX0_swap_1 hE (fun v1 e1 => ?_)
  refine w_astore_n (r := v1) (lv' := [(1, va_rf v1), (0, .ref th)]) C dX0_swap_4 rfl hl (by decide) rfl (fun ls hl => ?_)
  refine lv_aload_n hx hb dX0_swap_5 rfl (lv_at hl 1 rfl) ?_
  refine lv_aload_n hx hb dX0_swap_6 rfl (lv_at hl 1 rfl) ?_
  refine w_gR (r := some th) (ci := 1) (k := 0) C w rfl (by decide) (GF_wsX00 _) (by decide) rfl (List.mem_cons_of_mem _ gw_4_3) rfl dX0_swap_7 e1 (fun v2 e2 => ?_)
  refine w_pR (r := some th) (ci := 1) (k := 1) (v := v2) (Or.inl ⟨_, rfl⟩) C w rfl (by decide) (by unfold roK; omega) (GF_wsX00 _) tyX0 tyX0_ok nmX0 (by decide) rfl (List.mem_cons_of_mem _ gw_4_4) rfl rfl (tyX0_ok 1 (by decide)) dX0_swap_10 e2 (fun h3 H locs w hsh3 e3 => ?_)
  refine lv_aload_n hx hb dX0_swap_13 rfl (lv_at hl 1 rfl) ?_
  refine w_aload_n C dX0_swap_14 rfl (lv_at hl 0 rfl) ?_
  refine w_pR (r := some th) (ci := 1) (k := 0) (v := v1) (Or.inl ⟨_, rfl⟩) C w rfl (by decide) (by unfold roK; omega) (GF_wsX00 _) tyX0 tyX0_ok nmX0 (by decide) rfl (List.mem_cons_of_mem _ gw_4_3) rfl rfl (tyX0_ok 0 (by decide)) dX0_swap_15 e3 (fun h4 H locs w hsh4 e4 => ?_)
  exact w_vret C w e4 dX0_swap_18
set_option maxRecDepth 20000 in
set_option maxHeartbeats 4000000 in
theorem b_Curve_isTooMuch_21 {p : Program} {l : Launch} {e : Env} {s : State} {m : MethodId} {args : Array Value} {below : List Frame} {meth : Method} {c : Code} {D : va_G} {cy : cyT} {z : Nat} (C : MX p s m args meth c cX2_isTooMuch 1 ((some .boolean)) RX2 (Cond.code yX2_isTooMuch cX2_isTooMuch 1 ((some .boolean)) :: GW)) (N : Nat) {r : Int32} {g : hS}  : ∀  (h : hS)  (H : Heap) (locs : List Loc) (ls : Array Slot), wd D cy z s 0 h H locs → lv_has ls 1 [] → f_Curve_isTooMuch_21 N   h  = some (r, g) → W p l e { frames := 1, cells := 0, slots := 0, locals := 21 } s m args below meth c H locs 0 0 (MQ below (eQ D cy z (rI r) g) args s 0 0 (fun q => z ≤ q)) (F0 m 21 ls []) := by
  obtain ⟨hx, hb, hr, hml, hown, hts, hlk⟩ := id C
  intro  h  H locs ls w  hl hE
  unfold f_Curve_isTooMuch_21 at hE
  refine lv_iconst (v := 1) hx hb dX2_isTooMuch_21 (by decide) ?_
  exact w_zret C w hE dX2_isTooMuch_22
set_option maxRecDepth 20000 in
set_option maxHeartbeats 4000000 in
theorem b_Curve_isTooMuch_62 {p : Program} {l : Launch} {e : Env} {s : State} {m : MethodId} {args : Array Value} {below : List Frame} {meth : Method} {c : Code} {D : va_G} {cy : cyT} {z : Nat} (C : MX p s m args meth c cX2_isTooMuch 1 ((some .boolean)) RX2 (Cond.code yX2_isTooMuch cX2_isTooMuch 1 ((some .boolean)) :: GW)) (N : Nat) {r : Int32} {g : hS}  : ∀  (h : hS) (y0 : Int32) (H : Heap) (locs : List Loc) (ls : Array Slot), wd D cy z s 0 h H locs → lv_has ls 1 [] → f_Curve_isTooMuch_62 N   h y0 = some (r, g) → W p l e { frames := 1, cells := 0, slots := 0, locals := 21 } s m args below meth c H locs 0 0 (MQ below (eQ D cy z (rI r) g) args s 0 0 (fun q => z ≤ q)) (F0 m 62 ls [.int y0]) := by
  obtain ⟨hx, hb, hr, hml, hown, hts, hlk⟩ := id C
  intro  h y0 H locs ls w  hl hE
  unfold f_Curve_isTooMuch_62 at hE
  exact w_zret C w hE dX2_isTooMuch_62
set_option maxRecDepth 20000 in
set_option maxHeartbeats 4000000 in
theorem b_Curve_isTooMuch_61 {p : Program} {l : Launch} {e : Env} {s : State} {m : MethodId} {args : Array Value} {below : List Frame} {meth : Method} {c : Code} {D : va_G} {cy : cyT} {z : Nat} (C : MX p s m args meth c cX2_isTooMuch 1 ((some .boolean)) RX2 (Cond.code yX2_isTooMuch cX2_isTooMuch 1 ((some .boolean)) :: GW)) (N : Nat) {r : Int32} {g : hS}  : ∀  (h : hS)  (H : Heap) (locs : List Loc) (ls : Array Slot), wd D cy z s 0 h H locs → lv_has ls 1 [] → f_Curve_isTooMuch_61 N   h  = some (r, g) → W p l e { frames := 1, cells := 0, slots := 0, locals := 21 } s m args below meth c H locs 0 0 (MQ below (eQ D cy z (rI r) g) args s 0 0 (fun q => z ≤ q)) (F0 m 61 ls []) := by
  obtain ⟨hx, hb, hr, hml, hown, hts, hlk⟩ := id C
  intro  h  H locs ls w  hl hE
  unfold f_Curve_isTooMuch_61 at hE
  refine lv_iconst (v := 0) hx hb dX2_isTooMuch_61 (by decide) ?_
  exact b_Curve_isTooMuch_62 C N     h (0 : Int32) _ _ ls w  (lv_sub hl [] rfl) hE
set_option maxRecDepth 20000 in
set_option maxHeartbeats 4000000 in
theorem b_Curve_isTooMuch_57 {p : Program} {l : Launch} {e : Env} {s : State} {m : MethodId} {args : Array Value} {below : List Frame} {meth : Method} {c : Code} {D : va_G} {cy : cyT} {z : Nat} (C : MX p s m args meth c cX2_isTooMuch 1 ((some .boolean)) RX2 (Cond.code yX2_isTooMuch cX2_isTooMuch 1 ((some .boolean)) :: GW)) (N : Nat) {r : Int32} {g : hS}  : ∀  (h : hS)  (H : Heap) (locs : List Loc) (ls : Array Slot), wd D cy z s 0 h H locs → lv_has ls 1 [] → f_Curve_isTooMuch_57 N   h  = some (r, g) → W p l e { frames := 1, cells := 0, slots := 0, locals := 21 } s m args below meth c H locs 0 0 (MQ below (eQ D cy z (rI r) g) args s 0 0 (fun q => z ≤ q)) (F0 m 57 ls []) := by
  obtain ⟨hx, hb, hr, hml, hown, hts, hlk⟩ := id C
  intro  h  H locs ls w  hl hE
  unfold f_Curve_isTooMuch_57 at hE
  refine lv_iconst (v := 1) hx hb dX2_isTooMuch_57 (by decide) ?_
  refine lv_goto (tgt := 62) hx hb dX2_isTooMuch_58 (by decide) ?_
  exact b_Curve_isTooMuch_62 C N     h (1 : Int32) _ _ ls w  (lv_sub hl [] rfl) hE
set_option maxRecDepth 20000 in
set_option maxHeartbeats 4000000 in
theorem k_Curve_isTooMuch (l : Launch) (D : va_G) (cy : cyT) (z : Nat) (N : Nat) (h : hS) (th : Nat) (r : Int32) (g : hS) (hE : f_Curve_isTooMuch N h th = some (r, g)) : ct l yX2_isTooMuch (Cond.code yX2_isTooMuch cX2_isTooMuch 1 ((some .boolean)) :: GW) { frames := 1, cells := 0, slots := 0, locals := 21 } D cy z h [.ref th] (rI r) g := by
  refine Met.ofW (cc := cX2_isTooMuch) (maxL := 1) (ret := (some .boolean)) (by decide) rfl ?_
  intro p e s m args below meth c s₁ B hml hv
  obtain ⟨rfl, hw⟩ := hv
  have C : MX p s m ([.ref th] : List Value).toArray meth c cX2_isTooMuch 1 ((some .boolean)) RX2 (Cond.code yX2_isTooMuch cX2_isTooMuch 1 ((some .boolean)) :: GW) := ⟨B.exec, B.bytes, B.returns, hml, findClass_of_methodNamed B.named, atoms_spec (ws := Cond.code yX2_isTooMuch cX2_isTooMuch 1 ((some .boolean)) :: GW) B.pre, B.notSynchronized⟩
  obtain ⟨hx, hb, hr, hml, hown, hts, hlk⟩ := id C
  have w := wd_of hw
  obtain ⟨ls, hen, hl⟩ : ∃ ls : Array Slot, entryFrame m ([.ref th] : List Value).toArray 1 = F0 m 0 ls [] ∧ lv_has ls 1 [(0, .ref th)] := by
    exact ⟨_, lg_entry_eq _ _ _, lv_entry _ (Nat.le_of_ble_eq_true rfl)⟩
  rw [hen]
  unfold f_Curve_isTooMuch at hE
  refine lv_aload_n hx hb dX2_isTooMuch_0 rfl (lv_at hl 0 rfl) ?_
  refine w_gI (r := some th) (ci := 3) (k := 3) C w rfl (by decide) (GF_wsX20 _) (by decide) rfl (List.mem_cons_of_mem _ gw_4_15) rfl dX2_isTooMuch_1 hE (fun v1 e1 => ?_)
  refine lv_sipush (v := 5000) hx hb dX2_isTooMuch_4 (by decide) ?_
  refine w_icmp_gt (tgt := 21) C dX2_isTooMuch_7 (by decide) e1 (fun hc e2 => ?_) (fun hc e2 => ?_)
  · exact b_Curve_isTooMuch_21 C N     h  _ _ ls w  (lv_sub hl [] rfl) e2
  · refine lv_aload_n hx hb dX2_isTooMuch_10 rfl (lv_at hl 0 rfl) ?_
    refine w_gJ (r := some th) (ci := 3) (k := 4) C w rfl (by decide) (GF_wsX20 _) (by decide) rfl (List.mem_cons_of_mem _ gw_4_16) rfl dX2_isTooMuch_11 e2 (fun v2 e3 => ?_)
    refine lv_ldc2 hx hb hown (hts _ (List.mem_cons_of_mem _ gw_22_13)) dX2_isTooMuch_14 ?_
    refine W.lcmp hx hb dX2_isTooMuch_17 ?_
    refine w_if_le (tgt := 23) C dX2_isTooMuch_18 (by decide) e3 (fun hc e4 => ?_) (fun hc e4 => ?_)
    · refine lv_aload_n hx hb dX2_isTooMuch_23 rfl (lv_at hl 0 rfl) ?_
      refine w_gI (r := some th) (ci := 3) (k := 0) C w rfl (by decide) (GF_wsX20 _) (by decide) rfl (List.mem_cons_of_mem _ gw_4_13) rfl dX2_isTooMuch_24 e4 (fun v3 e5 => ?_)
      refine w_if_le (tgt := 61) C dX2_isTooMuch_27 (by decide) e5 (fun hc e6 => ?_) (fun hc e6 => ?_)
      · exact b_Curve_isTooMuch_61 C N     h  _ _ ls w  (lv_sub hl [] rfl) e6
      · refine lv_aload_n hx hb dX2_isTooMuch_30 rfl (lv_at hl 0 rfl) ?_
        refine lv_iconst (v := 0) hx hb dX2_isTooMuch_31 (by decide) ?_
        refine w_VI GW_good (n := 1) (F := 0) (Lc := 0) (o := some th) (av := [.int (0 : Int32)]) (rest := []) C w rfl (by decide) (fun a r g hf => k_Curve_placeOf l D cy z N h a (0 : Int32) r g hf) gw_21_8 gw_17_2 gw_17_3 gw_2_22 gw_17_4 (by decide +kernel) ⟨Nat.le_of_ble_eq_true rfl, Nat.le_of_ble_eq_true rfl⟩ rfl hl.1 rfl (Nat.le_of_ble_eq_true rfl) dX2_isTooMuch_32 (fun a => (sh_Curve_placeOf N h a (0 : Int32))) ⟨by decide, by decide⟩ e6 (fun v4 h5 H locs w hsh5 e7 => ?_)
        refine lv_sipush (v := -5000) hx hb dX2_isTooMuch_35 (by decide) ?_
        refine w_icmp_lt (tgt := 57) C dX2_isTooMuch_38 (by decide) e7 (fun hc e8 => ?_) (fun hc e8 => ?_)
        · exact b_Curve_isTooMuch_57 C N     h5  _ _ ls w  (lv_sub hl [] rfl) e8
        · refine lv_aload_n hx hb dX2_isTooMuch_41 rfl (lv_at hl 0 rfl) ?_
          refine lv_aload_n hx hb dX2_isTooMuch_42 rfl (lv_at hl 0 rfl) ?_
          refine w_gI (r := some th) (ci := 3) (k := 0) C w rfl (by decide) (GF_wsX20 _) (by decide) rfl (List.mem_cons_of_mem _ gw_4_13) rfl dX2_isTooMuch_43 e8 (fun v6 e9 => ?_)
          refine lv_iconst (v := 1) hx hb dX2_isTooMuch_46 (by decide) ?_
          refine lv_isub hx hb dX2_isTooMuch_47 ?_
          refine w_VI GW_good (n := 1) (F := 0) (Lc := 0) (o := some th) (av := [.int (v6 - (1 : Int32))]) (rest := []) C w rfl (by decide) (fun a r g hf => k_Curve_placeOf l D cy z N h5 a (v6 - (1 : Int32)) r g hf) gw_21_8 gw_17_2 gw_17_3 gw_2_22 gw_17_4 (by decide +kernel) ⟨Nat.le_of_ble_eq_true rfl, Nat.le_of_ble_eq_true rfl⟩ rfl hl.1 rfl (Nat.le_of_ble_eq_true rfl) dX2_isTooMuch_48 (fun a => (sh_Curve_placeOf N h5 a (v6 - (1 : Int32)))) ⟨by decide, by decide⟩ e9 (fun v7 h8 H locs w hsh8 e10 => ?_)
          refine lv_sipush (v := 5000) hx hb dX2_isTooMuch_51 (by decide) ?_
          refine w_icmp_le (tgt := 61) C dX2_isTooMuch_54 (by decide) e10 (fun hc e11 => ?_) (fun hc e11 => ?_)
          · exact b_Curve_isTooMuch_61 C N     h8  _ _ ls w  (lv_sub hl [] rfl) e11
          · exact b_Curve_isTooMuch_57 C N     h8  _ _ ls w  (lv_sub hl [] rfl) e11
    · exact b_Curve_isTooMuch_21 C N     h  _ _ ls w  (lv_sub hl [] rfl) e4
set_option maxRecDepth 20000 in
set_option maxHeartbeats 4000000 in
theorem b_Bench_add_238 {p : Program} {l : Launch} {e : Env} {s : State} {m : MethodId} {args : Array Value} {below : List Frame} {meth : Method} {c : Code} {D : va_G} {cy : cyT} {z : Nat} (C : MX p s m args meth c cX0_add 5 ((some .boolean)) RX0 (Cond.code yX0_add cX0_add 5 ((some .boolean)) :: GW)) (N : Nat) (n0 s0 : Nat) (hn0 : s.heap.size = n0) {r : Int32} {g : hS}  : ∀  (cells slots : Nat) (h : hS) (y0 : Int32) (H : Heap) (locs : List Loc) (ls : Array Slot), wd D cy z s cells h H locs → h_s h = s0 + slots → lv_has ls 5 [] → f_Bench_add_238 N   h y0 = some (r, g) → W p l e { frames := 2, cells := h_x g - n0, slots := h_s g - s0, locals := 73 } s m args below meth c H locs cells slots (MQ below (eQ D cy z (rI r) g) args s (h_x g - n0) (h_s g - s0) (fun q => z ≤ q)) (F0 m 238 ls [.int y0]) := by
  obtain ⟨hx, hb, hr, hml, hown, hts, hlk⟩ := id C
  intro cells slots h y0 H locs ls w hsl hl hE
  have hcc : cells ≤ h_x g - n0 ∧ slots ≤ h_s g - s0 := by
    have q1 := mo_Bench_add_238 N  h y0 _ _ hE
    have q2 := wd_x w
    have q3 := q1.1
    have q4 := q1.2.1
    omega
  unfold f_Bench_add_238 at hE
  refine W.widen (k := h_x g - n0) (n := h_s g - s0) hcc.1 hcc.2 ?_
  exact w_zret C w hE dX0_add_238
set_option maxRecDepth 20000 in
set_option maxHeartbeats 4000000 in
theorem b_Bench_add_156 {p : Program} {l : Launch} {e : Env} {s : State} {m : MethodId} {args : Array Value} {below : List Frame} {meth : Method} {c : Code} {D : va_G} {cy : cyT} {z : Nat} (C : MX p s m args meth c cX0_add 5 ((some .boolean)) RX0 (Cond.code yX0_add cX0_add 5 ((some .boolean)) :: GW)) (N : Nat) (n0 s0 : Nat) (hn0 : s.heap.size = n0) {r : Int32} {g : hS} {rc54 : hS → Nat → Int32 → Int32 → Int32 → Int32 → Option (Int32 × hS)} (hsh54 : ∀ (h : hS) (th : Nat) (x1 : Int32) (x2 : Int32) (x3 : Int32) (x4 : Int32), Mo h (rc54 h th x1 x2 x3 x4)) (hrc54 : ∀ (cells slots : Nat) (h : hS) (th : Nat) (x1 : Int32) (x2 : Int32) (x3 : Int32) (x4 : Int32) (H : Heap) (locs : List Loc) (ls : Array Slot), wd D cy z s cells h H locs → h_s h = s0 + slots → lv_has ls 5 [(0, .ref th), (1, .int x1), (2, .int x2), (3, .int x3), (4, .int x4)] → rc54 h th x1 x2 x3 x4 = some (r, g) → W p l e { frames := 2, cells := h_x g - n0, slots := h_s g - s0, locals := 73 } s m args below meth c H locs cells slots (MQ below (eQ D cy z (rI r) g) args s (h_x g - n0) (h_s g - s0) (fun q => z ≤ q)) (F0 m 54 ls [])) : ∀  (cells slots : Nat) (h : hS) (th : Nat) (x1 : Int32) (x2 : Int32) (x3 : Int32) (x4 : Int32) (H : Heap) (locs : List Loc) (ls : Array Slot), wd D cy z s cells h H locs → h_s h = s0 + slots → lv_has ls 5 [(0, .ref th), (1, .int x1), (2, .int x2), (3, .int x3), (4, .int x4)] → f_Bench_add_156 N rc54  h th x1 x2 x3 x4 = some (r, g) → W p l e { frames := 2, cells := h_x g - n0, slots := h_s g - s0, locals := 73 } s m args below meth c H locs cells slots (MQ below (eQ D cy z (rI r) g) args s (h_x g - n0) (h_s g - s0) (fun q => z ≤ q)) (F0 m 156 ls []) := by
  obtain ⟨hx, hb, hr, hml, hown, hts, hlk⟩ := id C
  intro cells slots h th x1 x2 x3 x4 H locs ls w hsl hl hE
  have hcc : cells ≤ h_x g - n0 ∧ slots ≤ h_s g - s0 := by
    have q1 := mo_Bench_add_156 N hsh54 h th x1 x2 x3 x4 _ _ hE
    have q2 := wd_x w
    have q3 := q1.1
    have q4 := q1.2.1
    omega
  unfold f_Bench_add_156 at hE
  obtain ⟨v1, ev1, e1⟩ := bn_some hE
  refine lv_iinc (v := v1) (lv' := [(4, .int v1), (0, .ref th), (1, .int x1), (2, .int x2), (3, .int x3)]) hx hb dX0_add_156 hl (k := 4) rfl (by rw [ev1]; rfl) (by decide) rfl (fun ls hl => ?_)
  refine lv_goto (tgt := 54) hx hb dX0_add_159 (by decide) ?_
  exact hrc54 _ _ h th x1 x2 x3 v1 _ _ ls w hsl (lv_sub hl [1, 2, 3, 4, 0] rfl) e1
set_option maxRecDepth 20000 in
set_option maxHeartbeats 4000000 in
theorem b_Bench_add_101 {p : Program} {l : Launch} {e : Env} {s : State} {m : MethodId} {args : Array Value} {below : List Frame} {meth : Method} {c : Code} {D : va_G} {cy : cyT} {z : Nat} (C : MX p s m args meth c cX0_add 5 ((some .boolean)) RX0 (Cond.code yX0_add cX0_add 5 ((some .boolean)) :: GW)) (N : Nat) (n0 s0 : Nat) (hn0 : s.heap.size = n0) {r : Int32} {g : hS} {rc54 : hS → Nat → Int32 → Int32 → Int32 → Int32 → Option (Int32 × hS)} (hsh54 : ∀ (h : hS) (th : Nat) (x1 : Int32) (x2 : Int32) (x3 : Int32) (x4 : Int32), Mo h (rc54 h th x1 x2 x3 x4)) (hrc54 : ∀ (cells slots : Nat) (h : hS) (th : Nat) (x1 : Int32) (x2 : Int32) (x3 : Int32) (x4 : Int32) (H : Heap) (locs : List Loc) (ls : Array Slot), wd D cy z s cells h H locs → h_s h = s0 + slots → lv_has ls 5 [(0, .ref th), (1, .int x1), (2, .int x2), (3, .int x3), (4, .int x4)] → rc54 h th x1 x2 x3 x4 = some (r, g) → W p l e { frames := 2, cells := h_x g - n0, slots := h_s g - s0, locals := 73 } s m args below meth c H locs cells slots (MQ below (eQ D cy z (rI r) g) args s (h_x g - n0) (h_s g - s0) (fun q => z ≤ q)) (F0 m 54 ls [])) : ∀  (cells slots : Nat) (h : hS) (th : Nat) (x1 : Int32) (x2 : Int32) (x3 : Int32) (x4 : Int32) (H : Heap) (locs : List Loc) (ls : Array Slot), wd D cy z s cells h H locs → h_s h = s0 + slots → lv_has ls 5 [(0, .ref th), (1, .int x1), (2, .int x2), (3, .int x3), (4, .int x4)] → f_Bench_add_101 N rc54  h th x1 x2 x3 x4 = some (r, g) → W p l e { frames := 2, cells := h_x g - n0, slots := h_s g - s0, locals := 73 } s m args below meth c H locs cells slots (MQ below (eQ D cy z (rI r) g) args s (h_x g - n0) (h_s g - s0) (fun q => z ≤ q)) (F0 m 101 ls []) := by
  obtain ⟨hx, hb, hr, hml, hown, hts, hlk⟩ := id C
  intro cells slots h th x1 x2 x3 x4 H locs ls w hsl hl hE
  have hcc : cells ≤ h_x g - n0 ∧ slots ≤ h_s g - s0 := by
    have q1 := mo_Bench_add_101 N hsh54 h th x1 x2 x3 x4 _ _ hE
    have q2 := wd_x w
    have q3 := q1.1
    have q4 := q1.2.1
    omega
  unfold f_Bench_add_101 at hE
  refine lv_aload_n hx hb dX0_add_101 rfl (lv_at hl 0 rfl) ?_
  refine w_gR (r := some th) (ci := 1) (k := 1) C w rfl (by decide) (GF_wsX00 _) (by decide) rfl (List.mem_cons_of_mem _ gw_4_4) rfl dX0_add_102 hE (fun v1 e1 => ?_)
  refine lv_aload_n hx hb dX0_add_105 rfl (lv_at hl 0 rfl) ?_
  refine w_gR (r := some th) (ci := 1) (k := 0) C w rfl (by decide) (GF_wsX00 _) (by decide) rfl (List.mem_cons_of_mem _ gw_4_3) rfl dX0_add_106 e1 (fun v2 e2 => ?_)
  refine lv_iload_n hx hb dX0_add_109 rfl (lv_at hl 2 rfl) ?_
  refine w_VI GW_good (n := 1) (F := 0) (Lc := 0) (o := v2) (av := [.int x2]) (rest := [va_rf v1]) C w rfl (by decide) (fun a r g hf => k_Curve_placeOf l D cy z N h a x2 r g hf) gw_21_16 gw_17_2 gw_17_3 gw_2_22 gw_17_4 (by decide +kernel) ⟨Nat.le_of_ble_eq_true rfl, Nat.le_of_ble_eq_true rfl⟩ rfl hl.1 rfl (cat_le (Nat.le_of_ble_eq_true rfl)) dX0_add_110 (fun a => (sh_Curve_placeOf N h a x2)) ⟨hcc.1, hcc.2⟩ e2 (fun v3 h4 H locs w hsh4 e3 => ?_)
  have hsl := hsh4.2.2.2.trans hsl
  refine lv_aload_n hx hb dX0_add_113 rfl (lv_at hl 0 rfl) ?_
  refine w_gR (r := some th) (ci := 1) (k := 0) C w rfl (by decide) (GF_wsX00 _) (by decide) rfl (List.mem_cons_of_mem _ gw_4_3) rfl dX0_add_114 e3 (fun v5 e4 => ?_)
  refine lv_iload_n hx hb dX0_add_117 rfl (lv_at hl 2 rfl) ?_
  refine w_VI GW_good (n := 1) (F := 0) (Lc := 0) (o := v5) (av := [.int x2]) (rest := [.int v3, va_rf v1]) C w rfl (by decide) (fun a r g hf => k_Curve_weightOf l D cy z N h4 a x2 r g hf) gw_21_17 gw_17_6 gw_17_7 gw_2_22 gw_17_8 (by decide +kernel) ⟨Nat.le_of_ble_eq_true rfl, Nat.le_of_ble_eq_true rfl⟩ rfl hl.1 rfl (cat_le (Nat.le_of_ble_eq_true rfl)) dX0_add_118 (fun a => (sh_Curve_weightOf N h4 a x2)) ⟨hcc.1, hcc.2⟩ e4 (fun v6 h7 H locs w hsh7 e5 => ?_)
  have hsl := hsh7.2.2.2.trans hsl
  refine w_VV GW_good (n := 2) (F := 1) (Lc := 21) (o := v1) (av := [.int v3, .int v6]) (rest := []) C w rfl (by decide) (fun a r g hf => k_Curve_append l D cy z N h7 a v3 v6 r g hf) gw_21_18 gw_21_5 gw_21_6 gw_2_22 gw_21_7 (by decide +kernel) ⟨Nat.le_of_ble_eq_true rfl, Nat.le_of_ble_eq_true rfl⟩ rfl hl.1 rfl (Nat.le_of_ble_eq_true rfl) dX0_add_121 (fun a => (sh_Curve_append N h7 a v3 v6)) ⟨hcc.1, hcc.2⟩ e5 (fun v8 h9 H locs w hsh9 e6 => ?_)
  have hsl := hsh9.2.2.2.trans hsl
  obtain ⟨v10, ev10, e7⟩ := bn_some e6
  refine lv_iinc (v := v10) (lv' := [(2, .int v10), (0, .ref th), (1, .int x1), (3, .int x3), (4, .int x4)]) hx hb dX0_add_124 hl (k := 2) rfl (by rw [ev10]; rfl) (by decide) rfl (fun ls hl => ?_)
  refine lv_goto (tgt := 156) hx hb dX0_add_127 (by decide) ?_
  exact b_Bench_add_156 C N n0 s0 hn0 hsh54 hrc54  _ _ h9 th x1 v10 x3 x4 _ _ ls w hsl (lv_sub hl [1, 2, 0, 3, 4] rfl) e7
set_option maxRecDepth 20000 in
set_option maxHeartbeats 4000000 in
theorem b_Bench_add_130 {p : Program} {l : Launch} {e : Env} {s : State} {m : MethodId} {args : Array Value} {below : List Frame} {meth : Method} {c : Code} {D : va_G} {cy : cyT} {z : Nat} (C : MX p s m args meth c cX0_add 5 ((some .boolean)) RX0 (Cond.code yX0_add cX0_add 5 ((some .boolean)) :: GW)) (N : Nat) (n0 s0 : Nat) (hn0 : s.heap.size = n0) {r : Int32} {g : hS} {rc54 : hS → Nat → Int32 → Int32 → Int32 → Int32 → Option (Int32 × hS)} (hsh54 : ∀ (h : hS) (th : Nat) (x1 : Int32) (x2 : Int32) (x3 : Int32) (x4 : Int32), Mo h (rc54 h th x1 x2 x3 x4)) (hrc54 : ∀ (cells slots : Nat) (h : hS) (th : Nat) (x1 : Int32) (x2 : Int32) (x3 : Int32) (x4 : Int32) (H : Heap) (locs : List Loc) (ls : Array Slot), wd D cy z s cells h H locs → h_s h = s0 + slots → lv_has ls 5 [(0, .ref th), (1, .int x1), (2, .int x2), (3, .int x3), (4, .int x4)] → rc54 h th x1 x2 x3 x4 = some (r, g) → W p l e { frames := 2, cells := h_x g - n0, slots := h_s g - s0, locals := 73 } s m args below meth c H locs cells slots (MQ below (eQ D cy z (rI r) g) args s (h_x g - n0) (h_s g - s0) (fun q => z ≤ q)) (F0 m 54 ls [])) : ∀  (cells slots : Nat) (h : hS) (th : Nat) (x1 : Int32) (x2 : Int32) (x3 : Int32) (x4 : Int32) (H : Heap) (locs : List Loc) (ls : Array Slot), wd D cy z s cells h H locs → h_s h = s0 + slots → lv_has ls 5 [(0, .ref th), (1, .int x1), (2, .int x2), (3, .int x3), (4, .int x4)] → f_Bench_add_130 N rc54  h th x1 x2 x3 x4 = some (r, g) → W p l e { frames := 2, cells := h_x g - n0, slots := h_s g - s0, locals := 73 } s m args below meth c H locs cells slots (MQ below (eQ D cy z (rI r) g) args s (h_x g - n0) (h_s g - s0) (fun q => z ≤ q)) (F0 m 130 ls []) := by
  obtain ⟨hx, hb, hr, hml, hown, hts, hlk⟩ := id C
  intro cells slots h th x1 x2 x3 x4 H locs ls w hsl hl hE
  have hcc : cells ≤ h_x g - n0 ∧ slots ≤ h_s g - s0 := by
    have q1 := mo_Bench_add_130 N hsh54 h th x1 x2 x3 x4 _ _ hE
    have q2 := wd_x w
    have q3 := q1.1
    have q4 := q1.2.1
    omega
  unfold f_Bench_add_130 at hE
  refine lv_aload_n hx hb dX0_add_130 rfl (lv_at hl 0 rfl) ?_
  refine w_gR (r := some th) (ci := 1) (k := 1) C w rfl (by decide) (GF_wsX00 _) (by decide) rfl (List.mem_cons_of_mem _ gw_4_4) rfl dX0_add_131 hE (fun v1 e1 => ?_)
  refine lv_aload_n hx hb dX0_add_134 rfl (lv_at hl 0 rfl) ?_
  refine w_gR (r := some th) (ci := 1) (k := 3) C w rfl (by decide) (GF_wsX00 _) (by decide) rfl (List.mem_cons_of_mem _ gw_4_6) rfl dX0_add_135 e1 (fun v2 e2 => ?_)
  refine lv_iload_n hx hb dX0_add_138 rfl (lv_at hl 3 rfl) ?_
  refine w_VI GW_good (n := 1) (F := 0) (Lc := 0) (o := v2) (av := [.int x3]) (rest := [va_rf v1]) C w rfl (by decide) (fun a r g hf => k_Curve_placeOf l D cy z N h a x3 r g hf) gw_21_16 gw_17_2 gw_17_3 gw_2_22 gw_17_4 (by decide +kernel) ⟨Nat.le_of_ble_eq_true rfl, Nat.le_of_ble_eq_true rfl⟩ rfl hl.1 rfl (cat_le (Nat.le_of_ble_eq_true rfl)) dX0_add_139 (fun a => (sh_Curve_placeOf N h a x3)) ⟨hcc.1, hcc.2⟩ e2 (fun v3 h4 H locs w hsh4 e3 => ?_)
  have hsl := hsh4.2.2.2.trans hsl
  refine lv_aload_n hx hb dX0_add_142 rfl (lv_at hl 0 rfl) ?_
  refine w_gR (r := some th) (ci := 1) (k := 3) C w rfl (by decide) (GF_wsX00 _) (by decide) rfl (List.mem_cons_of_mem _ gw_4_6) rfl dX0_add_143 e3 (fun v5 e4 => ?_)
  refine lv_iload_n hx hb dX0_add_146 rfl (lv_at hl 3 rfl) ?_
  refine w_VI GW_good (n := 1) (F := 0) (Lc := 0) (o := v5) (av := [.int x3]) (rest := [.int v3, va_rf v1]) C w rfl (by decide) (fun a r g hf => k_Curve_weightOf l D cy z N h4 a x3 r g hf) gw_21_17 gw_17_6 gw_17_7 gw_2_22 gw_17_8 (by decide +kernel) ⟨Nat.le_of_ble_eq_true rfl, Nat.le_of_ble_eq_true rfl⟩ rfl hl.1 rfl (cat_le (Nat.le_of_ble_eq_true rfl)) dX0_add_147 (fun a => (sh_Curve_weightOf N h4 a x3)) ⟨hcc.1, hcc.2⟩ e4 (fun v6 h7 H locs w hsh7 e5 => ?_)
  have hsl := hsh7.2.2.2.trans hsl
  refine w_VV GW_good (n := 2) (F := 1) (Lc := 21) (o := v1) (av := [.int v3, .int v6]) (rest := []) C w rfl (by decide) (fun a r g hf => k_Curve_append l D cy z N h7 a v3 v6 r g hf) gw_21_18 gw_21_5 gw_21_6 gw_2_22 gw_21_7 (by decide +kernel) ⟨Nat.le_of_ble_eq_true rfl, Nat.le_of_ble_eq_true rfl⟩ rfl hl.1 rfl (Nat.le_of_ble_eq_true rfl) dX0_add_150 (fun a => (sh_Curve_append N h7 a v3 v6)) ⟨hcc.1, hcc.2⟩ e5 (fun v8 h9 H locs w hsh9 e6 => ?_)
  have hsl := hsh9.2.2.2.trans hsl
  obtain ⟨v10, ev10, e7⟩ := bn_some e6
  refine lv_iinc (v := v10) (lv' := [(3, .int v10), (0, .ref th), (1, .int x1), (2, .int x2), (4, .int x4)]) hx hb dX0_add_153 hl (k := 3) rfl (by rw [ev10]; rfl) (by decide) rfl (fun ls hl => ?_)
  exact b_Bench_add_156 C N n0 s0 hn0 hsh54 hrc54  _ _ h9 th x1 x2 v10 x4 _ _ ls w hsl (lv_sub hl [1, 2, 3, 0, 4] rfl) e7
set_option maxRecDepth 20000 in
set_option maxHeartbeats 4000000 in
theorem b_Bench_add_54 {p : Program} {l : Launch} {e : Env} {s : State} {m : MethodId} {args : Array Value} {below : List Frame} {meth : Method} {c : Code} {D : va_G} {cy : cyT} {z : Nat} (C : MX p s m args meth c cX0_add 5 ((some .boolean)) RX0 (Cond.code yX0_add cX0_add 5 ((some .boolean)) :: GW)) (N : Nat) (n0 s0 : Nat) (hn0 : s.heap.size = n0) {r : Int32} {g : hS}  : ∀ (n : Nat) (cells slots : Nat) (h : hS) (th : Nat) (x1 : Int32) (x2 : Int32) (x3 : Int32) (x4 : Int32) (H : Heap) (locs : List Loc) (ls : Array Slot), wd D cy z s cells h H locs → h_s h = s0 + slots → lv_has ls 5 [(0, .ref th), (1, .int x1), (2, .int x2), (3, .int x3), (4, .int x4)] → f_Bench_add_54 N  n h th x1 x2 x3 x4 = some (r, g) → W p l e { frames := 2, cells := h_x g - n0, slots := h_s g - s0, locals := 73 } s m args below meth c H locs cells slots (MQ below (eQ D cy z (rI r) g) args s (h_x g - n0) (h_s g - s0) (fun q => z ≤ q)) (F0 m 54 ls []) := by
  obtain ⟨hx, hb, hr, hml, hown, hts, hlk⟩ := id C
  intro n
  induction n with
  | zero =>
    intro cells slots h th x1 x2 x3 x4 H locs ls w hsl hl hE
    cases hE
  | succ n ih =>
    intro cells slots h th x1 x2 x3 x4 H locs ls w hsl hl hE
    have hcc : cells ≤ h_x g - n0 ∧ slots ≤ h_s g - s0 := by
      have q1 := mo_Bench_add_54 N  (n + 1) h th x1 x2 x3 x4 _ _ hE
      have q2 := wd_x w
      have q3 := q1.1
      have q4 := q1.2.1
      omega
    unfold f_Bench_add_54 at hE
    refine lv_iload hx hb dX0_add_54 (lv_at hl 4 rfl) ?_
    refine lv_iload_n hx hb dX0_add_56 rfl (lv_at hl 1 rfl) ?_
    refine w_icmp_ge (tgt := 162) C dX0_add_57 (by decide) hE (fun hc e1 => ?_) (fun hc e1 => ?_)
    · refine lv_aload_n hx hb dX0_add_162 rfl (lv_at hl 0 rfl) ?_
      refine w_gR (r := some th) (ci := 1) (k := 1) C w rfl (by decide) (GF_wsX00 _) (by decide) rfl (List.mem_cons_of_mem _ gw_4_4) rfl dX0_add_163 e1 (fun v1 e2 => ?_)
      refine lv_aload_n hx hb dX0_add_166 rfl (lv_at hl 0 rfl) ?_
      refine w_gR (r := some th) (ci := 1) (k := 0) C w rfl (by decide) (GF_wsX00 _) (by decide) rfl (List.mem_cons_of_mem _ gw_4_3) rfl dX0_add_167 e2 (fun v2 e3 => ?_)
      refine w_gI (r := v2) (ci := 3) (k := 2) C w rfl (by decide) (GF_wsX20 _) (by decide) rfl (List.mem_cons_of_mem _ gw_21_15) rfl dX0_add_170 e3 (fun v3 e4 => ?_)
      refine lv_aload_n hx hb dX0_add_173 rfl (lv_at hl 0 rfl) ?_
      refine w_gR (r := some th) (ci := 1) (k := 3) C w rfl (by decide) (GF_wsX00 _) (by decide) rfl (List.mem_cons_of_mem _ gw_4_6) rfl dX0_add_174 e4 (fun v4 e5 => ?_)
      refine w_gI (r := v4) (ci := 3) (k := 2) C w rfl (by decide) (GF_wsX20 _) (by decide) rfl (List.mem_cons_of_mem _ gw_21_15) rfl dX0_add_177 e5 (fun v5 e6 => ?_)
      refine lv_iadd hx hb dX0_add_180 ?_
      refine w_pI (r := v1) (ci := 3) (k := 2) C w rfl (by decide) (by unfold roK; omega) (GF_wsX20 _) tyX2 tyX2_ok nmX2 (by decide) rfl (List.mem_cons_of_mem _ gw_21_15) rfl rfl (tyX2_ok 2 (by decide)) dX0_add_181 e6 (fun h6 H locs w hsh6 e7 => ?_)
      have hsl := hsh6.2.2.2.trans hsl
      refine lv_aload_n hx hb dX0_add_184 rfl (lv_at hl 0 rfl) ?_
      refine w_gR (r := some th) (ci := 1) (k := 1) C w rfl (by decide) (GF_wsX00 _) (by decide) rfl (List.mem_cons_of_mem _ gw_4_4) rfl dX0_add_185 e7 (fun v7 e8 => ?_)
      refine w_VI GW_good (n := 0) (F := 1) (Lc := 21) (o := v7) (av := []) (rest := []) C w rfl (by decide) (fun a r g hf => k_Curve_someLowest l D cy z N h6 a  r g hf) gw_21_19 gw_21_20 gw_21_21 gw_2_22 gw_21_22 (by decide +kernel) ⟨Nat.le_of_ble_eq_true rfl, Nat.le_of_ble_eq_true rfl⟩ rfl hl.1 rfl (Nat.le_of_ble_eq_true rfl) dX0_add_188 (fun a => (sh_Curve_someLowest N h6 a )) ⟨hcc.1, hcc.2⟩ e8 (fun v8 h9 H locs w hsh9 e9 => ?_)
      have hsl := hsh9.2.2.2.trans hsl
      refine lv_istore (lv' := [(4, .int v8), (0, .ref th), (1, .int x1), (2, .int x2), (3, .int x3)]) hx hb dX0_add_191 hl (by decide) rfl (fun ls hl => ?_)
      refine lv_aload_n hx hb dX0_add_193 rfl (lv_at hl 1 rfl) ?_
      refine w_gR (r := some th) (ci := 1) (k := 1) C w rfl (by decide) (GF_wsX00 _) (by decide) rfl (List.mem_cons_of_mem _ gw_4_4) rfl dX0_add_194 e9 (fun v10 e10 => ?_)
      refine lv_aload_n hx hb dX0_add_197 rfl (lv_at hl 1 rfl) ?_
      refine w_gR (r := some th) (ci := 1) (k := 0) C w rfl (by decide) (GF_wsX00 _) (by decide) rfl (List.mem_cons_of_mem _ gw_4_3) rfl dX0_add_198 e10 (fun v11 e11 => ?_)
      refine lv_iload hx hb dX0_add_201 (lv_at hl 0 rfl) ?_
      refine w_VJ GW_good (n := 1) (F := 1) (Lc := 44) (o := v11) (av := [.int v8]) (rest := [va_rf v10]) C w rfl (by decide) (fun a r g hf => k_Curve_valueAt l D cy z N h9 a v8 r g hf) gw_22_0 gw_22_1 gw_22_2 gw_2_22 gw_22_3 (by decide +kernel) ⟨Nat.le_of_ble_eq_true rfl, Nat.le_of_ble_eq_true rfl⟩ rfl hl.1 rfl (cat_le (Nat.le_of_ble_eq_true rfl)) dX0_add_203 (fun a => (sh_Curve_valueAt N h9 a v8)) ⟨hcc.1, hcc.2⟩ e11 (fun v12 h13 H locs w hsh13 e12 => ?_)
      have hsl := hsh13.2.2.2.trans hsl
      refine lv_aload_n hx hb dX0_add_206 rfl (lv_at hl 1 rfl) ?_
      refine w_gR (r := some th) (ci := 1) (k := 3) C w rfl (by decide) (GF_wsX00 _) (by decide) rfl (List.mem_cons_of_mem _ gw_4_6) rfl dX0_add_207 e12 (fun v14 e13 => ?_)
      refine lv_iload hx hb dX0_add_210 (lv_at hl 0 rfl) ?_
      refine w_VJ GW_good (n := 1) (F := 1) (Lc := 44) (o := v14) (av := [.int v8]) (rest := [.long v12, va_rf v10]) C w rfl (by decide) (fun a r g hf => k_Curve_valueAt l D cy z N h13 a v8 r g hf) gw_22_0 gw_22_1 gw_22_2 gw_2_22 gw_22_3 (by decide +kernel) ⟨Nat.le_of_ble_eq_true rfl, Nat.le_of_ble_eq_true rfl⟩ rfl hl.1 rfl (cat_le (Nat.le_of_ble_eq_true rfl)) dX0_add_212 (fun a => (sh_Curve_valueAt N h13 a v8)) ⟨hcc.1, hcc.2⟩ e13 (fun v15 h16 H locs w hsh16 e14 => ?_)
      have hsl := hsh16.2.2.2.trans hsl
      refine lv_ladd hx hb dX0_add_215 ?_
      refine w_pJ (r := v10) (ci := 3) (k := 4) C w rfl (by decide) (by unfold roK; omega) (GF_wsX20 _) tyX2 tyX2_ok nmX2 (by decide) rfl (List.mem_cons_of_mem _ gw_20_22) rfl rfl (tyX2_ok 4 (by decide)) dX0_add_216 e14 (fun h17 H locs w hsh17 e15 => ?_)
      have hsl := hsh17.2.2.2.trans hsl
      refine lv_aload_n hx hb dX0_add_219 rfl (lv_at hl 1 rfl) ?_
      refine w_VV GW_good (n := 0) (F := 0) (Lc := 0) (o := some th) (av := []) (rest := []) C w rfl (by decide) (fun a r g hf => k_Bench_swap l D cy z N h17 a  r g hf) gw_22_5 gw_22_6 gw_22_7 gw_2_0 gw_22_8 (by decide +kernel) ⟨Nat.le_of_ble_eq_true rfl, Nat.le_of_ble_eq_true rfl⟩ rfl hl.1 rfl (Nat.le_of_ble_eq_true rfl) dX0_add_220 (fun a => (sh_Bench_swap N h17 a )) ⟨hcc.1, hcc.2⟩ e15 (fun v18 h19 H locs w hsh19 e16 => ?_)
      have hsl := hsh19.2.2.2.trans hsl
      refine lv_aload_n hx hb dX0_add_223 rfl (lv_at hl 1 rfl) ?_
      refine w_gR (r := some th) (ci := 1) (k := 0) C w rfl (by decide) (GF_wsX00 _) (by decide) rfl (List.mem_cons_of_mem _ gw_4_3) rfl dX0_add_224 e16 (fun v20 e17 => ?_)
      refine w_VI GW_good (n := 0) (F := 1) (Lc := 21) (o := v20) (av := []) (rest := []) C w rfl (by decide) (fun a r g hf => k_Curve_isTooMuch l D cy z N h19 a  r g hf) gw_22_9 gw_22_10 gw_22_11 gw_2_22 gw_22_12 (by decide +kernel) ⟨Nat.le_of_ble_eq_true rfl, Nat.le_of_ble_eq_true rfl⟩ rfl hl.1 rfl (Nat.le_of_ble_eq_true rfl) dX0_add_227 (fun a => (sh_Curve_isTooMuch N h19 a )) ⟨hcc.1, hcc.2⟩ e17 (fun v21 h22 H locs w hsh22 e18 => ?_)
      have hsl := hsh22.2.2.2.trans hsl
      refine w_if_ne (tgt := 237) C dX0_add_230 (by decide) e18 (fun hc e19 => ?_) (fun hc e19 => ?_)
      · refine lv_iconst (v := 0) hx hb dX0_add_237 (by decide) ?_
        exact b_Bench_add_238 C N n0 s0 hn0   _ _ h22 (0 : Int32) _ _ ls w hsl (lv_sub hl [] rfl) e19
      · refine lv_iconst (v := 1) hx hb dX0_add_233 (by decide) ?_
        refine lv_goto (tgt := 238) hx hb dX0_add_234 (by decide) ?_
        exact b_Bench_add_238 C N n0 s0 hn0   _ _ h22 (1 : Int32) _ _ ls w hsl (lv_sub hl [] rfl) e19
    · refine lv_iload_n hx hb dX0_add_60 rfl (lv_at hl 3 rfl) ?_
      refine lv_aload_n hx hb dX0_add_61 rfl (lv_at hl 0 rfl) ?_
      refine w_gR (r := some th) (ci := 1) (k := 3) C w rfl (by decide) (GF_wsX00 _) (by decide) rfl (List.mem_cons_of_mem _ gw_4_6) rfl dX0_add_62 e1 (fun v23 e20 => ?_)
      refine w_gI (r := v23) (ci := 3) (k := 0) C w rfl (by decide) (GF_wsX20 _) (by decide) rfl (List.mem_cons_of_mem _ gw_21_14) rfl dX0_add_65 e20 (fun v24 e21 => ?_)
      refine w_icmp_ge (tgt := 101) C dX0_add_68 (by decide) e21 (fun hc e22 => ?_) (fun hc e22 => ?_)
      · exact b_Bench_add_101 C N n0 s0 hn0 (mo_Bench_add_54 N  n) ih  _ _ h th x1 x2 x3 x4 _ _ ls w hsl (lv_sub hl [0, 1, 2, 3, 4] rfl) e22
      · refine lv_iload_n hx hb dX0_add_71 rfl (lv_at hl 2 rfl) ?_
        refine lv_aload_n hx hb dX0_add_72 rfl (lv_at hl 0 rfl) ?_
        refine w_gR (r := some th) (ci := 1) (k := 0) C w rfl (by decide) (GF_wsX00 _) (by decide) rfl (List.mem_cons_of_mem _ gw_4_3) rfl dX0_add_73 e22 (fun v25 e23 => ?_)
        refine w_gI (r := v25) (ci := 3) (k := 0) C w rfl (by decide) (GF_wsX20 _) (by decide) rfl (List.mem_cons_of_mem _ gw_21_14) rfl dX0_add_76 e23 (fun v26 e24 => ?_)
        refine w_icmp_ge (tgt := 130) C dX0_add_79 (by decide) e24 (fun hc e25 => ?_) (fun hc e25 => ?_)
        · exact b_Bench_add_130 C N n0 s0 hn0 (mo_Bench_add_54 N  n) ih  _ _ h th x1 x2 x3 x4 _ _ ls w hsl (lv_sub hl [0, 1, 2, 3, 4] rfl) e25
        · refine lv_aload_n hx hb dX0_add_82 rfl (lv_at hl 0 rfl) ?_
          refine w_gR (r := some th) (ci := 1) (k := 0) C w rfl (by decide) (GF_wsX00 _) (by decide) rfl (List.mem_cons_of_mem _ gw_4_3) rfl dX0_add_83 e25 (fun v27 e26 => ?_)
          refine lv_iload_n hx hb dX0_add_86 rfl (lv_at hl 2 rfl) ?_
          refine w_VI GW_good (n := 1) (F := 0) (Lc := 0) (o := v27) (av := [.int x2]) (rest := []) C w rfl (by decide) (fun a r g hf => k_Curve_placeOf l D cy z N h a x2 r g hf) gw_21_16 gw_17_2 gw_17_3 gw_2_22 gw_17_4 (by decide +kernel) ⟨Nat.le_of_ble_eq_true rfl, Nat.le_of_ble_eq_true rfl⟩ rfl hl.1 rfl (Nat.le_of_ble_eq_true rfl) dX0_add_87 (fun a => (sh_Curve_placeOf N h a x2)) ⟨hcc.1, hcc.2⟩ e26 (fun v28 h29 H locs w hsh29 e27 => ?_)
          have hsl := hsh29.2.2.2.trans hsl
          refine lv_aload_n hx hb dX0_add_90 rfl (lv_at hl 0 rfl) ?_
          refine w_gR (r := some th) (ci := 1) (k := 3) C w rfl (by decide) (GF_wsX00 _) (by decide) rfl (List.mem_cons_of_mem _ gw_4_6) rfl dX0_add_91 e27 (fun v30 e28 => ?_)
          refine lv_iload_n hx hb dX0_add_94 rfl (lv_at hl 3 rfl) ?_
          refine w_VI GW_good (n := 1) (F := 0) (Lc := 0) (o := v30) (av := [.int x3]) (rest := [.int v28]) C w rfl (by decide) (fun a r g hf => k_Curve_placeOf l D cy z N h29 a x3 r g hf) gw_21_16 gw_17_2 gw_17_3 gw_2_22 gw_17_4 (by decide +kernel) ⟨Nat.le_of_ble_eq_true rfl, Nat.le_of_ble_eq_true rfl⟩ rfl hl.1 rfl (Nat.le_of_ble_eq_true rfl) dX0_add_95 (fun a => (sh_Curve_placeOf N h29 a x3)) ⟨hcc.1, hcc.2⟩ e28 (fun v31 h32 H locs w hsh32 e29 => ?_)
          have hsl := hsh32.2.2.2.trans hsl
          refine w_icmp_gt (tgt := 130) C dX0_add_98 (by decide) e29 (fun hc e30 => ?_) (fun hc e30 => ?_)
          · exact b_Bench_add_130 C N n0 s0 hn0 (mo_Bench_add_54 N  n) ih  _ _ h32 th x1 x2 x3 x4 _ _ ls w hsl (lv_sub hl [0, 1, 2, 3, 4] rfl) e30
          · exact b_Bench_add_101 C N n0 s0 hn0 (mo_Bench_add_54 N  n) ih  _ _ h32 th x1 x2 x3 x4 _ _ ls w hsl (lv_sub hl [0, 1, 2, 3, 4] rfl) e30
set_option maxRecDepth 20000 in
set_option maxHeartbeats 4000000 in
theorem b_Bench_add_47 {p : Program} {l : Launch} {e : Env} {s : State} {m : MethodId} {args : Array Value} {below : List Frame} {meth : Method} {c : Code} {D : va_G} {cy : cyT} {z : Nat} (C : MX p s m args meth c cX0_add 5 ((some .boolean)) RX0 (Cond.code yX0_add cX0_add 5 ((some .boolean)) :: GW)) (N : Nat) (n0 s0 : Nat) (hn0 : s.heap.size = n0) {r : Int32} {g : hS}  : ∀  (cells slots : Nat) (h : hS) (th : Nat) (x1 : Int32) (H : Heap) (locs : List Loc) (ls : Array Slot), wd D cy z s cells h H locs → h_s h = s0 + slots → lv_has ls 5 [(0, .ref th), (1, .int x1)] → f_Bench_add_47 N   h th x1 = some (r, g) → W p l e { frames := 2, cells := h_x g - n0, slots := h_s g - s0, locals := 73 } s m args below meth c H locs cells slots (MQ below (eQ D cy z (rI r) g) args s (h_x g - n0) (h_s g - s0) (fun q => z ≤ q)) (F0 m 47 ls []) := by
  obtain ⟨hx, hb, hr, hml, hown, hts, hlk⟩ := id C
  intro cells slots h th x1 H locs ls w hsl hl hE
  have hcc : cells ≤ h_x g - n0 ∧ slots ≤ h_s g - s0 := by
    have q1 := mo_Bench_add_47 N  h th x1 _ _ hE
    have q2 := wd_x w
    have q3 := q1.1
    have q4 := q1.2.1
    omega
  unfold f_Bench_add_47 at hE
  refine lv_iconst (v := 0) hx hb dX0_add_47 (by decide) ?_
  refine lv_istore_n (lv' := [(2, .int (0 : Int32)), (0, .ref th), (1, .int x1)]) hx hb dX0_add_48 rfl hl (by decide) rfl (fun ls hl => ?_)
  refine lv_iconst (v := 0) hx hb dX0_add_49 (by decide) ?_
  refine lv_istore_n (lv' := [(3, .int (0 : Int32)), (2, .int (0 : Int32)), (0, .ref th), (1, .int x1)]) hx hb dX0_add_50 rfl hl (by decide) rfl (fun ls hl => ?_)
  refine lv_iconst (v := 0) hx hb dX0_add_51 (by decide) ?_
  refine lv_istore (lv' := [(4, .int (0 : Int32)), (3, .int (0 : Int32)), (2, .int (0 : Int32)), (0, .ref th), (1, .int x1)]) hx hb dX0_add_52 hl (by decide) rfl (fun ls hl => ?_)
  exact b_Bench_add_54 C N n0 s0 hn0  N _ _ h th x1 (0 : Int32) (0 : Int32) (0 : Int32) _ _ ls w hsl (lv_sub hl [3, 4, 2, 1, 0] rfl) hE
set_option maxRecDepth 20000 in
set_option maxHeartbeats 4000000 in
theorem k_Bench_add (l : Launch) (D : va_G) (cy : cyT) (z : Nat) (N : Nat) (h : hS) (th : Nat) (r : Int32) (g : hS) (hE : f_Bench_add N h th = some (r, g)) : ct l yX0_add (Cond.code yX0_add cX0_add 5 ((some .boolean)) :: GW) { frames := 2, cells := h_x g - h_x h, slots := h_s g - h_s h, locals := 73 } D cy z h [.ref th] (rI r) g := by
  refine Met.ofW (cc := cX0_add) (maxL := 5) (ret := (some .boolean)) (by decide) rfl ?_
  intro p e s m args below meth c s₁ B hml hv
  obtain ⟨rfl, hw⟩ := hv
  have C : MX p s m ([.ref th] : List Value).toArray meth c cX0_add 5 ((some .boolean)) RX0 (Cond.code yX0_add cX0_add 5 ((some .boolean)) :: GW) := ⟨B.exec, B.bytes, B.returns, hml, findClass_of_methodNamed B.named, atoms_spec (ws := Cond.code yX0_add cX0_add 5 ((some .boolean)) :: GW) B.pre, B.notSynchronized⟩
  obtain ⟨hx, hb, hr, hml, hown, hts, hlk⟩ := id C
  have w := wd_of hw
  have hsl : h_s h = h_s h + 0 := rfl
  have hn0 : s.heap.size = h_x h := (wd_x w).1
  obtain ⟨ls, hen, hl⟩ : ∃ ls : Array Slot, entryFrame m ([.ref th] : List Value).toArray 5 = F0 m 0 ls [] ∧ lv_has ls 5 [(0, .ref th)] := by
    exact ⟨_, lg_entry_eq _ _ _, lv_entry _ (Nat.le_of_ble_eq_true rfl)⟩
  rw [hen]
  have hcc : 0 ≤ h_x g - h_x h ∧ 0 ≤ h_s g - h_s h := ⟨Nat.zero_le _, Nat.zero_le _⟩
  unfold f_Bench_add at hE
  refine lv_aload_n hx hb dX0_add_0 rfl (lv_at hl 0 rfl) ?_
  refine w_gR (r := some th) (ci := 1) (k := 0) C w rfl (by decide) (GF_wsX00 _) (by decide) rfl (List.mem_cons_of_mem _ gw_4_3) rfl dX0_add_1 hE (fun v1 e1 => ?_)
  refine w_gI (r := v1) (ci := 3) (k := 3) C w rfl (by decide) (GF_wsX20 _) (by decide) rfl (List.mem_cons_of_mem _ gw_21_13) rfl dX0_add_4 e1 (fun v2 e2 => ?_)
  refine lv_aload_n hx hb dX0_add_7 rfl (lv_at hl 0 rfl) ?_
  refine w_gR (r := some th) (ci := 1) (k := 3) C w rfl (by decide) (GF_wsX00 _) (by decide) rfl (List.mem_cons_of_mem _ gw_4_6) rfl dX0_add_8 e2 (fun v3 e3 => ?_)
  refine w_gI (r := v3) (ci := 3) (k := 3) C w rfl (by decide) (GF_wsX20 _) (by decide) rfl (List.mem_cons_of_mem _ gw_21_13) rfl dX0_add_11 e3 (fun v4 e4 => ?_)
  refine lv_iadd hx hb dX0_add_14 ?_
  refine lv_sipush (v := 5000) hx hb dX0_add_15 (by decide) ?_
  refine w_icmp_le (tgt := 23) C dX0_add_18 (by decide) e4 (fun hc e5 => ?_) (fun hc e5 => ?_)
  · refine lv_aload_n hx hb dX0_add_23 rfl (lv_at hl 0 rfl) ?_
    refine w_gR (r := some th) (ci := 1) (k := 0) C w rfl (by decide) (GF_wsX00 _) (by decide) rfl (List.mem_cons_of_mem _ gw_4_3) rfl dX0_add_24 e5 (fun v5 e6 => ?_)
    refine w_gI (r := v5) (ci := 3) (k := 0) C w rfl (by decide) (GF_wsX20 _) (by decide) rfl (List.mem_cons_of_mem _ gw_21_14) rfl dX0_add_27 e6 (fun v6 e7 => ?_)
    refine lv_aload_n hx hb dX0_add_30 rfl (lv_at hl 0 rfl) ?_
    refine w_gR (r := some th) (ci := 1) (k := 3) C w rfl (by decide) (GF_wsX00 _) (by decide) rfl (List.mem_cons_of_mem _ gw_4_6) rfl dX0_add_31 e7 (fun v7 e8 => ?_)
    refine w_gI (r := v7) (ci := 3) (k := 0) C w rfl (by decide) (GF_wsX20 _) (by decide) rfl (List.mem_cons_of_mem _ gw_21_14) rfl dX0_add_34 e8 (fun v8 e9 => ?_)
    refine lv_iadd hx hb dX0_add_37 ?_
    refine w_bnI e9 (fun v9 e10 => ?_)
    refine lv_istore_n (lv' := [(1, .int v9), (0, .ref th)]) hx hb dX0_add_38 rfl hl (by decide) rfl (fun ls hl => ?_)
    refine lv_aload_n hx hb dX0_add_39 rfl (lv_at hl 1 rfl) ?_
    refine w_gR (r := some th) (ci := 1) (k := 1) C w rfl (by decide) (GF_wsX00 _) (by decide) rfl (List.mem_cons_of_mem _ gw_4_4) rfl dX0_add_40 e10 (fun v10 e11 => ?_)
    refine lv_iload_n hx hb dX0_add_43 rfl (lv_at hl 0 rfl) ?_
    refine w_VAV GW_good (n := 1) (F := 0) (Lc := 0) (o := v10) (av := [.int v9]) (rest := []) C w rfl (by decide) (fun a r g hf => k_Curve_clear l D cy z N h a v9 r g hf) gw_20_2 gw_20_3 gw_20_4 gw_2_22 gw_20_5 (by decide +kernel) ⟨Nat.le_of_ble_eq_true rfl, Nat.le_of_ble_eq_true rfl⟩ rfl hl.1 rfl (Nat.le_of_ble_eq_true rfl) dX0_add_44 (fun a => (mo_Curve_clear N h a v9)) (fun a v11 h12 q1 q2 => by have u1 := (mo_Curve_clear N h a v9) _ _ q1; have u2 := mo_Bench_add_47 N   h12 th v9 _ _ q2; have u3 := wd_x w; have u4 := u1.1; have u5 := u1.2.1; have u6 := u2.1; have u7 := u2.2.1; show 0 + _ ≤ h_x g - (h_x h) ∧ 0 + _ ≤ h_s g - (h_s h); omega) e11 (fun v11 h12 H locs w hsh12 e12 => ?_)
    exact b_Bench_add_47 C N (h_x h) (h_s h) hn0   _ _ h12 th v9 _ _ ls w (by have u5 := hsh12.2.1; have u8 := hsl; omega) (lv_sub hl [1, 0] rfl) e12
  · refine lv_iconst (v := 0) hx hb dX0_add_21 (by decide) ?_
    refine W.widen (k := h_x g - (h_x h)) (n := h_s g - (h_s h)) hcc.1 hcc.2 ?_
    exact w_zret C w e5 dX0_add_22
set_option maxRecDepth 20000 in
set_option maxHeartbeats 4000000 in
theorem b_Bench_reshape_155 {p : Program} {l : Launch} {e : Env} {s : State} {m : MethodId} {args : Array Value} {below : List Frame} {meth : Method} {c : Code} {D : va_G} {cy : cyT} {z : Nat} (C : MX p s m args meth c cX0_reshape 8 (none) RX0 (Cond.code yX0_reshape cX0_reshape 8 (none) :: GW)) (N : Nat) (n0 s0 : Nat) (hn0 : s.heap.size = n0) {r : Unit} {g : hS}  : ∀  (cells slots : Nat) (h : hS) (th : Nat) (y0 : Option Nat) (y1 : Int32) (H : Heap) (locs : List Loc) (ls : Array Slot), wd D cy z s cells h H locs → h_s h = s0 + slots → lv_has ls 8 [(0, .ref th)] → f_Bench_reshape_155 N   h th y0 y1 = some (r, g) → W p l e { frames := 2, cells := h_x g - n0, slots := h_s g - s0, locals := 44 } s m args below meth c H locs cells slots (MQ below (eQ D cy z (rV r) g) args s (h_x g - n0) (h_s g - s0) (fun q => z ≤ q)) (F0 m 155 ls [.int y1, va_rf y0]) := by
  obtain ⟨hx, hb, hr, hml, hown, hts, hlk⟩ := id C
  intro cells slots h th y0 y1 H locs ls w hsl hl hE
  have hcc : cells ≤ h_x g - n0 ∧ slots ≤ h_s g - s0 := by
    have q1 := mo_Bench_reshape_155 N  h th y0 y1 _ _ hE
    have q2 := wd_x w
    have q3 := q1.1
    have q4 := q1.2.1
    omega
  unfold f_Bench_reshape_155 at hE
  refine w_pI (r := y0) (ci := 3) (k := 2) C w rfl (by decide) (by unfold roK; omega) (GF_wsX20 _) tyX2 tyX2_ok nmX2 (by decide) rfl (List.mem_cons_of_mem _ gw_21_15) rfl rfl (tyX2_ok 2 (by decide)) dX0_reshape_155 hE (fun h1 H locs w hsh1 e1 => ?_)
  have hsl := hsh1.2.2.2.trans hsl
  refine lv_aload_n hx hb dX0_reshape_158 rfl (lv_at hl 0 rfl) ?_
  refine w_gR (r := some th) (ci := 1) (k := 1) C w rfl (by decide) (GF_wsX00 _) (by decide) rfl (List.mem_cons_of_mem _ gw_4_4) rfl dX0_reshape_159 e1 (fun v2 e2 => ?_)
  refine lv_aload_n hx hb dX0_reshape_162 rfl (lv_at hl 0 rfl) ?_
  refine w_gR (r := some th) (ci := 1) (k := 0) C w rfl (by decide) (GF_wsX00 _) (by decide) rfl (List.mem_cons_of_mem _ gw_4_3) rfl dX0_reshape_163 e2 (fun v3 e3 => ?_)
  refine w_gJ (r := v3) (ci := 3) (k := 4) C w rfl (by decide) (GF_wsX20 _) (by decide) rfl (List.mem_cons_of_mem _ gw_20_22) rfl dX0_reshape_166 e3 (fun v4 e4 => ?_)
  refine w_pJ (r := v2) (ci := 3) (k := 4) C w rfl (by decide) (by unfold roK; omega) (GF_wsX20 _) tyX2 tyX2_ok nmX2 (by decide) rfl (List.mem_cons_of_mem _ gw_20_22) rfl rfl (tyX2_ok 4 (by decide)) dX0_reshape_169 e4 (fun h5 H locs w hsh5 e5 => ?_)
  have hsl := hsh5.2.2.2.trans hsl
  refine lv_aload_n hx hb dX0_reshape_172 rfl (lv_at hl 0 rfl) ?_
  refine w_VV GW_good (n := 0) (F := 0) (Lc := 0) (o := some th) (av := []) (rest := []) C w rfl (by decide) (fun a r g hf => k_Bench_swap l D cy z N h5 a  r g hf) gw_22_5 gw_22_6 gw_22_7 gw_2_0 gw_22_8 (by decide +kernel) ⟨Nat.le_of_ble_eq_true rfl, Nat.le_of_ble_eq_true rfl⟩ rfl hl.1 rfl (Nat.le_of_ble_eq_true rfl) dX0_reshape_173 (fun a => (sh_Bench_swap N h5 a )) ⟨hcc.1, hcc.2⟩ e5 (fun v6 h7 H locs w hsh7 e6 => ?_)
  have hsl := hsh7.2.2.2.trans hsl
  refine W.widen (k := h_x g - n0) (n := h_s g - s0) hcc.1 hcc.2 ?_
  exact w_vret C w e6 dX0_reshape_176
set_option maxRecDepth 20000 in
set_option maxHeartbeats 4000000 in
theorem b_Bench_reshape_127 {p : Program} {l : Launch} {e : Env} {s : State} {m : MethodId} {args : Array Value} {below : List Frame} {meth : Method} {c : Code} {D : va_G} {cy : cyT} {z : Nat} (C : MX p s m args meth c cX0_reshape 8 (none) RX0 (Cond.code yX0_reshape cX0_reshape 8 (none) :: GW)) (N : Nat) (n0 s0 : Nat) (hn0 : s.heap.size = n0) {r : Unit} {g : hS} {rc28 : hS → Nat → Int32 → Int32 → Int32 → Int32 → Int32 → Int32 → Option (Unit × hS)} (hsh28 : ∀ (h : hS) (th : Nat) (x1 : Int32) (x2 : Int32) (x3 : Int32) (x4 : Int32) (x5 : Int32) (x6 : Int32), Mo h (rc28 h th x1 x2 x3 x4 x5 x6)) (hrc28 : ∀ (cells slots : Nat) (h : hS) (th : Nat) (x1 : Int32) (x2 : Int32) (x3 : Int32) (x4 : Int32) (x5 : Int32) (x6 : Int32) (H : Heap) (locs : List Loc) (ls : Array Slot), wd D cy z s cells h H locs → h_s h = s0 + slots → lv_has ls 8 [(0, .ref th), (1, .int x1), (2, .int x2), (3, .int x3), (4, .int x4), (5, .int x5), (6, .int x6)] → rc28 h th x1 x2 x3 x4 x5 x6 = some (r, g) → W p l e { frames := 2, cells := h_x g - n0, slots := h_s g - s0, locals := 44 } s m args below meth c H locs cells slots (MQ below (eQ D cy z (rV r) g) args s (h_x g - n0) (h_s g - s0) (fun q => z ≤ q)) (F0 m 28 ls [])) : ∀  (cells slots : Nat) (h : hS) (th : Nat) (x1 : Int32) (x2 : Int32) (x3 : Int32) (x4 : Int32) (x5 : Int32) (x6 : Int32) (y0 : Option Nat) (y1 : Int32) (y2 : Int32) (H : Heap) (locs : List Loc) (ls : Array Slot), wd D cy z s cells h H locs → h_s h = s0 + slots → lv_has ls 8 [(0, .ref th), (1, .int x1), (2, .int x2), (3, .int x3), (4, .int x4), (5, .int x5), (6, .int x6)] → f_Bench_reshape_127 N rc28  h th x1 x2 x3 x4 x5 x6 y0 y1 y2 = some (r, g) → W p l e { frames := 2, cells := h_x g - n0, slots := h_s g - s0, locals := 44 } s m args below meth c H locs cells slots (MQ below (eQ D cy z (rV r) g) args s (h_x g - n0) (h_s g - s0) (fun q => z ≤ q)) (F0 m 127 ls [.int y2, .int y1, va_rf y0]) := by
  obtain ⟨hx, hb, hr, hml, hown, hts, hlk⟩ := id C
  intro cells slots h th x1 x2 x3 x4 x5 x6 y0 y1 y2 H locs ls w hsl hl hE
  have hcc : cells ≤ h_x g - n0 ∧ slots ≤ h_s g - s0 := by
    have q1 := mo_Bench_reshape_127 N hsh28 h th x1 x2 x3 x4 x5 x6 y0 y1 y2 _ _ hE
    have q2 := wd_x w
    have q3 := q1.1
    have q4 := q1.2.1
    omega
  unfold f_Bench_reshape_127 at hE
  refine w_VV GW_good (n := 2) (F := 1) (Lc := 21) (o := y0) (av := [.int y1, .int y2]) (rest := []) C w rfl (by decide) (fun a r g hf => k_Curve_append l D cy z N h a y1 y2 r g hf) gw_21_18 gw_21_5 gw_21_6 gw_2_22 gw_21_7 (by decide +kernel) ⟨Nat.le_of_ble_eq_true rfl, Nat.le_of_ble_eq_true rfl⟩ rfl hl.1 rfl (Nat.le_of_ble_eq_true rfl) dX0_reshape_127 (fun a => (sh_Curve_append N h a y1 y2)) ⟨hcc.1, hcc.2⟩ hE (fun v1 h2 H locs w hsh2 e1 => ?_)
  have hsl := hsh2.2.2.2.trans hsl
  obtain ⟨v3, ev3, e2⟩ := bn_some e1
  refine lv_iinc (v := v3) (lv' := [(6, .int v3), (0, .ref th), (1, .int x1), (2, .int x2), (3, .int x3), (4, .int x4), (5, .int x5)]) hx hb dX0_reshape_130 hl (k := 6) rfl (by rw [ev3]; rfl) (by decide) rfl (fun ls hl => ?_)
  refine lv_goto (tgt := 28) hx hb dX0_reshape_133 (by decide) ?_
  exact hrc28 _ _ h2 th x1 x2 x3 x4 x5 v3 _ _ ls w hsl (lv_sub hl [1, 2, 3, 4, 5, 6, 0] rfl) e2
set_option maxRecDepth 20000 in
set_option maxHeartbeats 4000000 in
theorem b_Bench_reshape_88 {p : Program} {l : Launch} {e : Env} {s : State} {m : MethodId} {args : Array Value} {below : List Frame} {meth : Method} {c : Code} {D : va_G} {cy : cyT} {z : Nat} (C : MX p s m args meth c cX0_reshape 8 (none) RX0 (Cond.code yX0_reshape cX0_reshape 8 (none) :: GW)) (N : Nat) (n0 s0 : Nat) (hn0 : s.heap.size = n0) {r : Unit} {g : hS} {rc28 : hS → Nat → Int32 → Int32 → Int32 → Int32 → Int32 → Int32 → Option (Unit × hS)} (hsh28 : ∀ (h : hS) (th : Nat) (x1 : Int32) (x2 : Int32) (x3 : Int32) (x4 : Int32) (x5 : Int32) (x6 : Int32), Mo h (rc28 h th x1 x2 x3 x4 x5 x6)) (hrc28 : ∀ (cells slots : Nat) (h : hS) (th : Nat) (x1 : Int32) (x2 : Int32) (x3 : Int32) (x4 : Int32) (x5 : Int32) (x6 : Int32) (H : Heap) (locs : List Loc) (ls : Array Slot), wd D cy z s cells h H locs → h_s h = s0 + slots → lv_has ls 8 [(0, .ref th), (1, .int x1), (2, .int x2), (3, .int x3), (4, .int x4), (5, .int x5), (6, .int x6)] → rc28 h th x1 x2 x3 x4 x5 x6 = some (r, g) → W p l e { frames := 2, cells := h_x g - n0, slots := h_s g - s0, locals := 44 } s m args below meth c H locs cells slots (MQ below (eQ D cy z (rV r) g) args s (h_x g - n0) (h_s g - s0) (fun q => z ≤ q)) (F0 m 28 ls [])) : ∀  (cells slots : Nat) (h : hS) (th : Nat) (x1 : Int32) (x2 : Int32) (x3 : Int32) (x4 : Int32) (x5 : Int32) (x6 : Int32) (x7 : Int32) (y0 : Option Nat) (y1 : Int32) (y2 : Int32) (H : Heap) (locs : List Loc) (ls : Array Slot), wd D cy z s cells h H locs → h_s h = s0 + slots → lv_has ls 8 [(0, .ref th), (1, .int x1), (2, .int x2), (3, .int x3), (4, .int x4), (5, .int x5), (6, .int x6), (7, .int x7)] → f_Bench_reshape_88 N rc28  h th x1 x2 x3 x4 x5 x6 x7 y0 y1 y2 = some (r, g) → W p l e { frames := 2, cells := h_x g - n0, slots := h_s g - s0, locals := 44 } s m args below meth c H locs cells slots (MQ below (eQ D cy z (rV r) g) args s (h_x g - n0) (h_s g - s0) (fun q => z ≤ q)) (F0 m 88 ls [.int y2, .int y1, va_rf y0]) := by
  obtain ⟨hx, hb, hr, hml, hown, hts, hlk⟩ := id C
  intro cells slots h th x1 x2 x3 x4 x5 x6 x7 y0 y1 y2 H locs ls w hsl hl hE
  have hcc : cells ≤ h_x g - n0 ∧ slots ≤ h_s g - s0 := by
    have q1 := mo_Bench_reshape_88 N hsh28 h th x1 x2 x3 x4 x5 x6 x7 y0 y1 y2 _ _ hE
    have q2 := wd_x w
    have q3 := q1.1
    have q4 := q1.2.1
    omega
  unfold f_Bench_reshape_88 at hE
  refine w_VV GW_good (n := 2) (F := 1) (Lc := 21) (o := y0) (av := [.int y1, .int y2]) (rest := []) C w rfl (by decide) (fun a r g hf => k_Curve_append l D cy z N h a y1 y2 r g hf) gw_21_18 gw_21_5 gw_21_6 gw_2_22 gw_21_7 (by decide +kernel) ⟨Nat.le_of_ble_eq_true rfl, Nat.le_of_ble_eq_true rfl⟩ rfl hl.1 rfl (Nat.le_of_ble_eq_true rfl) dX0_reshape_88 (fun a => (sh_Curve_append N h a y1 y2)) ⟨hcc.1, hcc.2⟩ hE (fun v1 h2 H locs w hsh2 e1 => ?_)
  have hsl := hsh2.2.2.2.trans hsl
  refine lv_aload_n hx hb dX0_reshape_91 rfl (lv_at hl 0 rfl) ?_
  refine w_gR (r := some th) (ci := 1) (k := 1) C w rfl (by decide) (GF_wsX00 _) (by decide) rfl (List.mem_cons_of_mem _ gw_4_4) rfl dX0_reshape_92 e1 (fun v3 e2 => ?_)
  refine lv_aload_n hx hb dX0_reshape_95 rfl (lv_at hl 0 rfl) ?_
  refine w_gR (r := some th) (ci := 1) (k := 0) C w rfl (by decide) (GF_wsX00 _) (by decide) rfl (List.mem_cons_of_mem _ gw_4_3) rfl dX0_reshape_96 e2 (fun v4 e3 => ?_)
  refine lv_iload hx hb dX0_reshape_99 (lv_at hl 6 rfl) ?_
  refine w_VI GW_good (n := 1) (F := 0) (Lc := 0) (o := v4) (av := [.int x6]) (rest := [va_rf v3]) C w rfl (by decide) (fun a r g hf => k_Curve_placeOf l D cy z N h2 a x6 r g hf) gw_21_16 gw_17_2 gw_17_3 gw_2_22 gw_17_4 (by decide +kernel) ⟨Nat.le_of_ble_eq_true rfl, Nat.le_of_ble_eq_true rfl⟩ rfl hl.1 rfl (cat_le (Nat.le_of_ble_eq_true rfl)) dX0_reshape_101 (fun a => (sh_Curve_placeOf N h2 a x6)) ⟨hcc.1, hcc.2⟩ e3 (fun v5 h6 H locs w hsh6 e4 => ?_)
  have hsl := hsh6.2.2.2.trans hsl
  refine lv_iload hx hb dX0_reshape_104 (lv_at hl 4 rfl) ?_
  refine lv_iadd hx hb dX0_reshape_106 ?_
  refine lv_iload_n hx hb dX0_reshape_107 rfl (lv_at hl 2 rfl) ?_
  refine w_if_eq (tgt := 126) C dX0_reshape_108 (by decide) e4 (fun hc e5 => ?_) (fun hc e5 => ?_)
  · refine lv_iconst (v := 0) hx hb dX0_reshape_126 (by decide) ?_
    exact b_Bench_reshape_127 C N n0 s0 hn0 hsh28 hrc28  _ _ h6 th x1 x2 x3 x4 x5 x6 v3 (v5 + x4) (0 : Int32) _ _ ls w hsl (lv_sub hl [0, 1, 2, 3, 4, 5, 6] rfl) e5
  · refine lv_aload_n hx hb dX0_reshape_111 rfl (lv_at hl 0 rfl) ?_
    refine w_gR (r := some th) (ci := 1) (k := 0) C w rfl (by decide) (GF_wsX00 _) (by decide) rfl (List.mem_cons_of_mem _ gw_4_3) rfl dX0_reshape_112 e5 (fun v7 e6 => ?_)
    refine lv_iload hx hb dX0_reshape_115 (lv_at hl 6 rfl) ?_
    refine w_VI GW_good (n := 1) (F := 0) (Lc := 0) (o := v7) (av := [.int x6]) (rest := [.int (v5 + x4), va_rf v3]) C w rfl (by decide) (fun a r g hf => k_Curve_weightOf l D cy z N h6 a x6 r g hf) gw_21_17 gw_17_6 gw_17_7 gw_2_22 gw_17_8 (by decide +kernel) ⟨Nat.le_of_ble_eq_true rfl, Nat.le_of_ble_eq_true rfl⟩ rfl hl.1 rfl (cat_le (Nat.le_of_ble_eq_true rfl)) dX0_reshape_117 (fun a => (sh_Curve_weightOf N h6 a x6)) ⟨hcc.1, hcc.2⟩ e6 (fun v8 h9 H locs w hsh9 e7 => ?_)
    have hsl := hsh9.2.2.2.trans hsl
    refine lv_iload hx hb dX0_reshape_120 (lv_at hl 7 rfl) ?_
    refine lv_isub hx hb dX0_reshape_122 ?_
    refine lv_goto (tgt := 127) hx hb dX0_reshape_123 (by decide) ?_
    exact b_Bench_reshape_127 C N n0 s0 hn0 hsh28 hrc28  _ _ h9 th x1 x2 x3 x4 x5 x6 v3 (v5 + x4) (v8 - x7) _ _ ls w hsl (lv_sub hl [0, 1, 2, 3, 4, 5, 6] rfl) e7
set_option maxRecDepth 20000 in
set_option maxHeartbeats 4000000 in
theorem b_Bench_reshape_28 {p : Program} {l : Launch} {e : Env} {s : State} {m : MethodId} {args : Array Value} {below : List Frame} {meth : Method} {c : Code} {D : va_G} {cy : cyT} {z : Nat} (C : MX p s m args meth c cX0_reshape 8 (none) RX0 (Cond.code yX0_reshape cX0_reshape 8 (none) :: GW)) (N : Nat) (n0 s0 : Nat) (hn0 : s.heap.size = n0) {r : Unit} {g : hS}  : ∀ (n : Nat) (cells slots : Nat) (h : hS) (th : Nat) (x1 : Int32) (x2 : Int32) (x3 : Int32) (x4 : Int32) (x5 : Int32) (x6 : Int32) (H : Heap) (locs : List Loc) (ls : Array Slot), wd D cy z s cells h H locs → h_s h = s0 + slots → lv_has ls 8 [(0, .ref th), (1, .int x1), (2, .int x2), (3, .int x3), (4, .int x4), (5, .int x5), (6, .int x6)] → f_Bench_reshape_28 N  n h th x1 x2 x3 x4 x5 x6 = some (r, g) → W p l e { frames := 2, cells := h_x g - n0, slots := h_s g - s0, locals := 44 } s m args below meth c H locs cells slots (MQ below (eQ D cy z (rV r) g) args s (h_x g - n0) (h_s g - s0) (fun q => z ≤ q)) (F0 m 28 ls []) := by
  obtain ⟨hx, hb, hr, hml, hown, hts, hlk⟩ := id C
  intro n
  induction n with
  | zero =>
    intro cells slots h th x1 x2 x3 x4 x5 x6 H locs ls w hsl hl hE
    cases hE
  | succ n ih =>
    intro cells slots h th x1 x2 x3 x4 x5 x6 H locs ls w hsl hl hE
    have hcc : cells ≤ h_x g - n0 ∧ slots ≤ h_s g - s0 := by
      have q1 := mo_Bench_reshape_28 N  (n + 1) h th x1 x2 x3 x4 x5 x6 _ _ hE
      have q2 := wd_x w
      have q3 := q1.1
      have q4 := q1.2.1
      omega
    unfold f_Bench_reshape_28 at hE
    refine lv_iload hx hb dX0_reshape_28 (lv_at hl 6 rfl) ?_
    refine lv_aload_n hx hb dX0_reshape_30 rfl (lv_at hl 0 rfl) ?_
    refine w_gR (r := some th) (ci := 1) (k := 0) C w rfl (by decide) (GF_wsX00 _) (by decide) rfl (List.mem_cons_of_mem _ gw_4_3) rfl dX0_reshape_31 hE (fun v1 e1 => ?_)
    refine w_gI (r := v1) (ci := 3) (k := 0) C w rfl (by decide) (GF_wsX20 _) (by decide) rfl (List.mem_cons_of_mem _ gw_21_14) rfl dX0_reshape_34 e1 (fun v2 e2 => ?_)
    refine w_icmp_ge (tgt := 136) C dX0_reshape_37 (by decide) e2 (fun hc e3 => ?_) (fun hc e3 => ?_)
    · refine lv_aload_n hx hb dX0_reshape_136 rfl (lv_at hl 0 rfl) ?_
      refine w_gR (r := some th) (ci := 1) (k := 1) C w rfl (by decide) (GF_wsX00 _) (by decide) rfl (List.mem_cons_of_mem _ gw_4_4) rfl dX0_reshape_137 e3 (fun v3 e4 => ?_)
      refine lv_iload_n hx hb dX0_reshape_140 rfl (lv_at hl 1 rfl) ?_
      refine w_if_eq (tgt := 154) C dX0_reshape_141 (by decide) e4 (fun hc e5 => ?_) (fun hc e5 => ?_)
      · refine lv_iconst (v := 0) hx hb dX0_reshape_154 (by decide) ?_
        exact b_Bench_reshape_155 C N n0 s0 hn0   _ _ h th v3 (0 : Int32) _ _ ls w hsl (lv_sub hl [0] rfl) e5
      · refine lv_aload_n hx hb dX0_reshape_144 rfl (lv_at hl 0 rfl) ?_
        refine w_gR (r := some th) (ci := 1) (k := 0) C w rfl (by decide) (GF_wsX00 _) (by decide) rfl (List.mem_cons_of_mem _ gw_4_3) rfl dX0_reshape_145 e5 (fun v4 e6 => ?_)
        refine w_gI (r := v4) (ci := 3) (k := 2) C w rfl (by decide) (GF_wsX20 _) (by decide) rfl (List.mem_cons_of_mem _ gw_21_15) rfl dX0_reshape_148 e6 (fun v5 e7 => ?_)
        refine lv_goto (tgt := 155) hx hb dX0_reshape_151 (by decide) ?_
        exact b_Bench_reshape_155 C N n0 s0 hn0   _ _ h th v3 v5 _ _ ls w hsl (lv_sub hl [0] rfl) e7
    · refine lv_iload hx hb dX0_reshape_40 (lv_at hl 5 rfl) ?_
      refine lv_aload_n hx hb dX0_reshape_42 rfl (lv_at hl 0 rfl) ?_
      refine w_gR (r := some th) (ci := 1) (k := 0) C w rfl (by decide) (GF_wsX00 _) (by decide) rfl (List.mem_cons_of_mem _ gw_4_3) rfl dX0_reshape_43 e3 (fun v6 e8 => ?_)
      refine lv_iload hx hb dX0_reshape_46 (lv_at hl 6 rfl) ?_
      refine w_VI GW_good (n := 1) (F := 0) (Lc := 0) (o := v6) (av := [.int x6]) (rest := [.int x5]) C w rfl (by decide) (fun a r g hf => k_Curve_weightOf l D cy z N h a x6 r g hf) gw_21_17 gw_17_6 gw_17_7 gw_2_22 gw_17_8 (by decide +kernel) ⟨Nat.le_of_ble_eq_true rfl, Nat.le_of_ble_eq_true rfl⟩ rfl hl.1 rfl (Nat.le_of_ble_eq_true rfl) dX0_reshape_48 (fun a => (sh_Curve_weightOf N h a x6)) ⟨hcc.1, hcc.2⟩ e8 (fun v7 h8 H locs w hsh8 e9 => ?_)
      have hsl := hsh8.2.2.2.trans hsl
      refine w_mmin C hl.1 (List.mem_cons_of_mem _ gw_22_18) (List.mem_cons_of_mem _ gw_10_6) (List.mem_cons_of_mem _ gw_10_7) (List.mem_cons_of_mem _ gw_10_8) (Nat.le_of_ble_eq_true rfl) (Nat.le_of_ble_eq_true rfl) hcc.1 hcc.2 dX0_reshape_51 ?_
      refine w_bnI e9 (fun v9 e10 => ?_)
      refine lv_istore (lv' := [(7, .int v9), (0, .ref th), (1, .int x1), (2, .int x2), (3, .int x3), (4, .int x4), (5, .int x5), (6, .int x6)]) hx hb dX0_reshape_54 hl (by decide) rfl (fun ls hl => ?_)
      refine lv_iload hx hb dX0_reshape_56 (lv_at hl 6 rfl) ?_
      refine lv_iload hx hb dX0_reshape_58 (lv_at hl 0 rfl) ?_
      refine lv_isub hx hb dX0_reshape_60 ?_
      refine w_bnI e10 (fun v10 e11 => ?_)
      refine lv_istore (lv' := [(5, .int v10), (7, .int v9), (0, .ref th), (1, .int x1), (2, .int x2), (3, .int x3), (4, .int x4), (6, .int x6)]) hx hb dX0_reshape_61 hl (by decide) rfl (fun ls hl => ?_)
      refine lv_aload_n hx hb dX0_reshape_63 rfl (lv_at hl 2 rfl) ?_
      refine w_gR (r := some th) (ci := 1) (k := 1) C w rfl (by decide) (GF_wsX00 _) (by decide) rfl (List.mem_cons_of_mem _ gw_4_4) rfl dX0_reshape_64 e11 (fun v11 e12 => ?_)
      refine lv_aload_n hx hb dX0_reshape_67 rfl (lv_at hl 2 rfl) ?_
      refine w_gR (r := some th) (ci := 1) (k := 0) C w rfl (by decide) (GF_wsX00 _) (by decide) rfl (List.mem_cons_of_mem _ gw_4_3) rfl dX0_reshape_68 e12 (fun v12 e13 => ?_)
      refine lv_iload hx hb dX0_reshape_71 (lv_at hl 7 rfl) ?_
      refine w_VI GW_good (n := 1) (F := 0) (Lc := 0) (o := v12) (av := [.int x6]) (rest := [va_rf v11]) C w rfl (by decide) (fun a r g hf => k_Curve_placeOf l D cy z N h8 a x6 r g hf) gw_21_16 gw_17_2 gw_17_3 gw_2_22 gw_17_4 (by decide +kernel) ⟨Nat.le_of_ble_eq_true rfl, Nat.le_of_ble_eq_true rfl⟩ rfl hl.1 rfl (cat_le (Nat.le_of_ble_eq_true rfl)) dX0_reshape_73 (fun a => (sh_Curve_placeOf N h8 a x6)) ⟨hcc.1, hcc.2⟩ e13 (fun v13 h14 H locs w hsh14 e14 => ?_)
      have hsl := hsh14.2.2.2.trans hsl
      refine lv_iload_n hx hb dX0_reshape_76 rfl (lv_at hl 5 rfl) ?_
      refine lv_isub hx hb dX0_reshape_77 ?_
      refine lv_iload_n hx hb dX0_reshape_78 rfl (lv_at hl 3 rfl) ?_
      refine w_if_eq (tgt := 87) C dX0_reshape_79 (by decide) e14 (fun hc e15 => ?_) (fun hc e15 => ?_)
      · refine lv_iconst (v := 0) hx hb dX0_reshape_87 (by decide) ?_
        exact b_Bench_reshape_88 C N n0 s0 hn0 (mo_Bench_reshape_28 N  n) ih  _ _ h14 th x1 x2 x3 x4 v10 x6 v9 v11 (v13 - x3) (0 : Int32) _ _ ls w hsl (lv_sub hl [2, 3, 4, 5, 6, 0, 7, 1] rfl) e15
      · refine lv_iload hx hb dX0_reshape_82 (lv_at hl 1 rfl) ?_
        refine lv_goto (tgt := 88) hx hb dX0_reshape_84 (by decide) ?_
        exact b_Bench_reshape_88 C N n0 s0 hn0 (mo_Bench_reshape_28 N  n) ih  _ _ h14 th x1 x2 x3 x4 v10 x6 v9 v11 (v13 - x3) v9 _ _ ls w hsl (lv_sub hl [2, 3, 4, 5, 6, 0, 7, 1] rfl) e15
set_option maxRecDepth 20000 in
set_option maxHeartbeats 4000000 in
theorem b_Bench_reshape_16 {p : Program} {l : Launch} {e : Env} {s : State} {m : MethodId} {args : Array Value} {below : List Frame} {meth : Method} {c : Code} {D : va_G} {cy : cyT} {z : Nat} (C : MX p s m args meth c cX0_reshape 8 (none) RX0 (Cond.code yX0_reshape cX0_reshape 8 (none) :: GW)) (N : Nat) (n0 s0 : Nat) (hn0 : s.heap.size = n0) {r : Unit} {g : hS}  : ∀  (cells slots : Nat) (h : hS) (th : Nat) (x1 : Int32) (x2 : Int32) (x3 : Int32) (x4 : Int32) (H : Heap) (locs : List Loc) (ls : Array Slot), wd D cy z s cells h H locs → h_s h = s0 + slots → lv_has ls 8 [(0, .ref th), (1, .int x1), (2, .int x2), (3, .int x3), (4, .int x4)] → f_Bench_reshape_16 N   h th x1 x2 x3 x4 = some (r, g) → W p l e { frames := 2, cells := h_x g - n0, slots := h_s g - s0, locals := 44 } s m args below meth c H locs cells slots (MQ below (eQ D cy z (rV r) g) args s (h_x g - n0) (h_s g - s0) (fun q => z ≤ q)) (F0 m 16 ls []) := by
  obtain ⟨hx, hb, hr, hml, hown, hts, hlk⟩ := id C
  intro cells slots h th x1 x2 x3 x4 H locs ls w hsl hl hE
  have hcc : cells ≤ h_x g - n0 ∧ slots ≤ h_s g - s0 := by
    have q1 := mo_Bench_reshape_16 N  h th x1 x2 x3 x4 _ _ hE
    have q2 := wd_x w
    have q3 := q1.1
    have q4 := q1.2.1
    omega
  unfold f_Bench_reshape_16 at hE
  refine lv_aload_n hx hb dX0_reshape_16 rfl (lv_at hl 0 rfl) ?_
  refine w_gR (r := some th) (ci := 1) (k := 0) C w rfl (by decide) (GF_wsX00 _) (by decide) rfl (List.mem_cons_of_mem _ gw_4_3) rfl dX0_reshape_17 hE (fun v1 e1 => ?_)
  refine w_gI (r := v1) (ci := 3) (k := 2) C w rfl (by decide) (GF_wsX20 _) (by decide) rfl (List.mem_cons_of_mem _ gw_21_15) rfl dX0_reshape_20 e1 (fun v2 e2 => ?_)
  refine lv_istore (lv' := [(5, .int v2), (0, .ref th), (1, .int x1), (2, .int x2), (3, .int x3), (4, .int x4)]) hx hb dX0_reshape_23 hl (by decide) rfl (fun ls hl => ?_)
  refine lv_iconst (v := 0) hx hb dX0_reshape_25 (by decide) ?_
  refine lv_istore (lv' := [(6, .int (0 : Int32)), (5, .int v2), (0, .ref th), (1, .int x1), (2, .int x2), (3, .int x3), (4, .int x4)]) hx hb dX0_reshape_26 hl (by decide) rfl (fun ls hl => ?_)
  exact b_Bench_reshape_28 C N n0 s0 hn0  N _ _ h th x1 x2 x3 x4 v2 (0 : Int32) _ _ ls w hsl (lv_sub hl [2, 3, 4, 5, 6, 1, 0] rfl) e2
set_option maxRecDepth 20000 in
set_option maxHeartbeats 4000000 in
theorem k_Bench_reshape (l : Launch) (D : va_G) (cy : cyT) (z : Nat) (N : Nat) (h : hS) (th : Nat) (x1 : Int32) (x2 : Int32) (x3 : Int32) (x4 : Int32) (r : Unit) (g : hS) (hE : f_Bench_reshape N h th x1 x2 x3 x4 = some (r, g)) : ct l yX0_reshape (Cond.code yX0_reshape cX0_reshape 8 (none) :: GW) { frames := 2, cells := h_x g - h_x h, slots := h_s g - h_s h, locals := 44 } D cy z h [.ref th, .int x1, .int x2, .int x3, .int x4] (rV r) g := by
  refine Met.ofW (cc := cX0_reshape) (maxL := 8) (ret := none) (by decide) rfl ?_
  intro p e s m args below meth c s₁ B hml hv
  obtain ⟨rfl, hw⟩ := hv
  have C : MX p s m ([.ref th, .int x1, .int x2, .int x3, .int x4] : List Value).toArray meth c cX0_reshape 8 (none) RX0 (Cond.code yX0_reshape cX0_reshape 8 (none) :: GW) := ⟨B.exec, B.bytes, B.returns, hml, findClass_of_methodNamed B.named, atoms_spec (ws := Cond.code yX0_reshape cX0_reshape 8 (none) :: GW) B.pre, B.notSynchronized⟩
  obtain ⟨hx, hb, hr, hml, hown, hts, hlk⟩ := id C
  have w := wd_of hw
  have hsl : h_s h = h_s h + 0 := rfl
  have hn0 : s.heap.size = h_x h := (wd_x w).1
  obtain ⟨ls, hen, hl⟩ : ∃ ls : Array Slot, entryFrame m ([.ref th, .int x1, .int x2, .int x3, .int x4] : List Value).toArray 8 = F0 m 0 ls [] ∧ lv_has ls 8 [(0, .ref th), (1, .int x1), (2, .int x2), (3, .int x3), (4, .int x4)] := by
    exact ⟨_, lg_entry_eq _ _ _, lv_entry _ (Nat.le_of_ble_eq_true rfl)⟩
  rw [hen]
  have hcc : 0 ≤ h_x g - h_x h ∧ 0 ≤ h_s g - h_s h := ⟨Nat.zero_le _, Nat.zero_le _⟩
  unfold f_Bench_reshape at hE
  refine lv_aload_n hx hb dX0_reshape_0 rfl (lv_at hl 0 rfl) ?_
  refine w_gR (r := some th) (ci := 1) (k := 1) C w rfl (by decide) (GF_wsX00 _) (by decide) rfl (List.mem_cons_of_mem _ gw_4_4) rfl dX0_reshape_1 hE (fun v1 e1 => ?_)
  refine lv_aload_n hx hb dX0_reshape_4 rfl (lv_at hl 0 rfl) ?_
  refine w_gR (r := some th) (ci := 1) (k := 0) C w rfl (by decide) (GF_wsX00 _) (by decide) rfl (List.mem_cons_of_mem _ gw_4_3) rfl dX0_reshape_5 e1 (fun v2 e2 => ?_)
  refine w_gI (r := v2) (ci := 3) (k := 0) C w rfl (by decide) (GF_wsX20 _) (by decide) rfl (List.mem_cons_of_mem _ gw_21_14) rfl dX0_reshape_8 e2 (fun v3 e3 => ?_)
  refine lv_iconst (v := 1) hx hb dX0_reshape_11 (by decide) ?_
  refine lv_iadd hx hb dX0_reshape_12 ?_
  refine w_VAV GW_good (n := 1) (F := 0) (Lc := 0) (o := v1) (av := [.int (v3 + (1 : Int32))]) (rest := []) C w rfl (by decide) (fun a r g hf => k_Curve_clear l D cy z N h a (v3 + (1 : Int32)) r g hf) gw_20_2 gw_20_3 gw_20_4 gw_2_22 gw_20_5 (by decide +kernel) ⟨Nat.le_of_ble_eq_true rfl, Nat.le_of_ble_eq_true rfl⟩ rfl hl.1 rfl (Nat.le_of_ble_eq_true rfl) dX0_reshape_13 (fun a => (mo_Curve_clear N h a (v3 + (1 : Int32)))) (fun a v4 h5 q1 q2 => by have u1 := (mo_Curve_clear N h a (v3 + (1 : Int32))) _ _ q1; have u2 := mo_Bench_reshape_16 N   h5 th x1 x2 x3 x4 _ _ q2; have u3 := wd_x w; have u4 := u1.1; have u5 := u1.2.1; have u6 := u2.1; have u7 := u2.2.1; show 0 + _ ≤ h_x g - (h_x h) ∧ 0 + _ ≤ h_s g - (h_s h); omega) e3 (fun v4 h5 H locs w hsh5 e4 => ?_)
  exact b_Bench_reshape_16 C N (h_x h) (h_s h) hn0   _ _ h5 th x1 x2 x3 x4 _ _ ls w (by have u5 := hsh5.2.1; have u8 := hsl; omega) (lv_sub hl [0, 1, 2, 3, 4] rfl) e4
set_option maxRecDepth 20000 in
set_option maxHeartbeats 4000000 in
theorem b_Keepsake_showOn_93 {p : Program} {l : Launch} {e : Env} {s : State} {m : MethodId} {args : Array Value} {below : List Frame} {meth : Method} {c : Code} {D : va_G} {cy : cyT} {z : Nat} (C : MX p s m args meth c cX3_showOn 7 (none) RX3 (Cond.code yX3_showOn cX3_showOn 7 (none) :: GW)) (N : Nat) (n0 s0 : Nat) (hn0 : s.heap.size = n0) {r : Unit} {g : hS} {rc15 : hS → Nat → Option Nat → Int32 → Int32 → Option (Unit × hS)} (hsh15 : ∀ (h : hS) (th : Nat) (a1 : Option Nat) (x2 : Int32) (x3 : Int32), Mo h (rc15 h th a1 x2 x3)) (hrc15 : ∀ (cells slots : Nat) (h : hS) (th : Nat) (a1 : Option Nat) (x2 : Int32) (x3 : Int32) (H : Heap) (locs : List Loc) (ls : Array Slot), wd D cy z s cells h H locs → h_s h = s0 + slots → lv_has ls 7 [(0, .ref th), (1, va_rf a1), (2, .int x2), (3, .int x3)] → rc15 h th a1 x2 x3 = some (r, g) → W p l e { frames := 2, cells := h_x g - n0, slots := h_s g - s0, locals := 43 } s m args below meth c H locs cells slots (MQ below (eQ D cy z (rV r) g) args s (h_x g - n0) (h_s g - s0) (fun q => z ≤ q)) (F0 m 15 ls [])) : ∀  (cells slots : Nat) (h : hS) (th : Nat) (a1 : Option Nat) (x3 : Int32) (y0 : Int32) (y1 : Int32) (H : Heap) (locs : List Loc) (ls : Array Slot), wd D cy z s cells h H locs → h_s h = s0 + slots → lv_has ls 7 [(0, .ref th), (1, va_rf a1), (3, .int x3)] → f_Keepsake_showOn_93 N rc15  h th a1 x3 y0 y1 = some (r, g) → W p l e { frames := 2, cells := h_x g - n0, slots := h_s g - s0, locals := 43 } s m args below meth c H locs cells slots (MQ below (eQ D cy z (rV r) g) args s (h_x g - n0) (h_s g - s0) (fun q => z ≤ q)) (F0 m 93 ls [.int y1, .int y0]) := by
  obtain ⟨hx, hb, hr, hml, hown, hts, hlk⟩ := id C
  intro cells slots h th a1 x3 y0 y1 H locs ls w hsl hl hE
  have hcc : cells ≤ h_x g - n0 ∧ slots ≤ h_s g - s0 := by
    have q1 := mo_Keepsake_showOn_93 N hsh15 h th a1 x3 y0 y1 _ _ hE
    have q2 := wd_x w
    have q3 := q1.1
    have q4 := q1.2.1
    omega
  unfold f_Keepsake_showOn_93 at hE
  refine lv_iadd hx hb dX3_showOn_93 ?_
  refine w_bnI hE (fun v1 e1 => ?_)
  refine lv_istore_n (lv' := [(2, .int v1), (0, .ref th), (1, va_rf a1), (3, .int x3)]) hx hb dX3_showOn_94 rfl hl (by decide) (by cases a1 <;> rfl) (fun ls hl => ?_)
  obtain ⟨v2, ev2, e2⟩ := bn_some e1
  refine lv_iinc (v := v2) (lv' := [(3, .int v2), (2, .int v1), (0, .ref th), (1, va_rf a1)]) hx hb dX3_showOn_95 hl (k := 3) rfl (by rw [ev2]; rfl) (by decide) rfl (fun ls hl => ?_)
  refine lv_goto (tgt := 15) hx hb dX3_showOn_98 (by decide) ?_
  exact hrc15 _ _ h th a1 v1 v2 _ _ ls w hsl (lv_sub hl [2, 3, 1, 0] rfl) e2
set_option maxRecDepth 20000 in
set_option maxHeartbeats 4000000 in
theorem b_Keepsake_showOn_79 {p : Program} {l : Launch} {e : Env} {s : State} {m : MethodId} {args : Array Value} {below : List Frame} {meth : Method} {c : Code} {D : va_G} {cy : cyT} {z : Nat} (C : MX p s m args meth c cX3_showOn 7 (none) RX3 (Cond.code yX3_showOn cX3_showOn 7 (none) :: GW)) (N : Nat) (n0 s0 : Nat) (hn0 : s.heap.size = n0) {r : Unit} {g : hS} {rc15 : hS → Nat → Option Nat → Int32 → Int32 → Option (Unit × hS)} (hsh15 : ∀ (h : hS) (th : Nat) (a1 : Option Nat) (x2 : Int32) (x3 : Int32), Mo h (rc15 h th a1 x2 x3)) (hrc15 : ∀ (cells slots : Nat) (h : hS) (th : Nat) (a1 : Option Nat) (x2 : Int32) (x3 : Int32) (H : Heap) (locs : List Loc) (ls : Array Slot), wd D cy z s cells h H locs → h_s h = s0 + slots → lv_has ls 7 [(0, .ref th), (1, va_rf a1), (2, .int x2), (3, .int x3)] → rc15 h th a1 x2 x3 = some (r, g) → W p l e { frames := 2, cells := h_x g - n0, slots := h_s g - s0, locals := 43 } s m args below meth c H locs cells slots (MQ below (eQ D cy z (rV r) g) args s (h_x g - n0) (h_s g - s0) (fun q => z ≤ q)) (F0 m 15 ls [])) : ∀  (cells slots : Nat) (h : hS) (th : Nat) (a1 : Option Nat) (x2 : Int32) (x3 : Int32) (x4 : Int64) (H : Heap) (locs : List Loc) (ls : Array Slot), wd D cy z s cells h H locs → h_s h = s0 + slots → lv_has ls 7 [(0, .ref th), (1, va_rf a1), (2, .int x2), (3, .int x3), (4, .long x4)] → f_Keepsake_showOn_79 N rc15  h th a1 x2 x3 x4 = some (r, g) → W p l e { frames := 2, cells := h_x g - n0, slots := h_s g - s0, locals := 43 } s m args below meth c H locs cells slots (MQ below (eQ D cy z (rV r) g) args s (h_x g - n0) (h_s g - s0) (fun q => z ≤ q)) (F0 m 79 ls []) := by
  obtain ⟨hx, hb, hr, hml, hown, hts, hlk⟩ := id C
  intro cells slots h th a1 x2 x3 x4 H locs ls w hsl hl hE
  have hcc : cells ≤ h_x g - n0 ∧ slots ≤ h_s g - s0 := by
    have q1 := mo_Keepsake_showOn_79 N hsh15 h th a1 x2 x3 x4 _ _ hE
    have q2 := wd_x w
    have q3 := q1.1
    have q4 := q1.2.1
    omega
  unfold f_Keepsake_showOn_79 at hE
  refine lv_iload_n hx hb dX3_showOn_79 rfl (lv_at hl 2 rfl) ?_
  refine lv_lload hx hb dX3_showOn_80 (lv_at hl 4 rfl) ?_
  refine lv_lconst (v := 0) hx hb dX3_showOn_82 (by decide) ?_
  refine W.lcmp hx hb dX3_showOn_83 ?_
  refine w_if_ne (tgt := 92) C dX3_showOn_84 (by decide) hE (fun hc e1 => ?_) (fun hc e1 => ?_)
  · refine lv_iconst (v := 0) hx hb dX3_showOn_92 (by decide) ?_
    exact b_Keepsake_showOn_93 C N n0 s0 hn0 hsh15 hrc15  _ _ h th a1 x3 x2 (0 : Int32) _ _ ls w hsl (lv_sub hl [0, 1, 3] rfl) e1
  · refine lv_bipush (v := 64) hx hb dX3_showOn_87 (by decide) ?_
    refine lv_goto (tgt := 93) hx hb dX3_showOn_89 (by decide) ?_
    exact b_Keepsake_showOn_93 C N n0 s0 hn0 hsh15 hrc15  _ _ h th a1 x3 x2 (64 : Int32) _ _ ls w hsl (lv_sub hl [0, 1, 3] rfl) e1
set_option maxRecDepth 20000 in
set_option maxHeartbeats 4000000 in
theorem b_Keepsake_showOn_73 {p : Program} {l : Launch} {e : Env} {s : State} {m : MethodId} {args : Array Value} {below : List Frame} {meth : Method} {c : Code} {D : va_G} {cy : cyT} {z : Nat} (C : MX p s m args meth c cX3_showOn 7 (none) RX3 (Cond.code yX3_showOn cX3_showOn 7 (none) :: GW)) (N : Nat) (n0 s0 : Nat) (hn0 : s.heap.size = n0) {r : Unit} {g : hS} {rc15 : hS → Nat → Option Nat → Int32 → Int32 → Option (Unit × hS)} (hsh15 : ∀ (h : hS) (th : Nat) (a1 : Option Nat) (x2 : Int32) (x3 : Int32), Mo h (rc15 h th a1 x2 x3)) (hrc15 : ∀ (cells slots : Nat) (h : hS) (th : Nat) (a1 : Option Nat) (x2 : Int32) (x3 : Int32) (H : Heap) (locs : List Loc) (ls : Array Slot), wd D cy z s cells h H locs → h_s h = s0 + slots → lv_has ls 7 [(0, .ref th), (1, va_rf a1), (2, .int x2), (3, .int x3)] → rc15 h th a1 x2 x3 = some (r, g) → W p l e { frames := 2, cells := h_x g - n0, slots := h_s g - s0, locals := 43 } s m args below meth c H locs cells slots (MQ below (eQ D cy z (rV r) g) args s (h_x g - n0) (h_s g - s0) (fun q => z ≤ q)) (F0 m 15 ls [])) {rc35 : hS → Nat → Option Nat → Int32 → Int32 → Int64 → Int32 → Option (Unit × hS)} (hsh35 : ∀ (h : hS) (th : Nat) (a1 : Option Nat) (x2 : Int32) (x3 : Int32) (x4 : Int64) (x6 : Int32), Mo h (rc35 h th a1 x2 x3 x4 x6)) (hrc35 : ∀ (cells slots : Nat) (h : hS) (th : Nat) (a1 : Option Nat) (x2 : Int32) (x3 : Int32) (x4 : Int64) (x6 : Int32) (H : Heap) (locs : List Loc) (ls : Array Slot), wd D cy z s cells h H locs → h_s h = s0 + slots → lv_has ls 7 [(0, .ref th), (1, va_rf a1), (2, .int x2), (3, .int x3), (4, .long x4), (6, .int x6)] → rc35 h th a1 x2 x3 x4 x6 = some (r, g) → W p l e { frames := 2, cells := h_x g - n0, slots := h_s g - s0, locals := 43 } s m args below meth c H locs cells slots (MQ below (eQ D cy z (rV r) g) args s (h_x g - n0) (h_s g - s0) (fun q => z ≤ q)) (F0 m 35 ls [])) : ∀  (cells slots : Nat) (h : hS) (th : Nat) (a1 : Option Nat) (x2 : Int32) (x3 : Int32) (x4 : Int64) (x6 : Int32) (H : Heap) (locs : List Loc) (ls : Array Slot), wd D cy z s cells h H locs → h_s h = s0 + slots → lv_has ls 7 [(0, .ref th), (1, va_rf a1), (2, .int x2), (3, .int x3), (4, .long x4), (6, .int x6)] → f_Keepsake_showOn_73 N rc15 rc35  h th a1 x2 x3 x4 x6 = some (r, g) → W p l e { frames := 2, cells := h_x g - n0, slots := h_s g - s0, locals := 43 } s m args below meth c H locs cells slots (MQ below (eQ D cy z (rV r) g) args s (h_x g - n0) (h_s g - s0) (fun q => z ≤ q)) (F0 m 73 ls []) := by
  obtain ⟨hx, hb, hr, hml, hown, hts, hlk⟩ := id C
  intro cells slots h th a1 x2 x3 x4 x6 H locs ls w hsl hl hE
  have hcc : cells ≤ h_x g - n0 ∧ slots ≤ h_s g - s0 := by
    have q1 := mo_Keepsake_showOn_73 N hsh15 hsh35 h th a1 x2 x3 x4 x6 _ _ hE
    have q2 := wd_x w
    have q3 := q1.1
    have q4 := q1.2.1
    omega
  unfold f_Keepsake_showOn_73 at hE
  obtain ⟨v1, ev1, e1⟩ := bn_some hE
  refine lv_iinc (v := v1) (lv' := [(6, .int v1), (0, .ref th), (1, va_rf a1), (2, .int x2), (3, .int x3), (4, .long x4)]) hx hb dX3_showOn_73 hl (k := 5) rfl (by rw [ev1]; rfl) (by decide) rfl (fun ls hl => ?_)
  refine lv_goto (tgt := 35) hx hb dX3_showOn_76 (by decide) ?_
  exact hrc35 _ _ h th a1 x2 x3 x4 v1 _ _ ls w hsl (lv_sub hl [1, 2, 3, 4, 5, 0] rfl) e1
set_option maxRecDepth 20000 in
set_option maxHeartbeats 4000000 in
theorem b_Keepsake_showOn_35 {p : Program} {l : Launch} {e : Env} {s : State} {m : MethodId} {args : Array Value} {below : List Frame} {meth : Method} {c : Code} {D : va_G} {cy : cyT} {z : Nat} (C : MX p s m args meth c cX3_showOn 7 (none) RX3 (Cond.code yX3_showOn cX3_showOn 7 (none) :: GW)) (N : Nat) (n0 s0 : Nat) (hn0 : s.heap.size = n0) {r : Unit} {g : hS} {rc15 : hS → Nat → Option Nat → Int32 → Int32 → Option (Unit × hS)} (hsh15 : ∀ (h : hS) (th : Nat) (a1 : Option Nat) (x2 : Int32) (x3 : Int32), Mo h (rc15 h th a1 x2 x3)) (hrc15 : ∀ (cells slots : Nat) (h : hS) (th : Nat) (a1 : Option Nat) (x2 : Int32) (x3 : Int32) (H : Heap) (locs : List Loc) (ls : Array Slot), wd D cy z s cells h H locs → h_s h = s0 + slots → lv_has ls 7 [(0, .ref th), (1, va_rf a1), (2, .int x2), (3, .int x3)] → rc15 h th a1 x2 x3 = some (r, g) → W p l e { frames := 2, cells := h_x g - n0, slots := h_s g - s0, locals := 43 } s m args below meth c H locs cells slots (MQ below (eQ D cy z (rV r) g) args s (h_x g - n0) (h_s g - s0) (fun q => z ≤ q)) (F0 m 15 ls [])) : ∀ (n : Nat) (cells slots : Nat) (h : hS) (th : Nat) (a1 : Option Nat) (x2 : Int32) (x3 : Int32) (x4 : Int64) (x6 : Int32) (H : Heap) (locs : List Loc) (ls : Array Slot), wd D cy z s cells h H locs → h_s h = s0 + slots → lv_has ls 7 [(0, .ref th), (1, va_rf a1), (2, .int x2), (3, .int x3), (4, .long x4), (6, .int x6)] → f_Keepsake_showOn_35 N rc15 n h th a1 x2 x3 x4 x6 = some (r, g) → W p l e { frames := 2, cells := h_x g - n0, slots := h_s g - s0, locals := 43 } s m args below meth c H locs cells slots (MQ below (eQ D cy z (rV r) g) args s (h_x g - n0) (h_s g - s0) (fun q => z ≤ q)) (F0 m 35 ls []) := by
  obtain ⟨hx, hb, hr, hml, hown, hts, hlk⟩ := id C
  intro n
  induction n with
  | zero =>
    intro cells slots h th a1 x2 x3 x4 x6 H locs ls w hsl hl hE
    cases hE
  | succ n ih =>
    intro cells slots h th a1 x2 x3 x4 x6 H locs ls w hsl hl hE
    have hcc : cells ≤ h_x g - n0 ∧ slots ≤ h_s g - s0 := by
      have q1 := mo_Keepsake_showOn_35 N hsh15 (n + 1) h th a1 x2 x3 x4 x6 _ _ hE
      have q2 := wd_x w
      have q3 := q1.1
      have q4 := q1.2.1
      omega
    unfold f_Keepsake_showOn_35 at hE
    refine lv_iload hx hb dX3_showOn_35 (lv_at hl 5 rfl) ?_
    refine lv_bipush (v := 64) hx hb dX3_showOn_37 (by decide) ?_
    refine w_icmp_ge (tgt := 79) C dX3_showOn_39 (by decide) hE (fun hc e1 => ?_) (fun hc e1 => ?_)
    · exact b_Keepsake_showOn_79 C N n0 s0 hn0 hsh15 hrc15  _ _ h th a1 x2 x3 x4 _ _ ls w hsl (lv_sub hl [0, 1, 2, 3, 4] rfl) e1
    · refine lv_lload hx hb dX3_showOn_42 (lv_at hl 4 rfl) ?_
      refine lv_lconst (v := 0) hx hb dX3_showOn_44 (by decide) ?_
      refine W.lcmp hx hb dX3_showOn_45 ?_
      refine w_if_eq (tgt := 79) C dX3_showOn_46 (by decide) e1 (fun hc e2 => ?_) (fun hc e2 => ?_)
      · exact b_Keepsake_showOn_79 C N n0 s0 hn0 hsh15 hrc15  _ _ h th a1 x2 x3 x4 _ _ ls w hsl (lv_sub hl [0, 1, 2, 3, 4] rfl) e2
      · refine lv_lload hx hb dX3_showOn_49 (lv_at hl 4 rfl) ?_
        refine lv_iload hx hb dX3_showOn_51 (lv_at hl 5 rfl) ?_
        refine lv_lushr hx hb dX3_showOn_53 rfl ?_
        refine lv_lconst (v := 1) hx hb dX3_showOn_54 (by decide) ?_
        refine lv_land hx hb dX3_showOn_55 ?_
        refine lv_lconst (v := 1) hx hb dX3_showOn_56 (by decide) ?_
        refine W.lcmp hx hb dX3_showOn_57 ?_
        refine w_if_ne (tgt := 70) C dX3_showOn_58 (by decide) e2 (fun hc e3 => ?_) (fun hc e3 => ?_)
        · obtain ⟨v1, ev1, e4⟩ := bn_some e3
          refine lv_iinc (v := v1) (lv' := [(2, .int v1), (0, .ref th), (1, va_rf a1), (3, .int x3), (4, .long x4), (6, .int x6)]) hx hb dX3_showOn_70 hl (k := 2) rfl (by rw [ev1]; rfl) (by decide) (by cases a1 <;> rfl) (fun ls hl => ?_)
          exact b_Keepsake_showOn_73 C N n0 s0 hn0 hsh15 hrc15 (mo_Keepsake_showOn_35 N hsh15 n) ih  _ _ h th a1 v1 x3 x4 x6 _ _ ls w hsl (lv_sub hl [1, 2, 0, 3, 4, 5] rfl) e4
        · refine w_aload_n C dX3_showOn_61 rfl (lv_at hl 1 rfl) ?_
          refine lv_iload_n hx hb dX3_showOn_62 rfl (lv_at hl 2 rfl) ?_
          refine lv_iconst (v := 1) hx hb dX3_showOn_63 (by decide) ?_
          refine w_VV GW_good (n := 2) (F := 1) (Lc := 21) (o := a1) (av := [.int x2, .int (1 : Int32)]) (rest := []) C w rfl (by decide) (fun a r g hf => k_Curve_append l D cy z N h a x2 (1 : Int32) r g hf) gw_23_0 gw_21_5 gw_21_6 gw_2_22 gw_21_7 (by decide +kernel) ⟨Nat.le_of_ble_eq_true rfl, Nat.le_of_ble_eq_true rfl⟩ rfl hl.1 rfl (Nat.le_of_ble_eq_true rfl) dX3_showOn_64 (fun a => (sh_Curve_append N h a x2 (1 : Int32))) ⟨hcc.1, hcc.2⟩ e3 (fun v2 h3 H locs w hsh3 e5 => ?_)
          have hsl := hsh3.2.2.2.trans hsl
          refine lv_goto (tgt := 73) hx hb dX3_showOn_67 (by decide) ?_
          exact b_Keepsake_showOn_73 C N n0 s0 hn0 hsh15 hrc15 (mo_Keepsake_showOn_35 N hsh15 n) ih  _ _ h3 th a1 x2 x3 x4 x6 _ _ ls w hsl (lv_sub hl [0, 1, 2, 3, 4, 5] rfl) e5
set_option maxRecDepth 20000 in
set_option maxHeartbeats 4000000 in
theorem b_Keepsake_showOn_15 {p : Program} {l : Launch} {e : Env} {s : State} {m : MethodId} {args : Array Value} {below : List Frame} {meth : Method} {c : Code} {D : va_G} {cy : cyT} {z : Nat} (C : MX p s m args meth c cX3_showOn 7 (none) RX3 (Cond.code yX3_showOn cX3_showOn 7 (none) :: GW)) (N : Nat) (n0 s0 : Nat) (hn0 : s.heap.size = n0) {r : Unit} {g : hS}  : ∀ (n : Nat) (cells slots : Nat) (h : hS) (th : Nat) (a1 : Option Nat) (x2 : Int32) (x3 : Int32) (H : Heap) (locs : List Loc) (ls : Array Slot), wd D cy z s cells h H locs → h_s h = s0 + slots → lv_has ls 7 [(0, .ref th), (1, va_rf a1), (2, .int x2), (3, .int x3)] → f_Keepsake_showOn_15 N  n h th a1 x2 x3 = some (r, g) → W p l e { frames := 2, cells := h_x g - n0, slots := h_s g - s0, locals := 43 } s m args below meth c H locs cells slots (MQ below (eQ D cy z (rV r) g) args s (h_x g - n0) (h_s g - s0) (fun q => z ≤ q)) (F0 m 15 ls []) := by
  obtain ⟨hx, hb, hr, hml, hown, hts, hlk⟩ := id C
  intro n
  induction n with
  | zero =>
    intro cells slots h th a1 x2 x3 H locs ls w hsl hl hE
    cases hE
  | succ n ih =>
    intro cells slots h th a1 x2 x3 H locs ls w hsl hl hE
    have hcc : cells ≤ h_x g - n0 ∧ slots ≤ h_s g - s0 := by
      have q1 := mo_Keepsake_showOn_15 N  (n + 1) h th a1 x2 x3 _ _ hE
      have q2 := wd_x w
      have q3 := q1.1
      have q4 := q1.2.1
      omega
    unfold f_Keepsake_showOn_15 at hE
    refine lv_iload_n hx hb dX3_showOn_15 rfl (lv_at hl 3 rfl) ?_
    refine lv_aload_n hx hb dX3_showOn_16 rfl (lv_at hl 0 rfl) ?_
    refine w_gR (r := some th) (ci := 4) (k := 4) C w rfl (by decide) (GF_wsX30 _) (by decide) rfl (List.mem_cons_of_mem _ gw_18_23) rfl dX3_showOn_17 hE (fun v1 e1 => ?_)
    refine w_lenJ (r := v1) C w dX3_showOn_20 e1 (fun v2 e2 => ?_)
    refine w_icmp_ge (tgt := 101) C dX3_showOn_21 (by decide) e2 (fun hc e3 => ?_) (fun hc e3 => ?_)
    · refine w_aload_n C dX3_showOn_101 rfl (lv_at hl 1 rfl) ?_
      refine lv_aload_n hx hb dX3_showOn_102 rfl (lv_at hl 0 rfl) ?_
      refine w_gI (r := some th) (ci := 4) (k := 2) C w rfl (by decide) (GF_wsX30 _) (by decide) rfl (List.mem_cons_of_mem _ gw_17_22) rfl dX3_showOn_103 e3 (fun v3 e4 => ?_)
      refine w_pI (r := a1) (ci := 3) (k := 2) C w rfl (by decide) (by unfold roK; omega) (GF_wsX20 _) tyX2 tyX2_ok nmX2 (by decide) rfl (List.mem_cons_of_mem _ gw_17_23) rfl rfl (tyX2_ok 2 (by decide)) dX3_showOn_106 e4 (fun h4 H locs w hsh4 e5 => ?_)
      have hsl := hsh4.2.2.2.trans hsl
      refine w_aload_n C dX3_showOn_109 rfl (lv_at hl 1 rfl) ?_
      refine lv_aload_n hx hb dX3_showOn_110 rfl (lv_at hl 0 rfl) ?_
      refine w_gJ (r := some th) (ci := 4) (k := 3) C w rfl (by decide) (GF_wsX30 _) (by decide) rfl (List.mem_cons_of_mem _ gw_18_0) rfl dX3_showOn_111 e5 (fun v5 e6 => ?_)
      refine w_pJ (r := a1) (ci := 3) (k := 4) C w rfl (by decide) (by unfold roK; omega) (GF_wsX20 _) tyX2 tyX2_ok nmX2 (by decide) rfl (List.mem_cons_of_mem _ gw_18_1) rfl rfl (tyX2_ok 4 (by decide)) dX3_showOn_114 e6 (fun h6 H locs w hsh6 e7 => ?_)
      have hsl := hsh6.2.2.2.trans hsl
      refine W.widen (k := h_x g - n0) (n := h_s g - s0) hcc.1 hcc.2 ?_
      exact w_vret C w e7 dX3_showOn_117
    · refine lv_aload_n hx hb dX3_showOn_24 rfl (lv_at hl 0 rfl) ?_
      refine w_gR (r := some th) (ci := 4) (k := 4) C w rfl (by decide) (GF_wsX30 _) (by decide) rfl (List.mem_cons_of_mem _ gw_18_23) rfl dX3_showOn_25 e3 (fun v7 e8 => ?_)
      refine lv_iload_n hx hb dX3_showOn_28 rfl (lv_at hl 3 rfl) ?_
      refine w_aJ (r := v7) C w dX3_showOn_29 e8 (fun v8 e9 => ?_)
      refine lv_lstore (lv' := [(4, .long v8), (0, .ref th), (1, va_rf a1), (2, .int x2), (3, .int x3)]) hx hb dX3_showOn_30 hl (by decide) rfl (fun ls hl => ?_)
      refine lv_iconst (v := 0) hx hb dX3_showOn_32 (by decide) ?_
      refine lv_istore (lv' := [(6, .int (0 : Int32)), (4, .long v8), (0, .ref th), (1, va_rf a1), (2, .int x2), (3, .int x3)]) hx hb dX3_showOn_33 hl (by decide) rfl (fun ls hl => ?_)
      exact b_Keepsake_showOn_35 C N n0 s0 hn0 (mo_Keepsake_showOn_15 N  n) ih N _ _ h th a1 x2 x3 v8 (0 : Int32) _ _ ls w hsl (lv_sub hl [2, 3, 4, 5, 1, 0] rfl) e9
set_option maxRecDepth 20000 in
set_option maxHeartbeats 4000000 in
theorem b_Keepsake_showOn_8 {p : Program} {l : Launch} {e : Env} {s : State} {m : MethodId} {args : Array Value} {below : List Frame} {meth : Method} {c : Code} {D : va_G} {cy : cyT} {z : Nat} (C : MX p s m args meth c cX3_showOn 7 (none) RX3 (Cond.code yX3_showOn cX3_showOn 7 (none) :: GW)) (N : Nat) (n0 s0 : Nat) (hn0 : s.heap.size = n0) {r : Unit} {g : hS}  : ∀  (cells slots : Nat) (h : hS) (th : Nat) (a1 : Option Nat) (H : Heap) (locs : List Loc) (ls : Array Slot), wd D cy z s cells h H locs → h_s h = s0 + slots → lv_has ls 7 [(0, .ref th), (1, va_rf a1)] → f_Keepsake_showOn_8 N   h th a1 = some (r, g) → W p l e { frames := 2, cells := h_x g - n0, slots := h_s g - s0, locals := 43 } s m args below meth c H locs cells slots (MQ below (eQ D cy z (rV r) g) args s (h_x g - n0) (h_s g - s0) (fun q => z ≤ q)) (F0 m 8 ls []) := by
  obtain ⟨hx, hb, hr, hml, hown, hts, hlk⟩ := id C
  intro cells slots h th a1 H locs ls w hsl hl hE
  have hcc : cells ≤ h_x g - n0 ∧ slots ≤ h_s g - s0 := by
    have q1 := mo_Keepsake_showOn_8 N  h th a1 _ _ hE
    have q2 := wd_x w
    have q3 := q1.1
    have q4 := q1.2.1
    omega
  unfold f_Keepsake_showOn_8 at hE
  refine lv_aload_n hx hb dX3_showOn_8 rfl (lv_at hl 0 rfl) ?_
  refine w_gI (r := some th) (ci := 4) (k := 1) C w rfl (by decide) (GF_wsX30 _) (by decide) rfl (List.mem_cons_of_mem _ gw_17_21) rfl dX3_showOn_9 hE (fun v1 e1 => ?_)
  refine lv_istore_n (lv' := [(2, .int v1), (0, .ref th), (1, va_rf a1)]) hx hb dX3_showOn_12 rfl hl (by decide) (by cases a1 <;> rfl) (fun ls hl => ?_)
  refine lv_iconst (v := 0) hx hb dX3_showOn_13 (by decide) ?_
  refine lv_istore_n (lv' := [(3, .int (0 : Int32)), (2, .int v1), (0, .ref th), (1, va_rf a1)]) hx hb dX3_showOn_14 rfl hl (by decide) rfl (fun ls hl => ?_)
  exact b_Keepsake_showOn_15 C N n0 s0 hn0  N _ _ h th a1 v1 (0 : Int32) _ _ ls w hsl (lv_sub hl [2, 3, 1, 0] rfl) e1
set_option maxRecDepth 20000 in
set_option maxHeartbeats 4000000 in
theorem k_Keepsake_showOn (l : Launch) (D : va_G) (cy : cyT) (z : Nat) (N : Nat) (h : hS) (th : Nat) (a1 : Option Nat) (r : Unit) (g : hS) (hE : f_Keepsake_showOn N h th a1 = some (r, g)) : ct l yX3_showOn (Cond.code yX3_showOn cX3_showOn 7 (none) :: GW) { frames := 2, cells := h_x g - h_x h, slots := h_s g - h_s h, locals := 43 } D cy z h [.ref th, va_rf a1] (rV r) g := by
  refine Met.ofW (cc := cX3_showOn) (maxL := 7) (ret := none) (by decide) rfl ?_
  intro p e s m args below meth c s₁ B hml hv
  obtain ⟨rfl, hw⟩ := hv
  have C : MX p s m ([.ref th, va_rf a1] : List Value).toArray meth c cX3_showOn 7 (none) RX3 (Cond.code yX3_showOn cX3_showOn 7 (none) :: GW) := ⟨B.exec, B.bytes, B.returns, hml, findClass_of_methodNamed B.named, atoms_spec (ws := Cond.code yX3_showOn cX3_showOn 7 (none) :: GW) B.pre, B.notSynchronized⟩
  obtain ⟨hx, hb, hr, hml, hown, hts, hlk⟩ := id C
  have w := wd_of hw
  have hsl : h_s h = h_s h + 0 := rfl
  have hn0 : s.heap.size = h_x h := (wd_x w).1
  obtain ⟨ls, hen, hl⟩ : ∃ ls : Array Slot, entryFrame m ([.ref th, va_rf a1] : List Value).toArray 7 = F0 m 0 ls [] ∧ lv_has ls 7 [(0, .ref th), (1, va_rf a1)] := by
    cases a1 <;> exact ⟨_, lg_entry_eq _ _ _, lv_entry _ (Nat.le_of_ble_eq_true rfl)⟩
  rw [hen]
  have hcc : 0 ≤ h_x g - h_x h ∧ 0 ≤ h_s g - h_s h := ⟨Nat.zero_le _, Nat.zero_le _⟩
  unfold f_Keepsake_showOn at hE
  refine w_aload_n C dX3_showOn_0 rfl (lv_at hl 1 rfl) ?_
  refine lv_aload_n hx hb dX3_showOn_1 rfl (lv_at hl 0 rfl) ?_
  refine w_gI (r := some th) (ci := 4) (k := 0) C w rfl (by decide) (GF_wsX30 _) (by decide) rfl (List.mem_cons_of_mem _ gw_18_22) rfl dX3_showOn_2 hE (fun v1 e1 => ?_)
  refine w_VAV GW_good (n := 1) (F := 0) (Lc := 0) (o := a1) (av := [.int v1]) (rest := []) C w rfl (by decide) (fun a r g hf => k_Curve_clear l D cy z N h a v1 r g hf) gw_22_23 gw_20_3 gw_20_4 gw_2_22 gw_20_5 (by decide +kernel) ⟨Nat.le_of_ble_eq_true rfl, Nat.le_of_ble_eq_true rfl⟩ rfl hl.1 rfl (Nat.le_of_ble_eq_true rfl) dX3_showOn_5 (fun a => (mo_Curve_clear N h a v1)) (fun a v2 h3 q1 q2 => by have u1 := (mo_Curve_clear N h a v1) _ _ q1; have u2 := mo_Keepsake_showOn_8 N   h3 th a1 _ _ q2; have u3 := wd_x w; have u4 := u1.1; have u5 := u1.2.1; have u6 := u2.1; have u7 := u2.2.1; show 0 + _ ≤ h_x g - (h_x h) ∧ 0 + _ ≤ h_s g - (h_s h); omega) e1 (fun v2 h3 H locs w hsh3 e2 => ?_)
  exact b_Keepsake_showOn_8 C N (h_x h) (h_s h) hn0   _ _ h3 th a1 _ _ ls w (by have u5 := hsh3.2.1; have u8 := hsl; omega) (lv_sub hl [0, 1] rfl) e2
