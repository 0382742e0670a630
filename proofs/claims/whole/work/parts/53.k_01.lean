def f_Bench_apply_68 (N : Nat)  (h : hS) (y0 : Int32) : Option (Int32 × hS) := bz y0 (some (y0, h))
def f_Bench_apply_64 (N : Nat)  (h : hS) (th : Nat) : Option (Int32 × hS) := cv h (some th) 1 (fun a => f_Bench_add N h a ) fun v1 h2 => f_Bench_apply_68 N   h2 v1
def f_Bench_apply_83 (N : Nat)  (h : hS) (y0 : Int32) : Option (Int32 × hS) := bz y0 (some (y0, h))
def f_Bench_apply_79 (N : Nat)  (h : hS) (th : Nat) : Option (Int32 × hS) := cv h (some th) 1 (fun a => f_Bench_add N h a ) fun v1 h2 => f_Bench_apply_83 N   h2 v1
def f_Bench_apply_98 (N : Nat)  (h : hS) (y0 : Int32) : Option (Int32 × hS) := bz y0 (some (y0, h))
def f_Bench_apply_94 (N : Nat)  (h : hS) (th : Nat) : Option (Int32 × hS) := cv h (some th) 1 (fun a => f_Bench_add N h a ) fun v1 h2 => f_Bench_apply_98 N   h2 v1
def f_Bench_apply_195 (N : Nat)  (h : hS) (y0 : Int32) : Option (Int32 × hS) := bz y0 (some (y0, h))
def f_Bench_apply_180 (N : Nat)  (h : hS) (th : Nat) : Option (Int32 × hS) := gR h (some th) 1 0 fun v1 => cv h v1 3 (fun a => f_Curve_isTooMuch N h a ) fun v2 h3 => if v2 = (0 : Int32) then (f_Bench_apply_195 N   h3 (1 : Int32)) else (f_Bench_apply_195 N   h3 (0 : Int32))
def f_Bench_apply_108 (N : Nat)  (h : hS) (th : Nat) : Option (Int32 × hS) := f_Bench_apply_180 N   h th
def f_Bench_apply_119 (N : Nat)  (h : hS) (th : Nat) : Option (Int32 × hS) := f_Bench_apply_180 N   h th
def f_Bench_apply_130 (N : Nat)  (h : hS) (th : Nat) : Option (Int32 × hS) := f_Bench_apply_180 N   h th
def f_Bench_apply_141 (N : Nat)  (h : hS) (th : Nat) : Option (Int32 × hS) := f_Bench_apply_180 N   h th
def f_Bench_apply_179 (N : Nat)  (h : hS) (y0 : Int32) : Option (Int32 × hS) := bz y0 (some (y0, h))
def f_Bench_apply_175 (N : Nat)  (h : hS) (th : Nat) : Option (Int32 × hS) := cv h (some th) 1 (fun a => f_Bench_add N h a ) fun v1 h2 => f_Bench_apply_179 N   h2 v1
def f_Bench_apply (N : Nat) (h : hS) (th : Nat) (x1 : Int32) (x2 : Int32) (x3 : Int32) (a4 : Option Nat) : Option (Int32 × hS) := if x1 = (0 : Int32) then (gR h (some th) 1 3 fun v1 => cv h v1 3 (fun a => f_Curve_becomeKink N h a x2 ((2 : Int32) * x3) x3) fun _ h3 => f_Bench_apply_64 N   h3 th) else (if x1 = (1 : Int32) then (gR h (some th) 1 3 fun v4 => cv h v4 3 (fun a => f_Curve_becomeKink N h a x2 x3 (0 : Int32)) fun _ h6 => f_Bench_apply_79 N   h6 th) else (if x1 = (2 : Int32) then (gR h (some th) 1 3 fun v7 => cv h v7 3 (fun a => f_Curve_becomeKink N h a x2 x3 x3) fun _ h9 => f_Bench_apply_94 N   h9 th) else (if x1 = (3 : Int32) then (cv h (some th) 1 (fun a => f_Bench_reshape N h a (1 : Int32) (1 : Int32) (-x2) x2) fun _ h11 => f_Bench_apply_108 N   h11 th) else (if x1 = (4 : Int32) then (cv h (some th) 1 (fun a => f_Bench_reshape N h a (1 : Int32) (1 : Int32) x2 x3) fun _ h13 => f_Bench_apply_119 N   h13 th) else (if x1 = (5 : Int32) then (cv h (some th) 1 (fun a => f_Bench_reshape N h a (1 : Int32) (0 : Int32) (0 : Int32) (0 : Int32)) fun _ h15 => f_Bench_apply_130 N   h15 th) else (if x1 = (6 : Int32) then (cv h (some th) 1 (fun a => f_Bench_reshape N h a (0 : Int32) (1 : Int32) (0 : Int32) (0 : Int32)) fun _ h17 => f_Bench_apply_141 N   h17 th) else (if x1 = (7 : Int32) then (gR h (some th) 1 0 fun v18 => gJ h v18 3 4 fun v19 => pJ h v18 3 4 (v19 + x2.toInt64) fun h20 => f_Bench_apply_180 N   h20 th) else (if x1 = (8 : Int32) then (if a4 = none then (f_Bench_apply_180 N   h th) else (gR h (some th) 1 3 fun v21 => cv h a4 4 (fun a => f_Keepsake_showOn N h a v21) fun _ h23 => f_Bench_apply_175 N   h23 th)) else (f_Bench_apply_180 N   h th)))))))))
def f_Bench_applyStep_32 (N : Nat)  (h : hS) (y0 : Int32) : Option (Int32 × hS) := bz y0 (some (y0, h))
def f_Bench_applyStep_31 (N : Nat)  (h : hS)  : Option (Int32 × hS) := f_Bench_applyStep_32 N   h (0 : Int32)
def f_Bench_applyStep_24 (N : Nat)  (h : hS) (y0 : Int32) : Option (Int32 × hS) := if y0 = (0 : Int32) then (f_Bench_applyStep_31 N   h ) else (f_Bench_applyStep_32 N   h (1 : Int32))
def f_Bench_applyStep (N : Nat) (h : hS) (th : Nat) (a1 : Option Nat) : Option (Int32 × hS) := if a1 = none then (f_Bench_applyStep_31 N   h ) else (gI h a1 8 0 fun v1 => gI h a1 8 1 fun v2 => gI h a1 8 2 fun v3 => gR h a1 8 3 fun v4 => cv h (some th) 1 (fun a => f_Bench_apply N h a v1 v2 v3 v4) fun v5 h6 => f_Bench_applyStep_24 N   h6 v5)
def f_Bench_build_28 (N : Nat) (rc11 : hS → Nat → Option Nat → Int32 → Option (Int32 × hS)) (h : hS) (th : Nat) (a1 : Option Nat) (x2 : Int32) (y0 : Int32) : Option (Int32 × hS) := if y0 = (0 : Int32) then (pI h (some th) 1 4 x2 fun h2 => bz (0 : Int32) (some ((0 : Int32), h2))) else (bn (x2 + (1 : Int32)) fun v1 => rc11 h th a1 v1)
def f_Bench_build_11 (N : Nat)  : Nat → hS → Nat → Option Nat → Int32 → Option (Int32 × hS)
  | 0 => fun _ _ _ _ => none
  | n + 1 => fun h th a1 x2 => gI h a1 2 1 fun v1 => if v1 ≤ x2 then (bz (1 : Int32) (some ((1 : Int32), h))) else (cv h a1 2 (fun a => f_Chain_stepAt N h a x2) fun v2 h3 => cv h3 (some th) 1 (fun a => f_Bench_applyStep N h3 a v2) fun v4 h5 => f_Bench_build_28 N (f_Bench_build_11 N  n)  h5 th a1 x2 v4)
def f_Bench_build_9 (N : Nat)  (h : hS) (th : Nat) (a1 : Option Nat) : Option (Int32 × hS) := f_Bench_build_11 N  N h th a1 (0 : Int32)
def f_Bench_build (N : Nat) (h : hS) (th : Nat) (a1 : Option Nat) : Option (Int32 × hS) := pI h (some th) 1 4 (-1 : Int32) fun h1 => cv h1 (some th) 1 (fun a => f_Bench_startAnew N h1 a ) fun _ h3 => f_Bench_build_9 N   h3 th a1
def f_Bench_standAhead_46 (N : Nat)  (h : hS)  : Option (Unit × hS) := some ((), h)
def f_Bench_standAhead_35 (N : Nat)  (h : hS) (th : Nat) : Option (Unit × hS) := gR h (some th) 1 2 fun v1 => gR h (some th) 1 0 fun v2 => cv h v1 3 (fun a => f_Curve_take N h a v2) fun _ h4 => f_Bench_standAhead_46 N   h4 
def f_Bench_standAhead_28 (N : Nat) (rc6 : hS → Nat → Option Nat → Int32 → Int32 → Option (Unit × hS)) (h : hS) (th : Nat) (a1 : Option Nat) (x2 : Int32) (x3 : Int32) (y0 : Int32) : Option (Unit × hS) := bn (x3 + (1 : Int32)) fun v1 => rc6 h th a1 x2 v1
def f_Bench_standAhead_6 (N : Nat)  : Nat → hS → Nat → Option Nat → Int32 → Int32 → Option (Unit × hS)
  | 0 => fun _ _ _ _ _ => none
  | n + 1 => fun h th a1 x2 x3 => if x2 ≤ x3 then (f_Bench_standAhead_35 N   h th) else (gI h a1 2 1 fun v1 => if v1 ≤ x3 then (f_Bench_standAhead_35 N   h th) else (cv h a1 2 (fun a => f_Chain_stepAt N h a x3) fun v2 h3 => cv h3 (some th) 1 (fun a => f_Bench_applyStep N h3 a v2) fun v4 h5 => f_Bench_standAhead_28 N (f_Bench_standAhead_6 N  n)  h5 th a1 x2 x3 v4))
def f_Bench_standAhead_4 (N : Nat)  (h : hS) (th : Nat) (a1 : Option Nat) (x2 : Int32) : Option (Unit × hS) := f_Bench_standAhead_6 N  N h th a1 x2 (0 : Int32)
def f_Bench_standAhead (N : Nat) (h : hS) (th : Nat) (a1 : Option Nat) (x2 : Int32) : Option (Unit × hS) := cv h (some th) 1 (fun a => f_Bench_startAnew N h a ) fun _ h2 => f_Bench_standAhead_4 N   h2 th a1 x2
def f_Bench_goThrough_75 (N : Nat) (rc56 : hS → Nat → Option Nat → Int32 → Option (Int32 × hS)) (h : hS) (th : Nat) (a1 : Option Nat) (x5 : Int32) (y0 : Int32) : Option (Int32 × hS) := if y0 = (0 : Int32) then (bz (0 : Int32) (some ((0 : Int32), h))) else (bn (x5 + (1 : Int32)) fun v1 => rc56 h th a1 v1)
def f_Bench_goThrough_56 (N : Nat)  : Nat → hS → Nat → Option Nat → Int32 → Option (Int32 × hS)
  | 0 => fun _ _ _ _ => none
  | n + 1 => fun h th a1 x5 => gI h a1 2 1 fun v1 => if v1 ≤ x5 then (bz (1 : Int32) (some ((1 : Int32), h))) else (cv h a1 2 (fun a => f_Chain_stepAt N h a x5) fun v2 h3 => cv h3 (some th) 1 (fun a => f_Bench_applyStep N h3 a v2) fun v4 h5 => f_Bench_goThrough_75 N (f_Bench_goThrough_56 N  n)  h5 th a1 x5 v4)
def f_Bench_goThrough_51 (N : Nat)  (h : hS) (th : Nat) (a1 : Option Nat) (x2 : Int32) : Option (Int32 × hS) := bn ((x2 + (1 : Int32))) fun v1 => f_Bench_goThrough_56 N  N h th a1 v1
def f_Bench_goThrough_46 (N : Nat)  (h : hS) (th : Nat) (a1 : Option Nat) (x2 : Int32) (y0 : Int32) : Option (Int32 × hS) := if y0 = (0 : Int32) then (bz (0 : Int32) (some ((0 : Int32), h))) else (f_Bench_goThrough_51 N   h th a1 x2)
def f_Bench_goThrough_11 (N : Nat)  (h : hS) (th : Nat) (a1 : Option Nat) (x2 : Int32) (x3 : Int32) : Option (Int32 × hS) := cv h a1 2 (fun a => f_Chain_stepAt N h a x2) fun v1 h2 => if v1 = none then (bz (0 : Int32) (some ((0 : Int32), h2))) else (if x3 = (-1 : Int32) then (f_Bench_goThrough_51 N   h2 th a1 x2) else (gI h2 v1 8 0 fun v3 => gI h2 v1 8 1 fun v4 => cv h2 (some th) 1 (fun a => f_Bench_apply N h2 a v3 v4 x3 none) fun v5 h6 => f_Bench_goThrough_46 N   h6 th a1 x2 v5))
def f_Bench_goThrough (N : Nat) (h : hS) (th : Nat) (a1 : Option Nat) (x2 : Int32) (x3 : Int32) : Option (Int32 × hS) := gR h (some th) 1 0 fun v1 => gR h (some th) 1 2 fun v2 => cv h v1 3 (fun a => f_Curve_take N h a v2) fun _ h4 => f_Bench_goThrough_11 N   h4 th a1 x2 x3
def f_Bench_costOnTop_14 (N : Nat)  (h : hS) (th : Nat) (x2 : Int32) : Option (Int64 × hS) := gR h (some th) 1 3 fun v1 => cv h v1 3 (fun a => f_Curve_valueAt N h a x2) fun v2 h3 => some (v2, h3)
def f_Bench_costOnTop (N : Nat) (h : hS) (th : Nat) (a1 : Option Nat) (x2 : Int32) : Option (Int64 × hS) := if a1 = none then (some ((0 : Int64), h)) else (gR h (some th) 1 3 fun v1 => cv h a1 4 (fun a => f_Keepsake_showOn N h a v1) fun _ h3 => f_Bench_costOnTop_14 N   h3 th x2)
def f_Bench_costBy_125 (N : Nat)  (h : hS)  : Option (Int64 × hS) := some ((0 : Int64), h)
def f_Bench_costBy_124 (N : Nat)  (h : hS) (y0 : Int64) : Option (Int64 × hS) := some (y0, h)
def f_Bench_costBy (N : Nat) (h : hS) (th : Nat) (a1 : Option Nat) (x2 : Int32) : Option (Int64 × hS) := gI h a1 8 0 fun v1 => if v1 = (0 : Int32) then (gI h a1 8 2 fun v2 => gI h a1 8 1 fun v3 => some ((v2.toInt64 * ((jab (x2 - v3)).toInt64)), h)) else (if v1 = (1 : Int32) then (gI h a1 8 2 fun v4 => gI h a1 8 1 fun v5 => some ((v4.toInt64 * ((jmx (x2 - v5) (0 : Int32)).toInt64)), h)) else (if v1 = (2 : Int32) then (gI h a1 8 2 fun v6 => gI h a1 8 1 fun v7 => some ((v6.toInt64 * ((jmx (v7 - x2) (0 : Int32)).toInt64)), h)) else (if v1 = (3 : Int32) then (f_Bench_costBy_125 N   h ) else (if v1 = (4 : Int32) then (f_Bench_costBy_125 N   h ) else (if v1 = (5 : Int32) then (f_Bench_costBy_125 N   h ) else (if v1 = (6 : Int32) then (f_Bench_costBy_125 N   h ) else (if v1 = (7 : Int32) then (gI h a1 8 1 fun v8 => some (v8.toInt64, h)) else (if v1 = (8 : Int32) then (gR h a1 8 3 fun v9 => cv h (some th) 1 (fun a => f_Bench_costOnTop N h a v9 x2) fun v10 h11 => f_Bench_costBy_124 N   h11 v10) else (f_Bench_costBy_125 N   h )))))))))
def f_Bench_applyIfNotTooMuch_33 (N : Nat)  (h : hS)  : Option (Unit × hS) := some ((), h)
def f_Bench_applyIfNotTooMuch_19 (N : Nat)  (h : hS) (th : Nat) (y0 : Int32) : Option (Unit × hS) := if y0 = (0 : Int32) then (gR h (some th) 1 0 fun v1 => gR h (some th) 1 2 fun v2 => cv h v1 3 (fun a => f_Curve_take N h a v2) fun _ h4 => f_Bench_applyIfNotTooMuch_33 N   h4 ) else (f_Bench_applyIfNotTooMuch_33 N   h )
def f_Bench_applyIfNotTooMuch_11 (N : Nat)  (h : hS) (th : Nat) (x1 : Int32) (x2 : Int32) (x3 : Int32) : Option (Unit × hS) := cv h (some th) 1 (fun a => f_Bench_apply N h a x1 x2 x3 none) fun v1 h2 => f_Bench_applyIfNotTooMuch_19 N   h2 th v1
def f_Bench_applyIfNotTooMuch (N : Nat) (h : hS) (th : Nat) (x1 : Int32) (x2 : Int32) (x3 : Int32) : Option (Unit × hS) := gR h (some th) 1 2 fun v1 => gR h (some th) 1 0 fun v2 => cv h v1 3 (fun a => f_Curve_take N h a v2) fun _ h4 => f_Bench_applyIfNotTooMuch_11 N   h4 th x1 x2 x3
def f_Chain_init_9 (N : Nat)  (h : hS) (th : Nat) (y0 : Option Nat) (y1 : Option Nat) : Option (Unit × hS) := pR h y0 2 0 y1 fun h1 => pI h1 (some th) 2 1 (0 : Int32) fun h2 => some ((), h2)
def f_Chain_init (N : Nat) (h : hS) (th : Nat) : Option (Unit × hS) := nwA h 64 (0 : Int32) fun q1 h2 => f_Chain_init_9 N   h2 th (some th) (some q1)
def f_Chain_clear (N : Nat) (h : hS) (th : Nat) : Option (Unit × hS) := pI h (some th) 2 1 (0 : Int32) fun h1 => some ((), h1)
def f_Chain_makeRoom_19 (N : Nat)  (h : hS)  : Option (Unit × hS) := some ((), h)
def f_Chain_makeRoom_60 (N : Nat)  (h : hS) (th : Nat) (a2 : Option Nat) : Option (Unit × hS) := pR h (some th) 2 0 a2 fun h1 => some ((), h1)
def f_Chain_makeRoom_28 (N : Nat)  : Nat → hS → Nat → Option Nat → Int32 → Option (Unit × hS)
  | 0 => fun _ _ _ _ => none
  | n + 1 => fun h th a2 x3 => gI h (some th) 2 1 fun v1 => if v1 ≤ x3 then (f_Chain_makeRoom_60 N   h th a2) else (gR h (some th) 2 0 fun v2 => lnA h 64 v2 fun v3 => if v3 ≤ x3 then (f_Chain_makeRoom_60 N   h th a2) else (gR h (some th) 2 0 fun v4 => aR h 64 v4 x3 fun v5 => uR h 64 8 a2 x3 v5 fun h6 => bn (x3 + (1 : Int32)) fun v7 => f_Chain_makeRoom_28 N  n h6 th a2 v7))
def f_Chain_makeRoom_25 (N : Nat)  (h : hS) (th : Nat) (y0 : Option Nat) : Option (Unit × hS) := f_Chain_makeRoom_28 N  N h th y0 (0 : Int32)
def f_Chain_makeRoom (N : Nat) (h : hS) (th : Nat) (x1 : Int32) : Option (Unit × hS) := gR h (some th) 2 0 fun v1 => lnA h 64 v1 fun v2 => if x1 ≤ v2 then (f_Chain_makeRoom_19 N   h ) else (gR h (some th) 2 0 fun v3 => lnA h 64 v3 fun v4 => if v4 < (40 : Int32) then (nwA h 64 (40 : Int32) fun q5 h6 => f_Chain_makeRoom_25 N   h6 th (some q5)) else (f_Chain_makeRoom_19 N   h ))
def f_Chain_take_26 (N : Nat)  : Nat → hS → Nat → Option Nat → Int32 → Option (Unit × hS)
  | 0 => fun _ _ _ _ => none
  | n + 1 => fun h th a1 x2 => gI h (some th) 2 1 fun v1 => if v1 ≤ x2 then (some ((), h)) else (gR h (some th) 2 0 fun v2 => cv h a1 2 (fun a => f_Chain_stepAt N h a x2) fun v3 h4 => uR h4 64 8 v2 x2 v3 fun h5 => bn (x2 + (1 : Int32)) fun v6 => f_Chain_take_26 N  n h5 th a1 v6)
def f_Chain_take_8 (N : Nat)  (h : hS) (th : Nat) (a1 : Option Nat) : Option (Unit × hS) := gI h a1 2 1 fun v1 => gR h (some th) 2 0 fun v2 => lnA h 64 v2 fun v3 => pI h (some th) 2 1 (jmn v1 v3) fun h4 => f_Chain_take_26 N  N h4 th a1 (0 : Int32)
def f_Chain_take (N : Nat) (h : hS) (th : Nat) (a1 : Option Nat) : Option (Unit × hS) := gI h a1 2 1 fun v1 => cv h (some th) 2 (fun a => f_Chain_makeRoom N h a v1) fun _ h3 => f_Chain_take_8 N   h3 th a1
def f_Chain_insert_34 (N : Nat)  (h : hS)  : Option (Unit × hS) := some ((), h)
def f_Chain_insert_40 (N : Nat)  : Nat → hS → Nat → Int32 → Option Nat → Int32 → Option (Unit × hS)
  | 0 => fun _ _ _ _ _ => none
  | n + 1 => fun h th x1 a2 x3 => if x3 ≤ x1 then (gR h (some th) 2 0 fun v1 => uR h 64 8 v1 x1 a2 fun h2 => gI h2 (some th) 2 1 fun v3 => pI h2 (some th) 2 1 (v3 + (1 : Int32)) fun h4 => some ((), h4)) else (gR h (some th) 2 0 fun v5 => gR h (some th) 2 0 fun v6 => aR h 64 v6 (x3 - (1 : Int32)) fun v7 => uR h 64 8 v5 x3 v7 fun h8 => bn (x3 + (-1 : Int32)) fun v9 => f_Chain_insert_40 N  n h8 th x1 a2 v9)
def f_Chain_insert_10 (N : Nat)  (h : hS) (th : Nat) (x1 : Int32) (a2 : Option Nat) : Option (Unit × hS) := if x1 < (0 : Int32) then (f_Chain_insert_34 N   h ) else (gI h (some th) 2 1 fun v1 => if v1 < x1 then (f_Chain_insert_34 N   h ) else (gI h (some th) 2 1 fun v2 => gR h (some th) 2 0 fun v3 => lnA h 64 v3 fun v4 => if v2 < v4 then (gI h (some th) 2 1 fun v5 => f_Chain_insert_40 N  N h th x1 a2 v5) else (f_Chain_insert_34 N   h )))
def f_Chain_insert (N : Nat) (h : hS) (th : Nat) (x1 : Int32) (a2 : Option Nat) : Option (Unit × hS) := gI h (some th) 2 1 fun v1 => cv h (some th) 2 (fun a => f_Chain_makeRoom N h a (v1 + (1 : Int32))) fun _ h3 => f_Chain_insert_10 N   h3 th x1 a2
def f_Chain_remove_12 (N : Nat)  (h : hS)  : Option (Unit × hS) := some ((), h)
def f_Chain_remove_64 (N : Nat)  (h : hS)  : Option (Unit × hS) := some ((), h)
def f_Chain_remove_25 (N : Nat)  : Nat → hS → Nat → Int32 → Option (Unit × hS)
  | 0 => fun _ _ _ => none
  | n + 1 => fun h th x2 => gI h (some th) 2 1 fun v1 => if v1 ≤ x2 then (f_Chain_remove_64 N   h ) else (gR h (some th) 2 0 fun v2 => lnA h 64 v2 fun v3 => if v3 ≤ (x2 + (1 : Int32)) then (f_Chain_remove_64 N   h ) else (gR h (some th) 2 0 fun v4 => gR h (some th) 2 0 fun v5 => aR h 64 v5 (x2 + (1 : Int32)) fun v6 => uR h 64 8 v4 x2 v6 fun h7 => bn (x2 + (1 : Int32)) fun v8 => f_Chain_remove_25 N  n h7 th v8))
def f_Chain_remove (N : Nat) (h : hS) (th : Nat) (x1 : Int32) : Option (Unit × hS) := if x1 < (0 : Int32) then (f_Chain_remove_12 N   h ) else (gI h (some th) 2 1 fun v1 => if x1 < v1 then (gI h (some th) 2 1 fun v2 => pI h (some th) 2 1 (v2 - (1 : Int32)) fun h3 => f_Chain_remove_25 N  N h3 th x1) else (f_Chain_remove_12 N   h ))
def f_Chain_hasOnTop_39 (N : Nat) (rc2 : hS → Nat → Int32 → Int32 → Option (Int32 × hS)) (h : hS) (th : Nat) (x1 : Int32) (x2 : Int32) : Option (Int32 × hS) := bn (x2 + (1 : Int32)) fun v1 => rc2 h th x1 v1
def f_Chain_hasOnTop_2 (N : Nat)  : Nat → hS → Nat → Int32 → Int32 → Option (Int32 × hS)
  | 0 => fun _ _ _ _ => none
  | n + 1 => fun h th x1 x2 => gI h (some th) 2 1 fun v1 => if v1 ≤ x2 then (bz (0 : Int32) (some ((0 : Int32), h))) else (cv h (some th) 2 (fun a => f_Chain_stepAt N h a x2) fun v2 h3 => if v2 = none then (f_Chain_hasOnTop_39 N (f_Chain_hasOnTop_2 N  n)  h3 th x1 x2) else (gI h3 v2 8 0 fun v4 => if v4 = (8 : Int32) then (gI h3 v2 8 1 fun v5 => if v5 = x1 then (bz (1 : Int32) (some ((1 : Int32), h3))) else (f_Chain_hasOnTop_39 N (f_Chain_hasOnTop_2 N  n)  h3 th x1 x2)) else (f_Chain_hasOnTop_39 N (f_Chain_hasOnTop_2 N  n)  h3 th x1 x2)))
def f_Chain_hasOnTop (N : Nat) (h : hS) (th : Nat) (x1 : Int32) : Option (Int32 × hS) := f_Chain_hasOnTop_2 N  N h th x1 (0 : Int32)
def f_Curve_slopeBehind_39 (N : Nat)  (h : hS) (x2 : Int32) : Option (Int32 × hS) := some (x2, h)
def f_Curve_slopeBehind_8 (N : Nat)  : Nat → hS → Nat → Int32 → Int32 → Int32 → Option (Int32 × hS)
  | 0 => fun _ _ _ _ _ => none
  | n + 1 => fun h th x1 x2 x3 => gI h (some th) 3 0 fun v1 => if v1 ≤ x3 then (f_Curve_slopeBehind_39 N   h x2) else (cv h (some th) 3 (fun a => f_Curve_placeOf N h a x3) fun v2 h3 => if x1 < v2 then (f_Curve_slopeBehind_39 N   h3 x2) else (cv h3 (some th) 3 (fun a => f_Curve_weightOf N h3 a x3) fun v4 h5 => bn ((x2 + v4)) fun v6 => bn (x3 + (1 : Int32)) fun v7 => f_Curve_slopeBehind_8 N  n h5 th x1 v6 v7))
def f_Curve_slopeBehind (N : Nat) (h : hS) (th : Nat) (x1 : Int32) : Option (Int32 × hS) := gI h (some th) 3 2 fun v1 => bn ((-v1)) fun v2 => f_Curve_slopeBehind_8 N  N h th x1 v2 (0 : Int32)
def f_Curve_kinksUpTo_25 (N : Nat)  (h : hS) (x2 : Int32) : Option (Int32 × hS) := some (x2, h)
def f_Curve_kinksUpTo_2 (N : Nat)  : Nat → hS → Nat → Int32 → Int32 → Option (Int32 × hS)
  | 0 => fun _ _ _ _ => none
  | n + 1 => fun h th x1 x2 => gI h (some th) 3 0 fun v1 => if v1 ≤ x2 then (f_Curve_kinksUpTo_25 N   h x2) else (cv h (some th) 3 (fun a => f_Curve_placeOf N h a x2) fun v2 h3 => if x1 < v2 then (f_Curve_kinksUpTo_25 N   h3 x2) else (bn (x2 + (1 : Int32)) fun v4 => f_Curve_kinksUpTo_2 N  n h3 th x1 v4))
def f_Curve_kinksUpTo (N : Nat) (h : hS) (th : Nat) (x1 : Int32) : Option (Int32 × hS) := f_Curve_kinksUpTo_2 N  N h th x1 (0 : Int32)
def f_Curve_placeOfUnit_12 (N : Nat)  : Nat → hS → Nat → Int32 → Int32 → Option (Int32 × hS)
  | 0 => fun _ _ _ _ => none
  | n + 1 => fun h th x2 x3 => gI h (some th) 3 0 fun v1 => if v1 ≤ x3 then (some ((1000000000 : Int32), h)) else (cv h (some th) 3 (fun a => f_Curve_weightOf N h a x3) fun v2 h3 => bn ((x2 - v2)) fun v4 => if (0 : Int32) < v4 then (bn (x3 + (1 : Int32)) fun v5 => f_Curve_placeOfUnit_12 N  n h3 th v4 v5) else (cv h3 (some th) 3 (fun a => f_Curve_placeOf N h3 a x3) fun v6 h7 => some (v6, h7)))
def f_Curve_placeOfUnit (N : Nat) (h : hS) (th : Nat) (x1 : Int32) : Option (Int32 × hS) := if (1 : Int32) ≤ x1 then (f_Curve_placeOfUnit_12 N  N h th x1 (0 : Int32)) else (some ((-1000000000 : Int32), h))
def f_Curve_lowEnd (N : Nat) (h : hS) (th : Nat) (x1 : Int32) : Option (Int32 × hS) := gI h (some th) 3 2 fun v1 => cv h (some th) 3 (fun a => f_Curve_placeOfUnit N h a (v1 + x1)) fun v2 h3 => some (v2, h3)
def f_Curve_highEnd (N : Nat) (h : hS) (th : Nat) (x1 : Int32) : Option (Int32 × hS) := gI h (some th) 3 2 fun v1 => cv h (some th) 3 (fun a => f_Curve_placeOfUnit N h a ((v1 + x1) + (1 : Int32))) fun v2 h3 => some (v2, h3)
def f_K_clamp (N : Nat) (h : hS) (x0 : Int32) (x1 : Int32) (x2 : Int32) : Option (Int32 × hS) := some ((jmn (jmx x0 x1) x2), h)
def f_Curve_nearestToZero (N : Nat) (h : hS) (th : Nat) (x1 : Int32) : Option (Int32 × hS) := cv h (some th) 3 (fun a => f_Curve_lowEnd N h a x1) fun v1 h2 => cv h2 (some th) 3 (fun a => f_Curve_highEnd N h2 a x1) fun v3 h4 => cl (f_K_clamp N h4 (0 : Int32) v1 v3) fun v5 h6 => some (v5, h6)
def f_Curve_isSameAs_34 (N : Nat)  (h : hS)  : Option (Int32 × hS) := bz (0 : Int32) (some ((0 : Int32), h))
def f_Curve_isSameAs_72 (N : Nat)  (h : hS)  : Option (Int32 × hS) := bz (0 : Int32) (some ((0 : Int32), h))
def f_Curve_isSameAs_38 (N : Nat)  : Nat → hS → Nat → Option Nat → Int32 → Option (Int32 × hS)
  | 0 => fun _ _ _ _ => none
  | n + 1 => fun h th a1 x2 => gI h (some th) 3 0 fun v1 => if v1 ≤ x2 then (bz (1 : Int32) (some ((1 : Int32), h))) else (cv h (some th) 3 (fun a => f_Curve_placeOf N h a x2) fun v2 h3 => cv h3 a1 3 (fun a => f_Curve_placeOf N h3 a x2) fun v4 h5 => if v2 = v4 then (cv h5 (some th) 3 (fun a => f_Curve_weightOf N h5 a x2) fun v6 h7 => cv h7 a1 3 (fun a => f_Curve_weightOf N h7 a x2) fun v8 h9 => if v6 = v8 then (bn (x2 + (1 : Int32)) fun v10 => f_Curve_isSameAs_38 N  n h9 th a1 v10) else (f_Curve_isSameAs_72 N   h9 )) else (f_Curve_isSameAs_72 N   h5 ))
def f_Curve_isSameAs (N : Nat) (h : hS) (th : Nat) (a1 : Option Nat) : Option (Int32 × hS) := gI h (some th) 3 0 fun v1 => gI h a1 3 0 fun v2 => if v1 = v2 then (gI h (some th) 3 2 fun v3 => gI h a1 3 2 fun v4 => if v3 = v4 then (gJ h (some th) 3 4 fun v5 => gJ h a1 3 4 fun v6 => if (lg_cmp v5 v6) = (0 : Int32) then (f_Curve_isSameAs_38 N  N h th a1 (0 : Int32)) else (f_Curve_isSameAs_34 N   h )) else (f_Curve_isSameAs_34 N   h )) else (f_Curve_isSameAs_34 N   h )
theorem mo_Bench_apply_68 (N : Nat)  : ∀  (h : hS) (y0 : Int32), Mo h (f_Bench_apply_68 N   h y0) := by
  intro h y0
  unfold f_Bench_apply_68
  exact Mo_bz Mo_some
theorem mo_Bench_apply_64 (N : Nat)  : ∀  (h : hS) (th : Nat), Mo h (f_Bench_apply_64 N   h th) := by
  intro h th
  unfold f_Bench_apply_64
  refine Mo_cv (fun a => (mo_Bench_add N h a )) (fun v1 h2 => ?_)
  exact mo_Bench_apply_68 N   h2 v1
theorem mo_Bench_apply_83 (N : Nat)  : ∀  (h : hS) (y0 : Int32), Mo h (f_Bench_apply_83 N   h y0) := by
  intro h y0
  unfold f_Bench_apply_83
  exact Mo_bz Mo_some
theorem mo_Bench_apply_79 (N : Nat)  : ∀  (h : hS) (th : Nat), Mo h (f_Bench_apply_79 N   h th) := by
  intro h th
  unfold f_Bench_apply_79
  refine Mo_cv (fun a => (mo_Bench_add N h a )) (fun v1 h2 => ?_)
  exact mo_Bench_apply_83 N   h2 v1
theorem mo_Bench_apply_98 (N : Nat)  : ∀  (h : hS) (y0 : Int32), Mo h (f_Bench_apply_98 N   h y0) := by
  intro h y0
  unfold f_Bench_apply_98
  exact Mo_bz Mo_some
theorem mo_Bench_apply_94 (N : Nat)  : ∀  (h : hS) (th : Nat), Mo h (f_Bench_apply_94 N   h th) := by
  intro h th
  unfold f_Bench_apply_94
  refine Mo_cv (fun a => (mo_Bench_add N h a )) (fun v1 h2 => ?_)
  exact mo_Bench_apply_98 N   h2 v1
theorem mo_Bench_apply_195 (N : Nat)  : ∀  (h : hS) (y0 : Int32), Mo h (f_Bench_apply_195 N   h y0) := by
  intro h y0
  unfold f_Bench_apply_195
  exact Mo_bz Mo_some
theorem mo_Bench_apply_180 (N : Nat)  : ∀  (h : hS) (th : Nat), Mo h (f_Bench_apply_180 N   h th) := by
  intro h th
  unfold f_Bench_apply_180
  refine Mo_gR (fun v1 => ?_)
  refine Mo_cv (fun a => (Sh.mo (sh_Curve_isTooMuch N h a ))) (fun v2 h3 => ?_)
  refine Mo_ite ?_ ?_
  · exact mo_Bench_apply_195 N   h3 (1 : Int32)
  · exact mo_Bench_apply_195 N   h3 (0 : Int32)
theorem mo_Bench_apply_108 (N : Nat)  : ∀  (h : hS) (th : Nat), Mo h (f_Bench_apply_108 N   h th) := by
  intro h th
  unfold f_Bench_apply_108
  exact mo_Bench_apply_180 N   h th
theorem mo_Bench_apply_119 (N : Nat)  : ∀  (h : hS) (th : Nat), Mo h (f_Bench_apply_119 N   h th) := by
  intro h th
  unfold f_Bench_apply_119
  exact mo_Bench_apply_180 N   h th
theorem mo_Bench_apply_130 (N : Nat)  : ∀  (h : hS) (th : Nat), Mo h (f_Bench_apply_130 N   h th) := by
  intro h th
  unfold f_Bench_apply_130
  exact mo_Bench_apply_180 N   h th
theorem mo_Bench_apply_141 (N : Nat)  : ∀  (h : hS) (th : Nat), Mo h (f_Bench_apply_141 N   h th) := by
  intro h th
  unfold f_Bench_apply_141
  exact mo_Bench_apply_180 N   h th
theorem mo_Bench_apply_179 (N : Nat)  : ∀  (h : hS) (y0 : Int32), Mo h (f_Bench_apply_179 N   h y0) := by
  intro h y0
  unfold f_Bench_apply_179
  exact Mo_bz Mo_some
theorem mo_Bench_apply_175 (N : Nat)  : ∀  (h : hS) (th : Nat), Mo h (f_Bench_apply_175 N   h th) := by
  intro h th
  unfold f_Bench_apply_175
  refine Mo_cv (fun a => (mo_Bench_add N h a )) (fun v1 h2 => ?_)
  exact mo_Bench_apply_179 N   h2 v1
theorem mo_Bench_apply (N : Nat) (h : hS) (th : Nat) (x1 : Int32) (x2 : Int32) (x3 : Int32) (a4 : Option Nat) : Mo h (f_Bench_apply N h th x1 x2 x3 a4) := by
  unfold f_Bench_apply
  refine Mo_ite ?_ ?_
  ·
    refine Mo_gR (fun v1 => ?_)
    refine Mo_cv (fun a => (mo_Curve_becomeKink N h a x2 ((2 : Int32) * x3) x3)) (fun v2 h3 => ?_)
    exact mo_Bench_apply_64 N   h3 th
  ·
    refine Mo_ite ?_ ?_
    ·
      refine Mo_gR (fun v4 => ?_)
      refine Mo_cv (fun a => (mo_Curve_becomeKink N h a x2 x3 (0 : Int32))) (fun v5 h6 => ?_)
      exact mo_Bench_apply_79 N   h6 th
    ·
      refine Mo_ite ?_ ?_
      ·
        refine Mo_gR (fun v7 => ?_)
        refine Mo_cv (fun a => (mo_Curve_becomeKink N h a x2 x3 x3)) (fun v8 h9 => ?_)
        exact mo_Bench_apply_94 N   h9 th
      ·
        refine Mo_ite ?_ ?_
        ·
          refine Mo_cv (fun a => (mo_Bench_reshape N h a (1 : Int32) (1 : Int32) (-x2) x2)) (fun v10 h11 => ?_)
          exact mo_Bench_apply_108 N   h11 th
        ·
          refine Mo_ite ?_ ?_
          ·
            refine Mo_cv (fun a => (mo_Bench_reshape N h a (1 : Int32) (1 : Int32) x2 x3)) (fun v12 h13 => ?_)
            exact mo_Bench_apply_119 N   h13 th
          ·
            refine Mo_ite ?_ ?_
            ·
              refine Mo_cv (fun a => (mo_Bench_reshape N h a (1 : Int32) (0 : Int32) (0 : Int32) (0 : Int32))) (fun v14 h15 => ?_)
              exact mo_Bench_apply_130 N   h15 th
            ·
              refine Mo_ite ?_ ?_
              ·
                refine Mo_cv (fun a => (mo_Bench_reshape N h a (0 : Int32) (1 : Int32) (0 : Int32) (0 : Int32))) (fun v16 h17 => ?_)
                exact mo_Bench_apply_141 N   h17 th
              ·
                refine Mo_ite ?_ ?_
                ·
                  refine Mo_gR (fun v18 => ?_)
                  refine Mo_gJ (fun v19 => ?_)
                  refine Mo_pJ (fun h20 => ?_)
                  exact mo_Bench_apply_180 N   h20 th
                ·
                  refine Mo_ite ?_ ?_
                  ·
                    refine Mo_ite ?_ ?_
                    · exact mo_Bench_apply_180 N   h th
                    · refine Mo_gR (fun v21 => ?_)
                      refine Mo_cv (fun a => (mo_Keepsake_showOn N h a v21)) (fun v22 h23 => ?_)
                      exact mo_Bench_apply_175 N   h23 th
                  ·
                    exact mo_Bench_apply_180 N   h th
theorem mo_Bench_applyStep_32 (N : Nat)  : ∀  (h : hS) (y0 : Int32), Mo h (f_Bench_applyStep_32 N   h y0) := by
  intro h y0
  unfold f_Bench_applyStep_32
  exact Mo_bz Mo_some
theorem mo_Bench_applyStep_31 (N : Nat)  : ∀  (h : hS) , Mo h (f_Bench_applyStep_31 N   h ) := by
  intro h 
  unfold f_Bench_applyStep_31
  exact mo_Bench_applyStep_32 N   h (0 : Int32)
theorem mo_Bench_applyStep_24 (N : Nat)  : ∀  (h : hS) (y0 : Int32), Mo h (f_Bench_applyStep_24 N   h y0) := by
  intro h y0
  unfold f_Bench_applyStep_24
  refine Mo_ite ?_ ?_
  · exact mo_Bench_applyStep_31 N   h 
  · exact mo_Bench_applyStep_32 N   h (1 : Int32)
theorem mo_Bench_applyStep (N : Nat) (h : hS) (th : Nat) (a1 : Option Nat) : Mo h (f_Bench_applyStep N h th a1) := by
  unfold f_Bench_applyStep
  refine Mo_ite ?_ ?_
  · exact mo_Bench_applyStep_31 N   h 
  · refine Mo_gI (fun v1 => ?_)
    refine Mo_gI (fun v2 => ?_)
    refine Mo_gI (fun v3 => ?_)
    refine Mo_gR (fun v4 => ?_)
    refine Mo_cv (fun a => (mo_Bench_apply N h a v1 v2 v3 v4)) (fun v5 h6 => ?_)
    exact mo_Bench_applyStep_24 N   h6 v5
theorem mo_Bench_build_28 (N : Nat) {rc11 : hS → Nat → Option Nat → Int32 → Option (Int32 × hS)} (hsh11 : ∀ (h : hS) (th : Nat) (a1 : Option Nat) (x2 : Int32), Mo h (rc11 h th a1 x2)) : ∀  (h : hS) (th : Nat) (a1 : Option Nat) (x2 : Int32) (y0 : Int32), Mo h (f_Bench_build_28 N rc11  h th a1 x2 y0) := by
  intro h th a1 x2 y0
  unfold f_Bench_build_28
  refine Mo_ite ?_ ?_
  · refine Mo_pI (fun h2 => ?_)
    exact Mo_bz Mo_some
  · refine Mo_bn (fun v1 => ?_)
    exact hsh11 h th a1 v1
theorem mo_Bench_build_11 (N : Nat)  : ∀ (n : Nat) (h : hS) (th : Nat) (a1 : Option Nat) (x2 : Int32), Mo h (f_Bench_build_11 N  n h th a1 x2) := by
  intro n
  induction n with
  | zero =>
    intro h th a1 x2
    exact Mo_none
  | succ n ih =>
    intro h th a1 x2
    unfold f_Bench_build_11
    refine Mo_gI (fun v1 => ?_)
    refine Mo_ite ?_ ?_
    · exact Mo_bz Mo_some
    · refine Mo_cv (fun a => (Sh.mo (sh_Chain_stepAt N h a x2))) (fun v2 h3 => ?_)
      refine Mo_cv (fun a => (mo_Bench_applyStep N h3 a v2)) (fun v4 h5 => ?_)
      exact mo_Bench_build_28 N ih  h5 th a1 x2 v4
theorem mo_Bench_build_9 (N : Nat)  : ∀  (h : hS) (th : Nat) (a1 : Option Nat), Mo h (f_Bench_build_9 N   h th a1) := by
  intro h th a1
  unfold f_Bench_build_9
  exact mo_Bench_build_11 N  N h th a1 (0 : Int32)
theorem mo_Bench_build (N : Nat) (h : hS) (th : Nat) (a1 : Option Nat) : Mo h (f_Bench_build N h th a1) := by
  unfold f_Bench_build
  refine Mo_pI (fun h1 => ?_)
  refine Mo_cv (fun a => (mo_Bench_startAnew N h1 a )) (fun v2 h3 => ?_)
  exact mo_Bench_build_9 N   h3 th a1
theorem mo_Bench_standAhead_46 (N : Nat)  : ∀  (h : hS) , Mo h (f_Bench_standAhead_46 N   h ) := by
  intro h 
  unfold f_Bench_standAhead_46
  exact Mo_some
theorem mo_Bench_standAhead_35 (N : Nat)  : ∀  (h : hS) (th : Nat), Mo h (f_Bench_standAhead_35 N   h th) := by
  intro h th
  unfold f_Bench_standAhead_35
  refine Mo_gR (fun v1 => ?_)
  refine Mo_gR (fun v2 => ?_)
  refine Mo_cv (fun a => (mo_Curve_take N h a v2)) (fun v3 h4 => ?_)
  exact mo_Bench_standAhead_46 N   h4 
theorem mo_Bench_standAhead_28 (N : Nat) {rc6 : hS → Nat → Option Nat → Int32 → Int32 → Option (Unit × hS)} (hsh6 : ∀ (h : hS) (th : Nat) (a1 : Option Nat) (x2 : Int32) (x3 : Int32), Mo h (rc6 h th a1 x2 x3)) : ∀  (h : hS) (th : Nat) (a1 : Option Nat) (x2 : Int32) (x3 : Int32) (y0 : Int32), Mo h (f_Bench_standAhead_28 N rc6  h th a1 x2 x3 y0) := by
  intro h th a1 x2 x3 y0
  unfold f_Bench_standAhead_28
  refine Mo_bn (fun v1 => ?_)
  exact hsh6 h th a1 x2 v1
theorem mo_Bench_standAhead_6 (N : Nat)  : ∀ (n : Nat) (h : hS) (th : Nat) (a1 : Option Nat) (x2 : Int32) (x3 : Int32), Mo h (f_Bench_standAhead_6 N  n h th a1 x2 x3) := by
  intro n
  induction n with
  | zero =>
    intro h th a1 x2 x3
    exact Mo_none
  | succ n ih =>
    intro h th a1 x2 x3
    unfold f_Bench_standAhead_6
    refine Mo_ite ?_ ?_
    · exact mo_Bench_standAhead_35 N   h th
    · refine Mo_gI (fun v1 => ?_)
      refine Mo_ite ?_ ?_
      · exact mo_Bench_standAhead_35 N   h th
      · refine Mo_cv (fun a => (Sh.mo (sh_Chain_stepAt N h a x3))) (fun v2 h3 => ?_)
        refine Mo_cv (fun a => (mo_Bench_applyStep N h3 a v2)) (fun v4 h5 => ?_)
        exact mo_Bench_standAhead_28 N ih  h5 th a1 x2 x3 v4
theorem mo_Bench_standAhead_4 (N : Nat)  : ∀  (h : hS) (th : Nat) (a1 : Option Nat) (x2 : Int32), Mo h (f_Bench_standAhead_4 N   h th a1 x2) := by
  intro h th a1 x2
  unfold f_Bench_standAhead_4
  exact mo_Bench_standAhead_6 N  N h th a1 x2 (0 : Int32)
theorem mo_Bench_standAhead (N : Nat) (h : hS) (th : Nat) (a1 : Option Nat) (x2 : Int32) : Mo h (f_Bench_standAhead N h th a1 x2) := by
  unfold f_Bench_standAhead
  refine Mo_cv (fun a => (mo_Bench_startAnew N h a )) (fun v1 h2 => ?_)
  exact mo_Bench_standAhead_4 N   h2 th a1 x2
theorem mo_Bench_goThrough_75 (N : Nat) {rc56 : hS → Nat → Option Nat → Int32 → Option (Int32 × hS)} (hsh56 : ∀ (h : hS) (th : Nat) (a1 : Option Nat) (x5 : Int32), Mo h (rc56 h th a1 x5)) : ∀  (h : hS) (th : Nat) (a1 : Option Nat) (x5 : Int32) (y0 : Int32), Mo h (f_Bench_goThrough_75 N rc56  h th a1 x5 y0) := by
  intro h th a1 x5 y0
  unfold f_Bench_goThrough_75
  refine Mo_ite ?_ ?_
  · exact Mo_bz Mo_some
  · refine Mo_bn (fun v1 => ?_)
    exact hsh56 h th a1 v1
theorem mo_Bench_goThrough_56 (N : Nat)  : ∀ (n : Nat) (h : hS) (th : Nat) (a1 : Option Nat) (x5 : Int32), Mo h (f_Bench_goThrough_56 N  n h th a1 x5) := by
  intro n
  induction n with
  | zero =>
    intro h th a1 x5
    exact Mo_none
  | succ n ih =>
    intro h th a1 x5
    unfold f_Bench_goThrough_56
    refine Mo_gI (fun v1 => ?_)
    refine Mo_ite ?_ ?_
    · exact Mo_bz Mo_some
    · refine Mo_cv (fun a => (Sh.mo (sh_Chain_stepAt N h a x5))) (fun v2 h3 => ?_)
      refine Mo_cv (fun a => (mo_Bench_applyStep N h3 a v2)) (fun v4 h5 => ?_)
      exact mo_Bench_goThrough_75 N ih  h5 th a1 x5 v4
theorem mo_Bench_goThrough_51 (N : Nat)  : ∀  (h : hS) (th : Nat) (a1 : Option Nat) (x2 : Int32), Mo h (f_Bench_goThrough_51 N   h th a1 x2) := by
  intro h th a1 x2
  unfold f_Bench_goThrough_51
  refine Mo_bn (fun v1 => ?_)
  exact mo_Bench_goThrough_56 N  N h th a1 v1
theorem mo_Bench_goThrough_46 (N : Nat)  : ∀  (h : hS) (th : Nat) (a1 : Option Nat) (x2 : Int32) (y0 : Int32), Mo h (f_Bench_goThrough_46 N   h th a1 x2 y0) := by
  intro h th a1 x2 y0
  unfold f_Bench_goThrough_46
  refine Mo_ite ?_ ?_
  · exact Mo_bz Mo_some
  · exact mo_Bench_goThrough_51 N   h th a1 x2
theorem mo_Bench_goThrough_11 (N : Nat)  : ∀  (h : hS) (th : Nat) (a1 : Option Nat) (x2 : Int32) (x3 : Int32), Mo h (f_Bench_goThrough_11 N   h th a1 x2 x3) := by
  intro h th a1 x2 x3
  unfold f_Bench_goThrough_11
  refine Mo_cv (fun a => (Sh.mo (sh_Chain_stepAt N h a x2))) (fun v1 h2 => ?_)
  refine Mo_ite ?_ ?_
  · exact Mo_bz Mo_some
  · refine Mo_ite ?_ ?_
    · exact mo_Bench_goThrough_51 N   h2 th a1 x2
    · refine Mo_gI (fun v3 => ?_)
      refine Mo_gI (fun v4 => ?_)
      refine Mo_cv (fun a => (mo_Bench_apply N h2 a v3 v4 x3 none)) (fun v5 h6 => ?_)
      exact mo_Bench_goThrough_46 N   h6 th a1 x2 v5
theorem mo_Bench_goThrough (N : Nat) (h : hS) (th : Nat) (a1 : Option Nat) (x2 : Int32) (x3 : Int32) : Mo h (f_Bench_goThrough N h th a1 x2 x3) := by
  unfold f_Bench_goThrough
  refine Mo_gR (fun v1 => ?_)
  refine Mo_gR (fun v2 => ?_)
  refine Mo_cv (fun a => (mo_Curve_take N h a v2)) (fun v3 h4 => ?_)
  exact mo_Bench_goThrough_11 N   h4 th a1 x2 x3
theorem mo_Bench_costOnTop_14 (N : Nat)  : ∀  (h : hS) (th : Nat) (x2 : Int32), Mo h (f_Bench_costOnTop_14 N   h th x2) := by
  intro h th x2
  unfold f_Bench_costOnTop_14
  refine Mo_gR (fun v1 => ?_)
  refine Mo_cv (fun a => (Sh.mo (sh_Curve_valueAt N h a x2))) (fun v2 h3 => ?_)
  exact Mo_some
theorem mo_Bench_costOnTop (N : Nat) (h : hS) (th : Nat) (a1 : Option Nat) (x2 : Int32) : Mo h (f_Bench_costOnTop N h th a1 x2) := by
  unfold f_Bench_costOnTop
  refine Mo_ite ?_ ?_
  · exact Mo_some
  · refine Mo_gR (fun v1 => ?_)
    refine Mo_cv (fun a => (mo_Keepsake_showOn N h a v1)) (fun v2 h3 => ?_)
    exact mo_Bench_costOnTop_14 N   h3 th x2
theorem mo_Bench_costBy_125 (N : Nat)  : ∀  (h : hS) , Mo h (f_Bench_costBy_125 N   h ) := by
  intro h 
  unfold f_Bench_costBy_125
  exact Mo_some
theorem mo_Bench_costBy_124 (N : Nat)  : ∀  (h : hS) (y0 : Int64), Mo h (f_Bench_costBy_124 N   h y0) := by
  intro h y0
  unfold f_Bench_costBy_124
  exact Mo_some
theorem mo_Bench_costBy (N : Nat) (h : hS) (th : Nat) (a1 : Option Nat) (x2 : Int32) : Mo h (f_Bench_costBy N h th a1 x2) := by
  unfold f_Bench_costBy
  refine Mo_gI (fun v1 => ?_)
  refine Mo_ite ?_ ?_
  ·
    refine Mo_gI (fun v2 => ?_)
    refine Mo_gI (fun v3 => ?_)
    exact Mo_some
  ·
    refine Mo_ite ?_ ?_
    ·
      refine Mo_gI (fun v4 => ?_)
      refine Mo_gI (fun v5 => ?_)
      exact Mo_some
    ·
      refine Mo_ite ?_ ?_
      ·
        refine Mo_gI (fun v6 => ?_)
        refine Mo_gI (fun v7 => ?_)
        exact Mo_some
      ·
        refine Mo_ite ?_ ?_
        ·
          exact mo_Bench_costBy_125 N   h 
        ·
          refine Mo_ite ?_ ?_
          ·
            exact mo_Bench_costBy_125 N   h 
          ·
            refine Mo_ite ?_ ?_
            ·
              exact mo_Bench_costBy_125 N   h 
            ·
              refine Mo_ite ?_ ?_
              ·
                exact mo_Bench_costBy_125 N   h 
              ·
                refine Mo_ite ?_ ?_
                ·
                  refine Mo_gI (fun v8 => ?_)
                  exact Mo_some
                ·
                  refine Mo_ite ?_ ?_
                  ·
                    refine Mo_gR (fun v9 => ?_)
                    refine Mo_cv (fun a => (mo_Bench_costOnTop N h a v9 x2)) (fun v10 h11 => ?_)
                    exact mo_Bench_costBy_124 N   h11 v10
                  ·
                    exact mo_Bench_costBy_125 N   h 
theorem mo_Bench_applyIfNotTooMuch_33 (N : Nat)  : ∀  (h : hS) , Mo h (f_Bench_applyIfNotTooMuch_33 N   h ) := by
  intro h 
  unfold f_Bench_applyIfNotTooMuch_33
  exact Mo_some
theorem mo_Bench_applyIfNotTooMuch_19 (N : Nat)  : ∀  (h : hS) (th : Nat) (y0 : Int32), Mo h (f_Bench_applyIfNotTooMuch_19 N   h th y0) := by
  intro h th y0
  unfold f_Bench_applyIfNotTooMuch_19
  refine Mo_ite ?_ ?_
  · refine Mo_gR (fun v1 => ?_)
    refine Mo_gR (fun v2 => ?_)
    refine Mo_cv (fun a => (mo_Curve_take N h a v2)) (fun v3 h4 => ?_)
    exact mo_Bench_applyIfNotTooMuch_33 N   h4 
  · exact mo_Bench_applyIfNotTooMuch_33 N   h 
theorem mo_Bench_applyIfNotTooMuch_11 (N : Nat)  : ∀  (h : hS) (th : Nat) (x1 : Int32) (x2 : Int32) (x3 : Int32), Mo h (f_Bench_applyIfNotTooMuch_11 N   h th x1 x2 x3) := by
  intro h th x1 x2 x3
  unfold f_Bench_applyIfNotTooMuch_11
  refine Mo_cv (fun a => (mo_Bench_apply N h a x1 x2 x3 none)) (fun v1 h2 => ?_)
  exact mo_Bench_applyIfNotTooMuch_19 N   h2 th v1
theorem mo_Bench_applyIfNotTooMuch (N : Nat) (h : hS) (th : Nat) (x1 : Int32) (x2 : Int32) (x3 : Int32) : Mo h (f_Bench_applyIfNotTooMuch N h th x1 x2 x3) := by
  unfold f_Bench_applyIfNotTooMuch
  refine Mo_gR (fun v1 => ?_)
  refine Mo_gR (fun v2 => ?_)
  refine Mo_cv (fun a => (mo_Curve_take N h a v2)) (fun v3 h4 => ?_)
  exact mo_Bench_applyIfNotTooMuch_11 N   h4 th x1 x2 x3
theorem mo_Chain_init_9 (N : Nat)  : ∀  (h : hS) (th : Nat) (y0 : Option Nat) (y1 : Option Nat), Mo h (f_Chain_init_9 N   h th y0 y1) := by
  intro h th y0 y1
  unfold f_Chain_init_9
  refine Mo_pR (fun h1 => ?_)
  refine Mo_pI (fun h2 => ?_)
  exact Mo_some
theorem mo_Chain_init (N : Nat) (h : hS) (th : Nat) : Mo h (f_Chain_init N h th) := by
  unfold f_Chain_init
  refine Mo_nwA (fun q1 h2 => ?_)
  exact mo_Chain_init_9 N   h2 th (some th) (some q1)
theorem sh_Chain_clear (N : Nat) (h : hS) (th : Nat) : Sh h (f_Chain_clear N h th) := by
  unfold f_Chain_clear
  refine Sh_pI (fun h1 => ?_)
  exact Sh_some
theorem mo_Chain_makeRoom_19 (N : Nat)  : ∀  (h : hS) , Mo h (f_Chain_makeRoom_19 N   h ) := by
  intro h 
  unfold f_Chain_makeRoom_19
  exact Mo_some
theorem mo_Chain_makeRoom_60 (N : Nat)  : ∀  (h : hS) (th : Nat) (a2 : Option Nat), Mo h (f_Chain_makeRoom_60 N   h th a2) := by
  intro h th a2
  unfold f_Chain_makeRoom_60
  refine Mo_pR (fun h1 => ?_)
  exact Mo_some
theorem mo_Chain_makeRoom_28 (N : Nat)  : ∀ (n : Nat) (h : hS) (th : Nat) (a2 : Option Nat) (x3 : Int32), Mo h (f_Chain_makeRoom_28 N  n h th a2 x3) := by
  intro n
  induction n with
  | zero =>
    intro h th a2 x3
    exact Mo_none
  | succ n ih =>
    intro h th a2 x3
    unfold f_Chain_makeRoom_28
    refine Mo_gI (fun v1 => ?_)
    refine Mo_ite ?_ ?_
    · exact mo_Chain_makeRoom_60 N   h th a2
    · refine Mo_gR (fun v2 => ?_)
      refine Mo_lnA (fun v3 => ?_)
      refine Mo_ite ?_ ?_
      · exact mo_Chain_makeRoom_60 N   h th a2
      · refine Mo_gR (fun v4 => ?_)
        refine Mo_aR (fun v5 => ?_)
        refine Mo_uR (fun h6 => ?_)
        refine Mo_bn (fun v7 => ?_)
        exact ih h6 th a2 v7
theorem mo_Chain_makeRoom_25 (N : Nat)  : ∀  (h : hS) (th : Nat) (y0 : Option Nat), Mo h (f_Chain_makeRoom_25 N   h th y0) := by
  intro h th y0
  unfold f_Chain_makeRoom_25
  exact mo_Chain_makeRoom_28 N  N h th y0 (0 : Int32)
theorem mo_Chain_makeRoom (N : Nat) (h : hS) (th : Nat) (x1 : Int32) : Mo h (f_Chain_makeRoom N h th x1) := by
  unfold f_Chain_makeRoom
  refine Mo_gR (fun v1 => ?_)
  refine Mo_lnA (fun v2 => ?_)
  refine Mo_ite ?_ ?_
  · exact mo_Chain_makeRoom_19 N   h 
  · refine Mo_gR (fun v3 => ?_)
    refine Mo_lnA (fun v4 => ?_)
    refine Mo_ite ?_ ?_
    · refine Mo_nwA (fun q5 h6 => ?_)
      exact mo_Chain_makeRoom_25 N   h6 th (some q5)
    · exact mo_Chain_makeRoom_19 N   h 
theorem mo_Chain_take_26 (N : Nat)  : ∀ (n : Nat) (h : hS) (th : Nat) (a1 : Option Nat) (x2 : Int32), Mo h (f_Chain_take_26 N  n h th a1 x2) := by
  intro n
  induction n with
  | zero =>
    intro h th a1 x2
    exact Mo_none
  | succ n ih =>
    intro h th a1 x2
    unfold f_Chain_take_26
    refine Mo_gI (fun v1 => ?_)
    refine Mo_ite ?_ ?_
    · exact Mo_some
    · refine Mo_gR (fun v2 => ?_)
      refine Mo_cv (fun a => (Sh.mo (sh_Chain_stepAt N h a x2))) (fun v3 h4 => ?_)
      refine Mo_uR (fun h5 => ?_)
      refine Mo_bn (fun v6 => ?_)
      exact ih h5 th a1 v6
theorem mo_Chain_take_8 (N : Nat)  : ∀  (h : hS) (th : Nat) (a1 : Option Nat), Mo h (f_Chain_take_8 N   h th a1) := by
  intro h th a1
  unfold f_Chain_take_8
  refine Mo_gI (fun v1 => ?_)
  refine Mo_gR (fun v2 => ?_)
  refine Mo_lnA (fun v3 => ?_)
  refine Mo_pI (fun h4 => ?_)
  exact mo_Chain_take_26 N  N h4 th a1 (0 : Int32)
theorem mo_Chain_take (N : Nat) (h : hS) (th : Nat) (a1 : Option Nat) : Mo h (f_Chain_take N h th a1) := by
  unfold f_Chain_take
  refine Mo_gI (fun v1 => ?_)
  refine Mo_cv (fun a => (mo_Chain_makeRoom N h a v1)) (fun v2 h3 => ?_)
  exact mo_Chain_take_8 N   h3 th a1
theorem mo_Chain_insert_34 (N : Nat)  : ∀  (h : hS) , Mo h (f_Chain_insert_34 N   h ) := by
  intro h 
  unfold f_Chain_insert_34
  exact Mo_some
theorem mo_Chain_insert_40 (N : Nat)  : ∀ (n : Nat) (h : hS) (th : Nat) (x1 : Int32) (a2 : Option Nat) (x3 : Int32), Mo h (f_Chain_insert_40 N  n h th x1 a2 x3) := by
  intro n
  induction n with
  | zero =>
    intro h th x1 a2 x3
    exact Mo_none
  | succ n ih =>
    intro h th x1 a2 x3
    unfold f_Chain_insert_40
    refine Mo_ite ?_ ?_
    · refine Mo_gR (fun v1 => ?_)
      refine Mo_uR (fun h2 => ?_)
      refine Mo_gI (fun v3 => ?_)
      refine Mo_pI (fun h4 => ?_)
      exact Mo_some
    · refine Mo_gR (fun v5 => ?_)
      refine Mo_gR (fun v6 => ?_)
      refine Mo_aR (fun v7 => ?_)
      refine Mo_uR (fun h8 => ?_)
      refine Mo_bn (fun v9 => ?_)
      exact ih h8 th x1 a2 v9
theorem mo_Chain_insert_10 (N : Nat)  : ∀  (h : hS) (th : Nat) (x1 : Int32) (a2 : Option Nat), Mo h (f_Chain_insert_10 N   h th x1 a2) := by
  intro h th x1 a2
  unfold f_Chain_insert_10
  refine Mo_ite ?_ ?_
  · exact mo_Chain_insert_34 N   h 
  · refine Mo_gI (fun v1 => ?_)
    refine Mo_ite ?_ ?_
    · exact mo_Chain_insert_34 N   h 
    · refine Mo_gI (fun v2 => ?_)
      refine Mo_gR (fun v3 => ?_)
      refine Mo_lnA (fun v4 => ?_)
      refine Mo_ite ?_ ?_
      · refine Mo_gI (fun v5 => ?_)
        exact mo_Chain_insert_40 N  N h th x1 a2 v5
      · exact mo_Chain_insert_34 N   h 
theorem mo_Chain_insert (N : Nat) (h : hS) (th : Nat) (x1 : Int32) (a2 : Option Nat) : Mo h (f_Chain_insert N h th x1 a2) := by
  unfold f_Chain_insert
  refine Mo_gI (fun v1 => ?_)
  refine Mo_cv (fun a => (mo_Chain_makeRoom N h a (v1 + (1 : Int32)))) (fun v2 h3 => ?_)
  exact mo_Chain_insert_10 N   h3 th x1 a2
theorem sh_Chain_remove_12 (N : Nat)  : ∀  (h : hS) , Sh h (f_Chain_remove_12 N   h ) := by
  intro h 
  unfold f_Chain_remove_12
  exact Sh_some
theorem sh_Chain_remove_64 (N : Nat)  : ∀  (h : hS) , Sh h (f_Chain_remove_64 N   h ) := by
  intro h 
  unfold f_Chain_remove_64
  exact Sh_some
theorem sh_Chain_remove_25 (N : Nat)  : ∀ (n : Nat) (h : hS) (th : Nat) (x2 : Int32), Sh h (f_Chain_remove_25 N  n h th x2) := by
  intro n
  induction n with
  | zero =>
    intro h th x2
    exact Sh_none
  | succ n ih =>
    intro h th x2
    unfold f_Chain_remove_25
    refine Sh_gI (fun v1 => ?_)
    refine Sh_ite ?_ ?_
    · exact sh_Chain_remove_64 N   h 
    · refine Sh_gR (fun v2 => ?_)
      refine Sh_lnA (fun v3 => ?_)
      refine Sh_ite ?_ ?_
      · exact sh_Chain_remove_64 N   h 
      · refine Sh_gR (fun v4 => ?_)
        refine Sh_gR (fun v5 => ?_)
        refine Sh_aR (fun v6 => ?_)
        refine Sh_uR (fun h7 => ?_)
        refine Sh_bn (fun v8 => ?_)
        exact ih h7 th v8
theorem sh_Chain_remove (N : Nat) (h : hS) (th : Nat) (x1 : Int32) : Sh h (f_Chain_remove N h th x1) := by
  unfold f_Chain_remove
  refine Sh_ite ?_ ?_
  · exact sh_Chain_remove_12 N   h 
  · refine Sh_gI (fun v1 => ?_)
    refine Sh_ite ?_ ?_
    · refine Sh_gI (fun v2 => ?_)
      refine Sh_pI (fun h3 => ?_)
      exact sh_Chain_remove_25 N  N h3 th x1
    · exact sh_Chain_remove_12 N   h 
theorem sh_Chain_hasOnTop_39 (N : Nat) {rc2 : hS → Nat → Int32 → Int32 → Option (Int32 × hS)} (hsh2 : ∀ (h : hS) (th : Nat) (x1 : Int32) (x2 : Int32), Sh h (rc2 h th x1 x2)) : ∀  (h : hS) (th : Nat) (x1 : Int32) (x2 : Int32), Sh h (f_Chain_hasOnTop_39 N rc2  h th x1 x2) := by
  intro h th x1 x2
  unfold f_Chain_hasOnTop_39
  refine Sh_bn (fun v1 => ?_)
  exact hsh2 h th x1 v1
theorem sh_Chain_hasOnTop_2 (N : Nat)  : ∀ (n : Nat) (h : hS) (th : Nat) (x1 : Int32) (x2 : Int32), Sh h (f_Chain_hasOnTop_2 N  n h th x1 x2) := by
  intro n
  induction n with
  | zero =>
    intro h th x1 x2
    exact Sh_none
  | succ n ih =>
    intro h th x1 x2
    unfold f_Chain_hasOnTop_2
    refine Sh_gI (fun v1 => ?_)
    refine Sh_ite ?_ ?_
    · exact Sh_bz Sh_some
    · refine Sh_cv (fun a => (sh_Chain_stepAt N h a x2)) (fun v2 h3 => ?_)
      refine Sh_ite ?_ ?_
      · exact sh_Chain_hasOnTop_39 N ih  h3 th x1 x2
      · refine Sh_gI (fun v4 => ?_)
        refine Sh_ite ?_ ?_
        · refine Sh_gI (fun v5 => ?_)
          refine Sh_ite ?_ ?_
          · exact Sh_bz Sh_some
          · exact sh_Chain_hasOnTop_39 N ih  h3 th x1 x2
        · exact sh_Chain_hasOnTop_39 N ih  h3 th x1 x2
theorem sh_Chain_hasOnTop (N : Nat) (h : hS) (th : Nat) (x1 : Int32) : Sh h (f_Chain_hasOnTop N h th x1) := by
  unfold f_Chain_hasOnTop
  exact sh_Chain_hasOnTop_2 N  N h th x1 (0 : Int32)
theorem sh_Curve_slopeBehind_39 (N : Nat)  : ∀  (h : hS) (x2 : Int32), Sh h (f_Curve_slopeBehind_39 N   h x2) := by
  intro h x2
  unfold f_Curve_slopeBehind_39
  exact Sh_some
theorem sh_Curve_slopeBehind_8 (N : Nat)  : ∀ (n : Nat) (h : hS) (th : Nat) (x1 : Int32) (x2 : Int32) (x3 : Int32), Sh h (f_Curve_slopeBehind_8 N  n h th x1 x2 x3) := by
  intro n
  induction n with
  | zero =>
    intro h th x1 x2 x3
    exact Sh_none
  | succ n ih =>
    intro h th x1 x2 x3
    unfold f_Curve_slopeBehind_8
    refine Sh_gI (fun v1 => ?_)
    refine Sh_ite ?_ ?_
    · exact sh_Curve_slopeBehind_39 N   h x2
    · refine Sh_cv (fun a => (sh_Curve_placeOf N h a x3)) (fun v2 h3 => ?_)
      refine Sh_ite ?_ ?_
      · exact sh_Curve_slopeBehind_39 N   h3 x2
      · refine Sh_cv (fun a => (sh_Curve_weightOf N h3 a x3)) (fun v4 h5 => ?_)
        refine Sh_bn (fun v6 => ?_)
        refine Sh_bn (fun v7 => ?_)
        exact ih h5 th x1 v6 v7
theorem sh_Curve_slopeBehind (N : Nat) (h : hS) (th : Nat) (x1 : Int32) : Sh h (f_Curve_slopeBehind N h th x1) := by
  unfold f_Curve_slopeBehind
  refine Sh_gI (fun v1 => ?_)
  refine Sh_bn (fun v2 => ?_)
  exact sh_Curve_slopeBehind_8 N  N h th x1 v2 (0 : Int32)
theorem sh_Curve_kinksUpTo_25 (N : Nat)  : ∀  (h : hS) (x2 : Int32), Sh h (f_Curve_kinksUpTo_25 N   h x2) := by
  intro h x2
  unfold f_Curve_kinksUpTo_25
  exact Sh_some
theorem sh_Curve_kinksUpTo_2 (N : Nat)  : ∀ (n : Nat) (h : hS) (th : Nat) (x1 : Int32) (x2 : Int32), Sh h (f_Curve_kinksUpTo_2 N  n h th x1 x2) := by
  intro n
  induction n with
  | zero =>
    intro h th x1 x2
    exact Sh_none
  | succ n ih =>
    intro h th x1 x2
    unfold f_Curve_kinksUpTo_2
    refine Sh_gI (fun v1 => ?_)
    refine Sh_ite ?_ ?_
    · exact sh_Curve_kinksUpTo_25 N   h x2
    · refine Sh_cv (fun a => (sh_Curve_placeOf N h a x2)) (fun v2 h3 => ?_)
      refine Sh_ite ?_ ?_
      · exact sh_Curve_kinksUpTo_25 N   h3 x2
      · refine Sh_bn (fun v4 => ?_)
        exact ih h3 th x1 v4
theorem sh_Curve_kinksUpTo (N : Nat) (h : hS) (th : Nat) (x1 : Int32) : Sh h (f_Curve_kinksUpTo N h th x1) := by
  unfold f_Curve_kinksUpTo
  exact sh_Curve_kinksUpTo_2 N  N h th x1 (0 : Int32)
theorem sh_Curve_placeOfUnit_12 (N : Nat)  : ∀ (n : Nat) (h : hS) (th : Nat) (x2 : Int32) (x3 : Int32), Sh h (f_Curve_placeOfUnit_12 N  n h th x2 x3) := by
  intro n
  induction n with
  | zero =>
    intro h th x2 x3
    exact Sh_none
  | succ n ih =>
    intro h th x2 x3
    unfold f_Curve_placeOfUnit_12
    refine Sh_gI (fun v1 => ?_)
    refine Sh_ite ?_ ?_
    · exact Sh_some
    · refine Sh_cv (fun a => (sh_Curve_weightOf N h a x3)) (fun v2 h3 => ?_)
      refine Sh_bn (fun v4 => ?_)
      refine Sh_ite ?_ ?_
      · refine Sh_bn (fun v5 => ?_)
        exact ih h3 th v4 v5
      · refine Sh_cv (fun a => (sh_Curve_placeOf N h3 a x3)) (fun v6 h7 => ?_)
        exact Sh_some
theorem sh_Curve_placeOfUnit (N : Nat) (h : hS) (th : Nat) (x1 : Int32) : Sh h (f_Curve_placeOfUnit N h th x1) := by
  unfold f_Curve_placeOfUnit
  refine Sh_ite ?_ ?_
  · exact sh_Curve_placeOfUnit_12 N  N h th x1 (0 : Int32)
  · exact Sh_some
theorem sh_Curve_lowEnd (N : Nat) (h : hS) (th : Nat) (x1 : Int32) : Sh h (f_Curve_lowEnd N h th x1) := by
  unfold f_Curve_lowEnd
  refine Sh_gI (fun v1 => ?_)
  refine Sh_cv (fun a => (sh_Curve_placeOfUnit N h a (v1 + x1))) (fun v2 h3 => ?_)
  exact Sh_some
theorem sh_Curve_highEnd (N : Nat) (h : hS) (th : Nat) (x1 : Int32) : Sh h (f_Curve_highEnd N h th x1) := by
  unfold f_Curve_highEnd
  refine Sh_gI (fun v1 => ?_)
  refine Sh_cv (fun a => (sh_Curve_placeOfUnit N h a ((v1 + x1) + (1 : Int32)))) (fun v2 h3 => ?_)
  exact Sh_some
theorem sh_K_clamp (N : Nat) (h : hS) (x0 : Int32) (x1 : Int32) (x2 : Int32) : Sh h (f_K_clamp N h x0 x1 x2) := by
  unfold f_K_clamp
  exact Sh_some
theorem sh_Curve_nearestToZero (N : Nat) (h : hS) (th : Nat) (x1 : Int32) : Sh h (f_Curve_nearestToZero N h th x1) := by
  unfold f_Curve_nearestToZero
  refine Sh_cv (fun a => (sh_Curve_lowEnd N h a x1)) (fun v1 h2 => ?_)
  refine Sh_cv (fun a => (sh_Curve_highEnd N h2 a x1)) (fun v3 h4 => ?_)
  refine Sh_cl (sh_K_clamp N h4 (0 : Int32) v1 v3) (fun v5 h6 => ?_)
  exact Sh_some
theorem sh_Curve_isSameAs_34 (N : Nat)  : ∀  (h : hS) , Sh h (f_Curve_isSameAs_34 N   h ) := by
  intro h 
  unfold f_Curve_isSameAs_34
  exact Sh_bz Sh_some
theorem sh_Curve_isSameAs_72 (N : Nat)  : ∀  (h : hS) , Sh h (f_Curve_isSameAs_72 N   h ) := by
  intro h 
  unfold f_Curve_isSameAs_72
  exact Sh_bz Sh_some
theorem sh_Curve_isSameAs_38 (N : Nat)  : ∀ (n : Nat) (h : hS) (th : Nat) (a1 : Option Nat) (x2 : Int32), Sh h (f_Curve_isSameAs_38 N  n h th a1 x2) := by
  intro n
  induction n with
  | zero =>
    intro h th a1 x2
    exact Sh_none
  | succ n ih =>
    intro h th a1 x2
    unfold f_Curve_isSameAs_38
    refine Sh_gI (fun v1 => ?_)
    refine Sh_ite ?_ ?_
    · exact Sh_bz Sh_some
    · refine Sh_cv (fun a => (sh_Curve_placeOf N h a x2)) (fun v2 h3 => ?_)
      refine Sh_cv (fun a => (sh_Curve_placeOf N h3 a x2)) (fun v4 h5 => ?_)
      refine Sh_ite ?_ ?_
      · refine Sh_cv (fun a => (sh_Curve_weightOf N h5 a x2)) (fun v6 h7 => ?_)
        refine Sh_cv (fun a => (sh_Curve_weightOf N h7 a x2)) (fun v8 h9 => ?_)
        refine Sh_ite ?_ ?_
        · refine Sh_bn (fun v10 => ?_)
          exact ih h9 th a1 v10
        · exact sh_Curve_isSameAs_72 N   h9 
      · exact sh_Curve_isSameAs_72 N   h5 
theorem sh_Curve_isSameAs (N : Nat) (h : hS) (th : Nat) (a1 : Option Nat) : Sh h (f_Curve_isSameAs N h th a1) := by
  unfold f_Curve_isSameAs
  refine Sh_gI (fun v1 => ?_)
  refine Sh_gI (fun v2 => ?_)
  refine Sh_ite ?_ ?_
  · refine Sh_gI (fun v3 => ?_)
    refine Sh_gI (fun v4 => ?_)
    refine Sh_ite ?_ ?_
    · refine Sh_gJ (fun v5 => ?_)
      refine Sh_gJ (fun v6 => ?_)
      refine Sh_ite ?_ ?_
      · exact sh_Curve_isSameAs_38 N  N h th a1 (0 : Int32)
      · exact sh_Curve_isSameAs_34 N   h 
    · exact sh_Curve_isSameAs_34 N   h 
  · exact sh_Curve_isSameAs_34 N   h 
set_option maxRecDepth 20000 in
set_option maxHeartbeats 4000000 in
theorem b_Bench_apply_68 {p : Program} {l : Launch} {e : Env} {s : State} {m : MethodId} {args : Array Value} {below : List Frame} {meth : Method} {c : Code} {D : va_G} {cy : cyT} {z : Nat} (C : MX p s m args meth c cX0_apply 5 ((some .boolean)) RX0 (Cond.code yX0_apply cX0_apply 5 ((some .boolean)) :: GW)) (N : Nat) (n0 s0 : Nat) (hn0 : s.heap.size = n0) {r : Int32} {g : hS}  : ∀  (cells slots : Nat) (h : hS) (y0 : Int32) (H : Heap) (locs : List Loc) (ls : Array Slot), wd D cy z s cells h H locs → h_s h = s0 + slots → lv_has ls 5 [] → f_Bench_apply_68 N   h y0 = some (r, g) → W p l e { frames := 3, cells := h_x g - n0, slots := h_s g - s0, locals := 97 } s m args below meth c H locs cells slots (MQ below (eQ D cy z (rI r) g) args s (h_x g - n0) (h_s g - s0) (fun q => z ≤ q)) (F0 m 68 ls [.int y0]) := by
  obtain ⟨hx, hb, hr, hml, hown, hts, hlk⟩ := id C
  intro cells slots h y0 H locs ls w hsl hl hE
  have hcc : cells ≤ h_x g - n0 ∧ slots ≤ h_s g - s0 := by
    have q1 := mo_Bench_apply_68 N  h y0 _ _ hE
    have q2 := wd_x w
    have q3 := q1.1
    have q4 := q1.2.1
    omega
  unfold f_Bench_apply_68 at hE
  refine W.widen (k := h_x g - n0) (n := h_s g - s0) hcc.1 hcc.2 ?_
  exact w_zret C w hE dX0_apply_68
set_option maxRecDepth 20000 in
set_option maxHeartbeats 4000000 in
theorem b_Bench_apply_64 {p : Program} {l : Launch} {e : Env} {s : State} {m : MethodId} {args : Array Value} {below : List Frame} {meth : Method} {c : Code} {D : va_G} {cy : cyT} {z : Nat} (C : MX p s m args meth c cX0_apply 5 ((some .boolean)) RX0 (Cond.code yX0_apply cX0_apply 5 ((some .boolean)) :: GW)) (N : Nat) (n0 s0 : Nat) (hn0 : s.heap.size = n0) {r : Int32} {g : hS}  : ∀  (cells slots : Nat) (h : hS) (th : Nat) (H : Heap) (locs : List Loc) (ls : Array Slot), wd D cy z s cells h H locs → h_s h = s0 + slots → lv_has ls 5 [(0, .ref th)] → f_Bench_apply_64 N   h th = some (r, g) → W p l e { frames := 3, cells := h_x g - n0, slots := h_s g - s0, locals := 97 } s m args below meth c H locs cells slots (MQ below (eQ D cy z (rI r) g) args s (h_x g - n0) (h_s g - s0) (fun q => z ≤ q)) (F0 m 64 ls []) := by
  obtain ⟨hx, hb, hr, hml, hown, hts, hlk⟩ := id C
  intro cells slots h th H locs ls w hsl hl hE
  have hcc : cells ≤ h_x g - n0 ∧ slots ≤ h_s g - s0 := by
    have q1 := mo_Bench_apply_64 N  h th _ _ hE
    have q2 := wd_x w
    have q3 := q1.1
    have q4 := q1.2.1
    omega
  unfold f_Bench_apply_64 at hE
  refine lv_aload_n hx hb dX0_apply_64 rfl (lv_at hl 0 rfl) ?_
  refine w_VAI GW_good (n := 0) (F := 2) (Lc := 73) (o := some th) (av := []) (rest := []) C w rfl (by decide) (fun a r g hf => k_Bench_add l D cy z N h a  r g hf) gw_21_9 gw_21_10 gw_21_11 gw_2_0 gw_21_12 (by decide +kernel) ⟨Nat.le_of_ble_eq_true rfl, Nat.le_of_ble_eq_true rfl⟩ rfl hl.1 rfl (Nat.le_of_ble_eq_true rfl) dX0_apply_65 (fun a => (mo_Bench_add N h a )) (fun a v1 h2 q1 q2 => by have u1 := (mo_Bench_add N h a ) _ _ q1; have u2 := mo_Bench_apply_68 N   h2 v1 _ _ q2; have u3 := wd_x w; have u4 := u1.1; have u5 := u1.2.1; have u6 := u2.1; have u7 := u2.2.1; show cells + _ ≤ h_x g - n0 ∧ slots + _ ≤ h_s g - s0; omega) hE (fun v1 h2 H locs w hsh2 e1 => ?_)
  exact b_Bench_apply_68 C N n0 s0 hn0   _ _ h2 v1 _ _ ls w (by have u5 := hsh2.2.1; have u8 := hsl; omega) (lv_sub hl [] rfl) e1
set_option maxRecDepth 20000 in
set_option maxHeartbeats 4000000 in
theorem b_Bench_apply_83 {p : Program} {l : Launch} {e : Env} {s : State} {m : MethodId} {args : Array Value} {below : List Frame} {meth : Method} {c : Code} {D : va_G} {cy : cyT} {z : Nat} (C : MX p s m args meth c cX0_apply 5 ((some .boolean)) RX0 (Cond.code yX0_apply cX0_apply 5 ((some .boolean)) :: GW)) (N : Nat) (n0 s0 : Nat) (hn0 : s.heap.size = n0) {r : Int32} {g : hS}  : ∀  (cells slots : Nat) (h : hS) (y0 : Int32) (H : Heap) (locs : List Loc) (ls : Array Slot), wd D cy z s cells h H locs → h_s h = s0 + slots → lv_has ls 5 [] → f_Bench_apply_83 N   h y0 = some (r, g) → W p l e { frames := 3, cells := h_x g - n0, slots := h_s g - s0, locals := 97 } s m args below meth c H locs cells slots (MQ below (eQ D cy z (rI r) g) args s (h_x g - n0) (h_s g - s0) (fun q => z ≤ q)) (F0 m 83 ls [.int y0]) := by
  obtain ⟨hx, hb, hr, hml, hown, hts, hlk⟩ := id C
  intro cells slots h y0 H locs ls w hsl hl hE
  have hcc : cells ≤ h_x g - n0 ∧ slots ≤ h_s g - s0 := by
    have q1 := mo_Bench_apply_83 N  h y0 _ _ hE
    have q2 := wd_x w
    have q3 := q1.1
    have q4 := q1.2.1
    omega
  unfold f_Bench_apply_83 at hE
  refine W.widen (k := h_x g - n0) (n := h_s g - s0) hcc.1 hcc.2 ?_
  exact w_zret C w hE dX0_apply_83
set_option maxRecDepth 20000 in
set_option maxHeartbeats 4000000 in
theorem b_Bench_apply_79 {p : Program} {l : Launch} {e : Env} {s : State} {m : MethodId} {args : Array Value} {below : List Frame} {meth : Method} {c : Code} {D : va_G} {cy : cyT} {z : Nat} (C : MX p s m args meth c cX0_apply 5 ((some .boolean)) RX0 (Cond.code yX0_apply cX0_apply 5 ((some .boolean)) :: GW)) (N : Nat) (n0 s0 : Nat) (hn0 : s.heap.size = n0) {r : Int32} {g : hS}  : ∀  (cells slots : Nat) (h : hS) (th : Nat) (H : Heap) (locs : List Loc) (ls : Array Slot), wd D cy z s cells h H locs → h_s h = s0 + slots → lv_has ls 5 [(0, .ref th)] → f_Bench_apply_79 N   h th = some (r, g) → W p l e { frames := 3, cells := h_x g - n0, slots := h_s g - s0, locals := 97 } s m args below meth c H locs cells slots (MQ below (eQ D cy z (rI r) g) args s (h_x g - n0) (h_s g - s0) (fun q => z ≤ q)) (F0 m 79 ls []) := by
  obtain ⟨hx, hb, hr, hml, hown, hts, hlk⟩ := id C
  intro cells slots h th H locs ls w hsl hl hE
  have hcc : cells ≤ h_x g - n0 ∧ slots ≤ h_s g - s0 := by
    have q1 := mo_Bench_apply_79 N  h th _ _ hE
    have q2 := wd_x w
    have q3 := q1.1
    have q4 := q1.2.1
    omega
  unfold f_Bench_apply_79 at hE
  refine lv_aload_n hx hb dX0_apply_79 rfl (lv_at hl 0 rfl) ?_
  refine w_VAI GW_good (n := 0) (F := 2) (Lc := 73) (o := some th) (av := []) (rest := []) C w rfl (by decide) (fun a r g hf => k_Bench_add l D cy z N h a  r g hf) gw_21_9 gw_21_10 gw_21_11 gw_2_0 gw_21_12 (by decide +kernel) ⟨Nat.le_of_ble_eq_true rfl, Nat.le_of_ble_eq_true rfl⟩ rfl hl.1 rfl (Nat.le_of_ble_eq_true rfl) dX0_apply_80 (fun a => (mo_Bench_add N h a )) (fun a v1 h2 q1 q2 => by have u1 := (mo_Bench_add N h a ) _ _ q1; have u2 := mo_Bench_apply_83 N   h2 v1 _ _ q2; have u3 := wd_x w; have u4 := u1.1; have u5 := u1.2.1; have u6 := u2.1; have u7 := u2.2.1; show cells + _ ≤ h_x g - n0 ∧ slots + _ ≤ h_s g - s0; omega) hE (fun v1 h2 H locs w hsh2 e1 => ?_)
  exact b_Bench_apply_83 C N n0 s0 hn0   _ _ h2 v1 _ _ ls w (by have u5 := hsh2.2.1; have u8 := hsl; omega) (lv_sub hl [] rfl) e1
set_option maxRecDepth 20000 in
set_option maxHeartbeats 4000000 in
theorem b_Bench_apply_98 {p : Program} {l : Launch} {e : Env} {s : State} {m : MethodId} {args : Array Value} {below : List Frame} {meth : Method} {c : Code} {D : va_G} {cy : cyT} {z : Nat} (C : MX p s m args meth c cX0_apply 5 ((some .boolean)) RX0 (Cond.code yX0_apply cX0_apply 5 ((some .boolean)) :: GW)) (N : Nat) (n0 s0 : Nat) (hn0 : s.heap.size = n0) {r : Int32} {g : hS}  : ∀  (cells slots : Nat) (h : hS) (y0 : Int32) (H : Heap) (locs : List Loc) (ls : Array Slot), wd D cy z s cells h H locs → h_s h = s0 + slots → lv_has ls 5 [] → f_Bench_apply_98 N   h y0 = some (r, g) → W p l e { frames := 3, cells := h_x g - n0, slots := h_s g - s0, locals := 97 } s m args below meth c H locs cells slots (MQ below (eQ D cy z (rI r) g) args s (h_x g - n0) (h_s g - s0) (fun q => z ≤ q)) (F0 m 98 ls [.int y0]) := by
  obtain ⟨hx, hb, hr, hml, hown, hts, hlk⟩ := id C
  intro cells slots h y0 H locs ls w hsl hl hE
  have hcc : cells ≤ h_x g - n0 ∧ slots ≤ h_s g - s0 := by
    have q1 := mo_Bench_apply_98 N  h y0 _ _ hE
    have q2 := wd_x w
    have q3 := q1.1
    have q4 := q1.2.1
    omega
  unfold f_Bench_apply_98 at hE
  refine W.widen (k := h_x g - n0) (n := h_s g - s0) hcc.1 hcc.2 ?_
  exact w_zret C w hE dX0_apply_98
set_option maxRecDepth 20000 in
set_option maxHeartbeats 4000000 in
theorem b_Bench_apply_94 {p : Program} {l : Launch} {e : Env} {s : State} {m : MethodId} {args : Array Value} {below : List Frame} {meth : Method} {c : Code} {D : va_G} {cy : cyT} {z : Nat} (C : MX p s m args meth c cX0_apply 5 ((some .boolean)) RX0 (Cond.code yX0_apply cX0_apply 5 ((some .boolean)) :: GW)) (N : Nat) (n0 s0 : Nat) (hn0 : s.heap.size = n0) {r : Int32} {g : hS}  : ∀  (cells slots : Nat) (h : hS) (th : Nat) (H : Heap) (locs : List Loc) (ls : Array Slot), wd D cy z s cells h H locs → h_s h = s0 + slots → lv_has ls 5 [(0, .ref th)] → f_Bench_apply_94 N   h th = some (r, g) → W p l e { frames := 3, cells := h_x g - n0, slots := h_s g - s0, locals := 97 } s m args below meth c H locs cells slots (MQ below (eQ D cy z (rI r) g) args s (h_x g - n0) (h_s g - s0) (fun q => z ≤ q)) (F0 m 94 ls []) := by
  obtain ⟨hx, hb, hr, hml, hown, hts, hlk⟩ := id C
  intro cells slots h th H locs ls w hsl hl hE
  have hcc : cells ≤ h_x g - n0 ∧ slots ≤ h_s g - s0 := by
    have q1 := mo_Bench_apply_94 N  h th _ _ hE
    have q2 := wd_x w
    have q3 := q1.1
    have q4 := q1.2.1
    omega
  unfold f_Bench_apply_94 at hE
  refine lv_aload_n hx hb dX0_apply_94 rfl (lv_at hl 0 rfl) ?_
  refine w_VAI GW_good (n := 0) (F := 2) (Lc := 73) (o := some th) (av := []) (rest := []) C w rfl (by decide) (fun a r g hf => k_Bench_add l D cy z N h a  r g hf) gw_21_9 gw_21_10 gw_21_11 gw_2_0 gw_21_12 (by decide +kernel) ⟨Nat.le_of_ble_eq_true rfl, Nat.le_of_ble_eq_true rfl⟩ rfl hl.1 rfl (Nat.le_of_ble_eq_true rfl) dX0_apply_95 (fun a => (mo_Bench_add N h a )) (fun a v1 h2 q1 q2 => by have u1 := (mo_Bench_add N h a ) _ _ q1; have u2 := mo_Bench_apply_98 N   h2 v1 _ _ q2; have u3 := wd_x w; have u4 := u1.1; have u5 := u1.2.1; have u6 := u2.1; have u7 := u2.2.1; show cells + _ ≤ h_x g - n0 ∧ slots + _ ≤ h_s g - s0; omega) hE (fun v1 h2 H locs w hsh2 e1 => ?_)
  exact b_Bench_apply_98 C N n0 s0 hn0   _ _ h2 v1 _ _ ls w (by have u5 := hsh2.2.1; have u8 := hsl; omega) (lv_sub hl [] rfl) e1
set_option maxRecDepth 20000 in
set_option maxHeartbeats 4000000 in
theorem b_Bench_apply_195 {p : Program} {l : Launch} {e : Env} {s : State} {m : MethodId} {args : Array Value} {below : List Frame} {meth : Method} {c : Code} {D : va_G} {cy : cyT} {z : Nat} (C : MX p s m args meth c cX0_apply 5 ((some .boolean)) RX0 (Cond.code yX0_apply cX0_apply 5 ((some .boolean)) :: GW)) (N : Nat) (n0 s0 : Nat) (hn0 : s.heap.size = n0) {r : Int32} {g : hS}  : ∀  (cells slots : Nat) (h : hS) (y0 : Int32) (H : Heap) (locs : List Loc) (ls : Array Slot), wd D cy z s cells h H locs → h_s h = s0 + slots → lv_has ls 5 [] → f_Bench_apply_195 N   h y0 = some (r, g) → W p l e { frames := 3, cells := h_x g - n0, slots := h_s g - s0, locals := 97 } s m args below meth c H locs cells slots (MQ below (eQ D cy z (rI r) g) args s (h_x g - n0) (h_s g - s0) (fun q => z ≤ q)) (F0 m 195 ls [.int y0]) := by
  obtain ⟨hx, hb, hr, hml, hown, hts, hlk⟩ := id C
  intro cells slots h y0 H locs ls w hsl hl hE
  have hcc : cells ≤ h_x g - n0 ∧ slots ≤ h_s g - s0 := by
    have q1 := mo_Bench_apply_195 N  h y0 _ _ hE
    have q2 := wd_x w
    have q3 := q1.1
    have q4 := q1.2.1
    omega
  unfold f_Bench_apply_195 at hE
  refine W.widen (k := h_x g - n0) (n := h_s g - s0) hcc.1 hcc.2 ?_
  exact w_zret C w hE dX0_apply_195
set_option maxRecDepth 20000 in
set_option maxHeartbeats 4000000 in
theorem b_Bench_apply_180 {p : Program} {l : Launch} {e : Env} {s : State} {m : MethodId} {args : Array Value} {below : List Frame} {meth : Method} {c : Code} {D : va_G} {cy : cyT} {z : Nat} (C : MX p s m args meth c cX0_apply 5 ((some .boolean)) RX0 (Cond.code yX0_apply cX0_apply 5 ((some .boolean)) :: GW)) (N : Nat) (n0 s0 : Nat) (hn0 : s.heap.size = n0) {r : Int32} {g : hS}  : ∀  (cells slots : Nat) (h : hS) (th : Nat) (H : Heap) (locs : List Loc) (ls : Array Slot), wd D cy z s cells h H locs → h_s h = s0 + slots → lv_has ls 5 [(0, .ref th)] → f_Bench_apply_180 N   h th = some (r, g) → W p l e { frames := 3, cells := h_x g - n0, slots := h_s g - s0, locals := 97 } s m args below meth c H locs cells slots (MQ below (eQ D cy z (rI r) g) args s (h_x g - n0) (h_s g - s0) (fun q => z ≤ q)) (F0 m 180 ls []) := by
  obtain ⟨hx, hb, hr, hml, hown, hts, hlk⟩ := id C
  intro cells slots h th H locs ls w hsl hl hE
  have hcc : cells ≤ h_x g - n0 ∧ slots ≤ h_s g - s0 := by
    have q1 := mo_Bench_apply_180 N  h th _ _ hE
    have q2 := wd_x w
    have q3 := q1.1
    have q4 := q1.2.1
    omega
  unfold f_Bench_apply_180 at hE
  refine lv_aload_n hx hb dX0_apply_180 rfl (lv_at hl 0 rfl) ?_
  refine w_gR (r := some th) (ci := 1) (k := 0) C w rfl (by decide) (GF_wsX00 _) (by decide) rfl (List.mem_cons_of_mem _ gw_4_3) rfl dX0_apply_181 hE (fun v1 e1 => ?_)
  refine w_VI GW_good (n := 0) (F := 1) (Lc := 21) (o := v1) (av := []) (rest := []) C w rfl (by decide) (fun a r g hf => k_Curve_isTooMuch l D cy z N h a  r g hf) gw_22_9 gw_22_10 gw_22_11 gw_2_22 gw_22_12 (by decide +kernel) ⟨Nat.le_of_ble_eq_true rfl, Nat.le_of_ble_eq_true rfl⟩ rfl hl.1 rfl (Nat.le_of_ble_eq_true rfl) dX0_apply_184 (fun a => (sh_Curve_isTooMuch N h a )) ⟨hcc.1, hcc.2⟩ e1 (fun v2 h3 H locs w hsh3 e2 => ?_)
  have hsl := hsh3.2.2.2.trans hsl
  refine w_if_ne (tgt := 194) C dX0_apply_187 (by decide) e2 (fun hc e3 => ?_) (fun hc e3 => ?_)
  · refine lv_iconst (v := 0) hx hb dX0_apply_194 (by decide) ?_
    exact b_Bench_apply_195 C N n0 s0 hn0   _ _ h3 (0 : Int32) _ _ ls w hsl (lv_sub hl [] rfl) e3
  · refine lv_iconst (v := 1) hx hb dX0_apply_190 (by decide) ?_
    refine lv_goto (tgt := 195) hx hb dX0_apply_191 (by decide) ?_
    exact b_Bench_apply_195 C N n0 s0 hn0   _ _ h3 (1 : Int32) _ _ ls w hsl (lv_sub hl [] rfl) e3
set_option maxRecDepth 20000 in
set_option maxHeartbeats 4000000 in
theorem b_Bench_apply_108 {p : Program} {l : Launch} {e : Env} {s : State} {m : MethodId} {args : Array Value} {below : List Frame} {meth : Method} {c : Code} {D : va_G} {cy : cyT} {z : Nat} (C : MX p s m args meth c cX0_apply 5 ((some .boolean)) RX0 (Cond.code yX0_apply cX0_apply 5 ((some .boolean)) :: GW)) (N : Nat) (n0 s0 : Nat) (hn0 : s.heap.size = n0) {r : Int32} {g : hS}  : ∀  (cells slots : Nat) (h : hS) (th : Nat) (H : Heap) (locs : List Loc) (ls : Array Slot), wd D cy z s cells h H locs → h_s h = s0 + slots → lv_has ls 5 [(0, .ref th)] → f_Bench_apply_108 N   h th = some (r, g) → W p l e { frames := 3, cells := h_x g - n0, slots := h_s g - s0, locals := 97 } s m args below meth c H locs cells slots (MQ below (eQ D cy z (rI r) g) args s (h_x g - n0) (h_s g - s0) (fun q => z ≤ q)) (F0 m 108 ls []) := by
  obtain ⟨hx, hb, hr, hml, hown, hts, hlk⟩ := id C
  intro cells slots h th H locs ls w hsl hl hE
  have hcc : cells ≤ h_x g - n0 ∧ slots ≤ h_s g - s0 := by
    have q1 := mo_Bench_apply_108 N  h th _ _ hE
    have q2 := wd_x w
    have q3 := q1.1
    have q4 := q1.2.1
    omega
  unfold f_Bench_apply_108 at hE
  refine lv_goto (tgt := 180) hx hb dX0_apply_108 (by decide) ?_
  exact b_Bench_apply_180 C N n0 s0 hn0   _ _ h th _ _ ls w hsl (lv_sub hl [0] rfl) hE
set_option maxRecDepth 20000 in
set_option maxHeartbeats 4000000 in
theorem b_Bench_apply_119 {p : Program} {l : Launch} {e : Env} {s : State} {m : MethodId} {args : Array Value} {below : List Frame} {meth : Method} {c : Code} {D : va_G} {cy : cyT} {z : Nat} (C : MX p s m args meth c cX0_apply 5 ((some .boolean)) RX0 (Cond.code yX0_apply cX0_apply 5 ((some .boolean)) :: GW)) (N : Nat) (n0 s0 : Nat) (hn0 : s.heap.size = n0) {r : Int32} {g : hS}  : ∀  (cells slots : Nat) (h : hS) (th : Nat) (H : Heap) (locs : List Loc) (ls : Array Slot), wd D cy z s cells h H locs → h_s h = s0 + slots → lv_has ls 5 [(0, .ref th)] → f_Bench_apply_119 N   h th = some (r, g) → W p l e { frames := 3, cells := h_x g - n0, slots := h_s g - s0, locals := 97 } s m args below meth c H locs cells slots (MQ below (eQ D cy z (rI r) g) args s (h_x g - n0) (h_s g - s0) (fun q => z ≤ q)) (F0 m 119 ls []) := by
  obtain ⟨hx, hb, hr, hml, hown, hts, hlk⟩ := id C
  intro cells slots h th H locs ls w hsl hl hE
  have hcc : cells ≤ h_x g - n0 ∧ slots ≤ h_s g - s0 := by
    have q1 := mo_Bench_apply_119 N  h th _ _ hE
    have q2 := wd_x w
    have q3 := q1.1
    have q4 := q1.2.1
    omega
  unfold f_Bench_apply_119 at hE
  refine lv_goto (tgt := 180) hx hb dX0_apply_119 (by decide) ?_
  exact b_Bench_apply_180 C N n0 s0 hn0   _ _ h th _ _ ls w hsl (lv_sub hl [0] rfl) hE
set_option maxRecDepth 20000 in
set_option maxHeartbeats 4000000 in
theorem b_Bench_apply_130 {p : Program} {l : Launch} {e : Env} {s : State} {m : MethodId} {args : Array Value} {below : List Frame} {meth : Method} {c : Code} {D : va_G} {cy : cyT} {z : Nat} (C : MX p s m args meth c cX0_apply 5 ((some .boolean)) RX0 (Cond.code yX0_apply cX0_apply 5 ((some .boolean)) :: GW)) (N : Nat) (n0 s0 : Nat) (hn0 : s.heap.size = n0) {r : Int32} {g : hS}  : ∀  (cells slots : Nat) (h : hS) (th : Nat) (H : Heap) (locs : List Loc) (ls : Array Slot), wd D cy z s cells h H locs → h_s h = s0 + slots → lv_has ls 5 [(0, .ref th)] → f_Bench_apply_130 N   h th = some (r, g) → W p l e { frames := 3, cells := h_x g - n0, slots := h_s g - s0, locals := 97 } s m args below meth c H locs cells slots (MQ below (eQ D cy z (rI r) g) args s (h_x g - n0) (h_s g - s0) (fun q => z ≤ q)) (F0 m 130 ls []) := by
  obtain ⟨hx, hb, hr, hml, hown, hts, hlk⟩ := id C
  intro cells slots h th H locs ls w hsl hl hE
  have hcc : cells ≤ h_x g - n0 ∧ slots ≤ h_s g - s0 := by
    have q1 := mo_Bench_apply_130 N  h th _ _ hE
    have q2 := wd_x w
    have q3 := q1.1
    have q4 := q1.2.1
    omega
  unfold f_Bench_apply_130 at hE
  refine lv_goto (tgt := 180) hx hb dX0_apply_130 (by decide) ?_
  exact b_Bench_apply_180 C N n0 s0 hn0   _ _ h th _ _ ls w hsl (lv_sub hl [0] rfl) hE
set_option maxRecDepth 20000 in
set_option maxHeartbeats 4000000 in
theorem b_Bench_apply_141 {p : Program} {l : Launch} {e : Env} {s : State} {m : MethodId} {args : Array Value} {below : List Frame} {meth : Method} {c : Code} {D : va_G} {cy : cyT} {z : Nat} (C : MX p s m args meth c cX0_apply 5 ((some .boolean)) RX0 (Cond.code yX0_apply cX0_apply 5 ((some .boolean)) :: GW)) (N : Nat) (n0 s0 : Nat) (hn0 : s.heap.size = n0) {r : Int32} {g : hS}  : ∀  (cells slots : Nat) (h : hS) (th : Nat) (H : Heap) (locs : List Loc) (ls : Array Slot), wd D cy z s cells h H locs → h_s h = s0 + slots → lv_has ls 5 [(0, .ref th)] → f_Bench_apply_141 N   h th = some (r, g) → W p l e { frames := 3, cells := h_x g - n0, slots := h_s g - s0, locals := 97 } s m args below meth c H locs cells slots (MQ below (eQ D cy z (rI r) g) args s (h_x g - n0) (h_s g - s0) (fun q => z ≤ q)) (F0 m 141 ls []) := by
  obtain ⟨hx, hb, hr, hml, hown, hts, hlk⟩ := id C
  intro cells slots h th H locs ls w hsl hl hE
  have hcc : cells ≤ h_x g - n0 ∧ slots ≤ h_s g - s0 := by
    have q1 := mo_Bench_apply_141 N  h th _ _ hE
    have q2 := wd_x w
    have q3 := q1.1
    have q4 := q1.2.1
    omega
  unfold f_Bench_apply_141 at hE
  refine lv_goto (tgt := 180) hx hb dX0_apply_141 (by decide) ?_
  exact b_Bench_apply_180 C N n0 s0 hn0   _ _ h th _ _ ls w hsl (lv_sub hl [0] rfl) hE
set_option maxRecDepth 20000 in
set_option maxHeartbeats 4000000 in
theorem b_Bench_apply_179 {p : Program} {l : Launch} {e : Env} {s : State} {m : MethodId} {args : Array Value} {below : List Frame} {meth : Method} {c : Code} {D : va_G} {cy : cyT} {z : Nat} (C : MX p s m args meth c cX0_apply 5 ((some .boolean)) RX0 (Cond.code yX0_apply cX0_apply 5 ((some .boolean)) :: GW)) (N : Nat) (n0 s0 : Nat) (hn0 : s.heap.size = n0) {r : Int32} {g : hS}  : ∀  (cells slots : Nat) (h : hS) (y0 : Int32) (H : Heap) (locs : List Loc) (ls : Array Slot), wd D cy z s cells h H locs → h_s h = s0 + slots → lv_has ls 5 [] → f_Bench_apply_179 N   h y0 = some (r, g) → W p l e { frames := 3, cells := h_x g - n0, slots := h_s g - s0, locals := 97 } s m args below meth c H locs cells slots (MQ below (eQ D cy z (rI r) g) args s (h_x g - n0) (h_s g - s0) (fun q => z ≤ q)) (F0 m 179 ls [.int y0]) := by
  obtain ⟨hx, hb, hr, hml, hown, hts, hlk⟩ := id C
  intro cells slots h y0 H locs ls w hsl hl hE
  have hcc : cells ≤ h_x g - n0 ∧ slots ≤ h_s g - s0 := by
    have q1 := mo_Bench_apply_179 N  h y0 _ _ hE
    have q2 := wd_x w
    have q3 := q1.1
    have q4 := q1.2.1
    omega
  unfold f_Bench_apply_179 at hE
  refine W.widen (k := h_x g - n0) (n := h_s g - s0) hcc.1 hcc.2 ?_
  exact w_zret C w hE dX0_apply_179
set_option maxRecDepth 20000 in
set_option maxHeartbeats 4000000 in
theorem b_Bench_apply_175 {p : Program} {l : Launch} {e : Env} {s : State} {m : MethodId} {args : Array Value} {below : List Frame} {meth : Method} {c : Code} {D : va_G} {cy : cyT} {z : Nat} (C : MX p s m args meth c cX0_apply 5 ((some .boolean)) RX0 (Cond.code yX0_apply cX0_apply 5 ((some .boolean)) :: GW)) (N : Nat) (n0 s0 : Nat) (hn0 : s.heap.size = n0) {r : Int32} {g : hS}  : ∀  (cells slots : Nat) (h : hS) (th : Nat) (H : Heap) (locs : List Loc) (ls : Array Slot), wd D cy z s cells h H locs → h_s h = s0 + slots → lv_has ls 5 [(0, .ref th)] → f_Bench_apply_175 N   h th = some (r, g) → W p l e { frames := 3, cells := h_x g - n0, slots := h_s g - s0, locals := 97 } s m args below meth c H locs cells slots (MQ below (eQ D cy z (rI r) g) args s (h_x g - n0) (h_s g - s0) (fun q => z ≤ q)) (F0 m 175 ls []) := by
  obtain ⟨hx, hb, hr, hml, hown, hts, hlk⟩ := id C
  intro cells slots h th H locs ls w hsl hl hE
  have hcc : cells ≤ h_x g - n0 ∧ slots ≤ h_s g - s0 := by
    have q1 := mo_Bench_apply_175 N  h th _ _ hE
    have q2 := wd_x w
    have q3 := q1.1
    have q4 := q1.2.1
    omega
  unfold f_Bench_apply_175 at hE
  refine lv_aload_n hx hb dX0_apply_175 rfl (lv_at hl 0 rfl) ?_
  refine w_VAI GW_good (n := 0) (F := 2) (Lc := 73) (o := some th) (av := []) (rest := []) C w rfl (by decide) (fun a r g hf => k_Bench_add l D cy z N h a  r g hf) gw_21_9 gw_21_10 gw_21_11 gw_2_0 gw_21_12 (by decide +kernel) ⟨Nat.le_of_ble_eq_true rfl, Nat.le_of_ble_eq_true rfl⟩ rfl hl.1 rfl (Nat.le_of_ble_eq_true rfl) dX0_apply_176 (fun a => (mo_Bench_add N h a )) (fun a v1 h2 q1 q2 => by have u1 := (mo_Bench_add N h a ) _ _ q1; have u2 := mo_Bench_apply_179 N   h2 v1 _ _ q2; have u3 := wd_x w; have u4 := u1.1; have u5 := u1.2.1; have u6 := u2.1; have u7 := u2.2.1; show cells + _ ≤ h_x g - n0 ∧ slots + _ ≤ h_s g - s0; omega) hE (fun v1 h2 H locs w hsh2 e1 => ?_)
  exact b_Bench_apply_179 C N n0 s0 hn0   _ _ h2 v1 _ _ ls w (by have u5 := hsh2.2.1; have u8 := hsl; omega) (lv_sub hl [] rfl) e1
set_option maxRecDepth 20000 in
set_option maxHeartbeats 4000000 in
theorem k_Bench_apply (l : Launch) (D : va_G) (cy : cyT) (z : Nat) (N : Nat) (h : hS) (th : Nat) (x1 : Int32) (x2 : Int32) (x3 : Int32) (a4 : Option Nat) (r : Int32) (g : hS) (hE : f_Bench_apply N h th x1 x2 x3 a4 = some (r, g)) : ct l yX0_apply (Cond.code yX0_apply cX0_apply 5 ((some .boolean)) :: GW) { frames := 3, cells := h_x g - h_x h, slots := h_s g - h_s h, locals := 97 } D cy z h [.ref th, .int x1, .int x2, .int x3, va_rf a4] (rI r) g := by
  refine Met.ofW (cc := cX0_apply) (maxL := 5) (ret := (some .boolean)) (by decide) rfl ?_
  intro p e s m args below meth c s₁ B hml hv
  obtain ⟨rfl, hw⟩ := hv
  have C : MX p s m ([.ref th, .int x1, .int x2, .int x3, va_rf a4] : List Value).toArray meth c cX0_apply 5 ((some .boolean)) RX0 (Cond.code yX0_apply cX0_apply 5 ((some .boolean)) :: GW) := ⟨B.exec, B.bytes, B.returns, hml, findClass_of_methodNamed B.named, atoms_spec (ws := Cond.code yX0_apply cX0_apply 5 ((some .boolean)) :: GW) B.pre, B.notSynchronized⟩
  obtain ⟨hx, hb, hr, hml, hown, hts, hlk⟩ := id C
  have w := wd_of hw
  have hsl : h_s h = h_s h + 0 := rfl
  have hn0 : s.heap.size = h_x h := (wd_x w).1
  obtain ⟨ls, hen, hl⟩ : ∃ ls : Array Slot, entryFrame m ([.ref th, .int x1, .int x2, .int x3, va_rf a4] : List Value).toArray 5 = F0 m 0 ls [] ∧ lv_has ls 5 [(0, .ref th), (1, .int x1), (2, .int x2), (3, .int x3), (4, va_rf a4)] := by
    cases a4 <;> exact ⟨_, lg_entry_eq _ _ _, lv_entry _ (Nat.le_of_ble_eq_true rfl)⟩
  rw [hen]
  have hcc : 0 ≤ h_x g - h_x h ∧ 0 ≤ h_s g - h_s h := ⟨Nat.zero_le _, Nat.zero_le _⟩
  unfold f_Bench_apply at hE
  refine lv_iload_n hx hb dX0_apply_0 rfl (lv_at hl 1 rfl) ?_
  refine w_case hE (fun hc e1 => ?_) (fun nc1_0 e1 => ?_)
  · refine w_tin (tgt := 52) C hc dX0_apply_1 (by decide) (by decide) rfl (by decide) ?_
    refine lv_aload_n hx hb dX0_apply_52 rfl (lv_at hl 0 rfl) ?_
    refine w_gR (r := some th) (ci := 1) (k := 3) C w rfl (by decide) (GF_wsX00 _) (by decide) rfl (List.mem_cons_of_mem _ gw_4_6) rfl dX0_apply_53 e1 (fun v1 e2 => ?_)
    refine lv_iload_n hx hb dX0_apply_56 rfl (lv_at hl 2 rfl) ?_
    refine lv_iconst (v := 2) hx hb dX0_apply_57 (by decide) ?_
    refine lv_iload_n hx hb dX0_apply_58 rfl (lv_at hl 3 rfl) ?_
    refine lv_imul hx hb dX0_apply_59 ?_
    refine lv_iload_n hx hb dX0_apply_60 rfl (lv_at hl 3 rfl) ?_
    refine w_VAV GW_good (n := 3) (F := 2) (Lc := 43) (o := v1) (av := [.int x2, .int ((2 : Int32) * x3), .int x3]) (rest := []) C w rfl (by decide) (fun a r g hf => k_Curve_becomeKink l D cy z N h a x2 ((2 : Int32) * x3) x3 r g hf) gw_20_23 gw_21_0 gw_21_1 gw_2_22 gw_21_2 (by decide +kernel) ⟨Nat.le_of_ble_eq_true rfl, Nat.le_of_ble_eq_true rfl⟩ rfl hl.1 rfl (Nat.le_of_ble_eq_true rfl) dX0_apply_61 (fun a => (mo_Curve_becomeKink N h a x2 ((2 : Int32) * x3) x3)) (fun a v2 h3 q1 q2 => by have u1 := (mo_Curve_becomeKink N h a x2 ((2 : Int32) * x3) x3) _ _ q1; have u2 := mo_Bench_apply_64 N   h3 th _ _ q2; have u3 := wd_x w; have u4 := u1.1; have u5 := u1.2.1; have u6 := u2.1; have u7 := u2.2.1; show 0 + _ ≤ h_x g - (h_x h) ∧ 0 + _ ≤ h_s g - (h_s h); omega) e2 (fun v2 h3 H locs w hsh3 e3 => ?_)
    exact b_Bench_apply_64 C N (h_x h) (h_s h) hn0   _ _ h3 th _ _ ls w (by have u5 := hsh3.2.1; have u8 := hsl; omega) (lv_sub hl [0] rfl) e3
  ·
    refine w_case e1 (fun hc e4 => ?_) (fun nc1_1 e4 => ?_)
    · refine w_tin (tgt := 69) C hc dX0_apply_1 (by decide) (by decide) rfl (by decide) ?_
      refine lv_aload_n hx hb dX0_apply_69 rfl (lv_at hl 0 rfl) ?_
      refine w_gR (r := some th) (ci := 1) (k := 3) C w rfl (by decide) (GF_wsX00 _) (by decide) rfl (List.mem_cons_of_mem _ gw_4_6) rfl dX0_apply_70 e4 (fun v4 e5 => ?_)
      refine lv_iload_n hx hb dX0_apply_73 rfl (lv_at hl 2 rfl) ?_
      refine lv_iload_n hx hb dX0_apply_74 rfl (lv_at hl 3 rfl) ?_
      refine lv_iconst (v := 0) hx hb dX0_apply_75 (by decide) ?_
      refine w_VAV GW_good (n := 3) (F := 2) (Lc := 43) (o := v4) (av := [.int x2, .int x3, .int (0 : Int32)]) (rest := []) C w rfl (by decide) (fun a r g hf => k_Curve_becomeKink l D cy z N h a x2 x3 (0 : Int32) r g hf) gw_20_23 gw_21_0 gw_21_1 gw_2_22 gw_21_2 (by decide +kernel) ⟨Nat.le_of_ble_eq_true rfl, Nat.le_of_ble_eq_true rfl⟩ rfl hl.1 rfl (Nat.le_of_ble_eq_true rfl) dX0_apply_76 (fun a => (mo_Curve_becomeKink N h a x2 x3 (0 : Int32))) (fun a v5 h6 q1 q2 => by have u1 := (mo_Curve_becomeKink N h a x2 x3 (0 : Int32)) _ _ q1; have u2 := mo_Bench_apply_79 N   h6 th _ _ q2; have u3 := wd_x w; have u4 := u1.1; have u5 := u1.2.1; have u6 := u2.1; have u7 := u2.2.1; show 0 + _ ≤ h_x g - (h_x h) ∧ 0 + _ ≤ h_s g - (h_s h); omega) e5 (fun v5 h6 H locs w hsh6 e6 => ?_)
      exact b_Bench_apply_79 C N (h_x h) (h_s h) hn0   _ _ h6 th _ _ ls w (by have u5 := hsh6.2.1; have u8 := hsl; omega) (lv_sub hl [0] rfl) e6
    ·
      refine w_case e4 (fun hc e7 => ?_) (fun nc1_2 e7 => ?_)
      · refine w_tin (tgt := 84) C hc dX0_apply_1 (by decide) (by decide) rfl (by decide) ?_
        refine lv_aload_n hx hb dX0_apply_84 rfl (lv_at hl 0 rfl) ?_
        refine w_gR (r := some th) (ci := 1) (k := 3) C w rfl (by decide) (GF_wsX00 _) (by decide) rfl (List.mem_cons_of_mem _ gw_4_6) rfl dX0_apply_85 e7 (fun v7 e8 => ?_)
        refine lv_iload_n hx hb dX0_apply_88 rfl (lv_at hl 2 rfl) ?_
        refine lv_iload_n hx hb dX0_apply_89 rfl (lv_at hl 3 rfl) ?_
        refine lv_iload_n hx hb dX0_apply_90 rfl (lv_at hl 3 rfl) ?_
        refine w_VAV GW_good (n := 3) (F := 2) (Lc := 43) (o := v7) (av := [.int x2, .int x3, .int x3]) (rest := []) C w rfl (by decide) (fun a r g hf => k_Curve_becomeKink l D cy z N h a x2 x3 x3 r g hf) gw_20_23 gw_21_0 gw_21_1 gw_2_22 gw_21_2 (by decide +kernel) ⟨Nat.le_of_ble_eq_true rfl, Nat.le_of_ble_eq_true rfl⟩ rfl hl.1 rfl (Nat.le_of_ble_eq_true rfl) dX0_apply_91 (fun a => (mo_Curve_becomeKink N h a x2 x3 x3)) (fun a v8 h9 q1 q2 => by have u1 := (mo_Curve_becomeKink N h a x2 x3 x3) _ _ q1; have u2 := mo_Bench_apply_94 N   h9 th _ _ q2; have u3 := wd_x w; have u4 := u1.1; have u5 := u1.2.1; have u6 := u2.1; have u7 := u2.2.1; show 0 + _ ≤ h_x g - (h_x h) ∧ 0 + _ ≤ h_s g - (h_s h); omega) e8 (fun v8 h9 H locs w hsh9 e9 => ?_)
        exact b_Bench_apply_94 C N (h_x h) (h_s h) hn0   _ _ h9 th _ _ ls w (by have u5 := hsh9.2.1; have u8 := hsl; omega) (lv_sub hl [0] rfl) e9
      ·
        refine w_case e7 (fun hc e10 => ?_) (fun nc1_3 e10 => ?_)
        · refine w_tin (tgt := 99) C hc dX0_apply_1 (by decide) (by decide) rfl (by decide) ?_
          refine lv_aload_n hx hb dX0_apply_99 rfl (lv_at hl 0 rfl) ?_
          refine lv_iconst (v := 1) hx hb dX0_apply_100 (by decide) ?_
          refine lv_iconst (v := 1) hx hb dX0_apply_101 (by decide) ?_
          refine lv_iload_n hx hb dX0_apply_102 rfl (lv_at hl 2 rfl) ?_
          refine lv_ineg hx hb dX0_apply_103 ?_
          refine lv_iload_n hx hb dX0_apply_104 rfl (lv_at hl 2 rfl) ?_
          refine w_VAV GW_good (n := 4) (F := 2) (Lc := 44) (o := some th) (av := [.int (1 : Int32), .int (1 : Int32), .int (-x2), .int x2]) (rest := []) C w rfl (by decide) (fun a r g hf => k_Bench_reshape l D cy z N h a (1 : Int32) (1 : Int32) (-x2) x2 r g hf) gw_22_14 gw_22_15 gw_22_16 gw_2_0 gw_22_17 (by decide +kernel) ⟨Nat.le_of_ble_eq_true rfl, Nat.le_of_ble_eq_true rfl⟩ rfl hl.1 rfl (Nat.le_of_ble_eq_true rfl) dX0_apply_105 (fun a => (mo_Bench_reshape N h a (1 : Int32) (1 : Int32) (-x2) x2)) (fun a v10 h11 q1 q2 => by have u1 := (mo_Bench_reshape N h a (1 : Int32) (1 : Int32) (-x2) x2) _ _ q1; have u2 := mo_Bench_apply_108 N   h11 th _ _ q2; have u3 := wd_x w; have u4 := u1.1; have u5 := u1.2.1; have u6 := u2.1; have u7 := u2.2.1; show 0 + _ ≤ h_x g - (h_x h) ∧ 0 + _ ≤ h_s g - (h_s h); omega) e10 (fun v10 h11 H locs w hsh11 e11 => ?_)
          exact b_Bench_apply_108 C N (h_x h) (h_s h) hn0   _ _ h11 th _ _ ls w (by have u5 := hsh11.2.1; have u8 := hsl; omega) (lv_sub hl [0] rfl) e11
        ·
          refine w_case e10 (fun hc e12 => ?_) (fun nc1_4 e12 => ?_)
          · refine w_tin (tgt := 111) C hc dX0_apply_1 (by decide) (by decide) rfl (by decide) ?_
            refine lv_aload_n hx hb dX0_apply_111 rfl (lv_at hl 0 rfl) ?_
            refine lv_iconst (v := 1) hx hb dX0_apply_112 (by decide) ?_
            refine lv_iconst (v := 1) hx hb dX0_apply_113 (by decide) ?_
            refine lv_iload_n hx hb dX0_apply_114 rfl (lv_at hl 2 rfl) ?_
            refine lv_iload_n hx hb dX0_apply_115 rfl (lv_at hl 3 rfl) ?_
            refine w_VAV GW_good (n := 4) (F := 2) (Lc := 44) (o := some th) (av := [.int (1 : Int32), .int (1 : Int32), .int x2, .int x3]) (rest := []) C w rfl (by decide) (fun a r g hf => k_Bench_reshape l D cy z N h a (1 : Int32) (1 : Int32) x2 x3 r g hf) gw_22_14 gw_22_15 gw_22_16 gw_2_0 gw_22_17 (by decide +kernel) ⟨Nat.le_of_ble_eq_true rfl, Nat.le_of_ble_eq_true rfl⟩ rfl hl.1 rfl (Nat.le_of_ble_eq_true rfl) dX0_apply_116 (fun a => (mo_Bench_reshape N h a (1 : Int32) (1 : Int32) x2 x3)) (fun a v12 h13 q1 q2 => by have u1 := (mo_Bench_reshape N h a (1 : Int32) (1 : Int32) x2 x3) _ _ q1; have u2 := mo_Bench_apply_119 N   h13 th _ _ q2; have u3 := wd_x w; have u4 := u1.1; have u5 := u1.2.1; have u6 := u2.1; have u7 := u2.2.1; show 0 + _ ≤ h_x g - (h_x h) ∧ 0 + _ ≤ h_s g - (h_s h); omega) e12 (fun v12 h13 H locs w hsh13 e13 => ?_)
            exact b_Bench_apply_119 C N (h_x h) (h_s h) hn0   _ _ h13 th _ _ ls w (by have u5 := hsh13.2.1; have u8 := hsl; omega) (lv_sub hl [0] rfl) e13
          ·
            refine w_case e12 (fun hc e14 => ?_) (fun nc1_5 e14 => ?_)
            · refine w_tin (tgt := 122) C hc dX0_apply_1 (by decide) (by decide) rfl (by decide) ?_
              refine lv_aload_n hx hb dX0_apply_122 rfl (lv_at hl 0 rfl) ?_
              refine lv_iconst (v := 1) hx hb dX0_apply_123 (by decide) ?_
              refine lv_iconst (v := 0) hx hb dX0_apply_124 (by decide) ?_
              refine lv_iconst (v := 0) hx hb dX0_apply_125 (by decide) ?_
              refine lv_iconst (v := 0) hx hb dX0_apply_126 (by decide) ?_
              refine w_VAV GW_good (n := 4) (F := 2) (Lc := 44) (o := some th) (av := [.int (1 : Int32), .int (0 : Int32), .int (0 : Int32), .int (0 : Int32)]) (rest := []) C w rfl (by decide) (fun a r g hf => k_Bench_reshape l D cy z N h a (1 : Int32) (0 : Int32) (0 : Int32) (0 : Int32) r g hf) gw_22_14 gw_22_15 gw_22_16 gw_2_0 gw_22_17 (by decide +kernel) ⟨Nat.le_of_ble_eq_true rfl, Nat.le_of_ble_eq_true rfl⟩ rfl hl.1 rfl (Nat.le_of_ble_eq_true rfl) dX0_apply_127 (fun a => (mo_Bench_reshape N h a (1 : Int32) (0 : Int32) (0 : Int32) (0 : Int32))) (fun a v14 h15 q1 q2 => by have u1 := (mo_Bench_reshape N h a (1 : Int32) (0 : Int32) (0 : Int32) (0 : Int32)) _ _ q1; have u2 := mo_Bench_apply_130 N   h15 th _ _ q2; have u3 := wd_x w; have u4 := u1.1; have u5 := u1.2.1; have u6 := u2.1; have u7 := u2.2.1; show 0 + _ ≤ h_x g - (h_x h) ∧ 0 + _ ≤ h_s g - (h_s h); omega) e14 (fun v14 h15 H locs w hsh15 e15 => ?_)
              exact b_Bench_apply_130 C N (h_x h) (h_s h) hn0   _ _ h15 th _ _ ls w (by have u5 := hsh15.2.1; have u8 := hsl; omega) (lv_sub hl [0] rfl) e15
            ·
              refine w_case e14 (fun hc e16 => ?_) (fun nc1_6 e16 => ?_)
              · refine w_tin (tgt := 133) C hc dX0_apply_1 (by decide) (by decide) rfl (by decide) ?_
                refine lv_aload_n hx hb dX0_apply_133 rfl (lv_at hl 0 rfl) ?_
                refine lv_iconst (v := 0) hx hb dX0_apply_134 (by decide) ?_
                refine lv_iconst (v := 1) hx hb dX0_apply_135 (by decide) ?_
                refine lv_iconst (v := 0) hx hb dX0_apply_136 (by decide) ?_
                refine lv_iconst (v := 0) hx hb dX0_apply_137 (by decide) ?_
                refine w_VAV GW_good (n := 4) (F := 2) (Lc := 44) (o := some th) (av := [.int (0 : Int32), .int (1 : Int32), .int (0 : Int32), .int (0 : Int32)]) (rest := []) C w rfl (by decide) (fun a r g hf => k_Bench_reshape l D cy z N h a (0 : Int32) (1 : Int32) (0 : Int32) (0 : Int32) r g hf) gw_22_14 gw_22_15 gw_22_16 gw_2_0 gw_22_17 (by decide +kernel) ⟨Nat.le_of_ble_eq_true rfl, Nat.le_of_ble_eq_true rfl⟩ rfl hl.1 rfl (Nat.le_of_ble_eq_true rfl) dX0_apply_138 (fun a => (mo_Bench_reshape N h a (0 : Int32) (1 : Int32) (0 : Int32) (0 : Int32))) (fun a v16 h17 q1 q2 => by have u1 := (mo_Bench_reshape N h a (0 : Int32) (1 : Int32) (0 : Int32) (0 : Int32)) _ _ q1; have u2 := mo_Bench_apply_141 N   h17 th _ _ q2; have u3 := wd_x w; have u4 := u1.1; have u5 := u1.2.1; have u6 := u2.1; have u7 := u2.2.1; show 0 + _ ≤ h_x g - (h_x h) ∧ 0 + _ ≤ h_s g - (h_s h); omega) e16 (fun v16 h17 H locs w hsh17 e17 => ?_)
                exact b_Bench_apply_141 C N (h_x h) (h_s h) hn0   _ _ h17 th _ _ ls w (by have u5 := hsh17.2.1; have u8 := hsl; omega) (lv_sub hl [0] rfl) e17
              ·
                refine w_case e16 (fun hc e18 => ?_) (fun nc1_7 e18 => ?_)
                · refine w_tin (tgt := 144) C hc dX0_apply_1 (by decide) (by decide) rfl (by decide) ?_
                  refine lv_aload_n hx hb dX0_apply_144 rfl (lv_at hl 0 rfl) ?_
                  refine w_gR (r := some th) (ci := 1) (k := 0) C w rfl (by decide) (GF_wsX00 _) (by decide) rfl (List.mem_cons_of_mem _ gw_4_3) rfl dX0_apply_145 e18 (fun v18 e19 => ?_)
                  refine lv_dup hx hb dX0_apply_148 (va_rf_cat _) ?_
                  refine w_gJ (r := v18) (ci := 3) (k := 4) C w rfl (by decide) (GF_wsX20 _) (by decide) rfl (List.mem_cons_of_mem _ gw_20_22) rfl dX0_apply_149 e19 (fun v19 e20 => ?_)
                  refine lv_iload_n hx hb dX0_apply_152 rfl (lv_at hl 2 rfl) ?_
                  refine lv_i2l hx hb dX0_apply_153 rfl ?_
                  refine lv_ladd hx hb dX0_apply_154 ?_
                  refine w_pJ (r := v18) (ci := 3) (k := 4) C w rfl (by decide) (by unfold roK; omega) (GF_wsX20 _) tyX2 tyX2_ok nmX2 (by decide) rfl (List.mem_cons_of_mem _ gw_20_22) rfl rfl (tyX2_ok 4 (by decide)) dX0_apply_155 e20 (fun h20 H locs w hsh20 e21 => ?_)
                  have hsl := hsh20.2.2.2.trans hsl
                  refine lv_goto (tgt := 180) hx hb dX0_apply_158 (by decide) ?_
                  exact b_Bench_apply_180 C N (h_x h) (h_s h) hn0   _ _ h20 th _ _ ls w hsl (lv_sub hl [0] rfl) e21
                ·
                  refine w_case e18 (fun hc e22 => ?_) (fun nc1_8 e22 => ?_)
                  · refine w_tin (tgt := 161) C hc dX0_apply_1 (by decide) (by decide) rfl (by decide) ?_
                    refine w_aload C dX0_apply_161 (lv_at hl 4 rfl) ?_
                    refine w_null (r := a4) (tgt := 180) C dX0_apply_163 (by decide) e22 (fun hc e23 => ?_) (fun hc e23 => ?_)
                    · exact b_Bench_apply_180 C N (h_x h) (h_s h) hn0   _ _ h th _ _ ls w hsl (lv_sub hl [0] rfl) e23
                    · refine w_aload C dX0_apply_166 (lv_at hl 4 rfl) ?_
                      refine lv_aload_n hx hb dX0_apply_168 rfl (lv_at hl 0 rfl) ?_
                      refine w_gR (r := some th) (ci := 1) (k := 3) C w rfl (by decide) (GF_wsX00 _) (by decide) rfl (List.mem_cons_of_mem _ gw_4_6) rfl dX0_apply_169 e23 (fun v21 e24 => ?_)
                      refine w_VAV GW_good (n := 1) (F := 2) (Lc := 43) (o := a4) (av := [va_rf v21]) (rest := []) C w rfl (by decide) (fun a r g hf => k_Keepsake_showOn l D cy z N h a v21 r g hf) gw_22_19 gw_22_20 gw_22_21 gw_16_14 gw_22_22 (by decide +kernel) ⟨Nat.le_of_ble_eq_true rfl, Nat.le_of_ble_eq_true rfl⟩ rfl hl.1 rfl (Nat.le_of_ble_eq_true rfl) dX0_apply_172 (fun a => (mo_Keepsake_showOn N h a v21)) (fun a v22 h23 q1 q2 => by have u1 := (mo_Keepsake_showOn N h a v21) _ _ q1; have u2 := mo_Bench_apply_175 N   h23 th _ _ q2; have u3 := wd_x w; have u4 := u1.1; have u5 := u1.2.1; have u6 := u2.1; have u7 := u2.2.1; show 0 + _ ≤ h_x g - (h_x h) ∧ 0 + _ ≤ h_s g - (h_s h); omega) e24 (fun v22 h23 H locs w hsh23 e25 => ?_)
                      exact b_Bench_apply_175 C N (h_x h) (h_s h) hn0   _ _ h23 th _ _ ls w (by have u5 := hsh23.2.1; have u8 := hsl; omega) (lv_sub hl [0] rfl) e25
                  ·
                    refine w_tout (tgt := 180) 0 9 C (by decide) (by intro k hk; rcases (show k = 0 ∨ k = 1 ∨ k = 2 ∨ k = 3 ∨ k = 4 ∨ k = 5 ∨ k = 6 ∨ k = 7 ∨ k = 8 by omega) with rfl | rfl | rfl | rfl | rfl | rfl | rfl | rfl | rfl; all_goals assumption) rfl rfl dX0_apply_1 (by decide) ?_
                    exact b_Bench_apply_180 C N (h_x h) (h_s h) hn0   _ _ h th _ _ ls w hsl (lv_sub hl [0] rfl) e22
set_option maxRecDepth 20000 in
set_option maxHeartbeats 4000000 in
theorem b_Bench_applyStep_32 {p : Program} {l : Launch} {e : Env} {s : State} {m : MethodId} {args : Array Value} {below : List Frame} {meth : Method} {c : Code} {D : va_G} {cy : cyT} {z : Nat} (C : MX p s m args meth c cX0_applyStep 2 ((some .boolean)) RX0 (Cond.code yX0_applyStep cX0_applyStep 2 ((some .boolean)) :: GW)) (N : Nat) (n0 s0 : Nat) (hn0 : s.heap.size = n0) {r : Int32} {g : hS}  : ∀  (cells slots : Nat) (h : hS) (y0 : Int32) (H : Heap) (locs : List Loc) (ls : Array Slot), wd D cy z s cells h H locs → h_s h = s0 + slots → lv_has ls 2 [] → f_Bench_applyStep_32 N   h y0 = some (r, g) → W p l e { frames := 4, cells := h_x g - n0, slots := h_s g - s0, locals := 121 } s m args below meth c H locs cells slots (MQ below (eQ D cy z (rI r) g) args s (h_x g - n0) (h_s g - s0) (fun q => z ≤ q)) (F0 m 32 ls [.int y0]) := by
  obtain ⟨hx, hb, hr, hml, hown, hts, hlk⟩ := id C
  intro cells slots h y0 H locs ls w hsl hl hE
  have hcc : cells ≤ h_x g - n0 ∧ slots ≤ h_s g - s0 := by
    have q1 := mo_Bench_applyStep_32 N  h y0 _ _ hE
    have q2 := wd_x w
    have q3 := q1.1
    have q4 := q1.2.1
    omega
  unfold f_Bench_applyStep_32 at hE
  refine W.widen (k := h_x g - n0) (n := h_s g - s0) hcc.1 hcc.2 ?_
  exact w_zret C w hE dX0_applyStep_32
set_option maxRecDepth 20000 in
set_option maxHeartbeats 4000000 in
theorem b_Bench_applyStep_31 {p : Program} {l : Launch} {e : Env} {s : State} {m : MethodId} {args : Array Value} {below : List Frame} {meth : Method} {c : Code} {D : va_G} {cy : cyT} {z : Nat} (C : MX p s m args meth c cX0_applyStep 2 ((some .boolean)) RX0 (Cond.code yX0_applyStep cX0_applyStep 2 ((some .boolean)) :: GW)) (N : Nat) (n0 s0 : Nat) (hn0 : s.heap.size = n0) {r : Int32} {g : hS}  : ∀  (cells slots : Nat) (h : hS)  (H : Heap) (locs : List Loc) (ls : Array Slot), wd D cy z s cells h H locs → h_s h = s0 + slots → lv_has ls 2 [] → f_Bench_applyStep_31 N   h  = some (r, g) → W p l e { frames := 4, cells := h_x g - n0, slots := h_s g - s0, locals := 121 } s m args below meth c H locs cells slots (MQ below (eQ D cy z (rI r) g) args s (h_x g - n0) (h_s g - s0) (fun q => z ≤ q)) (F0 m 31 ls []) := by
  obtain ⟨hx, hb, hr, hml, hown, hts, hlk⟩ := id C
  intro cells slots h  H locs ls w hsl hl hE
  have hcc : cells ≤ h_x g - n0 ∧ slots ≤ h_s g - s0 := by
    have q1 := mo_Bench_applyStep_31 N  h  _ _ hE
    have q2 := wd_x w
    have q3 := q1.1
    have q4 := q1.2.1
    omega
  unfold f_Bench_applyStep_31 at hE
  refine lv_iconst (v := 0) hx hb dX0_applyStep_31 (by decide) ?_
  exact b_Bench_applyStep_32 C N n0 s0 hn0   _ _ h (0 : Int32) _ _ ls w hsl (lv_sub hl [] rfl) hE
set_option maxRecDepth 20000 in
set_option maxHeartbeats 4000000 in
theorem b_Bench_applyStep_24 {p : Program} {l : Launch} {e : Env} {s : State} {m : MethodId} {args : Array Value} {below : List Frame} {meth : Method} {c : Code} {D : va_G} {cy : cyT} {z : Nat} (C : MX p s m args meth c cX0_applyStep 2 ((some .boolean)) RX0 (Cond.code yX0_applyStep cX0_applyStep 2 ((some .boolean)) :: GW)) (N : Nat) (n0 s0 : Nat) (hn0 : s.heap.size = n0) {r : Int32} {g : hS}  : ∀  (cells slots : Nat) (h : hS) (y0 : Int32) (H : Heap) (locs : List Loc) (ls : Array Slot), wd D cy z s cells h H locs → h_s h = s0 + slots → lv_has ls 2 [] → f_Bench_applyStep_24 N   h y0 = some (r, g) → W p l e { frames := 4, cells := h_x g - n0, slots := h_s g - s0, locals := 121 } s m args below meth c H locs cells slots (MQ below (eQ D cy z (rI r) g) args s (h_x g - n0) (h_s g - s0) (fun q => z ≤ q)) (F0 m 24 ls [.int y0]) := by
  obtain ⟨hx, hb, hr, hml, hown, hts, hlk⟩ := id C
  intro cells slots h y0 H locs ls w hsl hl hE
  have hcc : cells ≤ h_x g - n0 ∧ slots ≤ h_s g - s0 := by
    have q1 := mo_Bench_applyStep_24 N  h y0 _ _ hE
    have q2 := wd_x w
    have q3 := q1.1
    have q4 := q1.2.1
    omega
  unfold f_Bench_applyStep_24 at hE
  refine w_if_eq (tgt := 31) C dX0_applyStep_24 (by decide) hE (fun hc e1 => ?_) (fun hc e1 => ?_)
  · exact b_Bench_applyStep_31 C N n0 s0 hn0   _ _ h  _ _ ls w hsl (lv_sub hl [] rfl) e1
  · refine lv_iconst (v := 1) hx hb dX0_applyStep_27 (by decide) ?_
    refine lv_goto (tgt := 32) hx hb dX0_applyStep_28 (by decide) ?_
    exact b_Bench_applyStep_32 C N n0 s0 hn0   _ _ h (1 : Int32) _ _ ls w hsl (lv_sub hl [] rfl) e1
set_option maxRecDepth 20000 in
set_option maxHeartbeats 4000000 in
theorem k_Bench_applyStep (l : Launch) (D : va_G) (cy : cyT) (z : Nat) (N : Nat) (h : hS) (th : Nat) (a1 : Option Nat) (r : Int32) (g : hS) (hE : f_Bench_applyStep N h th a1 = some (r, g)) : ct l yX0_applyStep (Cond.code yX0_applyStep cX0_applyStep 2 ((some .boolean)) :: GW) { frames := 4, cells := h_x g - h_x h, slots := h_s g - h_s h, locals := 121 } D cy z h [.ref th, va_rf a1] (rI r) g := by
  refine Met.ofW (cc := cX0_applyStep) (maxL := 2) (ret := (some .boolean)) (by decide) rfl ?_
  intro p e s m args below meth c s₁ B hml hv
  obtain ⟨rfl, hw⟩ := hv
  have C : MX p s m ([.ref th, va_rf a1] : List Value).toArray meth c cX0_applyStep 2 ((some .boolean)) RX0 (Cond.code yX0_applyStep cX0_applyStep 2 ((some .boolean)) :: GW) := ⟨B.exec, B.bytes, B.returns, hml, findClass_of_methodNamed B.named, atoms_spec (ws := Cond.code yX0_applyStep cX0_applyStep 2 ((some .boolean)) :: GW) B.pre, B.notSynchronized⟩
  obtain ⟨hx, hb, hr, hml, hown, hts, hlk⟩ := id C
  have w := wd_of hw
  have hsl : h_s h = h_s h + 0 := rfl
  have hn0 : s.heap.size = h_x h := (wd_x w).1
  obtain ⟨ls, hen, hl⟩ : ∃ ls : Array Slot, entryFrame m ([.ref th, va_rf a1] : List Value).toArray 2 = F0 m 0 ls [] ∧ lv_has ls 2 [(0, .ref th), (1, va_rf a1)] := by
    cases a1 <;> exact ⟨_, lg_entry_eq _ _ _, lv_entry _ (Nat.le_of_ble_eq_true rfl)⟩
  rw [hen]
  have hcc : 0 ≤ h_x g - h_x h ∧ 0 ≤ h_s g - h_s h := ⟨Nat.zero_le _, Nat.zero_le _⟩
  unfold f_Bench_applyStep at hE
  refine w_aload_n C dX0_applyStep_0 rfl (lv_at hl 1 rfl) ?_
  refine w_null (r := a1) (tgt := 31) C dX0_applyStep_1 (by decide) hE (fun hc e1 => ?_) (fun hc e1 => ?_)
  · exact b_Bench_applyStep_31 C N (h_x h) (h_s h) hn0   _ _ h  _ _ ls w hsl (lv_sub hl [] rfl) e1
  · refine lv_aload_n hx hb dX0_applyStep_4 rfl (lv_at hl 0 rfl) ?_
    refine w_aload_n C dX0_applyStep_5 rfl (lv_at hl 1 rfl) ?_
    refine w_gI (r := a1) (ci := 8) (k := 0) C w rfl (by decide) (GF_wsX70 _) (by decide) rfl (List.mem_cons_of_mem _ gw_20_14) rfl dX0_applyStep_6 e1 (fun v1 e2 => ?_)
    refine w_aload_n C dX0_applyStep_9 rfl (lv_at hl 1 rfl) ?_
    refine w_gI (r := a1) (ci := 8) (k := 1) C w rfl (by decide) (GF_wsX70 _) (by decide) rfl (List.mem_cons_of_mem _ gw_20_15) rfl dX0_applyStep_10 e2 (fun v2 e3 => ?_)
    refine w_aload_n C dX0_applyStep_13 rfl (lv_at hl 1 rfl) ?_
    refine w_gI (r := a1) (ci := 8) (k := 2) C w rfl (by decide) (GF_wsX70 _) (by decide) rfl (List.mem_cons_of_mem _ gw_20_16) rfl dX0_applyStep_14 e3 (fun v3 e4 => ?_)
    refine w_aload_n C dX0_applyStep_17 rfl (lv_at hl 1 rfl) ?_
    refine w_gR (r := a1) (ci := 8) (k := 3) C w rfl (by decide) (GF_wsX70 _) (by decide) rfl (List.mem_cons_of_mem _ gw_20_17) rfl dX0_applyStep_18 e4 (fun v4 e5 => ?_)
    refine w_VAI GW_good (n := 4) (F := 3) (Lc := 97) (o := some th) (av := [.int v1, .int v2, .int v3, va_rf v4]) (rest := []) C w rfl (by decide) (fun a r g hf => k_Bench_apply l D cy z N h a v1 v2 v3 v4 r g hf) gw_20_18 gw_20_19 gw_20_20 gw_2_0 gw_20_21 (by decide +kernel) ⟨Nat.le_of_ble_eq_true rfl, Nat.le_of_ble_eq_true rfl⟩ rfl hl.1 rfl (Nat.le_of_ble_eq_true rfl) dX0_applyStep_21 (fun a => (mo_Bench_apply N h a v1 v2 v3 v4)) (fun a v5 h6 q1 q2 => by have u1 := (mo_Bench_apply N h a v1 v2 v3 v4) _ _ q1; have u2 := mo_Bench_applyStep_24 N   h6 v5 _ _ q2; have u3 := wd_x w; have u4 := u1.1; have u5 := u1.2.1; have u6 := u2.1; have u7 := u2.2.1; show 0 + _ ≤ h_x g - (h_x h) ∧ 0 + _ ≤ h_s g - (h_s h); omega) e5 (fun v5 h6 H locs w hsh6 e6 => ?_)
    exact b_Bench_applyStep_24 C N (h_x h) (h_s h) hn0   _ _ h6 v5 _ _ ls w (by have u5 := hsh6.2.1; have u8 := hsl; omega) (lv_sub hl [] rfl) e6
set_option maxRecDepth 20000 in
set_option maxHeartbeats 4000000 in
theorem b_Bench_build_28 {p : Program} {l : Launch} {e : Env} {s : State} {m : MethodId} {args : Array Value} {below : List Frame} {meth : Method} {c : Code} {D : va_G} {cy : cyT} {z : Nat} (C : MX p s m args meth c cX0_build 3 ((some .boolean)) RX0 (Cond.code yX0_build cX0_build 3 ((some .boolean)) :: GW)) (N : Nat) (n0 s0 : Nat) (hn0 : s.heap.size = n0) {r : Int32} {g : hS} {rc11 : hS → Nat → Option Nat → Int32 → Option (Int32 × hS)} (hsh11 : ∀ (h : hS) (th : Nat) (a1 : Option Nat) (x2 : Int32), Mo h (rc11 h th a1 x2)) (hrc11 : ∀ (cells slots : Nat) (h : hS) (th : Nat) (a1 : Option Nat) (x2 : Int32) (H : Heap) (locs : List Loc) (ls : Array Slot), wd D cy z s cells h H locs → h_s h = s0 + slots → lv_has ls 3 [(0, .ref th), (1, va_rf a1), (2, .int x2)] → rc11 h th a1 x2 = some (r, g) → W p l e { frames := 5, cells := h_x g - n0, slots := h_s g - s0, locals := 142 } s m args below meth c H locs cells slots (MQ below (eQ D cy z (rI r) g) args s (h_x g - n0) (h_s g - s0) (fun q => z ≤ q)) (F0 m 11 ls [])) : ∀  (cells slots : Nat) (h : hS) (th : Nat) (a1 : Option Nat) (x2 : Int32) (y0 : Int32) (H : Heap) (locs : List Loc) (ls : Array Slot), wd D cy z s cells h H locs → h_s h = s0 + slots → lv_has ls 3 [(0, .ref th), (1, va_rf a1), (2, .int x2)] → f_Bench_build_28 N rc11  h th a1 x2 y0 = some (r, g) → W p l e { frames := 5, cells := h_x g - n0, slots := h_s g - s0, locals := 142 } s m args below meth c H locs cells slots (MQ below (eQ D cy z (rI r) g) args s (h_x g - n0) (h_s g - s0) (fun q => z ≤ q)) (F0 m 28 ls [.int y0]) := by
  obtain ⟨hx, hb, hr, hml, hown, hts, hlk⟩ := id C
  intro cells slots h th a1 x2 y0 H locs ls w hsl hl hE
  have hcc : cells ≤ h_x g - n0 ∧ slots ≤ h_s g - s0 := by
    have q1 := mo_Bench_build_28 N hsh11 h th a1 x2 y0 _ _ hE
    have q2 := wd_x w
    have q3 := q1.1
    have q4 := q1.2.1
    omega
  unfold f_Bench_build_28 at hE
  refine w_if_ne (tgt := 38) C dX0_build_28 (by decide) hE (fun hc e1 => ?_) (fun hc e1 => ?_)
  · obtain ⟨v1, ev1, e2⟩ := bn_some e1
    refine lv_iinc (v := v1) (lv' := [(2, .int v1), (0, .ref th), (1, va_rf a1)]) hx hb dX0_build_38 hl (k := 2) rfl (by rw [ev1]; rfl) (by decide) (by cases a1 <;> rfl) (fun ls hl => ?_)
    refine lv_goto (tgt := 11) hx hb dX0_build_41 (by decide) ?_
    exact hrc11 _ _ h th a1 v1 _ _ ls w hsl (lv_sub hl [1, 2, 0] rfl) e2
  · refine lv_aload_n hx hb dX0_build_31 rfl (lv_at hl 0 rfl) ?_
    refine lv_iload_n hx hb dX0_build_32 rfl (lv_at hl 2 rfl) ?_
    refine w_pI (r := some th) (ci := 1) (k := 4) C w rfl (by decide) (by unfold roK; omega) (GF_wsX00 _) tyX0 tyX0_ok nmX0 (by decide) rfl (List.mem_cons_of_mem _ gw_4_7) rfl rfl (tyX0_ok 4 (by decide)) dX0_build_33 e1 (fun h2 H locs w hsh2 e3 => ?_)
    have hsl := hsh2.2.2.2.trans hsl
    refine lv_iconst (v := 0) hx hb dX0_build_36 (by decide) ?_
    refine W.widen (k := h_x g - n0) (n := h_s g - s0) hcc.1 hcc.2 ?_
    exact w_zret C w e3 dX0_build_37
set_option maxRecDepth 20000 in
set_option maxHeartbeats 4000000 in
theorem b_Bench_build_11 {p : Program} {l : Launch} {e : Env} {s : State} {m : MethodId} {args : Array Value} {below : List Frame} {meth : Method} {c : Code} {D : va_G} {cy : cyT} {z : Nat} (C : MX p s m args meth c cX0_build 3 ((some .boolean)) RX0 (Cond.code yX0_build cX0_build 3 ((some .boolean)) :: GW)) (N : Nat) (n0 s0 : Nat) (hn0 : s.heap.size = n0) {r : Int32} {g : hS}  : ∀ (n : Nat) (cells slots : Nat) (h : hS) (th : Nat) (a1 : Option Nat) (x2 : Int32) (H : Heap) (locs : List Loc) (ls : Array Slot), wd D cy z s cells h H locs → h_s h = s0 + slots → lv_has ls 3 [(0, .ref th), (1, va_rf a1), (2, .int x2)] → f_Bench_build_11 N  n h th a1 x2 = some (r, g) → W p l e { frames := 5, cells := h_x g - n0, slots := h_s g - s0, locals := 142 } s m args below meth c H locs cells slots (MQ below (eQ D cy z (rI r) g) args s (h_x g - n0) (h_s g - s0) (fun q => z ≤ q)) (F0 m 11 ls []) := by
  obtain ⟨hx, hb, hr, hml, hown, hts, hlk⟩ := id C
  intro n
  induction n with
  | zero =>
    intro cells slots h th a1 x2 H locs ls w hsl hl hE
    cases hE
  | succ n ih =>
    intro cells slots h th a1 x2 H locs ls w hsl hl hE
    have hcc : cells ≤ h_x g - n0 ∧ slots ≤ h_s g - s0 := by
      have q1 := mo_Bench_build_11 N  (n + 1) h th a1 x2 _ _ hE
      have q2 := wd_x w
      have q3 := q1.1
      have q4 := q1.2.1
      omega
    unfold f_Bench_build_11 at hE
    refine lv_iload_n hx hb dX0_build_11 rfl (lv_at hl 2 rfl) ?_
    refine w_aload_n C dX0_build_12 rfl (lv_at hl 1 rfl) ?_
    refine w_gI (r := a1) (ci := 2) (k := 1) C w rfl (by decide) (GF_wsX10 _) (by decide) rfl (List.mem_cons_of_mem _ gw_19_21) rfl dX0_build_13 hE (fun v1 e1 => ?_)
    refine w_icmp_ge (tgt := 44) C dX0_build_16 (by decide) e1 (fun hc e2 => ?_) (fun hc e2 => ?_)
    · refine lv_iconst (v := 1) hx hb dX0_build_44 (by decide) ?_
      refine W.widen (k := h_x g - n0) (n := h_s g - s0) hcc.1 hcc.2 ?_
      exact w_zret C w e2 dX0_build_45
    · refine lv_aload_n hx hb dX0_build_19 rfl (lv_at hl 0 rfl) ?_
      refine w_aload_n C dX0_build_20 rfl (lv_at hl 1 rfl) ?_
      refine lv_iload_n hx hb dX0_build_21 rfl (lv_at hl 2 rfl) ?_
      refine w_VR GW_good (n := 1) (F := 0) (Lc := 0) (o := a1) (av := [.int x2]) (rest := [.ref th]) C w rfl (by decide) (fun a r g hf => k_Chain_stepAt l D cy z N h a x2 r g hf) gw_20_6 gw_20_7 gw_20_8 gw_3_6 gw_20_9 (by decide +kernel) ⟨Nat.le_of_ble_eq_true rfl, Nat.le_of_ble_eq_true rfl⟩ rfl hl.1 rfl (Nat.le_of_ble_eq_true rfl) dX0_build_22 (fun a => (sh_Chain_stepAt N h a x2)) ⟨hcc.1, hcc.2⟩ e2 (fun v2 h3 H locs w hsh3 e3 => ?_)
      have hsl := hsh3.2.2.2.trans hsl
      refine w_VAI GW_good (n := 1) (F := 4) (Lc := 121) (o := some th) (av := [va_rf v2]) (rest := []) C w rfl (by decide) (fun a r g hf => k_Bench_applyStep l D cy z N h3 a v2 r g hf) gw_20_10 gw_20_11 gw_20_12 gw_2_0 gw_20_13 (by decide +kernel) ⟨Nat.le_of_ble_eq_true rfl, Nat.le_of_ble_eq_true rfl⟩ rfl hl.1 rfl (Nat.le_of_ble_eq_true rfl) dX0_build_25 (fun a => (mo_Bench_applyStep N h3 a v2)) (fun a v4 h5 q1 q2 => by have u1 := (mo_Bench_applyStep N h3 a v2) _ _ q1; have u2 := mo_Bench_build_28 N (mo_Bench_build_11 N  n)  h5 th a1 x2 v4 _ _ q2; have u3 := wd_x w; have u4 := u1.1; have u5 := u1.2.1; have u6 := u2.1; have u7 := u2.2.1; show cells + _ ≤ h_x g - n0 ∧ slots + _ ≤ h_s g - s0; omega) e3 (fun v4 h5 H locs w hsh5 e4 => ?_)
      exact b_Bench_build_28 C N n0 s0 hn0 (mo_Bench_build_11 N  n) ih  _ _ h5 th a1 x2 v4 _ _ ls w (by have u5 := hsh5.2.1; have u8 := hsl; omega) (lv_sub hl [0, 1, 2] rfl) e4
set_option maxRecDepth 20000 in
set_option maxHeartbeats 4000000 in
theorem b_Bench_build_9 {p : Program} {l : Launch} {e : Env} {s : State} {m : MethodId} {args : Array Value} {below : List Frame} {meth : Method} {c : Code} {D : va_G} {cy : cyT} {z : Nat} (C : MX p s m args meth c cX0_build 3 ((some .boolean)) RX0 (Cond.code yX0_build cX0_build 3 ((some .boolean)) :: GW)) (N : Nat) (n0 s0 : Nat) (hn0 : s.heap.size = n0) {r : Int32} {g : hS}  : ∀  (cells slots : Nat) (h : hS) (th : Nat) (a1 : Option Nat) (H : Heap) (locs : List Loc) (ls : Array Slot), wd D cy z s cells h H locs → h_s h = s0 + slots → lv_has ls 3 [(0, .ref th), (1, va_rf a1)] → f_Bench_build_9 N   h th a1 = some (r, g) → W p l e { frames := 5, cells := h_x g - n0, slots := h_s g - s0, locals := 142 } s m args below meth c H locs cells slots (MQ below (eQ D cy z (rI r) g) args s (h_x g - n0) (h_s g - s0) (fun q => z ≤ q)) (F0 m 9 ls []) := by
  obtain ⟨hx, hb, hr, hml, hown, hts, hlk⟩ := id C
  intro cells slots h th a1 H locs ls w hsl hl hE
  have hcc : cells ≤ h_x g - n0 ∧ slots ≤ h_s g - s0 := by
    have q1 := mo_Bench_build_9 N  h th a1 _ _ hE
    have q2 := wd_x w
    have q3 := q1.1
    have q4 := q1.2.1
    omega
  unfold f_Bench_build_9 at hE
  refine lv_iconst (v := 0) hx hb dX0_build_9 (by decide) ?_
  refine lv_istore_n (lv' := [(2, .int (0 : Int32)), (0, .ref th), (1, va_rf a1)]) hx hb dX0_build_10 rfl hl (by decide) (by cases a1 <;> rfl) (fun ls hl => ?_)
  exact b_Bench_build_11 C N n0 s0 hn0  N _ _ h th a1 (0 : Int32) _ _ ls w hsl (lv_sub hl [1, 2, 0] rfl) hE
set_option maxRecDepth 20000 in
set_option maxHeartbeats 4000000 in
theorem k_Bench_build (l : Launch) (D : va_G) (cy : cyT) (z : Nat) (N : Nat) (h : hS) (th : Nat) (a1 : Option Nat) (r : Int32) (g : hS) (hE : f_Bench_build N h th a1 = some (r, g)) : ct l yX0_build (Cond.code yX0_build cX0_build 3 ((some .boolean)) :: GW) { frames := 5, cells := h_x g - h_x h, slots := h_s g - h_s h, locals := 142 } D cy z h [.ref th, va_rf a1] (rI r) g := by
  refine Met.ofW (cc := cX0_build) (maxL := 3) (ret := (some .boolean)) (by decide) rfl ?_
  intro p e s m args below meth c s₁ B hml hv
  obtain ⟨rfl, hw⟩ := hv
  have C : MX p s m ([.ref th, va_rf a1] : List Value).toArray meth c cX0_build 3 ((some .boolean)) RX0 (Cond.code yX0_build cX0_build 3 ((some .boolean)) :: GW) := ⟨B.exec, B.bytes, B.returns, hml, findClass_of_methodNamed B.named, atoms_spec (ws := Cond.code yX0_build cX0_build 3 ((some .boolean)) :: GW) B.pre, B.notSynchronized⟩
  obtain ⟨hx, hb, hr, hml, hown, hts, hlk⟩ := id C
  have w := wd_of hw
  have hsl : h_s h = h_s h + 0 := rfl
  have hn0 : s.heap.size = h_x h := (wd_x w).1
  obtain ⟨ls, hen, hl⟩ : ∃ ls : Array Slot, entryFrame m ([.ref th, va_rf a1] : List Value).toArray 3 = F0 m 0 ls [] ∧ lv_has ls 3 [(0, .ref th), (1, va_rf a1)] := by
    cases a1 <;> exact ⟨_, lg_entry_eq _ _ _, lv_entry _ (Nat.le_of_ble_eq_true rfl)⟩
  rw [hen]
  have hcc : 0 ≤ h_x g - h_x h ∧ 0 ≤ h_s g - h_s h := ⟨Nat.zero_le _, Nat.zero_le _⟩
  unfold f_Bench_build at hE
  refine lv_aload_n hx hb dX0_build_0 rfl (lv_at hl 0 rfl) ?_
  refine lv_iconst (v := -1) hx hb dX0_build_1 (by decide) ?_
  refine w_pI (r := some th) (ci := 1) (k := 4) C w rfl (by decide) (by unfold roK; omega) (GF_wsX00 _) tyX0 tyX0_ok nmX0 (by decide) rfl (List.mem_cons_of_mem _ gw_4_7) rfl rfl (tyX0_ok 4 (by decide)) dX0_build_2 hE (fun h1 H locs w hsh1 e1 => ?_)
  have hsl := hsh1.2.2.2.trans hsl
  refine lv_aload_n hx hb dX0_build_5 rfl (lv_at hl 0 rfl) ?_
  refine w_VAV GW_good (n := 0) (F := 1) (Lc := 22) (o := some th) (av := []) (rest := []) C w rfl (by decide) (fun a r g hf => k_Bench_startAnew l D cy z N h1 a  r g hf) gw_19_22 gw_19_23 gw_20_0 gw_2_0 gw_20_1 (by decide +kernel) ⟨Nat.le_of_ble_eq_true rfl, Nat.le_of_ble_eq_true rfl⟩ rfl hl.1 rfl (Nat.le_of_ble_eq_true rfl) dX0_build_6 (fun a => (mo_Bench_startAnew N h1 a )) (fun a v2 h3 q1 q2 => by have u1 := (mo_Bench_startAnew N h1 a ) _ _ q1; have u2 := mo_Bench_build_9 N   h3 th a1 _ _ q2; have u3 := wd_x w; have u4 := u1.1; have u5 := u1.2.1; have u6 := u2.1; have u7 := u2.2.1; show 0 + _ ≤ h_x g - (h_x h) ∧ 0 + _ ≤ h_s g - (h_s h); omega) e1 (fun v2 h3 H locs w hsh3 e2 => ?_)
  exact b_Bench_build_9 C N (h_x h) (h_s h) hn0   _ _ h3 th a1 _ _ ls w (by have u5 := hsh3.2.1; have u8 := hsl; omega) (lv_sub hl [0, 1] rfl) e2
set_option maxRecDepth 20000 in
set_option maxHeartbeats 4000000 in
theorem b_Bench_standAhead_46 {p : Program} {l : Launch} {e : Env} {s : State} {m : MethodId} {args : Array Value} {below : List Frame} {meth : Method} {c : Code} {D : va_G} {cy : cyT} {z : Nat} (C : MX p s m args meth c cX0_standAhead 4 (none) RX0 (Cond.code yX0_standAhead cX0_standAhead 4 (none) :: GW)) (N : Nat) (n0 s0 : Nat) (hn0 : s.heap.size = n0) {r : Unit} {g : hS}  : ∀  (cells slots : Nat) (h : hS)  (H : Heap) (locs : List Loc) (ls : Array Slot), wd D cy z s cells h H locs → h_s h = s0 + slots → lv_has ls 4 [] → f_Bench_standAhead_46 N   h  = some (r, g) → W p l e { frames := 5, cells := h_x g - n0, slots := h_s g - s0, locals := 142 } s m args below meth c H locs cells slots (MQ below (eQ D cy z (rV r) g) args s (h_x g - n0) (h_s g - s0) (fun q => z ≤ q)) (F0 m 46 ls []) := by
  obtain ⟨hx, hb, hr, hml, hown, hts, hlk⟩ := id C
  intro cells slots h  H locs ls w hsl hl hE
  have hcc : cells ≤ h_x g - n0 ∧ slots ≤ h_s g - s0 := by
    have q1 := mo_Bench_standAhead_46 N  h  _ _ hE
    have q2 := wd_x w
    have q3 := q1.1
    have q4 := q1.2.1
    omega
  unfold f_Bench_standAhead_46 at hE
  refine W.widen (k := h_x g - n0) (n := h_s g - s0) hcc.1 hcc.2 ?_
  exact w_vret C w hE dX0_standAhead_46
set_option maxRecDepth 20000 in
set_option maxHeartbeats 4000000 in
theorem b_Bench_standAhead_35 {p : Program} {l : Launch} {e : Env} {s : State} {m : MethodId} {args : Array Value} {below : List Frame} {meth : Method} {c : Code} {D : va_G} {cy : cyT} {z : Nat} (C : MX p s m args meth c cX0_standAhead 4 (none) RX0 (Cond.code yX0_standAhead cX0_standAhead 4 (none) :: GW)) (N : Nat) (n0 s0 : Nat) (hn0 : s.heap.size = n0) {r : Unit} {g : hS}  : ∀  (cells slots : Nat) (h : hS) (th : Nat) (H : Heap) (locs : List Loc) (ls : Array Slot), wd D cy z s cells h H locs → h_s h = s0 + slots → lv_has ls 4 [(0, .ref th)] → f_Bench_standAhead_35 N   h th = some (r, g) → W p l e { frames := 5, cells := h_x g - n0, slots := h_s g - s0, locals := 142 } s m args below meth c H locs cells slots (MQ below (eQ D cy z (rV r) g) args s (h_x g - n0) (h_s g - s0) (fun q => z ≤ q)) (F0 m 35 ls []) := by
  obtain ⟨hx, hb, hr, hml, hown, hts, hlk⟩ := id C
  intro cells slots h th H locs ls w hsl hl hE
  have hcc : cells ≤ h_x g - n0 ∧ slots ≤ h_s g - s0 := by
    have q1 := mo_Bench_standAhead_35 N  h th _ _ hE
    have q2 := wd_x w
    have q3 := q1.1
    have q4 := q1.2.1
    omega
  unfold f_Bench_standAhead_35 at hE
  refine lv_aload_n hx hb dX0_standAhead_35 rfl (lv_at hl 0 rfl) ?_
  refine w_gR (r := some th) (ci := 1) (k := 2) C w rfl (by decide) (GF_wsX00 _) (by decide) rfl (List.mem_cons_of_mem _ gw_4_5) rfl dX0_standAhead_36 hE (fun v1 e1 => ?_)
  refine lv_aload_n hx hb dX0_standAhead_39 rfl (lv_at hl 0 rfl) ?_
  refine w_gR (r := some th) (ci := 1) (k := 0) C w rfl (by decide) (GF_wsX00 _) (by decide) rfl (List.mem_cons_of_mem _ gw_4_3) rfl dX0_standAhead_40 e1 (fun v2 e2 => ?_)
  refine w_VAV GW_good (n := 1) (F := 1) (Lc := 60) (o := v1) (av := [va_rf v2]) (rest := []) C w rfl (by decide) (fun a r g hf => k_Curve_take l D cy z N h a v2 r g hf) gw_50_9 gw_24_6 gw_24_7 gw_2_22 gw_24_8 (by decide +kernel) ⟨Nat.le_of_ble_eq_true rfl, Nat.le_of_ble_eq_true rfl⟩ rfl hl.1 rfl (Nat.le_of_ble_eq_true rfl) dX0_standAhead_43 (fun a => (mo_Curve_take N h a v2)) (fun a v3 h4 q1 q2 => by have u1 := (mo_Curve_take N h a v2) _ _ q1; have u2 := mo_Bench_standAhead_46 N   h4  _ _ q2; have u3 := wd_x w; have u4 := u1.1; have u5 := u1.2.1; have u6 := u2.1; have u7 := u2.2.1; show cells + _ ≤ h_x g - n0 ∧ slots + _ ≤ h_s g - s0; omega) e2 (fun v3 h4 H locs w hsh4 e3 => ?_)
  exact b_Bench_standAhead_46 C N n0 s0 hn0   _ _ h4  _ _ ls w (by have u5 := hsh4.2.1; have u8 := hsl; omega) (lv_sub hl [] rfl) e3
set_option maxRecDepth 20000 in
set_option maxHeartbeats 4000000 in
theorem b_Bench_standAhead_28 {p : Program} {l : Launch} {e : Env} {s : State} {m : MethodId} {args : Array Value} {below : List Frame} {meth : Method} {c : Code} {D : va_G} {cy : cyT} {z : Nat} (C : MX p s m args meth c cX0_standAhead 4 (none) RX0 (Cond.code yX0_standAhead cX0_standAhead 4 (none) :: GW)) (N : Nat) (n0 s0 : Nat) (hn0 : s.heap.size = n0) {r : Unit} {g : hS} {rc6 : hS → Nat → Option Nat → Int32 → Int32 → Option (Unit × hS)} (hsh6 : ∀ (h : hS) (th : Nat) (a1 : Option Nat) (x2 : Int32) (x3 : Int32), Mo h (rc6 h th a1 x2 x3)) (hrc6 : ∀ (cells slots : Nat) (h : hS) (th : Nat) (a1 : Option Nat) (x2 : Int32) (x3 : Int32) (H : Heap) (locs : List Loc) (ls : Array Slot), wd D cy z s cells h H locs → h_s h = s0 + slots → lv_has ls 4 [(0, .ref th), (1, va_rf a1), (2, .int x2), (3, .int x3)] → rc6 h th a1 x2 x3 = some (r, g) → W p l e { frames := 5, cells := h_x g - n0, slots := h_s g - s0, locals := 142 } s m args below meth c H locs cells slots (MQ below (eQ D cy z (rV r) g) args s (h_x g - n0) (h_s g - s0) (fun q => z ≤ q)) (F0 m 6 ls [])) : ∀  (cells slots : Nat) (h : hS) (th : Nat) (a1 : Option Nat) (x2 : Int32) (x3 : Int32) (y0 : Int32) (H : Heap) (locs : List Loc) (ls : Array Slot), wd D cy z s cells h H locs → h_s h = s0 + slots → lv_has ls 4 [(0, .ref th), (1, va_rf a1), (2, .int x2), (3, .int x3)] → f_Bench_standAhead_28 N rc6  h th a1 x2 x3 y0 = some (r, g) → W p l e { frames := 5, cells := h_x g - n0, slots := h_s g - s0, locals := 142 } s m args below meth c H locs cells slots (MQ below (eQ D cy z (rV r) g) args s (h_x g - n0) (h_s g - s0) (fun q => z ≤ q)) (F0 m 28 ls [.int y0]) := by
  obtain ⟨hx, hb, hr, hml, hown, hts, hlk⟩ := id C
  intro cells slots h th a1 x2 x3 y0 H locs ls w hsl hl hE
  have hcc : cells ≤ h_x g - n0 ∧ slots ≤ h_s g - s0 := by
    have q1 := mo_Bench_standAhead_28 N hsh6 h th a1 x2 x3 y0 _ _ hE
    have q2 := wd_x w
    have q3 := q1.1
    have q4 := q1.2.1
    omega
  unfold f_Bench_standAhead_28 at hE
  refine lv_pop hx hb dX0_standAhead_28 rfl ?_
  obtain ⟨v1, ev1, e1⟩ := bn_some hE
  refine lv_iinc (v := v1) (lv' := [(3, .int v1), (0, .ref th), (1, va_rf a1), (2, .int x2)]) hx hb dX0_standAhead_29 hl (k := 3) rfl (by rw [ev1]; rfl) (by decide) rfl (fun ls hl => ?_)
  refine lv_goto (tgt := 6) hx hb dX0_standAhead_32 (by decide) ?_
  exact hrc6 _ _ h th a1 x2 v1 _ _ ls w hsl (lv_sub hl [1, 2, 3, 0] rfl) e1
set_option maxRecDepth 20000 in
set_option maxHeartbeats 4000000 in
theorem b_Bench_standAhead_6 {p : Program} {l : Launch} {e : Env} {s : State} {m : MethodId} {args : Array Value} {below : List Frame} {meth : Method} {c : Code} {D : va_G} {cy : cyT} {z : Nat} (C : MX p s m args meth c cX0_standAhead 4 (none) RX0 (Cond.code yX0_standAhead cX0_standAhead 4 (none) :: GW)) (N : Nat) (n0 s0 : Nat) (hn0 : s.heap.size = n0) {r : Unit} {g : hS}  : ∀ (n : Nat) (cells slots : Nat) (h : hS) (th : Nat) (a1 : Option Nat) (x2 : Int32) (x3 : Int32) (H : Heap) (locs : List Loc) (ls : Array Slot), wd D cy z s cells h H locs → h_s h = s0 + slots → lv_has ls 4 [(0, .ref th), (1, va_rf a1), (2, .int x2), (3, .int x3)] → f_Bench_standAhead_6 N  n h th a1 x2 x3 = some (r, g) → W p l e { frames := 5, cells := h_x g - n0, slots := h_s g - s0, locals := 142 } s m args below meth c H locs cells slots (MQ below (eQ D cy z (rV r) g) args s (h_x g - n0) (h_s g - s0) (fun q => z ≤ q)) (F0 m 6 ls []) := by
  obtain ⟨hx, hb, hr, hml, hown, hts, hlk⟩ := id C
  intro n
  induction n with
  | zero =>
    intro cells slots h th a1 x2 x3 H locs ls w hsl hl hE
    cases hE
  | succ n ih =>
    intro cells slots h th a1 x2 x3 H locs ls w hsl hl hE
    have hcc : cells ≤ h_x g - n0 ∧ slots ≤ h_s g - s0 := by
      have q1 := mo_Bench_standAhead_6 N  (n + 1) h th a1 x2 x3 _ _ hE
      have q2 := wd_x w
      have q3 := q1.1
      have q4 := q1.2.1
      omega
    unfold f_Bench_standAhead_6 at hE
    refine lv_iload_n hx hb dX0_standAhead_6 rfl (lv_at hl 3 rfl) ?_
    refine lv_iload_n hx hb dX0_standAhead_7 rfl (lv_at hl 2 rfl) ?_
    refine w_icmp_ge (tgt := 35) C dX0_standAhead_8 (by decide) hE (fun hc e1 => ?_) (fun hc e1 => ?_)
    · exact b_Bench_standAhead_35 C N n0 s0 hn0   _ _ h th _ _ ls w hsl (lv_sub hl [0] rfl) e1
    · refine lv_iload_n hx hb dX0_standAhead_11 rfl (lv_at hl 3 rfl) ?_
      refine w_aload_n C dX0_standAhead_12 rfl (lv_at hl 1 rfl) ?_
      refine w_gI (r := a1) (ci := 2) (k := 1) C w rfl (by decide) (GF_wsX10 _) (by decide) rfl (List.mem_cons_of_mem _ gw_19_21) rfl dX0_standAhead_13 e1 (fun v1 e2 => ?_)
      refine w_icmp_ge (tgt := 35) C dX0_standAhead_16 (by decide) e2 (fun hc e3 => ?_) (fun hc e3 => ?_)
      · exact b_Bench_standAhead_35 C N n0 s0 hn0   _ _ h th _ _ ls w hsl (lv_sub hl [0] rfl) e3
      · refine lv_aload_n hx hb dX0_standAhead_19 rfl (lv_at hl 0 rfl) ?_
        refine w_aload_n C dX0_standAhead_20 rfl (lv_at hl 1 rfl) ?_
        refine lv_iload_n hx hb dX0_standAhead_21 rfl (lv_at hl 3 rfl) ?_
        refine w_VR GW_good (n := 1) (F := 0) (Lc := 0) (o := a1) (av := [.int x3]) (rest := [.ref th]) C w rfl (by decide) (fun a r g hf => k_Chain_stepAt l D cy z N h a x3 r g hf) gw_20_6 gw_20_7 gw_20_8 gw_3_6 gw_20_9 (by decide +kernel) ⟨Nat.le_of_ble_eq_true rfl, Nat.le_of_ble_eq_true rfl⟩ rfl hl.1 rfl (Nat.le_of_ble_eq_true rfl) dX0_standAhead_22 (fun a => (sh_Chain_stepAt N h a x3)) ⟨hcc.1, hcc.2⟩ e3 (fun v2 h3 H locs w hsh3 e4 => ?_)
        have hsl := hsh3.2.2.2.trans hsl
        refine w_VAI GW_good (n := 1) (F := 4) (Lc := 121) (o := some th) (av := [va_rf v2]) (rest := []) C w rfl (by decide) (fun a r g hf => k_Bench_applyStep l D cy z N h3 a v2 r g hf) gw_20_10 gw_20_11 gw_20_12 gw_2_0 gw_20_13 (by decide +kernel) ⟨Nat.le_of_ble_eq_true rfl, Nat.le_of_ble_eq_true rfl⟩ rfl hl.1 rfl (Nat.le_of_ble_eq_true rfl) dX0_standAhead_25 (fun a => (mo_Bench_applyStep N h3 a v2)) (fun a v4 h5 q1 q2 => by have u1 := (mo_Bench_applyStep N h3 a v2) _ _ q1; have u2 := mo_Bench_standAhead_28 N (mo_Bench_standAhead_6 N  n)  h5 th a1 x2 x3 v4 _ _ q2; have u3 := wd_x w; have u4 := u1.1; have u5 := u1.2.1; have u6 := u2.1; have u7 := u2.2.1; show cells + _ ≤ h_x g - n0 ∧ slots + _ ≤ h_s g - s0; omega) e4 (fun v4 h5 H locs w hsh5 e5 => ?_)
        exact b_Bench_standAhead_28 C N n0 s0 hn0 (mo_Bench_standAhead_6 N  n) ih  _ _ h5 th a1 x2 x3 v4 _ _ ls w (by have u5 := hsh5.2.1; have u8 := hsl; omega) (lv_sub hl [0, 1, 2, 3] rfl) e5
set_option maxRecDepth 20000 in
set_option maxHeartbeats 4000000 in
theorem b_Bench_standAhead_4 {p : Program} {l : Launch} {e : Env} {s : State} {m : MethodId} {args : Array Value} {below : List Frame} {meth : Method} {c : Code} {D : va_G} {cy : cyT} {z : Nat} (C : MX p s m args meth c cX0_standAhead 4 (none) RX0 (Cond.code yX0_standAhead cX0_standAhead 4 (none) :: GW)) (N : Nat) (n0 s0 : Nat) (hn0 : s.heap.size = n0) {r : Unit} {g : hS}  : ∀  (cells slots : Nat) (h : hS) (th : Nat) (a1 : Option Nat) (x2 : Int32) (H : Heap) (locs : List Loc) (ls : Array Slot), wd D cy z s cells h H locs → h_s h = s0 + slots → lv_has ls 4 [(0, .ref th), (1, va_rf a1), (2, .int x2)] → f_Bench_standAhead_4 N   h th a1 x2 = some (r, g) → W p l e { frames := 5, cells := h_x g - n0, slots := h_s g - s0, locals := 142 } s m args below meth c H locs cells slots (MQ below (eQ D cy z (rV r) g) args s (h_x g - n0) (h_s g - s0) (fun q => z ≤ q)) (F0 m 4 ls []) := by
  obtain ⟨hx, hb, hr, hml, hown, hts, hlk⟩ := id C
  intro cells slots h th a1 x2 H locs ls w hsl hl hE
  have hcc : cells ≤ h_x g - n0 ∧ slots ≤ h_s g - s0 := by
    have q1 := mo_Bench_standAhead_4 N  h th a1 x2 _ _ hE
    have q2 := wd_x w
    have q3 := q1.1
    have q4 := q1.2.1
    omega
  unfold f_Bench_standAhead_4 at hE
  refine lv_iconst (v := 0) hx hb dX0_standAhead_4 (by decide) ?_
  refine lv_istore_n (lv' := [(3, .int (0 : Int32)), (0, .ref th), (1, va_rf a1), (2, .int x2)]) hx hb dX0_standAhead_5 rfl hl (by decide) rfl (fun ls hl => ?_)
  exact b_Bench_standAhead_6 C N n0 s0 hn0  N _ _ h th a1 x2 (0 : Int32) _ _ ls w hsl (lv_sub hl [1, 2, 3, 0] rfl) hE
set_option maxRecDepth 20000 in
set_option maxHeartbeats 4000000 in
theorem k_Bench_standAhead (l : Launch) (D : va_G) (cy : cyT) (z : Nat) (N : Nat) (h : hS) (th : Nat) (a1 : Option Nat) (x2 : Int32) (r : Unit) (g : hS) (hE : f_Bench_standAhead N h th a1 x2 = some (r, g)) : ct l yX0_standAhead (Cond.code yX0_standAhead cX0_standAhead 4 (none) :: GW) { frames := 5, cells := h_x g - h_x h, slots := h_s g - h_s h, locals := 142 } D cy z h [.ref th, va_rf a1, .int x2] (rV r) g := by
  refine Met.ofW (cc := cX0_standAhead) (maxL := 4) (ret := none) (by decide) rfl ?_
  intro p e s m args below meth c s₁ B hml hv
  obtain ⟨rfl, hw⟩ := hv
  have C : MX p s m ([.ref th, va_rf a1, .int x2] : List Value).toArray meth c cX0_standAhead 4 (none) RX0 (Cond.code yX0_standAhead cX0_standAhead 4 (none) :: GW) := ⟨B.exec, B.bytes, B.returns, hml, findClass_of_methodNamed B.named, atoms_spec (ws := Cond.code yX0_standAhead cX0_standAhead 4 (none) :: GW) B.pre, B.notSynchronized⟩
  obtain ⟨hx, hb, hr, hml, hown, hts, hlk⟩ := id C
  have w := wd_of hw
  have hsl : h_s h = h_s h + 0 := rfl
  have hn0 : s.heap.size = h_x h := (wd_x w).1
  obtain ⟨ls, hen, hl⟩ : ∃ ls : Array Slot, entryFrame m ([.ref th, va_rf a1, .int x2] : List Value).toArray 4 = F0 m 0 ls [] ∧ lv_has ls 4 [(0, .ref th), (1, va_rf a1), (2, .int x2)] := by
    cases a1 <;> exact ⟨_, lg_entry_eq _ _ _, lv_entry _ (Nat.le_of_ble_eq_true rfl)⟩
  rw [hen]
  have hcc : 0 ≤ h_x g - h_x h ∧ 0 ≤ h_s g - h_s h := ⟨Nat.zero_le _, Nat.zero_le _⟩
  unfold f_Bench_standAhead at hE
  refine lv_aload_n hx hb dX0_standAhead_0 rfl (lv_at hl 0 rfl) ?_
  refine w_VAV GW_good (n := 0) (F := 1) (Lc := 22) (o := some th) (av := []) (rest := []) C w rfl (by decide) (fun a r g hf => k_Bench_startAnew l D cy z N h a  r g hf) gw_19_22 gw_19_23 gw_20_0 gw_2_0 gw_20_1 (by decide +kernel) ⟨Nat.le_of_ble_eq_true rfl, Nat.le_of_ble_eq_true rfl⟩ rfl hl.1 rfl (Nat.le_of_ble_eq_true rfl) dX0_standAhead_1 (fun a => (mo_Bench_startAnew N h a )) (fun a v1 h2 q1 q2 => by have u1 := (mo_Bench_startAnew N h a ) _ _ q1; have u2 := mo_Bench_standAhead_4 N   h2 th a1 x2 _ _ q2; have u3 := wd_x w; have u4 := u1.1; have u5 := u1.2.1; have u6 := u2.1; have u7 := u2.2.1; show 0 + _ ≤ h_x g - (h_x h) ∧ 0 + _ ≤ h_s g - (h_s h); omega) hE (fun v1 h2 H locs w hsh2 e1 => ?_)
  exact b_Bench_standAhead_4 C N (h_x h) (h_s h) hn0   _ _ h2 th a1 x2 _ _ ls w (by have u5 := hsh2.2.1; have u8 := hsl; omega) (lv_sub hl [0, 1, 2] rfl) e1
set_option maxRecDepth 20000 in
set_option maxHeartbeats 4000000 in
theorem b_Bench_goThrough_75 {p : Program} {l : Launch} {e : Env} {s : State} {m : MethodId} {args : Array Value} {below : List Frame} {meth : Method} {c : Code} {D : va_G} {cy : cyT} {z : Nat} (C : MX p s m args meth c cX0_goThrough 6 ((some .boolean)) RX0 (Cond.code yX0_goThrough cX0_goThrough 6 ((some .boolean)) :: GW)) (N : Nat) (n0 s0 : Nat) (hn0 : s.heap.size = n0) {r : Int32} {g : hS} {rc56 : hS → Nat → Option Nat → Int32 → Option (Int32 × hS)} (hsh56 : ∀ (h : hS) (th : Nat) (a1 : Option Nat) (x5 : Int32), Mo h (rc56 h th a1 x5)) (hrc56 : ∀ (cells slots : Nat) (h : hS) (th : Nat) (a1 : Option Nat) (x5 : Int32) (H : Heap) (locs : List Loc) (ls : Array Slot), wd D cy z s cells h H locs → h_s h = s0 + slots → lv_has ls 6 [(0, .ref th), (1, va_rf a1), (5, .int x5)] → rc56 h th a1 x5 = some (r, g) → W p l e { frames := 5, cells := h_x g - n0, slots := h_s g - s0, locals := 142 } s m args below meth c H locs cells slots (MQ below (eQ D cy z (rI r) g) args s (h_x g - n0) (h_s g - s0) (fun q => z ≤ q)) (F0 m 56 ls [])) : ∀  (cells slots : Nat) (h : hS) (th : Nat) (a1 : Option Nat) (x5 : Int32) (y0 : Int32) (H : Heap) (locs : List Loc) (ls : Array Slot), wd D cy z s cells h H locs → h_s h = s0 + slots → lv_has ls 6 [(0, .ref th), (1, va_rf a1), (5, .int x5)] → f_Bench_goThrough_75 N rc56  h th a1 x5 y0 = some (r, g) → W p l e { frames := 5, cells := h_x g - n0, slots := h_s g - s0, locals := 142 } s m args below meth c H locs cells slots (MQ below (eQ D cy z (rI r) g) args s (h_x g - n0) (h_s g - s0) (fun q => z ≤ q)) (F0 m 75 ls [.int y0]) := by
  obtain ⟨hx, hb, hr, hml, hown, hts, hlk⟩ := id C
  intro cells slots h th a1 x5 y0 H locs ls w hsl hl hE
  have hcc : cells ≤ h_x g - n0 ∧ slots ≤ h_s g - s0 := by
    have q1 := mo_Bench_goThrough_75 N hsh56 h th a1 x5 y0 _ _ hE
    have q2 := wd_x w
    have q3 := q1.1
    have q4 := q1.2.1
    omega
  unfold f_Bench_goThrough_75 at hE
  refine w_if_ne (tgt := 80) C dX0_goThrough_75 (by decide) hE (fun hc e1 => ?_) (fun hc e1 => ?_)
  · obtain ⟨v1, ev1, e2⟩ := bn_some e1
    refine lv_iinc (v := v1) (lv' := [(5, .int v1), (0, .ref th), (1, va_rf a1)]) hx hb dX0_goThrough_80 hl (k := 2) rfl (by rw [ev1]; rfl) (by decide) rfl (fun ls hl => ?_)
    refine lv_goto (tgt := 56) hx hb dX0_goThrough_83 (by decide) ?_
    exact hrc56 _ _ h th a1 v1 _ _ ls w hsl (lv_sub hl [1, 2, 0] rfl) e2
  · refine lv_iconst (v := 0) hx hb dX0_goThrough_78 (by decide) ?_
    refine W.widen (k := h_x g - n0) (n := h_s g - s0) hcc.1 hcc.2 ?_
    exact w_zret C w e1 dX0_goThrough_79
set_option maxRecDepth 20000 in
set_option maxHeartbeats 4000000 in
theorem b_Bench_goThrough_56 {p : Program} {l : Launch} {e : Env} {s : State} {m : MethodId} {args : Array Value} {below : List Frame} {meth : Method} {c : Code} {D : va_G} {cy : cyT} {z : Nat} (C : MX p s m args meth c cX0_goThrough 6 ((some .boolean)) RX0 (Cond.code yX0_goThrough cX0_goThrough 6 ((some .boolean)) :: GW)) (N : Nat) (n0 s0 : Nat) (hn0 : s.heap.size = n0) {r : Int32} {g : hS}  : ∀ (n : Nat) (cells slots : Nat) (h : hS) (th : Nat) (a1 : Option Nat) (x5 : Int32) (H : Heap) (locs : List Loc) (ls : Array Slot), wd D cy z s cells h H locs → h_s h = s0 + slots → lv_has ls 6 [(0, .ref th), (1, va_rf a1), (5, .int x5)] → f_Bench_goThrough_56 N  n h th a1 x5 = some (r, g) → W p l e { frames := 5, cells := h_x g - n0, slots := h_s g - s0, locals := 142 } s m args below meth c H locs cells slots (MQ below (eQ D cy z (rI r) g) args s (h_x g - n0) (h_s g - s0) (fun q => z ≤ q)) (F0 m 56 ls []) := by
  obtain ⟨hx, hb, hr, hml, hown, hts, hlk⟩ := id C
  intro n
  induction n with
  | zero =>
    intro cells slots h th a1 x5 H locs ls w hsl hl hE
    cases hE
  | succ n ih =>
    intro cells slots h th a1 x5 H locs ls w hsl hl hE
    have hcc : cells ≤ h_x g - n0 ∧ slots ≤ h_s g - s0 := by
      have q1 := mo_Bench_goThrough_56 N  (n + 1) h th a1 x5 _ _ hE
      have q2 := wd_x w
      have q3 := q1.1
      have q4 := q1.2.1
      omega
    unfold f_Bench_goThrough_56 at hE
    refine lv_iload hx hb dX0_goThrough_56 (lv_at hl 2 rfl) ?_
    refine w_aload_n C dX0_goThrough_58 rfl (lv_at hl 1 rfl) ?_
    refine w_gI (r := a1) (ci := 2) (k := 1) C w rfl (by decide) (GF_wsX10 _) (by decide) rfl (List.mem_cons_of_mem _ gw_19_21) rfl dX0_goThrough_59 hE (fun v1 e1 => ?_)
    refine w_icmp_ge (tgt := 86) C dX0_goThrough_62 (by decide) e1 (fun hc e2 => ?_) (fun hc e2 => ?_)
    · refine lv_iconst (v := 1) hx hb dX0_goThrough_86 (by decide) ?_
      refine W.widen (k := h_x g - n0) (n := h_s g - s0) hcc.1 hcc.2 ?_
      exact w_zret C w e2 dX0_goThrough_87
    · refine lv_aload_n hx hb dX0_goThrough_65 rfl (lv_at hl 0 rfl) ?_
      refine w_aload_n C dX0_goThrough_66 rfl (lv_at hl 1 rfl) ?_
      refine lv_iload hx hb dX0_goThrough_67 (lv_at hl 2 rfl) ?_
      refine w_VR GW_good (n := 1) (F := 0) (Lc := 0) (o := a1) (av := [.int x5]) (rest := [.ref th]) C w rfl (by decide) (fun a r g hf => k_Chain_stepAt l D cy z N h a x5 r g hf) gw_20_6 gw_20_7 gw_20_8 gw_3_6 gw_20_9 (by decide +kernel) ⟨Nat.le_of_ble_eq_true rfl, Nat.le_of_ble_eq_true rfl⟩ rfl hl.1 rfl (Nat.le_of_ble_eq_true rfl) dX0_goThrough_69 (fun a => (sh_Chain_stepAt N h a x5)) ⟨hcc.1, hcc.2⟩ e2 (fun v2 h3 H locs w hsh3 e3 => ?_)
      have hsl := hsh3.2.2.2.trans hsl
      refine w_VAI GW_good (n := 1) (F := 4) (Lc := 121) (o := some th) (av := [va_rf v2]) (rest := []) C w rfl (by decide) (fun a r g hf => k_Bench_applyStep l D cy z N h3 a v2 r g hf) gw_20_10 gw_20_11 gw_20_12 gw_2_0 gw_20_13 (by decide +kernel) ⟨Nat.le_of_ble_eq_true rfl, Nat.le_of_ble_eq_true rfl⟩ rfl hl.1 rfl (Nat.le_of_ble_eq_true rfl) dX0_goThrough_72 (fun a => (mo_Bench_applyStep N h3 a v2)) (fun a v4 h5 q1 q2 => by have u1 := (mo_Bench_applyStep N h3 a v2) _ _ q1; have u2 := mo_Bench_goThrough_75 N (mo_Bench_goThrough_56 N  n)  h5 th a1 x5 v4 _ _ q2; have u3 := wd_x w; have u4 := u1.1; have u5 := u1.2.1; have u6 := u2.1; have u7 := u2.2.1; show cells + _ ≤ h_x g - n0 ∧ slots + _ ≤ h_s g - s0; omega) e3 (fun v4 h5 H locs w hsh5 e4 => ?_)
      exact b_Bench_goThrough_75 C N n0 s0 hn0 (mo_Bench_goThrough_56 N  n) ih  _ _ h5 th a1 x5 v4 _ _ ls w (by have u5 := hsh5.2.1; have u8 := hsl; omega) (lv_sub hl [0, 1, 2] rfl) e4
set_option maxRecDepth 20000 in
set_option maxHeartbeats 4000000 in
theorem b_Bench_goThrough_51 {p : Program} {l : Launch} {e : Env} {s : State} {m : MethodId} {args : Array Value} {below : List Frame} {meth : Method} {c : Code} {D : va_G} {cy : cyT} {z : Nat} (C : MX p s m args meth c cX0_goThrough 6 ((some .boolean)) RX0 (Cond.code yX0_goThrough cX0_goThrough 6 ((some .boolean)) :: GW)) (N : Nat) (n0 s0 : Nat) (hn0 : s.heap.size = n0) {r : Int32} {g : hS}  : ∀  (cells slots : Nat) (h : hS) (th : Nat) (a1 : Option Nat) (x2 : Int32) (H : Heap) (locs : List Loc) (ls : Array Slot), wd D cy z s cells h H locs → h_s h = s0 + slots → lv_has ls 6 [(0, .ref th), (1, va_rf a1), (2, .int x2)] → f_Bench_goThrough_51 N   h th a1 x2 = some (r, g) → W p l e { frames := 5, cells := h_x g - n0, slots := h_s g - s0, locals := 142 } s m args below meth c H locs cells slots (MQ below (eQ D cy z (rI r) g) args s (h_x g - n0) (h_s g - s0) (fun q => z ≤ q)) (F0 m 51 ls []) := by
  obtain ⟨hx, hb, hr, hml, hown, hts, hlk⟩ := id C
  intro cells slots h th a1 x2 H locs ls w hsl hl hE
  have hcc : cells ≤ h_x g - n0 ∧ slots ≤ h_s g - s0 := by
    have q1 := mo_Bench_goThrough_51 N  h th a1 x2 _ _ hE
    have q2 := wd_x w
    have q3 := q1.1
    have q4 := q1.2.1
    omega
  unfold f_Bench_goThrough_51 at hE
  refine lv_iload_n hx hb dX0_goThrough_51 rfl (lv_at hl 2 rfl) ?_
  refine lv_iconst (v := 1) hx hb dX0_goThrough_52 (by decide) ?_
  refine lv_iadd hx hb dX0_goThrough_53 ?_
  refine w_bnI hE (fun v1 e1 => ?_)
  refine lv_istore (lv' := [(5, .int v1), (0, .ref th), (1, va_rf a1), (2, .int x2)]) hx hb dX0_goThrough_54 hl (by decide) rfl (fun ls hl => ?_)
  exact b_Bench_goThrough_56 C N n0 s0 hn0  N _ _ h th a1 v1 _ _ ls w hsl (lv_sub hl [1, 2, 0] rfl) e1
set_option maxRecDepth 20000 in
set_option maxHeartbeats 4000000 in
theorem b_Bench_goThrough_46 {p : Program} {l : Launch} {e : Env} {s : State} {m : MethodId} {args : Array Value} {below : List Frame} {meth : Method} {c : Code} {D : va_G} {cy : cyT} {z : Nat} (C : MX p s m args meth c cX0_goThrough 6 ((some .boolean)) RX0 (Cond.code yX0_goThrough cX0_goThrough 6 ((some .boolean)) :: GW)) (N : Nat) (n0 s0 : Nat) (hn0 : s.heap.size = n0) {r : Int32} {g : hS}  : ∀  (cells slots : Nat) (h : hS) (th : Nat) (a1 : Option Nat) (x2 : Int32) (y0 : Int32) (H : Heap) (locs : List Loc) (ls : Array Slot), wd D cy z s cells h H locs → h_s h = s0 + slots → lv_has ls 6 [(0, .ref th), (1, va_rf a1), (2, .int x2)] → f_Bench_goThrough_46 N   h th a1 x2 y0 = some (r, g) → W p l e { frames := 5, cells := h_x g - n0, slots := h_s g - s0, locals := 142 } s m args below meth c H locs cells slots (MQ below (eQ D cy z (rI r) g) args s (h_x g - n0) (h_s g - s0) (fun q => z ≤ q)) (F0 m 46 ls [.int y0]) := by
  obtain ⟨hx, hb, hr, hml, hown, hts, hlk⟩ := id C
  intro cells slots h th a1 x2 y0 H locs ls w hsl hl hE
  have hcc : cells ≤ h_x g - n0 ∧ slots ≤ h_s g - s0 := by
    have q1 := mo_Bench_goThrough_46 N  h th a1 x2 y0 _ _ hE
    have q2 := wd_x w
    have q3 := q1.1
    have q4 := q1.2.1
    omega
  unfold f_Bench_goThrough_46 at hE
  refine w_if_ne (tgt := 51) C dX0_goThrough_46 (by decide) hE (fun hc e1 => ?_) (fun hc e1 => ?_)
  · exact b_Bench_goThrough_51 C N n0 s0 hn0   _ _ h th a1 x2 _ _ ls w hsl (lv_sub hl [0, 1, 2] rfl) e1
  · refine lv_iconst (v := 0) hx hb dX0_goThrough_49 (by decide) ?_
    refine W.widen (k := h_x g - n0) (n := h_s g - s0) hcc.1 hcc.2 ?_
    exact w_zret C w e1 dX0_goThrough_50
set_option maxRecDepth 20000 in
set_option maxHeartbeats 4000000 in
theorem b_Bench_goThrough_11 {p : Program} {l : Launch} {e : Env} {s : State} {m : MethodId} {args : Array Value} {below : List Frame} {meth : Method} {c : Code} {D : va_G} {cy : cyT} {z : Nat} (C : MX p s m args meth c cX0_goThrough 6 ((some .boolean)) RX0 (Cond.code yX0_goThrough cX0_goThrough 6 ((some .boolean)) :: GW)) (N : Nat) (n0 s0 : Nat) (hn0 : s.heap.size = n0) {r : Int32} {g : hS}  : ∀  (cells slots : Nat) (h : hS) (th : Nat) (a1 : Option Nat) (x2 : Int32) (x3 : Int32) (H : Heap) (locs : List Loc) (ls : Array Slot), wd D cy z s cells h H locs → h_s h = s0 + slots → lv_has ls 6 [(0, .ref th), (1, va_rf a1), (2, .int x2), (3, .int x3)] → f_Bench_goThrough_11 N   h th a1 x2 x3 = some (r, g) → W p l e { frames := 5, cells := h_x g - n0, slots := h_s g - s0, locals := 142 } s m args below meth c H locs cells slots (MQ below (eQ D cy z (rI r) g) args s (h_x g - n0) (h_s g - s0) (fun q => z ≤ q)) (F0 m 11 ls []) := by
  obtain ⟨hx, hb, hr, hml, hown, hts, hlk⟩ := id C
  intro cells slots h th a1 x2 x3 H locs ls w hsl hl hE
  have hcc : cells ≤ h_x g - n0 ∧ slots ≤ h_s g - s0 := by
    have q1 := mo_Bench_goThrough_11 N  h th a1 x2 x3 _ _ hE
    have q2 := wd_x w
    have q3 := q1.1
    have q4 := q1.2.1
    omega
  unfold f_Bench_goThrough_11 at hE
  refine w_aload_n C dX0_goThrough_11 rfl (lv_at hl 1 rfl) ?_
  refine lv_iload_n hx hb dX0_goThrough_12 rfl (lv_at hl 2 rfl) ?_
  refine w_VR GW_good (n := 1) (F := 0) (Lc := 0) (o := a1) (av := [.int x2]) (rest := []) C w rfl (by decide) (fun a r g hf => k_Chain_stepAt l D cy z N h a x2 r g hf) gw_20_6 gw_20_7 gw_20_8 gw_3_6 gw_20_9 (by decide +kernel) ⟨Nat.le_of_ble_eq_true rfl, Nat.le_of_ble_eq_true rfl⟩ rfl hl.1 rfl (Nat.le_of_ble_eq_true rfl) dX0_goThrough_13 (fun a => (sh_Chain_stepAt N h a x2)) ⟨hcc.1, hcc.2⟩ hE (fun v1 h2 H locs w hsh2 e1 => ?_)
  have hsl := hsh2.2.2.2.trans hsl
  refine w_astore (r := v1) (lv' := [(4, va_rf v1), (0, .ref th), (1, va_rf a1), (2, .int x2), (3, .int x3)]) C dX0_goThrough_16 hl (by decide) rfl (fun ls hl => ?_)
  refine w_aload C dX0_goThrough_18 (lv_at hl 0 rfl) ?_
  refine w_nonnull (r := v1) (tgt := 25) C dX0_goThrough_20 (by decide) e1 (fun hc e2 => ?_) (fun hc e2 => ?_)
  · refine lv_iload_n hx hb dX0_goThrough_25 rfl (lv_at hl 4 rfl) ?_
    refine lv_iconst (v := -1) hx hb dX0_goThrough_26 (by decide) ?_
    refine w_icmp_eq (tgt := 51) C dX0_goThrough_27 (by decide) e2 (fun hc e3 => ?_) (fun hc e3 => ?_)
    · exact b_Bench_goThrough_51 C N n0 s0 hn0   _ _ h2 th a1 x2 _ _ ls w hsl (lv_sub hl [1, 2, 3] rfl) e3
    · refine lv_aload_n hx hb dX0_goThrough_30 rfl (lv_at hl 1 rfl) ?_
      refine w_aload C dX0_goThrough_31 (lv_at hl 0 rfl) ?_
      refine w_gI (r := v1) (ci := 8) (k := 0) C w rfl (by decide) (GF_wsX70 _) (by decide) rfl (List.mem_cons_of_mem _ gw_20_14) rfl dX0_goThrough_33 e3 (fun v3 e4 => ?_)
      refine w_aload C dX0_goThrough_36 (lv_at hl 0 rfl) ?_
      refine w_gI (r := v1) (ci := 8) (k := 1) C w rfl (by decide) (GF_wsX70 _) (by decide) rfl (List.mem_cons_of_mem _ gw_20_15) rfl dX0_goThrough_38 e4 (fun v4 e5 => ?_)
      refine lv_iload_n hx hb dX0_goThrough_41 rfl (lv_at hl 4 rfl) ?_
      refine lv_null hx hb dX0_goThrough_42 ?_
      refine w_VAI GW_good (n := 4) (F := 3) (Lc := 97) (o := some th) (av := [.int v3, .int v4, .int x3, .null]) (rest := []) C w rfl (by decide) (fun a r g hf => k_Bench_apply l D cy z N h2 a v3 v4 x3 none r g hf) gw_20_18 gw_20_19 gw_20_20 gw_2_0 gw_20_21 (by decide +kernel) ⟨Nat.le_of_ble_eq_true rfl, Nat.le_of_ble_eq_true rfl⟩ rfl hl.1 rfl (Nat.le_of_ble_eq_true rfl) dX0_goThrough_43 (fun a => (mo_Bench_apply N h2 a v3 v4 x3 none)) (fun a v5 h6 q1 q2 => by have u1 := (mo_Bench_apply N h2 a v3 v4 x3 none) _ _ q1; have u2 := mo_Bench_goThrough_46 N   h6 th a1 x2 v5 _ _ q2; have u3 := wd_x w; have u4 := u1.1; have u5 := u1.2.1; have u6 := u2.1; have u7 := u2.2.1; show cells + _ ≤ h_x g - n0 ∧ slots + _ ≤ h_s g - s0; omega) e5 (fun v5 h6 H locs w hsh6 e6 => ?_)
      exact b_Bench_goThrough_46 C N n0 s0 hn0   _ _ h6 th a1 x2 v5 _ _ ls w (by have u5 := hsh6.2.1; have u8 := hsl; omega) (lv_sub hl [1, 2, 3] rfl) e6
  · refine lv_iconst (v := 0) hx hb dX0_goThrough_23 (by decide) ?_
    refine W.widen (k := h_x g - n0) (n := h_s g - s0) hcc.1 hcc.2 ?_
    exact w_zret C w e2 dX0_goThrough_24
set_option maxRecDepth 20000 in
set_option maxHeartbeats 4000000 in
theorem k_Bench_goThrough (l : Launch) (D : va_G) (cy : cyT) (z : Nat) (N : Nat) (h : hS) (th : Nat) (a1 : Option Nat) (x2 : Int32) (x3 : Int32) (r : Int32) (g : hS) (hE : f_Bench_goThrough N h th a1 x2 x3 = some (r, g)) : ct l yX0_goThrough (Cond.code yX0_goThrough cX0_goThrough 6 ((some .boolean)) :: GW) { frames := 5, cells := h_x g - h_x h, slots := h_s g - h_s h, locals := 142 } D cy z h [.ref th, va_rf a1, .int x2, .int x3] (rI r) g := by
  refine Met.ofW (cc := cX0_goThrough) (maxL := 6) (ret := (some .boolean)) (by decide) rfl ?_
  intro p e s m args below meth c s₁ B hml hv
  obtain ⟨rfl, hw⟩ := hv
  have C : MX p s m ([.ref th, va_rf a1, .int x2, .int x3] : List Value).toArray meth c cX0_goThrough 6 ((some .boolean)) RX0 (Cond.code yX0_goThrough cX0_goThrough 6 ((some .boolean)) :: GW) := ⟨B.exec, B.bytes, B.returns, hml, findClass_of_methodNamed B.named, atoms_spec (ws := Cond.code yX0_goThrough cX0_goThrough 6 ((some .boolean)) :: GW) B.pre, B.notSynchronized⟩
  obtain ⟨hx, hb, hr, hml, hown, hts, hlk⟩ := id C
  have w := wd_of hw
  have hsl : h_s h = h_s h + 0 := rfl
  have hn0 : s.heap.size = h_x h := (wd_x w).1
  obtain ⟨ls, hen, hl⟩ : ∃ ls : Array Slot, entryFrame m ([.ref th, va_rf a1, .int x2, .int x3] : List Value).toArray 6 = F0 m 0 ls [] ∧ lv_has ls 6 [(0, .ref th), (1, va_rf a1), (2, .int x2), (3, .int x3)] := by
    cases a1 <;> exact ⟨_, lg_entry_eq _ _ _, lv_entry _ (Nat.le_of_ble_eq_true rfl)⟩
  rw [hen]
  have hcc : 0 ≤ h_x g - h_x h ∧ 0 ≤ h_s g - h_s h := ⟨Nat.zero_le _, Nat.zero_le _⟩
  unfold f_Bench_goThrough at hE
  refine lv_aload_n hx hb dX0_goThrough_0 rfl (lv_at hl 0 rfl) ?_
  refine w_gR (r := some th) (ci := 1) (k := 0) C w rfl (by decide) (GF_wsX00 _) (by decide) rfl (List.mem_cons_of_mem _ gw_4_3) rfl dX0_goThrough_1 hE (fun v1 e1 => ?_)
  refine lv_aload_n hx hb dX0_goThrough_4 rfl (lv_at hl 0 rfl) ?_
  refine w_gR (r := some th) (ci := 1) (k := 2) C w rfl (by decide) (GF_wsX00 _) (by decide) rfl (List.mem_cons_of_mem _ gw_4_5) rfl dX0_goThrough_5 e1 (fun v2 e2 => ?_)
  refine w_VAV GW_good (n := 1) (F := 1) (Lc := 60) (o := v1) (av := [va_rf v2]) (rest := []) C w rfl (by decide) (fun a r g hf => k_Curve_take l D cy z N h a v2 r g hf) gw_50_9 gw_24_6 gw_24_7 gw_2_22 gw_24_8 (by decide +kernel) ⟨Nat.le_of_ble_eq_true rfl, Nat.le_of_ble_eq_true rfl⟩ rfl hl.1 rfl (Nat.le_of_ble_eq_true rfl) dX0_goThrough_8 (fun a => (mo_Curve_take N h a v2)) (fun a v3 h4 q1 q2 => by have u1 := (mo_Curve_take N h a v2) _ _ q1; have u2 := mo_Bench_goThrough_11 N   h4 th a1 x2 x3 _ _ q2; have u3 := wd_x w; have u4 := u1.1; have u5 := u1.2.1; have u6 := u2.1; have u7 := u2.2.1; show 0 + _ ≤ h_x g - (h_x h) ∧ 0 + _ ≤ h_s g - (h_s h); omega) e2 (fun v3 h4 H locs w hsh4 e3 => ?_)
  exact b_Bench_goThrough_11 C N (h_x h) (h_s h) hn0   _ _ h4 th a1 x2 x3 _ _ ls w (by have u5 := hsh4.2.1; have u8 := hsl; omega) (lv_sub hl [0, 1, 2, 3] rfl) e3
set_option maxRecDepth 20000 in
set_option maxHeartbeats 4000000 in
theorem b_Bench_costOnTop_14 {p : Program} {l : Launch} {e : Env} {s : State} {m : MethodId} {args : Array Value} {below : List Frame} {meth : Method} {c : Code} {D : va_G} {cy : cyT} {z : Nat} (C : MX p s m args meth c cX0_costOnTop 3 ((some .long)) RX0 (Cond.code yX0_costOnTop cX0_costOnTop 3 ((some .long)) :: GW)) (N : Nat) (n0 s0 : Nat) (hn0 : s.heap.size = n0) {r : Int64} {g : hS}  : ∀  (cells slots : Nat) (h : hS) (th : Nat) (x2 : Int32) (H : Heap) (locs : List Loc) (ls : Array Slot), wd D cy z s cells h H locs → h_s h = s0 + slots → lv_has ls 3 [(0, .ref th), (2, .int x2)] → f_Bench_costOnTop_14 N   h th x2 = some (r, g) → W p l e { frames := 3, cells := h_x g - n0, slots := h_s g - s0, locals := 73 } s m args below meth c H locs cells slots (MQ below (eQ D cy z (rJ r) g) args s (h_x g - n0) (h_s g - s0) (fun q => z ≤ q)) (F0 m 14 ls []) := by
  obtain ⟨hx, hb, hr, hml, hown, hts, hlk⟩ := id C
  intro cells slots h th x2 H locs ls w hsl hl hE
  have hcc : cells ≤ h_x g - n0 ∧ slots ≤ h_s g - s0 := by
    have q1 := mo_Bench_costOnTop_14 N  h th x2 _ _ hE
    have q2 := wd_x w
    have q3 := q1.1
    have q4 := q1.2.1
    omega
  unfold f_Bench_costOnTop_14 at hE
  refine lv_aload_n hx hb dX0_costOnTop_14 rfl (lv_at hl 0 rfl) ?_
  refine w_gR (r := some th) (ci := 1) (k := 3) C w rfl (by decide) (GF_wsX00 _) (by decide) rfl (List.mem_cons_of_mem _ gw_4_6) rfl dX0_costOnTop_15 hE (fun v1 e1 => ?_)
  refine lv_iload_n hx hb dX0_costOnTop_18 rfl (lv_at hl 1 rfl) ?_
  refine w_VJ GW_good (n := 1) (F := 1) (Lc := 44) (o := v1) (av := [.int x2]) (rest := []) C w rfl (by decide) (fun a r g hf => k_Curve_valueAt l D cy z N h a x2 r g hf) gw_22_0 gw_22_1 gw_22_2 gw_2_22 gw_22_3 (by decide +kernel) ⟨Nat.le_of_ble_eq_true rfl, Nat.le_of_ble_eq_true rfl⟩ rfl hl.1 rfl (Nat.le_of_ble_eq_true rfl) dX0_costOnTop_19 (fun a => (sh_Curve_valueAt N h a x2)) ⟨hcc.1, hcc.2⟩ e1 (fun v2 h3 H locs w hsh3 e2 => ?_)
  have hsl := hsh3.2.2.2.trans hsl
  refine W.widen (k := h_x g - n0) (n := h_s g - s0) hcc.1 hcc.2 ?_
  exact w_lret C w e2 dX0_costOnTop_22
set_option maxRecDepth 20000 in
set_option maxHeartbeats 4000000 in
theorem k_Bench_costOnTop (l : Launch) (D : va_G) (cy : cyT) (z : Nat) (N : Nat) (h : hS) (th : Nat) (a1 : Option Nat) (x2 : Int32) (r : Int64) (g : hS) (hE : f_Bench_costOnTop N h th a1 x2 = some (r, g)) : ct l yX0_costOnTop (Cond.code yX0_costOnTop cX0_costOnTop 3 ((some .long)) :: GW) { frames := 3, cells := h_x g - h_x h, slots := h_s g - h_s h, locals := 73 } D cy z h [.ref th, va_rf a1, .int x2] (rJ r) g := by
  refine Met.ofW (cc := cX0_costOnTop) (maxL := 3) (ret := (some .long)) (by decide) rfl ?_
  intro p e s m args below meth c s₁ B hml hv
  obtain ⟨rfl, hw⟩ := hv
  have C : MX p s m ([.ref th, va_rf a1, .int x2] : List Value).toArray meth c cX0_costOnTop 3 ((some .long)) RX0 (Cond.code yX0_costOnTop cX0_costOnTop 3 ((some .long)) :: GW) := ⟨B.exec, B.bytes, B.returns, hml, findClass_of_methodNamed B.named, atoms_spec (ws := Cond.code yX0_costOnTop cX0_costOnTop 3 ((some .long)) :: GW) B.pre, B.notSynchronized⟩
  obtain ⟨hx, hb, hr, hml, hown, hts, hlk⟩ := id C
  have w := wd_of hw
  have hsl : h_s h = h_s h + 0 := rfl
  have hn0 : s.heap.size = h_x h := (wd_x w).1
  obtain ⟨ls, hen, hl⟩ : ∃ ls : Array Slot, entryFrame m ([.ref th, va_rf a1, .int x2] : List Value).toArray 3 = F0 m 0 ls [] ∧ lv_has ls 3 [(0, .ref th), (1, va_rf a1), (2, .int x2)] := by
    cases a1 <;> exact ⟨_, lg_entry_eq _ _ _, lv_entry _ (Nat.le_of_ble_eq_true rfl)⟩
  rw [hen]
  have hcc : 0 ≤ h_x g - h_x h ∧ 0 ≤ h_s g - h_s h := ⟨Nat.zero_le _, Nat.zero_le _⟩
  unfold f_Bench_costOnTop at hE
  refine w_aload_n C dX0_costOnTop_0 rfl (lv_at hl 1 rfl) ?_
  refine w_nonnull (r := a1) (tgt := 6) C dX0_costOnTop_1 (by decide) hE (fun hc e1 => ?_) (fun hc e1 => ?_)
  · refine w_aload_n C dX0_costOnTop_6 rfl (lv_at hl 1 rfl) ?_
    refine lv_aload_n hx hb dX0_costOnTop_7 rfl (lv_at hl 0 rfl) ?_
    refine w_gR (r := some th) (ci := 1) (k := 3) C w rfl (by decide) (GF_wsX00 _) (by decide) rfl (List.mem_cons_of_mem _ gw_4_6) rfl dX0_costOnTop_8 e1 (fun v1 e2 => ?_)
    refine w_VAV GW_good (n := 1) (F := 2) (Lc := 43) (o := a1) (av := [va_rf v1]) (rest := []) C w rfl (by decide) (fun a r g hf => k_Keepsake_showOn l D cy z N h a v1 r g hf) gw_22_19 gw_22_20 gw_22_21 gw_16_14 gw_22_22 (by decide +kernel) ⟨Nat.le_of_ble_eq_true rfl, Nat.le_of_ble_eq_true rfl⟩ rfl hl.1 rfl (Nat.le_of_ble_eq_true rfl) dX0_costOnTop_11 (fun a => (mo_Keepsake_showOn N h a v1)) (fun a v2 h3 q1 q2 => by have u1 := (mo_Keepsake_showOn N h a v1) _ _ q1; have u2 := mo_Bench_costOnTop_14 N   h3 th x2 _ _ q2; have u3 := wd_x w; have u4 := u1.1; have u5 := u1.2.1; have u6 := u2.1; have u7 := u2.2.1; show 0 + _ ≤ h_x g - (h_x h) ∧ 0 + _ ≤ h_s g - (h_s h); omega) e2 (fun v2 h3 H locs w hsh3 e3 => ?_)
    exact b_Bench_costOnTop_14 C N (h_x h) (h_s h) hn0   _ _ h3 th x2 _ _ ls w (by have u5 := hsh3.2.1; have u8 := hsl; omega) (lv_sub hl [0, 2] rfl) e3
  · refine lv_lconst (v := 0) hx hb dX0_costOnTop_4 (by decide) ?_
    refine W.widen (k := h_x g - (h_x h)) (n := h_s g - (h_s h)) hcc.1 hcc.2 ?_
    exact w_lret C w e1 dX0_costOnTop_5
set_option maxRecDepth 20000 in
set_option maxHeartbeats 4000000 in
theorem b_Bench_costBy_125 {p : Program} {l : Launch} {e : Env} {s : State} {m : MethodId} {args : Array Value} {below : List Frame} {meth : Method} {c : Code} {D : va_G} {cy : cyT} {z : Nat} (C : MX p s m args meth c cX0_costBy 3 ((some .long)) RX0 (Cond.code yX0_costBy cX0_costBy 3 ((some .long)) :: GW)) (N : Nat) (n0 s0 : Nat) (hn0 : s.heap.size = n0) {r : Int64} {g : hS}  : ∀  (cells slots : Nat) (h : hS)  (H : Heap) (locs : List Loc) (ls : Array Slot), wd D cy z s cells h H locs → h_s h = s0 + slots → lv_has ls 3 [] → f_Bench_costBy_125 N   h  = some (r, g) → W p l e { frames := 4, cells := h_x g - n0, slots := h_s g - s0, locals := 95 } s m args below meth c H locs cells slots (MQ below (eQ D cy z (rJ r) g) args s (h_x g - n0) (h_s g - s0) (fun q => z ≤ q)) (F0 m 125 ls []) := by
  obtain ⟨hx, hb, hr, hml, hown, hts, hlk⟩ := id C
  intro cells slots h  H locs ls w hsl hl hE
  have hcc : cells ≤ h_x g - n0 ∧ slots ≤ h_s g - s0 := by
    have q1 := mo_Bench_costBy_125 N  h  _ _ hE
    have q2 := wd_x w
    have q3 := q1.1
    have q4 := q1.2.1
    omega
  unfold f_Bench_costBy_125 at hE
  refine lv_lconst (v := 0) hx hb dX0_costBy_125 (by decide) ?_
  refine W.widen (k := h_x g - n0) (n := h_s g - s0) hcc.1 hcc.2 ?_
  exact w_lret C w hE dX0_costBy_126
set_option maxRecDepth 20000 in
set_option maxHeartbeats 4000000 in
theorem b_Bench_costBy_124 {p : Program} {l : Launch} {e : Env} {s : State} {m : MethodId} {args : Array Value} {below : List Frame} {meth : Method} {c : Code} {D : va_G} {cy : cyT} {z : Nat} (C : MX p s m args meth c cX0_costBy 3 ((some .long)) RX0 (Cond.code yX0_costBy cX0_costBy 3 ((some .long)) :: GW)) (N : Nat) (n0 s0 : Nat) (hn0 : s.heap.size = n0) {r : Int64} {g : hS}  : ∀  (cells slots : Nat) (h : hS) (y0 : Int64) (H : Heap) (locs : List Loc) (ls : Array Slot), wd D cy z s cells h H locs → h_s h = s0 + slots → lv_has ls 3 [] → f_Bench_costBy_124 N   h y0 = some (r, g) → W p l e { frames := 4, cells := h_x g - n0, slots := h_s g - s0, locals := 95 } s m args below meth c H locs cells slots (MQ below (eQ D cy z (rJ r) g) args s (h_x g - n0) (h_s g - s0) (fun q => z ≤ q)) (F0 m 124 ls [.long y0]) := by
  obtain ⟨hx, hb, hr, hml, hown, hts, hlk⟩ := id C
  intro cells slots h y0 H locs ls w hsl hl hE
  have hcc : cells ≤ h_x g - n0 ∧ slots ≤ h_s g - s0 := by
    have q1 := mo_Bench_costBy_124 N  h y0 _ _ hE
    have q2 := wd_x w
    have q3 := q1.1
    have q4 := q1.2.1
    omega
  unfold f_Bench_costBy_124 at hE
  refine W.widen (k := h_x g - n0) (n := h_s g - s0) hcc.1 hcc.2 ?_
  exact w_lret C w hE dX0_costBy_124
set_option maxRecDepth 20000 in
set_option maxHeartbeats 4000000 in
theorem k_Bench_costBy (l : Launch) (D : va_G) (cy : cyT) (z : Nat) (N : Nat) (h : hS) (th : Nat) (a1 : Option Nat) (x2 : Int32) (r : Int64) (g : hS) (hE : f_Bench_costBy N h th a1 x2 = some (r, g)) : ct l yX0_costBy (Cond.code yX0_costBy cX0_costBy 3 ((some .long)) :: GW) { frames := 4, cells := h_x g - h_x h, slots := h_s g - h_s h, locals := 95 } D cy z h [.ref th, va_rf a1, .int x2] (rJ r) g := by
  refine Met.ofW (cc := cX0_costBy) (maxL := 3) (ret := (some .long)) (by decide) rfl ?_
  intro p e s m args below meth c s₁ B hml hv
  obtain ⟨rfl, hw⟩ := hv
  have C : MX p s m ([.ref th, va_rf a1, .int x2] : List Value).toArray meth c cX0_costBy 3 ((some .long)) RX0 (Cond.code yX0_costBy cX0_costBy 3 ((some .long)) :: GW) := ⟨B.exec, B.bytes, B.returns, hml, findClass_of_methodNamed B.named, atoms_spec (ws := Cond.code yX0_costBy cX0_costBy 3 ((some .long)) :: GW) B.pre, B.notSynchronized⟩
  obtain ⟨hx, hb, hr, hml, hown, hts, hlk⟩ := id C
  have w := wd_of hw
  have hsl : h_s h = h_s h + 0 := rfl
  have hn0 : s.heap.size = h_x h := (wd_x w).1
  obtain ⟨ls, hen, hl⟩ : ∃ ls : Array Slot, entryFrame m ([.ref th, va_rf a1, .int x2] : List Value).toArray 3 = F0 m 0 ls [] ∧ lv_has ls 3 [(0, .ref th), (1, va_rf a1), (2, .int x2)] := by
    cases a1 <;> exact ⟨_, lg_entry_eq _ _ _, lv_entry _ (Nat.le_of_ble_eq_true rfl)⟩
  rw [hen]
  have hcc : 0 ≤ h_x g - h_x h ∧ 0 ≤ h_s g - h_s h := ⟨Nat.zero_le _, Nat.zero_le _⟩
  unfold f_Bench_costBy at hE
  refine w_aload_n C dX0_costBy_0 rfl (lv_at hl 1 rfl) ?_
  refine w_gI (r := a1) (ci := 8) (k := 0) C w rfl (by decide) (GF_wsX70 _) (by decide) rfl (List.mem_cons_of_mem _ gw_20_14) rfl dX0_costBy_1 hE (fun v1 e1 => ?_)
  refine w_case e1 (fun hc e2 => ?_) (fun nc4_0 e2 => ?_)
  · refine w_tin (tgt := 56) C hc dX0_costBy_4 (by decide) (by decide) rfl (by decide) ?_
    refine w_aload_n C dX0_costBy_56 rfl (lv_at hl 1 rfl) ?_
    refine w_gI (r := a1) (ci := 8) (k := 2) C w rfl (by decide) (GF_wsX70 _) (by decide) rfl (List.mem_cons_of_mem _ gw_20_16) rfl dX0_costBy_57 e2 (fun v2 e3 => ?_)
    refine lv_i2l hx hb dX0_costBy_60 rfl ?_
    refine lv_iload_n hx hb dX0_costBy_61 rfl (lv_at hl 2 rfl) ?_
    refine w_aload_n C dX0_costBy_62 rfl (lv_at hl 1 rfl) ?_
    refine w_gI (r := a1) (ci := 8) (k := 1) C w rfl (by decide) (GF_wsX70 _) (by decide) rfl (List.mem_cons_of_mem _ gw_20_15) rfl dX0_costBy_63 e3 (fun v3 e4 => ?_)
    refine lv_isub hx hb dX0_costBy_66 ?_
    refine w_mabs C hl.1 (List.mem_cons_of_mem _ gw_41_5) (List.mem_cons_of_mem _ gw_41_6) (List.mem_cons_of_mem _ gw_10_7) (List.mem_cons_of_mem _ gw_41_7) (Nat.le_of_ble_eq_true rfl) (Nat.le_of_ble_eq_true rfl) hcc.1 hcc.2 dX0_costBy_67 ?_
    refine lv_i2l hx hb dX0_costBy_70 rfl ?_
    refine lv_lmul hx hb dX0_costBy_71 ?_
    refine W.widen (k := h_x g - (h_x h)) (n := h_s g - (h_s h)) hcc.1 hcc.2 ?_
    exact w_lret C w e4 dX0_costBy_72
  ·
    refine w_case e2 (fun hc e5 => ?_) (fun nc4_1 e5 => ?_)
    · refine w_tin (tgt := 73) C hc dX0_costBy_4 (by decide) (by decide) rfl (by decide) ?_
      refine w_aload_n C dX0_costBy_73 rfl (lv_at hl 1 rfl) ?_
      refine w_gI (r := a1) (ci := 8) (k := 2) C w rfl (by decide) (GF_wsX70 _) (by decide) rfl (List.mem_cons_of_mem _ gw_20_16) rfl dX0_costBy_74 e5 (fun v4 e6 => ?_)
      refine lv_i2l hx hb dX0_costBy_77 rfl ?_
      refine lv_iload_n hx hb dX0_costBy_78 rfl (lv_at hl 2 rfl) ?_
      refine w_aload_n C dX0_costBy_79 rfl (lv_at hl 1 rfl) ?_
      refine w_gI (r := a1) (ci := 8) (k := 1) C w rfl (by decide) (GF_wsX70 _) (by decide) rfl (List.mem_cons_of_mem _ gw_20_15) rfl dX0_costBy_80 e6 (fun v5 e7 => ?_)
      refine lv_isub hx hb dX0_costBy_83 ?_
      refine lv_iconst (v := 0) hx hb dX0_costBy_84 (by decide) ?_
      refine w_mmax C hl.1 (List.mem_cons_of_mem _ gw_41_8) (List.mem_cons_of_mem _ gw_30_15) (List.mem_cons_of_mem _ gw_10_7) (List.mem_cons_of_mem _ gw_30_16) (Nat.le_of_ble_eq_true rfl) (Nat.le_of_ble_eq_true rfl) hcc.1 hcc.2 dX0_costBy_85 ?_
      refine lv_i2l hx hb dX0_costBy_88 rfl ?_
      refine lv_lmul hx hb dX0_costBy_89 ?_
      refine W.widen (k := h_x g - (h_x h)) (n := h_s g - (h_s h)) hcc.1 hcc.2 ?_
      exact w_lret C w e7 dX0_costBy_90
    ·
      refine w_case e5 (fun hc e8 => ?_) (fun nc4_2 e8 => ?_)
      · refine w_tin (tgt := 91) C hc dX0_costBy_4 (by decide) (by decide) rfl (by decide) ?_
        refine w_aload_n C dX0_costBy_91 rfl (lv_at hl 1 rfl) ?_
        refine w_gI (r := a1) (ci := 8) (k := 2) C w rfl (by decide) (GF_wsX70 _) (by decide) rfl (List.mem_cons_of_mem _ gw_20_16) rfl dX0_costBy_92 e8 (fun v6 e9 => ?_)
        refine lv_i2l hx hb dX0_costBy_95 rfl ?_
        refine w_aload_n C dX0_costBy_96 rfl (lv_at hl 1 rfl) ?_
        refine w_gI (r := a1) (ci := 8) (k := 1) C w rfl (by decide) (GF_wsX70 _) (by decide) rfl (List.mem_cons_of_mem _ gw_20_15) rfl dX0_costBy_97 e9 (fun v7 e10 => ?_)
        refine lv_iload_n hx hb dX0_costBy_100 rfl (lv_at hl 2 rfl) ?_
        refine lv_isub hx hb dX0_costBy_101 ?_
        refine lv_iconst (v := 0) hx hb dX0_costBy_102 (by decide) ?_
        refine w_mmax C hl.1 (List.mem_cons_of_mem _ gw_41_8) (List.mem_cons_of_mem _ gw_30_15) (List.mem_cons_of_mem _ gw_10_7) (List.mem_cons_of_mem _ gw_30_16) (Nat.le_of_ble_eq_true rfl) (Nat.le_of_ble_eq_true rfl) hcc.1 hcc.2 dX0_costBy_103 ?_
        refine lv_i2l hx hb dX0_costBy_106 rfl ?_
        refine lv_lmul hx hb dX0_costBy_107 ?_
        refine W.widen (k := h_x g - (h_x h)) (n := h_s g - (h_s h)) hcc.1 hcc.2 ?_
        exact w_lret C w e10 dX0_costBy_108
      ·
        refine w_case e8 (fun hc e11 => ?_) (fun nc4_3 e11 => ?_)
        · refine w_tin (tgt := 125) C hc dX0_costBy_4 (by decide) (by decide) rfl (by decide) ?_
          exact b_Bench_costBy_125 C N (h_x h) (h_s h) hn0   _ _ h  _ _ ls w hsl (lv_sub hl [] rfl) e11
        ·
          refine w_case e11 (fun hc e12 => ?_) (fun nc4_4 e12 => ?_)
          · refine w_tin (tgt := 125) C hc dX0_costBy_4 (by decide) (by decide) rfl (by decide) ?_
            exact b_Bench_costBy_125 C N (h_x h) (h_s h) hn0   _ _ h  _ _ ls w hsl (lv_sub hl [] rfl) e12
          ·
            refine w_case e12 (fun hc e13 => ?_) (fun nc4_5 e13 => ?_)
            · refine w_tin (tgt := 125) C hc dX0_costBy_4 (by decide) (by decide) rfl (by decide) ?_
              exact b_Bench_costBy_125 C N (h_x h) (h_s h) hn0   _ _ h  _ _ ls w hsl (lv_sub hl [] rfl) e13
            ·
              refine w_case e13 (fun hc e14 => ?_) (fun nc4_6 e14 => ?_)
              · refine w_tin (tgt := 125) C hc dX0_costBy_4 (by decide) (by decide) rfl (by decide) ?_
                exact b_Bench_costBy_125 C N (h_x h) (h_s h) hn0   _ _ h  _ _ ls w hsl (lv_sub hl [] rfl) e14
              ·
                refine w_case e14 (fun hc e15 => ?_) (fun nc4_7 e15 => ?_)
                · refine w_tin (tgt := 109) C hc dX0_costBy_4 (by decide) (by decide) rfl (by decide) ?_
                  refine w_aload_n C dX0_costBy_109 rfl (lv_at hl 1 rfl) ?_
                  refine w_gI (r := a1) (ci := 8) (k := 1) C w rfl (by decide) (GF_wsX70 _) (by decide) rfl (List.mem_cons_of_mem _ gw_20_15) rfl dX0_costBy_110 e15 (fun v8 e16 => ?_)
                  refine lv_i2l hx hb dX0_costBy_113 rfl ?_
                  refine W.widen (k := h_x g - (h_x h)) (n := h_s g - (h_s h)) hcc.1 hcc.2 ?_
                  exact w_lret C w e16 dX0_costBy_114
                ·
                  refine w_case e15 (fun hc e17 => ?_) (fun nc4_8 e17 => ?_)
                  · refine w_tin (tgt := 115) C hc dX0_costBy_4 (by decide) (by decide) rfl (by decide) ?_
                    refine lv_aload_n hx hb dX0_costBy_115 rfl (lv_at hl 0 rfl) ?_
                    refine w_aload_n C dX0_costBy_116 rfl (lv_at hl 1 rfl) ?_
                    refine w_gR (r := a1) (ci := 8) (k := 3) C w rfl (by decide) (GF_wsX70 _) (by decide) rfl (List.mem_cons_of_mem _ gw_20_17) rfl dX0_costBy_117 e17 (fun v9 e18 => ?_)
                    refine lv_iload_n hx hb dX0_costBy_120 rfl (lv_at hl 2 rfl) ?_
                    refine w_VAJ GW_good (n := 2) (F := 3) (Lc := 73) (o := some th) (av := [va_rf v9, .int x2]) (rest := []) C w rfl (by decide) (fun a r g hf => k_Bench_costOnTop l D cy z N h a v9 x2 r g hf) gw_41_9 gw_41_10 gw_41_11 gw_2_0 gw_41_12 (by decide +kernel) ⟨Nat.le_of_ble_eq_true rfl, Nat.le_of_ble_eq_true rfl⟩ rfl hl.1 rfl (Nat.le_of_ble_eq_true rfl) dX0_costBy_121 (fun a => (mo_Bench_costOnTop N h a v9 x2)) (fun a v10 h11 q1 q2 => by have u1 := (mo_Bench_costOnTop N h a v9 x2) _ _ q1; have u2 := mo_Bench_costBy_124 N   h11 v10 _ _ q2; have u3 := wd_x w; have u4 := u1.1; have u5 := u1.2.1; have u6 := u2.1; have u7 := u2.2.1; show 0 + _ ≤ h_x g - (h_x h) ∧ 0 + _ ≤ h_s g - (h_s h); omega) e18 (fun v10 h11 H locs w hsh11 e19 => ?_)
                    exact b_Bench_costBy_124 C N (h_x h) (h_s h) hn0   _ _ h11 v10 _ _ ls w (by have u5 := hsh11.2.1; have u8 := hsl; omega) (lv_sub hl [] rfl) e19
                  ·
                    refine w_tout (tgt := 125) 0 9 C (by decide) (by intro k hk; rcases (show k = 0 ∨ k = 1 ∨ k = 2 ∨ k = 3 ∨ k = 4 ∨ k = 5 ∨ k = 6 ∨ k = 7 ∨ k = 8 by omega) with rfl | rfl | rfl | rfl | rfl | rfl | rfl | rfl | rfl; all_goals assumption) rfl rfl dX0_costBy_4 (by decide) ?_
                    exact b_Bench_costBy_125 C N (h_x h) (h_s h) hn0   _ _ h  _ _ ls w hsl (lv_sub hl [] rfl) e17
set_option maxRecDepth 20000 in
set_option maxHeartbeats 4000000 in
theorem b_Bench_applyIfNotTooMuch_33 {p : Program} {l : Launch} {e : Env} {s : State} {m : MethodId} {args : Array Value} {below : List Frame} {meth : Method} {c : Code} {D : va_G} {cy : cyT} {z : Nat} (C : MX p s m args meth c cX0_applyIfNotTooMuch 4 (none) RX0 (Cond.code yX0_applyIfNotTooMuch cX0_applyIfNotTooMuch 4 (none) :: GW)) (N : Nat) (n0 s0 : Nat) (hn0 : s.heap.size = n0) {r : Unit} {g : hS}  : ∀  (cells slots : Nat) (h : hS)  (H : Heap) (locs : List Loc) (ls : Array Slot), wd D cy z s cells h H locs → h_s h = s0 + slots → lv_has ls 4 [] → f_Bench_applyIfNotTooMuch_33 N   h  = some (r, g) → W p l e { frames := 4, cells := h_x g - n0, slots := h_s g - s0, locals := 121 } s m args below meth c H locs cells slots (MQ below (eQ D cy z (rV r) g) args s (h_x g - n0) (h_s g - s0) (fun q => z ≤ q)) (F0 m 33 ls []) := by
  obtain ⟨hx, hb, hr, hml, hown, hts, hlk⟩ := id C
  intro cells slots h  H locs ls w hsl hl hE
  have hcc : cells ≤ h_x g - n0 ∧ slots ≤ h_s g - s0 := by
    have q1 := mo_Bench_applyIfNotTooMuch_33 N  h  _ _ hE
    have q2 := wd_x w
    have q3 := q1.1
    have q4 := q1.2.1
    omega
  unfold f_Bench_applyIfNotTooMuch_33 at hE
  refine W.widen (k := h_x g - n0) (n := h_s g - s0) hcc.1 hcc.2 ?_
  exact w_vret C w hE dX0_applyIfNotTooMuch_33
set_option maxRecDepth 20000 in
set_option maxHeartbeats 4000000 in
theorem b_Bench_applyIfNotTooMuch_19 {p : Program} {l : Launch} {e : Env} {s : State} {m : MethodId} {args : Array Value} {below : List Frame} {meth : Method} {c : Code} {D : va_G} {cy : cyT} {z : Nat} (C : MX p s m args meth c cX0_applyIfNotTooMuch 4 (none) RX0 (Cond.code yX0_applyIfNotTooMuch cX0_applyIfNotTooMuch 4 (none) :: GW)) (N : Nat) (n0 s0 : Nat) (hn0 : s.heap.size = n0) {r : Unit} {g : hS}  : ∀  (cells slots : Nat) (h : hS) (th : Nat) (y0 : Int32) (H : Heap) (locs : List Loc) (ls : Array Slot), wd D cy z s cells h H locs → h_s h = s0 + slots → lv_has ls 4 [(0, .ref th)] → f_Bench_applyIfNotTooMuch_19 N   h th y0 = some (r, g) → W p l e { frames := 4, cells := h_x g - n0, slots := h_s g - s0, locals := 121 } s m args below meth c H locs cells slots (MQ below (eQ D cy z (rV r) g) args s (h_x g - n0) (h_s g - s0) (fun q => z ≤ q)) (F0 m 19 ls [.int y0]) := by
  obtain ⟨hx, hb, hr, hml, hown, hts, hlk⟩ := id C
  intro cells slots h th y0 H locs ls w hsl hl hE
  have hcc : cells ≤ h_x g - n0 ∧ slots ≤ h_s g - s0 := by
    have q1 := mo_Bench_applyIfNotTooMuch_19 N  h th y0 _ _ hE
    have q2 := wd_x w
    have q3 := q1.1
    have q4 := q1.2.1
    omega
  unfold f_Bench_applyIfNotTooMuch_19 at hE
  refine w_if_ne (tgt := 33) C dX0_applyIfNotTooMuch_19 (by decide) hE (fun hc e1 => ?_) (fun hc e1 => ?_)
  · exact b_Bench_applyIfNotTooMuch_33 C N n0 s0 hn0   _ _ h  _ _ ls w hsl (lv_sub hl [] rfl) e1
  · refine lv_aload_n hx hb dX0_applyIfNotTooMuch_22 rfl (lv_at hl 0 rfl) ?_
    refine w_gR (r := some th) (ci := 1) (k := 0) C w rfl (by decide) (GF_wsX00 _) (by decide) rfl (List.mem_cons_of_mem _ gw_4_3) rfl dX0_applyIfNotTooMuch_23 e1 (fun v1 e2 => ?_)
    refine lv_aload_n hx hb dX0_applyIfNotTooMuch_26 rfl (lv_at hl 0 rfl) ?_
    refine w_gR (r := some th) (ci := 1) (k := 2) C w rfl (by decide) (GF_wsX00 _) (by decide) rfl (List.mem_cons_of_mem _ gw_4_5) rfl dX0_applyIfNotTooMuch_27 e2 (fun v2 e3 => ?_)
    refine w_VAV GW_good (n := 1) (F := 1) (Lc := 60) (o := v1) (av := [va_rf v2]) (rest := []) C w rfl (by decide) (fun a r g hf => k_Curve_take l D cy z N h a v2 r g hf) gw_50_9 gw_24_6 gw_24_7 gw_2_22 gw_24_8 (by decide +kernel) ⟨Nat.le_of_ble_eq_true rfl, Nat.le_of_ble_eq_true rfl⟩ rfl hl.1 rfl (Nat.le_of_ble_eq_true rfl) dX0_applyIfNotTooMuch_30 (fun a => (mo_Curve_take N h a v2)) (fun a v3 h4 q1 q2 => by have u1 := (mo_Curve_take N h a v2) _ _ q1; have u2 := mo_Bench_applyIfNotTooMuch_33 N   h4  _ _ q2; have u3 := wd_x w; have u4 := u1.1; have u5 := u1.2.1; have u6 := u2.1; have u7 := u2.2.1; show cells + _ ≤ h_x g - n0 ∧ slots + _ ≤ h_s g - s0; omega) e3 (fun v3 h4 H locs w hsh4 e4 => ?_)
    exact b_Bench_applyIfNotTooMuch_33 C N n0 s0 hn0   _ _ h4  _ _ ls w (by have u5 := hsh4.2.1; have u8 := hsl; omega) (lv_sub hl [] rfl) e4
set_option maxRecDepth 20000 in
set_option maxHeartbeats 4000000 in
theorem b_Bench_applyIfNotTooMuch_11 {p : Program} {l : Launch} {e : Env} {s : State} {m : MethodId} {args : Array Value} {below : List Frame} {meth : Method} {c : Code} {D : va_G} {cy : cyT} {z : Nat} (C : MX p s m args meth c cX0_applyIfNotTooMuch 4 (none) RX0 (Cond.code yX0_applyIfNotTooMuch cX0_applyIfNotTooMuch 4 (none) :: GW)) (N : Nat) (n0 s0 : Nat) (hn0 : s.heap.size = n0) {r : Unit} {g : hS}  : ∀  (cells slots : Nat) (h : hS) (th : Nat) (x1 : Int32) (x2 : Int32) (x3 : Int32) (H : Heap) (locs : List Loc) (ls : Array Slot), wd D cy z s cells h H locs → h_s h = s0 + slots → lv_has ls 4 [(0, .ref th), (1, .int x1), (2, .int x2), (3, .int x3)] → f_Bench_applyIfNotTooMuch_11 N   h th x1 x2 x3 = some (r, g) → W p l e { frames := 4, cells := h_x g - n0, slots := h_s g - s0, locals := 121 } s m args below meth c H locs cells slots (MQ below (eQ D cy z (rV r) g) args s (h_x g - n0) (h_s g - s0) (fun q => z ≤ q)) (F0 m 11 ls []) := by
  obtain ⟨hx, hb, hr, hml, hown, hts, hlk⟩ := id C
  intro cells slots h th x1 x2 x3 H locs ls w hsl hl hE
  have hcc : cells ≤ h_x g - n0 ∧ slots ≤ h_s g - s0 := by
    have q1 := mo_Bench_applyIfNotTooMuch_11 N  h th x1 x2 x3 _ _ hE
    have q2 := wd_x w
    have q3 := q1.1
    have q4 := q1.2.1
    omega
  unfold f_Bench_applyIfNotTooMuch_11 at hE
  refine lv_aload_n hx hb dX0_applyIfNotTooMuch_11 rfl (lv_at hl 0 rfl) ?_
  refine lv_iload_n hx hb dX0_applyIfNotTooMuch_12 rfl (lv_at hl 1 rfl) ?_
  refine lv_iload_n hx hb dX0_applyIfNotTooMuch_13 rfl (lv_at hl 2 rfl) ?_
  refine lv_iload_n hx hb dX0_applyIfNotTooMuch_14 rfl (lv_at hl 3 rfl) ?_
  refine lv_null hx hb dX0_applyIfNotTooMuch_15 ?_
  refine w_VAI GW_good (n := 4) (F := 3) (Lc := 97) (o := some th) (av := [.int x1, .int x2, .int x3, .null]) (rest := []) C w rfl (by decide) (fun a r g hf => k_Bench_apply l D cy z N h a x1 x2 x3 none r g hf) gw_20_18 gw_20_19 gw_20_20 gw_2_0 gw_20_21 (by decide +kernel) ⟨Nat.le_of_ble_eq_true rfl, Nat.le_of_ble_eq_true rfl⟩ rfl hl.1 rfl (Nat.le_of_ble_eq_true rfl) dX0_applyIfNotTooMuch_16 (fun a => (mo_Bench_apply N h a x1 x2 x3 none)) (fun a v1 h2 q1 q2 => by have u1 := (mo_Bench_apply N h a x1 x2 x3 none) _ _ q1; have u2 := mo_Bench_applyIfNotTooMuch_19 N   h2 th v1 _ _ q2; have u3 := wd_x w; have u4 := u1.1; have u5 := u1.2.1; have u6 := u2.1; have u7 := u2.2.1; show cells + _ ≤ h_x g - n0 ∧ slots + _ ≤ h_s g - s0; omega) hE (fun v1 h2 H locs w hsh2 e1 => ?_)
  exact b_Bench_applyIfNotTooMuch_19 C N n0 s0 hn0   _ _ h2 th v1 _ _ ls w (by have u5 := hsh2.2.1; have u8 := hsl; omega) (lv_sub hl [0] rfl) e1
set_option maxRecDepth 20000 in
set_option maxHeartbeats 4000000 in
theorem k_Bench_applyIfNotTooMuch (l : Launch) (D : va_G) (cy : cyT) (z : Nat) (N : Nat) (h : hS) (th : Nat) (x1 : Int32) (x2 : Int32) (x3 : Int32) (r : Unit) (g : hS) (hE : f_Bench_applyIfNotTooMuch N h th x1 x2 x3 = some (r, g)) : ct l yX0_applyIfNotTooMuch (Cond.code yX0_applyIfNotTooMuch cX0_applyIfNotTooMuch 4 (none) :: GW) { frames := 4, cells := h_x g - h_x h, slots := h_s g - h_s h, locals := 121 } D cy z h [.ref th, .int x1, .int x2, .int x3] (rV r) g := by
  refine Met.ofW (cc := cX0_applyIfNotTooMuch) (maxL := 4) (ret := none) (by decide) rfl ?_
  intro p e s m args below meth c s₁ B hml hv
  obtain ⟨rfl, hw⟩ := hv
  have C : MX p s m ([.ref th, .int x1, .int x2, .int x3] : List Value).toArray meth c cX0_applyIfNotTooMuch 4 (none) RX0 (Cond.code yX0_applyIfNotTooMuch cX0_applyIfNotTooMuch 4 (none) :: GW) := ⟨B.exec, B.bytes, B.returns, hml, findClass_of_methodNamed B.named, atoms_spec (ws := Cond.code yX0_applyIfNotTooMuch cX0_applyIfNotTooMuch 4 (none) :: GW) B.pre, B.notSynchronized⟩
  obtain ⟨hx, hb, hr, hml, hown, hts, hlk⟩ := id C
  have w := wd_of hw
  have hsl : h_s h = h_s h + 0 := rfl
  have hn0 : s.heap.size = h_x h := (wd_x w).1
  obtain ⟨ls, hen, hl⟩ : ∃ ls : Array Slot, entryFrame m ([.ref th, .int x1, .int x2, .int x3] : List Value).toArray 4 = F0 m 0 ls [] ∧ lv_has ls 4 [(0, .ref th), (1, .int x1), (2, .int x2), (3, .int x3)] := by
    exact ⟨_, lg_entry_eq _ _ _, lv_entry _ (Nat.le_of_ble_eq_true rfl)⟩
  rw [hen]
  have hcc : 0 ≤ h_x g - h_x h ∧ 0 ≤ h_s g - h_s h := ⟨Nat.zero_le _, Nat.zero_le _⟩
  unfold f_Bench_applyIfNotTooMuch at hE
  refine lv_aload_n hx hb dX0_applyIfNotTooMuch_0 rfl (lv_at hl 0 rfl) ?_
  refine w_gR (r := some th) (ci := 1) (k := 2) C w rfl (by decide) (GF_wsX00 _) (by decide) rfl (List.mem_cons_of_mem _ gw_4_5) rfl dX0_applyIfNotTooMuch_1 hE (fun v1 e1 => ?_)
  refine lv_aload_n hx hb dX0_applyIfNotTooMuch_4 rfl (lv_at hl 0 rfl) ?_
  refine w_gR (r := some th) (ci := 1) (k := 0) C w rfl (by decide) (GF_wsX00 _) (by decide) rfl (List.mem_cons_of_mem _ gw_4_3) rfl dX0_applyIfNotTooMuch_5 e1 (fun v2 e2 => ?_)
  refine w_VAV GW_good (n := 1) (F := 1) (Lc := 60) (o := v1) (av := [va_rf v2]) (rest := []) C w rfl (by decide) (fun a r g hf => k_Curve_take l D cy z N h a v2 r g hf) gw_50_9 gw_24_6 gw_24_7 gw_2_22 gw_24_8 (by decide +kernel) ⟨Nat.le_of_ble_eq_true rfl, Nat.le_of_ble_eq_true rfl⟩ rfl hl.1 rfl (Nat.le_of_ble_eq_true rfl) dX0_applyIfNotTooMuch_8 (fun a => (mo_Curve_take N h a v2)) (fun a v3 h4 q1 q2 => by have u1 := (mo_Curve_take N h a v2) _ _ q1; have u2 := mo_Bench_applyIfNotTooMuch_11 N   h4 th x1 x2 x3 _ _ q2; have u3 := wd_x w; have u4 := u1.1; have u5 := u1.2.1; have u6 := u2.1; have u7 := u2.2.1; show 0 + _ ≤ h_x g - (h_x h) ∧ 0 + _ ≤ h_s g - (h_s h); omega) e2 (fun v3 h4 H locs w hsh4 e3 => ?_)
  exact b_Bench_applyIfNotTooMuch_11 C N (h_x h) (h_s h) hn0   _ _ h4 th x1 x2 x3 _ _ ls w (by have u5 := hsh4.2.1; have u8 := hsl; omega) (lv_sub hl [0, 1, 2, 3] rfl) e3
set_option maxRecDepth 20000 in
set_option maxHeartbeats 4000000 in
theorem b_Chain_init_9 {p : Program} {l : Launch} {e : Env} {s : State} {m : MethodId} {args : Array Value} {below : List Frame} {meth : Method} {c : Code} {D : va_G} {cy : cyT} {z : Nat} (C : MX p s m args meth c cX1_init 1 (none) RX1 (Cond.code yX1_init cX1_init 1 (none) :: GW)) (hni : meth.name = "<init>") (N : Nat) (n0 s0 : Nat) (hn0 : s.heap.size = n0) {r : Unit} {g : hS}  : ∀  (cells slots : Nat) (h : hS) (th : Nat) (y0 : Option Nat) (y1 : Option Nat) (H : Heap) (locs : List Loc) (ls : Array Slot), wd D cy z s cells h H locs → h_s h = s0 + slots → lv_has ls 1 [(0, .ref th)] → f_Chain_init_9 N   h th y0 y1 = some (r, g) → W p l e { frames := 1, cells := h_x g - n0, slots := h_s g - s0, locals := 44 } s m args below meth c H locs cells slots (MQ below (eQ D cy z (rV r) g) args s (h_x g - n0) (h_s g - s0) (fun q => z ≤ q)) (F0 m 9 ls [va_rf y1, va_rf y0]) := by
  obtain ⟨hx, hb, hr, hml, hown, hts, hlk⟩ := id C
  intro cells slots h th y0 y1 H locs ls w hsl hl hE
  have hcc : cells ≤ h_x g - n0 ∧ slots ≤ h_s g - s0 := by
    have q1 := mo_Chain_init_9 N  h th y0 y1 _ _ hE
    have q2 := wd_x w
    have q3 := q1.1
    have q4 := q1.2.1
    omega
  unfold f_Chain_init_9 at hE
  refine w_pR (r := y0) (ci := 2) (k := 0) (v := y1) (Or.inr ⟨_, rfl⟩) C w rfl (by decide) (by unfold roK; omega) (GF_wsX10 _) tyX1 tyX1_ok nmX1 (by decide) rfl (List.mem_cons_of_mem _ gw_5_13) rfl rfl (tyX1_ok 0 (by decide)) dX1_init_9 hE (fun h1 H locs w hsh1 e1 => ?_)
  have hsl := hsh1.2.2.2.trans hsl
  refine lv_aload_n hx hb dX1_init_12 rfl (lv_at hl 0 rfl) ?_
  refine lv_iconst (v := 0) hx hb dX1_init_13 (by decide) ?_
  refine w_pI (r := some th) (ci := 2) (k := 1) C w rfl (by decide) (by unfold roK; omega) (GF_wsX10 _) tyX1 tyX1_ok nmX1 (by decide) rfl (List.mem_cons_of_mem _ gw_5_14) rfl rfl (tyX1_ok 1 (by decide)) dX1_init_14 e1 (fun h2 H locs w hsh2 e2 => ?_)
  have hsl := hsh2.2.2.2.trans hsl
  refine W.widen (k := h_x g - n0) (n := h_s g - s0) hcc.1 hcc.2 ?_
  exact w_vret C w e2 dX1_init_17
set_option maxRecDepth 20000 in
set_option maxHeartbeats 4000000 in
theorem k_Chain_init (l : Launch) (D : va_G) (cy : cyT) (z : Nat) (N : Nat) (h : hS) (th : Nat) (r : Unit) (g : hS) (hE : f_Chain_init N h th = some (r, g)) : ct l yX1_init (Cond.code yX1_init cX1_init 1 (none) :: GW) { frames := 1, cells := h_x g - h_x h, slots := h_s g - h_s h, locals := 44 } D cy z h [.ref th] (rV r) g := by
  refine Met.ofW (cc := cX1_init) (maxL := 1) (ret := none) (by decide) rfl ?_
  intro p e s m args below meth c s₁ B hml hv
  obtain ⟨rfl, hw⟩ := hv
  have hni : meth.name = "<init>" := (name_of_methodNamed B.named B.method).1
  have C : MX p s m ([.ref th] : List Value).toArray meth c cX1_init 1 (none) RX1 (Cond.code yX1_init cX1_init 1 (none) :: GW) := ⟨B.exec, B.bytes, B.returns, hml, findClass_of_methodNamed B.named, atoms_spec (ws := Cond.code yX1_init cX1_init 1 (none) :: GW) B.pre, B.notSynchronized⟩
  obtain ⟨hx, hb, hr, hml, hown, hts, hlk⟩ := id C
  have w := wd_of hw
  have hsl : h_s h = h_s h + 0 := rfl
  have hn0 : s.heap.size = h_x h := (wd_x w).1
  obtain ⟨ls, hen, hl⟩ : ∃ ls : Array Slot, entryFrame m ([.ref th] : List Value).toArray 1 = F0 m 0 ls [] ∧ lv_has ls 1 [(0, .ref th)] := by
    exact ⟨_, lg_entry_eq _ _ _, lv_entry _ (Nat.le_of_ble_eq_true rfl)⟩
  rw [hen]
  have hcc : 0 ≤ h_x g - h_x h ∧ 0 ≤ h_s g - h_s h := ⟨Nat.zero_le _, Nat.zero_le _⟩
  unfold f_Chain_init at hE
  refine lv_aload_n hx hb dX1_init_0 rfl (lv_at hl 0 rfl) ?_
  refine w_oinit (a := th) C hl.1 (List.mem_cons_of_mem _ gw_5_11) (List.mem_cons_of_mem _ gw_1_12) (List.mem_cons_of_mem _ gw_1_13) (Nat.le_of_ble_eq_true rfl) (Nat.le_of_ble_eq_true rfl) dX1_init_1 ?_
  refine lv_aload_n hx hb dX1_init_4 rfl (lv_at hl 0 rfl) ?_
  refine lv_iconst (v := 0) hx hb dX1_init_5 (by decide) ?_
  have hm := mo_Chain_init_9 N   (nw h 64 (0 : Int32).toNatClampNeg (0 : Int32).toNatClampNeg) th (some th) (some (h_x h)) _ _ (nwA_some hE).2
  have hm1 := hm.1
  have hm2 := hm.2.1
  rw [h_x_nw] at hm1
  rw [h_s_nw] at hm2
  have hwx := wd_x w
  refine w_anw (kd := 64) (t0 := 8) C w (List.mem_cons_of_mem _ gw_5_12) (List.mem_of_getElem? (i := 2) rfl) rfl (by decide) dX1_init_6 hE (by show 0 + 1 ≤ h_x g - (h_x h); omega) (by show 0 + _ ≤ h_s g - (h_s h); omega) (fun H w e1 => ?_)
  exact b_Chain_init_9 C hni N (h_x h) (h_s h) hn0   (0 + 1) (0 + (0 : Int32).toNatClampNeg) (nw h 64 (0 : Int32).toNatClampNeg (0 : Int32).toNatClampNeg) th (some th) (some (h_x h)) _ _ ls w (by first | (rw [h_s_nw, hsl]; done) | (rw [h_s_nw, hsl]; omega)) (lv_sub hl [0] rfl) e1
set_option maxRecDepth 20000 in
set_option maxHeartbeats 4000000 in
theorem k_Chain_clear (l : Launch) (D : va_G) (cy : cyT) (z : Nat) (N : Nat) (h : hS) (th : Nat) (r : Unit) (g : hS) (hE : f_Chain_clear N h th = some (r, g)) : ct l yX1_clear (Cond.code yX1_clear cX1_clear 1 (none) :: GW) { frames := 0, cells := 0, slots := 0, locals := 0 } D cy z h [.ref th] (rV r) g := by
  refine Met.ofW (cc := cX1_clear) (maxL := 1) (ret := none) (by decide) rfl ?_
  intro p e s m args below meth c s₁ B hml hv
  obtain ⟨rfl, hw⟩ := hv
  have C : MX p s m ([.ref th] : List Value).toArray meth c cX1_clear 1 (none) RX1 (Cond.code yX1_clear cX1_clear 1 (none) :: GW) := ⟨B.exec, B.bytes, B.returns, hml, findClass_of_methodNamed B.named, atoms_spec (ws := Cond.code yX1_clear cX1_clear 1 (none) :: GW) B.pre, B.notSynchronized⟩
  obtain ⟨hx, hb, hr, hml, hown, hts, hlk⟩ := id C
  have w := wd_of hw
  obtain ⟨ls, hen, hl⟩ : ∃ ls : Array Slot, entryFrame m ([.ref th] : List Value).toArray 1 = F0 m 0 ls [] ∧ lv_has ls 1 [(0, .ref th)] := by
    exact ⟨_, lg_entry_eq _ _ _, lv_entry _ (Nat.le_of_ble_eq_true rfl)⟩
  rw [hen]
  unfold f_Chain_clear at hE
  refine lv_aload_n hx hb dX1_clear_0 rfl (lv_at hl 0 rfl) ?_
  refine lv_iconst (v := 0) hx hb dX1_clear_1 (by decide) ?_
  refine w_pI (r := some th) (ci := 2) (k := 1) C w rfl (by decide) (by unfold roK; omega) (GF_wsX10 _) tyX1 tyX1_ok nmX1 (by decide) rfl (List.mem_cons_of_mem _ gw_5_14) rfl rfl (tyX1_ok 1 (by decide)) dX1_clear_2 hE (fun h1 H locs w hsh1 e1 => ?_)
  exact w_vret C w e1 dX1_clear_5
set_option maxRecDepth 20000 in
set_option maxHeartbeats 4000000 in
theorem b_Chain_makeRoom_19 {p : Program} {l : Launch} {e : Env} {s : State} {m : MethodId} {args : Array Value} {below : List Frame} {meth : Method} {c : Code} {D : va_G} {cy : cyT} {z : Nat} (C : MX p s m args meth c cX1_makeRoom 4 (none) RX1 (Cond.code yX1_makeRoom cX1_makeRoom 4 (none) :: GW)) (N : Nat) (n0 s0 : Nat) (hn0 : s.heap.size = n0) {r : Unit} {g : hS}  : ∀  (cells slots : Nat) (h : hS)  (H : Heap) (locs : List Loc) (ls : Array Slot), wd D cy z s cells h H locs → h_s h = s0 + slots → lv_has ls 4 [] → f_Chain_makeRoom_19 N   h  = some (r, g) → W p l e { frames := 0, cells := h_x g - n0, slots := h_s g - s0, locals := 0 } s m args below meth c H locs cells slots (MQ below (eQ D cy z (rV r) g) args s (h_x g - n0) (h_s g - s0) (fun q => z ≤ q)) (F0 m 19 ls []) := by
  obtain ⟨hx, hb, hr, hml, hown, hts, hlk⟩ := id C
  intro cells slots h  H locs ls w hsl hl hE
  have hcc : cells ≤ h_x g - n0 ∧ slots ≤ h_s g - s0 := by
    have q1 := mo_Chain_makeRoom_19 N  h  _ _ hE
    have q2 := wd_x w
    have q3 := q1.1
    have q4 := q1.2.1
    omega
  unfold f_Chain_makeRoom_19 at hE
  refine W.widen (k := h_x g - n0) (n := h_s g - s0) hcc.1 hcc.2 ?_
  exact w_vret C w hE dX1_makeRoom_19
set_option maxRecDepth 20000 in
set_option maxHeartbeats 4000000 in
theorem b_Chain_makeRoom_60 {p : Program} {l : Launch} {e : Env} {s : State} {m : MethodId} {args : Array Value} {below : List Frame} {meth : Method} {c : Code} {D : va_G} {cy : cyT} {z : Nat} (C : MX p s m args meth c cX1_makeRoom 4 (none) RX1 (Cond.code yX1_makeRoom cX1_makeRoom 4 (none) :: GW)) (N : Nat) (n0 s0 : Nat) (hn0 : s.heap.size = n0) {r : Unit} {g : hS}  : ∀  (cells slots : Nat) (h : hS) (th : Nat) (a2 : Option Nat) (H : Heap) (locs : List Loc) (ls : Array Slot), wd D cy z s cells h H locs → h_s h = s0 + slots → lv_has ls 4 [(0, .ref th), (2, va_rf a2)] → f_Chain_makeRoom_60 N   h th a2 = some (r, g) → W p l e { frames := 0, cells := h_x g - n0, slots := h_s g - s0, locals := 0 } s m args below meth c H locs cells slots (MQ below (eQ D cy z (rV r) g) args s (h_x g - n0) (h_s g - s0) (fun q => z ≤ q)) (F0 m 60 ls []) := by
  obtain ⟨hx, hb, hr, hml, hown, hts, hlk⟩ := id C
  intro cells slots h th a2 H locs ls w hsl hl hE
  have hcc : cells ≤ h_x g - n0 ∧ slots ≤ h_s g - s0 := by
    have q1 := mo_Chain_makeRoom_60 N  h th a2 _ _ hE
    have q2 := wd_x w
    have q3 := q1.1
    have q4 := q1.2.1
    omega
  unfold f_Chain_makeRoom_60 at hE
  refine lv_aload_n hx hb dX1_makeRoom_60 rfl (lv_at hl 0 rfl) ?_
  refine w_aload_n C dX1_makeRoom_61 rfl (lv_at hl 1 rfl) ?_
  refine w_pR (r := some th) (ci := 2) (k := 0) (v := a2) (Or.inr ⟨_, rfl⟩) C w rfl (by decide) (by unfold roK; omega) (GF_wsX10 _) tyX1 tyX1_ok nmX1 (by decide) rfl (List.mem_cons_of_mem _ gw_5_13) rfl rfl (tyX1_ok 0 (by decide)) dX1_makeRoom_62 hE (fun h1 H locs w hsh1 e1 => ?_)
  have hsl := hsh1.2.2.2.trans hsl
  refine W.widen (k := h_x g - n0) (n := h_s g - s0) hcc.1 hcc.2 ?_
  exact w_vret C w e1 dX1_makeRoom_65
set_option maxRecDepth 20000 in
set_option maxHeartbeats 4000000 in
theorem b_Chain_makeRoom_28 {p : Program} {l : Launch} {e : Env} {s : State} {m : MethodId} {args : Array Value} {below : List Frame} {meth : Method} {c : Code} {D : va_G} {cy : cyT} {z : Nat} (C : MX p s m args meth c cX1_makeRoom 4 (none) RX1 (Cond.code yX1_makeRoom cX1_makeRoom 4 (none) :: GW)) (N : Nat) (n0 s0 : Nat) (hn0 : s.heap.size = n0) {r : Unit} {g : hS}  : ∀ (n : Nat) (cells slots : Nat) (h : hS) (th : Nat) (a2 : Option Nat) (x3 : Int32) (H : Heap) (locs : List Loc) (ls : Array Slot), wd D cy z s cells h H locs → h_s h = s0 + slots → lv_has ls 4 [(0, .ref th), (2, va_rf a2), (3, .int x3)] → f_Chain_makeRoom_28 N  n h th a2 x3 = some (r, g) → W p l e { frames := 0, cells := h_x g - n0, slots := h_s g - s0, locals := 0 } s m args below meth c H locs cells slots (MQ below (eQ D cy z (rV r) g) args s (h_x g - n0) (h_s g - s0) (fun q => z ≤ q)) (F0 m 28 ls []) := by
  obtain ⟨hx, hb, hr, hml, hown, hts, hlk⟩ := id C
  intro n
  induction n with
  | zero =>
    intro cells slots h th a2 x3 H locs ls w hsl hl hE
    cases hE
  | succ n ih =>
    intro cells slots h th a2 x3 H locs ls w hsl hl hE
    have hcc : cells ≤ h_x g - n0 ∧ slots ≤ h_s g - s0 := by
      have q1 := mo_Chain_makeRoom_28 N  (n + 1) h th a2 x3 _ _ hE
      have q2 := wd_x w
      have q3 := q1.1
      have q4 := q1.2.1
      omega
    unfold f_Chain_makeRoom_28 at hE
    refine lv_iload_n hx hb dX1_makeRoom_28 rfl (lv_at hl 2 rfl) ?_
    refine lv_aload_n hx hb dX1_makeRoom_29 rfl (lv_at hl 0 rfl) ?_
    refine w_gI (r := some th) (ci := 2) (k := 1) C w rfl (by decide) (GF_wsX10 _) (by decide) rfl (List.mem_cons_of_mem _ gw_5_14) rfl dX1_makeRoom_30 hE (fun v1 e1 => ?_)
    refine w_icmp_ge (tgt := 60) C dX1_makeRoom_33 (by decide) e1 (fun hc e2 => ?_) (fun hc e2 => ?_)
    · exact b_Chain_makeRoom_60 C N n0 s0 hn0   _ _ h th a2 _ _ ls w hsl (lv_sub hl [0, 1] rfl) e2
    · refine lv_iload_n hx hb dX1_makeRoom_36 rfl (lv_at hl 2 rfl) ?_
      refine lv_aload_n hx hb dX1_makeRoom_37 rfl (lv_at hl 0 rfl) ?_
      refine w_gR (r := some th) (ci := 2) (k := 0) C w rfl (by decide) (GF_wsX10 _) (by decide) rfl (List.mem_cons_of_mem _ gw_5_13) rfl dX1_makeRoom_38 e2 (fun v2 e3 => ?_)
      refine w_lenRq (kd := 64) (t0 := 8) (r := v2) C w rfl (by decide) dX1_makeRoom_41 e3 (fun v3 e4 => ?_)
      refine w_icmp_ge (tgt := 60) C dX1_makeRoom_42 (by decide) e4 (fun hc e5 => ?_) (fun hc e5 => ?_)
      · exact b_Chain_makeRoom_60 C N n0 s0 hn0   _ _ h th a2 _ _ ls w hsl (lv_sub hl [0, 1] rfl) e5
      · refine w_aload_n C dX1_makeRoom_45 rfl (lv_at hl 1 rfl) ?_
        refine lv_iload_n hx hb dX1_makeRoom_46 rfl (lv_at hl 2 rfl) ?_
        refine lv_aload_n hx hb dX1_makeRoom_47 rfl (lv_at hl 0 rfl) ?_
        refine w_gR (r := some th) (ci := 2) (k := 0) C w rfl (by decide) (GF_wsX10 _) (by decide) rfl (List.mem_cons_of_mem _ gw_5_13) rfl dX1_makeRoom_48 e5 (fun v4 e6 => ?_)
        refine lv_iload_n hx hb dX1_makeRoom_51 rfl (lv_at hl 2 rfl) ?_
        refine w_aRq (kd := 64) (t0 := 8) (r := v4) C w rfl (by decide) dX1_makeRoom_52 e6 (fun v5 e7 => ?_)
        refine w_uR (kd := 64) (t0 := 8) (ci := 8) (r := a2) (v := v5) C w rfl (by decide) rfl (by decide) dX1_makeRoom_53 e7 (fun h6 H locs w hsh6 e8 => ?_)
        have hsl := hsh6.2.2.2.trans hsl
        obtain ⟨v7, ev7, e9⟩ := bn_some e8
        refine lv_iinc (v := v7) (lv' := [(3, .int v7), (0, .ref th), (2, va_rf a2)]) hx hb dX1_makeRoom_54 hl (k := 2) rfl (by rw [ev7]; rfl) (by decide) (by cases a2 <;> rfl) (fun ls hl => ?_)
        refine lv_goto (tgt := 28) hx hb dX1_makeRoom_57 (by decide) ?_
        exact ih _ _ h6 th a2 v7 _ _ ls w hsl (lv_sub hl [1, 2, 0] rfl) e9
set_option maxRecDepth 20000 in
set_option maxHeartbeats 4000000 in
theorem b_Chain_makeRoom_25 {p : Program} {l : Launch} {e : Env} {s : State} {m : MethodId} {args : Array Value} {below : List Frame} {meth : Method} {c : Code} {D : va_G} {cy : cyT} {z : Nat} (C : MX p s m args meth c cX1_makeRoom 4 (none) RX1 (Cond.code yX1_makeRoom cX1_makeRoom 4 (none) :: GW)) (N : Nat) (n0 s0 : Nat) (hn0 : s.heap.size = n0) {r : Unit} {g : hS}  : ∀  (cells slots : Nat) (h : hS) (th : Nat) (y0 : Option Nat) (H : Heap) (locs : List Loc) (ls : Array Slot), wd D cy z s cells h H locs → h_s h = s0 + slots → lv_has ls 4 [(0, .ref th)] → f_Chain_makeRoom_25 N   h th y0 = some (r, g) → W p l e { frames := 0, cells := h_x g - n0, slots := h_s g - s0, locals := 0 } s m args below meth c H locs cells slots (MQ below (eQ D cy z (rV r) g) args s (h_x g - n0) (h_s g - s0) (fun q => z ≤ q)) (F0 m 25 ls [va_rf y0]) := by
  obtain ⟨hx, hb, hr, hml, hown, hts, hlk⟩ := id C
  intro cells slots h th y0 H locs ls w hsl hl hE
  have hcc : cells ≤ h_x g - n0 ∧ slots ≤ h_s g - s0 := by
    have q1 := mo_Chain_makeRoom_25 N  h th y0 _ _ hE
    have q2 := wd_x w
    have q3 := q1.1
    have q4 := q1.2.1
    omega
  unfold f_Chain_makeRoom_25 at hE
  refine w_astore_n (r := y0) (lv' := [(2, va_rf y0), (0, .ref th)]) C dX1_makeRoom_25 rfl hl (by decide) rfl (fun ls hl => ?_)
  refine lv_iconst (v := 0) hx hb dX1_makeRoom_26 (by decide) ?_
  refine lv_istore_n (lv' := [(3, .int (0 : Int32)), (2, va_rf y0), (0, .ref th)]) hx hb dX1_makeRoom_27 rfl hl (by decide) (by cases y0 <;> rfl) (fun ls hl => ?_)
  exact b_Chain_makeRoom_28 C N n0 s0 hn0  N _ _ h th y0 (0 : Int32) _ _ ls w hsl (lv_sub hl [2, 1, 0] rfl) hE
set_option maxRecDepth 20000 in
set_option maxHeartbeats 4000000 in
theorem k_Chain_makeRoom (l : Launch) (D : va_G) (cy : cyT) (z : Nat) (N : Nat) (h : hS) (th : Nat) (x1 : Int32) (r : Unit) (g : hS) (hE : f_Chain_makeRoom N h th x1 = some (r, g)) : ct l yX1_makeRoom (Cond.code yX1_makeRoom cX1_makeRoom 4 (none) :: GW) { frames := 0, cells := h_x g - h_x h, slots := h_s g - h_s h, locals := 0 } D cy z h [.ref th, .int x1] (rV r) g := by
  refine Met.ofW (cc := cX1_makeRoom) (maxL := 4) (ret := none) (by decide) rfl ?_
  intro p e s m args below meth c s₁ B hml hv
  obtain ⟨rfl, hw⟩ := hv
  have C : MX p s m ([.ref th, .int x1] : List Value).toArray meth c cX1_makeRoom 4 (none) RX1 (Cond.code yX1_makeRoom cX1_makeRoom 4 (none) :: GW) := ⟨B.exec, B.bytes, B.returns, hml, findClass_of_methodNamed B.named, atoms_spec (ws := Cond.code yX1_makeRoom cX1_makeRoom 4 (none) :: GW) B.pre, B.notSynchronized⟩
  obtain ⟨hx, hb, hr, hml, hown, hts, hlk⟩ := id C
  have w := wd_of hw
  have hsl : h_s h = h_s h + 0 := rfl
  have hn0 : s.heap.size = h_x h := (wd_x w).1
  obtain ⟨ls, hen, hl⟩ : ∃ ls : Array Slot, entryFrame m ([.ref th, .int x1] : List Value).toArray 4 = F0 m 0 ls [] ∧ lv_has ls 4 [(0, .ref th), (1, .int x1)] := by
    exact ⟨_, lg_entry_eq _ _ _, lv_entry _ (Nat.le_of_ble_eq_true rfl)⟩
  rw [hen]
  have hcc : 0 ≤ h_x g - h_x h ∧ 0 ≤ h_s g - h_s h := ⟨Nat.zero_le _, Nat.zero_le _⟩
  unfold f_Chain_makeRoom at hE
  refine lv_iload_n hx hb dX1_makeRoom_0 rfl (lv_at hl 1 rfl) ?_
  refine lv_aload_n hx hb dX1_makeRoom_1 rfl (lv_at hl 0 rfl) ?_
  refine w_gR (r := some th) (ci := 2) (k := 0) C w rfl (by decide) (GF_wsX10 _) (by decide) rfl (List.mem_cons_of_mem _ gw_5_13) rfl dX1_makeRoom_2 hE (fun v1 e1 => ?_)
  refine w_lenRq (kd := 64) (t0 := 8) (r := v1) C w rfl (by decide) dX1_makeRoom_5 e1 (fun v2 e2 => ?_)
  refine w_icmp_le (tgt := 19) C dX1_makeRoom_6 (by decide) e2 (fun hc e3 => ?_) (fun hc e3 => ?_)
  · exact b_Chain_makeRoom_19 C N (h_x h) (h_s h) hn0   _ _ h  _ _ ls w hsl (lv_sub hl [] rfl) e3
  · refine lv_aload_n hx hb dX1_makeRoom_9 rfl (lv_at hl 0 rfl) ?_
    refine w_gR (r := some th) (ci := 2) (k := 0) C w rfl (by decide) (GF_wsX10 _) (by decide) rfl (List.mem_cons_of_mem _ gw_5_13) rfl dX1_makeRoom_10 e3 (fun v3 e4 => ?_)
    refine w_lenRq (kd := 64) (t0 := 8) (r := v3) C w rfl (by decide) dX1_makeRoom_13 e4 (fun v4 e5 => ?_)
    refine lv_bipush (v := 40) hx hb dX1_makeRoom_14 (by decide) ?_
    refine w_icmp_lt (tgt := 20) C dX1_makeRoom_16 (by decide) e5 (fun hc e6 => ?_) (fun hc e6 => ?_)
    · refine lv_bipush (v := 40) hx hb dX1_makeRoom_20 (by decide) ?_
      have hm := mo_Chain_makeRoom_25 N   (nw h 64 (40 : Int32).toNatClampNeg (40 : Int32).toNatClampNeg) th (some (h_x h)) _ _ (nwA_some e6).2
      have hm1 := hm.1
      have hm2 := hm.2.1
      rw [h_x_nw] at hm1
      rw [h_s_nw] at hm2
      have hwx := wd_x w
      refine w_anw (kd := 64) (t0 := 8) C w (List.mem_cons_of_mem _ gw_5_12) (List.mem_of_getElem? (i := 2) rfl) rfl (by decide) dX1_makeRoom_22 e6 (by show 0 + 1 ≤ h_x g - (h_x h); omega) (by show 0 + _ ≤ h_s g - (h_s h); omega) (fun H w e7 => ?_)
      exact b_Chain_makeRoom_25 C N (h_x h) (h_s h) hn0   (0 + 1) (0 + (40 : Int32).toNatClampNeg) (nw h 64 (40 : Int32).toNatClampNeg (40 : Int32).toNatClampNeg) th (some (h_x h)) _ _ ls w (by first | (rw [h_s_nw, hsl]; done) | (rw [h_s_nw, hsl]; omega)) (lv_sub hl [0] rfl) e7
    · exact b_Chain_makeRoom_19 C N (h_x h) (h_s h) hn0   _ _ h  _ _ ls w hsl (lv_sub hl [] rfl) e6
set_option maxRecDepth 20000 in
set_option maxHeartbeats 4000000 in
theorem b_Chain_take_26 {p : Program} {l : Launch} {e : Env} {s : State} {m : MethodId} {args : Array Value} {below : List Frame} {meth : Method} {c : Code} {D : va_G} {cy : cyT} {z : Nat} (C : MX p s m args meth c cX1_take 3 (none) RX1 (Cond.code yX1_take cX1_take 3 (none) :: GW)) (N : Nat) (n0 s0 : Nat) (hn0 : s.heap.size = n0) {r : Unit} {g : hS}  : ∀ (n : Nat) (cells slots : Nat) (h : hS) (th : Nat) (a1 : Option Nat) (x2 : Int32) (H : Heap) (locs : List Loc) (ls : Array Slot), wd D cy z s cells h H locs → h_s h = s0 + slots → lv_has ls 3 [(0, .ref th), (1, va_rf a1), (2, .int x2)] → f_Chain_take_26 N  n h th a1 x2 = some (r, g) → W p l e { frames := 1, cells := h_x g - n0, slots := h_s g - s0, locals := 44 } s m args below meth c H locs cells slots (MQ below (eQ D cy z (rV r) g) args s (h_x g - n0) (h_s g - s0) (fun q => z ≤ q)) (F0 m 26 ls []) := by
  obtain ⟨hx, hb, hr, hml, hown, hts, hlk⟩ := id C
  intro n
  induction n with
  | zero =>
    intro cells slots h th a1 x2 H locs ls w hsl hl hE
    cases hE
  | succ n ih =>
    intro cells slots h th a1 x2 H locs ls w hsl hl hE
    have hcc : cells ≤ h_x g - n0 ∧ slots ≤ h_s g - s0 := by
      have q1 := mo_Chain_take_26 N  (n + 1) h th a1 x2 _ _ hE
      have q2 := wd_x w
      have q3 := q1.1
      have q4 := q1.2.1
      omega
    unfold f_Chain_take_26 at hE
    refine lv_iload_n hx hb dX1_take_26 rfl (lv_at hl 2 rfl) ?_
    refine lv_aload_n hx hb dX1_take_27 rfl (lv_at hl 0 rfl) ?_
    refine w_gI (r := some th) (ci := 2) (k := 1) C w rfl (by decide) (GF_wsX10 _) (by decide) rfl (List.mem_cons_of_mem _ gw_5_14) rfl dX1_take_28 hE (fun v1 e1 => ?_)
    refine w_icmp_ge (tgt := 51) C dX1_take_31 (by decide) e1 (fun hc e2 => ?_) (fun hc e2 => ?_)
    · refine W.widen (k := h_x g - n0) (n := h_s g - s0) hcc.1 hcc.2 ?_
      exact w_vret C w e2 dX1_take_51
    · refine lv_aload_n hx hb dX1_take_34 rfl (lv_at hl 0 rfl) ?_
      refine w_gR (r := some th) (ci := 2) (k := 0) C w rfl (by decide) (GF_wsX10 _) (by decide) rfl (List.mem_cons_of_mem _ gw_5_13) rfl dX1_take_35 e2 (fun v2 e3 => ?_)
      refine lv_iload_n hx hb dX1_take_38 rfl (lv_at hl 2 rfl) ?_
      refine w_aload_n C dX1_take_39 rfl (lv_at hl 1 rfl) ?_
      refine lv_iload_n hx hb dX1_take_40 rfl (lv_at hl 2 rfl) ?_
      refine w_VR GW_good (n := 1) (F := 0) (Lc := 0) (o := a1) (av := [.int x2]) (rest := [.int x2, va_rf v2]) C w rfl (by decide) (fun a r g hf => k_Chain_stepAt l D cy z N h a x2 r g hf) gw_24_4 gw_20_7 gw_20_8 gw_3_6 gw_20_9 (by decide +kernel) ⟨Nat.le_of_ble_eq_true rfl, Nat.le_of_ble_eq_true rfl⟩ rfl hl.1 rfl (cat_le (Nat.le_of_ble_eq_true rfl)) dX1_take_41 (fun a => (sh_Chain_stepAt N h a x2)) ⟨hcc.1, hcc.2⟩ e3 (fun v3 h4 H locs w hsh4 e4 => ?_)
      have hsl := hsh4.2.2.2.trans hsl
      refine w_uR (kd := 64) (t0 := 8) (ci := 8) (r := v2) (v := v3) C w rfl (by decide) rfl (by decide) dX1_take_44 e4 (fun h5 H locs w hsh5 e5 => ?_)
      have hsl := hsh5.2.2.2.trans hsl
      obtain ⟨v6, ev6, e6⟩ := bn_some e5
      refine lv_iinc (v := v6) (lv' := [(2, .int v6), (0, .ref th), (1, va_rf a1)]) hx hb dX1_take_45 hl (k := 2) rfl (by rw [ev6]; rfl) (by decide) (by cases a1 <;> rfl) (fun ls hl => ?_)
      refine lv_goto (tgt := 26) hx hb dX1_take_48 (by decide) ?_
      exact ih _ _ h5 th a1 v6 _ _ ls w hsl (lv_sub hl [1, 2, 0] rfl) e6
set_option maxRecDepth 20000 in
set_option maxHeartbeats 4000000 in
theorem b_Chain_take_8 {p : Program} {l : Launch} {e : Env} {s : State} {m : MethodId} {args : Array Value} {below : List Frame} {meth : Method} {c : Code} {D : va_G} {cy : cyT} {z : Nat} (C : MX p s m args meth c cX1_take 3 (none) RX1 (Cond.code yX1_take cX1_take 3 (none) :: GW)) (N : Nat) (n0 s0 : Nat) (hn0 : s.heap.size = n0) {r : Unit} {g : hS}  : ∀  (cells slots : Nat) (h : hS) (th : Nat) (a1 : Option Nat) (H : Heap) (locs : List Loc) (ls : Array Slot), wd D cy z s cells h H locs → h_s h = s0 + slots → lv_has ls 3 [(0, .ref th), (1, va_rf a1)] → f_Chain_take_8 N   h th a1 = some (r, g) → W p l e { frames := 1, cells := h_x g - n0, slots := h_s g - s0, locals := 44 } s m args below meth c H locs cells slots (MQ below (eQ D cy z (rV r) g) args s (h_x g - n0) (h_s g - s0) (fun q => z ≤ q)) (F0 m 8 ls []) := by
  obtain ⟨hx, hb, hr, hml, hown, hts, hlk⟩ := id C
  intro cells slots h th a1 H locs ls w hsl hl hE
  have hcc : cells ≤ h_x g - n0 ∧ slots ≤ h_s g - s0 := by
    have q1 := mo_Chain_take_8 N  h th a1 _ _ hE
    have q2 := wd_x w
    have q3 := q1.1
    have q4 := q1.2.1
    omega
  unfold f_Chain_take_8 at hE
  refine lv_aload_n hx hb dX1_take_8 rfl (lv_at hl 0 rfl) ?_
  refine w_aload_n C dX1_take_9 rfl (lv_at hl 1 rfl) ?_
  refine w_gI (r := a1) (ci := 2) (k := 1) C w rfl (by decide) (GF_wsX10 _) (by decide) rfl (List.mem_cons_of_mem _ gw_5_14) rfl dX1_take_10 hE (fun v1 e1 => ?_)
  refine lv_aload_n hx hb dX1_take_13 rfl (lv_at hl 0 rfl) ?_
  refine w_gR (r := some th) (ci := 2) (k := 0) C w rfl (by decide) (GF_wsX10 _) (by decide) rfl (List.mem_cons_of_mem _ gw_5_13) rfl dX1_take_14 e1 (fun v2 e2 => ?_)
  refine w_lenRq (kd := 64) (t0 := 8) (r := v2) C w rfl (by decide) dX1_take_17 e2 (fun v3 e3 => ?_)
  refine w_mmin C hl.1 (List.mem_cons_of_mem _ gw_24_3) (List.mem_cons_of_mem _ gw_10_6) (List.mem_cons_of_mem _ gw_10_7) (List.mem_cons_of_mem _ gw_10_8) (Nat.le_of_ble_eq_true rfl) (Nat.le_of_ble_eq_true rfl) hcc.1 hcc.2 dX1_take_18 ?_
  refine w_pI (r := some th) (ci := 2) (k := 1) C w rfl (by decide) (by unfold roK; omega) (GF_wsX10 _) tyX1 tyX1_ok nmX1 (by decide) rfl (List.mem_cons_of_mem _ gw_5_14) rfl rfl (tyX1_ok 1 (by decide)) dX1_take_21 e3 (fun h4 H locs w hsh4 e4 => ?_)
  have hsl := hsh4.2.2.2.trans hsl
  refine lv_iconst (v := 0) hx hb dX1_take_24 (by decide) ?_
  refine lv_istore_n (lv' := [(2, .int (0 : Int32)), (0, .ref th), (1, va_rf a1)]) hx hb dX1_take_25 rfl hl (by decide) (by cases a1 <;> rfl) (fun ls hl => ?_)
  exact b_Chain_take_26 C N n0 s0 hn0  N _ _ h4 th a1 (0 : Int32) _ _ ls w hsl (lv_sub hl [1, 2, 0] rfl) e4
set_option maxRecDepth 20000 in
set_option maxHeartbeats 4000000 in
theorem k_Chain_take (l : Launch) (D : va_G) (cy : cyT) (z : Nat) (N : Nat) (h : hS) (th : Nat) (a1 : Option Nat) (r : Unit) (g : hS) (hE : f_Chain_take N h th a1 = some (r, g)) : ct l yX1_take (Cond.code yX1_take cX1_take 3 (none) :: GW) { frames := 1, cells := h_x g - h_x h, slots := h_s g - h_s h, locals := 44 } D cy z h [.ref th, va_rf a1] (rV r) g := by
  refine Met.ofW (cc := cX1_take) (maxL := 3) (ret := none) (by decide) rfl ?_
  intro p e s m args below meth c s₁ B hml hv
  obtain ⟨rfl, hw⟩ := hv
  have C : MX p s m ([.ref th, va_rf a1] : List Value).toArray meth c cX1_take 3 (none) RX1 (Cond.code yX1_take cX1_take 3 (none) :: GW) := ⟨B.exec, B.bytes, B.returns, hml, findClass_of_methodNamed B.named, atoms_spec (ws := Cond.code yX1_take cX1_take 3 (none) :: GW) B.pre, B.notSynchronized⟩
  obtain ⟨hx, hb, hr, hml, hown, hts, hlk⟩ := id C
  have w := wd_of hw
  have hsl : h_s h = h_s h + 0 := rfl
  have hn0 : s.heap.size = h_x h := (wd_x w).1
  obtain ⟨ls, hen, hl⟩ : ∃ ls : Array Slot, entryFrame m ([.ref th, va_rf a1] : List Value).toArray 3 = F0 m 0 ls [] ∧ lv_has ls 3 [(0, .ref th), (1, va_rf a1)] := by
    cases a1 <;> exact ⟨_, lg_entry_eq _ _ _, lv_entry _ (Nat.le_of_ble_eq_true rfl)⟩
  rw [hen]
  have hcc : 0 ≤ h_x g - h_x h ∧ 0 ≤ h_s g - h_s h := ⟨Nat.zero_le _, Nat.zero_le _⟩
  unfold f_Chain_take at hE
  refine lv_aload_n hx hb dX1_take_0 rfl (lv_at hl 0 rfl) ?_
  refine w_aload_n C dX1_take_1 rfl (lv_at hl 1 rfl) ?_
  refine w_gI (r := a1) (ci := 2) (k := 1) C w rfl (by decide) (GF_wsX10 _) (by decide) rfl (List.mem_cons_of_mem _ gw_5_14) rfl dX1_take_2 hE (fun v1 e1 => ?_)
  refine w_VAV GW_good (n := 1) (F := 0) (Lc := 0) (o := some th) (av := [.int v1]) (rest := []) C w rfl (by decide) (fun a r g hf => k_Chain_makeRoom l D cy z N h a v1 r g hf) gw_19_13 gw_19_14 gw_19_15 gw_3_6 gw_19_16 (by decide +kernel) ⟨Nat.le_of_ble_eq_true rfl, Nat.le_of_ble_eq_true rfl⟩ rfl hl.1 rfl (Nat.le_of_ble_eq_true rfl) dX1_take_5 (fun a => (mo_Chain_makeRoom N h a v1)) (fun a v2 h3 q1 q2 => by have u1 := (mo_Chain_makeRoom N h a v1) _ _ q1; have u2 := mo_Chain_take_8 N   h3 th a1 _ _ q2; have u3 := wd_x w; have u4 := u1.1; have u5 := u1.2.1; have u6 := u2.1; have u7 := u2.2.1; show 0 + _ ≤ h_x g - (h_x h) ∧ 0 + _ ≤ h_s g - (h_s h); omega) e1 (fun v2 h3 H locs w hsh3 e2 => ?_)
  exact b_Chain_take_8 C N (h_x h) (h_s h) hn0   _ _ h3 th a1 _ _ ls w (by have u5 := hsh3.2.1; have u8 := hsl; omega) (lv_sub hl [0, 1] rfl) e2
set_option maxRecDepth 20000 in
set_option maxHeartbeats 4000000 in
theorem b_Chain_insert_34 {p : Program} {l : Launch} {e : Env} {s : State} {m : MethodId} {args : Array Value} {below : List Frame} {meth : Method} {c : Code} {D : va_G} {cy : cyT} {z : Nat} (C : MX p s m args meth c cX1_insert 4 (none) RX1 (Cond.code yX1_insert cX1_insert 4 (none) :: GW)) (N : Nat) (n0 s0 : Nat) (hn0 : s.heap.size = n0) {r : Unit} {g : hS}  : ∀  (cells slots : Nat) (h : hS)  (H : Heap) (locs : List Loc) (ls : Array Slot), wd D cy z s cells h H locs → h_s h = s0 + slots → lv_has ls 4 [] → f_Chain_insert_34 N   h  = some (r, g) → W p l e { frames := 1, cells := h_x g - n0, slots := h_s g - s0, locals := 23 } s m args below meth c H locs cells slots (MQ below (eQ D cy z (rV r) g) args s (h_x g - n0) (h_s g - s0) (fun q => z ≤ q)) (F0 m 34 ls []) := by
  obtain ⟨hx, hb, hr, hml, hown, hts, hlk⟩ := id C
  intro cells slots h  H locs ls w hsl hl hE
  have hcc : cells ≤ h_x g - n0 ∧ slots ≤ h_s g - s0 := by
    have q1 := mo_Chain_insert_34 N  h  _ _ hE
    have q2 := wd_x w
    have q3 := q1.1
    have q4 := q1.2.1
    omega
  unfold f_Chain_insert_34 at hE
  refine W.widen (k := h_x g - n0) (n := h_s g - s0) hcc.1 hcc.2 ?_
  exact w_vret C w hE dX1_insert_34
set_option maxRecDepth 20000 in
set_option maxHeartbeats 4000000 in
theorem b_Chain_insert_40 {p : Program} {l : Launch} {e : Env} {s : State} {m : MethodId} {args : Array Value} {below : List Frame} {meth : Method} {c : Code} {D : va_G} {cy : cyT} {z : Nat} (C : MX p s m args meth c cX1_insert 4 (none) RX1 (Cond.code yX1_insert cX1_insert 4 (none) :: GW)) (N : Nat) (n0 s0 : Nat) (hn0 : s.heap.size = n0) {r : Unit} {g : hS}  : ∀ (n : Nat) (cells slots : Nat) (h : hS) (th : Nat) (x1 : Int32) (a2 : Option Nat) (x3 : Int32) (H : Heap) (locs : List Loc) (ls : Array Slot), wd D cy z s cells h H locs → h_s h = s0 + slots → lv_has ls 4 [(0, .ref th), (1, .int x1), (2, va_rf a2), (3, .int x3)] → f_Chain_insert_40 N  n h th x1 a2 x3 = some (r, g) → W p l e { frames := 1, cells := h_x g - n0, slots := h_s g - s0, locals := 23 } s m args below meth c H locs cells slots (MQ below (eQ D cy z (rV r) g) args s (h_x g - n0) (h_s g - s0) (fun q => z ≤ q)) (F0 m 40 ls []) := by
  obtain ⟨hx, hb, hr, hml, hown, hts, hlk⟩ := id C
  intro n
  induction n with
  | zero =>
    intro cells slots h th x1 a2 x3 H locs ls w hsl hl hE
    cases hE
  | succ n ih =>
    intro cells slots h th x1 a2 x3 H locs ls w hsl hl hE
    have hcc : cells ≤ h_x g - n0 ∧ slots ≤ h_s g - s0 := by
      have q1 := mo_Chain_insert_40 N  (n + 1) h th x1 a2 x3 _ _ hE
      have q2 := wd_x w
      have q3 := q1.1
      have q4 := q1.2.1
      omega
    unfold f_Chain_insert_40 at hE
    refine lv_iload_n hx hb dX1_insert_40 rfl (lv_at hl 3 rfl) ?_
    refine lv_iload_n hx hb dX1_insert_41 rfl (lv_at hl 1 rfl) ?_
    refine w_icmp_le (tgt := 65) C dX1_insert_42 (by decide) hE (fun hc e1 => ?_) (fun hc e1 => ?_)
    · refine lv_aload_n hx hb dX1_insert_65 rfl (lv_at hl 0 rfl) ?_
      refine w_gR (r := some th) (ci := 2) (k := 0) C w rfl (by decide) (GF_wsX10 _) (by decide) rfl (List.mem_cons_of_mem _ gw_5_13) rfl dX1_insert_66 e1 (fun v1 e2 => ?_)
      refine lv_iload_n hx hb dX1_insert_69 rfl (lv_at hl 1 rfl) ?_
      refine w_aload_n C dX1_insert_70 rfl (lv_at hl 2 rfl) ?_
      refine w_uR (kd := 64) (t0 := 8) (ci := 8) (r := v1) (v := a2) C w rfl (by decide) rfl (by decide) dX1_insert_71 e2 (fun h2 H locs w hsh2 e3 => ?_)
      have hsl := hsh2.2.2.2.trans hsl
      refine lv_aload_n hx hb dX1_insert_72 rfl (lv_at hl 0 rfl) ?_
      refine lv_dup hx hb dX1_insert_73 rfl ?_
      refine w_gI (r := some th) (ci := 2) (k := 1) C w rfl (by decide) (GF_wsX10 _) (by decide) rfl (List.mem_cons_of_mem _ gw_5_14) rfl dX1_insert_74 e3 (fun v3 e4 => ?_)
      refine lv_iconst (v := 1) hx hb dX1_insert_77 (by decide) ?_
      refine lv_iadd hx hb dX1_insert_78 ?_
      refine w_pI (r := some th) (ci := 2) (k := 1) C w rfl (by decide) (by unfold roK; omega) (GF_wsX10 _) tyX1 tyX1_ok nmX1 (by decide) rfl (List.mem_cons_of_mem _ gw_5_14) rfl rfl (tyX1_ok 1 (by decide)) dX1_insert_79 e4 (fun h4 H locs w hsh4 e5 => ?_)
      have hsl := hsh4.2.2.2.trans hsl
      refine W.widen (k := h_x g - n0) (n := h_s g - s0) hcc.1 hcc.2 ?_
      exact w_vret C w e5 dX1_insert_82
    · refine lv_aload_n hx hb dX1_insert_45 rfl (lv_at hl 0 rfl) ?_
      refine w_gR (r := some th) (ci := 2) (k := 0) C w rfl (by decide) (GF_wsX10 _) (by decide) rfl (List.mem_cons_of_mem _ gw_5_13) rfl dX1_insert_46 e1 (fun v5 e6 => ?_)
      refine lv_iload_n hx hb dX1_insert_49 rfl (lv_at hl 3 rfl) ?_
      refine lv_aload_n hx hb dX1_insert_50 rfl (lv_at hl 0 rfl) ?_
      refine w_gR (r := some th) (ci := 2) (k := 0) C w rfl (by decide) (GF_wsX10 _) (by decide) rfl (List.mem_cons_of_mem _ gw_5_13) rfl dX1_insert_51 e6 (fun v6 e7 => ?_)
      refine lv_iload_n hx hb dX1_insert_54 rfl (lv_at hl 3 rfl) ?_
      refine lv_iconst (v := 1) hx hb dX1_insert_55 (by decide) ?_
      refine lv_isub hx hb dX1_insert_56 ?_
      refine w_aRq (kd := 64) (t0 := 8) (r := v6) C w rfl (by decide) dX1_insert_57 e7 (fun v7 e8 => ?_)
      refine w_uR (kd := 64) (t0 := 8) (ci := 8) (r := v5) (v := v7) C w rfl (by decide) rfl (by decide) dX1_insert_58 e8 (fun h8 H locs w hsh8 e9 => ?_)
      have hsl := hsh8.2.2.2.trans hsl
      obtain ⟨v9, ev9, e10⟩ := bn_some e9
      refine lv_iinc (v := v9) (lv' := [(3, .int v9), (0, .ref th), (1, .int x1), (2, va_rf a2)]) hx hb dX1_insert_59 hl (k := 3) rfl (by rw [ev9]; rfl) (by decide) (by cases a2 <;> rfl) (fun ls hl => ?_)
      refine lv_goto (tgt := 40) hx hb dX1_insert_62 (by decide) ?_
      exact ih _ _ h8 th x1 a2 v9 _ _ ls w hsl (lv_sub hl [1, 2, 3, 0] rfl) e10
set_option maxRecDepth 20000 in
set_option maxHeartbeats 4000000 in
theorem b_Chain_insert_10 {p : Program} {l : Launch} {e : Env} {s : State} {m : MethodId} {args : Array Value} {below : List Frame} {meth : Method} {c : Code} {D : va_G} {cy : cyT} {z : Nat} (C : MX p s m args meth c cX1_insert 4 (none) RX1 (Cond.code yX1_insert cX1_insert 4 (none) :: GW)) (N : Nat) (n0 s0 : Nat) (hn0 : s.heap.size = n0) {r : Unit} {g : hS}  : ∀  (cells slots : Nat) (h : hS) (th : Nat) (x1 : Int32) (a2 : Option Nat) (H : Heap) (locs : List Loc) (ls : Array Slot), wd D cy z s cells h H locs → h_s h = s0 + slots → lv_has ls 4 [(0, .ref th), (1, .int x1), (2, va_rf a2)] → f_Chain_insert_10 N   h th x1 a2 = some (r, g) → W p l e { frames := 1, cells := h_x g - n0, slots := h_s g - s0, locals := 23 } s m args below meth c H locs cells slots (MQ below (eQ D cy z (rV r) g) args s (h_x g - n0) (h_s g - s0) (fun q => z ≤ q)) (F0 m 10 ls []) := by
  obtain ⟨hx, hb, hr, hml, hown, hts, hlk⟩ := id C
  intro cells slots h th x1 a2 H locs ls w hsl hl hE
  have hcc : cells ≤ h_x g - n0 ∧ slots ≤ h_s g - s0 := by
    have q1 := mo_Chain_insert_10 N  h th x1 a2 _ _ hE
    have q2 := wd_x w
    have q3 := q1.1
    have q4 := q1.2.1
    omega
  unfold f_Chain_insert_10 at hE
  refine lv_iload_n hx hb dX1_insert_10 rfl (lv_at hl 1 rfl) ?_
  refine w_if_lt (tgt := 34) C dX1_insert_11 (by decide) hE (fun hc e1 => ?_) (fun hc e1 => ?_)
  · exact b_Chain_insert_34 C N n0 s0 hn0   _ _ h  _ _ ls w hsl (lv_sub hl [] rfl) e1
  · refine lv_iload_n hx hb dX1_insert_14 rfl (lv_at hl 1 rfl) ?_
    refine lv_aload_n hx hb dX1_insert_15 rfl (lv_at hl 0 rfl) ?_
    refine w_gI (r := some th) (ci := 2) (k := 1) C w rfl (by decide) (GF_wsX10 _) (by decide) rfl (List.mem_cons_of_mem _ gw_5_14) rfl dX1_insert_16 e1 (fun v1 e2 => ?_)
    refine w_icmp_gt (tgt := 34) C dX1_insert_19 (by decide) e2 (fun hc e3 => ?_) (fun hc e3 => ?_)
    · exact b_Chain_insert_34 C N n0 s0 hn0   _ _ h  _ _ ls w hsl (lv_sub hl [] rfl) e3
    · refine lv_aload_n hx hb dX1_insert_22 rfl (lv_at hl 0 rfl) ?_
      refine w_gI (r := some th) (ci := 2) (k := 1) C w rfl (by decide) (GF_wsX10 _) (by decide) rfl (List.mem_cons_of_mem _ gw_5_14) rfl dX1_insert_23 e3 (fun v2 e4 => ?_)
      refine lv_aload_n hx hb dX1_insert_26 rfl (lv_at hl 0 rfl) ?_
      refine w_gR (r := some th) (ci := 2) (k := 0) C w rfl (by decide) (GF_wsX10 _) (by decide) rfl (List.mem_cons_of_mem _ gw_5_13) rfl dX1_insert_27 e4 (fun v3 e5 => ?_)
      refine w_lenRq (kd := 64) (t0 := 8) (r := v3) C w rfl (by decide) dX1_insert_30 e5 (fun v4 e6 => ?_)
      refine w_icmp_lt (tgt := 35) C dX1_insert_31 (by decide) e6 (fun hc e7 => ?_) (fun hc e7 => ?_)
      · refine lv_aload_n hx hb dX1_insert_35 rfl (lv_at hl 0 rfl) ?_
        refine w_gI (r := some th) (ci := 2) (k := 1) C w rfl (by decide) (GF_wsX10 _) (by decide) rfl (List.mem_cons_of_mem _ gw_5_14) rfl dX1_insert_36 e7 (fun v5 e8 => ?_)
        refine lv_istore_n (lv' := [(3, .int v5), (0, .ref th), (1, .int x1), (2, va_rf a2)]) hx hb dX1_insert_39 rfl hl (by decide) (by cases a2 <;> rfl) (fun ls hl => ?_)
        exact b_Chain_insert_40 C N n0 s0 hn0  N _ _ h th x1 a2 v5 _ _ ls w hsl (lv_sub hl [1, 2, 3, 0] rfl) e8
      · exact b_Chain_insert_34 C N n0 s0 hn0   _ _ h  _ _ ls w hsl (lv_sub hl [] rfl) e7
set_option maxRecDepth 20000 in
set_option maxHeartbeats 4000000 in
theorem k_Chain_insert (l : Launch) (D : va_G) (cy : cyT) (z : Nat) (N : Nat) (h : hS) (th : Nat) (x1 : Int32) (a2 : Option Nat) (r : Unit) (g : hS) (hE : f_Chain_insert N h th x1 a2 = some (r, g)) : ct l yX1_insert (Cond.code yX1_insert cX1_insert 4 (none) :: GW) { frames := 1, cells := h_x g - h_x h, slots := h_s g - h_s h, locals := 23 } D cy z h [.ref th, .int x1, va_rf a2] (rV r) g := by
  refine Met.ofW (cc := cX1_insert) (maxL := 4) (ret := none) (by decide) rfl ?_
  intro p e s m args below meth c s₁ B hml hv
  obtain ⟨rfl, hw⟩ := hv
  have C : MX p s m ([.ref th, .int x1, va_rf a2] : List Value).toArray meth c cX1_insert 4 (none) RX1 (Cond.code yX1_insert cX1_insert 4 (none) :: GW) := ⟨B.exec, B.bytes, B.returns, hml, findClass_of_methodNamed B.named, atoms_spec (ws := Cond.code yX1_insert cX1_insert 4 (none) :: GW) B.pre, B.notSynchronized⟩
  obtain ⟨hx, hb, hr, hml, hown, hts, hlk⟩ := id C
  have w := wd_of hw
  have hsl : h_s h = h_s h + 0 := rfl
  have hn0 : s.heap.size = h_x h := (wd_x w).1
  obtain ⟨ls, hen, hl⟩ : ∃ ls : Array Slot, entryFrame m ([.ref th, .int x1, va_rf a2] : List Value).toArray 4 = F0 m 0 ls [] ∧ lv_has ls 4 [(0, .ref th), (1, .int x1), (2, va_rf a2)] := by
    cases a2 <;> exact ⟨_, lg_entry_eq _ _ _, lv_entry _ (Nat.le_of_ble_eq_true rfl)⟩
  rw [hen]
  have hcc : 0 ≤ h_x g - h_x h ∧ 0 ≤ h_s g - h_s h := ⟨Nat.zero_le _, Nat.zero_le _⟩
  unfold f_Chain_insert at hE
  refine lv_aload_n hx hb dX1_insert_0 rfl (lv_at hl 0 rfl) ?_
  refine lv_aload_n hx hb dX1_insert_1 rfl (lv_at hl 0 rfl) ?_
  refine w_gI (r := some th) (ci := 2) (k := 1) C w rfl (by decide) (GF_wsX10 _) (by decide) rfl (List.mem_cons_of_mem _ gw_5_14) rfl dX1_insert_2 hE (fun v1 e1 => ?_)
  refine lv_iconst (v := 1) hx hb dX1_insert_5 (by decide) ?_
  refine lv_iadd hx hb dX1_insert_6 ?_
  refine w_VAV GW_good (n := 1) (F := 0) (Lc := 0) (o := some th) (av := [.int (v1 + (1 : Int32))]) (rest := []) C w rfl (by decide) (fun a r g hf => k_Chain_makeRoom l D cy z N h a (v1 + (1 : Int32)) r g hf) gw_19_13 gw_19_14 gw_19_15 gw_3_6 gw_19_16 (by decide +kernel) ⟨Nat.le_of_ble_eq_true rfl, Nat.le_of_ble_eq_true rfl⟩ rfl hl.1 rfl (Nat.le_of_ble_eq_true rfl) dX1_insert_7 (fun a => (mo_Chain_makeRoom N h a (v1 + (1 : Int32)))) (fun a v2 h3 q1 q2 => by have u1 := (mo_Chain_makeRoom N h a (v1 + (1 : Int32))) _ _ q1; have u2 := mo_Chain_insert_10 N   h3 th x1 a2 _ _ q2; have u3 := wd_x w; have u4 := u1.1; have u5 := u1.2.1; have u6 := u2.1; have u7 := u2.2.1; show 0 + _ ≤ h_x g - (h_x h) ∧ 0 + _ ≤ h_s g - (h_s h); omega) e1 (fun v2 h3 H locs w hsh3 e2 => ?_)
  exact b_Chain_insert_10 C N (h_x h) (h_s h) hn0   _ _ h3 th x1 a2 _ _ ls w (by have u5 := hsh3.2.1; have u8 := hsl; omega) (lv_sub hl [0, 1, 2] rfl) e2
set_option maxRecDepth 20000 in
set_option maxHeartbeats 4000000 in
theorem b_Chain_remove_12 {p : Program} {l : Launch} {e : Env} {s : State} {m : MethodId} {args : Array Value} {below : List Frame} {meth : Method} {c : Code} {D : va_G} {cy : cyT} {z : Nat} (C : MX p s m args meth c cX1_remove 3 (none) RX1 (Cond.code yX1_remove cX1_remove 3 (none) :: GW)) (N : Nat) {r : Unit} {g : hS}  : ∀  (h : hS)  (H : Heap) (locs : List Loc) (ls : Array Slot), wd D cy z s 0 h H locs → lv_has ls 3 [] → f_Chain_remove_12 N   h  = some (r, g) → W p l e { frames := 0, cells := 0, slots := 0, locals := 0 } s m args below meth c H locs 0 0 (MQ below (eQ D cy z (rV r) g) args s 0 0 (fun q => z ≤ q)) (F0 m 12 ls []) := by
  obtain ⟨hx, hb, hr, hml, hown, hts, hlk⟩ := id C
  intro  h  H locs ls w  hl hE
  unfold f_Chain_remove_12 at hE
  exact w_vret C w hE dX1_remove_12
set_option maxRecDepth 20000 in
set_option maxHeartbeats 4000000 in
theorem b_Chain_remove_64 {p : Program} {l : Launch} {e : Env} {s : State} {m : MethodId} {args : Array Value} {below : List Frame} {meth : Method} {c : Code} {D : va_G} {cy : cyT} {z : Nat} (C : MX p s m args meth c cX1_remove 3 (none) RX1 (Cond.code yX1_remove cX1_remove 3 (none) :: GW)) (N : Nat) {r : Unit} {g : hS}  : ∀  (h : hS)  (H : Heap) (locs : List Loc) (ls : Array Slot), wd D cy z s 0 h H locs → lv_has ls 3 [] → f_Chain_remove_64 N   h  = some (r, g) → W p l e { frames := 0, cells := 0, slots := 0, locals := 0 } s m args below meth c H locs 0 0 (MQ below (eQ D cy z (rV r) g) args s 0 0 (fun q => z ≤ q)) (F0 m 64 ls []) := by
  obtain ⟨hx, hb, hr, hml, hown, hts, hlk⟩ := id C
  intro  h  H locs ls w  hl hE
  unfold f_Chain_remove_64 at hE
  exact w_vret C w hE dX1_remove_64
set_option maxRecDepth 20000 in
set_option maxHeartbeats 4000000 in
theorem b_Chain_remove_25 {p : Program} {l : Launch} {e : Env} {s : State} {m : MethodId} {args : Array Value} {below : List Frame} {meth : Method} {c : Code} {D : va_G} {cy : cyT} {z : Nat} (C : MX p s m args meth c cX1_remove 3 (none) RX1 (Cond.code yX1_remove cX1_remove 3 (none) :: GW)) (N : Nat) {r : Unit} {g : hS}  : ∀ (n : Nat) (h : hS) (th : Nat) (x2 : Int32) (H : Heap) (locs : List Loc) (ls : Array Slot), wd D cy z s 0 h H locs → lv_has ls 3 [(0, .ref th), (2, .int x2)] → f_Chain_remove_25 N  n h th x2 = some (r, g) → W p l e { frames := 0, cells := 0, slots := 0, locals := 0 } s m args below meth c H locs 0 0 (MQ below (eQ D cy z (rV r) g) args s 0 0 (fun q => z ≤ q)) (F0 m 25 ls []) := by
  obtain ⟨hx, hb, hr, hml, hown, hts, hlk⟩ := id C
  intro n
  induction n with
  | zero =>
    intro  h th x2 H locs ls w  hl hE
    cases hE
  | succ n ih =>
    intro  h th x2 H locs ls w  hl hE
    unfold f_Chain_remove_25 at hE
    refine lv_iload_n hx hb dX1_remove_25 rfl (lv_at hl 1 rfl) ?_
    refine lv_aload_n hx hb dX1_remove_26 rfl (lv_at hl 0 rfl) ?_
    refine w_gI (r := some th) (ci := 2) (k := 1) C w rfl (by decide) (GF_wsX10 _) (by decide) rfl (List.mem_cons_of_mem _ gw_5_14) rfl dX1_remove_27 hE (fun v1 e1 => ?_)
    refine w_icmp_ge (tgt := 64) C dX1_remove_30 (by decide) e1 (fun hc e2 => ?_) (fun hc e2 => ?_)
    · exact b_Chain_remove_64 C N     h  _ _ ls w  (lv_sub hl [] rfl) e2
    · refine lv_iload_n hx hb dX1_remove_33 rfl (lv_at hl 1 rfl) ?_
      refine lv_iconst (v := 1) hx hb dX1_remove_34 (by decide) ?_
      refine lv_iadd hx hb dX1_remove_35 ?_
      refine lv_aload_n hx hb dX1_remove_36 rfl (lv_at hl 0 rfl) ?_
      refine w_gR (r := some th) (ci := 2) (k := 0) C w rfl (by decide) (GF_wsX10 _) (by decide) rfl (List.mem_cons_of_mem _ gw_5_13) rfl dX1_remove_37 e2 (fun v2 e3 => ?_)
      refine w_lenRq (kd := 64) (t0 := 8) (r := v2) C w rfl (by decide) dX1_remove_40 e3 (fun v3 e4 => ?_)
      refine w_icmp_ge (tgt := 64) C dX1_remove_41 (by decide) e4 (fun hc e5 => ?_) (fun hc e5 => ?_)
      · exact b_Chain_remove_64 C N     h  _ _ ls w  (lv_sub hl [] rfl) e5
      · refine lv_aload_n hx hb dX1_remove_44 rfl (lv_at hl 0 rfl) ?_
        refine w_gR (r := some th) (ci := 2) (k := 0) C w rfl (by decide) (GF_wsX10 _) (by decide) rfl (List.mem_cons_of_mem _ gw_5_13) rfl dX1_remove_45 e5 (fun v4 e6 => ?_)
        refine lv_iload_n hx hb dX1_remove_48 rfl (lv_at hl 1 rfl) ?_
        refine lv_aload_n hx hb dX1_remove_49 rfl (lv_at hl 0 rfl) ?_
        refine w_gR (r := some th) (ci := 2) (k := 0) C w rfl (by decide) (GF_wsX10 _) (by decide) rfl (List.mem_cons_of_mem _ gw_5_13) rfl dX1_remove_50 e6 (fun v5 e7 => ?_)
        refine lv_iload_n hx hb dX1_remove_53 rfl (lv_at hl 1 rfl) ?_
        refine lv_iconst (v := 1) hx hb dX1_remove_54 (by decide) ?_
        refine lv_iadd hx hb dX1_remove_55 ?_
        refine w_aRq (kd := 64) (t0 := 8) (r := v5) C w rfl (by decide) dX1_remove_56 e7 (fun v6 e8 => ?_)
        refine w_uR (kd := 64) (t0 := 8) (ci := 8) (r := v4) (v := v6) C w rfl (by decide) rfl (by decide) dX1_remove_57 e8 (fun h7 H locs w hsh7 e9 => ?_)
        obtain ⟨v8, ev8, e10⟩ := bn_some e9
        refine lv_iinc (v := v8) (lv' := [(2, .int v8), (0, .ref th)]) hx hb dX1_remove_58 hl (k := 1) rfl (by rw [ev8]; rfl) (by decide) rfl (fun ls hl => ?_)
        refine lv_goto (tgt := 25) hx hb dX1_remove_61 (by decide) ?_
        exact ih  h7 th v8 _ _ ls w  (lv_sub hl [1, 0] rfl) e10
set_option maxRecDepth 20000 in
set_option maxHeartbeats 4000000 in
theorem k_Chain_remove (l : Launch) (D : va_G) (cy : cyT) (z : Nat) (N : Nat) (h : hS) (th : Nat) (x1 : Int32) (r : Unit) (g : hS) (hE : f_Chain_remove N h th x1 = some (r, g)) : ct l yX1_remove (Cond.code yX1_remove cX1_remove 3 (none) :: GW) { frames := 0, cells := 0, slots := 0, locals := 0 } D cy z h [.ref th, .int x1] (rV r) g := by
  refine Met.ofW (cc := cX1_remove) (maxL := 3) (ret := none) (by decide) rfl ?_
  intro p e s m args below meth c s₁ B hml hv
  obtain ⟨rfl, hw⟩ := hv
  have C : MX p s m ([.ref th, .int x1] : List Value).toArray meth c cX1_remove 3 (none) RX1 (Cond.code yX1_remove cX1_remove 3 (none) :: GW) := ⟨B.exec, B.bytes, B.returns, hml, findClass_of_methodNamed B.named, atoms_spec (ws := Cond.code yX1_remove cX1_remove 3 (none) :: GW) B.pre, B.notSynchronized⟩
  obtain ⟨hx, hb, hr, hml, hown, hts, hlk⟩ := id C
  have w := wd_of hw
  obtain ⟨ls, hen, hl⟩ : ∃ ls : Array Slot, entryFrame m ([.ref th, .int x1] : List Value).toArray 3 = F0 m 0 ls [] ∧ lv_has ls 3 [(0, .ref th), (1, .int x1)] := by
    exact ⟨_, lg_entry_eq _ _ _, lv_entry _ (Nat.le_of_ble_eq_true rfl)⟩
  rw [hen]
  unfold f_Chain_remove at hE
  refine lv_iload_n hx hb dX1_remove_0 rfl (lv_at hl 1 rfl) ?_
  refine w_if_lt (tgt := 12) C dX1_remove_1 (by decide) hE (fun hc e1 => ?_) (fun hc e1 => ?_)
  · exact b_Chain_remove_12 C N     h  _ _ ls w  (lv_sub hl [] rfl) e1
  · refine lv_iload_n hx hb dX1_remove_4 rfl (lv_at hl 1 rfl) ?_
    refine lv_aload_n hx hb dX1_remove_5 rfl (lv_at hl 0 rfl) ?_
    refine w_gI (r := some th) (ci := 2) (k := 1) C w rfl (by decide) (GF_wsX10 _) (by decide) rfl (List.mem_cons_of_mem _ gw_5_14) rfl dX1_remove_6 e1 (fun v1 e2 => ?_)
    refine w_icmp_lt (tgt := 13) C dX1_remove_9 (by decide) e2 (fun hc e3 => ?_) (fun hc e3 => ?_)
    · refine lv_aload_n hx hb dX1_remove_13 rfl (lv_at hl 0 rfl) ?_
      refine lv_dup hx hb dX1_remove_14 rfl ?_
      refine w_gI (r := some th) (ci := 2) (k := 1) C w rfl (by decide) (GF_wsX10 _) (by decide) rfl (List.mem_cons_of_mem _ gw_5_14) rfl dX1_remove_15 e3 (fun v2 e4 => ?_)
      refine lv_iconst (v := 1) hx hb dX1_remove_18 (by decide) ?_
      refine lv_isub hx hb dX1_remove_19 ?_
      refine w_pI (r := some th) (ci := 2) (k := 1) C w rfl (by decide) (by unfold roK; omega) (GF_wsX10 _) tyX1 tyX1_ok nmX1 (by decide) rfl (List.mem_cons_of_mem _ gw_5_14) rfl rfl (tyX1_ok 1 (by decide)) dX1_remove_20 e4 (fun h3 H locs w hsh3 e5 => ?_)
      refine lv_iload_n hx hb dX1_remove_23 rfl (lv_at hl 1 rfl) ?_
      refine lv_istore_n (lv' := [(2, .int x1), (0, .ref th), (1, .int x1)]) hx hb dX1_remove_24 rfl hl (by decide) rfl (fun ls hl => ?_)
      exact b_Chain_remove_25 C N   N  h3 th x1 _ _ ls w  (lv_sub hl [1, 0] rfl) e5
    · exact b_Chain_remove_12 C N     h  _ _ ls w  (lv_sub hl [] rfl) e3
set_option maxRecDepth 20000 in
set_option maxHeartbeats 4000000 in
theorem b_Chain_hasOnTop_39 {p : Program} {l : Launch} {e : Env} {s : State} {m : MethodId} {args : Array Value} {below : List Frame} {meth : Method} {c : Code} {D : va_G} {cy : cyT} {z : Nat} (C : MX p s m args meth c cX1_hasOnTop 4 ((some .boolean)) RX1 (Cond.code yX1_hasOnTop cX1_hasOnTop 4 ((some .boolean)) :: GW)) (N : Nat) {r : Int32} {g : hS} {rc2 : hS → Nat → Int32 → Int32 → Option (Int32 × hS)}  (hrc2 : ∀ (h : hS) (th : Nat) (x1 : Int32) (x2 : Int32) (H : Heap) (locs : List Loc) (ls : Array Slot), wd D cy z s 0 h H locs → lv_has ls 4 [(0, .ref th), (1, .int x1), (2, .int x2)] → rc2 h th x1 x2 = some (r, g) → W p l e { frames := 1, cells := 0, slots := 0, locals := 21 } s m args below meth c H locs 0 0 (MQ below (eQ D cy z (rI r) g) args s 0 0 (fun q => z ≤ q)) (F0 m 2 ls [])) : ∀  (h : hS) (th : Nat) (x1 : Int32) (x2 : Int32) (H : Heap) (locs : List Loc) (ls : Array Slot), wd D cy z s 0 h H locs → lv_has ls 4 [(0, .ref th), (1, .int x1), (2, .int x2)] → f_Chain_hasOnTop_39 N rc2  h th x1 x2 = some (r, g) → W p l e { frames := 1, cells := 0, slots := 0, locals := 21 } s m args below meth c H locs 0 0 (MQ below (eQ D cy z (rI r) g) args s 0 0 (fun q => z ≤ q)) (F0 m 39 ls []) := by
  obtain ⟨hx, hb, hr, hml, hown, hts, hlk⟩ := id C
  intro  h th x1 x2 H locs ls w  hl hE
  unfold f_Chain_hasOnTop_39 at hE
  obtain ⟨v1, ev1, e1⟩ := bn_some hE
  refine lv_iinc (v := v1) (lv' := [(2, .int v1), (0, .ref th), (1, .int x1)]) hx hb dX1_hasOnTop_39 hl (k := 2) rfl (by rw [ev1]; rfl) (by decide) rfl (fun ls hl => ?_)
  refine lv_goto (tgt := 2) hx hb dX1_hasOnTop_42 (by decide) ?_
  exact hrc2  h th x1 v1 _ _ ls w  (lv_sub hl [1, 2, 0] rfl) e1
set_option maxRecDepth 20000 in
set_option maxHeartbeats 4000000 in
theorem b_Chain_hasOnTop_2 {p : Program} {l : Launch} {e : Env} {s : State} {m : MethodId} {args : Array Value} {below : List Frame} {meth : Method} {c : Code} {D : va_G} {cy : cyT} {z : Nat} (C : MX p s m args meth c cX1_hasOnTop 4 ((some .boolean)) RX1 (Cond.code yX1_hasOnTop cX1_hasOnTop 4 ((some .boolean)) :: GW)) (N : Nat) {r : Int32} {g : hS}  : ∀ (n : Nat) (h : hS) (th : Nat) (x1 : Int32) (x2 : Int32) (H : Heap) (locs : List Loc) (ls : Array Slot), wd D cy z s 0 h H locs → lv_has ls 4 [(0, .ref th), (1, .int x1), (2, .int x2)] → f_Chain_hasOnTop_2 N  n h th x1 x2 = some (r, g) → W p l e { frames := 1, cells := 0, slots := 0, locals := 21 } s m args below meth c H locs 0 0 (MQ below (eQ D cy z (rI r) g) args s 0 0 (fun q => z ≤ q)) (F0 m 2 ls []) := by
  obtain ⟨hx, hb, hr, hml, hown, hts, hlk⟩ := id C
  intro n
  induction n with
  | zero =>
    intro  h th x1 x2 H locs ls w  hl hE
    cases hE
  | succ n ih =>
    intro  h th x1 x2 H locs ls w  hl hE
    unfold f_Chain_hasOnTop_2 at hE
    refine lv_iload_n hx hb dX1_hasOnTop_2 rfl (lv_at hl 2 rfl) ?_
    refine lv_aload_n hx hb dX1_hasOnTop_3 rfl (lv_at hl 0 rfl) ?_
    refine w_gI (r := some th) (ci := 2) (k := 1) C w rfl (by decide) (GF_wsX10 _) (by decide) rfl (List.mem_cons_of_mem _ gw_5_14) rfl dX1_hasOnTop_4 hE (fun v1 e1 => ?_)
    refine w_icmp_ge (tgt := 45) C dX1_hasOnTop_7 (by decide) e1 (fun hc e2 => ?_) (fun hc e2 => ?_)
    · refine lv_iconst (v := 0) hx hb dX1_hasOnTop_45 (by decide) ?_
      exact w_zret C w e2 dX1_hasOnTop_46
    · refine lv_aload_n hx hb dX1_hasOnTop_10 rfl (lv_at hl 0 rfl) ?_
      refine lv_iload_n hx hb dX1_hasOnTop_11 rfl (lv_at hl 2 rfl) ?_
      refine w_VR GW_good (n := 1) (F := 0) (Lc := 0) (o := some th) (av := [.int x2]) (rest := []) C w rfl (by decide) (fun a r g hf => k_Chain_stepAt l D cy z N h a x2 r g hf) gw_24_4 gw_20_7 gw_20_8 gw_3_6 gw_20_9 (by decide +kernel) ⟨Nat.le_of_ble_eq_true rfl, Nat.le_of_ble_eq_true rfl⟩ rfl hl.1 rfl (Nat.le_of_ble_eq_true rfl) dX1_hasOnTop_12 (fun a => (sh_Chain_stepAt N h a x2)) ⟨by decide, by decide⟩ e2 (fun v2 h3 H locs w hsh3 e3 => ?_)
      refine w_astore_n (r := v2) (lv' := [(3, va_rf v2), (0, .ref th), (1, .int x1), (2, .int x2)]) C dX1_hasOnTop_15 rfl hl (by decide) rfl (fun ls hl => ?_)
      refine w_aload_n C dX1_hasOnTop_16 rfl (lv_at hl 0 rfl) ?_
      refine w_null (r := v2) (tgt := 39) C dX1_hasOnTop_17 (by decide) e3 (fun hc e4 => ?_) (fun hc e4 => ?_)
      · exact b_Chain_hasOnTop_39 C N  ih   h3 th x1 x2 _ _ ls w  (lv_sub hl [1, 2, 3] rfl) e4
      · refine w_aload_n C dX1_hasOnTop_20 rfl (lv_at hl 0 rfl) ?_
        refine w_gI (r := v2) (ci := 8) (k := 0) C w rfl (by decide) (GF_wsX70 _) (by decide) rfl (List.mem_cons_of_mem _ gw_59_12) rfl dX1_hasOnTop_21 e4 (fun v4 e5 => ?_)
        refine lv_bipush (v := 8) hx hb dX1_hasOnTop_24 (by decide) ?_
        refine w_icmp_ne (tgt := 39) C dX1_hasOnTop_26 (by decide) e5 (fun hc e6 => ?_) (fun hc e6 => ?_)
        · exact b_Chain_hasOnTop_39 C N  ih   h3 th x1 x2 _ _ ls w  (lv_sub hl [1, 2, 3] rfl) e6
        · refine w_aload_n C dX1_hasOnTop_29 rfl (lv_at hl 0 rfl) ?_
          refine w_gI (r := v2) (ci := 8) (k := 1) C w rfl (by decide) (GF_wsX70 _) (by decide) rfl (List.mem_cons_of_mem _ gw_59_13) rfl dX1_hasOnTop_30 e6 (fun v5 e7 => ?_)
          refine lv_iload_n hx hb dX1_hasOnTop_33 rfl (lv_at hl 2 rfl) ?_
          refine w_icmp_ne (tgt := 39) C dX1_hasOnTop_34 (by decide) e7 (fun hc e8 => ?_) (fun hc e8 => ?_)
          · exact b_Chain_hasOnTop_39 C N  ih   h3 th x1 x2 _ _ ls w  (lv_sub hl [1, 2, 3] rfl) e8
          · refine lv_iconst (v := 1) hx hb dX1_hasOnTop_37 (by decide) ?_
            exact w_zret C w e8 dX1_hasOnTop_38
set_option maxRecDepth 20000 in
set_option maxHeartbeats 4000000 in
theorem k_Chain_hasOnTop (l : Launch) (D : va_G) (cy : cyT) (z : Nat) (N : Nat) (h : hS) (th : Nat) (x1 : Int32) (r : Int32) (g : hS) (hE : f_Chain_hasOnTop N h th x1 = some (r, g)) : ct l yX1_hasOnTop (Cond.code yX1_hasOnTop cX1_hasOnTop 4 ((some .boolean)) :: GW) { frames := 1, cells := 0, slots := 0, locals := 21 } D cy z h [.ref th, .int x1] (rI r) g := by
  refine Met.ofW (cc := cX1_hasOnTop) (maxL := 4) (ret := (some .boolean)) (by decide) rfl ?_
  intro p e s m args below meth c s₁ B hml hv
  obtain ⟨rfl, hw⟩ := hv
  have C : MX p s m ([.ref th, .int x1] : List Value).toArray meth c cX1_hasOnTop 4 ((some .boolean)) RX1 (Cond.code yX1_hasOnTop cX1_hasOnTop 4 ((some .boolean)) :: GW) := ⟨B.exec, B.bytes, B.returns, hml, findClass_of_methodNamed B.named, atoms_spec (ws := Cond.code yX1_hasOnTop cX1_hasOnTop 4 ((some .boolean)) :: GW) B.pre, B.notSynchronized⟩
  obtain ⟨hx, hb, hr, hml, hown, hts, hlk⟩ := id C
  have w := wd_of hw
  obtain ⟨ls, hen, hl⟩ : ∃ ls : Array Slot, entryFrame m ([.ref th, .int x1] : List Value).toArray 4 = F0 m 0 ls [] ∧ lv_has ls 4 [(0, .ref th), (1, .int x1)] := by
    exact ⟨_, lg_entry_eq _ _ _, lv_entry _ (Nat.le_of_ble_eq_true rfl)⟩
  rw [hen]
  unfold f_Chain_hasOnTop at hE
  refine lv_iconst (v := 0) hx hb dX1_hasOnTop_0 (by decide) ?_
  refine lv_istore_n (lv' := [(2, .int (0 : Int32)), (0, .ref th), (1, .int x1)]) hx hb dX1_hasOnTop_1 rfl hl (by decide) rfl (fun ls hl => ?_)
  exact b_Chain_hasOnTop_2 C N   N  h th x1 (0 : Int32) _ _ ls w  (lv_sub hl [1, 2, 0] rfl) hE
set_option maxRecDepth 20000 in
set_option maxHeartbeats 4000000 in
theorem b_Curve_slopeBehind_39 {p : Program} {l : Launch} {e : Env} {s : State} {m : MethodId} {args : Array Value} {below : List Frame} {meth : Method} {c : Code} {D : va_G} {cy : cyT} {z : Nat} (C : MX p s m args meth c cX2_slopeBehind 4 ((some .int)) RX2 (Cond.code yX2_slopeBehind cX2_slopeBehind 4 ((some .int)) :: GW)) (N : Nat) {r : Int32} {g : hS}  : ∀  (h : hS) (x2 : Int32) (H : Heap) (locs : List Loc) (ls : Array Slot), wd D cy z s 0 h H locs → lv_has ls 4 [(2, .int x2)] → f_Curve_slopeBehind_39 N   h x2 = some (r, g) → W p l e { frames := 1, cells := 0, slots := 0, locals := 21 } s m args below meth c H locs 0 0 (MQ below (eQ D cy z (rI r) g) args s 0 0 (fun q => z ≤ q)) (F0 m 39 ls []) := by
  obtain ⟨hx, hb, hr, hml, hown, hts, hlk⟩ := id C
  intro  h x2 H locs ls w  hl hE
  unfold f_Curve_slopeBehind_39 at hE
  refine lv_iload_n hx hb dX2_slopeBehind_39 rfl (lv_at hl 0 rfl) ?_
  exact w_iret C w hE dX2_slopeBehind_40
set_option maxRecDepth 20000 in
set_option maxHeartbeats 4000000 in
theorem b_Curve_slopeBehind_8 {p : Program} {l : Launch} {e : Env} {s : State} {m : MethodId} {args : Array Value} {below : List Frame} {meth : Method} {c : Code} {D : va_G} {cy : cyT} {z : Nat} (C : MX p s m args meth c cX2_slopeBehind 4 ((some .int)) RX2 (Cond.code yX2_slopeBehind cX2_slopeBehind 4 ((some .int)) :: GW)) (N : Nat) {r : Int32} {g : hS}  : ∀ (n : Nat) (h : hS) (th : Nat) (x1 : Int32) (x2 : Int32) (x3 : Int32) (H : Heap) (locs : List Loc) (ls : Array Slot), wd D cy z s 0 h H locs → lv_has ls 4 [(0, .ref th), (1, .int x1), (2, .int x2), (3, .int x3)] → f_Curve_slopeBehind_8 N  n h th x1 x2 x3 = some (r, g) → W p l e { frames := 1, cells := 0, slots := 0, locals := 21 } s m args below meth c H locs 0 0 (MQ below (eQ D cy z (rI r) g) args s 0 0 (fun q => z ≤ q)) (F0 m 8 ls []) := by
  obtain ⟨hx, hb, hr, hml, hown, hts, hlk⟩ := id C
  intro n
  induction n with
  | zero =>
    intro  h th x1 x2 x3 H locs ls w  hl hE
    cases hE
  | succ n ih =>
    intro  h th x1 x2 x3 H locs ls w  hl hE
    unfold f_Curve_slopeBehind_8 at hE
    refine lv_iload_n hx hb dX2_slopeBehind_8 rfl (lv_at hl 3 rfl) ?_
    refine lv_aload_n hx hb dX2_slopeBehind_9 rfl (lv_at hl 0 rfl) ?_
    refine w_gI (r := some th) (ci := 3) (k := 0) C w rfl (by decide) (GF_wsX20 _) (by decide) rfl (List.mem_cons_of_mem _ gw_4_13) rfl dX2_slopeBehind_10 hE (fun v1 e1 => ?_)
    refine w_icmp_ge (tgt := 39) C dX2_slopeBehind_13 (by decide) e1 (fun hc e2 => ?_) (fun hc e2 => ?_)
    · exact b_Curve_slopeBehind_39 C N     h x2 _ _ ls w  (lv_sub hl [2] rfl) e2
    · refine lv_aload_n hx hb dX2_slopeBehind_16 rfl (lv_at hl 0 rfl) ?_
      refine lv_iload_n hx hb dX2_slopeBehind_17 rfl (lv_at hl 3 rfl) ?_
      refine w_VI GW_good (n := 1) (F := 0) (Lc := 0) (o := some th) (av := [.int x3]) (rest := []) C w rfl (by decide) (fun a r g hf => k_Curve_placeOf l D cy z N h a x3 r g hf) gw_21_8 gw_17_2 gw_17_3 gw_2_22 gw_17_4 (by decide +kernel) ⟨Nat.le_of_ble_eq_true rfl, Nat.le_of_ble_eq_true rfl⟩ rfl hl.1 rfl (Nat.le_of_ble_eq_true rfl) dX2_slopeBehind_18 (fun a => (sh_Curve_placeOf N h a x3)) ⟨by decide, by decide⟩ e2 (fun v2 h3 H locs w hsh3 e3 => ?_)
      refine lv_iload_n hx hb dX2_slopeBehind_21 rfl (lv_at hl 1 rfl) ?_
      refine w_icmp_gt (tgt := 39) C dX2_slopeBehind_22 (by decide) e3 (fun hc e4 => ?_) (fun hc e4 => ?_)
      · exact b_Curve_slopeBehind_39 C N     h3 x2 _ _ ls w  (lv_sub hl [2] rfl) e4
      · refine lv_iload_n hx hb dX2_slopeBehind_25 rfl (lv_at hl 2 rfl) ?_
        refine lv_aload_n hx hb dX2_slopeBehind_26 rfl (lv_at hl 0 rfl) ?_
        refine lv_iload_n hx hb dX2_slopeBehind_27 rfl (lv_at hl 3 rfl) ?_
        refine w_VI GW_good (n := 1) (F := 0) (Lc := 0) (o := some th) (av := [.int x3]) (rest := [.int x2]) C w rfl (by decide) (fun a r g hf => k_Curve_weightOf l D cy z N h3 a x3 r g hf) gw_21_23 gw_17_6 gw_17_7 gw_2_22 gw_17_8 (by decide +kernel) ⟨Nat.le_of_ble_eq_true rfl, Nat.le_of_ble_eq_true rfl⟩ rfl hl.1 rfl (Nat.le_of_ble_eq_true rfl) dX2_slopeBehind_28 (fun a => (sh_Curve_weightOf N h3 a x3)) ⟨by decide, by decide⟩ e4 (fun v4 h5 H locs w hsh5 e5 => ?_)
        refine lv_iadd hx hb dX2_slopeBehind_31 ?_
        refine w_bnI e5 (fun v6 e6 => ?_)
        refine lv_istore_n (lv' := [(2, .int v6), (0, .ref th), (1, .int x1), (3, .int x3)]) hx hb dX2_slopeBehind_32 rfl hl (by decide) rfl (fun ls hl => ?_)
        obtain ⟨v7, ev7, e7⟩ := bn_some e6
        refine lv_iinc (v := v7) (lv' := [(3, .int v7), (2, .int v6), (0, .ref th), (1, .int x1)]) hx hb dX2_slopeBehind_33 hl (k := 3) rfl (by rw [ev7]; rfl) (by decide) rfl (fun ls hl => ?_)
        refine lv_goto (tgt := 8) hx hb dX2_slopeBehind_36 (by decide) ?_
        exact ih  h5 th x1 v6 v7 _ _ ls w  (lv_sub hl [2, 3, 1, 0] rfl) e7
set_option maxRecDepth 20000 in
set_option maxHeartbeats 4000000 in
theorem k_Curve_slopeBehind (l : Launch) (D : va_G) (cy : cyT) (z : Nat) (N : Nat) (h : hS) (th : Nat) (x1 : Int32) (r : Int32) (g : hS) (hE : f_Curve_slopeBehind N h th x1 = some (r, g)) : ct l yX2_slopeBehind (Cond.code yX2_slopeBehind cX2_slopeBehind 4 ((some .int)) :: GW) { frames := 1, cells := 0, slots := 0, locals := 21 } D cy z h [.ref th, .int x1] (rI r) g := by
  refine Met.ofW (cc := cX2_slopeBehind) (maxL := 4) (ret := (some .int)) (by decide) rfl ?_
  intro p e s m args below meth c s₁ B hml hv
  obtain ⟨rfl, hw⟩ := hv
  have C : MX p s m ([.ref th, .int x1] : List Value).toArray meth c cX2_slopeBehind 4 ((some .int)) RX2 (Cond.code yX2_slopeBehind cX2_slopeBehind 4 ((some .int)) :: GW) := ⟨B.exec, B.bytes, B.returns, hml, findClass_of_methodNamed B.named, atoms_spec (ws := Cond.code yX2_slopeBehind cX2_slopeBehind 4 ((some .int)) :: GW) B.pre, B.notSynchronized⟩
  obtain ⟨hx, hb, hr, hml, hown, hts, hlk⟩ := id C
  have w := wd_of hw
  obtain ⟨ls, hen, hl⟩ : ∃ ls : Array Slot, entryFrame m ([.ref th, .int x1] : List Value).toArray 4 = F0 m 0 ls [] ∧ lv_has ls 4 [(0, .ref th), (1, .int x1)] := by
    exact ⟨_, lg_entry_eq _ _ _, lv_entry _ (Nat.le_of_ble_eq_true rfl)⟩
  rw [hen]
  unfold f_Curve_slopeBehind at hE
  refine lv_aload_n hx hb dX2_slopeBehind_0 rfl (lv_at hl 0 rfl) ?_
  refine w_gI (r := some th) (ci := 3) (k := 2) C w rfl (by decide) (GF_wsX20 _) (by decide) rfl (List.mem_cons_of_mem _ gw_4_14) rfl dX2_slopeBehind_1 hE (fun v1 e1 => ?_)
  refine lv_ineg hx hb dX2_slopeBehind_4 ?_
  refine w_bnI e1 (fun v2 e2 => ?_)
  refine lv_istore_n (lv' := [(2, .int v2), (0, .ref th), (1, .int x1)]) hx hb dX2_slopeBehind_5 rfl hl (by decide) rfl (fun ls hl => ?_)
  refine lv_iconst (v := 0) hx hb dX2_slopeBehind_6 (by decide) ?_
  refine lv_istore_n (lv' := [(3, .int (0 : Int32)), (2, .int v2), (0, .ref th), (1, .int x1)]) hx hb dX2_slopeBehind_7 rfl hl (by decide) rfl (fun ls hl => ?_)
  exact b_Curve_slopeBehind_8 C N   N  h th x1 v2 (0 : Int32) _ _ ls w  (lv_sub hl [2, 3, 1, 0] rfl) e2
set_option maxRecDepth 20000 in
set_option maxHeartbeats 4000000 in
theorem b_Curve_kinksUpTo_25 {p : Program} {l : Launch} {e : Env} {s : State} {m : MethodId} {args : Array Value} {below : List Frame} {meth : Method} {c : Code} {D : va_G} {cy : cyT} {z : Nat} (C : MX p s m args meth c cX2_kinksUpTo 3 ((some .int)) RX2 (Cond.code yX2_kinksUpTo cX2_kinksUpTo 3 ((some .int)) :: GW)) (N : Nat) {r : Int32} {g : hS}  : ∀  (h : hS) (x2 : Int32) (H : Heap) (locs : List Loc) (ls : Array Slot), wd D cy z s 0 h H locs → lv_has ls 3 [(2, .int x2)] → f_Curve_kinksUpTo_25 N   h x2 = some (r, g) → W p l e { frames := 1, cells := 0, slots := 0, locals := 21 } s m args below meth c H locs 0 0 (MQ below (eQ D cy z (rI r) g) args s 0 0 (fun q => z ≤ q)) (F0 m 25 ls []) := by
  obtain ⟨hx, hb, hr, hml, hown, hts, hlk⟩ := id C
  intro  h x2 H locs ls w  hl hE
  unfold f_Curve_kinksUpTo_25 at hE
  refine lv_iload_n hx hb dX2_kinksUpTo_25 rfl (lv_at hl 0 rfl) ?_
  exact w_iret C w hE dX2_kinksUpTo_26
set_option maxRecDepth 20000 in
set_option maxHeartbeats 4000000 in
theorem b_Curve_kinksUpTo_2 {p : Program} {l : Launch} {e : Env} {s : State} {m : MethodId} {args : Array Value} {below : List Frame} {meth : Method} {c : Code} {D : va_G} {cy : cyT} {z : Nat} (C : MX p s m args meth c cX2_kinksUpTo 3 ((some .int)) RX2 (Cond.code yX2_kinksUpTo cX2_kinksUpTo 3 ((some .int)) :: GW)) (N : Nat) {r : Int32} {g : hS}  : ∀ (n : Nat) (h : hS) (th : Nat) (x1 : Int32) (x2 : Int32) (H : Heap) (locs : List Loc) (ls : Array Slot), wd D cy z s 0 h H locs → lv_has ls 3 [(0, .ref th), (1, .int x1), (2, .int x2)] → f_Curve_kinksUpTo_2 N  n h th x1 x2 = some (r, g) → W p l e { frames := 1, cells := 0, slots := 0, locals := 21 } s m args below meth c H locs 0 0 (MQ below (eQ D cy z (rI r) g) args s 0 0 (fun q => z ≤ q)) (F0 m 2 ls []) := by
  obtain ⟨hx, hb, hr, hml, hown, hts, hlk⟩ := id C
  intro n
  induction n with
  | zero =>
    intro  h th x1 x2 H locs ls w  hl hE
    cases hE
  | succ n ih =>
    intro  h th x1 x2 H locs ls w  hl hE
    unfold f_Curve_kinksUpTo_2 at hE
    refine lv_iload_n hx hb dX2_kinksUpTo_2 rfl (lv_at hl 2 rfl) ?_
    refine lv_aload_n hx hb dX2_kinksUpTo_3 rfl (lv_at hl 0 rfl) ?_
    refine w_gI (r := some th) (ci := 3) (k := 0) C w rfl (by decide) (GF_wsX20 _) (by decide) rfl (List.mem_cons_of_mem _ gw_4_13) rfl dX2_kinksUpTo_4 hE (fun v1 e1 => ?_)
    refine w_icmp_ge (tgt := 25) C dX2_kinksUpTo_7 (by decide) e1 (fun hc e2 => ?_) (fun hc e2 => ?_)
    · exact b_Curve_kinksUpTo_25 C N     h x2 _ _ ls w  (lv_sub hl [2] rfl) e2
    · refine lv_aload_n hx hb dX2_kinksUpTo_10 rfl (lv_at hl 0 rfl) ?_
      refine lv_iload_n hx hb dX2_kinksUpTo_11 rfl (lv_at hl 2 rfl) ?_
      refine w_VI GW_good (n := 1) (F := 0) (Lc := 0) (o := some th) (av := [.int x2]) (rest := []) C w rfl (by decide) (fun a r g hf => k_Curve_placeOf l D cy z N h a x2 r g hf) gw_21_8 gw_17_2 gw_17_3 gw_2_22 gw_17_4 (by decide +kernel) ⟨Nat.le_of_ble_eq_true rfl, Nat.le_of_ble_eq_true rfl⟩ rfl hl.1 rfl (Nat.le_of_ble_eq_true rfl) dX2_kinksUpTo_12 (fun a => (sh_Curve_placeOf N h a x2)) ⟨by decide, by decide⟩ e2 (fun v2 h3 H locs w hsh3 e3 => ?_)
      refine lv_iload_n hx hb dX2_kinksUpTo_15 rfl (lv_at hl 1 rfl) ?_
      refine w_icmp_gt (tgt := 25) C dX2_kinksUpTo_16 (by decide) e3 (fun hc e4 => ?_) (fun hc e4 => ?_)
      · exact b_Curve_kinksUpTo_25 C N     h3 x2 _ _ ls w  (lv_sub hl [2] rfl) e4
      · obtain ⟨v4, ev4, e5⟩ := bn_some e4
        refine lv_iinc (v := v4) (lv' := [(2, .int v4), (0, .ref th), (1, .int x1)]) hx hb dX2_kinksUpTo_19 hl (k := 2) rfl (by rw [ev4]; rfl) (by decide) rfl (fun ls hl => ?_)
        refine lv_goto (tgt := 2) hx hb dX2_kinksUpTo_22 (by decide) ?_
        exact ih  h3 th x1 v4 _ _ ls w  (lv_sub hl [1, 2, 0] rfl) e5
set_option maxRecDepth 20000 in
set_option maxHeartbeats 4000000 in
theorem k_Curve_kinksUpTo (l : Launch) (D : va_G) (cy : cyT) (z : Nat) (N : Nat) (h : hS) (th : Nat) (x1 : Int32) (r : Int32) (g : hS) (hE : f_Curve_kinksUpTo N h th x1 = some (r, g)) : ct l yX2_kinksUpTo (Cond.code yX2_kinksUpTo cX2_kinksUpTo 3 ((some .int)) :: GW) { frames := 1, cells := 0, slots := 0, locals := 21 } D cy z h [.ref th, .int x1] (rI r) g := by
  refine Met.ofW (cc := cX2_kinksUpTo) (maxL := 3) (ret := (some .int)) (by decide) rfl ?_
  intro p e s m args below meth c s₁ B hml hv
  obtain ⟨rfl, hw⟩ := hv
  have C : MX p s m ([.ref th, .int x1] : List Value).toArray meth c cX2_kinksUpTo 3 ((some .int)) RX2 (Cond.code yX2_kinksUpTo cX2_kinksUpTo 3 ((some .int)) :: GW) := ⟨B.exec, B.bytes, B.returns, hml, findClass_of_methodNamed B.named, atoms_spec (ws := Cond.code yX2_kinksUpTo cX2_kinksUpTo 3 ((some .int)) :: GW) B.pre, B.notSynchronized⟩
  obtain ⟨hx, hb, hr, hml, hown, hts, hlk⟩ := id C
  have w := wd_of hw
  obtain ⟨ls, hen, hl⟩ : ∃ ls : Array Slot, entryFrame m ([.ref th, .int x1] : List Value).toArray 3 = F0 m 0 ls [] ∧ lv_has ls 3 [(0, .ref th), (1, .int x1)] := by
    exact ⟨_, lg_entry_eq _ _ _, lv_entry _ (Nat.le_of_ble_eq_true rfl)⟩
  rw [hen]
  unfold f_Curve_kinksUpTo at hE
  refine lv_iconst (v := 0) hx hb dX2_kinksUpTo_0 (by decide) ?_
  refine lv_istore_n (lv' := [(2, .int (0 : Int32)), (0, .ref th), (1, .int x1)]) hx hb dX2_kinksUpTo_1 rfl hl (by decide) rfl (fun ls hl => ?_)
  exact b_Curve_kinksUpTo_2 C N   N  h th x1 (0 : Int32) _ _ ls w  (lv_sub hl [1, 2, 0] rfl) hE
set_option maxRecDepth 20000 in
set_option maxHeartbeats 4000000 in
theorem b_Curve_placeOfUnit_12 {p : Program} {l : Launch} {e : Env} {s : State} {m : MethodId} {args : Array Value} {below : List Frame} {meth : Method} {c : Code} {D : va_G} {cy : cyT} {z : Nat} (C : MX p s m args meth c cX2_placeOfUnit 4 ((some .int)) RX2 (Cond.code yX2_placeOfUnit cX2_placeOfUnit 4 ((some .int)) :: GW)) (N : Nat) {r : Int32} {g : hS}  : ∀ (n : Nat) (h : hS) (th : Nat) (x2 : Int32) (x3 : Int32) (H : Heap) (locs : List Loc) (ls : Array Slot), wd D cy z s 0 h H locs → lv_has ls 4 [(0, .ref th), (2, .int x2), (3, .int x3)] → f_Curve_placeOfUnit_12 N  n h th x2 x3 = some (r, g) → W p l e { frames := 1, cells := 0, slots := 0, locals := 21 } s m args below meth c H locs 0 0 (MQ below (eQ D cy z (rI r) g) args s 0 0 (fun q => z ≤ q)) (F0 m 12 ls []) := by
  obtain ⟨hx, hb, hr, hml, hown, hts, hlk⟩ := id C
  intro n
  induction n with
  | zero =>
    intro  h th x2 x3 H locs ls w  hl hE
    cases hE
  | succ n ih =>
    intro  h th x2 x3 H locs ls w  hl hE
    unfold f_Curve_placeOfUnit_12 at hE
    refine lv_iload_n hx hb dX2_placeOfUnit_12 rfl (lv_at hl 2 rfl) ?_
    refine lv_aload_n hx hb dX2_placeOfUnit_13 rfl (lv_at hl 0 rfl) ?_
    refine w_gI (r := some th) (ci := 3) (k := 0) C w rfl (by decide) (GF_wsX20 _) (by decide) rfl (List.mem_cons_of_mem _ gw_4_13) rfl dX2_placeOfUnit_14 hE (fun v1 e1 => ?_)
    refine w_icmp_ge (tgt := 44) C dX2_placeOfUnit_17 (by decide) e1 (fun hc e2 => ?_) (fun hc e2 => ?_)
    · refine lv_ldc hx hb hown (hts _ (List.mem_cons_of_mem _ gw_36_9)) dX2_placeOfUnit_44 ?_
      exact w_iret C w e2 dX2_placeOfUnit_46
    · refine lv_iload_n hx hb dX2_placeOfUnit_20 rfl (lv_at hl 1 rfl) ?_
      refine lv_aload_n hx hb dX2_placeOfUnit_21 rfl (lv_at hl 0 rfl) ?_
      refine lv_iload_n hx hb dX2_placeOfUnit_22 rfl (lv_at hl 2 rfl) ?_
      refine w_VI GW_good (n := 1) (F := 0) (Lc := 0) (o := some th) (av := [.int x3]) (rest := [.int x2]) C w rfl (by decide) (fun a r g hf => k_Curve_weightOf l D cy z N h a x3 r g hf) gw_21_23 gw_17_6 gw_17_7 gw_2_22 gw_17_8 (by decide +kernel) ⟨Nat.le_of_ble_eq_true rfl, Nat.le_of_ble_eq_true rfl⟩ rfl hl.1 rfl (Nat.le_of_ble_eq_true rfl) dX2_placeOfUnit_23 (fun a => (sh_Curve_weightOf N h a x3)) ⟨by decide, by decide⟩ e2 (fun v2 h3 H locs w hsh3 e3 => ?_)
      refine lv_isub hx hb dX2_placeOfUnit_26 ?_
      refine w_bnI e3 (fun v4 e4 => ?_)
      refine lv_istore_n (lv' := [(2, .int v4), (0, .ref th), (3, .int x3)]) hx hb dX2_placeOfUnit_27 rfl hl (by decide) rfl (fun ls hl => ?_)
      refine lv_iload_n hx hb dX2_placeOfUnit_28 rfl (lv_at hl 0 rfl) ?_
      refine w_if_gt (tgt := 38) C dX2_placeOfUnit_29 (by decide) e4 (fun hc e5 => ?_) (fun hc e5 => ?_)
      · obtain ⟨v5, ev5, e6⟩ := bn_some e5
        refine lv_iinc (v := v5) (lv' := [(3, .int v5), (2, .int v4), (0, .ref th)]) hx hb dX2_placeOfUnit_38 hl (k := 2) rfl (by rw [ev5]; rfl) (by decide) rfl (fun ls hl => ?_)
        refine lv_goto (tgt := 12) hx hb dX2_placeOfUnit_41 (by decide) ?_
        exact ih  h3 th v4 v5 _ _ ls w  (lv_sub hl [2, 1, 0] rfl) e6
      · refine lv_aload_n hx hb dX2_placeOfUnit_32 rfl (lv_at hl 1 rfl) ?_
        refine lv_iload_n hx hb dX2_placeOfUnit_33 rfl (lv_at hl 2 rfl) ?_
        refine w_VI GW_good (n := 1) (F := 0) (Lc := 0) (o := some th) (av := [.int x3]) (rest := []) C w rfl (by decide) (fun a r g hf => k_Curve_placeOf l D cy z N h3 a x3 r g hf) gw_21_8 gw_17_2 gw_17_3 gw_2_22 gw_17_4 (by decide +kernel) ⟨Nat.le_of_ble_eq_true rfl, Nat.le_of_ble_eq_true rfl⟩ rfl hl.1 rfl (Nat.le_of_ble_eq_true rfl) dX2_placeOfUnit_34 (fun a => (sh_Curve_placeOf N h3 a x3)) ⟨by decide, by decide⟩ e5 (fun v6 h7 H locs w hsh7 e7 => ?_)
        exact w_iret C w e7 dX2_placeOfUnit_37
set_option maxRecDepth 20000 in
set_option maxHeartbeats 4000000 in
theorem k_Curve_placeOfUnit (l : Launch) (D : va_G) (cy : cyT) (z : Nat) (N : Nat) (h : hS) (th : Nat) (x1 : Int32) (r : Int32) (g : hS) (hE : f_Curve_placeOfUnit N h th x1 = some (r, g)) : ct l yX2_placeOfUnit (Cond.code yX2_placeOfUnit cX2_placeOfUnit 4 ((some .int)) :: GW) { frames := 1, cells := 0, slots := 0, locals := 21 } D cy z h [.ref th, .int x1] (rI r) g := by
  refine Met.ofW (cc := cX2_placeOfUnit) (maxL := 4) (ret := (some .int)) (by decide) rfl ?_
  intro p e s m args below meth c s₁ B hml hv
  obtain ⟨rfl, hw⟩ := hv
  have C : MX p s m ([.ref th, .int x1] : List Value).toArray meth c cX2_placeOfUnit 4 ((some .int)) RX2 (Cond.code yX2_placeOfUnit cX2_placeOfUnit 4 ((some .int)) :: GW) := ⟨B.exec, B.bytes, B.returns, hml, findClass_of_methodNamed B.named, atoms_spec (ws := Cond.code yX2_placeOfUnit cX2_placeOfUnit 4 ((some .int)) :: GW) B.pre, B.notSynchronized⟩
  obtain ⟨hx, hb, hr, hml, hown, hts, hlk⟩ := id C
  have w := wd_of hw
  obtain ⟨ls, hen, hl⟩ : ∃ ls : Array Slot, entryFrame m ([.ref th, .int x1] : List Value).toArray 4 = F0 m 0 ls [] ∧ lv_has ls 4 [(0, .ref th), (1, .int x1)] := by
    exact ⟨_, lg_entry_eq _ _ _, lv_entry _ (Nat.le_of_ble_eq_true rfl)⟩
  rw [hen]
  unfold f_Curve_placeOfUnit at hE
  refine lv_iload_n hx hb dX2_placeOfUnit_0 rfl (lv_at hl 1 rfl) ?_
  refine lv_iconst (v := 1) hx hb dX2_placeOfUnit_1 (by decide) ?_
  refine w_icmp_ge (tgt := 8) C dX2_placeOfUnit_2 (by decide) hE (fun hc e1 => ?_) (fun hc e1 => ?_)
  · refine lv_iload_n hx hb dX2_placeOfUnit_8 rfl (lv_at hl 1 rfl) ?_
    refine lv_istore_n (lv' := [(2, .int x1), (0, .ref th), (1, .int x1)]) hx hb dX2_placeOfUnit_9 rfl hl (by decide) rfl (fun ls hl => ?_)
    refine lv_iconst (v := 0) hx hb dX2_placeOfUnit_10 (by decide) ?_
    refine lv_istore_n (lv' := [(3, .int (0 : Int32)), (2, .int x1), (0, .ref th), (1, .int x1)]) hx hb dX2_placeOfUnit_11 rfl hl (by decide) rfl (fun ls hl => ?_)
    exact b_Curve_placeOfUnit_12 C N   N  h th x1 (0 : Int32) _ _ ls w  (lv_sub hl [2, 1, 0] rfl) e1
  · refine lv_ldc hx hb hown (hts _ (List.mem_cons_of_mem _ gw_36_8)) dX2_placeOfUnit_5 ?_
    exact w_iret C w e1 dX2_placeOfUnit_7
set_option maxRecDepth 20000 in
set_option maxHeartbeats 4000000 in
theorem k_Curve_lowEnd (l : Launch) (D : va_G) (cy : cyT) (z : Nat) (N : Nat) (h : hS) (th : Nat) (x1 : Int32) (r : Int32) (g : hS) (hE : f_Curve_lowEnd N h th x1 = some (r, g)) : ct l yX2_lowEnd (Cond.code yX2_lowEnd cX2_lowEnd 2 ((some .int)) :: GW) { frames := 2, cells := 0, slots := 0, locals := 44 } D cy z h [.ref th, .int x1] (rI r) g := by
  refine Met.ofW (cc := cX2_lowEnd) (maxL := 2) (ret := (some .int)) (by decide) rfl ?_
  intro p e s m args below meth c s₁ B hml hv
  obtain ⟨rfl, hw⟩ := hv
  have C : MX p s m ([.ref th, .int x1] : List Value).toArray meth c cX2_lowEnd 2 ((some .int)) RX2 (Cond.code yX2_lowEnd cX2_lowEnd 2 ((some .int)) :: GW) := ⟨B.exec, B.bytes, B.returns, hml, findClass_of_methodNamed B.named, atoms_spec (ws := Cond.code yX2_lowEnd cX2_lowEnd 2 ((some .int)) :: GW) B.pre, B.notSynchronized⟩
  obtain ⟨hx, hb, hr, hml, hown, hts, hlk⟩ := id C
  have w := wd_of hw
  obtain ⟨ls, hen, hl⟩ : ∃ ls : Array Slot, entryFrame m ([.ref th, .int x1] : List Value).toArray 2 = F0 m 0 ls [] ∧ lv_has ls 2 [(0, .ref th), (1, .int x1)] := by
    exact ⟨_, lg_entry_eq _ _ _, lv_entry _ (Nat.le_of_ble_eq_true rfl)⟩
  rw [hen]
  unfold f_Curve_lowEnd at hE
  refine lv_aload_n hx hb dX2_lowEnd_0 rfl (lv_at hl 0 rfl) ?_
  refine lv_aload_n hx hb dX2_lowEnd_1 rfl (lv_at hl 0 rfl) ?_
  refine w_gI (r := some th) (ci := 3) (k := 2) C w rfl (by decide) (GF_wsX20 _) (by decide) rfl (List.mem_cons_of_mem _ gw_4_14) rfl dX2_lowEnd_2 hE (fun v1 e1 => ?_)
  refine lv_iload_n hx hb dX2_lowEnd_5 rfl (lv_at hl 1 rfl) ?_
  refine lv_iadd hx hb dX2_lowEnd_6 ?_
  refine w_VI GW_good (n := 1) (F := 1) (Lc := 21) (o := some th) (av := [.int (v1 + x1)]) (rest := []) C w rfl (by decide) (fun a r g hf => k_Curve_placeOfUnit l D cy z N h a (v1 + x1) r g hf) gw_36_4 gw_36_5 gw_36_6 gw_2_22 gw_36_7 (by decide +kernel) ⟨Nat.le_of_ble_eq_true rfl, Nat.le_of_ble_eq_true rfl⟩ rfl hl.1 rfl (Nat.le_of_ble_eq_true rfl) dX2_lowEnd_7 (fun a => (sh_Curve_placeOfUnit N h a (v1 + x1))) ⟨by decide, by decide⟩ e1 (fun v2 h3 H locs w hsh3 e2 => ?_)
  exact w_iret C w e2 dX2_lowEnd_10
set_option maxRecDepth 20000 in
set_option maxHeartbeats 4000000 in
theorem k_Curve_highEnd (l : Launch) (D : va_G) (cy : cyT) (z : Nat) (N : Nat) (h : hS) (th : Nat) (x1 : Int32) (r : Int32) (g : hS) (hE : f_Curve_highEnd N h th x1 = some (r, g)) : ct l yX2_highEnd (Cond.code yX2_highEnd cX2_highEnd 2 ((some .int)) :: GW) { frames := 2, cells := 0, slots := 0, locals := 44 } D cy z h [.ref th, .int x1] (rI r) g := by
  refine Met.ofW (cc := cX2_highEnd) (maxL := 2) (ret := (some .int)) (by decide) rfl ?_
  intro p e s m args below meth c s₁ B hml hv
  obtain ⟨rfl, hw⟩ := hv
  have C : MX p s m ([.ref th, .int x1] : List Value).toArray meth c cX2_highEnd 2 ((some .int)) RX2 (Cond.code yX2_highEnd cX2_highEnd 2 ((some .int)) :: GW) := ⟨B.exec, B.bytes, B.returns, hml, findClass_of_methodNamed B.named, atoms_spec (ws := Cond.code yX2_highEnd cX2_highEnd 2 ((some .int)) :: GW) B.pre, B.notSynchronized⟩
  obtain ⟨hx, hb, hr, hml, hown, hts, hlk⟩ := id C
  have w := wd_of hw
  obtain ⟨ls, hen, hl⟩ : ∃ ls : Array Slot, entryFrame m ([.ref th, .int x1] : List Value).toArray 2 = F0 m 0 ls [] ∧ lv_has ls 2 [(0, .ref th), (1, .int x1)] := by
    exact ⟨_, lg_entry_eq _ _ _, lv_entry _ (Nat.le_of_ble_eq_true rfl)⟩
  rw [hen]
  unfold f_Curve_highEnd at hE
  refine lv_aload_n hx hb dX2_highEnd_0 rfl (lv_at hl 0 rfl) ?_
  refine lv_aload_n hx hb dX2_highEnd_1 rfl (lv_at hl 0 rfl) ?_
  refine w_gI (r := some th) (ci := 3) (k := 2) C w rfl (by decide) (GF_wsX20 _) (by decide) rfl (List.mem_cons_of_mem _ gw_4_14) rfl dX2_highEnd_2 hE (fun v1 e1 => ?_)
  refine lv_iload_n hx hb dX2_highEnd_5 rfl (lv_at hl 1 rfl) ?_
  refine lv_iadd hx hb dX2_highEnd_6 ?_
  refine lv_iconst (v := 1) hx hb dX2_highEnd_7 (by decide) ?_
  refine lv_iadd hx hb dX2_highEnd_8 ?_
  refine w_VI GW_good (n := 1) (F := 1) (Lc := 21) (o := some th) (av := [.int ((v1 + x1) + (1 : Int32))]) (rest := []) C w rfl (by decide) (fun a r g hf => k_Curve_placeOfUnit l D cy z N h a ((v1 + x1) + (1 : Int32)) r g hf) gw_36_4 gw_36_5 gw_36_6 gw_2_22 gw_36_7 (by decide +kernel) ⟨Nat.le_of_ble_eq_true rfl, Nat.le_of_ble_eq_true rfl⟩ rfl hl.1 rfl (Nat.le_of_ble_eq_true rfl) dX2_highEnd_9 (fun a => (sh_Curve_placeOfUnit N h a ((v1 + x1) + (1 : Int32)))) ⟨by decide, by decide⟩ e1 (fun v2 h3 H locs w hsh3 e2 => ?_)
  exact w_iret C w e2 dX2_highEnd_12
set_option maxRecDepth 20000 in
set_option maxHeartbeats 4000000 in
theorem k_K_clamp (l : Launch) (D : va_G) (cy : cyT) (z : Nat) (N : Nat) (h : hS) (x0 : Int32) (x1 : Int32) (x2 : Int32) (r : Int32) (g : hS) (hE : f_K_clamp N h x0 x1 x2 = some (r, g)) : ct l yX11_clamp (Cond.code yX11_clamp cX11_clamp 3 ((some .int)) :: GW) { frames := 1, cells := 0, slots := 0, locals := 44 } D cy z h [.int x0, .int x1, .int x2] (rI r) g := by
  refine Met.ofW (cc := cX11_clamp) (maxL := 3) (ret := (some .int)) (by decide) rfl ?_
  intro p e s m args below meth c s₁ B hml hv
  obtain ⟨rfl, hw⟩ := hv
  have C : MX p s m ([.int x0, .int x1, .int x2] : List Value).toArray meth c cX11_clamp 3 ((some .int)) RX11 (Cond.code yX11_clamp cX11_clamp 3 ((some .int)) :: GW) := ⟨B.exec, B.bytes, B.returns, hml, findClass_of_methodNamed B.named, atoms_spec (ws := Cond.code yX11_clamp cX11_clamp 3 ((some .int)) :: GW) B.pre, B.notSynchronized⟩
  obtain ⟨hx, hb, hr, hml, hown, hts, hlk⟩ := id C
  have w := wd_of hw
  obtain ⟨ls, hen, hl⟩ : ∃ ls : Array Slot, entryFrame m ([.int x0, .int x1, .int x2] : List Value).toArray 3 = F0 m 0 ls [] ∧ lv_has ls 3 [(0, .int x0), (1, .int x1), (2, .int x2)] := by
    exact ⟨_, lg_entry_eq _ _ _, lv_entry _ (Nat.le_of_ble_eq_true rfl)⟩
  rw [hen]
  unfold f_K_clamp at hE
  refine lv_iload_n hx hb dX11_clamp_0 rfl (lv_at hl 0 rfl) ?_
  refine lv_iload_n hx hb dX11_clamp_1 rfl (lv_at hl 1 rfl) ?_
  refine w_mmax C hl.1 (List.mem_cons_of_mem _ gw_37_7) (List.mem_cons_of_mem _ gw_30_15) (List.mem_cons_of_mem _ gw_10_7) (List.mem_cons_of_mem _ gw_30_16) (Nat.le_of_ble_eq_true rfl) (Nat.le_of_ble_eq_true rfl) (by decide) (by decide) dX11_clamp_2 ?_
  refine lv_iload_n hx hb dX11_clamp_5 rfl (lv_at hl 2 rfl) ?_
  refine w_mmin C hl.1 (List.mem_cons_of_mem _ gw_37_8) (List.mem_cons_of_mem _ gw_10_6) (List.mem_cons_of_mem _ gw_10_7) (List.mem_cons_of_mem _ gw_10_8) (Nat.le_of_ble_eq_true rfl) (Nat.le_of_ble_eq_true rfl) (by decide) (by decide) dX11_clamp_6 ?_
  exact w_iret C w hE dX11_clamp_9
set_option maxRecDepth 20000 in
set_option maxHeartbeats 4000000 in
theorem k_Curve_nearestToZero (l : Launch) (D : va_G) (cy : cyT) (z : Nat) (N : Nat) (h : hS) (th : Nat) (x1 : Int32) (r : Int32) (g : hS) (hE : f_Curve_nearestToZero N h th x1 = some (r, g)) : ct l yX2_nearestToZero (Cond.code yX2_nearestToZero cX2_nearestToZero 2 ((some .int)) :: GW) { frames := 3, cells := 0, slots := 0, locals := 66 } D cy z h [.ref th, .int x1] (rI r) g := by
  refine Met.ofW (cc := cX2_nearestToZero) (maxL := 2) (ret := (some .int)) (by decide) rfl ?_
  intro p e s m args below meth c s₁ B hml hv
  obtain ⟨rfl, hw⟩ := hv
  have C : MX p s m ([.ref th, .int x1] : List Value).toArray meth c cX2_nearestToZero 2 ((some .int)) RX2 (Cond.code yX2_nearestToZero cX2_nearestToZero 2 ((some .int)) :: GW) := ⟨B.exec, B.bytes, B.returns, hml, findClass_of_methodNamed B.named, atoms_spec (ws := Cond.code yX2_nearestToZero cX2_nearestToZero 2 ((some .int)) :: GW) B.pre, B.notSynchronized⟩
  obtain ⟨hx, hb, hr, hml, hown, hts, hlk⟩ := id C
  have w := wd_of hw
  obtain ⟨ls, hen, hl⟩ : ∃ ls : Array Slot, entryFrame m ([.ref th, .int x1] : List Value).toArray 2 = F0 m 0 ls [] ∧ lv_has ls 2 [(0, .ref th), (1, .int x1)] := by
    exact ⟨_, lg_entry_eq _ _ _, lv_entry _ (Nat.le_of_ble_eq_true rfl)⟩
  rw [hen]
  unfold f_Curve_nearestToZero at hE
  refine lv_iconst (v := 0) hx hb dX2_nearestToZero_0 (by decide) ?_
  refine lv_aload_n hx hb dX2_nearestToZero_1 rfl (lv_at hl 0 rfl) ?_
  refine lv_iload_n hx hb dX2_nearestToZero_2 rfl (lv_at hl 1 rfl) ?_
  refine w_VI GW_good (n := 1) (F := 2) (Lc := 44) (o := some th) (av := [.int x1]) (rest := [.int (0 : Int32)]) C w rfl (by decide) (fun a r g hf => k_Curve_lowEnd l D cy z N h a x1 r g hf) gw_37_3 gw_36_1 gw_36_2 gw_2_22 gw_36_3 (by decide +kernel) ⟨Nat.le_of_ble_eq_true rfl, Nat.le_of_ble_eq_true rfl⟩ rfl hl.1 rfl (Nat.le_of_ble_eq_true rfl) dX2_nearestToZero_3 (fun a => (sh_Curve_lowEnd N h a x1)) ⟨by decide, by decide⟩ hE (fun v1 h2 H locs w hsh2 e1 => ?_)
  refine lv_aload_n hx hb dX2_nearestToZero_6 rfl (lv_at hl 0 rfl) ?_
  refine lv_iload_n hx hb dX2_nearestToZero_7 rfl (lv_at hl 1 rfl) ?_
  refine w_VI GW_good (n := 1) (F := 2) (Lc := 44) (o := some th) (av := [.int x1]) (rest := [.int v1, .int (0 : Int32)]) C w rfl (by decide) (fun a r g hf => k_Curve_highEnd l D cy z N h2 a x1 r g hf) gw_37_4 gw_36_20 gw_36_21 gw_2_22 gw_36_22 (by decide +kernel) ⟨Nat.le_of_ble_eq_true rfl, Nat.le_of_ble_eq_true rfl⟩ rfl hl.1 rfl (Nat.le_of_ble_eq_true rfl) dX2_nearestToZero_8 (fun a => (sh_Curve_highEnd N h2 a x1)) ⟨by decide, by decide⟩ e1 (fun v3 h4 H locs w hsh4 e2 => ?_)
  refine w_SNI GW_good (n := 3) (F := 1) (Lc := 44) (av := [.int (0 : Int32), .int v1, .int v3]) (rest := []) C w (fun r g hf => k_K_clamp l D cy z N h4 (0 : Int32) v1 v3 r g hf) (List.mem_of_getElem? (i := 1) rfl) gw_37_5 gw_1_2 gw_37_6 (by decide +kernel) ⟨Nat.le_of_ble_eq_true rfl, Nat.le_of_ble_eq_true rfl⟩ rfl hl.1 rfl (Nat.le_of_ble_eq_true rfl) dX2_nearestToZero_11 (sh_K_clamp N h4 (0 : Int32) v1 v3) ⟨by decide, by decide⟩ e2 (fun v5 h6 H locs w hsh6 e3 => ?_)
  exact w_iret C w e3 dX2_nearestToZero_14
set_option maxRecDepth 20000 in
set_option maxHeartbeats 4000000 in
theorem b_Curve_isSameAs_34 {p : Program} {l : Launch} {e : Env} {s : State} {m : MethodId} {args : Array Value} {below : List Frame} {meth : Method} {c : Code} {D : va_G} {cy : cyT} {z : Nat} (C : MX p s m args meth c cX2_isSameAs 3 ((some .boolean)) RX2 (Cond.code yX2_isSameAs cX2_isSameAs 3 ((some .boolean)) :: GW)) (N : Nat) {r : Int32} {g : hS}  : ∀  (h : hS)  (H : Heap) (locs : List Loc) (ls : Array Slot), wd D cy z s 0 h H locs → lv_has ls 3 [] → f_Curve_isSameAs_34 N   h  = some (r, g) → W p l e { frames := 1, cells := 0, slots := 0, locals := 21 } s m args below meth c H locs 0 0 (MQ below (eQ D cy z (rI r) g) args s 0 0 (fun q => z ≤ q)) (F0 m 34 ls []) := by
  obtain ⟨hx, hb, hr, hml, hown, hts, hlk⟩ := id C
  intro  h  H locs ls w  hl hE
  unfold f_Curve_isSameAs_34 at hE
  refine lv_iconst (v := 0) hx hb dX2_isSameAs_34 (by decide) ?_
  exact w_zret C w hE dX2_isSameAs_35
set_option maxRecDepth 20000 in
set_option maxHeartbeats 4000000 in
theorem b_Curve_isSameAs_72 {p : Program} {l : Launch} {e : Env} {s : State} {m : MethodId} {args : Array Value} {below : List Frame} {meth : Method} {c : Code} {D : va_G} {cy : cyT} {z : Nat} (C : MX p s m args meth c cX2_isSameAs 3 ((some .boolean)) RX2 (Cond.code yX2_isSameAs cX2_isSameAs 3 ((some .boolean)) :: GW)) (N : Nat) {r : Int32} {g : hS}  : ∀  (h : hS)  (H : Heap) (locs : List Loc) (ls : Array Slot), wd D cy z s 0 h H locs → lv_has ls 3 [] → f_Curve_isSameAs_72 N   h  = some (r, g) → W p l e { frames := 1, cells := 0, slots := 0, locals := 21 } s m args below meth c H locs 0 0 (MQ below (eQ D cy z (rI r) g) args s 0 0 (fun q => z ≤ q)) (F0 m 72 ls []) := by
  obtain ⟨hx, hb, hr, hml, hown, hts, hlk⟩ := id C
  intro  h  H locs ls w  hl hE
  unfold f_Curve_isSameAs_72 at hE
  refine lv_iconst (v := 0) hx hb dX2_isSameAs_72 (by decide) ?_
  exact w_zret C w hE dX2_isSameAs_73
set_option maxRecDepth 20000 in
set_option maxHeartbeats 4000000 in
theorem b_Curve_isSameAs_38 {p : Program} {l : Launch} {e : Env} {s : State} {m : MethodId} {args : Array Value} {below : List Frame} {meth : Method} {c : Code} {D : va_G} {cy : cyT} {z : Nat} (C : MX p s m args meth c cX2_isSameAs 3 ((some .boolean)) RX2 (Cond.code yX2_isSameAs cX2_isSameAs 3 ((some .boolean)) :: GW)) (N : Nat) {r : Int32} {g : hS}  : ∀ (n : Nat) (h : hS) (th : Nat) (a1 : Option Nat) (x2 : Int32) (H : Heap) (locs : List Loc) (ls : Array Slot), wd D cy z s 0 h H locs → lv_has ls 3 [(0, .ref th), (1, va_rf a1), (2, .int x2)] → f_Curve_isSameAs_38 N  n h th a1 x2 = some (r, g) → W p l e { frames := 1, cells := 0, slots := 0, locals := 21 } s m args below meth c H locs 0 0 (MQ below (eQ D cy z (rI r) g) args s 0 0 (fun q => z ≤ q)) (F0 m 38 ls []) := by
  obtain ⟨hx, hb, hr, hml, hown, hts, hlk⟩ := id C
  intro n
  induction n with
  | zero =>
    intro  h th a1 x2 H locs ls w  hl hE
    cases hE
  | succ n ih =>
    intro  h th a1 x2 H locs ls w  hl hE
    unfold f_Curve_isSameAs_38 at hE
    refine lv_iload_n hx hb dX2_isSameAs_38 rfl (lv_at hl 2 rfl) ?_
    refine lv_aload_n hx hb dX2_isSameAs_39 rfl (lv_at hl 0 rfl) ?_
    refine w_gI (r := some th) (ci := 3) (k := 0) C w rfl (by decide) (GF_wsX20 _) (by decide) rfl (List.mem_cons_of_mem _ gw_4_13) rfl dX2_isSameAs_40 hE (fun v1 e1 => ?_)
    refine w_icmp_ge (tgt := 80) C dX2_isSameAs_43 (by decide) e1 (fun hc e2 => ?_) (fun hc e2 => ?_)
    · refine lv_iconst (v := 1) hx hb dX2_isSameAs_80 (by decide) ?_
      exact w_zret C w e2 dX2_isSameAs_81
    · refine lv_aload_n hx hb dX2_isSameAs_46 rfl (lv_at hl 0 rfl) ?_
      refine lv_iload_n hx hb dX2_isSameAs_47 rfl (lv_at hl 2 rfl) ?_
      refine w_VI GW_good (n := 1) (F := 0) (Lc := 0) (o := some th) (av := [.int x2]) (rest := []) C w rfl (by decide) (fun a r g hf => k_Curve_placeOf l D cy z N h a x2 r g hf) gw_21_8 gw_17_2 gw_17_3 gw_2_22 gw_17_4 (by decide +kernel) ⟨Nat.le_of_ble_eq_true rfl, Nat.le_of_ble_eq_true rfl⟩ rfl hl.1 rfl (Nat.le_of_ble_eq_true rfl) dX2_isSameAs_48 (fun a => (sh_Curve_placeOf N h a x2)) ⟨by decide, by decide⟩ e2 (fun v2 h3 H locs w hsh3 e3 => ?_)
      refine w_aload_n C dX2_isSameAs_51 rfl (lv_at hl 1 rfl) ?_
      refine lv_iload_n hx hb dX2_isSameAs_52 rfl (lv_at hl 2 rfl) ?_
      refine w_VI GW_good (n := 1) (F := 0) (Lc := 0) (o := a1) (av := [.int x2]) (rest := [.int v2]) C w rfl (by decide) (fun a r g hf => k_Curve_placeOf l D cy z N h3 a x2 r g hf) gw_21_8 gw_17_2 gw_17_3 gw_2_22 gw_17_4 (by decide +kernel) ⟨Nat.le_of_ble_eq_true rfl, Nat.le_of_ble_eq_true rfl⟩ rfl hl.1 rfl (Nat.le_of_ble_eq_true rfl) dX2_isSameAs_53 (fun a => (sh_Curve_placeOf N h3 a x2)) ⟨by decide, by decide⟩ e3 (fun v4 h5 H locs w hsh5 e4 => ?_)
      refine w_icmp_ne (tgt := 72) C dX2_isSameAs_56 (by decide) e4 (fun hc e5 => ?_) (fun hc e5 => ?_)
      · exact b_Curve_isSameAs_72 C N     h5  _ _ ls w  (lv_sub hl [] rfl) e5
      · refine lv_aload_n hx hb dX2_isSameAs_59 rfl (lv_at hl 0 rfl) ?_
        refine lv_iload_n hx hb dX2_isSameAs_60 rfl (lv_at hl 2 rfl) ?_
        refine w_VI GW_good (n := 1) (F := 0) (Lc := 0) (o := some th) (av := [.int x2]) (rest := []) C w rfl (by decide) (fun a r g hf => k_Curve_weightOf l D cy z N h5 a x2 r g hf) gw_21_23 gw_17_6 gw_17_7 gw_2_22 gw_17_8 (by decide +kernel) ⟨Nat.le_of_ble_eq_true rfl, Nat.le_of_ble_eq_true rfl⟩ rfl hl.1 rfl (Nat.le_of_ble_eq_true rfl) dX2_isSameAs_61 (fun a => (sh_Curve_weightOf N h5 a x2)) ⟨by decide, by decide⟩ e5 (fun v6 h7 H locs w hsh7 e6 => ?_)
        refine w_aload_n C dX2_isSameAs_64 rfl (lv_at hl 1 rfl) ?_
        refine lv_iload_n hx hb dX2_isSameAs_65 rfl (lv_at hl 2 rfl) ?_
        refine w_VI GW_good (n := 1) (F := 0) (Lc := 0) (o := a1) (av := [.int x2]) (rest := [.int v6]) C w rfl (by decide) (fun a r g hf => k_Curve_weightOf l D cy z N h7 a x2 r g hf) gw_21_23 gw_17_6 gw_17_7 gw_2_22 gw_17_8 (by decide +kernel) ⟨Nat.le_of_ble_eq_true rfl, Nat.le_of_ble_eq_true rfl⟩ rfl hl.1 rfl (Nat.le_of_ble_eq_true rfl) dX2_isSameAs_66 (fun a => (sh_Curve_weightOf N h7 a x2)) ⟨by decide, by decide⟩ e6 (fun v8 h9 H locs w hsh9 e7 => ?_)
        refine w_icmp_eq (tgt := 74) C dX2_isSameAs_69 (by decide) e7 (fun hc e8 => ?_) (fun hc e8 => ?_)
        · obtain ⟨v10, ev10, e9⟩ := bn_some e8
          refine lv_iinc (v := v10) (lv' := [(2, .int v10), (0, .ref th), (1, va_rf a1)]) hx hb dX2_isSameAs_74 hl (k := 2) rfl (by rw [ev10]; rfl) (by decide) (by cases a1 <;> rfl) (fun ls hl => ?_)
          refine lv_goto (tgt := 38) hx hb dX2_isSameAs_77 (by decide) ?_
          exact ih  h9 th a1 v10 _ _ ls w  (lv_sub hl [1, 2, 0] rfl) e9
        · exact b_Curve_isSameAs_72 C N     h9  _ _ ls w  (lv_sub hl [] rfl) e8
set_option maxRecDepth 20000 in
set_option maxHeartbeats 4000000 in
theorem k_Curve_isSameAs (l : Launch) (D : va_G) (cy : cyT) (z : Nat) (N : Nat) (h : hS) (th : Nat) (a1 : Option Nat) (r : Int32) (g : hS) (hE : f_Curve_isSameAs N h th a1 = some (r, g)) : ct l yX2_isSameAs (Cond.code yX2_isSameAs cX2_isSameAs 3 ((some .boolean)) :: GW) { frames := 1, cells := 0, slots := 0, locals := 21 } D cy z h [.ref th, va_rf a1] (rI r) g := by
  refine Met.ofW (cc := cX2_isSameAs) (maxL := 3) (ret := (some .boolean)) (by decide) rfl ?_
  intro p e s m args below meth c s₁ B hml hv
  obtain ⟨rfl, hw⟩ := hv
  have C : MX p s m ([.ref th, va_rf a1] : List Value).toArray meth c cX2_isSameAs 3 ((some .boolean)) RX2 (Cond.code yX2_isSameAs cX2_isSameAs 3 ((some .boolean)) :: GW) := ⟨B.exec, B.bytes, B.returns, hml, findClass_of_methodNamed B.named, atoms_spec (ws := Cond.code yX2_isSameAs cX2_isSameAs 3 ((some .boolean)) :: GW) B.pre, B.notSynchronized⟩
  obtain ⟨hx, hb, hr, hml, hown, hts, hlk⟩ := id C
  have w := wd_of hw
  obtain ⟨ls, hen, hl⟩ : ∃ ls : Array Slot, entryFrame m ([.ref th, va_rf a1] : List Value).toArray 3 = F0 m 0 ls [] ∧ lv_has ls 3 [(0, .ref th), (1, va_rf a1)] := by
    cases a1 <;> exact ⟨_, lg_entry_eq _ _ _, lv_entry _ (Nat.le_of_ble_eq_true rfl)⟩
  rw [hen]
  unfold f_Curve_isSameAs at hE
  refine lv_aload_n hx hb dX2_isSameAs_0 rfl (lv_at hl 0 rfl) ?_
  refine w_gI (r := some th) (ci := 3) (k := 0) C w rfl (by decide) (GF_wsX20 _) (by decide) rfl (List.mem_cons_of_mem _ gw_4_13) rfl dX2_isSameAs_1 hE (fun v1 e1 => ?_)
  refine w_aload_n C dX2_isSameAs_4 rfl (lv_at hl 1 rfl) ?_
  refine w_gI (r := a1) (ci := 3) (k := 0) C w rfl (by decide) (GF_wsX20 _) (by decide) rfl (List.mem_cons_of_mem _ gw_4_13) rfl dX2_isSameAs_5 e1 (fun v2 e2 => ?_)
  refine w_icmp_ne (tgt := 34) C dX2_isSameAs_8 (by decide) e2 (fun hc e3 => ?_) (fun hc e3 => ?_)
  · exact b_Curve_isSameAs_34 C N     h  _ _ ls w  (lv_sub hl [] rfl) e3
  · refine lv_aload_n hx hb dX2_isSameAs_11 rfl (lv_at hl 0 rfl) ?_
    refine w_gI (r := some th) (ci := 3) (k := 2) C w rfl (by decide) (GF_wsX20 _) (by decide) rfl (List.mem_cons_of_mem _ gw_4_14) rfl dX2_isSameAs_12 e3 (fun v3 e4 => ?_)
    refine w_aload_n C dX2_isSameAs_15 rfl (lv_at hl 1 rfl) ?_
    refine w_gI (r := a1) (ci := 3) (k := 2) C w rfl (by decide) (GF_wsX20 _) (by decide) rfl (List.mem_cons_of_mem _ gw_4_14) rfl dX2_isSameAs_16 e4 (fun v4 e5 => ?_)
    refine w_icmp_ne (tgt := 34) C dX2_isSameAs_19 (by decide) e5 (fun hc e6 => ?_) (fun hc e6 => ?_)
    · exact b_Curve_isSameAs_34 C N     h  _ _ ls w  (lv_sub hl [] rfl) e6
    · refine lv_aload_n hx hb dX2_isSameAs_22 rfl (lv_at hl 0 rfl) ?_
      refine w_gJ (r := some th) (ci := 3) (k := 4) C w rfl (by decide) (GF_wsX20 _) (by decide) rfl (List.mem_cons_of_mem _ gw_4_16) rfl dX2_isSameAs_23 e6 (fun v5 e7 => ?_)
      refine w_aload_n C dX2_isSameAs_26 rfl (lv_at hl 1 rfl) ?_
      refine w_gJ (r := a1) (ci := 3) (k := 4) C w rfl (by decide) (GF_wsX20 _) (by decide) rfl (List.mem_cons_of_mem _ gw_4_16) rfl dX2_isSameAs_27 e7 (fun v6 e8 => ?_)
      refine W.lcmp hx hb dX2_isSameAs_30 ?_
      refine w_if_eq (tgt := 36) C dX2_isSameAs_31 (by decide) e8 (fun hc e9 => ?_) (fun hc e9 => ?_)
      · refine lv_iconst (v := 0) hx hb dX2_isSameAs_36 (by decide) ?_
        refine lv_istore_n (lv' := [(2, .int (0 : Int32)), (0, .ref th), (1, va_rf a1)]) hx hb dX2_isSameAs_37 rfl hl (by decide) (by cases a1 <;> rfl) (fun ls hl => ?_)
        exact b_Curve_isSameAs_38 C N   N  h th a1 (0 : Int32) _ _ ls w  (lv_sub hl [1, 2, 0] rfl) e9
      · exact b_Curve_isSameAs_34 C N     h  _ _ ls w  (lv_sub hl [] rfl) e9
