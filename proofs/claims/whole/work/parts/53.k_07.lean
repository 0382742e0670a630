def f_K_takes_30 (N : Nat)  (h : hS) (th : Nat) : Option (Int32 × hS) := cv h (some th) 12 (fun a => f_K_refuseAct N h a ) fun v1 h2 => some (v1, h2)
def f_K_takes_56 (N : Nat)  (h : hS) (y0 : Int32) : Option (Int32 × hS) := some (y0, h)
def f_K_takes_43 (N : Nat)  (h : hS) (th : Nat) (x1 : Int32) (x2 : Int32) : Option (Int32 × hS) := gR h (some th) 12 15 fun v1 => cv h v1 2 (fun a => f_Chain_remove N h a x2) fun _ h3 => cv h3 (some th) 12 (fun a => f_K_becomeUnlessTooMuch N h3 a x1) fun v4 h5 => f_K_takes_56 N   h5 v4
def f_K_takes_17 (N : Nat)  (h : hS) (th : Nat) (x1 : Int32) (x2 : Int32) (y0 : Option Nat) : Option (Int32 × hS) := if x2 < (0 : Int32) then (f_K_takes_30 N   h th) else (gI h y0 2 1 fun v1 => if x2 < v1 then (gR h (some th) 12 15 fun v2 => cv h v2 2 (fun a => f_Chain_take N h a y0) fun _ h4 => f_K_takes_43 N   h4 th x1 x2) else (f_K_takes_30 N   h th))
def f_K_takes (N : Nat) (h : hS) (th : Nat) (x1 : Int32) (x2 : Int32) : Option (Int32 × hS) := cl (f_K_isCost N h x1) fun v1 h2 => if v1 = (0 : Int32) then (cv h2 (some th) 12 (fun a => f_K_refuseAct N h2 a ) fun v5 h6 => some (v5, h6)) else (cv h2 (some th) 12 (fun a => fN (f_K_chainOf N h2 a x1)) fun v3 h4 => f_K_takes_17 N   h4 th x1 x2 v3)
def f_K_copy_31 (N : Nat)  (h : hS) (th : Nat) : Option (Int32 × hS) := cv h (some th) 12 (fun a => f_K_refuseAct N h a ) fun v1 h2 => some (v1, h2)
def f_K_copy_65 (N : Nat)  (h : hS) (y0 : Int32) : Option (Int32 × hS) := some (y0, h)
def f_K_copy_60 (N : Nat)  (h : hS) (th : Nat) (x1 : Int32) : Option (Int32 × hS) := cv h (some th) 12 (fun a => f_K_become N h a x1) fun v1 h2 => f_K_copy_65 N   h2 v1
def f_K_copy_57 (N : Nat)  (h : hS) (th : Nat) (x1 : Int32) (y0 : Option Nat) (y1 : Option Nat) : Option (Int32 × hS) := cv h y0 1 (fun a => f_Bench_startWith N h a y1) fun _ h2 => f_K_copy_60 N   h2 th x1
def f_K_copy_48 (N : Nat)  (h : hS) (th : Nat) (x1 : Int32) (x2 : Int32) : Option (Int32 × hS) := gR h (some th) 12 4 fun v1 => cv h (some th) 12 (fun a => fN (f_K_curveOf N h a x2)) fun v2 h3 => f_K_copy_57 N   h3 th x1 v1 v2
def f_K_copy_45 (N : Nat)  (h : hS) (th : Nat) (x1 : Int32) (x2 : Int32) (y0 : Option Nat) (y1 : Option Nat) : Option (Int32 × hS) := cv h y0 2 (fun a => f_Chain_take N h a y1) fun _ h2 => f_K_copy_48 N   h2 th x1 x2
def f_K_copy_24 (N : Nat)  (h : hS) (th : Nat) (x1 : Int32) (x2 : Int32) (y0 : Option Nat) : Option (Int32 × hS) := cv h y0 2 (fun a => f_Chain_hasOnTop N h a x1) fun v1 h2 => if v1 = (0 : Int32) then (gR h2 (some th) 12 15 fun v3 => cv h2 (some th) 12 (fun a => fN (f_K_chainOf N h2 a x2)) fun v4 h5 => f_K_copy_45 N   h5 th x1 x2 v3 v4) else (f_K_copy_31 N   h2 th)
def f_K_copy (N : Nat) (h : hS) (th : Nat) (x1 : Int32) (x2 : Int32) : Option (Int32 × hS) := cl (f_K_isCost N h x1) fun v1 h2 => if v1 = (0 : Int32) then (f_K_copy_31 N   h2 th) else (cl (f_K_isCost N h2 x2) fun v3 h4 => if v3 = (0 : Int32) then (f_K_copy_31 N   h4 th) else (if x1 = x2 then (f_K_copy_31 N   h4 th) else (cv h4 (some th) 12 (fun a => fN (f_K_chainOf N h4 a x2)) fun v5 h6 => f_K_copy_24 N   h6 th x1 x2 v5)))
def f_K_makeCurve_28 (N : Nat)  (h : hS)  : Option (Unit × hS) := some ((), h)
def f_K_makeCurve_18 (N : Nat)  (h : hS) (th : Nat) (y0 : Option Nat) : Option (Unit × hS) := gR h (some th) 12 4 fun v1 => gR h v1 1 0 fun v2 => cv h y0 3 (fun a => f_Curve_take N h a v2) fun _ h4 => f_K_makeCurve_28 N   h4 
def f_K_makeCurve_12 (N : Nat)  (h : hS) (th : Nat) (x1 : Int32) (y0 : Int32) : Option (Unit × hS) := cv h (some th) 12 (fun a => fN (f_K_curveOf N h a x1)) fun v1 h2 => f_K_makeCurve_18 N   h2 th v1
def f_K_makeCurve_9 (N : Nat)  (h : hS) (th : Nat) (x1 : Int32) (y0 : Option Nat) (y1 : Option Nat) : Option (Unit × hS) := cv h y0 1 (fun a => f_Bench_build N h a y1) fun v1 h2 => f_K_makeCurve_12 N   h2 th x1 v1
def f_K_makeCurve (N : Nat) (h : hS) (th : Nat) (x1 : Int32) : Option (Unit × hS) := gR h (some th) 12 4 fun v1 => cv h (some th) 12 (fun a => fN (f_K_chainOf N h a x1)) fun v2 h3 => f_K_makeCurve_9 N   h3 th x1 v1 v2
def f_K_undo_20 (N : Nat)  (h : hS) (th : Nat) : Option (Int32 × hS) := gR h (some th) 12 16 fun v1 => gI h v1 7 3 fun v2 => some (v2, h)
def f_K_undo_7 (N : Nat)  (h : hS) (th : Nat) (y0 : Int32) : Option (Int32 × hS) := if y0 = (-1 : Int32) then (some ((-1 : Int32), h)) else (cv h (some th) 12 (fun a => f_K_makeCurve N h a y0) fun _ h2 => f_K_undo_20 N   h2 th)
def f_K_undo (N : Nat) (h : hS) (th : Nat) : Option (Int32 × hS) := gR h (some th) 12 16 fun v1 => cv h v1 7 (fun a => f_State_takeBack N h a ) fun v2 h3 => f_K_undo_7 N   h3 th v2
def f_K_note_19 (N : Nat)  (h : hS) (th : Nat) : Option (Int32 × hS) := gR h (some th) 12 16 fun v1 => gR h v1 7 7 fun v2 => aI h 50 v2 (2 : Int32) fun v3 => uI h v2 (2 : Int32) (v3 + (1 : Int32)) fun h4 => some ((-1 : Int32), h4)
def f_K_note (N : Nat) (h : hS) (th : Nat) (x1 : Int32) (x2 : Int64) : Option (Int32 × hS) := gR h (some th) 12 16 fun v1 => gI h v1 7 6 fun v2 => if (8 : Int32) ≤ v2 then (f_K_note_19 N   h th) else (cl (f_K_isX N h x1) fun v3 h4 => if v3 = (0 : Int32) then (f_K_note_19 N   h4 th) else (gR h4 (some th) 12 16 fun v5 => gR h4 v5 7 4 fun v6 => gR h4 (some th) 12 16 fun v7 => gI h4 v7 7 6 fun v8 => uI h4 v6 v8 x1 fun h9 => gR h9 (some th) 12 16 fun v10 => gR h9 v10 7 5 fun v11 => gR h9 (some th) 12 16 fun v12 => gI h9 v12 7 6 fun v13 => uJ h9 v11 v13 x2 fun h14 => gR h14 (some th) 12 16 fun v15 => gI h14 v15 7 6 fun v16 => pI h14 v15 7 6 (v16 + (1 : Int32)) fun h17 => gR h17 (some th) 12 16 fun v18 => gI h17 v18 7 6 fun v19 => some (v19, h17)))
def f_K_needWeighted_30 (N : Nat)  (h : hS)  : Option ((Unit ⊕ Nat) × hS) := some ((Sum.inl ()), h)
def f_K_needWeighted_27 (N : Nat)  (h : hS) (y0 : Int32) : Option ((Unit ⊕ Nat) × hS) := clT (f_K_needSuch N h y0) fun _ h2 => f_K_needWeighted_30 N   h2 
def f_K_needWeighted_26 (N : Nat)  (h : hS)  : Option ((Unit ⊕ Nat) × hS) := f_K_needWeighted_27 N   h (0 : Int32)
def f_K_needWeighted_22 (N : Nat)  (h : hS)  : Option ((Unit ⊕ Nat) × hS) := f_K_needWeighted_27 N   h (1 : Int32)
def f_K_needWeighted_6 (N : Nat)  (h : hS) (x2 : Int32) (y0 : Option Nat) : Option ((Unit ⊕ Nat) × hS) := gI h y0 8 0 fun v1 => if (2 : Int32) < v1 then (f_K_needWeighted_26 N   h ) else (if x2 = (0 : Int32) then (f_K_needWeighted_22 N   h ) else (if x2 = (1 : Int32) then (f_K_needWeighted_22 N   h ) else (f_K_needWeighted_26 N   h )))
def f_K_needWeighted (N : Nat) (h : hS) (th : Nat) (x1 : Int32) (x2 : Int32) : Option ((Unit ⊕ Nat) × hS) := cvT h (some th) 12 (fun a => f_K_stepOf N h a (0 : Int32) x1) fun v1 h2 => f_K_needWeighted_6 N   h2 x2 v1
def f_K_fits_102 (N : Nat)  (h : hS) (y0 : Int32) : Option ((Int32 ⊕ Nat) × hS) := some ((Sum.inl y0), h)
def f_K_fits_85 (N : Nat) (rc30 : hS → Nat → Int32 → Int32 → Option Nat → Int32 → Int32 → Int32 → Option ((Int32 ⊕ Nat) × hS)) (h : hS) (th : Nat) (x1 : Int32) (x2 : Int32) (a3 : Option Nat) (x4 : Int32) (x5 : Int32) (x6 : Int32) : Option ((Int32 ⊕ Nat) × hS) := bn (x6 + (1 : Int32)) fun v1 => rc30 h th x1 x2 a3 x4 x5 v1
def f_K_fits_80 (N : Nat) (rc30 : hS → Nat → Int32 → Int32 → Option Nat → Int32 → Int32 → Int32 → Option ((Int32 ⊕ Nat) × hS)) (h : hS) (th : Nat) (x1 : Int32) (x2 : Int32) (a3 : Option Nat) (x4 : Int32) (x6 : Int32) (y0 : Int32) : Option ((Int32 ⊕ Nat) × hS) := bn (x4 + (1 : Int32)) fun v1 => f_K_fits_85 N rc30  h th x1 x2 a3 v1 y0 x6
def f_K_fits_48 (N : Nat) (rc30 : hS → Nat → Int32 → Int32 → Option Nat → Int32 → Int32 → Int32 → Option ((Int32 ⊕ Nat) × hS)) (h : hS) (th : Nat) (x1 : Int32) (x2 : Int32) (a3 : Option Nat) (x4 : Int32) (x5 : Int32) (x6 : Int32) (y0 : Int32) : Option ((Int32 ⊕ Nat) × hS) := if y0 = (0 : Int32) then (f_K_fits_85 N rc30  h th x1 x2 a3 x4 x5 x6) else (gR h (some th) 12 16 fun v1 => gR h (some th) 12 4 fun v2 => gR h v2 1 0 fun v3 => cv h v1 7 (fun a => f_State_holdsNotes N h a v3) fun v4 h5 => if v4 = (0 : Int32) then (f_K_fits_85 N rc30  h5 th x1 x2 a3 x4 x5 x6) else (if x4 = (0 : Int32) then (f_K_fits_80 N rc30  h5 th x1 x2 a3 x4 x6 x6) else (f_K_fits_80 N rc30  h5 th x1 x2 a3 x4 x6 x5)))
def f_K_fits_30 (N : Nat)  : Nat → hS → Nat → Int32 → Int32 → Option Nat → Int32 → Int32 → Int32 → Option ((Int32 ⊕ Nat) × hS)
  | 0 => fun _ _ _ _ _ _ _ _ => none
  | n + 1 => fun h th x1 x2 a3 x4 x5 x6 => if (40 : Int32) < x6 then (if x2 = (0 : Int32) then (f_K_fits_102 N   h x4) else (f_K_fits_102 N   h x5)) else (gR h (some th) 12 4 fun v1 => cv h v1 1 (fun a => f_Bench_goThrough N h a a3 x1 x6) fun v2 h3 => f_K_fits_48 N (f_K_fits_30 N  n)  h3 th x1 x2 a3 x4 x5 x6 v2)
def f_K_fits_27 (N : Nat)  (h : hS) (th : Nat) (x1 : Int32) (x2 : Int32) (a3 : Option Nat) (x4 : Int32) (x5 : Int32) : Option ((Int32 ⊕ Nat) × hS) := f_K_fits_30 N  N h th x1 x2 a3 x4 x5 (0 : Int32)
def f_K_fits_11 (N : Nat)  (h : hS) (th : Nat) (x1 : Int32) (x2 : Int32) (y0 : Option Nat) : Option ((Int32 ⊕ Nat) × hS) := gR h (some th) 12 4 fun v1 => cv h v1 1 (fun a => f_Bench_standAhead N h a y0 x1) fun _ h3 => f_K_fits_27 N   h3 th x1 x2 y0 (0 : Int32) (-1 : Int32)
def f_K_fits_6 (N : Nat)  (h : hS) (th : Nat) (x1 : Int32) (x2 : Int32) : Option ((Int32 ⊕ Nat) × hS) := cvT h (some th) 12 (fun a => f_K_chainOf N h a (0 : Int32)) fun v1 h2 => f_K_fits_11 N   h2 th x1 x2 v1
def f_K_fits (N : Nat) (h : hS) (th : Nat) (x1 : Int32) (x2 : Int32) : Option ((Int32 ⊕ Nat) × hS) := cvT h (some th) 12 (fun a => f_K_needWeighted N h a x1 x2) fun _ h2 => f_K_fits_6 N   h2 th x1 x2
def f_Arr_fill_53178_5 (N : Nat)  : Nat → hS → Option Nat → Int32 → Int32 → Int32 → Option (Unit × hS)
  | 0 => fun _ _ _ _ _ => none
  | n + 1 => fun h a0 x1 x2 x3 => if x3 ≤ x2 then (some ((), h)) else (uI h a0 x2 x1 fun h1 => bn (x2 + (1 : Int32)) fun v2 => f_Arr_fill_53178_5 N  n h1 a0 x1 v2 x3)
def f_Arr_fill_53178 (N : Nat) (h : hS) (a0 : Option Nat) (x1 : Int32) : Option (Unit × hS) := lnA h 50 a0 fun v1 => f_Arr_fill_53178_5 N  N h a0 x1 (0 : Int32) v1
def f_K_lookAlong_92 (N : Nat)  (h : hS)  : Option (Unit × hS) := some ((), h)
def f_K_lookAlong_79 (N : Nat) (rc12 : hS → Nat → Int32 → Option (Unit × hS)) (h : hS) (th : Nat) (x2 : Int32) : Option (Unit × hS) := gR h (some th) 12 9 fun v1 => cv h v1 11 (fun a => f_Walk_goOn N h a ) fun _ h3 => bn (x2 + (1 : Int32)) fun v4 => rc12 h3 th v4
def f_K_lookAlong_56 (N : Nat) (rc12 : hS → Nat → Int32 → Option (Unit × hS)) (h : hS) (th : Nat) (x2 : Int32) : Option (Unit × hS) := gR h (some th) 12 12 fun v1 => aI h 50 v1 x2 fun v2 => uI h v1 x2 (v2 + (1 : Int32)) fun h3 => gR h3 (some th) 12 11 fun v4 => gR h3 (some th) 12 9 fun v5 => gJ h3 v5 11 4 fun v6 => uJ h3 v4 x2 v6 fun h7 => f_K_lookAlong_79 N rc12  h7 th x2
def f_K_lookAlong_12 (N : Nat)  : Nat → hS → Nat → Int32 → Option (Unit × hS)
  | 0 => fun _ _ _ => none
  | n + 1 => fun h th x2 => gR h (some th) 12 12 fun v1 => lnA h 50 v1 fun v2 => if v2 ≤ x2 then (f_K_lookAlong_92 N   h ) else (gR h (some th) 12 11 fun v3 => lnA h 51 v3 fun v4 => if v4 ≤ x2 then (f_K_lookAlong_92 N   h ) else (gR h (some th) 12 12 fun v5 => aI h 50 v5 x2 fun v6 => if v6 = (0 : Int32) then (f_K_lookAlong_56 N (f_K_lookAlong_12 N  n)  h th x2) else (gR h (some th) 12 11 fun v7 => aJ h v7 x2 fun v8 => gR h (some th) 12 9 fun v9 => gJ h v9 11 4 fun v10 => if (lg_cmp v8 v10) = (0 : Int32) then (f_K_lookAlong_79 N (f_K_lookAlong_12 N  n)  h th x2) else (f_K_lookAlong_56 N (f_K_lookAlong_12 N  n)  h th x2))))
def f_K_lookAlong (N : Nat) (h : hS) (th : Nat) (a1 : Option Nat) : Option (Unit × hS) := gR h (some th) 12 9 fun v1 => cv h v1 11 (fun a => f_Walk_startAt N h a a1 (-20 : Int32)) fun _ h3 => f_K_lookAlong_12 N  N h3 th (0 : Int32)
def f_K_look_169 (N : Nat)  (h : hS) (y0 : Int32) : Option ((Int32 ⊕ Nat) × hS) := some ((Sum.inl y0), h)
def f_K_look_127 (N : Nat) (rc93 : hS → Nat → Int32 → Int32 → Int32 → Option ((Int32 ⊕ Nat) × hS)) (h : hS) (th : Nat) (x2 : Int32) (x5 : Int32) (y0 : Int32) : Option ((Int32 ⊕ Nat) × hS) := bn (x5 + (1 : Int32)) fun v1 => rc93 h th x2 y0 v1
def f_K_look_93 (N : Nat)  : Nat → hS → Nat → Int32 → Int32 → Int32 → Option ((Int32 ⊕ Nat) × hS)
  | 0 => fun _ _ _ _ _ => none
  | n + 1 => fun h th x2 x4 x5 => gR h (some th) 12 12 fun v1 => lnA h 50 v1 fun v2 => if v2 ≤ x5 then (if x2 = (1 : Int32) then (gR h (some th) 12 12 fun v5 => aI h 50 v5 x4 fun v6 => some ((Sum.inl v6), h)) else (gR h (some th) 12 12 fun v3 => aI h 50 v3 x4 fun v4 => if v4 = (0 : Int32) then (f_K_look_169 N   h (-10000000 : Int32)) else (f_K_look_169 N   h (x4 - (20 : Int32))))) else (gR h (some th) 12 12 fun v7 => aI h 50 v7 x5 fun v8 => gR h (some th) 12 12 fun v9 => aI h 50 v9 x4 fun v10 => if v8 ≤ v10 then (f_K_look_127 N (f_K_look_93 N  n)  h th x2 x5 x4) else (f_K_look_127 N (f_K_look_93 N  n)  h th x2 x5 x5))
def f_K_look_81 (N : Nat) (rc32 : hS → Nat → Int32 → Int32 → Option Nat → Int32 → Option ((Int32 ⊕ Nat) × hS)) (h : hS) (th : Nat) (x1 : Int32) (x2 : Int32) (a3 : Option Nat) (x4 : Int32) : Option ((Int32 ⊕ Nat) × hS) := bn (x4 + (1 : Int32)) fun v1 => rc32 h th x1 x2 a3 v1
def f_K_look_50 (N : Nat) (rc32 : hS → Nat → Int32 → Int32 → Option Nat → Int32 → Option ((Int32 ⊕ Nat) × hS)) (h : hS) (th : Nat) (x1 : Int32) (x2 : Int32) (a3 : Option Nat) (x4 : Int32) (y0 : Int32) : Option ((Int32 ⊕ Nat) × hS) := if y0 = (0 : Int32) then (f_K_look_81 N rc32  h th x1 x2 a3 x4) else (gR h (some th) 12 16 fun v1 => gR h (some th) 12 4 fun v2 => gR h v2 1 0 fun v3 => cv h v1 7 (fun a => f_State_holdsNotes N h a v3) fun v4 h5 => if v4 = (0 : Int32) then (f_K_look_81 N rc32  h5 th x1 x2 a3 x4) else (gR h5 (some th) 12 4 fun v6 => gR h5 v6 1 0 fun v7 => cv h5 (some th) 12 (fun a => f_K_lookAlong N h5 a v7) fun _ h9 => f_K_look_81 N rc32  h9 th x1 x2 a3 x4))
def f_K_look_32 (N : Nat)  : Nat → hS → Nat → Int32 → Int32 → Option Nat → Int32 → Option ((Int32 ⊕ Nat) × hS)
  | 0 => fun _ _ _ _ _ _ => none
  | n + 1 => fun h th x1 x2 a3 x4 => if (40 : Int32) < x4 then (f_K_look_93 N  N h th x2 (0 : Int32) (1 : Int32)) else (gR h (some th) 12 4 fun v1 => cv h v1 1 (fun a => f_Bench_goThrough N h a a3 x1 x4) fun v2 h3 => f_K_look_50 N (f_K_look_32 N  n)  h3 th x1 x2 a3 x4 v2)
def f_K_look_29 (N : Nat)  (h : hS) (th : Nat) (x1 : Int32) (x2 : Int32) (a3 : Option Nat) : Option ((Int32 ⊕ Nat) × hS) := f_K_look_32 N  N h th x1 x2 a3 (0 : Int32)
def f_K_look_11 (N : Nat)  (h : hS) (th : Nat) (x1 : Int32) (x2 : Int32) (y0 : Option Nat) : Option ((Int32 ⊕ Nat) × hS) := gR h (some th) 12 12 fun v1 => cl (f_Arr_fill_53178 N h v1 (0 : Int32)) fun _ h3 => gR h3 (some th) 12 4 fun v4 => cv h3 v4 1 (fun a => f_Bench_standAhead N h3 a y0 x1) fun _ h6 => f_K_look_29 N   h6 th x1 x2 y0
def f_K_look_6 (N : Nat)  (h : hS) (th : Nat) (x1 : Int32) (x2 : Int32) : Option ((Int32 ⊕ Nat) × hS) := cvT h (some th) 12 (fun a => f_K_chainOf N h a (0 : Int32)) fun v1 h2 => f_K_look_11 N   h2 th x1 x2 v1
def f_K_look (N : Nat) (h : hS) (th : Nat) (x1 : Int32) (x2 : Int32) : Option ((Int32 ⊕ Nat) × hS) := cvT h (some th) 12 (fun a => f_K_needWeighted N h a x1 x2) fun _ h2 => f_K_look_6 N   h2 th x1 x2
def f_K_forget (N : Nat) (h : hS) (th : Nat) : Option (Unit × hS) := gR h (some th) 12 16 fun v1 => pI h v1 7 6 (0 : Int32) fun h2 => some ((), h2)
def f_K_draw_38 (N : Nat)  (h : hS) (y0 : Int32) : Option (Int32 × hS) := some (y0, h)
def f_K_draw (N : Nat) (h : hS) (th : Nat) (x1 : Int32) : Option (Int32 × hS) := gI h (some th) 12 8 fun v1 => pI h (some th) 12 8 ((v1 * (1103515245 : Int32)) + (12345 : Int32)) fun h2 => if (1 : Int32) ≤ x1 then (gI h2 (some th) 12 8 fun v3 => dv x1 (f_K_draw_38 N   h2 ((((v3.toUInt32 >>> ((16 : Int32).toUInt32 &&& Int32.toUInt32 31)).toInt32) &&& (32767 : Int32)) - (((v3.toUInt32 >>> ((16 : Int32).toUInt32 &&& Int32.toUInt32 31)).toInt32) &&& (32767 : Int32)) / x1 * x1))) else (f_K_draw_38 N   h2 (0 : Int32))
def f_K_liveYear_121 (N : Nat)  (h : hS)  : Option (Unit × hS) := some ((), h)
def f_K_liveYear_110 (N : Nat)  (h : hS) (th : Nat) (x2 : Int32) (x3 : Int32) (x4 : Int32) : Option (Unit × hS) := gR h (some th) 12 4 fun v1 => cv h v1 1 (fun a => f_Bench_applyIfNotTooMuch N h a x2 x3 x4) fun _ h3 => f_K_liveYear_121 N   h3 
def f_K_liveYear (N : Nat) (h : hS) (th : Nat) : Option (Unit × hS) := cv h (some th) 12 (fun a => f_K_draw N h a (8 : Int32)) fun v1 h2 => if (3 : Int32) < v1 then (if v1 = (4 : Int32) then (cv h2 (some th) 12 (fun a => f_K_draw N h2 a (21 : Int32)) fun v9 h10 => bn ((v9 - (10 : Int32))) fun v11 => f_K_liveYear_110 N   h10 th (3 : Int32) v11 (0 : Int32)) else (if v1 = (5 : Int32) then (cv h2 (some th) 12 (fun a => f_K_draw N h2 a (6 : Int32)) fun v5 h6 => cv h6 (some th) 12 (fun a => f_K_draw N h6 a (6 : Int32)) fun v7 h8 => f_K_liveYear_110 N   h8 th (4 : Int32) v5 v7) else (if v1 = (6 : Int32) then (f_K_liveYear_110 N   h2 th (5 : Int32) (0 : Int32) (0 : Int32)) else (cv h2 (some th) 12 (fun a => f_K_draw N h2 a (10 : Int32)) fun v3 h4 => f_K_liveYear_110 N   h4 th (7 : Int32) v3 (0 : Int32))))) else (bn ((jmn v1 (2 : Int32))) fun v12 => cv h2 (some th) 12 (fun a => f_K_draw N h2 a (101 : Int32)) fun v13 h14 => bn ((v13 - (50 : Int32))) fun v15 => cv h14 (some th) 12 (fun a => f_K_draw N h14 a (10 : Int32)) fun v16 h17 => f_K_liveYear_110 N   h17 th v12 v15 v16)
def f_K_years_116 (N : Nat)  (h : hS) (y0 : Int64) : Option ((Int64 ⊕ Nat) × hS) := some ((Sum.inl y0), h)
def f_K_years_65 (N : Nat) (rc55 : hS → Nat → Int32 → Int32 → Int32 → Option ((Int64 ⊕ Nat) × hS)) (h : hS) (th : Nat) (x2 : Int32) (x3 : Int32) (x4 : Int32) : Option ((Int64 ⊕ Nat) × hS) := bn (x4 + (1 : Int32)) fun v1 => rc55 h th x2 x3 v1
def f_K_years_55 (N : Nat)  : Nat → hS → Nat → Int32 → Int32 → Int32 → Option ((Int64 ⊕ Nat) × hS)
  | 0 => fun _ _ _ _ _ => none
  | n + 1 => fun h th x2 x3 x4 => if x2 ≤ x4 then (if x3 = (0 : Int32) then (gR h (some th) 12 4 fun v8 => gR h v8 1 0 fun v9 => gJ h v9 3 4 fun v10 => some ((Sum.inl v10), h)) else (if x3 = (1 : Int32) then (gR h (some th) 12 4 fun v5 => gR h v5 1 0 fun v6 => gI h v6 3 0 fun v7 => f_K_years_116 N   h v7.toInt64) else (gR h (some th) 12 4 fun v1 => gR h v1 1 0 fun v2 => cv h v2 3 (fun a => f_Curve_valueAt N h a (0 : Int32)) fun v3 h4 => f_K_years_116 N   h4 v3))) else (cv h (some th) 12 (fun a => f_K_liveYear N h a ) fun _ h12 => f_K_years_65 N (f_K_years_55 N  n)  h12 th x2 x3 x4)
def f_K_years_52 (N : Nat)  (h : hS) (th : Nat) (x2 : Int32) (x3 : Int32) : Option ((Int64 ⊕ Nat) × hS) := f_K_years_55 N  N h th x2 x3 (0 : Int32)
def f_K_years_49 (N : Nat)  (h : hS) (th : Nat) (x2 : Int32) (x3 : Int32) (y0 : Option Nat) (y1 : Option Nat) : Option ((Int64 ⊕ Nat) × hS) := cv h y0 1 (fun a => f_Bench_startWith N h a y1) fun _ h2 => f_K_years_52 N   h2 th x2 x3
def f_K_years_35 (N : Nat)  (h : hS) (th : Nat) (x1 : Int32) (x2 : Int32) (x3 : Int32) : Option ((Int64 ⊕ Nat) × hS) := pI h (some th) 12 8 x1 fun h1 => gR h1 (some th) 12 4 fun v2 => cvT h1 (some th) 12 (fun a => f_K_curveOf N h1 a (0 : Int32)) fun v3 h4 => f_K_years_49 N   h4 th x2 x3 v2 v3
def f_K_years_32 (N : Nat)  (h : hS) (th : Nat) (x1 : Int32) (x2 : Int32) (x3 : Int32) (y0 : Int32) : Option ((Int64 ⊕ Nat) × hS) := clT (f_K_needFit N h y0) fun _ h2 => f_K_years_35 N   h2 th x1 x2 x3
def f_K_years_31 (N : Nat)  (h : hS) (th : Nat) (x1 : Int32) (x2 : Int32) (x3 : Int32) : Option ((Int64 ⊕ Nat) × hS) := f_K_years_32 N   h th x1 x2 x3 (0 : Int32)
def f_K_years_17 (N : Nat)  (h : hS) (th : Nat) (x1 : Int32) (x2 : Int32) (x3 : Int32) : Option ((Int64 ⊕ Nat) × hS) := if x2 < (0 : Int32) then (f_K_years_31 N   h th x1 x2 x3) else (if (20 : Int32) < x2 then (f_K_years_31 N   h th x1 x2 x3) else (f_K_years_32 N   h th x1 x2 x3 (1 : Int32)))
def f_K_years_14 (N : Nat)  (h : hS) (th : Nat) (x1 : Int32) (x2 : Int32) (x3 : Int32) (y0 : Int32) : Option ((Int64 ⊕ Nat) × hS) := clT (f_K_needSuch N h y0) fun _ h2 => f_K_years_17 N   h2 th x1 x2 x3
def f_K_years_13 (N : Nat)  (h : hS) (th : Nat) (x1 : Int32) (x2 : Int32) (x3 : Int32) : Option ((Int64 ⊕ Nat) × hS) := f_K_years_14 N   h th x1 x2 x3 (0 : Int32)
def f_K_years (N : Nat) (h : hS) (th : Nat) (x1 : Int32) (x2 : Int32) (x3 : Int32) : Option ((Int64 ⊕ Nat) × hS) := if x3 < (0 : Int32) then (f_K_years_13 N   h th x1 x2 x3) else (if (2 : Int32) < x3 then (f_K_years_13 N   h th x1 x2 x3) else (f_K_years_14 N   h th x1 x2 x3 (1 : Int32)))
def f_K_image_29 (N : Nat)  (h : hS)  : Option (Unit × hS) := some ((), h)
def f_K_image_18 (N : Nat)  (h : hS) (th : Nat) : Option (Unit × hS) := gR h (some th) 12 17 fun v1 => gR h (some th) 12 16 fun v2 => cv h v1 7 (fun a => f_State_take N h a v2) fun _ h4 => f_K_image_29 N   h4 
def f_K_image_15 (N : Nat)  (h : hS) (th : Nat) (y0 : Option Nat) (y1 : Option Nat) : Option (Unit × hS) := pR h y0 12 17 y1 fun h1 => f_K_image_18 N   h1 th
def f_K_image_11 (N : Nat)  (h : hS) (th : Nat) (y0 : Option Nat) (y1 : Option Nat) : Option (Unit × hS) := nn y1 fun q3 => cl (f_State_init N h q3 ) fun _ h2 => f_K_image_15 N   h2 th y0 (some q3)
def f_K_image (N : Nat) (h : hS) (th : Nat) : Option (Unit × hS) := gR h (some th) 12 17 fun v1 => if v1 = none then (nwO h 7 8 fun q2 h3 => f_K_image_11 N   h3 th (some th) (some q2)) else (f_K_image_18 N   h th)
def f_K_restore_32 (N : Nat) (rc22 : hS → Nat → Int32 → Option (Int32 × hS)) (h : hS) (th : Nat) (x1 : Int32) : Option (Int32 × hS) := bn (x1 + (1 : Int32)) fun v1 => rc22 h th v1
def f_K_restore_22 (N : Nat)  : Nat → hS → Nat → Int32 → Option (Int32 × hS)
  | 0 => fun _ _ _ => none
  | n + 1 => fun h th x1 => if (4 : Int32) ≤ x1 then (bz (1 : Int32) (some ((1 : Int32), h))) else (cv h (some th) 12 (fun a => f_K_makeCurve N h a x1) fun _ h2 => f_K_restore_32 N (f_K_restore_22 N  n)  h2 th x1)
def f_K_restore_20 (N : Nat)  (h : hS) (th : Nat) : Option (Int32 × hS) := f_K_restore_22 N  N h th (0 : Int32)
def f_K_restore (N : Nat) (h : hS) (th : Nat) : Option (Int32 × hS) := gR h (some th) 12 17 fun v1 => if v1 = none then (bz (0 : Int32) (some ((0 : Int32), h))) else (gR h (some th) 12 16 fun v2 => gR h (some th) 12 17 fun v3 => cv h v2 7 (fun a => f_State_take N h a v3) fun _ h5 => f_K_restore_20 N   h5 th)
theorem mo_K_takes_30 (N : Nat)  : ∀  (h : hS) (th : Nat), Mo h (f_K_takes_30 N   h th) := by
  intro h th
  unfold f_K_takes_30
  refine Mo_cv (fun a => (Sh.mo (sh_K_refuseAct N h a ))) (fun v1 h2 => ?_)
  exact Mo_some
theorem mo_K_takes_56 (N : Nat)  : ∀  (h : hS) (y0 : Int32), Mo h (f_K_takes_56 N   h y0) := by
  intro h y0
  unfold f_K_takes_56
  exact Mo_some
theorem mo_K_takes_43 (N : Nat)  : ∀  (h : hS) (th : Nat) (x1 : Int32) (x2 : Int32), Mo h (f_K_takes_43 N   h th x1 x2) := by
  intro h th x1 x2
  unfold f_K_takes_43
  refine Mo_gR (fun v1 => ?_)
  refine Mo_cv (fun a => (Sh.mo (sh_Chain_remove N h a x2))) (fun v2 h3 => ?_)
  refine Mo_cv (fun a => (mo_K_becomeUnlessTooMuch N h3 a x1)) (fun v4 h5 => ?_)
  exact mo_K_takes_56 N   h5 v4
theorem mo_K_takes_17 (N : Nat)  : ∀  (h : hS) (th : Nat) (x1 : Int32) (x2 : Int32) (y0 : Option Nat), Mo h (f_K_takes_17 N   h th x1 x2 y0) := by
  intro h th x1 x2 y0
  unfold f_K_takes_17
  refine Mo_ite ?_ ?_
  · exact mo_K_takes_30 N   h th
  · refine Mo_gI (fun v1 => ?_)
    refine Mo_ite ?_ ?_
    · refine Mo_gR (fun v2 => ?_)
      refine Mo_cv (fun a => (mo_Chain_take N h a y0)) (fun v3 h4 => ?_)
      exact mo_K_takes_43 N   h4 th x1 x2
    · exact mo_K_takes_30 N   h th
theorem mo_K_takes (N : Nat) (h : hS) (th : Nat) (x1 : Int32) (x2 : Int32) : Mo h (f_K_takes N h th x1 x2) := by
  unfold f_K_takes
  refine Mo_cl (Sh.mo (sh_K_isCost N h x1)) (fun v1 h2 => ?_)
  refine Mo_ite ?_ ?_
  · refine Mo_cv (fun a => (Sh.mo (sh_K_refuseAct N h2 a ))) (fun v5 h6 => ?_)
    exact Mo_some
  · refine Mo_cv (fun a => (Mo_fN (mo_K_chainOf N h2 a x1))) (fun v3 h4 => ?_)
    exact mo_K_takes_17 N   h4 th x1 x2 v3
theorem mo_K_copy_31 (N : Nat)  : ∀  (h : hS) (th : Nat), Mo h (f_K_copy_31 N   h th) := by
  intro h th
  unfold f_K_copy_31
  refine Mo_cv (fun a => (Sh.mo (sh_K_refuseAct N h a ))) (fun v1 h2 => ?_)
  exact Mo_some
theorem mo_K_copy_65 (N : Nat)  : ∀  (h : hS) (y0 : Int32), Mo h (f_K_copy_65 N   h y0) := by
  intro h y0
  unfold f_K_copy_65
  exact Mo_some
theorem mo_K_copy_60 (N : Nat)  : ∀  (h : hS) (th : Nat) (x1 : Int32), Mo h (f_K_copy_60 N   h th x1) := by
  intro h th x1
  unfold f_K_copy_60
  refine Mo_cv (fun a => (mo_K_become N h a x1)) (fun v1 h2 => ?_)
  exact mo_K_copy_65 N   h2 v1
theorem mo_K_copy_57 (N : Nat)  : ∀  (h : hS) (th : Nat) (x1 : Int32) (y0 : Option Nat) (y1 : Option Nat), Mo h (f_K_copy_57 N   h th x1 y0 y1) := by
  intro h th x1 y0 y1
  unfold f_K_copy_57
  refine Mo_cv (fun a => (mo_Bench_startWith N h a y1)) (fun v1 h2 => ?_)
  exact mo_K_copy_60 N   h2 th x1
theorem mo_K_copy_48 (N : Nat)  : ∀  (h : hS) (th : Nat) (x1 : Int32) (x2 : Int32), Mo h (f_K_copy_48 N   h th x1 x2) := by
  intro h th x1 x2
  unfold f_K_copy_48
  refine Mo_gR (fun v1 => ?_)
  refine Mo_cv (fun a => (Mo_fN (mo_K_curveOf N h a x2))) (fun v2 h3 => ?_)
  exact mo_K_copy_57 N   h3 th x1 v1 v2
theorem mo_K_copy_45 (N : Nat)  : ∀  (h : hS) (th : Nat) (x1 : Int32) (x2 : Int32) (y0 : Option Nat) (y1 : Option Nat), Mo h (f_K_copy_45 N   h th x1 x2 y0 y1) := by
  intro h th x1 x2 y0 y1
  unfold f_K_copy_45
  refine Mo_cv (fun a => (mo_Chain_take N h a y1)) (fun v1 h2 => ?_)
  exact mo_K_copy_48 N   h2 th x1 x2
theorem mo_K_copy_24 (N : Nat)  : ∀  (h : hS) (th : Nat) (x1 : Int32) (x2 : Int32) (y0 : Option Nat), Mo h (f_K_copy_24 N   h th x1 x2 y0) := by
  intro h th x1 x2 y0
  unfold f_K_copy_24
  refine Mo_cv (fun a => (Sh.mo (sh_Chain_hasOnTop N h a x1))) (fun v1 h2 => ?_)
  refine Mo_ite ?_ ?_
  · refine Mo_gR (fun v3 => ?_)
    refine Mo_cv (fun a => (Mo_fN (mo_K_chainOf N h2 a x2))) (fun v4 h5 => ?_)
    exact mo_K_copy_45 N   h5 th x1 x2 v3 v4
  · exact mo_K_copy_31 N   h2 th
theorem mo_K_copy (N : Nat) (h : hS) (th : Nat) (x1 : Int32) (x2 : Int32) : Mo h (f_K_copy N h th x1 x2) := by
  unfold f_K_copy
  refine Mo_cl (Sh.mo (sh_K_isCost N h x1)) (fun v1 h2 => ?_)
  refine Mo_ite ?_ ?_
  · exact mo_K_copy_31 N   h2 th
  · refine Mo_cl (Sh.mo (sh_K_isCost N h2 x2)) (fun v3 h4 => ?_)
    refine Mo_ite ?_ ?_
    · exact mo_K_copy_31 N   h4 th
    · refine Mo_ite ?_ ?_
      · exact mo_K_copy_31 N   h4 th
      · refine Mo_cv (fun a => (Mo_fN (mo_K_chainOf N h4 a x2))) (fun v5 h6 => ?_)
        exact mo_K_copy_24 N   h6 th x1 x2 v5
theorem mo_K_makeCurve_28 (N : Nat)  : ∀  (h : hS) , Mo h (f_K_makeCurve_28 N   h ) := by
  intro h 
  unfold f_K_makeCurve_28
  exact Mo_some
theorem mo_K_makeCurve_18 (N : Nat)  : ∀  (h : hS) (th : Nat) (y0 : Option Nat), Mo h (f_K_makeCurve_18 N   h th y0) := by
  intro h th y0
  unfold f_K_makeCurve_18
  refine Mo_gR (fun v1 => ?_)
  refine Mo_gR (fun v2 => ?_)
  refine Mo_cv (fun a => (mo_Curve_take N h a v2)) (fun v3 h4 => ?_)
  exact mo_K_makeCurve_28 N   h4 
theorem mo_K_makeCurve_12 (N : Nat)  : ∀  (h : hS) (th : Nat) (x1 : Int32) (y0 : Int32), Mo h (f_K_makeCurve_12 N   h th x1 y0) := by
  intro h th x1 y0
  unfold f_K_makeCurve_12
  refine Mo_cv (fun a => (Mo_fN (mo_K_curveOf N h a x1))) (fun v1 h2 => ?_)
  exact mo_K_makeCurve_18 N   h2 th v1
theorem mo_K_makeCurve_9 (N : Nat)  : ∀  (h : hS) (th : Nat) (x1 : Int32) (y0 : Option Nat) (y1 : Option Nat), Mo h (f_K_makeCurve_9 N   h th x1 y0 y1) := by
  intro h th x1 y0 y1
  unfold f_K_makeCurve_9
  refine Mo_cv (fun a => (mo_Bench_build N h a y1)) (fun v1 h2 => ?_)
  exact mo_K_makeCurve_12 N   h2 th x1 v1
theorem mo_K_makeCurve (N : Nat) (h : hS) (th : Nat) (x1 : Int32) : Mo h (f_K_makeCurve N h th x1) := by
  unfold f_K_makeCurve
  refine Mo_gR (fun v1 => ?_)
  refine Mo_cv (fun a => (Mo_fN (mo_K_chainOf N h a x1))) (fun v2 h3 => ?_)
  exact mo_K_makeCurve_9 N   h3 th x1 v1 v2
theorem mo_K_undo_20 (N : Nat)  : ∀  (h : hS) (th : Nat), Mo h (f_K_undo_20 N   h th) := by
  intro h th
  unfold f_K_undo_20
  refine Mo_gR (fun v1 => ?_)
  refine Mo_gI (fun v2 => ?_)
  exact Mo_some
theorem mo_K_undo_7 (N : Nat)  : ∀  (h : hS) (th : Nat) (y0 : Int32), Mo h (f_K_undo_7 N   h th y0) := by
  intro h th y0
  unfold f_K_undo_7
  refine Mo_ite ?_ ?_
  · exact Mo_some
  · refine Mo_cv (fun a => (mo_K_makeCurve N h a y0)) (fun v1 h2 => ?_)
    exact mo_K_undo_20 N   h2 th
theorem mo_K_undo (N : Nat) (h : hS) (th : Nat) : Mo h (f_K_undo N h th) := by
  unfold f_K_undo
  refine Mo_gR (fun v1 => ?_)
  refine Mo_cv (fun a => (mo_State_takeBack N h a )) (fun v2 h3 => ?_)
  exact mo_K_undo_7 N   h3 th v2
theorem sh_K_note_19 (N : Nat)  : ∀  (h : hS) (th : Nat), Sh h (f_K_note_19 N   h th) := by
  intro h th
  unfold f_K_note_19
  refine Sh_gR (fun v1 => ?_)
  refine Sh_gR (fun v2 => ?_)
  refine Sh_aI (fun v3 => ?_)
  refine Sh_uI (fun h4 => ?_)
  exact Sh_some
theorem sh_K_note (N : Nat) (h : hS) (th : Nat) (x1 : Int32) (x2 : Int64) : Sh h (f_K_note N h th x1 x2) := by
  unfold f_K_note
  refine Sh_gR (fun v1 => ?_)
  refine Sh_gI (fun v2 => ?_)
  refine Sh_ite ?_ ?_
  · exact sh_K_note_19 N   h th
  · refine Sh_cl (sh_K_isX N h x1) (fun v3 h4 => ?_)
    refine Sh_ite ?_ ?_
    · exact sh_K_note_19 N   h4 th
    · refine Sh_gR (fun v5 => ?_)
      refine Sh_gR (fun v6 => ?_)
      refine Sh_gR (fun v7 => ?_)
      refine Sh_gI (fun v8 => ?_)
      refine Sh_uI (fun h9 => ?_)
      refine Sh_gR (fun v10 => ?_)
      refine Sh_gR (fun v11 => ?_)
      refine Sh_gR (fun v12 => ?_)
      refine Sh_gI (fun v13 => ?_)
      refine Sh_uJ (fun h14 => ?_)
      refine Sh_gR (fun v15 => ?_)
      refine Sh_gI (fun v16 => ?_)
      refine Sh_pI (fun h17 => ?_)
      refine Sh_gR (fun v18 => ?_)
      refine Sh_gI (fun v19 => ?_)
      exact Sh_some
theorem mo_K_needWeighted_30 (N : Nat)  : ∀  (h : hS) , Mo h (f_K_needWeighted_30 N   h ) := by
  intro h 
  unfold f_K_needWeighted_30
  exact Mo_some
theorem mo_K_needWeighted_27 (N : Nat)  : ∀  (h : hS) (y0 : Int32), Mo h (f_K_needWeighted_27 N   h y0) := by
  intro h y0
  unfold f_K_needWeighted_27
  refine Mo_clT (mo_K_needSuch N h y0) (fun v1 h2 => ?_)
  exact mo_K_needWeighted_30 N   h2 
theorem mo_K_needWeighted_26 (N : Nat)  : ∀  (h : hS) , Mo h (f_K_needWeighted_26 N   h ) := by
  intro h 
  unfold f_K_needWeighted_26
  exact mo_K_needWeighted_27 N   h (0 : Int32)
theorem mo_K_needWeighted_22 (N : Nat)  : ∀  (h : hS) , Mo h (f_K_needWeighted_22 N   h ) := by
  intro h 
  unfold f_K_needWeighted_22
  exact mo_K_needWeighted_27 N   h (1 : Int32)
theorem mo_K_needWeighted_6 (N : Nat)  : ∀  (h : hS) (x2 : Int32) (y0 : Option Nat), Mo h (f_K_needWeighted_6 N   h x2 y0) := by
  intro h x2 y0
  unfold f_K_needWeighted_6
  refine Mo_gI (fun v1 => ?_)
  refine Mo_ite ?_ ?_
  · exact mo_K_needWeighted_26 N   h 
  · refine Mo_ite ?_ ?_
    · exact mo_K_needWeighted_22 N   h 
    · refine Mo_ite ?_ ?_
      · exact mo_K_needWeighted_22 N   h 
      · exact mo_K_needWeighted_26 N   h 
theorem mo_K_needWeighted (N : Nat) (h : hS) (th : Nat) (x1 : Int32) (x2 : Int32) : Mo h (f_K_needWeighted N h th x1 x2) := by
  unfold f_K_needWeighted
  refine Mo_cvT (fun a => (mo_K_stepOf N h a (0 : Int32) x1)) (fun v1 h2 => ?_)
  exact mo_K_needWeighted_6 N   h2 x2 v1
theorem mo_K_fits_102 (N : Nat)  : ∀  (h : hS) (y0 : Int32), Mo h (f_K_fits_102 N   h y0) := by
  intro h y0
  unfold f_K_fits_102
  exact Mo_some
theorem mo_K_fits_85 (N : Nat) {rc30 : hS → Nat → Int32 → Int32 → Option Nat → Int32 → Int32 → Int32 → Option ((Int32 ⊕ Nat) × hS)} (hsh30 : ∀ (h : hS) (th : Nat) (x1 : Int32) (x2 : Int32) (a3 : Option Nat) (x4 : Int32) (x5 : Int32) (x6 : Int32), Mo h (rc30 h th x1 x2 a3 x4 x5 x6)) : ∀  (h : hS) (th : Nat) (x1 : Int32) (x2 : Int32) (a3 : Option Nat) (x4 : Int32) (x5 : Int32) (x6 : Int32), Mo h (f_K_fits_85 N rc30  h th x1 x2 a3 x4 x5 x6) := by
  intro h th x1 x2 a3 x4 x5 x6
  unfold f_K_fits_85
  refine Mo_bn (fun v1 => ?_)
  exact hsh30 h th x1 x2 a3 x4 x5 v1
theorem mo_K_fits_80 (N : Nat) {rc30 : hS → Nat → Int32 → Int32 → Option Nat → Int32 → Int32 → Int32 → Option ((Int32 ⊕ Nat) × hS)} (hsh30 : ∀ (h : hS) (th : Nat) (x1 : Int32) (x2 : Int32) (a3 : Option Nat) (x4 : Int32) (x5 : Int32) (x6 : Int32), Mo h (rc30 h th x1 x2 a3 x4 x5 x6)) : ∀  (h : hS) (th : Nat) (x1 : Int32) (x2 : Int32) (a3 : Option Nat) (x4 : Int32) (x6 : Int32) (y0 : Int32), Mo h (f_K_fits_80 N rc30  h th x1 x2 a3 x4 x6 y0) := by
  intro h th x1 x2 a3 x4 x6 y0
  unfold f_K_fits_80
  refine Mo_bn (fun v1 => ?_)
  exact mo_K_fits_85 N hsh30  h th x1 x2 a3 v1 y0 x6
theorem mo_K_fits_48 (N : Nat) {rc30 : hS → Nat → Int32 → Int32 → Option Nat → Int32 → Int32 → Int32 → Option ((Int32 ⊕ Nat) × hS)} (hsh30 : ∀ (h : hS) (th : Nat) (x1 : Int32) (x2 : Int32) (a3 : Option Nat) (x4 : Int32) (x5 : Int32) (x6 : Int32), Mo h (rc30 h th x1 x2 a3 x4 x5 x6)) : ∀  (h : hS) (th : Nat) (x1 : Int32) (x2 : Int32) (a3 : Option Nat) (x4 : Int32) (x5 : Int32) (x6 : Int32) (y0 : Int32), Mo h (f_K_fits_48 N rc30  h th x1 x2 a3 x4 x5 x6 y0) := by
  intro h th x1 x2 a3 x4 x5 x6 y0
  unfold f_K_fits_48
  refine Mo_ite ?_ ?_
  · exact mo_K_fits_85 N hsh30  h th x1 x2 a3 x4 x5 x6
  · refine Mo_gR (fun v1 => ?_)
    refine Mo_gR (fun v2 => ?_)
    refine Mo_gR (fun v3 => ?_)
    refine Mo_cv (fun a => (Sh.mo (sh_State_holdsNotes N h a v3))) (fun v4 h5 => ?_)
    refine Mo_ite ?_ ?_
    · exact mo_K_fits_85 N hsh30  h5 th x1 x2 a3 x4 x5 x6
    · refine Mo_ite ?_ ?_
      · exact mo_K_fits_80 N hsh30  h5 th x1 x2 a3 x4 x6 x6
      · exact mo_K_fits_80 N hsh30  h5 th x1 x2 a3 x4 x6 x5
theorem mo_K_fits_30 (N : Nat)  : ∀ (n : Nat) (h : hS) (th : Nat) (x1 : Int32) (x2 : Int32) (a3 : Option Nat) (x4 : Int32) (x5 : Int32) (x6 : Int32), Mo h (f_K_fits_30 N  n h th x1 x2 a3 x4 x5 x6) := by
  intro n
  induction n with
  | zero =>
    intro h th x1 x2 a3 x4 x5 x6
    exact Mo_none
  | succ n ih =>
    intro h th x1 x2 a3 x4 x5 x6
    unfold f_K_fits_30
    refine Mo_ite ?_ ?_
    · refine Mo_ite ?_ ?_
      · exact mo_K_fits_102 N   h x4
      · exact mo_K_fits_102 N   h x5
    · refine Mo_gR (fun v1 => ?_)
      refine Mo_cv (fun a => (mo_Bench_goThrough N h a a3 x1 x6)) (fun v2 h3 => ?_)
      exact mo_K_fits_48 N ih  h3 th x1 x2 a3 x4 x5 x6 v2
theorem mo_K_fits_27 (N : Nat)  : ∀  (h : hS) (th : Nat) (x1 : Int32) (x2 : Int32) (a3 : Option Nat) (x4 : Int32) (x5 : Int32), Mo h (f_K_fits_27 N   h th x1 x2 a3 x4 x5) := by
  intro h th x1 x2 a3 x4 x5
  unfold f_K_fits_27
  exact mo_K_fits_30 N  N h th x1 x2 a3 x4 x5 (0 : Int32)
theorem mo_K_fits_11 (N : Nat)  : ∀  (h : hS) (th : Nat) (x1 : Int32) (x2 : Int32) (y0 : Option Nat), Mo h (f_K_fits_11 N   h th x1 x2 y0) := by
  intro h th x1 x2 y0
  unfold f_K_fits_11
  refine Mo_gR (fun v1 => ?_)
  refine Mo_cv (fun a => (mo_Bench_standAhead N h a y0 x1)) (fun v2 h3 => ?_)
  exact mo_K_fits_27 N   h3 th x1 x2 y0 (0 : Int32) (-1 : Int32)
theorem mo_K_fits_6 (N : Nat)  : ∀  (h : hS) (th : Nat) (x1 : Int32) (x2 : Int32), Mo h (f_K_fits_6 N   h th x1 x2) := by
  intro h th x1 x2
  unfold f_K_fits_6
  refine Mo_cvT (fun a => (mo_K_chainOf N h a (0 : Int32))) (fun v1 h2 => ?_)
  exact mo_K_fits_11 N   h2 th x1 x2 v1
theorem mo_K_fits (N : Nat) (h : hS) (th : Nat) (x1 : Int32) (x2 : Int32) : Mo h (f_K_fits N h th x1 x2) := by
  unfold f_K_fits
  refine Mo_cvT (fun a => (mo_K_needWeighted N h a x1 x2)) (fun v1 h2 => ?_)
  exact mo_K_fits_6 N   h2 th x1 x2
theorem sh_Arr_fill_53178_5 (N : Nat)  : ∀ (n : Nat) (h : hS) (a0 : Option Nat) (x1 : Int32) (x2 : Int32) (x3 : Int32), Sh h (f_Arr_fill_53178_5 N  n h a0 x1 x2 x3) := by
  intro n
  induction n with
  | zero =>
    intro h a0 x1 x2 x3
    exact Sh_none
  | succ n ih =>
    intro h a0 x1 x2 x3
    unfold f_Arr_fill_53178_5
    refine Sh_ite ?_ ?_
    · exact Sh_some
    · refine Sh_uI (fun h1 => ?_)
      refine Sh_bn (fun v2 => ?_)
      exact ih h1 a0 x1 v2 x3
theorem sh_Arr_fill_53178 (N : Nat) (h : hS) (a0 : Option Nat) (x1 : Int32) : Sh h (f_Arr_fill_53178 N h a0 x1) := by
  unfold f_Arr_fill_53178
  refine Sh_lnA (fun v1 => ?_)
  exact sh_Arr_fill_53178_5 N  N h a0 x1 (0 : Int32) v1
theorem sh_K_lookAlong_92 (N : Nat)  : ∀  (h : hS) , Sh h (f_K_lookAlong_92 N   h ) := by
  intro h 
  unfold f_K_lookAlong_92
  exact Sh_some
theorem sh_K_lookAlong_79 (N : Nat) {rc12 : hS → Nat → Int32 → Option (Unit × hS)} (hsh12 : ∀ (h : hS) (th : Nat) (x2 : Int32), Sh h (rc12 h th x2)) : ∀  (h : hS) (th : Nat) (x2 : Int32), Sh h (f_K_lookAlong_79 N rc12  h th x2) := by
  intro h th x2
  unfold f_K_lookAlong_79
  refine Sh_gR (fun v1 => ?_)
  refine Sh_cv (fun a => (sh_Walk_goOn N h a )) (fun v2 h3 => ?_)
  refine Sh_bn (fun v4 => ?_)
  exact hsh12 h3 th v4
theorem sh_K_lookAlong_56 (N : Nat) {rc12 : hS → Nat → Int32 → Option (Unit × hS)} (hsh12 : ∀ (h : hS) (th : Nat) (x2 : Int32), Sh h (rc12 h th x2)) : ∀  (h : hS) (th : Nat) (x2 : Int32), Sh h (f_K_lookAlong_56 N rc12  h th x2) := by
  intro h th x2
  unfold f_K_lookAlong_56
  refine Sh_gR (fun v1 => ?_)
  refine Sh_aI (fun v2 => ?_)
  refine Sh_uI (fun h3 => ?_)
  refine Sh_gR (fun v4 => ?_)
  refine Sh_gR (fun v5 => ?_)
  refine Sh_gJ (fun v6 => ?_)
  refine Sh_uJ (fun h7 => ?_)
  exact sh_K_lookAlong_79 N hsh12  h7 th x2
theorem sh_K_lookAlong_12 (N : Nat)  : ∀ (n : Nat) (h : hS) (th : Nat) (x2 : Int32), Sh h (f_K_lookAlong_12 N  n h th x2) := by
  intro n
  induction n with
  | zero =>
    intro h th x2
    exact Sh_none
  | succ n ih =>
    intro h th x2
    unfold f_K_lookAlong_12
    refine Sh_gR (fun v1 => ?_)
    refine Sh_lnA (fun v2 => ?_)
    refine Sh_ite ?_ ?_
    · exact sh_K_lookAlong_92 N   h 
    · refine Sh_gR (fun v3 => ?_)
      refine Sh_lnA (fun v4 => ?_)
      refine Sh_ite ?_ ?_
      · exact sh_K_lookAlong_92 N   h 
      · refine Sh_gR (fun v5 => ?_)
        refine Sh_aI (fun v6 => ?_)
        refine Sh_ite ?_ ?_
        · exact sh_K_lookAlong_56 N ih  h th x2
        · refine Sh_gR (fun v7 => ?_)
          refine Sh_aJ (kd := 0) (fun v8 => ?_)
          refine Sh_gR (fun v9 => ?_)
          refine Sh_gJ (fun v10 => ?_)
          refine Sh_ite ?_ ?_
          · exact sh_K_lookAlong_79 N ih  h th x2
          · exact sh_K_lookAlong_56 N ih  h th x2
theorem sh_K_lookAlong (N : Nat) (h : hS) (th : Nat) (a1 : Option Nat) : Sh h (f_K_lookAlong N h th a1) := by
  unfold f_K_lookAlong
  refine Sh_gR (fun v1 => ?_)
  refine Sh_cv (fun a => (sh_Walk_startAt N h a a1 (-20 : Int32))) (fun v2 h3 => ?_)
  exact sh_K_lookAlong_12 N  N h3 th (0 : Int32)
theorem mo_K_look_169 (N : Nat)  : ∀  (h : hS) (y0 : Int32), Mo h (f_K_look_169 N   h y0) := by
  intro h y0
  unfold f_K_look_169
  exact Mo_some
theorem mo_K_look_127 (N : Nat) {rc93 : hS → Nat → Int32 → Int32 → Int32 → Option ((Int32 ⊕ Nat) × hS)} (hsh93 : ∀ (h : hS) (th : Nat) (x2 : Int32) (x4 : Int32) (x5 : Int32), Mo h (rc93 h th x2 x4 x5)) : ∀  (h : hS) (th : Nat) (x2 : Int32) (x5 : Int32) (y0 : Int32), Mo h (f_K_look_127 N rc93  h th x2 x5 y0) := by
  intro h th x2 x5 y0
  unfold f_K_look_127
  refine Mo_bn (fun v1 => ?_)
  exact hsh93 h th x2 y0 v1
theorem mo_K_look_93 (N : Nat)  : ∀ (n : Nat) (h : hS) (th : Nat) (x2 : Int32) (x4 : Int32) (x5 : Int32), Mo h (f_K_look_93 N  n h th x2 x4 x5) := by
  intro n
  induction n with
  | zero =>
    intro h th x2 x4 x5
    exact Mo_none
  | succ n ih =>
    intro h th x2 x4 x5
    unfold f_K_look_93
    refine Mo_gR (fun v1 => ?_)
    refine Mo_lnA (fun v2 => ?_)
    refine Mo_ite ?_ ?_
    · refine Mo_ite ?_ ?_
      · refine Mo_gR (fun v5 => ?_)
        refine Mo_aI (fun v6 => ?_)
        exact Mo_some
      · refine Mo_gR (fun v3 => ?_)
        refine Mo_aI (fun v4 => ?_)
        refine Mo_ite ?_ ?_
        · exact mo_K_look_169 N   h (-10000000 : Int32)
        · exact mo_K_look_169 N   h (x4 - (20 : Int32))
    · refine Mo_gR (fun v7 => ?_)
      refine Mo_aI (fun v8 => ?_)
      refine Mo_gR (fun v9 => ?_)
      refine Mo_aI (fun v10 => ?_)
      refine Mo_ite ?_ ?_
      · exact mo_K_look_127 N ih  h th x2 x5 x4
      · exact mo_K_look_127 N ih  h th x2 x5 x5
theorem mo_K_look_81 (N : Nat) {rc32 : hS → Nat → Int32 → Int32 → Option Nat → Int32 → Option ((Int32 ⊕ Nat) × hS)} (hsh32 : ∀ (h : hS) (th : Nat) (x1 : Int32) (x2 : Int32) (a3 : Option Nat) (x4 : Int32), Mo h (rc32 h th x1 x2 a3 x4)) : ∀  (h : hS) (th : Nat) (x1 : Int32) (x2 : Int32) (a3 : Option Nat) (x4 : Int32), Mo h (f_K_look_81 N rc32  h th x1 x2 a3 x4) := by
  intro h th x1 x2 a3 x4
  unfold f_K_look_81
  refine Mo_bn (fun v1 => ?_)
  exact hsh32 h th x1 x2 a3 v1
theorem mo_K_look_50 (N : Nat) {rc32 : hS → Nat → Int32 → Int32 → Option Nat → Int32 → Option ((Int32 ⊕ Nat) × hS)} (hsh32 : ∀ (h : hS) (th : Nat) (x1 : Int32) (x2 : Int32) (a3 : Option Nat) (x4 : Int32), Mo h (rc32 h th x1 x2 a3 x4)) : ∀  (h : hS) (th : Nat) (x1 : Int32) (x2 : Int32) (a3 : Option Nat) (x4 : Int32) (y0 : Int32), Mo h (f_K_look_50 N rc32  h th x1 x2 a3 x4 y0) := by
  intro h th x1 x2 a3 x4 y0
  unfold f_K_look_50
  refine Mo_ite ?_ ?_
  · exact mo_K_look_81 N hsh32  h th x1 x2 a3 x4
  · refine Mo_gR (fun v1 => ?_)
    refine Mo_gR (fun v2 => ?_)
    refine Mo_gR (fun v3 => ?_)
    refine Mo_cv (fun a => (Sh.mo (sh_State_holdsNotes N h a v3))) (fun v4 h5 => ?_)
    refine Mo_ite ?_ ?_
    · exact mo_K_look_81 N hsh32  h5 th x1 x2 a3 x4
    · refine Mo_gR (fun v6 => ?_)
      refine Mo_gR (fun v7 => ?_)
      refine Mo_cv (fun a => (Sh.mo (sh_K_lookAlong N h5 a v7))) (fun v8 h9 => ?_)
      exact mo_K_look_81 N hsh32  h9 th x1 x2 a3 x4
theorem mo_K_look_32 (N : Nat)  : ∀ (n : Nat) (h : hS) (th : Nat) (x1 : Int32) (x2 : Int32) (a3 : Option Nat) (x4 : Int32), Mo h (f_K_look_32 N  n h th x1 x2 a3 x4) := by
  intro n
  induction n with
  | zero =>
    intro h th x1 x2 a3 x4
    exact Mo_none
  | succ n ih =>
    intro h th x1 x2 a3 x4
    unfold f_K_look_32
    refine Mo_ite ?_ ?_
    · exact mo_K_look_93 N  N h th x2 (0 : Int32) (1 : Int32)
    · refine Mo_gR (fun v1 => ?_)
      refine Mo_cv (fun a => (mo_Bench_goThrough N h a a3 x1 x4)) (fun v2 h3 => ?_)
      exact mo_K_look_50 N ih  h3 th x1 x2 a3 x4 v2
theorem mo_K_look_29 (N : Nat)  : ∀  (h : hS) (th : Nat) (x1 : Int32) (x2 : Int32) (a3 : Option Nat), Mo h (f_K_look_29 N   h th x1 x2 a3) := by
  intro h th x1 x2 a3
  unfold f_K_look_29
  exact mo_K_look_32 N  N h th x1 x2 a3 (0 : Int32)
theorem mo_K_look_11 (N : Nat)  : ∀  (h : hS) (th : Nat) (x1 : Int32) (x2 : Int32) (y0 : Option Nat), Mo h (f_K_look_11 N   h th x1 x2 y0) := by
  intro h th x1 x2 y0
  unfold f_K_look_11
  refine Mo_gR (fun v1 => ?_)
  refine Mo_cl (Sh.mo (sh_Arr_fill_53178 N h v1 (0 : Int32))) (fun v2 h3 => ?_)
  refine Mo_gR (fun v4 => ?_)
  refine Mo_cv (fun a => (mo_Bench_standAhead N h3 a y0 x1)) (fun v5 h6 => ?_)
  exact mo_K_look_29 N   h6 th x1 x2 y0
theorem mo_K_look_6 (N : Nat)  : ∀  (h : hS) (th : Nat) (x1 : Int32) (x2 : Int32), Mo h (f_K_look_6 N   h th x1 x2) := by
  intro h th x1 x2
  unfold f_K_look_6
  refine Mo_cvT (fun a => (mo_K_chainOf N h a (0 : Int32))) (fun v1 h2 => ?_)
  exact mo_K_look_11 N   h2 th x1 x2 v1
theorem mo_K_look (N : Nat) (h : hS) (th : Nat) (x1 : Int32) (x2 : Int32) : Mo h (f_K_look N h th x1 x2) := by
  unfold f_K_look
  refine Mo_cvT (fun a => (mo_K_needWeighted N h a x1 x2)) (fun v1 h2 => ?_)
  exact mo_K_look_6 N   h2 th x1 x2
theorem sh_K_forget (N : Nat) (h : hS) (th : Nat) : Sh h (f_K_forget N h th) := by
  unfold f_K_forget
  refine Sh_gR (fun v1 => ?_)
  refine Sh_pI (fun h2 => ?_)
  exact Sh_some
theorem sh_K_draw_38 (N : Nat)  : ∀  (h : hS) (y0 : Int32), Sh h (f_K_draw_38 N   h y0) := by
  intro h y0
  unfold f_K_draw_38
  exact Sh_some
theorem sh_K_draw (N : Nat) (h : hS) (th : Nat) (x1 : Int32) : Sh h (f_K_draw N h th x1) := by
  unfold f_K_draw
  refine Sh_gI (fun v1 => ?_)
  refine Sh_pI (fun h2 => ?_)
  refine Sh_ite ?_ ?_
  · refine Sh_gI (fun v3 => ?_)
    refine Sh_dv ?_
    exact sh_K_draw_38 N   h2 ((((v3.toUInt32 >>> ((16 : Int32).toUInt32 &&& Int32.toUInt32 31)).toInt32) &&& (32767 : Int32)) - (((v3.toUInt32 >>> ((16 : Int32).toUInt32 &&& Int32.toUInt32 31)).toInt32) &&& (32767 : Int32)) / x1 * x1)
  · exact sh_K_draw_38 N   h2 (0 : Int32)
theorem mo_K_liveYear_121 (N : Nat)  : ∀  (h : hS) , Mo h (f_K_liveYear_121 N   h ) := by
  intro h 
  unfold f_K_liveYear_121
  exact Mo_some
theorem mo_K_liveYear_110 (N : Nat)  : ∀  (h : hS) (th : Nat) (x2 : Int32) (x3 : Int32) (x4 : Int32), Mo h (f_K_liveYear_110 N   h th x2 x3 x4) := by
  intro h th x2 x3 x4
  unfold f_K_liveYear_110
  refine Mo_gR (fun v1 => ?_)
  refine Mo_cv (fun a => (mo_Bench_applyIfNotTooMuch N h a x2 x3 x4)) (fun v2 h3 => ?_)
  exact mo_K_liveYear_121 N   h3 
theorem mo_K_liveYear (N : Nat) (h : hS) (th : Nat) : Mo h (f_K_liveYear N h th) := by
  unfold f_K_liveYear
  refine Mo_cv (fun a => (Sh.mo (sh_K_draw N h a (8 : Int32)))) (fun v1 h2 => ?_)
  refine Mo_ite ?_ ?_
  · refine Mo_ite ?_ ?_
    · refine Mo_cv (fun a => (Sh.mo (sh_K_draw N h2 a (21 : Int32)))) (fun v9 h10 => ?_)
      refine Mo_bn (fun v11 => ?_)
      exact mo_K_liveYear_110 N   h10 th (3 : Int32) v11 (0 : Int32)
    · refine Mo_ite ?_ ?_
      · refine Mo_cv (fun a => (Sh.mo (sh_K_draw N h2 a (6 : Int32)))) (fun v5 h6 => ?_)
        refine Mo_cv (fun a => (Sh.mo (sh_K_draw N h6 a (6 : Int32)))) (fun v7 h8 => ?_)
        exact mo_K_liveYear_110 N   h8 th (4 : Int32) v5 v7
      · refine Mo_ite ?_ ?_
        · exact mo_K_liveYear_110 N   h2 th (5 : Int32) (0 : Int32) (0 : Int32)
        · refine Mo_cv (fun a => (Sh.mo (sh_K_draw N h2 a (10 : Int32)))) (fun v3 h4 => ?_)
          exact mo_K_liveYear_110 N   h4 th (7 : Int32) v3 (0 : Int32)
  · refine Mo_bn (fun v12 => ?_)
    refine Mo_cv (fun a => (Sh.mo (sh_K_draw N h2 a (101 : Int32)))) (fun v13 h14 => ?_)
    refine Mo_bn (fun v15 => ?_)
    refine Mo_cv (fun a => (Sh.mo (sh_K_draw N h14 a (10 : Int32)))) (fun v16 h17 => ?_)
    exact mo_K_liveYear_110 N   h17 th v12 v15 v16
theorem mo_K_years_116 (N : Nat)  : ∀  (h : hS) (y0 : Int64), Mo h (f_K_years_116 N   h y0) := by
  intro h y0
  unfold f_K_years_116
  exact Mo_some
theorem mo_K_years_65 (N : Nat) {rc55 : hS → Nat → Int32 → Int32 → Int32 → Option ((Int64 ⊕ Nat) × hS)} (hsh55 : ∀ (h : hS) (th : Nat) (x2 : Int32) (x3 : Int32) (x4 : Int32), Mo h (rc55 h th x2 x3 x4)) : ∀  (h : hS) (th : Nat) (x2 : Int32) (x3 : Int32) (x4 : Int32), Mo h (f_K_years_65 N rc55  h th x2 x3 x4) := by
  intro h th x2 x3 x4
  unfold f_K_years_65
  refine Mo_bn (fun v1 => ?_)
  exact hsh55 h th x2 x3 v1
theorem mo_K_years_55 (N : Nat)  : ∀ (n : Nat) (h : hS) (th : Nat) (x2 : Int32) (x3 : Int32) (x4 : Int32), Mo h (f_K_years_55 N  n h th x2 x3 x4) := by
  intro n
  induction n with
  | zero =>
    intro h th x2 x3 x4
    exact Mo_none
  | succ n ih =>
    intro h th x2 x3 x4
    unfold f_K_years_55
    refine Mo_ite ?_ ?_
    · refine Mo_ite ?_ ?_
      · refine Mo_gR (fun v8 => ?_)
        refine Mo_gR (fun v9 => ?_)
        refine Mo_gJ (fun v10 => ?_)
        exact Mo_some
      · refine Mo_ite ?_ ?_
        · refine Mo_gR (fun v5 => ?_)
          refine Mo_gR (fun v6 => ?_)
          refine Mo_gI (fun v7 => ?_)
          exact mo_K_years_116 N   h v7.toInt64
        · refine Mo_gR (fun v1 => ?_)
          refine Mo_gR (fun v2 => ?_)
          refine Mo_cv (fun a => (Sh.mo (sh_Curve_valueAt N h a (0 : Int32)))) (fun v3 h4 => ?_)
          exact mo_K_years_116 N   h4 v3
    · refine Mo_cv (fun a => (mo_K_liveYear N h a )) (fun v11 h12 => ?_)
      exact mo_K_years_65 N ih  h12 th x2 x3 x4
theorem mo_K_years_52 (N : Nat)  : ∀  (h : hS) (th : Nat) (x2 : Int32) (x3 : Int32), Mo h (f_K_years_52 N   h th x2 x3) := by
  intro h th x2 x3
  unfold f_K_years_52
  exact mo_K_years_55 N  N h th x2 x3 (0 : Int32)
theorem mo_K_years_49 (N : Nat)  : ∀  (h : hS) (th : Nat) (x2 : Int32) (x3 : Int32) (y0 : Option Nat) (y1 : Option Nat), Mo h (f_K_years_49 N   h th x2 x3 y0 y1) := by
  intro h th x2 x3 y0 y1
  unfold f_K_years_49
  refine Mo_cv (fun a => (mo_Bench_startWith N h a y1)) (fun v1 h2 => ?_)
  exact mo_K_years_52 N   h2 th x2 x3
theorem mo_K_years_35 (N : Nat)  : ∀  (h : hS) (th : Nat) (x1 : Int32) (x2 : Int32) (x3 : Int32), Mo h (f_K_years_35 N   h th x1 x2 x3) := by
  intro h th x1 x2 x3
  unfold f_K_years_35
  refine Mo_pI (fun h1 => ?_)
  refine Mo_gR (fun v2 => ?_)
  refine Mo_cvT (fun a => (mo_K_curveOf N h1 a (0 : Int32))) (fun v3 h4 => ?_)
  exact mo_K_years_49 N   h4 th x2 x3 v2 v3
theorem mo_K_years_32 (N : Nat)  : ∀  (h : hS) (th : Nat) (x1 : Int32) (x2 : Int32) (x3 : Int32) (y0 : Int32), Mo h (f_K_years_32 N   h th x1 x2 x3 y0) := by
  intro h th x1 x2 x3 y0
  unfold f_K_years_32
  refine Mo_clT (mo_K_needFit N h y0) (fun v1 h2 => ?_)
  exact mo_K_years_35 N   h2 th x1 x2 x3
theorem mo_K_years_31 (N : Nat)  : ∀  (h : hS) (th : Nat) (x1 : Int32) (x2 : Int32) (x3 : Int32), Mo h (f_K_years_31 N   h th x1 x2 x3) := by
  intro h th x1 x2 x3
  unfold f_K_years_31
  exact mo_K_years_32 N   h th x1 x2 x3 (0 : Int32)
theorem mo_K_years_17 (N : Nat)  : ∀  (h : hS) (th : Nat) (x1 : Int32) (x2 : Int32) (x3 : Int32), Mo h (f_K_years_17 N   h th x1 x2 x3) := by
  intro h th x1 x2 x3
  unfold f_K_years_17
  refine Mo_ite ?_ ?_
  · exact mo_K_years_31 N   h th x1 x2 x3
  · refine Mo_ite ?_ ?_
    · exact mo_K_years_31 N   h th x1 x2 x3
    · exact mo_K_years_32 N   h th x1 x2 x3 (1 : Int32)
theorem mo_K_years_14 (N : Nat)  : ∀  (h : hS) (th : Nat) (x1 : Int32) (x2 : Int32) (x3 : Int32) (y0 : Int32), Mo h (f_K_years_14 N   h th x1 x2 x3 y0) := by
  intro h th x1 x2 x3 y0
  unfold f_K_years_14
  refine Mo_clT (mo_K_needSuch N h y0) (fun v1 h2 => ?_)
  exact mo_K_years_17 N   h2 th x1 x2 x3
theorem mo_K_years_13 (N : Nat)  : ∀  (h : hS) (th : Nat) (x1 : Int32) (x2 : Int32) (x3 : Int32), Mo h (f_K_years_13 N   h th x1 x2 x3) := by
  intro h th x1 x2 x3
  unfold f_K_years_13
  exact mo_K_years_14 N   h th x1 x2 x3 (0 : Int32)
theorem mo_K_years (N : Nat) (h : hS) (th : Nat) (x1 : Int32) (x2 : Int32) (x3 : Int32) : Mo h (f_K_years N h th x1 x2 x3) := by
  unfold f_K_years
  refine Mo_ite ?_ ?_
  · exact mo_K_years_13 N   h th x1 x2 x3
  · refine Mo_ite ?_ ?_
    · exact mo_K_years_13 N   h th x1 x2 x3
    · exact mo_K_years_14 N   h th x1 x2 x3 (1 : Int32)
theorem mo_K_image_29 (N : Nat)  : ∀  (h : hS) , Mo h (f_K_image_29 N   h ) := by
  intro h 
  unfold f_K_image_29
  exact Mo_some
theorem mo_K_image_18 (N : Nat)  : ∀  (h : hS) (th : Nat), Mo h (f_K_image_18 N   h th) := by
  intro h th
  unfold f_K_image_18
  refine Mo_gR (fun v1 => ?_)
  refine Mo_gR (fun v2 => ?_)
  refine Mo_cv (fun a => (mo_State_take N h a v2)) (fun v3 h4 => ?_)
  exact mo_K_image_29 N   h4 
theorem mo_K_image_15 (N : Nat)  : ∀  (h : hS) (th : Nat) (y0 : Option Nat) (y1 : Option Nat), Mo h (f_K_image_15 N   h th y0 y1) := by
  intro h th y0 y1
  unfold f_K_image_15
  refine Mo_pR (fun h1 => ?_)
  exact mo_K_image_18 N   h1 th
theorem mo_K_image_11 (N : Nat)  : ∀  (h : hS) (th : Nat) (y0 : Option Nat) (y1 : Option Nat), Mo h (f_K_image_11 N   h th y0 y1) := by
  intro h th y0 y1
  unfold f_K_image_11
  refine Mo_nn (fun q3 => ?_)
  refine Mo_cl (mo_State_init N h q3 ) (fun v1 h2 => ?_)
  exact mo_K_image_15 N   h2 th y0 (some q3)
theorem mo_K_image (N : Nat) (h : hS) (th : Nat) : Mo h (f_K_image N h th) := by
  unfold f_K_image
  refine Mo_gR (fun v1 => ?_)
  refine Mo_ite ?_ ?_
  · refine Mo_nwO (fun q2 h3 => ?_)
    exact mo_K_image_11 N   h3 th (some th) (some q2)
  · exact mo_K_image_18 N   h th
theorem mo_K_restore_32 (N : Nat) {rc22 : hS → Nat → Int32 → Option (Int32 × hS)} (hsh22 : ∀ (h : hS) (th : Nat) (x1 : Int32), Mo h (rc22 h th x1)) : ∀  (h : hS) (th : Nat) (x1 : Int32), Mo h (f_K_restore_32 N rc22  h th x1) := by
  intro h th x1
  unfold f_K_restore_32
  refine Mo_bn (fun v1 => ?_)
  exact hsh22 h th v1
theorem mo_K_restore_22 (N : Nat)  : ∀ (n : Nat) (h : hS) (th : Nat) (x1 : Int32), Mo h (f_K_restore_22 N  n h th x1) := by
  intro n
  induction n with
  | zero =>
    intro h th x1
    exact Mo_none
  | succ n ih =>
    intro h th x1
    unfold f_K_restore_22
    refine Mo_ite ?_ ?_
    · exact Mo_bz Mo_some
    · refine Mo_cv (fun a => (mo_K_makeCurve N h a x1)) (fun v1 h2 => ?_)
      exact mo_K_restore_32 N ih  h2 th x1
theorem mo_K_restore_20 (N : Nat)  : ∀  (h : hS) (th : Nat), Mo h (f_K_restore_20 N   h th) := by
  intro h th
  unfold f_K_restore_20
  exact mo_K_restore_22 N  N h th (0 : Int32)
theorem mo_K_restore (N : Nat) (h : hS) (th : Nat) : Mo h (f_K_restore N h th) := by
  unfold f_K_restore
  refine Mo_gR (fun v1 => ?_)
  refine Mo_ite ?_ ?_
  · exact Mo_bz Mo_some
  · refine Mo_gR (fun v2 => ?_)
    refine Mo_gR (fun v3 => ?_)
    refine Mo_cv (fun a => (mo_State_take N h a v3)) (fun v4 h5 => ?_)
    exact mo_K_restore_20 N   h5 th
set_option maxRecDepth 20000 in
set_option maxHeartbeats 4000000 in
theorem b_K_takes_30 {p : Program} {l : Launch} {e : Env} {s : State} {m : MethodId} {args : Array Value} {below : List Frame} {meth : Method} {c : Code} {D : va_G} {cy : cyT} {z : Nat} (C : MX p s m args meth c cX11_takes 4 ((some .int)) RX11 (Cond.code yX11_takes cX11_takes 4 ((some .int)) :: GW)) (hst : l.stackTraces = false) (N : Nat) (n0 s0 : Nat) (hn0 : s.heap.size = n0) {r : Int32} {g : hS}  : ∀  (cells slots : Nat) (h : hS) (th : Nat) (H : Heap) (locs : List Loc) (ls : Array Slot), wd D cy z s cells h H locs → h_s h = s0 + slots → lv_has ls 4 [(0, .ref th)] → f_K_takes_30 N   h th = some (r, g) → W p l e { frames := 11, cells := h_x g - n0, slots := h_s g - s0, locals := 185 } s m args below meth c H locs cells slots (MQ below (eQ D cy z (rI r) g) args s (h_x g - n0) (h_s g - s0) (fun q => z ≤ q)) (F0 m 30 ls []) := by
  obtain ⟨hx, hb, hr, hml, hown, hts, hlk⟩ := id C
  intro cells slots h th H locs ls w hsl hl hE
  have hcc : cells ≤ h_x g - n0 ∧ slots ≤ h_s g - s0 := by
    have q1 := mo_K_takes_30 N  h th _ _ hE
    have q2 := wd_x w
    have q3 := q1.1
    have q4 := q1.2.1
    omega
  unfold f_K_takes_30 at hE
  refine lv_aload_n hx hb dX11_takes_30 rfl (lv_at hl 0 rfl) ?_
  refine w_VI GW_good (n := 0) (F := 0) (Lc := 0) (o := some th) (av := []) (rest := []) C w rfl (by decide) (fun a r g hf => k_K_refuseAct l D cy z N h a  r g hf) gw_56_22 gw_56_23 gw_57_0 gw_1_2 gw_57_1 (by decide +kernel) ⟨Nat.le_of_ble_eq_true rfl, Nat.le_of_ble_eq_true rfl⟩ rfl hl.1 rfl (Nat.le_of_ble_eq_true rfl) dX11_takes_31 (fun a => (sh_K_refuseAct N h a )) ⟨hcc.1, hcc.2⟩ hE (fun v1 h2 H locs w hsh2 e1 => ?_)
  have hsl := hsh2.2.2.2.trans hsl
  refine W.widen (k := h_x g - n0) (n := h_s g - s0) hcc.1 hcc.2 ?_
  exact w_iret C w e1 dX11_takes_34
set_option maxRecDepth 20000 in
set_option maxHeartbeats 4000000 in
theorem b_K_takes_56 {p : Program} {l : Launch} {e : Env} {s : State} {m : MethodId} {args : Array Value} {below : List Frame} {meth : Method} {c : Code} {D : va_G} {cy : cyT} {z : Nat} (C : MX p s m args meth c cX11_takes 4 ((some .int)) RX11 (Cond.code yX11_takes cX11_takes 4 ((some .int)) :: GW)) (hst : l.stackTraces = false) (N : Nat) (n0 s0 : Nat) (hn0 : s.heap.size = n0) {r : Int32} {g : hS}  : ∀  (cells slots : Nat) (h : hS) (y0 : Int32) (H : Heap) (locs : List Loc) (ls : Array Slot), wd D cy z s cells h H locs → h_s h = s0 + slots → lv_has ls 4 [] → f_K_takes_56 N   h y0 = some (r, g) → W p l e { frames := 11, cells := h_x g - n0, slots := h_s g - s0, locals := 185 } s m args below meth c H locs cells slots (MQ below (eQ D cy z (rI r) g) args s (h_x g - n0) (h_s g - s0) (fun q => z ≤ q)) (F0 m 56 ls [.int y0]) := by
  obtain ⟨hx, hb, hr, hml, hown, hts, hlk⟩ := id C
  intro cells slots h y0 H locs ls w hsl hl hE
  have hcc : cells ≤ h_x g - n0 ∧ slots ≤ h_s g - s0 := by
    have q1 := mo_K_takes_56 N  h y0 _ _ hE
    have q2 := wd_x w
    have q3 := q1.1
    have q4 := q1.2.1
    omega
  unfold f_K_takes_56 at hE
  refine W.widen (k := h_x g - n0) (n := h_s g - s0) hcc.1 hcc.2 ?_
  exact w_iret C w hE dX11_takes_56
set_option maxRecDepth 20000 in
set_option maxHeartbeats 4000000 in
theorem b_K_takes_43 {p : Program} {l : Launch} {e : Env} {s : State} {m : MethodId} {args : Array Value} {below : List Frame} {meth : Method} {c : Code} {D : va_G} {cy : cyT} {z : Nat} (C : MX p s m args meth c cX11_takes 4 ((some .int)) RX11 (Cond.code yX11_takes cX11_takes 4 ((some .int)) :: GW)) (hst : l.stackTraces = false) (N : Nat) (n0 s0 : Nat) (hn0 : s.heap.size = n0) {r : Int32} {g : hS}  : ∀  (cells slots : Nat) (h : hS) (th : Nat) (x1 : Int32) (x2 : Int32) (H : Heap) (locs : List Loc) (ls : Array Slot), wd D cy z s cells h H locs → h_s h = s0 + slots → lv_has ls 4 [(0, .ref th), (1, .int x1), (2, .int x2)] → f_K_takes_43 N   h th x1 x2 = some (r, g) → W p l e { frames := 11, cells := h_x g - n0, slots := h_s g - s0, locals := 185 } s m args below meth c H locs cells slots (MQ below (eQ D cy z (rI r) g) args s (h_x g - n0) (h_s g - s0) (fun q => z ≤ q)) (F0 m 43 ls []) := by
  obtain ⟨hx, hb, hr, hml, hown, hts, hlk⟩ := id C
  intro cells slots h th x1 x2 H locs ls w hsl hl hE
  have hcc : cells ≤ h_x g - n0 ∧ slots ≤ h_s g - s0 := by
    have q1 := mo_K_takes_43 N  h th x1 x2 _ _ hE
    have q2 := wd_x w
    have q3 := q1.1
    have q4 := q1.2.1
    omega
  unfold f_K_takes_43 at hE
  refine lv_aload_n hx hb dX11_takes_43 rfl (lv_at hl 0 rfl) ?_
  refine w_gR (r := some th) (ci := 12) (k := 15) C w rfl (by decide) (GF_wsX110 _) (by decide) rfl (List.mem_cons_of_mem _ gw_3_7) rfl dX11_takes_44 hE (fun v1 e1 => ?_)
  refine lv_iload_n hx hb dX11_takes_47 rfl (lv_at hl 2 rfl) ?_
  refine w_VV GW_good (n := 1) (F := 0) (Lc := 0) (o := v1) (av := [.int x2]) (rest := []) C w rfl (by decide) (fun a r g hf => k_Chain_remove l D cy z N h a x2 r g hf) gw_58_20 gw_58_21 gw_58_22 gw_3_6 gw_58_23 (by decide +kernel) ⟨Nat.le_of_ble_eq_true rfl, Nat.le_of_ble_eq_true rfl⟩ rfl hl.1 rfl (Nat.le_of_ble_eq_true rfl) dX11_takes_48 (fun a => (sh_Chain_remove N h a x2)) ⟨hcc.1, hcc.2⟩ e1 (fun v2 h3 H locs w hsh3 e2 => ?_)
  have hsl := hsh3.2.2.2.trans hsl
  refine lv_aload_n hx hb dX11_takes_51 rfl (lv_at hl 0 rfl) ?_
  refine lv_iload_n hx hb dX11_takes_52 rfl (lv_at hl 1 rfl) ?_
  refine w_VAI GW_good (n := 1) (F := 10) (Lc := 164) (o := some th) (av := [.int x1]) (rest := []) C w rfl (by decide) (fun a r g hf => k_K_becomeUnlessTooMuch l hst D cy z N h3 a x1 r g hf) gw_58_11 gw_58_12 gw_58_13 gw_1_2 gw_58_14 (by decide +kernel) ⟨Nat.le_of_ble_eq_true rfl, Nat.le_of_ble_eq_true rfl⟩ rfl hl.1 rfl (Nat.le_of_ble_eq_true rfl) dX11_takes_53 (fun a => (mo_K_becomeUnlessTooMuch N h3 a x1)) (fun a v4 h5 q1 q2 => by have u1 := (mo_K_becomeUnlessTooMuch N h3 a x1) _ _ q1; have u2 := mo_K_takes_56 N   h5 v4 _ _ q2; have u3 := wd_x w; have u4 := u1.1; have u5 := u1.2.1; have u6 := u2.1; have u7 := u2.2.1; show cells + _ ≤ h_x g - n0 ∧ slots + _ ≤ h_s g - s0; omega) e2 (fun v4 h5 H locs w hsh5 e3 => ?_)
  exact b_K_takes_56 C hst N n0 s0 hn0   _ _ h5 v4 _ _ ls w (by have u5 := hsh5.2.1; have u8 := hsl; omega) (lv_sub hl [] rfl) e3
set_option maxRecDepth 20000 in
set_option maxHeartbeats 4000000 in
theorem b_K_takes_17 {p : Program} {l : Launch} {e : Env} {s : State} {m : MethodId} {args : Array Value} {below : List Frame} {meth : Method} {c : Code} {D : va_G} {cy : cyT} {z : Nat} (C : MX p s m args meth c cX11_takes 4 ((some .int)) RX11 (Cond.code yX11_takes cX11_takes 4 ((some .int)) :: GW)) (hst : l.stackTraces = false) (N : Nat) (n0 s0 : Nat) (hn0 : s.heap.size = n0) {r : Int32} {g : hS}  : ∀  (cells slots : Nat) (h : hS) (th : Nat) (x1 : Int32) (x2 : Int32) (y0 : Option Nat) (H : Heap) (locs : List Loc) (ls : Array Slot), wd D cy z s cells h H locs → h_s h = s0 + slots → lv_has ls 4 [(0, .ref th), (1, .int x1), (2, .int x2)] → f_K_takes_17 N   h th x1 x2 y0 = some (r, g) → W p l e { frames := 11, cells := h_x g - n0, slots := h_s g - s0, locals := 185 } s m args below meth c H locs cells slots (MQ below (eQ D cy z (rI r) g) args s (h_x g - n0) (h_s g - s0) (fun q => z ≤ q)) (F0 m 17 ls [va_rf y0]) := by
  obtain ⟨hx, hb, hr, hml, hown, hts, hlk⟩ := id C
  intro cells slots h th x1 x2 y0 H locs ls w hsl hl hE
  have hcc : cells ≤ h_x g - n0 ∧ slots ≤ h_s g - s0 := by
    have q1 := mo_K_takes_17 N  h th x1 x2 y0 _ _ hE
    have q2 := wd_x w
    have q3 := q1.1
    have q4 := q1.2.1
    omega
  unfold f_K_takes_17 at hE
  refine w_astore_n (r := y0) (lv' := [(3, va_rf y0), (0, .ref th), (1, .int x1), (2, .int x2)]) C dX11_takes_17 rfl hl (by decide) rfl (fun ls hl => ?_)
  refine lv_iload_n hx hb dX11_takes_18 rfl (lv_at hl 3 rfl) ?_
  refine w_if_lt (tgt := 30) C dX11_takes_19 (by decide) hE (fun hc e1 => ?_) (fun hc e1 => ?_)
  · exact b_K_takes_30 C hst N n0 s0 hn0   _ _ h th _ _ ls w hsl (lv_sub hl [1] rfl) e1
  · refine lv_iload_n hx hb dX11_takes_22 rfl (lv_at hl 3 rfl) ?_
    refine w_aload_n C dX11_takes_23 rfl (lv_at hl 0 rfl) ?_
    refine w_gI (r := y0) (ci := 2) (k := 1) C w rfl (by decide) (GF_wsX10 _) (by decide) rfl (List.mem_cons_of_mem _ gw_23_10) rfl dX11_takes_24 e1 (fun v1 e2 => ?_)
    refine w_icmp_lt (tgt := 35) C dX11_takes_27 (by decide) e2 (fun hc e3 => ?_) (fun hc e3 => ?_)
    · refine lv_aload_n hx hb dX11_takes_35 rfl (lv_at hl 1 rfl) ?_
      refine w_gR (r := some th) (ci := 12) (k := 15) C w rfl (by decide) (GF_wsX110 _) (by decide) rfl (List.mem_cons_of_mem _ gw_3_7) rfl dX11_takes_36 e3 (fun v2 e4 => ?_)
      refine w_aload_n C dX11_takes_39 rfl (lv_at hl 0 rfl) ?_
      refine w_VAV GW_good (n := 1) (F := 1) (Lc := 44) (o := v2) (av := [va_rf y0]) (rest := []) C w rfl (by decide) (fun a r g hf => k_Chain_take l D cy z N h a y0 r g hf) gw_57_7 gw_24_0 gw_24_1 gw_3_6 gw_24_2 (by decide +kernel) ⟨Nat.le_of_ble_eq_true rfl, Nat.le_of_ble_eq_true rfl⟩ rfl hl.1 rfl (Nat.le_of_ble_eq_true rfl) dX11_takes_40 (fun a => (mo_Chain_take N h a y0)) (fun a v3 h4 q1 q2 => by have u1 := (mo_Chain_take N h a y0) _ _ q1; have u2 := mo_K_takes_43 N   h4 th x1 x2 _ _ q2; have u3 := wd_x w; have u4 := u1.1; have u5 := u1.2.1; have u6 := u2.1; have u7 := u2.2.1; show cells + _ ≤ h_x g - n0 ∧ slots + _ ≤ h_s g - s0; omega) e4 (fun v3 h4 H locs w hsh4 e5 => ?_)
      exact b_K_takes_43 C hst N n0 s0 hn0   _ _ h4 th x1 x2 _ _ ls w (by have u5 := hsh4.2.1; have u8 := hsl; omega) (lv_sub hl [1, 2, 3] rfl) e5
    · exact b_K_takes_30 C hst N n0 s0 hn0   _ _ h th _ _ ls w hsl (lv_sub hl [1] rfl) e3
set_option maxRecDepth 20000 in
set_option maxHeartbeats 4000000 in
theorem k_K_takes (l : Launch) (hst : l.stackTraces = false) (D : va_G) (cy : cyT) (z : Nat) (N : Nat) (h : hS) (th : Nat) (x1 : Int32) (x2 : Int32) (r : Int32) (g : hS) (hE : f_K_takes N h th x1 x2 = some (r, g)) : ct l yX11_takes (Cond.code yX11_takes cX11_takes 4 ((some .int)) :: GW) { frames := 11, cells := h_x g - h_x h, slots := h_s g - h_s h, locals := 185 } D cy z h [.ref th, .int x1, .int x2] (rI r) g := by
  refine Met.ofW (cc := cX11_takes) (maxL := 4) (ret := (some .int)) (by decide) rfl ?_
  intro p e s m args below meth c s₁ B hml hv
  obtain ⟨rfl, hw⟩ := hv
  have C : MX p s m ([.ref th, .int x1, .int x2] : List Value).toArray meth c cX11_takes 4 ((some .int)) RX11 (Cond.code yX11_takes cX11_takes 4 ((some .int)) :: GW) := ⟨B.exec, B.bytes, B.returns, hml, findClass_of_methodNamed B.named, atoms_spec (ws := Cond.code yX11_takes cX11_takes 4 ((some .int)) :: GW) B.pre, B.notSynchronized⟩
  obtain ⟨hx, hb, hr, hml, hown, hts, hlk⟩ := id C
  have w := wd_of hw
  have hsl : h_s h = h_s h + 0 := rfl
  have hn0 : s.heap.size = h_x h := (wd_x w).1
  obtain ⟨ls, hen, hl⟩ : ∃ ls : Array Slot, entryFrame m ([.ref th, .int x1, .int x2] : List Value).toArray 4 = F0 m 0 ls [] ∧ lv_has ls 4 [(0, .ref th), (1, .int x1), (2, .int x2)] := by
    exact ⟨_, lg_entry_eq _ _ _, lv_entry _ (Nat.le_of_ble_eq_true rfl)⟩
  rw [hen]
  have hcc : 0 ≤ h_x g - h_x h ∧ 0 ≤ h_s g - h_s h := ⟨Nat.zero_le _, Nat.zero_le _⟩
  unfold f_K_takes at hE
  refine lv_iload_n hx hb dX11_takes_0 rfl (lv_at hl 1 rfl) ?_
  refine w_SI GW_good (n := 1) (F := 0) (Lc := 0) (av := [.int x1]) (rest := []) C w (fun r g hf => k_K_isCost l D cy z N h x1 r g hf) gw_9_12 gw_9_13 gw_1_2 gw_9_14 (by decide +kernel) ⟨Nat.le_of_ble_eq_true rfl, Nat.le_of_ble_eq_true rfl⟩ rfl hl.1 rfl (Nat.le_of_ble_eq_true rfl) dX11_takes_1 (sh_K_isCost N h x1) ⟨hcc.1, hcc.2⟩ hE (fun v1 h2 H locs w hsh2 e1 => ?_)
  have hsl := hsh2.2.2.2.trans hsl
  refine w_if_ne (tgt := 12) C dX11_takes_4 (by decide) e1 (fun hc e2 => ?_) (fun hc e2 => ?_)
  · refine lv_aload_n hx hb dX11_takes_12 rfl (lv_at hl 0 rfl) ?_
    refine lv_iload_n hx hb dX11_takes_13 rfl (lv_at hl 1 rfl) ?_
    refine w_VAR GW_good (n := 1) (F := 8) (Lc := 122) (o := some th) (av := [.int x1]) (rest := []) C w rfl (by decide) (fun a r g hf => k_K_chainOf l hst D cy z N h2 a x1 (Sum.inl r) g (fN_some hf)) gw_32_8 gw_32_9 gw_32_10 gw_1_2 gw_32_11 (by decide +kernel) ⟨Nat.le_of_ble_eq_true rfl, Nat.le_of_ble_eq_true rfl⟩ rfl hl.1 rfl (Nat.le_of_ble_eq_true rfl) dX11_takes_14 (fun a => (Mo_fN (mo_K_chainOf N h2 a x1))) (fun a v3 h4 q1 q2 => by have u1 := (Mo_fN (mo_K_chainOf N h2 a x1)) _ _ q1; have u2 := mo_K_takes_17 N   h4 th x1 x2 v3 _ _ q2; have u3 := wd_x w; have u4 := u1.1; have u5 := u1.2.1; have u6 := u2.1; have u7 := u2.2.1; show 0 + _ ≤ h_x g - (h_x h) ∧ 0 + _ ≤ h_s g - (h_s h); omega) e2 (fun v3 h4 H locs w hsh4 e3 => ?_)
    exact b_K_takes_17 C hst N (h_x h) (h_s h) hn0   _ _ h4 th x1 x2 v3 _ _ ls w (by have u5 := hsh4.2.1; have u8 := hsl; omega) (lv_sub hl [0, 1, 2] rfl) e3
  · refine lv_aload_n hx hb dX11_takes_7 rfl (lv_at hl 0 rfl) ?_
    refine w_VI GW_good (n := 0) (F := 0) (Lc := 0) (o := some th) (av := []) (rest := []) C w rfl (by decide) (fun a r g hf => k_K_refuseAct l D cy z N h2 a  r g hf) gw_56_22 gw_56_23 gw_57_0 gw_1_2 gw_57_1 (by decide +kernel) ⟨Nat.le_of_ble_eq_true rfl, Nat.le_of_ble_eq_true rfl⟩ rfl hl.1 rfl (Nat.le_of_ble_eq_true rfl) dX11_takes_8 (fun a => (sh_K_refuseAct N h2 a )) ⟨hcc.1, hcc.2⟩ e2 (fun v5 h6 H locs w hsh6 e4 => ?_)
    have hsl := hsh6.2.2.2.trans hsl
    refine W.widen (k := h_x g - (h_x h)) (n := h_s g - (h_s h)) hcc.1 hcc.2 ?_
    exact w_iret C w e4 dX11_takes_11
set_option maxRecDepth 20000 in
set_option maxHeartbeats 4000000 in
theorem b_K_copy_31 {p : Program} {l : Launch} {e : Env} {s : State} {m : MethodId} {args : Array Value} {below : List Frame} {meth : Method} {c : Code} {D : va_G} {cy : cyT} {z : Nat} (C : MX p s m args meth c cX11_copy 3 ((some .int)) RX11 (Cond.code yX11_copy cX11_copy 3 ((some .int)) :: GW)) (hst : l.stackTraces = false) (N : Nat) (n0 s0 : Nat) (hn0 : s.heap.size = n0) {r : Int32} {g : hS}  : ∀  (cells slots : Nat) (h : hS) (th : Nat) (H : Heap) (locs : List Loc) (ls : Array Slot), wd D cy z s cells h H locs → h_s h = s0 + slots → lv_has ls 3 [(0, .ref th)] → f_K_copy_31 N   h th = some (r, g) → W p l e { frames := 10, cells := h_x g - n0, slots := h_s g - s0, locals := 164 } s m args below meth c H locs cells slots (MQ below (eQ D cy z (rI r) g) args s (h_x g - n0) (h_s g - s0) (fun q => z ≤ q)) (F0 m 31 ls []) := by
  obtain ⟨hx, hb, hr, hml, hown, hts, hlk⟩ := id C
  intro cells slots h th H locs ls w hsl hl hE
  have hcc : cells ≤ h_x g - n0 ∧ slots ≤ h_s g - s0 := by
    have q1 := mo_K_copy_31 N  h th _ _ hE
    have q2 := wd_x w
    have q3 := q1.1
    have q4 := q1.2.1
    omega
  unfold f_K_copy_31 at hE
  refine lv_aload_n hx hb dX11_copy_31 rfl (lv_at hl 0 rfl) ?_
  refine w_VI GW_good (n := 0) (F := 0) (Lc := 0) (o := some th) (av := []) (rest := []) C w rfl (by decide) (fun a r g hf => k_K_refuseAct l D cy z N h a  r g hf) gw_56_22 gw_56_23 gw_57_0 gw_1_2 gw_57_1 (by decide +kernel) ⟨Nat.le_of_ble_eq_true rfl, Nat.le_of_ble_eq_true rfl⟩ rfl hl.1 rfl (Nat.le_of_ble_eq_true rfl) dX11_copy_32 (fun a => (sh_K_refuseAct N h a )) ⟨hcc.1, hcc.2⟩ hE (fun v1 h2 H locs w hsh2 e1 => ?_)
  have hsl := hsh2.2.2.2.trans hsl
  refine W.widen (k := h_x g - n0) (n := h_s g - s0) hcc.1 hcc.2 ?_
  exact w_iret C w e1 dX11_copy_35
set_option maxRecDepth 20000 in
set_option maxHeartbeats 4000000 in
theorem b_K_copy_65 {p : Program} {l : Launch} {e : Env} {s : State} {m : MethodId} {args : Array Value} {below : List Frame} {meth : Method} {c : Code} {D : va_G} {cy : cyT} {z : Nat} (C : MX p s m args meth c cX11_copy 3 ((some .int)) RX11 (Cond.code yX11_copy cX11_copy 3 ((some .int)) :: GW)) (hst : l.stackTraces = false) (N : Nat) (n0 s0 : Nat) (hn0 : s.heap.size = n0) {r : Int32} {g : hS}  : ∀  (cells slots : Nat) (h : hS) (y0 : Int32) (H : Heap) (locs : List Loc) (ls : Array Slot), wd D cy z s cells h H locs → h_s h = s0 + slots → lv_has ls 3 [] → f_K_copy_65 N   h y0 = some (r, g) → W p l e { frames := 10, cells := h_x g - n0, slots := h_s g - s0, locals := 164 } s m args below meth c H locs cells slots (MQ below (eQ D cy z (rI r) g) args s (h_x g - n0) (h_s g - s0) (fun q => z ≤ q)) (F0 m 65 ls [.int y0]) := by
  obtain ⟨hx, hb, hr, hml, hown, hts, hlk⟩ := id C
  intro cells slots h y0 H locs ls w hsl hl hE
  have hcc : cells ≤ h_x g - n0 ∧ slots ≤ h_s g - s0 := by
    have q1 := mo_K_copy_65 N  h y0 _ _ hE
    have q2 := wd_x w
    have q3 := q1.1
    have q4 := q1.2.1
    omega
  unfold f_K_copy_65 at hE
  refine W.widen (k := h_x g - n0) (n := h_s g - s0) hcc.1 hcc.2 ?_
  exact w_iret C w hE dX11_copy_65
set_option maxRecDepth 20000 in
set_option maxHeartbeats 4000000 in
theorem b_K_copy_60 {p : Program} {l : Launch} {e : Env} {s : State} {m : MethodId} {args : Array Value} {below : List Frame} {meth : Method} {c : Code} {D : va_G} {cy : cyT} {z : Nat} (C : MX p s m args meth c cX11_copy 3 ((some .int)) RX11 (Cond.code yX11_copy cX11_copy 3 ((some .int)) :: GW)) (hst : l.stackTraces = false) (N : Nat) (n0 s0 : Nat) (hn0 : s.heap.size = n0) {r : Int32} {g : hS}  : ∀  (cells slots : Nat) (h : hS) (th : Nat) (x1 : Int32) (H : Heap) (locs : List Loc) (ls : Array Slot), wd D cy z s cells h H locs → h_s h = s0 + slots → lv_has ls 3 [(0, .ref th), (1, .int x1)] → f_K_copy_60 N   h th x1 = some (r, g) → W p l e { frames := 10, cells := h_x g - n0, slots := h_s g - s0, locals := 164 } s m args below meth c H locs cells slots (MQ below (eQ D cy z (rI r) g) args s (h_x g - n0) (h_s g - s0) (fun q => z ≤ q)) (F0 m 60 ls []) := by
  obtain ⟨hx, hb, hr, hml, hown, hts, hlk⟩ := id C
  intro cells slots h th x1 H locs ls w hsl hl hE
  have hcc : cells ≤ h_x g - n0 ∧ slots ≤ h_s g - s0 := by
    have q1 := mo_K_copy_60 N  h th x1 _ _ hE
    have q2 := wd_x w
    have q3 := q1.1
    have q4 := q1.2.1
    omega
  unfold f_K_copy_60 at hE
  refine lv_aload_n hx hb dX11_copy_60 rfl (lv_at hl 0 rfl) ?_
  refine lv_iload_n hx hb dX11_copy_61 rfl (lv_at hl 1 rfl) ?_
  refine w_VAI GW_good (n := 1) (F := 9) (Lc := 143) (o := some th) (av := [.int x1]) (rest := []) C w rfl (by decide) (fun a r g hf => k_K_become l hst D cy z N h a x1 r g hf) gw_23_5 gw_23_6 gw_23_7 gw_1_2 gw_23_8 (by decide +kernel) ⟨Nat.le_of_ble_eq_true rfl, Nat.le_of_ble_eq_true rfl⟩ rfl hl.1 rfl (Nat.le_of_ble_eq_true rfl) dX11_copy_62 (fun a => (mo_K_become N h a x1)) (fun a v1 h2 q1 q2 => by have u1 := (mo_K_become N h a x1) _ _ q1; have u2 := mo_K_copy_65 N   h2 v1 _ _ q2; have u3 := wd_x w; have u4 := u1.1; have u5 := u1.2.1; have u6 := u2.1; have u7 := u2.2.1; show cells + _ ≤ h_x g - n0 ∧ slots + _ ≤ h_s g - s0; omega) hE (fun v1 h2 H locs w hsh2 e1 => ?_)
  exact b_K_copy_65 C hst N n0 s0 hn0   _ _ h2 v1 _ _ ls w (by have u5 := hsh2.2.1; have u8 := hsl; omega) (lv_sub hl [] rfl) e1
set_option maxRecDepth 20000 in
set_option maxHeartbeats 4000000 in
theorem b_K_copy_57 {p : Program} {l : Launch} {e : Env} {s : State} {m : MethodId} {args : Array Value} {below : List Frame} {meth : Method} {c : Code} {D : va_G} {cy : cyT} {z : Nat} (C : MX p s m args meth c cX11_copy 3 ((some .int)) RX11 (Cond.code yX11_copy cX11_copy 3 ((some .int)) :: GW)) (hst : l.stackTraces = false) (N : Nat) (n0 s0 : Nat) (hn0 : s.heap.size = n0) {r : Int32} {g : hS}  : ∀  (cells slots : Nat) (h : hS) (th : Nat) (x1 : Int32) (y0 : Option Nat) (y1 : Option Nat) (H : Heap) (locs : List Loc) (ls : Array Slot), wd D cy z s cells h H locs → h_s h = s0 + slots → lv_has ls 3 [(0, .ref th), (1, .int x1)] → f_K_copy_57 N   h th x1 y0 y1 = some (r, g) → W p l e { frames := 10, cells := h_x g - n0, slots := h_s g - s0, locals := 164 } s m args below meth c H locs cells slots (MQ below (eQ D cy z (rI r) g) args s (h_x g - n0) (h_s g - s0) (fun q => z ≤ q)) (F0 m 57 ls [va_rf y1, va_rf y0]) := by
  obtain ⟨hx, hb, hr, hml, hown, hts, hlk⟩ := id C
  intro cells slots h th x1 y0 y1 H locs ls w hsl hl hE
  have hcc : cells ≤ h_x g - n0 ∧ slots ≤ h_s g - s0 := by
    have q1 := mo_K_copy_57 N  h th x1 y0 y1 _ _ hE
    have q2 := wd_x w
    have q3 := q1.1
    have q4 := q1.2.1
    omega
  unfold f_K_copy_57 at hE
  refine w_VAV GW_good (n := 1) (F := 2) (Lc := 81) (o := y0) (av := [va_rf y1]) (rest := []) C w rfl (by decide) (fun a r g hf => k_Bench_startWith l D cy z N h a y1 r g hf) gw_57_2 gw_57_3 gw_57_4 gw_2_0 gw_57_5 (by decide +kernel) ⟨Nat.le_of_ble_eq_true rfl, Nat.le_of_ble_eq_true rfl⟩ rfl hl.1 rfl (Nat.le_of_ble_eq_true rfl) dX11_copy_57 (fun a => (mo_Bench_startWith N h a y1)) (fun a v1 h2 q1 q2 => by have u1 := (mo_Bench_startWith N h a y1) _ _ q1; have u2 := mo_K_copy_60 N   h2 th x1 _ _ q2; have u3 := wd_x w; have u4 := u1.1; have u5 := u1.2.1; have u6 := u2.1; have u7 := u2.2.1; show cells + _ ≤ h_x g - n0 ∧ slots + _ ≤ h_s g - s0; omega) hE (fun v1 h2 H locs w hsh2 e1 => ?_)
  exact b_K_copy_60 C hst N n0 s0 hn0   _ _ h2 th x1 _ _ ls w (by have u5 := hsh2.2.1; have u8 := hsl; omega) (lv_sub hl [0, 1] rfl) e1
set_option maxRecDepth 20000 in
set_option maxHeartbeats 4000000 in
theorem b_K_copy_48 {p : Program} {l : Launch} {e : Env} {s : State} {m : MethodId} {args : Array Value} {below : List Frame} {meth : Method} {c : Code} {D : va_G} {cy : cyT} {z : Nat} (C : MX p s m args meth c cX11_copy 3 ((some .int)) RX11 (Cond.code yX11_copy cX11_copy 3 ((some .int)) :: GW)) (hst : l.stackTraces = false) (N : Nat) (n0 s0 : Nat) (hn0 : s.heap.size = n0) {r : Int32} {g : hS}  : ∀  (cells slots : Nat) (h : hS) (th : Nat) (x1 : Int32) (x2 : Int32) (H : Heap) (locs : List Loc) (ls : Array Slot), wd D cy z s cells h H locs → h_s h = s0 + slots → lv_has ls 3 [(0, .ref th), (1, .int x1), (2, .int x2)] → f_K_copy_48 N   h th x1 x2 = some (r, g) → W p l e { frames := 10, cells := h_x g - n0, slots := h_s g - s0, locals := 164 } s m args below meth c H locs cells slots (MQ below (eQ D cy z (rI r) g) args s (h_x g - n0) (h_s g - s0) (fun q => z ≤ q)) (F0 m 48 ls []) := by
  obtain ⟨hx, hb, hr, hml, hown, hts, hlk⟩ := id C
  intro cells slots h th x1 x2 H locs ls w hsl hl hE
  have hcc : cells ≤ h_x g - n0 ∧ slots ≤ h_s g - s0 := by
    have q1 := mo_K_copy_48 N  h th x1 x2 _ _ hE
    have q2 := wd_x w
    have q3 := q1.1
    have q4 := q1.2.1
    omega
  unfold f_K_copy_48 at hE
  refine lv_aload_n hx hb dX11_copy_48 rfl (lv_at hl 0 rfl) ?_
  refine w_gR (r := some th) (ci := 12) (k := 4) C w rfl (by decide) (GF_wsX110 _) (by decide) rfl (List.mem_cons_of_mem _ gw_2_1) rfl dX11_copy_49 hE (fun v1 e1 => ?_)
  refine lv_aload_n hx hb dX11_copy_52 rfl (lv_at hl 0 rfl) ?_
  refine lv_iload_n hx hb dX11_copy_53 rfl (lv_at hl 2 rfl) ?_
  refine w_VAR GW_good (n := 1) (F := 8) (Lc := 122) (o := some th) (av := [.int x2]) (rest := [va_rf v1]) C w rfl (by decide) (fun a r g hf => k_K_curveOf l hst D cy z N h a x2 (Sum.inl r) g (fN_some hf)) gw_16_2 gw_16_3 gw_16_4 gw_1_2 gw_16_5 (by decide +kernel) ⟨Nat.le_of_ble_eq_true rfl, Nat.le_of_ble_eq_true rfl⟩ rfl hl.1 rfl (cat_le (Nat.le_of_ble_eq_true rfl)) dX11_copy_54 (fun a => (Mo_fN (mo_K_curveOf N h a x2))) (fun a v2 h3 q1 q2 => by have u1 := (Mo_fN (mo_K_curveOf N h a x2)) _ _ q1; have u2 := mo_K_copy_57 N   h3 th x1 v1 v2 _ _ q2; have u3 := wd_x w; have u4 := u1.1; have u5 := u1.2.1; have u6 := u2.1; have u7 := u2.2.1; show cells + _ ≤ h_x g - n0 ∧ slots + _ ≤ h_s g - s0; omega) e1 (fun v2 h3 H locs w hsh3 e2 => ?_)
  exact b_K_copy_57 C hst N n0 s0 hn0   _ _ h3 th x1 v1 v2 _ _ ls w (by have u5 := hsh3.2.1; have u8 := hsl; omega) (lv_sub hl [0, 1] rfl) e2
set_option maxRecDepth 20000 in
set_option maxHeartbeats 4000000 in
theorem b_K_copy_45 {p : Program} {l : Launch} {e : Env} {s : State} {m : MethodId} {args : Array Value} {below : List Frame} {meth : Method} {c : Code} {D : va_G} {cy : cyT} {z : Nat} (C : MX p s m args meth c cX11_copy 3 ((some .int)) RX11 (Cond.code yX11_copy cX11_copy 3 ((some .int)) :: GW)) (hst : l.stackTraces = false) (N : Nat) (n0 s0 : Nat) (hn0 : s.heap.size = n0) {r : Int32} {g : hS}  : ∀  (cells slots : Nat) (h : hS) (th : Nat) (x1 : Int32) (x2 : Int32) (y0 : Option Nat) (y1 : Option Nat) (H : Heap) (locs : List Loc) (ls : Array Slot), wd D cy z s cells h H locs → h_s h = s0 + slots → lv_has ls 3 [(0, .ref th), (1, .int x1), (2, .int x2)] → f_K_copy_45 N   h th x1 x2 y0 y1 = some (r, g) → W p l e { frames := 10, cells := h_x g - n0, slots := h_s g - s0, locals := 164 } s m args below meth c H locs cells slots (MQ below (eQ D cy z (rI r) g) args s (h_x g - n0) (h_s g - s0) (fun q => z ≤ q)) (F0 m 45 ls [va_rf y1, va_rf y0]) := by
  obtain ⟨hx, hb, hr, hml, hown, hts, hlk⟩ := id C
  intro cells slots h th x1 x2 y0 y1 H locs ls w hsl hl hE
  have hcc : cells ≤ h_x g - n0 ∧ slots ≤ h_s g - s0 := by
    have q1 := mo_K_copy_45 N  h th x1 x2 y0 y1 _ _ hE
    have q2 := wd_x w
    have q3 := q1.1
    have q4 := q1.2.1
    omega
  unfold f_K_copy_45 at hE
  refine w_VAV GW_good (n := 1) (F := 1) (Lc := 44) (o := y0) (av := [va_rf y1]) (rest := []) C w rfl (by decide) (fun a r g hf => k_Chain_take l D cy z N h a y1 r g hf) gw_57_7 gw_24_0 gw_24_1 gw_3_6 gw_24_2 (by decide +kernel) ⟨Nat.le_of_ble_eq_true rfl, Nat.le_of_ble_eq_true rfl⟩ rfl hl.1 rfl (Nat.le_of_ble_eq_true rfl) dX11_copy_45 (fun a => (mo_Chain_take N h a y1)) (fun a v1 h2 q1 q2 => by have u1 := (mo_Chain_take N h a y1) _ _ q1; have u2 := mo_K_copy_48 N   h2 th x1 x2 _ _ q2; have u3 := wd_x w; have u4 := u1.1; have u5 := u1.2.1; have u6 := u2.1; have u7 := u2.2.1; show cells + _ ≤ h_x g - n0 ∧ slots + _ ≤ h_s g - s0; omega) hE (fun v1 h2 H locs w hsh2 e1 => ?_)
  exact b_K_copy_48 C hst N n0 s0 hn0   _ _ h2 th x1 x2 _ _ ls w (by have u5 := hsh2.2.1; have u8 := hsl; omega) (lv_sub hl [0, 1, 2] rfl) e1
set_option maxRecDepth 20000 in
set_option maxHeartbeats 4000000 in
theorem b_K_copy_24 {p : Program} {l : Launch} {e : Env} {s : State} {m : MethodId} {args : Array Value} {below : List Frame} {meth : Method} {c : Code} {D : va_G} {cy : cyT} {z : Nat} (C : MX p s m args meth c cX11_copy 3 ((some .int)) RX11 (Cond.code yX11_copy cX11_copy 3 ((some .int)) :: GW)) (hst : l.stackTraces = false) (N : Nat) (n0 s0 : Nat) (hn0 : s.heap.size = n0) {r : Int32} {g : hS}  : ∀  (cells slots : Nat) (h : hS) (th : Nat) (x1 : Int32) (x2 : Int32) (y0 : Option Nat) (H : Heap) (locs : List Loc) (ls : Array Slot), wd D cy z s cells h H locs → h_s h = s0 + slots → lv_has ls 3 [(0, .ref th), (1, .int x1), (2, .int x2)] → f_K_copy_24 N   h th x1 x2 y0 = some (r, g) → W p l e { frames := 10, cells := h_x g - n0, slots := h_s g - s0, locals := 164 } s m args below meth c H locs cells slots (MQ below (eQ D cy z (rI r) g) args s (h_x g - n0) (h_s g - s0) (fun q => z ≤ q)) (F0 m 24 ls [va_rf y0]) := by
  obtain ⟨hx, hb, hr, hml, hown, hts, hlk⟩ := id C
  intro cells slots h th x1 x2 y0 H locs ls w hsl hl hE
  have hcc : cells ≤ h_x g - n0 ∧ slots ≤ h_s g - s0 := by
    have q1 := mo_K_copy_24 N  h th x1 x2 y0 _ _ hE
    have q2 := wd_x w
    have q3 := q1.1
    have q4 := q1.2.1
    omega
  unfold f_K_copy_24 at hE
  refine lv_iload_n hx hb dX11_copy_24 rfl (lv_at hl 1 rfl) ?_
  refine w_VI GW_good (n := 1) (F := 1) (Lc := 21) (o := y0) (av := [.int x1]) (rest := []) C w rfl (by decide) (fun a r g hf => k_Chain_hasOnTop l D cy z N h a x1 r g hf) gw_59_8 gw_59_9 gw_59_10 gw_3_6 gw_59_11 (by decide +kernel) ⟨Nat.le_of_ble_eq_true rfl, Nat.le_of_ble_eq_true rfl⟩ rfl hl.1 rfl (Nat.le_of_ble_eq_true rfl) dX11_copy_25 (fun a => (sh_Chain_hasOnTop N h a x1)) ⟨hcc.1, hcc.2⟩ hE (fun v1 h2 H locs w hsh2 e1 => ?_)
  have hsl := hsh2.2.2.2.trans hsl
  refine w_if_eq (tgt := 36) C dX11_copy_28 (by decide) e1 (fun hc e2 => ?_) (fun hc e2 => ?_)
  · refine lv_aload_n hx hb dX11_copy_36 rfl (lv_at hl 0 rfl) ?_
    refine w_gR (r := some th) (ci := 12) (k := 15) C w rfl (by decide) (GF_wsX110 _) (by decide) rfl (List.mem_cons_of_mem _ gw_3_7) rfl dX11_copy_37 e2 (fun v3 e3 => ?_)
    refine lv_aload_n hx hb dX11_copy_40 rfl (lv_at hl 0 rfl) ?_
    refine lv_iload_n hx hb dX11_copy_41 rfl (lv_at hl 2 rfl) ?_
    refine w_VAR GW_good (n := 1) (F := 8) (Lc := 122) (o := some th) (av := [.int x2]) (rest := [va_rf v3]) C w rfl (by decide) (fun a r g hf => k_K_chainOf l hst D cy z N h2 a x2 (Sum.inl r) g (fN_some hf)) gw_32_8 gw_32_9 gw_32_10 gw_1_2 gw_32_11 (by decide +kernel) ⟨Nat.le_of_ble_eq_true rfl, Nat.le_of_ble_eq_true rfl⟩ rfl hl.1 rfl (cat_le (Nat.le_of_ble_eq_true rfl)) dX11_copy_42 (fun a => (Mo_fN (mo_K_chainOf N h2 a x2))) (fun a v4 h5 q1 q2 => by have u1 := (Mo_fN (mo_K_chainOf N h2 a x2)) _ _ q1; have u2 := mo_K_copy_45 N   h5 th x1 x2 v3 v4 _ _ q2; have u3 := wd_x w; have u4 := u1.1; have u5 := u1.2.1; have u6 := u2.1; have u7 := u2.2.1; show cells + _ ≤ h_x g - n0 ∧ slots + _ ≤ h_s g - s0; omega) e3 (fun v4 h5 H locs w hsh5 e4 => ?_)
    exact b_K_copy_45 C hst N n0 s0 hn0   _ _ h5 th x1 x2 v3 v4 _ _ ls w (by have u5 := hsh5.2.1; have u8 := hsl; omega) (lv_sub hl [0, 1, 2] rfl) e4
  · exact b_K_copy_31 C hst N n0 s0 hn0   _ _ h2 th _ _ ls w hsl (lv_sub hl [0] rfl) e2
set_option maxRecDepth 20000 in
set_option maxHeartbeats 4000000 in
theorem k_K_copy (l : Launch) (hst : l.stackTraces = false) (D : va_G) (cy : cyT) (z : Nat) (N : Nat) (h : hS) (th : Nat) (x1 : Int32) (x2 : Int32) (r : Int32) (g : hS) (hE : f_K_copy N h th x1 x2 = some (r, g)) : ct l yX11_copy (Cond.code yX11_copy cX11_copy 3 ((some .int)) :: GW) { frames := 10, cells := h_x g - h_x h, slots := h_s g - h_s h, locals := 164 } D cy z h [.ref th, .int x1, .int x2] (rI r) g := by
  refine Met.ofW (cc := cX11_copy) (maxL := 3) (ret := (some .int)) (by decide) rfl ?_
  intro p e s m args below meth c s₁ B hml hv
  obtain ⟨rfl, hw⟩ := hv
  have C : MX p s m ([.ref th, .int x1, .int x2] : List Value).toArray meth c cX11_copy 3 ((some .int)) RX11 (Cond.code yX11_copy cX11_copy 3 ((some .int)) :: GW) := ⟨B.exec, B.bytes, B.returns, hml, findClass_of_methodNamed B.named, atoms_spec (ws := Cond.code yX11_copy cX11_copy 3 ((some .int)) :: GW) B.pre, B.notSynchronized⟩
  obtain ⟨hx, hb, hr, hml, hown, hts, hlk⟩ := id C
  have w := wd_of hw
  have hsl : h_s h = h_s h + 0 := rfl
  have hn0 : s.heap.size = h_x h := (wd_x w).1
  obtain ⟨ls, hen, hl⟩ : ∃ ls : Array Slot, entryFrame m ([.ref th, .int x1, .int x2] : List Value).toArray 3 = F0 m 0 ls [] ∧ lv_has ls 3 [(0, .ref th), (1, .int x1), (2, .int x2)] := by
    exact ⟨_, lg_entry_eq _ _ _, lv_entry _ (Nat.le_of_ble_eq_true rfl)⟩
  rw [hen]
  have hcc : 0 ≤ h_x g - h_x h ∧ 0 ≤ h_s g - h_s h := ⟨Nat.zero_le _, Nat.zero_le _⟩
  unfold f_K_copy at hE
  refine lv_iload_n hx hb dX11_copy_0 rfl (lv_at hl 1 rfl) ?_
  refine w_SI GW_good (n := 1) (F := 0) (Lc := 0) (av := [.int x1]) (rest := []) C w (fun r g hf => k_K_isCost l D cy z N h x1 r g hf) gw_9_12 gw_9_13 gw_1_2 gw_9_14 (by decide +kernel) ⟨Nat.le_of_ble_eq_true rfl, Nat.le_of_ble_eq_true rfl⟩ rfl hl.1 rfl (Nat.le_of_ble_eq_true rfl) dX11_copy_1 (sh_K_isCost N h x1) ⟨hcc.1, hcc.2⟩ hE (fun v1 h2 H locs w hsh2 e1 => ?_)
  have hsl := hsh2.2.2.2.trans hsl
  refine w_if_eq (tgt := 31) C dX11_copy_4 (by decide) e1 (fun hc e2 => ?_) (fun hc e2 => ?_)
  · exact b_K_copy_31 C hst N (h_x h) (h_s h) hn0   _ _ h2 th _ _ ls w hsl (lv_sub hl [0] rfl) e2
  · refine lv_iload_n hx hb dX11_copy_7 rfl (lv_at hl 2 rfl) ?_
    refine w_SI GW_good (n := 1) (F := 0) (Lc := 0) (av := [.int x2]) (rest := []) C w (fun r g hf => k_K_isCost l D cy z N h2 x2 r g hf) gw_9_12 gw_9_13 gw_1_2 gw_9_14 (by decide +kernel) ⟨Nat.le_of_ble_eq_true rfl, Nat.le_of_ble_eq_true rfl⟩ rfl hl.1 rfl (Nat.le_of_ble_eq_true rfl) dX11_copy_8 (sh_K_isCost N h2 x2) ⟨hcc.1, hcc.2⟩ e2 (fun v3 h4 H locs w hsh4 e3 => ?_)
    have hsl := hsh4.2.2.2.trans hsl
    refine w_if_eq (tgt := 31) C dX11_copy_11 (by decide) e3 (fun hc e4 => ?_) (fun hc e4 => ?_)
    · exact b_K_copy_31 C hst N (h_x h) (h_s h) hn0   _ _ h4 th _ _ ls w hsl (lv_sub hl [0] rfl) e4
    · refine lv_iload_n hx hb dX11_copy_14 rfl (lv_at hl 1 rfl) ?_
      refine lv_iload_n hx hb dX11_copy_15 rfl (lv_at hl 2 rfl) ?_
      refine w_icmp_eq (tgt := 31) C dX11_copy_16 (by decide) e4 (fun hc e5 => ?_) (fun hc e5 => ?_)
      · exact b_K_copy_31 C hst N (h_x h) (h_s h) hn0   _ _ h4 th _ _ ls w hsl (lv_sub hl [0] rfl) e5
      · refine lv_aload_n hx hb dX11_copy_19 rfl (lv_at hl 0 rfl) ?_
        refine lv_iload_n hx hb dX11_copy_20 rfl (lv_at hl 2 rfl) ?_
        refine w_VAR GW_good (n := 1) (F := 8) (Lc := 122) (o := some th) (av := [.int x2]) (rest := []) C w rfl (by decide) (fun a r g hf => k_K_chainOf l hst D cy z N h4 a x2 (Sum.inl r) g (fN_some hf)) gw_32_8 gw_32_9 gw_32_10 gw_1_2 gw_32_11 (by decide +kernel) ⟨Nat.le_of_ble_eq_true rfl, Nat.le_of_ble_eq_true rfl⟩ rfl hl.1 rfl (Nat.le_of_ble_eq_true rfl) dX11_copy_21 (fun a => (Mo_fN (mo_K_chainOf N h4 a x2))) (fun a v5 h6 q1 q2 => by have u1 := (Mo_fN (mo_K_chainOf N h4 a x2)) _ _ q1; have u2 := mo_K_copy_24 N   h6 th x1 x2 v5 _ _ q2; have u3 := wd_x w; have u4 := u1.1; have u5 := u1.2.1; have u6 := u2.1; have u7 := u2.2.1; show 0 + _ ≤ h_x g - (h_x h) ∧ 0 + _ ≤ h_s g - (h_s h); omega) e5 (fun v5 h6 H locs w hsh6 e6 => ?_)
        exact b_K_copy_24 C hst N (h_x h) (h_s h) hn0   _ _ h6 th x1 x2 v5 _ _ ls w (by have u5 := hsh6.2.1; have u8 := hsl; omega) (lv_sub hl [0, 1, 2] rfl) e6
set_option maxRecDepth 20000 in
set_option maxHeartbeats 4000000 in
theorem b_K_makeCurve_28 {p : Program} {l : Launch} {e : Env} {s : State} {m : MethodId} {args : Array Value} {below : List Frame} {meth : Method} {c : Code} {D : va_G} {cy : cyT} {z : Nat} (C : MX p s m args meth c cX11_makeCurve 2 (none) RX11 (Cond.code yX11_makeCurve cX11_makeCurve 2 (none) :: GW)) (hst : l.stackTraces = false) (N : Nat) (n0 s0 : Nat) (hn0 : s.heap.size = n0) {r : Unit} {g : hS}  : ∀  (cells slots : Nat) (h : hS)  (H : Heap) (locs : List Loc) (ls : Array Slot), wd D cy z s cells h H locs → h_s h = s0 + slots → lv_has ls 2 [] → f_K_makeCurve_28 N   h  = some (r, g) → W p l e { frames := 9, cells := h_x g - n0, slots := h_s g - s0, locals := 164 } s m args below meth c H locs cells slots (MQ below (eQ D cy z (rV r) g) args s (h_x g - n0) (h_s g - s0) (fun q => z ≤ q)) (F0 m 28 ls []) := by
  obtain ⟨hx, hb, hr, hml, hown, hts, hlk⟩ := id C
  intro cells slots h  H locs ls w hsl hl hE
  have hcc : cells ≤ h_x g - n0 ∧ slots ≤ h_s g - s0 := by
    have q1 := mo_K_makeCurve_28 N  h  _ _ hE
    have q2 := wd_x w
    have q3 := q1.1
    have q4 := q1.2.1
    omega
  unfold f_K_makeCurve_28 at hE
  refine W.widen (k := h_x g - n0) (n := h_s g - s0) hcc.1 hcc.2 ?_
  exact w_vret C w hE dX11_makeCurve_28
set_option maxRecDepth 20000 in
set_option maxHeartbeats 4000000 in
theorem b_K_makeCurve_18 {p : Program} {l : Launch} {e : Env} {s : State} {m : MethodId} {args : Array Value} {below : List Frame} {meth : Method} {c : Code} {D : va_G} {cy : cyT} {z : Nat} (C : MX p s m args meth c cX11_makeCurve 2 (none) RX11 (Cond.code yX11_makeCurve cX11_makeCurve 2 (none) :: GW)) (hst : l.stackTraces = false) (N : Nat) (n0 s0 : Nat) (hn0 : s.heap.size = n0) {r : Unit} {g : hS}  : ∀  (cells slots : Nat) (h : hS) (th : Nat) (y0 : Option Nat) (H : Heap) (locs : List Loc) (ls : Array Slot), wd D cy z s cells h H locs → h_s h = s0 + slots → lv_has ls 2 [(0, .ref th)] → f_K_makeCurve_18 N   h th y0 = some (r, g) → W p l e { frames := 9, cells := h_x g - n0, slots := h_s g - s0, locals := 164 } s m args below meth c H locs cells slots (MQ below (eQ D cy z (rV r) g) args s (h_x g - n0) (h_s g - s0) (fun q => z ≤ q)) (F0 m 18 ls [va_rf y0]) := by
  obtain ⟨hx, hb, hr, hml, hown, hts, hlk⟩ := id C
  intro cells slots h th y0 H locs ls w hsl hl hE
  have hcc : cells ≤ h_x g - n0 ∧ slots ≤ h_s g - s0 := by
    have q1 := mo_K_makeCurve_18 N  h th y0 _ _ hE
    have q2 := wd_x w
    have q3 := q1.1
    have q4 := q1.2.1
    omega
  unfold f_K_makeCurve_18 at hE
  refine lv_aload_n hx hb dX11_makeCurve_18 rfl (lv_at hl 0 rfl) ?_
  refine w_gR (r := some th) (ci := 12) (k := 4) C w rfl (by decide) (GF_wsX110 _) (by decide) rfl (List.mem_cons_of_mem _ gw_2_1) rfl dX11_makeCurve_19 hE (fun v1 e1 => ?_)
  refine w_gR (r := v1) (ci := 1) (k := 0) C w rfl (by decide) (GF_wsX00 _) (by decide) rfl (List.mem_cons_of_mem _ gw_23_9) rfl dX11_makeCurve_22 e1 (fun v2 e2 => ?_)
  refine w_VAV GW_good (n := 1) (F := 1) (Lc := 60) (o := y0) (av := [va_rf v2]) (rest := []) C w rfl (by decide) (fun a r g hf => k_Curve_take l D cy z N h a v2 r g hf) gw_24_5 gw_24_6 gw_24_7 gw_2_22 gw_24_8 (by decide +kernel) ⟨Nat.le_of_ble_eq_true rfl, Nat.le_of_ble_eq_true rfl⟩ rfl hl.1 rfl (Nat.le_of_ble_eq_true rfl) dX11_makeCurve_25 (fun a => (mo_Curve_take N h a v2)) (fun a v3 h4 q1 q2 => by have u1 := (mo_Curve_take N h a v2) _ _ q1; have u2 := mo_K_makeCurve_28 N   h4  _ _ q2; have u3 := wd_x w; have u4 := u1.1; have u5 := u1.2.1; have u6 := u2.1; have u7 := u2.2.1; show cells + _ ≤ h_x g - n0 ∧ slots + _ ≤ h_s g - s0; omega) e2 (fun v3 h4 H locs w hsh4 e3 => ?_)
  exact b_K_makeCurve_28 C hst N n0 s0 hn0   _ _ h4  _ _ ls w (by have u5 := hsh4.2.1; have u8 := hsl; omega) (lv_sub hl [] rfl) e3
set_option maxRecDepth 20000 in
set_option maxHeartbeats 4000000 in
theorem b_K_makeCurve_12 {p : Program} {l : Launch} {e : Env} {s : State} {m : MethodId} {args : Array Value} {below : List Frame} {meth : Method} {c : Code} {D : va_G} {cy : cyT} {z : Nat} (C : MX p s m args meth c cX11_makeCurve 2 (none) RX11 (Cond.code yX11_makeCurve cX11_makeCurve 2 (none) :: GW)) (hst : l.stackTraces = false) (N : Nat) (n0 s0 : Nat) (hn0 : s.heap.size = n0) {r : Unit} {g : hS}  : ∀  (cells slots : Nat) (h : hS) (th : Nat) (x1 : Int32) (y0 : Int32) (H : Heap) (locs : List Loc) (ls : Array Slot), wd D cy z s cells h H locs → h_s h = s0 + slots → lv_has ls 2 [(0, .ref th), (1, .int x1)] → f_K_makeCurve_12 N   h th x1 y0 = some (r, g) → W p l e { frames := 9, cells := h_x g - n0, slots := h_s g - s0, locals := 164 } s m args below meth c H locs cells slots (MQ below (eQ D cy z (rV r) g) args s (h_x g - n0) (h_s g - s0) (fun q => z ≤ q)) (F0 m 12 ls [.int y0]) := by
  obtain ⟨hx, hb, hr, hml, hown, hts, hlk⟩ := id C
  intro cells slots h th x1 y0 H locs ls w hsl hl hE
  have hcc : cells ≤ h_x g - n0 ∧ slots ≤ h_s g - s0 := by
    have q1 := mo_K_makeCurve_12 N  h th x1 y0 _ _ hE
    have q2 := wd_x w
    have q3 := q1.1
    have q4 := q1.2.1
    omega
  unfold f_K_makeCurve_12 at hE
  refine lv_pop hx hb dX11_makeCurve_12 rfl ?_
  refine lv_aload_n hx hb dX11_makeCurve_13 rfl (lv_at hl 0 rfl) ?_
  refine lv_iload_n hx hb dX11_makeCurve_14 rfl (lv_at hl 1 rfl) ?_
  refine w_VAR GW_good (n := 1) (F := 8) (Lc := 122) (o := some th) (av := [.int x1]) (rest := []) C w rfl (by decide) (fun a r g hf => k_K_curveOf l hst D cy z N h a x1 (Sum.inl r) g (fN_some hf)) gw_16_2 gw_16_3 gw_16_4 gw_1_2 gw_16_5 (by decide +kernel) ⟨Nat.le_of_ble_eq_true rfl, Nat.le_of_ble_eq_true rfl⟩ rfl hl.1 rfl (Nat.le_of_ble_eq_true rfl) dX11_makeCurve_15 (fun a => (Mo_fN (mo_K_curveOf N h a x1))) (fun a v1 h2 q1 q2 => by have u1 := (Mo_fN (mo_K_curveOf N h a x1)) _ _ q1; have u2 := mo_K_makeCurve_18 N   h2 th v1 _ _ q2; have u3 := wd_x w; have u4 := u1.1; have u5 := u1.2.1; have u6 := u2.1; have u7 := u2.2.1; show cells + _ ≤ h_x g - n0 ∧ slots + _ ≤ h_s g - s0; omega) hE (fun v1 h2 H locs w hsh2 e1 => ?_)
  exact b_K_makeCurve_18 C hst N n0 s0 hn0   _ _ h2 th v1 _ _ ls w (by have u5 := hsh2.2.1; have u8 := hsl; omega) (lv_sub hl [0] rfl) e1
set_option maxRecDepth 20000 in
set_option maxHeartbeats 4000000 in
theorem b_K_makeCurve_9 {p : Program} {l : Launch} {e : Env} {s : State} {m : MethodId} {args : Array Value} {below : List Frame} {meth : Method} {c : Code} {D : va_G} {cy : cyT} {z : Nat} (C : MX p s m args meth c cX11_makeCurve 2 (none) RX11 (Cond.code yX11_makeCurve cX11_makeCurve 2 (none) :: GW)) (hst : l.stackTraces = false) (N : Nat) (n0 s0 : Nat) (hn0 : s.heap.size = n0) {r : Unit} {g : hS}  : ∀  (cells slots : Nat) (h : hS) (th : Nat) (x1 : Int32) (y0 : Option Nat) (y1 : Option Nat) (H : Heap) (locs : List Loc) (ls : Array Slot), wd D cy z s cells h H locs → h_s h = s0 + slots → lv_has ls 2 [(0, .ref th), (1, .int x1)] → f_K_makeCurve_9 N   h th x1 y0 y1 = some (r, g) → W p l e { frames := 9, cells := h_x g - n0, slots := h_s g - s0, locals := 164 } s m args below meth c H locs cells slots (MQ below (eQ D cy z (rV r) g) args s (h_x g - n0) (h_s g - s0) (fun q => z ≤ q)) (F0 m 9 ls [va_rf y1, va_rf y0]) := by
  obtain ⟨hx, hb, hr, hml, hown, hts, hlk⟩ := id C
  intro cells slots h th x1 y0 y1 H locs ls w hsl hl hE
  have hcc : cells ≤ h_x g - n0 ∧ slots ≤ h_s g - s0 := by
    have q1 := mo_K_makeCurve_9 N  h th x1 y0 y1 _ _ hE
    have q2 := wd_x w
    have q3 := q1.1
    have q4 := q1.2.1
    omega
  unfold f_K_makeCurve_9 at hE
  refine w_VAI GW_good (n := 1) (F := 5) (Lc := 142) (o := y0) (av := [va_rf y1]) (rest := []) C w rfl (by decide) (fun a r g hf => k_Bench_build l D cy z N h a y1 r g hf) gw_19_17 gw_19_18 gw_19_19 gw_2_0 gw_19_20 (by decide +kernel) ⟨Nat.le_of_ble_eq_true rfl, Nat.le_of_ble_eq_true rfl⟩ rfl hl.1 rfl (Nat.le_of_ble_eq_true rfl) dX11_makeCurve_9 (fun a => (mo_Bench_build N h a y1)) (fun a v1 h2 q1 q2 => by have u1 := (mo_Bench_build N h a y1) _ _ q1; have u2 := mo_K_makeCurve_12 N   h2 th x1 v1 _ _ q2; have u3 := wd_x w; have u4 := u1.1; have u5 := u1.2.1; have u6 := u2.1; have u7 := u2.2.1; show cells + _ ≤ h_x g - n0 ∧ slots + _ ≤ h_s g - s0; omega) hE (fun v1 h2 H locs w hsh2 e1 => ?_)
  exact b_K_makeCurve_12 C hst N n0 s0 hn0   _ _ h2 th x1 v1 _ _ ls w (by have u5 := hsh2.2.1; have u8 := hsl; omega) (lv_sub hl [0, 1] rfl) e1
set_option maxRecDepth 20000 in
set_option maxHeartbeats 4000000 in
theorem k_K_makeCurve (l : Launch) (hst : l.stackTraces = false) (D : va_G) (cy : cyT) (z : Nat) (N : Nat) (h : hS) (th : Nat) (x1 : Int32) (r : Unit) (g : hS) (hE : f_K_makeCurve N h th x1 = some (r, g)) : ct l yX11_makeCurve (Cond.code yX11_makeCurve cX11_makeCurve 2 (none) :: GW) { frames := 9, cells := h_x g - h_x h, slots := h_s g - h_s h, locals := 164 } D cy z h [.ref th, .int x1] (rV r) g := by
  refine Met.ofW (cc := cX11_makeCurve) (maxL := 2) (ret := none) (by decide) rfl ?_
  intro p e s m args below meth c s₁ B hml hv
  obtain ⟨rfl, hw⟩ := hv
  have C : MX p s m ([.ref th, .int x1] : List Value).toArray meth c cX11_makeCurve 2 (none) RX11 (Cond.code yX11_makeCurve cX11_makeCurve 2 (none) :: GW) := ⟨B.exec, B.bytes, B.returns, hml, findClass_of_methodNamed B.named, atoms_spec (ws := Cond.code yX11_makeCurve cX11_makeCurve 2 (none) :: GW) B.pre, B.notSynchronized⟩
  obtain ⟨hx, hb, hr, hml, hown, hts, hlk⟩ := id C
  have w := wd_of hw
  have hsl : h_s h = h_s h + 0 := rfl
  have hn0 : s.heap.size = h_x h := (wd_x w).1
  obtain ⟨ls, hen, hl⟩ : ∃ ls : Array Slot, entryFrame m ([.ref th, .int x1] : List Value).toArray 2 = F0 m 0 ls [] ∧ lv_has ls 2 [(0, .ref th), (1, .int x1)] := by
    exact ⟨_, lg_entry_eq _ _ _, lv_entry _ (Nat.le_of_ble_eq_true rfl)⟩
  rw [hen]
  have hcc : 0 ≤ h_x g - h_x h ∧ 0 ≤ h_s g - h_s h := ⟨Nat.zero_le _, Nat.zero_le _⟩
  unfold f_K_makeCurve at hE
  refine lv_aload_n hx hb dX11_makeCurve_0 rfl (lv_at hl 0 rfl) ?_
  refine w_gR (r := some th) (ci := 12) (k := 4) C w rfl (by decide) (GF_wsX110 _) (by decide) rfl (List.mem_cons_of_mem _ gw_2_1) rfl dX11_makeCurve_1 hE (fun v1 e1 => ?_)
  refine lv_aload_n hx hb dX11_makeCurve_4 rfl (lv_at hl 0 rfl) ?_
  refine lv_iload_n hx hb dX11_makeCurve_5 rfl (lv_at hl 1 rfl) ?_
  refine w_VAR GW_good (n := 1) (F := 8) (Lc := 122) (o := some th) (av := [.int x1]) (rest := [va_rf v1]) C w rfl (by decide) (fun a r g hf => k_K_chainOf l hst D cy z N h a x1 (Sum.inl r) g (fN_some hf)) gw_32_8 gw_32_9 gw_32_10 gw_1_2 gw_32_11 (by decide +kernel) ⟨Nat.le_of_ble_eq_true rfl, Nat.le_of_ble_eq_true rfl⟩ rfl hl.1 rfl (cat_le (Nat.le_of_ble_eq_true rfl)) dX11_makeCurve_6 (fun a => (Mo_fN (mo_K_chainOf N h a x1))) (fun a v2 h3 q1 q2 => by have u1 := (Mo_fN (mo_K_chainOf N h a x1)) _ _ q1; have u2 := mo_K_makeCurve_9 N   h3 th x1 v1 v2 _ _ q2; have u3 := wd_x w; have u4 := u1.1; have u5 := u1.2.1; have u6 := u2.1; have u7 := u2.2.1; show 0 + _ ≤ h_x g - (h_x h) ∧ 0 + _ ≤ h_s g - (h_s h); omega) e1 (fun v2 h3 H locs w hsh3 e2 => ?_)
  exact b_K_makeCurve_9 C hst N (h_x h) (h_s h) hn0   _ _ h3 th x1 v1 v2 _ _ ls w (by have u5 := hsh3.2.1; have u8 := hsl; omega) (lv_sub hl [0, 1] rfl) e2
set_option maxRecDepth 20000 in
set_option maxHeartbeats 4000000 in
theorem b_K_undo_20 {p : Program} {l : Launch} {e : Env} {s : State} {m : MethodId} {args : Array Value} {below : List Frame} {meth : Method} {c : Code} {D : va_G} {cy : cyT} {z : Nat} (C : MX p s m args meth c cX11_undo 2 ((some .int)) RX11 (Cond.code yX11_undo cX11_undo 2 ((some .int)) :: GW)) (hst : l.stackTraces = false) (N : Nat) (n0 s0 : Nat) (hn0 : s.heap.size = n0) {r : Int32} {g : hS}  : ∀  (cells slots : Nat) (h : hS) (th : Nat) (H : Heap) (locs : List Loc) (ls : Array Slot), wd D cy z s cells h H locs → h_s h = s0 + slots → lv_has ls 2 [(0, .ref th)] → f_K_undo_20 N   h th = some (r, g) → W p l e { frames := 10, cells := h_x g - n0, slots := h_s g - s0, locals := 185 } s m args below meth c H locs cells slots (MQ below (eQ D cy z (rI r) g) args s (h_x g - n0) (h_s g - s0) (fun q => z ≤ q)) (F0 m 20 ls []) := by
  obtain ⟨hx, hb, hr, hml, hown, hts, hlk⟩ := id C
  intro cells slots h th H locs ls w hsl hl hE
  have hcc : cells ≤ h_x g - n0 ∧ slots ≤ h_s g - s0 := by
    have q1 := mo_K_undo_20 N  h th _ _ hE
    have q2 := wd_x w
    have q3 := q1.1
    have q4 := q1.2.1
    omega
  unfold f_K_undo_20 at hE
  refine lv_aload_n hx hb dX11_undo_20 rfl (lv_at hl 0 rfl) ?_
  refine w_gR (r := some th) (ci := 12) (k := 16) C w rfl (by decide) (GF_wsX110 _) (by decide) rfl (List.mem_cons_of_mem _ gw_3_11) rfl dX11_undo_21 hE (fun v1 e1 => ?_)
  refine w_gI (r := v1) (ci := 7) (k := 3) C w rfl (by decide) (GF_wsX60 _) (by decide) rfl (List.mem_cons_of_mem _ gw_32_6) rfl dX11_undo_24 e1 (fun v2 e2 => ?_)
  refine W.widen (k := h_x g - n0) (n := h_s g - s0) hcc.1 hcc.2 ?_
  exact w_iret C w e2 dX11_undo_27
set_option maxRecDepth 20000 in
set_option maxHeartbeats 4000000 in
theorem b_K_undo_7 {p : Program} {l : Launch} {e : Env} {s : State} {m : MethodId} {args : Array Value} {below : List Frame} {meth : Method} {c : Code} {D : va_G} {cy : cyT} {z : Nat} (C : MX p s m args meth c cX11_undo 2 ((some .int)) RX11 (Cond.code yX11_undo cX11_undo 2 ((some .int)) :: GW)) (hst : l.stackTraces = false) (N : Nat) (n0 s0 : Nat) (hn0 : s.heap.size = n0) {r : Int32} {g : hS}  : ∀  (cells slots : Nat) (h : hS) (th : Nat) (y0 : Int32) (H : Heap) (locs : List Loc) (ls : Array Slot), wd D cy z s cells h H locs → h_s h = s0 + slots → lv_has ls 2 [(0, .ref th)] → f_K_undo_7 N   h th y0 = some (r, g) → W p l e { frames := 10, cells := h_x g - n0, slots := h_s g - s0, locals := 185 } s m args below meth c H locs cells slots (MQ below (eQ D cy z (rI r) g) args s (h_x g - n0) (h_s g - s0) (fun q => z ≤ q)) (F0 m 7 ls [.int y0]) := by
  obtain ⟨hx, hb, hr, hml, hown, hts, hlk⟩ := id C
  intro cells slots h th y0 H locs ls w hsl hl hE
  have hcc : cells ≤ h_x g - n0 ∧ slots ≤ h_s g - s0 := by
    have q1 := mo_K_undo_7 N  h th y0 _ _ hE
    have q2 := wd_x w
    have q3 := q1.1
    have q4 := q1.2.1
    omega
  unfold f_K_undo_7 at hE
  refine lv_istore_n (lv' := [(1, .int y0), (0, .ref th)]) hx hb dX11_undo_7 rfl hl (by decide) rfl (fun ls hl => ?_)
  refine lv_iload_n hx hb dX11_undo_8 rfl (lv_at hl 0 rfl) ?_
  refine lv_iconst (v := -1) hx hb dX11_undo_9 (by decide) ?_
  refine w_icmp_ne (tgt := 15) C dX11_undo_10 (by decide) hE (fun hc e1 => ?_) (fun hc e1 => ?_)
  · refine lv_aload_n hx hb dX11_undo_15 rfl (lv_at hl 1 rfl) ?_
    refine lv_iload_n hx hb dX11_undo_16 rfl (lv_at hl 0 rfl) ?_
    refine w_VAV GW_good (n := 1) (F := 9) (Lc := 164) (o := some th) (av := [.int y0]) (rest := []) C w rfl (by decide) (fun a r g hf => k_K_makeCurve l hst D cy z N h a y0 r g hf) gw_60_2 gw_60_3 gw_60_4 gw_1_2 gw_60_5 (by decide +kernel) ⟨Nat.le_of_ble_eq_true rfl, Nat.le_of_ble_eq_true rfl⟩ rfl hl.1 rfl (Nat.le_of_ble_eq_true rfl) dX11_undo_17 (fun a => (mo_K_makeCurve N h a y0)) (fun a v1 h2 q1 q2 => by have u1 := (mo_K_makeCurve N h a y0) _ _ q1; have u2 := mo_K_undo_20 N   h2 th _ _ q2; have u3 := wd_x w; have u4 := u1.1; have u5 := u1.2.1; have u6 := u2.1; have u7 := u2.2.1; show cells + _ ≤ h_x g - n0 ∧ slots + _ ≤ h_s g - s0; omega) e1 (fun v1 h2 H locs w hsh2 e2 => ?_)
    exact b_K_undo_20 C hst N n0 s0 hn0   _ _ h2 th _ _ ls w (by have u5 := hsh2.2.1; have u8 := hsl; omega) (lv_sub hl [1] rfl) e2
  · refine lv_iconst (v := -1) hx hb dX11_undo_13 (by decide) ?_
    refine W.widen (k := h_x g - n0) (n := h_s g - s0) hcc.1 hcc.2 ?_
    exact w_iret C w e1 dX11_undo_14
set_option maxRecDepth 20000 in
set_option maxHeartbeats 4000000 in
theorem k_K_undo (l : Launch) (hst : l.stackTraces = false) (D : va_G) (cy : cyT) (z : Nat) (N : Nat) (h : hS) (th : Nat) (r : Int32) (g : hS) (hE : f_K_undo N h th = some (r, g)) : ct l yX11_undo (Cond.code yX11_undo cX11_undo 2 ((some .int)) :: GW) { frames := 10, cells := h_x g - h_x h, slots := h_s g - h_s h, locals := 185 } D cy z h [.ref th] (rI r) g := by
  refine Met.ofW (cc := cX11_undo) (maxL := 2) (ret := (some .int)) (by decide) rfl ?_
  intro p e s m args below meth c s₁ B hml hv
  obtain ⟨rfl, hw⟩ := hv
  have C : MX p s m ([.ref th] : List Value).toArray meth c cX11_undo 2 ((some .int)) RX11 (Cond.code yX11_undo cX11_undo 2 ((some .int)) :: GW) := ⟨B.exec, B.bytes, B.returns, hml, findClass_of_methodNamed B.named, atoms_spec (ws := Cond.code yX11_undo cX11_undo 2 ((some .int)) :: GW) B.pre, B.notSynchronized⟩
  obtain ⟨hx, hb, hr, hml, hown, hts, hlk⟩ := id C
  have w := wd_of hw
  have hsl : h_s h = h_s h + 0 := rfl
  have hn0 : s.heap.size = h_x h := (wd_x w).1
  obtain ⟨ls, hen, hl⟩ : ∃ ls : Array Slot, entryFrame m ([.ref th] : List Value).toArray 2 = F0 m 0 ls [] ∧ lv_has ls 2 [(0, .ref th)] := by
    exact ⟨_, lg_entry_eq _ _ _, lv_entry _ (Nat.le_of_ble_eq_true rfl)⟩
  rw [hen]
  have hcc : 0 ≤ h_x g - h_x h ∧ 0 ≤ h_s g - h_s h := ⟨Nat.zero_le _, Nat.zero_le _⟩
  unfold f_K_undo at hE
  refine lv_aload_n hx hb dX11_undo_0 rfl (lv_at hl 0 rfl) ?_
  refine w_gR (r := some th) (ci := 12) (k := 16) C w rfl (by decide) (GF_wsX110 _) (by decide) rfl (List.mem_cons_of_mem _ gw_3_11) rfl dX11_undo_1 hE (fun v1 e1 => ?_)
  refine w_VAI GW_good (n := 0) (F := 3) (Lc := 85) (o := v1) (av := []) (rest := []) C w rfl (by decide) (fun a r g hf => k_State_takeBack l D cy z N h a  r g hf) gw_59_22 gw_59_23 gw_60_0 gw_3_10 gw_60_1 (by decide +kernel) ⟨Nat.le_of_ble_eq_true rfl, Nat.le_of_ble_eq_true rfl⟩ rfl hl.1 rfl (Nat.le_of_ble_eq_true rfl) dX11_undo_4 (fun a => (mo_State_takeBack N h a )) (fun a v2 h3 q1 q2 => by have u1 := (mo_State_takeBack N h a ) _ _ q1; have u2 := mo_K_undo_7 N   h3 th v2 _ _ q2; have u3 := wd_x w; have u4 := u1.1; have u5 := u1.2.1; have u6 := u2.1; have u7 := u2.2.1; show 0 + _ ≤ h_x g - (h_x h) ∧ 0 + _ ≤ h_s g - (h_s h); omega) e1 (fun v2 h3 H locs w hsh3 e2 => ?_)
  exact b_K_undo_7 C hst N (h_x h) (h_s h) hn0   _ _ h3 th v2 _ _ ls w (by have u5 := hsh3.2.1; have u8 := hsl; omega) (lv_sub hl [0] rfl) e2
set_option maxRecDepth 20000 in
set_option maxHeartbeats 4000000 in
theorem b_K_note_19 {p : Program} {l : Launch} {e : Env} {s : State} {m : MethodId} {args : Array Value} {below : List Frame} {meth : Method} {c : Code} {D : va_G} {cy : cyT} {z : Nat} (C : MX p s m args meth c cX11_note 4 ((some .int)) RX11 (Cond.code yX11_note cX11_note 4 ((some .int)) :: GW)) (N : Nat) {r : Int32} {g : hS}  : ∀  (h : hS) (th : Nat) (H : Heap) (locs : List Loc) (ls : Array Slot), wd D cy z s 0 h H locs → lv_has ls 4 [(0, .ref th)] → f_K_note_19 N   h th = some (r, g) → W p l e { frames := 1, cells := 0, slots := 0, locals := 20 } s m args below meth c H locs 0 0 (MQ below (eQ D cy z (rI r) g) args s 0 0 (fun q => z ≤ q)) (F0 m 19 ls []) := by
  obtain ⟨hx, hb, hr, hml, hown, hts, hlk⟩ := id C
  intro  h th H locs ls w  hl hE
  unfold f_K_note_19 at hE
  refine lv_aload_n hx hb dX11_note_19 rfl (lv_at hl 0 rfl) ?_
  refine w_gR (r := some th) (ci := 12) (k := 16) C w rfl (by decide) (GF_wsX110 _) (by decide) rfl (List.mem_cons_of_mem _ gw_3_11) rfl dX11_note_20 hE (fun v1 e1 => ?_)
  refine w_gR (r := v1) (ci := 7) (k := 7) C w rfl (by decide) (GF_wsX60 _) (by decide) rfl (List.mem_cons_of_mem _ gw_15_5) rfl dX11_note_23 e1 (fun v2 e2 => ?_)
  refine lv_iconst (v := 2) hx hb dX11_note_26 (by decide) ?_
  refine lv_dup2_11 hx hb dX11_note_27 rfl (va_rf_cat _) ?_
  refine w_aI (r := v2) C w dX11_note_28 e2 (fun v3 e3 => ?_)
  refine lv_iconst (v := 1) hx hb dX11_note_29 (by decide) ?_
  refine lv_iadd hx hb dX11_note_30 ?_
  refine w_uI (r := v2) C w dX11_note_31 e3 (fun h4 H locs w hsh4 e4 => ?_)
  refine lv_iconst (v := -1) hx hb dX11_note_32 (by decide) ?_
  exact w_iret C w e4 dX11_note_33
set_option maxRecDepth 20000 in
set_option maxHeartbeats 4000000 in
theorem k_K_note (l : Launch) (D : va_G) (cy : cyT) (z : Nat) (N : Nat) (h : hS) (th : Nat) (x1 : Int32) (x2 : Int64) (r : Int32) (g : hS) (hE : f_K_note N h th x1 x2 = some (r, g)) : ct l yX11_note (Cond.code yX11_note cX11_note 4 ((some .int)) :: GW) { frames := 1, cells := 0, slots := 0, locals := 20 } D cy z h [.ref th, .int x1, .long x2] (rI r) g := by
  refine Met.ofW (cc := cX11_note) (maxL := 4) (ret := (some .int)) (by decide) rfl ?_
  intro p e s m args below meth c s₁ B hml hv
  obtain ⟨rfl, hw⟩ := hv
  have C : MX p s m ([.ref th, .int x1, .long x2] : List Value).toArray meth c cX11_note 4 ((some .int)) RX11 (Cond.code yX11_note cX11_note 4 ((some .int)) :: GW) := ⟨B.exec, B.bytes, B.returns, hml, findClass_of_methodNamed B.named, atoms_spec (ws := Cond.code yX11_note cX11_note 4 ((some .int)) :: GW) B.pre, B.notSynchronized⟩
  obtain ⟨hx, hb, hr, hml, hown, hts, hlk⟩ := id C
  have w := wd_of hw
  obtain ⟨ls, hen, hl⟩ : ∃ ls : Array Slot, entryFrame m ([.ref th, .int x1, .long x2] : List Value).toArray 4 = F0 m 0 ls [] ∧ lv_has ls 4 [(0, .ref th), (1, .int x1), (2, .long x2)] := by
    exact ⟨_, lg_entry_eq _ _ _, lv_entry _ (Nat.le_of_ble_eq_true rfl)⟩
  rw [hen]
  unfold f_K_note at hE
  refine lv_aload_n hx hb dX11_note_0 rfl (lv_at hl 0 rfl) ?_
  refine w_gR (r := some th) (ci := 12) (k := 16) C w rfl (by decide) (GF_wsX110 _) (by decide) rfl (List.mem_cons_of_mem _ gw_3_11) rfl dX11_note_1 hE (fun v1 e1 => ?_)
  refine w_gI (r := v1) (ci := 7) (k := 6) C w rfl (by decide) (GF_wsX60 _) (by decide) rfl (List.mem_cons_of_mem _ gw_32_7) rfl dX11_note_4 e1 (fun v2 e2 => ?_)
  refine lv_bipush (v := 8) hx hb dX11_note_7 (by decide) ?_
  refine w_icmp_ge (tgt := 19) C dX11_note_9 (by decide) e2 (fun hc e3 => ?_) (fun hc e3 => ?_)
  · exact b_K_note_19 C N     h th _ _ ls w  (lv_sub hl [0] rfl) e3
  · refine lv_iload_n hx hb dX11_note_12 rfl (lv_at hl 1 rfl) ?_
    refine w_SI GW_good (n := 1) (F := 0) (Lc := 0) (av := [.int x1]) (rest := []) C w (fun r g hf => k_K_isX l D cy z N h x1 r g hf) gw_34_12 gw_34_13 gw_1_2 gw_34_14 (by decide +kernel) ⟨Nat.le_of_ble_eq_true rfl, Nat.le_of_ble_eq_true rfl⟩ rfl hl.1 rfl (Nat.le_of_ble_eq_true rfl) dX11_note_13 (sh_K_isX N h x1) ⟨by decide, by decide⟩ e3 (fun v3 h4 H locs w hsh4 e4 => ?_)
    refine w_if_ne (tgt := 34) C dX11_note_16 (by decide) e4 (fun hc e5 => ?_) (fun hc e5 => ?_)
    · refine lv_aload_n hx hb dX11_note_34 rfl (lv_at hl 0 rfl) ?_
      refine w_gR (r := some th) (ci := 12) (k := 16) C w rfl (by decide) (GF_wsX110 _) (by decide) rfl (List.mem_cons_of_mem _ gw_3_11) rfl dX11_note_35 e5 (fun v5 e6 => ?_)
      refine w_gR (r := v5) (ci := 7) (k := 4) C w rfl (by decide) (GF_wsX60 _) (by decide) rfl (List.mem_cons_of_mem _ gw_60_14) rfl dX11_note_38 e6 (fun v6 e7 => ?_)
      refine lv_aload_n hx hb dX11_note_41 rfl (lv_at hl 0 rfl) ?_
      refine w_gR (r := some th) (ci := 12) (k := 16) C w rfl (by decide) (GF_wsX110 _) (by decide) rfl (List.mem_cons_of_mem _ gw_3_11) rfl dX11_note_42 e7 (fun v7 e8 => ?_)
      refine w_gI (r := v7) (ci := 7) (k := 6) C w rfl (by decide) (GF_wsX60 _) (by decide) rfl (List.mem_cons_of_mem _ gw_32_7) rfl dX11_note_45 e8 (fun v8 e9 => ?_)
      refine lv_iload_n hx hb dX11_note_48 rfl (lv_at hl 1 rfl) ?_
      refine w_uI (r := v6) C w dX11_note_49 e9 (fun h9 H locs w hsh9 e10 => ?_)
      refine lv_aload_n hx hb dX11_note_50 rfl (lv_at hl 0 rfl) ?_
      refine w_gR (r := some th) (ci := 12) (k := 16) C w rfl (by decide) (GF_wsX110 _) (by decide) rfl (List.mem_cons_of_mem _ gw_3_11) rfl dX11_note_51 e10 (fun v10 e11 => ?_)
      refine w_gR (r := v10) (ci := 7) (k := 5) C w rfl (by decide) (GF_wsX60 _) (by decide) rfl (List.mem_cons_of_mem _ gw_60_15) rfl dX11_note_54 e11 (fun v11 e12 => ?_)
      refine lv_aload_n hx hb dX11_note_57 rfl (lv_at hl 0 rfl) ?_
      refine w_gR (r := some th) (ci := 12) (k := 16) C w rfl (by decide) (GF_wsX110 _) (by decide) rfl (List.mem_cons_of_mem _ gw_3_11) rfl dX11_note_58 e12 (fun v12 e13 => ?_)
      refine w_gI (r := v12) (ci := 7) (k := 6) C w rfl (by decide) (GF_wsX60 _) (by decide) rfl (List.mem_cons_of_mem _ gw_32_7) rfl dX11_note_61 e13 (fun v13 e14 => ?_)
      refine lv_lload_n hx hb dX11_note_64 rfl (lv_at hl 2 rfl) ?_
      refine w_uJ (r := v11) C w dX11_note_65 e14 (fun h14 H locs w hsh14 e15 => ?_)
      refine lv_aload_n hx hb dX11_note_66 rfl (lv_at hl 0 rfl) ?_
      refine w_gR (r := some th) (ci := 12) (k := 16) C w rfl (by decide) (GF_wsX110 _) (by decide) rfl (List.mem_cons_of_mem _ gw_3_11) rfl dX11_note_67 e15 (fun v15 e16 => ?_)
      refine lv_dup hx hb dX11_note_70 (va_rf_cat _) ?_
      refine w_gI (r := v15) (ci := 7) (k := 6) C w rfl (by decide) (GF_wsX60 _) (by decide) rfl (List.mem_cons_of_mem _ gw_32_7) rfl dX11_note_71 e16 (fun v16 e17 => ?_)
      refine lv_iconst (v := 1) hx hb dX11_note_74 (by decide) ?_
      refine lv_iadd hx hb dX11_note_75 ?_
      refine w_pI (r := v15) (ci := 7) (k := 6) C w rfl (by decide) (by unfold roK; omega) (GF_wsX60 _) tyX6 tyX6_ok nmX6 (by decide) rfl (List.mem_cons_of_mem _ gw_32_7) rfl rfl (tyX6_ok 6 (by decide)) dX11_note_76 e17 (fun h17 H locs w hsh17 e18 => ?_)
      refine lv_aload_n hx hb dX11_note_79 rfl (lv_at hl 0 rfl) ?_
      refine w_gR (r := some th) (ci := 12) (k := 16) C w rfl (by decide) (GF_wsX110 _) (by decide) rfl (List.mem_cons_of_mem _ gw_3_11) rfl dX11_note_80 e18 (fun v18 e19 => ?_)
      refine w_gI (r := v18) (ci := 7) (k := 6) C w rfl (by decide) (GF_wsX60 _) (by decide) rfl (List.mem_cons_of_mem _ gw_32_7) rfl dX11_note_83 e19 (fun v19 e20 => ?_)
      exact w_iret C w e20 dX11_note_86
    · exact b_K_note_19 C N     h4 th _ _ ls w  (lv_sub hl [0] rfl) e5
set_option maxRecDepth 20000 in
set_option maxHeartbeats 4000000 in
theorem b_K_needWeighted_30 {p : Program} {l : Launch} {e : Env} {s : State} {m : MethodId} {args : Array Value} {below : List Frame} {meth : Method} {c : Code} {D : va_G} {cy : cyT} {z : Nat} (C : MX p s m args meth c cX11_needWeighted 3 (none) RX11 (Cond.code yX11_needWeighted cX11_needWeighted 3 (none) :: GW)) (hst : l.stackTraces = false) (hxt : ∀ x ∈ c.exceptionTable.toList, False) (N : Nat) (n0 s0 : Nat) (hn0 : s.heap.size = n0) {r : (Unit ⊕ Nat)} {g : hS}  : ∀  (cells slots : Nat) (h : hS)  (H : Heap) (locs : List Loc) (ls : Array Slot), wd D cy z s cells h H locs → h_s h = s0 + slots → lv_has ls 3 [] → f_K_needWeighted_30 N   h  = some (r, g) → W p l e { frames := 10, cells := h_x g - n0, slots := h_s g - s0, locals := 166 } s m args below meth c H locs cells slots (eT D cy z rV r g below args s (h_x g - n0) (h_s g - s0)) (F0 m 30 ls []) := by
  obtain ⟨hx, hb, hr, hml, hown, hts, hlk⟩ := id C
  intro cells slots h  H locs ls w hsl hl hE
  have hcc : cells ≤ h_x g - n0 ∧ slots ≤ h_s g - s0 := by
    have q1 := mo_K_needWeighted_30 N  h  _ _ hE
    have q2 := wd_x w
    have q3 := q1.1
    have q4 := q1.2.1
    omega
  unfold f_K_needWeighted_30 at hE
  refine W.widen (k := h_x g - n0) (n := h_s g - s0) hcc.1 hcc.2 ?_
  exact w_vretT C w hE dX11_needWeighted_30
set_option maxRecDepth 20000 in
set_option maxHeartbeats 4000000 in
theorem b_K_needWeighted_27 {p : Program} {l : Launch} {e : Env} {s : State} {m : MethodId} {args : Array Value} {below : List Frame} {meth : Method} {c : Code} {D : va_G} {cy : cyT} {z : Nat} (C : MX p s m args meth c cX11_needWeighted 3 (none) RX11 (Cond.code yX11_needWeighted cX11_needWeighted 3 (none) :: GW)) (hst : l.stackTraces = false) (hxt : ∀ x ∈ c.exceptionTable.toList, False) (N : Nat) (n0 s0 : Nat) (hn0 : s.heap.size = n0) {r : (Unit ⊕ Nat)} {g : hS}  : ∀  (cells slots : Nat) (h : hS) (y0 : Int32) (H : Heap) (locs : List Loc) (ls : Array Slot), wd D cy z s cells h H locs → h_s h = s0 + slots → lv_has ls 3 [] → f_K_needWeighted_27 N   h y0 = some (r, g) → W p l e { frames := 10, cells := h_x g - n0, slots := h_s g - s0, locals := 166 } s m args below meth c H locs cells slots (eT D cy z rV r g below args s (h_x g - n0) (h_s g - s0)) (F0 m 27 ls [.int y0]) := by
  obtain ⟨hx, hb, hr, hml, hown, hts, hlk⟩ := id C
  intro cells slots h y0 H locs ls w hsl hl hE
  have hcc : cells ≤ h_x g - n0 ∧ slots ≤ h_s g - s0 := by
    have q1 := mo_K_needWeighted_27 N  h y0 _ _ hE
    have q2 := wd_x w
    have q3 := q1.1
    have q4 := q1.2.1
    omega
  unfold f_K_needWeighted_27 at hE
  refine w_STV GW_good (n := 1) (F := 6) (Lc := 82) (av := [.int y0]) (rest := []) hxt hn0 hsl C w (fun r g hf => k_K_needSuch l hst D cy z N h y0 r g hf) gw_9_15 gw_9_16 gw_1_2 gw_9_17 (by decide +kernel) ⟨Nat.le_of_ble_eq_true rfl, Nat.le_of_ble_eq_true rfl⟩ rfl hl.1 rfl (Nat.le_of_ble_eq_true rfl) dX11_needWeighted_27 (mo_K_needSuch N h y0) (fun v1 h2 => mo_K_needWeighted_30 N   h2 ) hE (fun v1 h2 H locs w hsh2 e1 => ?_)
  exact b_K_needWeighted_30 C hst hxt N n0 s0 hn0   _ _ h2  _ _ ls w (by have u5 := hsh2.2.1; have u8 := hsl; omega) (lv_sub hl [] rfl) e1
set_option maxRecDepth 20000 in
set_option maxHeartbeats 4000000 in
theorem b_K_needWeighted_26 {p : Program} {l : Launch} {e : Env} {s : State} {m : MethodId} {args : Array Value} {below : List Frame} {meth : Method} {c : Code} {D : va_G} {cy : cyT} {z : Nat} (C : MX p s m args meth c cX11_needWeighted 3 (none) RX11 (Cond.code yX11_needWeighted cX11_needWeighted 3 (none) :: GW)) (hst : l.stackTraces = false) (hxt : ∀ x ∈ c.exceptionTable.toList, False) (N : Nat) (n0 s0 : Nat) (hn0 : s.heap.size = n0) {r : (Unit ⊕ Nat)} {g : hS}  : ∀  (cells slots : Nat) (h : hS)  (H : Heap) (locs : List Loc) (ls : Array Slot), wd D cy z s cells h H locs → h_s h = s0 + slots → lv_has ls 3 [] → f_K_needWeighted_26 N   h  = some (r, g) → W p l e { frames := 10, cells := h_x g - n0, slots := h_s g - s0, locals := 166 } s m args below meth c H locs cells slots (eT D cy z rV r g below args s (h_x g - n0) (h_s g - s0)) (F0 m 26 ls []) := by
  obtain ⟨hx, hb, hr, hml, hown, hts, hlk⟩ := id C
  intro cells slots h  H locs ls w hsl hl hE
  have hcc : cells ≤ h_x g - n0 ∧ slots ≤ h_s g - s0 := by
    have q1 := mo_K_needWeighted_26 N  h  _ _ hE
    have q2 := wd_x w
    have q3 := q1.1
    have q4 := q1.2.1
    omega
  unfold f_K_needWeighted_26 at hE
  refine lv_iconst (v := 0) hx hb dX11_needWeighted_26 (by decide) ?_
  exact b_K_needWeighted_27 C hst hxt N n0 s0 hn0   _ _ h (0 : Int32) _ _ ls w hsl (lv_sub hl [] rfl) hE
set_option maxRecDepth 20000 in
set_option maxHeartbeats 4000000 in
theorem b_K_needWeighted_22 {p : Program} {l : Launch} {e : Env} {s : State} {m : MethodId} {args : Array Value} {below : List Frame} {meth : Method} {c : Code} {D : va_G} {cy : cyT} {z : Nat} (C : MX p s m args meth c cX11_needWeighted 3 (none) RX11 (Cond.code yX11_needWeighted cX11_needWeighted 3 (none) :: GW)) (hst : l.stackTraces = false) (hxt : ∀ x ∈ c.exceptionTable.toList, False) (N : Nat) (n0 s0 : Nat) (hn0 : s.heap.size = n0) {r : (Unit ⊕ Nat)} {g : hS}  : ∀  (cells slots : Nat) (h : hS)  (H : Heap) (locs : List Loc) (ls : Array Slot), wd D cy z s cells h H locs → h_s h = s0 + slots → lv_has ls 3 [] → f_K_needWeighted_22 N   h  = some (r, g) → W p l e { frames := 10, cells := h_x g - n0, slots := h_s g - s0, locals := 166 } s m args below meth c H locs cells slots (eT D cy z rV r g below args s (h_x g - n0) (h_s g - s0)) (F0 m 22 ls []) := by
  obtain ⟨hx, hb, hr, hml, hown, hts, hlk⟩ := id C
  intro cells slots h  H locs ls w hsl hl hE
  have hcc : cells ≤ h_x g - n0 ∧ slots ≤ h_s g - s0 := by
    have q1 := mo_K_needWeighted_22 N  h  _ _ hE
    have q2 := wd_x w
    have q3 := q1.1
    have q4 := q1.2.1
    omega
  unfold f_K_needWeighted_22 at hE
  refine lv_iconst (v := 1) hx hb dX11_needWeighted_22 (by decide) ?_
  refine lv_goto (tgt := 27) hx hb dX11_needWeighted_23 (by decide) ?_
  exact b_K_needWeighted_27 C hst hxt N n0 s0 hn0   _ _ h (1 : Int32) _ _ ls w hsl (lv_sub hl [] rfl) hE
set_option maxRecDepth 20000 in
set_option maxHeartbeats 4000000 in
theorem b_K_needWeighted_6 {p : Program} {l : Launch} {e : Env} {s : State} {m : MethodId} {args : Array Value} {below : List Frame} {meth : Method} {c : Code} {D : va_G} {cy : cyT} {z : Nat} (C : MX p s m args meth c cX11_needWeighted 3 (none) RX11 (Cond.code yX11_needWeighted cX11_needWeighted 3 (none) :: GW)) (hst : l.stackTraces = false) (hxt : ∀ x ∈ c.exceptionTable.toList, False) (N : Nat) (n0 s0 : Nat) (hn0 : s.heap.size = n0) {r : (Unit ⊕ Nat)} {g : hS}  : ∀  (cells slots : Nat) (h : hS) (x2 : Int32) (y0 : Option Nat) (H : Heap) (locs : List Loc) (ls : Array Slot), wd D cy z s cells h H locs → h_s h = s0 + slots → lv_has ls 3 [(2, .int x2)] → f_K_needWeighted_6 N   h x2 y0 = some (r, g) → W p l e { frames := 10, cells := h_x g - n0, slots := h_s g - s0, locals := 166 } s m args below meth c H locs cells slots (eT D cy z rV r g below args s (h_x g - n0) (h_s g - s0)) (F0 m 6 ls [va_rf y0]) := by
  obtain ⟨hx, hb, hr, hml, hown, hts, hlk⟩ := id C
  intro cells slots h x2 y0 H locs ls w hsl hl hE
  have hcc : cells ≤ h_x g - n0 ∧ slots ≤ h_s g - s0 := by
    have q1 := mo_K_needWeighted_6 N  h x2 y0 _ _ hE
    have q2 := wd_x w
    have q3 := q1.1
    have q4 := q1.2.1
    omega
  unfold f_K_needWeighted_6 at hE
  refine w_gI (r := y0) (ci := 8) (k := 0) C w rfl (by decide) (GF_wsX70 _) (by decide) rfl (List.mem_cons_of_mem _ gw_33_1) rfl dX11_needWeighted_6 hE (fun v1 e1 => ?_)
  refine lv_iconst (v := 2) hx hb dX11_needWeighted_9 (by decide) ?_
  refine w_icmp_gt (tgt := 26) C dX11_needWeighted_10 (by decide) e1 (fun hc e2 => ?_) (fun hc e2 => ?_)
  · exact b_K_needWeighted_26 C hst hxt N n0 s0 hn0   _ _ h  _ _ ls w hsl (lv_sub hl [] rfl) e2
  · refine lv_iload_n hx hb dX11_needWeighted_13 rfl (lv_at hl 0 rfl) ?_
    refine w_if_eq (tgt := 22) C dX11_needWeighted_14 (by decide) e2 (fun hc e3 => ?_) (fun hc e3 => ?_)
    · exact b_K_needWeighted_22 C hst hxt N n0 s0 hn0   _ _ h  _ _ ls w hsl (lv_sub hl [] rfl) e3
    · refine lv_iload_n hx hb dX11_needWeighted_17 rfl (lv_at hl 0 rfl) ?_
      refine lv_iconst (v := 1) hx hb dX11_needWeighted_18 (by decide) ?_
      refine w_icmp_ne (tgt := 26) C dX11_needWeighted_19 (by decide) e3 (fun hc e4 => ?_) (fun hc e4 => ?_)
      · exact b_K_needWeighted_26 C hst hxt N n0 s0 hn0   _ _ h  _ _ ls w hsl (lv_sub hl [] rfl) e4
      · exact b_K_needWeighted_22 C hst hxt N n0 s0 hn0   _ _ h  _ _ ls w hsl (lv_sub hl [] rfl) e4
set_option maxRecDepth 20000 in
set_option maxHeartbeats 4000000 in
theorem k_K_needWeighted (l : Launch) (hst : l.stackTraces = false) (D : va_G) (cy : cyT) (z : Nat) (N : Nat) (h : hS) (th : Nat) (x1 : Int32) (x2 : Int32) (r : (Unit ⊕ Nat)) (g : hS) (hE : f_K_needWeighted N h th x1 x2 = some (r, g)) : ctT l yX11_needWeighted (Cond.code yX11_needWeighted cX11_needWeighted 3 (none) :: GW) { frames := 10, cells := h_x g - h_x h, slots := h_s g - h_s h, locals := 166 } D cy z h [.ref th, .int x1, .int x2] rV r g := by
  refine ctT_of (cc := cX11_needWeighted) (maxL := 3) (ret := none) (by decide) ?_
  intro p e s m args below meth c s₁ B hml hxt hv
  obtain ⟨rfl, hw⟩ := hv
  have C : MX p s m ([.ref th, .int x1, .int x2] : List Value).toArray meth c cX11_needWeighted 3 (none) RX11 (Cond.code yX11_needWeighted cX11_needWeighted 3 (none) :: GW) := ⟨B.exec, B.bytes, B.returns, hml, findClass_of_methodNamed B.named, atoms_spec (ws := Cond.code yX11_needWeighted cX11_needWeighted 3 (none) :: GW) B.pre, B.notSynchronized⟩
  obtain ⟨hx, hb, hr, hml, hown, hts, hlk⟩ := id C
  have w := wd_of hw
  have hsl : h_s h = h_s h + 0 := rfl
  have hn0 : s.heap.size = h_x h := (wd_x w).1
  obtain ⟨ls, hen, hl⟩ : ∃ ls : Array Slot, entryFrame m ([.ref th, .int x1, .int x2] : List Value).toArray 3 = F0 m 0 ls [] ∧ lv_has ls 3 [(0, .ref th), (1, .int x1), (2, .int x2)] := by
    exact ⟨_, lg_entry_eq _ _ _, lv_entry _ (Nat.le_of_ble_eq_true rfl)⟩
  rw [hen]
  have hcc : 0 ≤ h_x g - h_x h ∧ 0 ≤ h_s g - h_s h := ⟨Nat.zero_le _, Nat.zero_le _⟩
  unfold f_K_needWeighted at hE
  refine lv_aload_n hx hb dX11_needWeighted_0 rfl (lv_at hl 0 rfl) ?_
  refine lv_iconst (v := 0) hx hb dX11_needWeighted_1 (by decide) ?_
  refine lv_iload_n hx hb dX11_needWeighted_2 rfl (lv_at hl 1 rfl) ?_
  refine w_VTR GW_good (n := 2) (F := 9) (Lc := 143) (ob := some th) (av := [.int (0 : Int32), .int x1]) (rest := []) hxt hn0 hsl C w rfl (by decide) (fun a r g hf => k_K_stepOf l hst D cy z N h a (0 : Int32) x1 r g hf) gw_33_4 gw_33_5 gw_33_6 gw_1_2 gw_33_7 (by decide +kernel) ⟨Nat.le_of_ble_eq_true rfl, Nat.le_of_ble_eq_true rfl⟩ rfl hl.1 rfl (Nat.le_of_ble_eq_true rfl) dX11_needWeighted_3 (fun a => (mo_K_stepOf N h a (0 : Int32) x1)) (fun v1 h2 => mo_K_needWeighted_6 N   h2 x2 v1) hE (fun v1 h2 H locs w hsh2 e1 => ?_)
  exact b_K_needWeighted_6 C hst hxt N (h_x h) (h_s h) hn0   _ _ h2 x2 v1 _ _ ls w (by have u5 := hsh2.2.1; have u8 := hsl; omega) (lv_sub hl [2] rfl) e1
set_option maxRecDepth 20000 in
set_option maxHeartbeats 4000000 in
theorem b_K_fits_102 {p : Program} {l : Launch} {e : Env} {s : State} {m : MethodId} {args : Array Value} {below : List Frame} {meth : Method} {c : Code} {D : va_G} {cy : cyT} {z : Nat} (C : MX p s m args meth c cX11_fits 7 ((some .int)) RX11 (Cond.code yX11_fits cX11_fits 7 ((some .int)) :: GW)) (hst : l.stackTraces = false) (hxt : ∀ x ∈ c.exceptionTable.toList, False) (N : Nat) (n0 s0 : Nat) (hn0 : s.heap.size = n0) {r : (Int32 ⊕ Nat)} {g : hS}  : ∀  (cells slots : Nat) (h : hS) (y0 : Int32) (H : Heap) (locs : List Loc) (ls : Array Slot), wd D cy z s cells h H locs → h_s h = s0 + slots → lv_has ls 7 [] → f_K_fits_102 N   h y0 = some (r, g) → W p l e { frames := 11, cells := h_x g - n0, slots := h_s g - s0, locals := 188 } s m args below meth c H locs cells slots (eT D cy z rI r g below args s (h_x g - n0) (h_s g - s0)) (F0 m 102 ls [.int y0]) := by
  obtain ⟨hx, hb, hr, hml, hown, hts, hlk⟩ := id C
  intro cells slots h y0 H locs ls w hsl hl hE
  have hcc : cells ≤ h_x g - n0 ∧ slots ≤ h_s g - s0 := by
    have q1 := mo_K_fits_102 N  h y0 _ _ hE
    have q2 := wd_x w
    have q3 := q1.1
    have q4 := q1.2.1
    omega
  unfold f_K_fits_102 at hE
  refine W.widen (k := h_x g - n0) (n := h_s g - s0) hcc.1 hcc.2 ?_
  exact w_iretT C w hE dX11_fits_102
set_option maxRecDepth 20000 in
set_option maxHeartbeats 4000000 in
theorem b_K_fits_85 {p : Program} {l : Launch} {e : Env} {s : State} {m : MethodId} {args : Array Value} {below : List Frame} {meth : Method} {c : Code} {D : va_G} {cy : cyT} {z : Nat} (C : MX p s m args meth c cX11_fits 7 ((some .int)) RX11 (Cond.code yX11_fits cX11_fits 7 ((some .int)) :: GW)) (hst : l.stackTraces = false) (hxt : ∀ x ∈ c.exceptionTable.toList, False) (N : Nat) (n0 s0 : Nat) (hn0 : s.heap.size = n0) {r : (Int32 ⊕ Nat)} {g : hS} {rc30 : hS → Nat → Int32 → Int32 → Option Nat → Int32 → Int32 → Int32 → Option ((Int32 ⊕ Nat) × hS)} (hsh30 : ∀ (h : hS) (th : Nat) (x1 : Int32) (x2 : Int32) (a3 : Option Nat) (x4 : Int32) (x5 : Int32) (x6 : Int32), Mo h (rc30 h th x1 x2 a3 x4 x5 x6)) (hrc30 : ∀ (cells slots : Nat) (h : hS) (th : Nat) (x1 : Int32) (x2 : Int32) (a3 : Option Nat) (x4 : Int32) (x5 : Int32) (x6 : Int32) (H : Heap) (locs : List Loc) (ls : Array Slot), wd D cy z s cells h H locs → h_s h = s0 + slots → lv_has ls 7 [(0, .ref th), (1, .int x1), (2, .int x2), (3, va_rf a3), (4, .int x4), (5, .int x5), (6, .int x6)] → rc30 h th x1 x2 a3 x4 x5 x6 = some (r, g) → W p l e { frames := 11, cells := h_x g - n0, slots := h_s g - s0, locals := 188 } s m args below meth c H locs cells slots (eT D cy z rI r g below args s (h_x g - n0) (h_s g - s0)) (F0 m 30 ls [])) : ∀  (cells slots : Nat) (h : hS) (th : Nat) (x1 : Int32) (x2 : Int32) (a3 : Option Nat) (x4 : Int32) (x5 : Int32) (x6 : Int32) (H : Heap) (locs : List Loc) (ls : Array Slot), wd D cy z s cells h H locs → h_s h = s0 + slots → lv_has ls 7 [(0, .ref th), (1, .int x1), (2, .int x2), (3, va_rf a3), (4, .int x4), (5, .int x5), (6, .int x6)] → f_K_fits_85 N rc30  h th x1 x2 a3 x4 x5 x6 = some (r, g) → W p l e { frames := 11, cells := h_x g - n0, slots := h_s g - s0, locals := 188 } s m args below meth c H locs cells slots (eT D cy z rI r g below args s (h_x g - n0) (h_s g - s0)) (F0 m 85 ls []) := by
  obtain ⟨hx, hb, hr, hml, hown, hts, hlk⟩ := id C
  intro cells slots h th x1 x2 a3 x4 x5 x6 H locs ls w hsl hl hE
  have hcc : cells ≤ h_x g - n0 ∧ slots ≤ h_s g - s0 := by
    have q1 := mo_K_fits_85 N hsh30 h th x1 x2 a3 x4 x5 x6 _ _ hE
    have q2 := wd_x w
    have q3 := q1.1
    have q4 := q1.2.1
    omega
  unfold f_K_fits_85 at hE
  obtain ⟨v1, ev1, e1⟩ := bn_some hE
  refine lv_iinc (v := v1) (lv' := [(6, .int v1), (0, .ref th), (1, .int x1), (2, .int x2), (3, va_rf a3), (4, .int x4), (5, .int x5)]) hx hb dX11_fits_85 hl (k := 6) rfl (by rw [ev1]; rfl) (by decide) rfl (fun ls hl => ?_)
  refine lv_goto (tgt := 30) hx hb dX11_fits_88 (by decide) ?_
  exact hrc30 _ _ h th x1 x2 a3 x4 x5 v1 _ _ ls w hsl (lv_sub hl [1, 2, 3, 4, 5, 6, 0] rfl) e1
set_option maxRecDepth 20000 in
set_option maxHeartbeats 4000000 in
theorem b_K_fits_80 {p : Program} {l : Launch} {e : Env} {s : State} {m : MethodId} {args : Array Value} {below : List Frame} {meth : Method} {c : Code} {D : va_G} {cy : cyT} {z : Nat} (C : MX p s m args meth c cX11_fits 7 ((some .int)) RX11 (Cond.code yX11_fits cX11_fits 7 ((some .int)) :: GW)) (hst : l.stackTraces = false) (hxt : ∀ x ∈ c.exceptionTable.toList, False) (N : Nat) (n0 s0 : Nat) (hn0 : s.heap.size = n0) {r : (Int32 ⊕ Nat)} {g : hS} {rc30 : hS → Nat → Int32 → Int32 → Option Nat → Int32 → Int32 → Int32 → Option ((Int32 ⊕ Nat) × hS)} (hsh30 : ∀ (h : hS) (th : Nat) (x1 : Int32) (x2 : Int32) (a3 : Option Nat) (x4 : Int32) (x5 : Int32) (x6 : Int32), Mo h (rc30 h th x1 x2 a3 x4 x5 x6)) (hrc30 : ∀ (cells slots : Nat) (h : hS) (th : Nat) (x1 : Int32) (x2 : Int32) (a3 : Option Nat) (x4 : Int32) (x5 : Int32) (x6 : Int32) (H : Heap) (locs : List Loc) (ls : Array Slot), wd D cy z s cells h H locs → h_s h = s0 + slots → lv_has ls 7 [(0, .ref th), (1, .int x1), (2, .int x2), (3, va_rf a3), (4, .int x4), (5, .int x5), (6, .int x6)] → rc30 h th x1 x2 a3 x4 x5 x6 = some (r, g) → W p l e { frames := 11, cells := h_x g - n0, slots := h_s g - s0, locals := 188 } s m args below meth c H locs cells slots (eT D cy z rI r g below args s (h_x g - n0) (h_s g - s0)) (F0 m 30 ls [])) : ∀  (cells slots : Nat) (h : hS) (th : Nat) (x1 : Int32) (x2 : Int32) (a3 : Option Nat) (x4 : Int32) (x6 : Int32) (y0 : Int32) (H : Heap) (locs : List Loc) (ls : Array Slot), wd D cy z s cells h H locs → h_s h = s0 + slots → lv_has ls 7 [(0, .ref th), (1, .int x1), (2, .int x2), (3, va_rf a3), (4, .int x4), (6, .int x6)] → f_K_fits_80 N rc30  h th x1 x2 a3 x4 x6 y0 = some (r, g) → W p l e { frames := 11, cells := h_x g - n0, slots := h_s g - s0, locals := 188 } s m args below meth c H locs cells slots (eT D cy z rI r g below args s (h_x g - n0) (h_s g - s0)) (F0 m 80 ls [.int y0]) := by
  obtain ⟨hx, hb, hr, hml, hown, hts, hlk⟩ := id C
  intro cells slots h th x1 x2 a3 x4 x6 y0 H locs ls w hsl hl hE
  have hcc : cells ≤ h_x g - n0 ∧ slots ≤ h_s g - s0 := by
    have q1 := mo_K_fits_80 N hsh30 h th x1 x2 a3 x4 x6 y0 _ _ hE
    have q2 := wd_x w
    have q3 := q1.1
    have q4 := q1.2.1
    omega
  unfold f_K_fits_80 at hE
  refine lv_istore (lv' := [(5, .int y0), (0, .ref th), (1, .int x1), (2, .int x2), (3, va_rf a3), (4, .int x4), (6, .int x6)]) hx hb dX11_fits_80 hl (by decide) rfl (fun ls hl => ?_)
  obtain ⟨v1, ev1, e1⟩ := bn_some hE
  refine lv_iinc (v := v1) (lv' := [(4, .int v1), (5, .int y0), (0, .ref th), (1, .int x1), (2, .int x2), (3, va_rf a3), (6, .int x6)]) hx hb dX11_fits_82 hl (k := 5) rfl (by rw [ev1]; rfl) (by decide) (by cases a3 <;> rfl) (fun ls hl => ?_)
  exact b_K_fits_85 C hst hxt N n0 s0 hn0 hsh30 hrc30  _ _ h th x1 x2 a3 v1 y0 x6 _ _ ls w hsl (lv_sub hl [2, 3, 4, 5, 0, 1, 6] rfl) e1
set_option maxRecDepth 20000 in
set_option maxHeartbeats 4000000 in
theorem b_K_fits_48 {p : Program} {l : Launch} {e : Env} {s : State} {m : MethodId} {args : Array Value} {below : List Frame} {meth : Method} {c : Code} {D : va_G} {cy : cyT} {z : Nat} (C : MX p s m args meth c cX11_fits 7 ((some .int)) RX11 (Cond.code yX11_fits cX11_fits 7 ((some .int)) :: GW)) (hst : l.stackTraces = false) (hxt : ∀ x ∈ c.exceptionTable.toList, False) (N : Nat) (n0 s0 : Nat) (hn0 : s.heap.size = n0) {r : (Int32 ⊕ Nat)} {g : hS} {rc30 : hS → Nat → Int32 → Int32 → Option Nat → Int32 → Int32 → Int32 → Option ((Int32 ⊕ Nat) × hS)} (hsh30 : ∀ (h : hS) (th : Nat) (x1 : Int32) (x2 : Int32) (a3 : Option Nat) (x4 : Int32) (x5 : Int32) (x6 : Int32), Mo h (rc30 h th x1 x2 a3 x4 x5 x6)) (hrc30 : ∀ (cells slots : Nat) (h : hS) (th : Nat) (x1 : Int32) (x2 : Int32) (a3 : Option Nat) (x4 : Int32) (x5 : Int32) (x6 : Int32) (H : Heap) (locs : List Loc) (ls : Array Slot), wd D cy z s cells h H locs → h_s h = s0 + slots → lv_has ls 7 [(0, .ref th), (1, .int x1), (2, .int x2), (3, va_rf a3), (4, .int x4), (5, .int x5), (6, .int x6)] → rc30 h th x1 x2 a3 x4 x5 x6 = some (r, g) → W p l e { frames := 11, cells := h_x g - n0, slots := h_s g - s0, locals := 188 } s m args below meth c H locs cells slots (eT D cy z rI r g below args s (h_x g - n0) (h_s g - s0)) (F0 m 30 ls [])) : ∀  (cells slots : Nat) (h : hS) (th : Nat) (x1 : Int32) (x2 : Int32) (a3 : Option Nat) (x4 : Int32) (x5 : Int32) (x6 : Int32) (y0 : Int32) (H : Heap) (locs : List Loc) (ls : Array Slot), wd D cy z s cells h H locs → h_s h = s0 + slots → lv_has ls 7 [(0, .ref th), (1, .int x1), (2, .int x2), (3, va_rf a3), (4, .int x4), (5, .int x5), (6, .int x6)] → f_K_fits_48 N rc30  h th x1 x2 a3 x4 x5 x6 y0 = some (r, g) → W p l e { frames := 11, cells := h_x g - n0, slots := h_s g - s0, locals := 188 } s m args below meth c H locs cells slots (eT D cy z rI r g below args s (h_x g - n0) (h_s g - s0)) (F0 m 48 ls [.int y0]) := by
  obtain ⟨hx, hb, hr, hml, hown, hts, hlk⟩ := id C
  intro cells slots h th x1 x2 a3 x4 x5 x6 y0 H locs ls w hsl hl hE
  have hcc : cells ≤ h_x g - n0 ∧ slots ≤ h_s g - s0 := by
    have q1 := mo_K_fits_48 N hsh30 h th x1 x2 a3 x4 x5 x6 y0 _ _ hE
    have q2 := wd_x w
    have q3 := q1.1
    have q4 := q1.2.1
    omega
  unfold f_K_fits_48 at hE
  refine w_if_eq (tgt := 85) C dX11_fits_48 (by decide) hE (fun hc e1 => ?_) (fun hc e1 => ?_)
  · exact b_K_fits_85 C hst hxt N n0 s0 hn0 hsh30 hrc30  _ _ h th x1 x2 a3 x4 x5 x6 _ _ ls w hsl (lv_sub hl [0, 1, 2, 3, 4, 5, 6] rfl) e1
  · refine lv_aload_n hx hb dX11_fits_51 rfl (lv_at hl 0 rfl) ?_
    refine w_gR (r := some th) (ci := 12) (k := 16) C w rfl (by decide) (GF_wsX110 _) (by decide) rfl (List.mem_cons_of_mem _ gw_3_11) rfl dX11_fits_52 e1 (fun v1 e2 => ?_)
    refine lv_aload_n hx hb dX11_fits_55 rfl (lv_at hl 0 rfl) ?_
    refine w_gR (r := some th) (ci := 12) (k := 4) C w rfl (by decide) (GF_wsX110 _) (by decide) rfl (List.mem_cons_of_mem _ gw_2_1) rfl dX11_fits_56 e2 (fun v2 e3 => ?_)
    refine w_gR (r := v2) (ci := 1) (k := 0) C w rfl (by decide) (GF_wsX00 _) (by decide) rfl (List.mem_cons_of_mem _ gw_23_9) rfl dX11_fits_59 e3 (fun v3 e4 => ?_)
    refine w_VI GW_good (n := 1) (F := 2) (Lc := 73) (o := v1) (av := [va_rf v3]) (rest := []) C w rfl (by decide) (fun a r g hf => k_State_holdsNotes l D cy z N h a v3 r g hf) gw_61_7 gw_61_8 gw_61_9 gw_3_10 gw_61_10 (by decide +kernel) ⟨Nat.le_of_ble_eq_true rfl, Nat.le_of_ble_eq_true rfl⟩ rfl hl.1 rfl (Nat.le_of_ble_eq_true rfl) dX11_fits_62 (fun a => (sh_State_holdsNotes N h a v3)) ⟨hcc.1, hcc.2⟩ e4 (fun v4 h5 H locs w hsh5 e5 => ?_)
    have hsl := hsh5.2.2.2.trans hsl
    refine w_if_eq (tgt := 85) C dX11_fits_65 (by decide) e5 (fun hc e6 => ?_) (fun hc e6 => ?_)
    · exact b_K_fits_85 C hst hxt N n0 s0 hn0 hsh30 hrc30  _ _ h5 th x1 x2 a3 x4 x5 x6 _ _ ls w hsl (lv_sub hl [0, 1, 2, 3, 4, 5, 6] rfl) e6
    · refine lv_iload hx hb dX11_fits_68 (lv_at hl 4 rfl) ?_
      refine w_if_ne (tgt := 78) C dX11_fits_70 (by decide) e6 (fun hc e7 => ?_) (fun hc e7 => ?_)
      · refine lv_iload hx hb dX11_fits_78 (lv_at hl 5 rfl) ?_
        exact b_K_fits_80 C hst hxt N n0 s0 hn0 hsh30 hrc30  _ _ h5 th x1 x2 a3 x4 x6 x5 _ _ ls w hsl (lv_sub hl [0, 1, 2, 3, 4, 6] rfl) e7
      · refine lv_iload hx hb dX11_fits_73 (lv_at hl 6 rfl) ?_
        refine lv_goto (tgt := 80) hx hb dX11_fits_75 (by decide) ?_
        exact b_K_fits_80 C hst hxt N n0 s0 hn0 hsh30 hrc30  _ _ h5 th x1 x2 a3 x4 x6 x6 _ _ ls w hsl (lv_sub hl [0, 1, 2, 3, 4, 6] rfl) e7
set_option maxRecDepth 20000 in
set_option maxHeartbeats 4000000 in
theorem b_K_fits_30 {p : Program} {l : Launch} {e : Env} {s : State} {m : MethodId} {args : Array Value} {below : List Frame} {meth : Method} {c : Code} {D : va_G} {cy : cyT} {z : Nat} (C : MX p s m args meth c cX11_fits 7 ((some .int)) RX11 (Cond.code yX11_fits cX11_fits 7 ((some .int)) :: GW)) (hst : l.stackTraces = false) (hxt : ∀ x ∈ c.exceptionTable.toList, False) (N : Nat) (n0 s0 : Nat) (hn0 : s.heap.size = n0) {r : (Int32 ⊕ Nat)} {g : hS}  : ∀ (n : Nat) (cells slots : Nat) (h : hS) (th : Nat) (x1 : Int32) (x2 : Int32) (a3 : Option Nat) (x4 : Int32) (x5 : Int32) (x6 : Int32) (H : Heap) (locs : List Loc) (ls : Array Slot), wd D cy z s cells h H locs → h_s h = s0 + slots → lv_has ls 7 [(0, .ref th), (1, .int x1), (2, .int x2), (3, va_rf a3), (4, .int x4), (5, .int x5), (6, .int x6)] → f_K_fits_30 N  n h th x1 x2 a3 x4 x5 x6 = some (r, g) → W p l e { frames := 11, cells := h_x g - n0, slots := h_s g - s0, locals := 188 } s m args below meth c H locs cells slots (eT D cy z rI r g below args s (h_x g - n0) (h_s g - s0)) (F0 m 30 ls []) := by
  obtain ⟨hx, hb, hr, hml, hown, hts, hlk⟩ := id C
  intro n
  induction n with
  | zero =>
    intro cells slots h th x1 x2 a3 x4 x5 x6 H locs ls w hsl hl hE
    cases hE
  | succ n ih =>
    intro cells slots h th x1 x2 a3 x4 x5 x6 H locs ls w hsl hl hE
    have hcc : cells ≤ h_x g - n0 ∧ slots ≤ h_s g - s0 := by
      have q1 := mo_K_fits_30 N  (n + 1) h th x1 x2 a3 x4 x5 x6 _ _ hE
      have q2 := wd_x w
      have q3 := q1.1
      have q4 := q1.2.1
      omega
    unfold f_K_fits_30 at hE
    refine lv_iload hx hb dX11_fits_30 (lv_at hl 6 rfl) ?_
    refine lv_bipush (v := 40) hx hb dX11_fits_32 (by decide) ?_
    refine w_icmp_gt (tgt := 91) C dX11_fits_34 (by decide) hE (fun hc e1 => ?_) (fun hc e1 => ?_)
    · refine lv_iload_n hx hb dX11_fits_91 rfl (lv_at hl 2 rfl) ?_
      refine w_if_ne (tgt := 100) C dX11_fits_92 (by decide) e1 (fun hc e2 => ?_) (fun hc e2 => ?_)
      · refine lv_iload hx hb dX11_fits_100 (lv_at hl 5 rfl) ?_
        exact b_K_fits_102 C hst hxt N n0 s0 hn0   _ _ h x5 _ _ ls w hsl (lv_sub hl [] rfl) e2
      · refine lv_iload hx hb dX11_fits_95 (lv_at hl 4 rfl) ?_
        refine lv_goto (tgt := 102) hx hb dX11_fits_97 (by decide) ?_
        exact b_K_fits_102 C hst hxt N n0 s0 hn0   _ _ h x4 _ _ ls w hsl (lv_sub hl [] rfl) e2
    · refine lv_aload_n hx hb dX11_fits_37 rfl (lv_at hl 0 rfl) ?_
      refine w_gR (r := some th) (ci := 12) (k := 4) C w rfl (by decide) (GF_wsX110 _) (by decide) rfl (List.mem_cons_of_mem _ gw_2_1) rfl dX11_fits_38 e1 (fun v1 e3 => ?_)
      refine w_aload_n C dX11_fits_41 rfl (lv_at hl 3 rfl) ?_
      refine lv_iload_n hx hb dX11_fits_42 rfl (lv_at hl 1 rfl) ?_
      refine lv_iload hx hb dX11_fits_43 (lv_at hl 6 rfl) ?_
      refine w_VAI GW_good (n := 3) (F := 5) (Lc := 142) (o := v1) (av := [va_rf a3, .int x1, .int x6]) (rest := []) C w rfl (by decide) (fun a r g hf => k_Bench_goThrough l D cy z N h a a3 x1 x6 r g hf) gw_50_10 gw_50_11 gw_50_12 gw_2_0 gw_50_13 (by decide +kernel) ⟨Nat.le_of_ble_eq_true rfl, Nat.le_of_ble_eq_true rfl⟩ rfl hl.1 rfl (Nat.le_of_ble_eq_true rfl) dX11_fits_45 (fun a => (mo_Bench_goThrough N h a a3 x1 x6)) (fun a v2 h3 q1 q2 => by have u1 := (mo_Bench_goThrough N h a a3 x1 x6) _ _ q1; have u2 := mo_K_fits_48 N (mo_K_fits_30 N  n)  h3 th x1 x2 a3 x4 x5 x6 v2 _ _ q2; have u3 := wd_x w; have u4 := u1.1; have u5 := u1.2.1; have u6 := u2.1; have u7 := u2.2.1; show cells + _ ≤ h_x g - n0 ∧ slots + _ ≤ h_s g - s0; omega) e3 (fun v2 h3 H locs w hsh3 e4 => ?_)
      exact b_K_fits_48 C hst hxt N n0 s0 hn0 (mo_K_fits_30 N  n) ih  _ _ h3 th x1 x2 a3 x4 x5 x6 v2 _ _ ls w (by have u5 := hsh3.2.1; have u8 := hsl; omega) (lv_sub hl [0, 1, 2, 3, 4, 5, 6] rfl) e4
set_option maxRecDepth 20000 in
set_option maxHeartbeats 4000000 in
theorem b_K_fits_27 {p : Program} {l : Launch} {e : Env} {s : State} {m : MethodId} {args : Array Value} {below : List Frame} {meth : Method} {c : Code} {D : va_G} {cy : cyT} {z : Nat} (C : MX p s m args meth c cX11_fits 7 ((some .int)) RX11 (Cond.code yX11_fits cX11_fits 7 ((some .int)) :: GW)) (hst : l.stackTraces = false) (hxt : ∀ x ∈ c.exceptionTable.toList, False) (N : Nat) (n0 s0 : Nat) (hn0 : s.heap.size = n0) {r : (Int32 ⊕ Nat)} {g : hS}  : ∀  (cells slots : Nat) (h : hS) (th : Nat) (x1 : Int32) (x2 : Int32) (a3 : Option Nat) (x4 : Int32) (x5 : Int32) (H : Heap) (locs : List Loc) (ls : Array Slot), wd D cy z s cells h H locs → h_s h = s0 + slots → lv_has ls 7 [(0, .ref th), (1, .int x1), (2, .int x2), (3, va_rf a3), (4, .int x4), (5, .int x5)] → f_K_fits_27 N   h th x1 x2 a3 x4 x5 = some (r, g) → W p l e { frames := 11, cells := h_x g - n0, slots := h_s g - s0, locals := 188 } s m args below meth c H locs cells slots (eT D cy z rI r g below args s (h_x g - n0) (h_s g - s0)) (F0 m 27 ls []) := by
  obtain ⟨hx, hb, hr, hml, hown, hts, hlk⟩ := id C
  intro cells slots h th x1 x2 a3 x4 x5 H locs ls w hsl hl hE
  have hcc : cells ≤ h_x g - n0 ∧ slots ≤ h_s g - s0 := by
    have q1 := mo_K_fits_27 N  h th x1 x2 a3 x4 x5 _ _ hE
    have q2 := wd_x w
    have q3 := q1.1
    have q4 := q1.2.1
    omega
  unfold f_K_fits_27 at hE
  refine lv_iconst (v := 0) hx hb dX11_fits_27 (by decide) ?_
  refine lv_istore (lv' := [(6, .int (0 : Int32)), (0, .ref th), (1, .int x1), (2, .int x2), (3, va_rf a3), (4, .int x4), (5, .int x5)]) hx hb dX11_fits_28 hl (by decide) rfl (fun ls hl => ?_)
  exact b_K_fits_30 C hst hxt N n0 s0 hn0  N _ _ h th x1 x2 a3 x4 x5 (0 : Int32) _ _ ls w hsl (lv_sub hl [1, 2, 3, 4, 5, 6, 0] rfl) hE
set_option maxRecDepth 20000 in
set_option maxHeartbeats 4000000 in
theorem b_K_fits_11 {p : Program} {l : Launch} {e : Env} {s : State} {m : MethodId} {args : Array Value} {below : List Frame} {meth : Method} {c : Code} {D : va_G} {cy : cyT} {z : Nat} (C : MX p s m args meth c cX11_fits 7 ((some .int)) RX11 (Cond.code yX11_fits cX11_fits 7 ((some .int)) :: GW)) (hst : l.stackTraces = false) (hxt : ∀ x ∈ c.exceptionTable.toList, False) (N : Nat) (n0 s0 : Nat) (hn0 : s.heap.size = n0) {r : (Int32 ⊕ Nat)} {g : hS}  : ∀  (cells slots : Nat) (h : hS) (th : Nat) (x1 : Int32) (x2 : Int32) (y0 : Option Nat) (H : Heap) (locs : List Loc) (ls : Array Slot), wd D cy z s cells h H locs → h_s h = s0 + slots → lv_has ls 7 [(0, .ref th), (1, .int x1), (2, .int x2)] → f_K_fits_11 N   h th x1 x2 y0 = some (r, g) → W p l e { frames := 11, cells := h_x g - n0, slots := h_s g - s0, locals := 188 } s m args below meth c H locs cells slots (eT D cy z rI r g below args s (h_x g - n0) (h_s g - s0)) (F0 m 11 ls [va_rf y0]) := by
  obtain ⟨hx, hb, hr, hml, hown, hts, hlk⟩ := id C
  intro cells slots h th x1 x2 y0 H locs ls w hsl hl hE
  have hcc : cells ≤ h_x g - n0 ∧ slots ≤ h_s g - s0 := by
    have q1 := mo_K_fits_11 N  h th x1 x2 y0 _ _ hE
    have q2 := wd_x w
    have q3 := q1.1
    have q4 := q1.2.1
    omega
  unfold f_K_fits_11 at hE
  refine w_astore_n (r := y0) (lv' := [(3, va_rf y0), (0, .ref th), (1, .int x1), (2, .int x2)]) C dX11_fits_11 rfl hl (by decide) rfl (fun ls hl => ?_)
  refine lv_iconst (v := 0) hx hb dX11_fits_12 (by decide) ?_
  refine lv_istore (lv' := [(4, .int (0 : Int32)), (3, va_rf y0), (0, .ref th), (1, .int x1), (2, .int x2)]) hx hb dX11_fits_13 hl (by decide) (by cases y0 <;> rfl) (fun ls hl => ?_)
  refine lv_iconst (v := -1) hx hb dX11_fits_15 (by decide) ?_
  refine lv_istore (lv' := [(5, .int (-1 : Int32)), (4, .int (0 : Int32)), (3, va_rf y0), (0, .ref th), (1, .int x1), (2, .int x2)]) hx hb dX11_fits_16 hl (by decide) rfl (fun ls hl => ?_)
  refine lv_aload_n hx hb dX11_fits_18 rfl (lv_at hl 3 rfl) ?_
  refine w_gR (r := some th) (ci := 12) (k := 4) C w rfl (by decide) (GF_wsX110 _) (by decide) rfl (List.mem_cons_of_mem _ gw_2_1) rfl dX11_fits_19 hE (fun v1 e1 => ?_)
  refine w_aload_n C dX11_fits_22 rfl (lv_at hl 2 rfl) ?_
  refine lv_iload_n hx hb dX11_fits_23 rfl (lv_at hl 4 rfl) ?_
  refine w_VAV GW_good (n := 2) (F := 5) (Lc := 142) (o := v1) (av := [va_rf y0, .int x1]) (rest := []) C w rfl (by decide) (fun a r g hf => k_Bench_standAhead l D cy z N h a y0 x1 r g hf) gw_50_5 gw_50_6 gw_50_7 gw_2_0 gw_50_8 (by decide +kernel) ⟨Nat.le_of_ble_eq_true rfl, Nat.le_of_ble_eq_true rfl⟩ rfl hl.1 rfl (Nat.le_of_ble_eq_true rfl) dX11_fits_24 (fun a => (mo_Bench_standAhead N h a y0 x1)) (fun a v2 h3 q1 q2 => by have u1 := (mo_Bench_standAhead N h a y0 x1) _ _ q1; have u2 := mo_K_fits_27 N   h3 th x1 x2 y0 (0 : Int32) (-1 : Int32) _ _ q2; have u3 := wd_x w; have u4 := u1.1; have u5 := u1.2.1; have u6 := u2.1; have u7 := u2.2.1; show cells + _ ≤ h_x g - n0 ∧ slots + _ ≤ h_s g - s0; omega) e1 (fun v2 h3 H locs w hsh3 e2 => ?_)
  exact b_K_fits_27 C hst hxt N n0 s0 hn0   _ _ h3 th x1 x2 y0 (0 : Int32) (-1 : Int32) _ _ ls w (by have u5 := hsh3.2.1; have u8 := hsl; omega) (lv_sub hl [3, 4, 5, 2, 1, 0] rfl) e2
set_option maxRecDepth 20000 in
set_option maxHeartbeats 4000000 in
theorem b_K_fits_6 {p : Program} {l : Launch} {e : Env} {s : State} {m : MethodId} {args : Array Value} {below : List Frame} {meth : Method} {c : Code} {D : va_G} {cy : cyT} {z : Nat} (C : MX p s m args meth c cX11_fits 7 ((some .int)) RX11 (Cond.code yX11_fits cX11_fits 7 ((some .int)) :: GW)) (hst : l.stackTraces = false) (hxt : ∀ x ∈ c.exceptionTable.toList, False) (N : Nat) (n0 s0 : Nat) (hn0 : s.heap.size = n0) {r : (Int32 ⊕ Nat)} {g : hS}  : ∀  (cells slots : Nat) (h : hS) (th : Nat) (x1 : Int32) (x2 : Int32) (H : Heap) (locs : List Loc) (ls : Array Slot), wd D cy z s cells h H locs → h_s h = s0 + slots → lv_has ls 7 [(0, .ref th), (1, .int x1), (2, .int x2)] → f_K_fits_6 N   h th x1 x2 = some (r, g) → W p l e { frames := 11, cells := h_x g - n0, slots := h_s g - s0, locals := 188 } s m args below meth c H locs cells slots (eT D cy z rI r g below args s (h_x g - n0) (h_s g - s0)) (F0 m 6 ls []) := by
  obtain ⟨hx, hb, hr, hml, hown, hts, hlk⟩ := id C
  intro cells slots h th x1 x2 H locs ls w hsl hl hE
  have hcc : cells ≤ h_x g - n0 ∧ slots ≤ h_s g - s0 := by
    have q1 := mo_K_fits_6 N  h th x1 x2 _ _ hE
    have q2 := wd_x w
    have q3 := q1.1
    have q4 := q1.2.1
    omega
  unfold f_K_fits_6 at hE
  refine lv_aload_n hx hb dX11_fits_6 rfl (lv_at hl 0 rfl) ?_
  refine lv_iconst (v := 0) hx hb dX11_fits_7 (by decide) ?_
  refine w_VTR GW_good (n := 1) (F := 8) (Lc := 122) (ob := some th) (av := [.int (0 : Int32)]) (rest := []) hxt hn0 hsl C w rfl (by decide) (fun a r g hf => k_K_chainOf l hst D cy z N h a (0 : Int32) r g hf) gw_32_8 gw_32_9 gw_32_10 gw_1_2 gw_32_11 (by decide +kernel) ⟨Nat.le_of_ble_eq_true rfl, Nat.le_of_ble_eq_true rfl⟩ rfl hl.1 rfl (Nat.le_of_ble_eq_true rfl) dX11_fits_8 (fun a => (mo_K_chainOf N h a (0 : Int32))) (fun v1 h2 => mo_K_fits_11 N   h2 th x1 x2 v1) hE (fun v1 h2 H locs w hsh2 e1 => ?_)
  exact b_K_fits_11 C hst hxt N n0 s0 hn0   _ _ h2 th x1 x2 v1 _ _ ls w (by have u5 := hsh2.2.1; have u8 := hsl; omega) (lv_sub hl [0, 1, 2] rfl) e1
set_option maxRecDepth 20000 in
set_option maxHeartbeats 4000000 in
theorem k_K_fits (l : Launch) (hst : l.stackTraces = false) (D : va_G) (cy : cyT) (z : Nat) (N : Nat) (h : hS) (th : Nat) (x1 : Int32) (x2 : Int32) (r : (Int32 ⊕ Nat)) (g : hS) (hE : f_K_fits N h th x1 x2 = some (r, g)) : ctT l yX11_fits (Cond.code yX11_fits cX11_fits 7 ((some .int)) :: GW) { frames := 11, cells := h_x g - h_x h, slots := h_s g - h_s h, locals := 188 } D cy z h [.ref th, .int x1, .int x2] rI r g := by
  refine ctT_of (cc := cX11_fits) (maxL := 7) (ret := (some .int)) (by decide) ?_
  intro p e s m args below meth c s₁ B hml hxt hv
  obtain ⟨rfl, hw⟩ := hv
  have C : MX p s m ([.ref th, .int x1, .int x2] : List Value).toArray meth c cX11_fits 7 ((some .int)) RX11 (Cond.code yX11_fits cX11_fits 7 ((some .int)) :: GW) := ⟨B.exec, B.bytes, B.returns, hml, findClass_of_methodNamed B.named, atoms_spec (ws := Cond.code yX11_fits cX11_fits 7 ((some .int)) :: GW) B.pre, B.notSynchronized⟩
  obtain ⟨hx, hb, hr, hml, hown, hts, hlk⟩ := id C
  have w := wd_of hw
  have hsl : h_s h = h_s h + 0 := rfl
  have hn0 : s.heap.size = h_x h := (wd_x w).1
  obtain ⟨ls, hen, hl⟩ : ∃ ls : Array Slot, entryFrame m ([.ref th, .int x1, .int x2] : List Value).toArray 7 = F0 m 0 ls [] ∧ lv_has ls 7 [(0, .ref th), (1, .int x1), (2, .int x2)] := by
    exact ⟨_, lg_entry_eq _ _ _, lv_entry _ (Nat.le_of_ble_eq_true rfl)⟩
  rw [hen]
  have hcc : 0 ≤ h_x g - h_x h ∧ 0 ≤ h_s g - h_s h := ⟨Nat.zero_le _, Nat.zero_le _⟩
  unfold f_K_fits at hE
  refine lv_aload_n hx hb dX11_fits_0 rfl (lv_at hl 0 rfl) ?_
  refine lv_iload_n hx hb dX11_fits_1 rfl (lv_at hl 1 rfl) ?_
  refine lv_iload_n hx hb dX11_fits_2 rfl (lv_at hl 2 rfl) ?_
  refine w_VTV GW_good (n := 2) (F := 10) (Lc := 166) (ob := some th) (av := [.int x1, .int x2]) (rest := []) hxt hn0 hsl C w rfl (by decide) (fun a r g hf => k_K_needWeighted l hst D cy z N h a x1 x2 r g hf) gw_61_3 gw_61_4 gw_61_5 gw_1_2 gw_61_6 (by decide +kernel) ⟨Nat.le_of_ble_eq_true rfl, Nat.le_of_ble_eq_true rfl⟩ rfl hl.1 rfl (Nat.le_of_ble_eq_true rfl) dX11_fits_3 (fun a => (mo_K_needWeighted N h a x1 x2)) (fun v1 h2 => mo_K_fits_6 N   h2 th x1 x2) hE (fun v1 h2 H locs w hsh2 e1 => ?_)
  exact b_K_fits_6 C hst hxt N (h_x h) (h_s h) hn0   _ _ h2 th x1 x2 _ _ ls w (by have u5 := hsh2.2.1; have u8 := hsl; omega) (lv_sub hl [0, 1, 2] rfl) e1
set_option maxRecDepth 20000 in
set_option maxHeartbeats 4000000 in
theorem b_Arr_fill_53178_5 {p : Program} {l : Launch} {e : Env} {s : State} {m : MethodId} {args : Array Value} {below : List Frame} {meth : Method} {c : Code} {D : va_G} {cy : cyT} {z : Nat} (C : MX p s m args meth c cJ7_fill_53178 4 (none) RJ7 (Cond.code yJ7_fill_53178 cJ7_fill_53178 4 (none) :: GW)) (N : Nat) {r : Unit} {g : hS}  : ∀ (n : Nat) (h : hS) (a0 : Option Nat) (x1 : Int32) (x2 : Int32) (x3 : Int32) (H : Heap) (locs : List Loc) (ls : Array Slot), wd D cy z s 0 h H locs → lv_has ls 4 [(0, va_rf a0), (1, .int x1), (2, .int x2), (3, .int x3)] → f_Arr_fill_53178_5 N  n h a0 x1 x2 x3 = some (r, g) → W p l e { frames := 0, cells := 0, slots := 0, locals := 0 } s m args below meth c H locs 0 0 (MQ below (eQ D cy z (rV r) g) args s 0 0 (fun q => z ≤ q)) (F0 m 5 ls []) := by
  obtain ⟨hx, hb, hr, hml, hown, hts, hlk⟩ := id C
  intro n
  induction n with
  | zero =>
    intro  h a0 x1 x2 x3 H locs ls w  hl hE
    cases hE
  | succ n ih =>
    intro  h a0 x1 x2 x3 H locs ls w  hl hE
    unfold f_Arr_fill_53178_5 at hE
    refine lv_iload_n hx hb dJ7_fill_53178_5 rfl (lv_at hl 2 rfl) ?_
    refine lv_iload_n hx hb dJ7_fill_53178_6 rfl (lv_at hl 3 rfl) ?_
    refine w_icmp_ge (tgt := 20) C dJ7_fill_53178_7 (by decide) hE (fun hc e1 => ?_) (fun hc e1 => ?_)
    · exact w_vret C w e1 dJ7_fill_53178_20
    · refine w_aload_n C dJ7_fill_53178_10 rfl (lv_at hl 0 rfl) ?_
      refine lv_iload_n hx hb dJ7_fill_53178_11 rfl (lv_at hl 2 rfl) ?_
      refine lv_iload_n hx hb dJ7_fill_53178_12 rfl (lv_at hl 1 rfl) ?_
      refine w_uI (r := a0) C w dJ7_fill_53178_13 e1 (fun h1 H locs w hsh1 e2 => ?_)
      obtain ⟨v2, ev2, e3⟩ := bn_some e2
      refine lv_iinc (v := v2) (lv' := [(2, .int v2), (0, va_rf a0), (1, .int x1), (3, .int x3)]) hx hb dJ7_fill_53178_14 hl (k := 2) rfl (by rw [ev2]; rfl) (by decide) rfl (fun ls hl => ?_)
      refine lv_goto (tgt := 5) hx hb dJ7_fill_53178_17 (by decide) ?_
      exact ih  h1 a0 x1 v2 x3 _ _ ls w  (lv_sub hl [1, 2, 0, 3] rfl) e3
set_option maxRecDepth 20000 in
set_option maxHeartbeats 4000000 in
theorem k_Arr_fill_53178 (l : Launch) (D : va_G) (cy : cyT) (z : Nat) (N : Nat) (h : hS) (a0 : Option Nat) (x1 : Int32) (r : Unit) (g : hS) (hE : f_Arr_fill_53178 N h a0 x1 = some (r, g)) : ct l yJ7_fill_53178 (Cond.code yJ7_fill_53178 cJ7_fill_53178 4 (none) :: GW) { frames := 0, cells := 0, slots := 0, locals := 0 } D cy z h [va_rf a0, .int x1] (rV r) g := by
  refine Met.ofW (cc := cJ7_fill_53178) (maxL := 4) (ret := none) (by decide) rfl ?_
  intro p e s m args below meth c s₁ B hml hv
  obtain ⟨rfl, hw⟩ := hv
  have C : MX p s m ([va_rf a0, .int x1] : List Value).toArray meth c cJ7_fill_53178 4 (none) RJ7 (Cond.code yJ7_fill_53178 cJ7_fill_53178 4 (none) :: GW) := ⟨B.exec, B.bytes, B.returns, hml, findClass_of_methodNamed B.named, atoms_spec (ws := Cond.code yJ7_fill_53178 cJ7_fill_53178 4 (none) :: GW) B.pre, B.notSynchronized⟩
  obtain ⟨hx, hb, hr, hml, hown, hts, hlk⟩ := id C
  have w := wd_of hw
  obtain ⟨ls, hen, hl⟩ : ∃ ls : Array Slot, entryFrame m ([va_rf a0, .int x1] : List Value).toArray 4 = F0 m 0 ls [] ∧ lv_has ls 4 [(0, va_rf a0), (1, .int x1)] := by
    cases a0 <;> exact ⟨_, lg_entry_eq _ _ _, lv_entry _ (Nat.le_of_ble_eq_true rfl)⟩
  rw [hen]
  unfold f_Arr_fill_53178 at hE
  refine lv_iconst (v := 0) hx hb dJ7_fill_53178_0 (by decide) ?_
  refine lv_istore_n (lv' := [(2, .int (0 : Int32)), (0, va_rf a0), (1, .int x1)]) hx hb dJ7_fill_53178_1 rfl hl (by decide) rfl (fun ls hl => ?_)
  refine w_aload_n C dJ7_fill_53178_2 rfl (lv_at hl 1 rfl) ?_
  refine w_lenI (r := a0) C w dJ7_fill_53178_3 hE (fun v1 e1 => ?_)
  refine lv_istore_n (lv' := [(3, .int v1), (2, .int (0 : Int32)), (0, va_rf a0), (1, .int x1)]) hx hb dJ7_fill_53178_4 rfl hl (by decide) rfl (fun ls hl => ?_)
  exact b_Arr_fill_53178_5 C N   N  h a0 x1 (0 : Int32) v1 _ _ ls w  (lv_sub hl [2, 3, 1, 0] rfl) e1
set_option maxRecDepth 20000 in
set_option maxHeartbeats 4000000 in
theorem b_K_lookAlong_92 {p : Program} {l : Launch} {e : Env} {s : State} {m : MethodId} {args : Array Value} {below : List Frame} {meth : Method} {c : Code} {D : va_G} {cy : cyT} {z : Nat} (C : MX p s m args meth c cX11_lookAlong 3 (none) RX11 (Cond.code yX11_lookAlong cX11_lookAlong 3 (none) :: GW)) (N : Nat) {r : Unit} {g : hS}  : ∀  (h : hS)  (H : Heap) (locs : List Loc) (ls : Array Slot), wd D cy z s 0 h H locs → lv_has ls 3 [] → f_K_lookAlong_92 N   h  = some (r, g) → W p l e { frames := 3, cells := 0, slots := 0, locals := 95 } s m args below meth c H locs 0 0 (MQ below (eQ D cy z (rV r) g) args s 0 0 (fun q => z ≤ q)) (F0 m 92 ls []) := by
  obtain ⟨hx, hb, hr, hml, hown, hts, hlk⟩ := id C
  intro  h  H locs ls w  hl hE
  unfold f_K_lookAlong_92 at hE
  exact w_vret C w hE dX11_lookAlong_92
set_option maxRecDepth 20000 in
set_option maxHeartbeats 4000000 in
theorem b_K_lookAlong_79 {p : Program} {l : Launch} {e : Env} {s : State} {m : MethodId} {args : Array Value} {below : List Frame} {meth : Method} {c : Code} {D : va_G} {cy : cyT} {z : Nat} (C : MX p s m args meth c cX11_lookAlong 3 (none) RX11 (Cond.code yX11_lookAlong cX11_lookAlong 3 (none) :: GW)) (N : Nat) {r : Unit} {g : hS} {rc12 : hS → Nat → Int32 → Option (Unit × hS)}  (hrc12 : ∀ (h : hS) (th : Nat) (x2 : Int32) (H : Heap) (locs : List Loc) (ls : Array Slot), wd D cy z s 0 h H locs → lv_has ls 3 [(0, .ref th), (2, .int x2)] → rc12 h th x2 = some (r, g) → W p l e { frames := 3, cells := 0, slots := 0, locals := 95 } s m args below meth c H locs 0 0 (MQ below (eQ D cy z (rV r) g) args s 0 0 (fun q => z ≤ q)) (F0 m 12 ls [])) : ∀  (h : hS) (th : Nat) (x2 : Int32) (H : Heap) (locs : List Loc) (ls : Array Slot), wd D cy z s 0 h H locs → lv_has ls 3 [(0, .ref th), (2, .int x2)] → f_K_lookAlong_79 N rc12  h th x2 = some (r, g) → W p l e { frames := 3, cells := 0, slots := 0, locals := 95 } s m args below meth c H locs 0 0 (MQ below (eQ D cy z (rV r) g) args s 0 0 (fun q => z ≤ q)) (F0 m 79 ls []) := by
  obtain ⟨hx, hb, hr, hml, hown, hts, hlk⟩ := id C
  intro  h th x2 H locs ls w  hl hE
  unfold f_K_lookAlong_79 at hE
  refine lv_aload_n hx hb dX11_lookAlong_79 rfl (lv_at hl 0 rfl) ?_
  refine w_gR (r := some th) (ci := 12) (k := 9) C w rfl (by decide) (GF_wsX110 _) (by decide) rfl (List.mem_cons_of_mem _ gw_3_2) rfl dX11_lookAlong_80 hE (fun v1 e1 => ?_)
  refine w_VV GW_good (n := 0) (F := 1) (Lc := 21) (o := v1) (av := []) (rest := []) C w rfl (by decide) (fun a r g hf => k_Walk_goOn l D cy z N h a  r g hf) gw_47_15 gw_47_16 gw_47_17 gw_3_1 gw_47_18 (by decide +kernel) ⟨Nat.le_of_ble_eq_true rfl, Nat.le_of_ble_eq_true rfl⟩ rfl hl.1 rfl (Nat.le_of_ble_eq_true rfl) dX11_lookAlong_83 (fun a => (sh_Walk_goOn N h a )) ⟨by decide, by decide⟩ e1 (fun v2 h3 H locs w hsh3 e2 => ?_)
  obtain ⟨v4, ev4, e3⟩ := bn_some e2
  refine lv_iinc (v := v4) (lv' := [(2, .int v4), (0, .ref th)]) hx hb dX11_lookAlong_86 hl (k := 1) rfl (by rw [ev4]; rfl) (by decide) rfl (fun ls hl => ?_)
  refine lv_goto (tgt := 12) hx hb dX11_lookAlong_89 (by decide) ?_
  exact hrc12  h3 th v4 _ _ ls w  (lv_sub hl [1, 0] rfl) e3
set_option maxRecDepth 20000 in
set_option maxHeartbeats 4000000 in
theorem b_K_lookAlong_56 {p : Program} {l : Launch} {e : Env} {s : State} {m : MethodId} {args : Array Value} {below : List Frame} {meth : Method} {c : Code} {D : va_G} {cy : cyT} {z : Nat} (C : MX p s m args meth c cX11_lookAlong 3 (none) RX11 (Cond.code yX11_lookAlong cX11_lookAlong 3 (none) :: GW)) (N : Nat) {r : Unit} {g : hS} {rc12 : hS → Nat → Int32 → Option (Unit × hS)}  (hrc12 : ∀ (h : hS) (th : Nat) (x2 : Int32) (H : Heap) (locs : List Loc) (ls : Array Slot), wd D cy z s 0 h H locs → lv_has ls 3 [(0, .ref th), (2, .int x2)] → rc12 h th x2 = some (r, g) → W p l e { frames := 3, cells := 0, slots := 0, locals := 95 } s m args below meth c H locs 0 0 (MQ below (eQ D cy z (rV r) g) args s 0 0 (fun q => z ≤ q)) (F0 m 12 ls [])) : ∀  (h : hS) (th : Nat) (x2 : Int32) (H : Heap) (locs : List Loc) (ls : Array Slot), wd D cy z s 0 h H locs → lv_has ls 3 [(0, .ref th), (2, .int x2)] → f_K_lookAlong_56 N rc12  h th x2 = some (r, g) → W p l e { frames := 3, cells := 0, slots := 0, locals := 95 } s m args below meth c H locs 0 0 (MQ below (eQ D cy z (rV r) g) args s 0 0 (fun q => z ≤ q)) (F0 m 56 ls []) := by
  obtain ⟨hx, hb, hr, hml, hown, hts, hlk⟩ := id C
  intro  h th x2 H locs ls w  hl hE
  unfold f_K_lookAlong_56 at hE
  refine lv_aload_n hx hb dX11_lookAlong_56 rfl (lv_at hl 0 rfl) ?_
  refine w_gR (r := some th) (ci := 12) (k := 12) C w rfl (by decide) (GF_wsX110 _) (by decide) rfl (List.mem_cons_of_mem _ gw_2_17) rfl dX11_lookAlong_57 hE (fun v1 e1 => ?_)
  refine lv_iload_n hx hb dX11_lookAlong_60 rfl (lv_at hl 1 rfl) ?_
  refine lv_dup2_11 hx hb dX11_lookAlong_61 rfl (va_rf_cat _) ?_
  refine w_aI (r := v1) C w dX11_lookAlong_62 e1 (fun v2 e2 => ?_)
  refine lv_iconst (v := 1) hx hb dX11_lookAlong_63 (by decide) ?_
  refine lv_iadd hx hb dX11_lookAlong_64 ?_
  refine w_uI (r := v1) C w dX11_lookAlong_65 e2 (fun h3 H locs w hsh3 e3 => ?_)
  refine lv_aload_n hx hb dX11_lookAlong_66 rfl (lv_at hl 0 rfl) ?_
  refine w_gR (r := some th) (ci := 12) (k := 11) C w rfl (by decide) (GF_wsX110 _) (by decide) rfl (List.mem_cons_of_mem _ gw_2_15) rfl dX11_lookAlong_67 e3 (fun v4 e4 => ?_)
  refine lv_iload_n hx hb dX11_lookAlong_70 rfl (lv_at hl 1 rfl) ?_
  refine lv_aload_n hx hb dX11_lookAlong_71 rfl (lv_at hl 0 rfl) ?_
  refine w_gR (r := some th) (ci := 12) (k := 9) C w rfl (by decide) (GF_wsX110 _) (by decide) rfl (List.mem_cons_of_mem _ gw_3_2) rfl dX11_lookAlong_72 e4 (fun v5 e5 => ?_)
  refine w_gJ (r := v5) (ci := 11) (k := 4) C w rfl (by decide) (GF_wsX100 _) (by decide) rfl (List.mem_cons_of_mem _ gw_47_0) rfl dX11_lookAlong_75 e5 (fun v6 e6 => ?_)
  refine w_uJ (r := v4) C w dX11_lookAlong_78 e6 (fun h7 H locs w hsh7 e7 => ?_)
  exact b_K_lookAlong_79 C N  hrc12   h7 th x2 _ _ ls w  (lv_sub hl [0, 1] rfl) e7
set_option maxRecDepth 20000 in
set_option maxHeartbeats 4000000 in
theorem b_K_lookAlong_12 {p : Program} {l : Launch} {e : Env} {s : State} {m : MethodId} {args : Array Value} {below : List Frame} {meth : Method} {c : Code} {D : va_G} {cy : cyT} {z : Nat} (C : MX p s m args meth c cX11_lookAlong 3 (none) RX11 (Cond.code yX11_lookAlong cX11_lookAlong 3 (none) :: GW)) (N : Nat) {r : Unit} {g : hS}  : ∀ (n : Nat) (h : hS) (th : Nat) (x2 : Int32) (H : Heap) (locs : List Loc) (ls : Array Slot), wd D cy z s 0 h H locs → lv_has ls 3 [(0, .ref th), (2, .int x2)] → f_K_lookAlong_12 N  n h th x2 = some (r, g) → W p l e { frames := 3, cells := 0, slots := 0, locals := 95 } s m args below meth c H locs 0 0 (MQ below (eQ D cy z (rV r) g) args s 0 0 (fun q => z ≤ q)) (F0 m 12 ls []) := by
  obtain ⟨hx, hb, hr, hml, hown, hts, hlk⟩ := id C
  intro n
  induction n with
  | zero =>
    intro  h th x2 H locs ls w  hl hE
    cases hE
  | succ n ih =>
    intro  h th x2 H locs ls w  hl hE
    unfold f_K_lookAlong_12 at hE
    refine lv_iload_n hx hb dX11_lookAlong_12 rfl (lv_at hl 1 rfl) ?_
    refine lv_aload_n hx hb dX11_lookAlong_13 rfl (lv_at hl 0 rfl) ?_
    refine w_gR (r := some th) (ci := 12) (k := 12) C w rfl (by decide) (GF_wsX110 _) (by decide) rfl (List.mem_cons_of_mem _ gw_2_17) rfl dX11_lookAlong_14 hE (fun v1 e1 => ?_)
    refine w_lenI (r := v1) C w dX11_lookAlong_17 e1 (fun v2 e2 => ?_)
    refine w_icmp_ge (tgt := 92) C dX11_lookAlong_18 (by decide) e2 (fun hc e3 => ?_) (fun hc e3 => ?_)
    · exact b_K_lookAlong_92 C N     h  _ _ ls w  (lv_sub hl [] rfl) e3
    · refine lv_iload_n hx hb dX11_lookAlong_21 rfl (lv_at hl 1 rfl) ?_
      refine lv_aload_n hx hb dX11_lookAlong_22 rfl (lv_at hl 0 rfl) ?_
      refine w_gR (r := some th) (ci := 12) (k := 11) C w rfl (by decide) (GF_wsX110 _) (by decide) rfl (List.mem_cons_of_mem _ gw_2_15) rfl dX11_lookAlong_23 e3 (fun v3 e4 => ?_)
      refine w_lenJ (r := v3) C w dX11_lookAlong_26 e4 (fun v4 e5 => ?_)
      refine w_icmp_ge (tgt := 92) C dX11_lookAlong_27 (by decide) e5 (fun hc e6 => ?_) (fun hc e6 => ?_)
      · exact b_K_lookAlong_92 C N     h  _ _ ls w  (lv_sub hl [] rfl) e6
      · refine lv_aload_n hx hb dX11_lookAlong_30 rfl (lv_at hl 0 rfl) ?_
        refine w_gR (r := some th) (ci := 12) (k := 12) C w rfl (by decide) (GF_wsX110 _) (by decide) rfl (List.mem_cons_of_mem _ gw_2_17) rfl dX11_lookAlong_31 e6 (fun v5 e7 => ?_)
        refine lv_iload_n hx hb dX11_lookAlong_34 rfl (lv_at hl 1 rfl) ?_
        refine w_aI (r := v5) C w dX11_lookAlong_35 e7 (fun v6 e8 => ?_)
        refine w_if_eq (tgt := 56) C dX11_lookAlong_36 (by decide) e8 (fun hc e9 => ?_) (fun hc e9 => ?_)
        · exact b_K_lookAlong_56 C N  ih   h th x2 _ _ ls w  (lv_sub hl [0, 1] rfl) e9
        · refine lv_aload_n hx hb dX11_lookAlong_39 rfl (lv_at hl 0 rfl) ?_
          refine w_gR (r := some th) (ci := 12) (k := 11) C w rfl (by decide) (GF_wsX110 _) (by decide) rfl (List.mem_cons_of_mem _ gw_2_15) rfl dX11_lookAlong_40 e9 (fun v7 e10 => ?_)
          refine lv_iload_n hx hb dX11_lookAlong_43 rfl (lv_at hl 1 rfl) ?_
          refine w_aJ (r := v7) C w dX11_lookAlong_44 e10 (fun v8 e11 => ?_)
          refine lv_aload_n hx hb dX11_lookAlong_45 rfl (lv_at hl 0 rfl) ?_
          refine w_gR (r := some th) (ci := 12) (k := 9) C w rfl (by decide) (GF_wsX110 _) (by decide) rfl (List.mem_cons_of_mem _ gw_3_2) rfl dX11_lookAlong_46 e11 (fun v9 e12 => ?_)
          refine w_gJ (r := v9) (ci := 11) (k := 4) C w rfl (by decide) (GF_wsX100 _) (by decide) rfl (List.mem_cons_of_mem _ gw_47_0) rfl dX11_lookAlong_49 e12 (fun v10 e13 => ?_)
          refine W.lcmp hx hb dX11_lookAlong_52 ?_
          refine w_if_eq (tgt := 79) C dX11_lookAlong_53 (by decide) e13 (fun hc e14 => ?_) (fun hc e14 => ?_)
          · exact b_K_lookAlong_79 C N  ih   h th x2 _ _ ls w  (lv_sub hl [0, 1] rfl) e14
          · exact b_K_lookAlong_56 C N  ih   h th x2 _ _ ls w  (lv_sub hl [0, 1] rfl) e14
set_option maxRecDepth 20000 in
set_option maxHeartbeats 4000000 in
theorem k_K_lookAlong (l : Launch) (D : va_G) (cy : cyT) (z : Nat) (N : Nat) (h : hS) (th : Nat) (a1 : Option Nat) (r : Unit) (g : hS) (hE : f_K_lookAlong N h th a1 = some (r, g)) : ct l yX11_lookAlong (Cond.code yX11_lookAlong cX11_lookAlong 3 (none) :: GW) { frames := 3, cells := 0, slots := 0, locals := 95 } D cy z h [.ref th, va_rf a1] (rV r) g := by
  refine Met.ofW (cc := cX11_lookAlong) (maxL := 3) (ret := none) (by decide) rfl ?_
  intro p e s m args below meth c s₁ B hml hv
  obtain ⟨rfl, hw⟩ := hv
  have C : MX p s m ([.ref th, va_rf a1] : List Value).toArray meth c cX11_lookAlong 3 (none) RX11 (Cond.code yX11_lookAlong cX11_lookAlong 3 (none) :: GW) := ⟨B.exec, B.bytes, B.returns, hml, findClass_of_methodNamed B.named, atoms_spec (ws := Cond.code yX11_lookAlong cX11_lookAlong 3 (none) :: GW) B.pre, B.notSynchronized⟩
  obtain ⟨hx, hb, hr, hml, hown, hts, hlk⟩ := id C
  have w := wd_of hw
  obtain ⟨ls, hen, hl⟩ : ∃ ls : Array Slot, entryFrame m ([.ref th, va_rf a1] : List Value).toArray 3 = F0 m 0 ls [] ∧ lv_has ls 3 [(0, .ref th), (1, va_rf a1)] := by
    cases a1 <;> exact ⟨_, lg_entry_eq _ _ _, lv_entry _ (Nat.le_of_ble_eq_true rfl)⟩
  rw [hen]
  unfold f_K_lookAlong at hE
  refine lv_aload_n hx hb dX11_lookAlong_0 rfl (lv_at hl 0 rfl) ?_
  refine w_gR (r := some th) (ci := 12) (k := 9) C w rfl (by decide) (GF_wsX110 _) (by decide) rfl (List.mem_cons_of_mem _ gw_3_2) rfl dX11_lookAlong_1 hE (fun v1 e1 => ?_)
  refine w_aload_n C dX11_lookAlong_4 rfl (lv_at hl 1 rfl) ?_
  refine lv_bipush (v := -20) hx hb dX11_lookAlong_5 (by decide) ?_
  refine w_VV GW_good (n := 2) (F := 2) (Lc := 73) (o := v1) (av := [va_rf a1, .int (-20 : Int32)]) (rest := []) C w rfl (by decide) (fun a r g hf => k_Walk_startAt l D cy z N h a a1 (-20 : Int32) r g hf) gw_47_1 gw_47_2 gw_47_3 gw_3_1 gw_47_4 (by decide +kernel) ⟨Nat.le_of_ble_eq_true rfl, Nat.le_of_ble_eq_true rfl⟩ rfl hl.1 rfl (Nat.le_of_ble_eq_true rfl) dX11_lookAlong_7 (fun a => (sh_Walk_startAt N h a a1 (-20 : Int32))) ⟨by decide, by decide⟩ e1 (fun v2 h3 H locs w hsh3 e2 => ?_)
  refine lv_iconst (v := 0) hx hb dX11_lookAlong_10 (by decide) ?_
  refine lv_istore_n (lv' := [(2, .int (0 : Int32)), (0, .ref th), (1, va_rf a1)]) hx hb dX11_lookAlong_11 rfl hl (by decide) (by cases a1 <;> rfl) (fun ls hl => ?_)
  exact b_K_lookAlong_12 C N   N  h3 th (0 : Int32) _ _ ls w  (lv_sub hl [1, 0] rfl) e2
set_option maxRecDepth 20000 in
set_option maxHeartbeats 4000000 in
theorem b_K_look_169 {p : Program} {l : Launch} {e : Env} {s : State} {m : MethodId} {args : Array Value} {below : List Frame} {meth : Method} {c : Code} {D : va_G} {cy : cyT} {z : Nat} (C : MX p s m args meth c cX11_look 6 ((some .int)) RX11 (Cond.code yX11_look cX11_look 6 ((some .int)) :: GW)) (hst : l.stackTraces = false) (hxt : ∀ x ∈ c.exceptionTable.toList, False) (N : Nat) (n0 s0 : Nat) (hn0 : s.heap.size = n0) {r : (Int32 ⊕ Nat)} {g : hS}  : ∀  (cells slots : Nat) (h : hS) (y0 : Int32) (H : Heap) (locs : List Loc) (ls : Array Slot), wd D cy z s cells h H locs → h_s h = s0 + slots → lv_has ls 6 [] → f_K_look_169 N   h y0 = some (r, g) → W p l e { frames := 11, cells := h_x g - n0, slots := h_s g - s0, locals := 188 } s m args below meth c H locs cells slots (eT D cy z rI r g below args s (h_x g - n0) (h_s g - s0)) (F0 m 169 ls [.int y0]) := by
  obtain ⟨hx, hb, hr, hml, hown, hts, hlk⟩ := id C
  intro cells slots h y0 H locs ls w hsl hl hE
  have hcc : cells ≤ h_x g - n0 ∧ slots ≤ h_s g - s0 := by
    have q1 := mo_K_look_169 N  h y0 _ _ hE
    have q2 := wd_x w
    have q3 := q1.1
    have q4 := q1.2.1
    omega
  unfold f_K_look_169 at hE
  refine W.widen (k := h_x g - n0) (n := h_s g - s0) hcc.1 hcc.2 ?_
  exact w_iretT C w hE dX11_look_169
set_option maxRecDepth 20000 in
set_option maxHeartbeats 4000000 in
theorem b_K_look_127 {p : Program} {l : Launch} {e : Env} {s : State} {m : MethodId} {args : Array Value} {below : List Frame} {meth : Method} {c : Code} {D : va_G} {cy : cyT} {z : Nat} (C : MX p s m args meth c cX11_look 6 ((some .int)) RX11 (Cond.code yX11_look cX11_look 6 ((some .int)) :: GW)) (hst : l.stackTraces = false) (hxt : ∀ x ∈ c.exceptionTable.toList, False) (N : Nat) (n0 s0 : Nat) (hn0 : s.heap.size = n0) {r : (Int32 ⊕ Nat)} {g : hS} {rc93 : hS → Nat → Int32 → Int32 → Int32 → Option ((Int32 ⊕ Nat) × hS)} (hsh93 : ∀ (h : hS) (th : Nat) (x2 : Int32) (x4 : Int32) (x5 : Int32), Mo h (rc93 h th x2 x4 x5)) (hrc93 : ∀ (cells slots : Nat) (h : hS) (th : Nat) (x2 : Int32) (x4 : Int32) (x5 : Int32) (H : Heap) (locs : List Loc) (ls : Array Slot), wd D cy z s cells h H locs → h_s h = s0 + slots → lv_has ls 6 [(0, .ref th), (2, .int x2), (4, .int x4), (5, .int x5)] → rc93 h th x2 x4 x5 = some (r, g) → W p l e { frames := 11, cells := h_x g - n0, slots := h_s g - s0, locals := 188 } s m args below meth c H locs cells slots (eT D cy z rI r g below args s (h_x g - n0) (h_s g - s0)) (F0 m 93 ls [])) : ∀  (cells slots : Nat) (h : hS) (th : Nat) (x2 : Int32) (x5 : Int32) (y0 : Int32) (H : Heap) (locs : List Loc) (ls : Array Slot), wd D cy z s cells h H locs → h_s h = s0 + slots → lv_has ls 6 [(0, .ref th), (2, .int x2), (5, .int x5)] → f_K_look_127 N rc93  h th x2 x5 y0 = some (r, g) → W p l e { frames := 11, cells := h_x g - n0, slots := h_s g - s0, locals := 188 } s m args below meth c H locs cells slots (eT D cy z rI r g below args s (h_x g - n0) (h_s g - s0)) (F0 m 127 ls [.int y0]) := by
  obtain ⟨hx, hb, hr, hml, hown, hts, hlk⟩ := id C
  intro cells slots h th x2 x5 y0 H locs ls w hsl hl hE
  have hcc : cells ≤ h_x g - n0 ∧ slots ≤ h_s g - s0 := by
    have q1 := mo_K_look_127 N hsh93 h th x2 x5 y0 _ _ hE
    have q2 := wd_x w
    have q3 := q1.1
    have q4 := q1.2.1
    omega
  unfold f_K_look_127 at hE
  refine lv_istore (lv' := [(4, .int y0), (0, .ref th), (2, .int x2), (5, .int x5)]) hx hb dX11_look_127 hl (by decide) rfl (fun ls hl => ?_)
  obtain ⟨v1, ev1, e1⟩ := bn_some hE
  refine lv_iinc (v := v1) (lv' := [(5, .int v1), (4, .int y0), (0, .ref th), (2, .int x2)]) hx hb dX11_look_129 hl (k := 3) rfl (by rw [ev1]; rfl) (by decide) rfl (fun ls hl => ?_)
  refine lv_goto (tgt := 93) hx hb dX11_look_132 (by decide) ?_
  exact hrc93 _ _ h th x2 y0 v1 _ _ ls w hsl (lv_sub hl [2, 3, 1, 0] rfl) e1
set_option maxRecDepth 20000 in
set_option maxHeartbeats 4000000 in
theorem b_K_look_93 {p : Program} {l : Launch} {e : Env} {s : State} {m : MethodId} {args : Array Value} {below : List Frame} {meth : Method} {c : Code} {D : va_G} {cy : cyT} {z : Nat} (C : MX p s m args meth c cX11_look 6 ((some .int)) RX11 (Cond.code yX11_look cX11_look 6 ((some .int)) :: GW)) (hst : l.stackTraces = false) (hxt : ∀ x ∈ c.exceptionTable.toList, False) (N : Nat) (n0 s0 : Nat) (hn0 : s.heap.size = n0) {r : (Int32 ⊕ Nat)} {g : hS}  : ∀ (n : Nat) (cells slots : Nat) (h : hS) (th : Nat) (x2 : Int32) (x4 : Int32) (x5 : Int32) (H : Heap) (locs : List Loc) (ls : Array Slot), wd D cy z s cells h H locs → h_s h = s0 + slots → lv_has ls 6 [(0, .ref th), (2, .int x2), (4, .int x4), (5, .int x5)] → f_K_look_93 N  n h th x2 x4 x5 = some (r, g) → W p l e { frames := 11, cells := h_x g - n0, slots := h_s g - s0, locals := 188 } s m args below meth c H locs cells slots (eT D cy z rI r g below args s (h_x g - n0) (h_s g - s0)) (F0 m 93 ls []) := by
  obtain ⟨hx, hb, hr, hml, hown, hts, hlk⟩ := id C
  intro n
  induction n with
  | zero =>
    intro cells slots h th x2 x4 x5 H locs ls w hsl hl hE
    cases hE
  | succ n ih =>
    intro cells slots h th x2 x4 x5 H locs ls w hsl hl hE
    have hcc : cells ≤ h_x g - n0 ∧ slots ≤ h_s g - s0 := by
      have q1 := mo_K_look_93 N  (n + 1) h th x2 x4 x5 _ _ hE
      have q2 := wd_x w
      have q3 := q1.1
      have q4 := q1.2.1
      omega
    unfold f_K_look_93 at hE
    refine lv_iload hx hb dX11_look_93 (lv_at hl 3 rfl) ?_
    refine lv_aload_n hx hb dX11_look_95 rfl (lv_at hl 0 rfl) ?_
    refine w_gR (r := some th) (ci := 12) (k := 12) C w rfl (by decide) (GF_wsX110 _) (by decide) rfl (List.mem_cons_of_mem _ gw_2_17) rfl dX11_look_96 hE (fun v1 e1 => ?_)
    refine w_lenI (r := v1) C w dX11_look_99 e1 (fun v2 e2 => ?_)
    refine w_icmp_ge (tgt := 135) C dX11_look_100 (by decide) e2 (fun hc e3 => ?_) (fun hc e3 => ?_)
    · refine lv_iload_n hx hb dX11_look_135 rfl (lv_at hl 1 rfl) ?_
      refine lv_iconst (v := 1) hx hb dX11_look_136 (by decide) ?_
      refine w_icmp_ne (tgt := 148) C dX11_look_137 (by decide) e3 (fun hc e4 => ?_) (fun hc e4 => ?_)
      · refine lv_aload_n hx hb dX11_look_148 rfl (lv_at hl 0 rfl) ?_
        refine w_gR (r := some th) (ci := 12) (k := 12) C w rfl (by decide) (GF_wsX110 _) (by decide) rfl (List.mem_cons_of_mem _ gw_2_17) rfl dX11_look_149 e4 (fun v3 e5 => ?_)
        refine lv_iload hx hb dX11_look_152 (lv_at hl 2 rfl) ?_
        refine w_aI (r := v3) C w dX11_look_154 e5 (fun v4 e6 => ?_)
        refine w_if_ne (tgt := 164) C dX11_look_155 (by decide) e6 (fun hc e7 => ?_) (fun hc e7 => ?_)
        · refine lv_iload hx hb dX11_look_164 (lv_at hl 2 rfl) ?_
          refine lv_bipush (v := 20) hx hb dX11_look_166 (by decide) ?_
          refine lv_isub hx hb dX11_look_168 ?_
          exact b_K_look_169 C hst hxt N n0 s0 hn0   _ _ h (x4 - (20 : Int32)) _ _ ls w hsl (lv_sub hl [] rfl) e7
        · refine lv_ldcw hx hb hown (hts _ (List.mem_cons_of_mem _ gw_36_13)) dX11_look_158 ?_
          refine lv_goto (tgt := 169) hx hb dX11_look_161 (by decide) ?_
          exact b_K_look_169 C hst hxt N n0 s0 hn0   _ _ h (-10000000 : Int32) _ _ ls w hsl (lv_sub hl [] rfl) e7
      · refine lv_aload_n hx hb dX11_look_140 rfl (lv_at hl 0 rfl) ?_
        refine w_gR (r := some th) (ci := 12) (k := 12) C w rfl (by decide) (GF_wsX110 _) (by decide) rfl (List.mem_cons_of_mem _ gw_2_17) rfl dX11_look_141 e4 (fun v5 e8 => ?_)
        refine lv_iload hx hb dX11_look_144 (lv_at hl 2 rfl) ?_
        refine w_aI (r := v5) C w dX11_look_146 e8 (fun v6 e9 => ?_)
        refine W.widen (k := h_x g - n0) (n := h_s g - s0) hcc.1 hcc.2 ?_
        exact w_iretT C w e9 dX11_look_147
    · refine lv_aload_n hx hb dX11_look_103 rfl (lv_at hl 0 rfl) ?_
      refine w_gR (r := some th) (ci := 12) (k := 12) C w rfl (by decide) (GF_wsX110 _) (by decide) rfl (List.mem_cons_of_mem _ gw_2_17) rfl dX11_look_104 e3 (fun v7 e10 => ?_)
      refine lv_iload hx hb dX11_look_107 (lv_at hl 3 rfl) ?_
      refine w_aI (r := v7) C w dX11_look_109 e10 (fun v8 e11 => ?_)
      refine lv_aload_n hx hb dX11_look_110 rfl (lv_at hl 0 rfl) ?_
      refine w_gR (r := some th) (ci := 12) (k := 12) C w rfl (by decide) (GF_wsX110 _) (by decide) rfl (List.mem_cons_of_mem _ gw_2_17) rfl dX11_look_111 e11 (fun v9 e12 => ?_)
      refine lv_iload hx hb dX11_look_114 (lv_at hl 2 rfl) ?_
      refine w_aI (r := v9) C w dX11_look_116 e12 (fun v10 e13 => ?_)
      refine w_icmp_le (tgt := 125) C dX11_look_117 (by decide) e13 (fun hc e14 => ?_) (fun hc e14 => ?_)
      · refine lv_iload hx hb dX11_look_125 (lv_at hl 2 rfl) ?_
        exact b_K_look_127 C hst hxt N n0 s0 hn0 (mo_K_look_93 N  n) ih  _ _ h th x2 x5 x4 _ _ ls w hsl (lv_sub hl [0, 1, 3] rfl) e14
      · refine lv_iload hx hb dX11_look_120 (lv_at hl 3 rfl) ?_
        refine lv_goto (tgt := 127) hx hb dX11_look_122 (by decide) ?_
        exact b_K_look_127 C hst hxt N n0 s0 hn0 (mo_K_look_93 N  n) ih  _ _ h th x2 x5 x5 _ _ ls w hsl (lv_sub hl [0, 1, 3] rfl) e14
set_option maxRecDepth 20000 in
set_option maxHeartbeats 4000000 in
theorem b_K_look_81 {p : Program} {l : Launch} {e : Env} {s : State} {m : MethodId} {args : Array Value} {below : List Frame} {meth : Method} {c : Code} {D : va_G} {cy : cyT} {z : Nat} (C : MX p s m args meth c cX11_look 6 ((some .int)) RX11 (Cond.code yX11_look cX11_look 6 ((some .int)) :: GW)) (hst : l.stackTraces = false) (hxt : ∀ x ∈ c.exceptionTable.toList, False) (N : Nat) (n0 s0 : Nat) (hn0 : s.heap.size = n0) {r : (Int32 ⊕ Nat)} {g : hS} {rc32 : hS → Nat → Int32 → Int32 → Option Nat → Int32 → Option ((Int32 ⊕ Nat) × hS)} (hsh32 : ∀ (h : hS) (th : Nat) (x1 : Int32) (x2 : Int32) (a3 : Option Nat) (x4 : Int32), Mo h (rc32 h th x1 x2 a3 x4)) (hrc32 : ∀ (cells slots : Nat) (h : hS) (th : Nat) (x1 : Int32) (x2 : Int32) (a3 : Option Nat) (x4 : Int32) (H : Heap) (locs : List Loc) (ls : Array Slot), wd D cy z s cells h H locs → h_s h = s0 + slots → lv_has ls 6 [(0, .ref th), (1, .int x1), (2, .int x2), (3, va_rf a3), (4, .int x4)] → rc32 h th x1 x2 a3 x4 = some (r, g) → W p l e { frames := 11, cells := h_x g - n0, slots := h_s g - s0, locals := 188 } s m args below meth c H locs cells slots (eT D cy z rI r g below args s (h_x g - n0) (h_s g - s0)) (F0 m 32 ls [])) : ∀  (cells slots : Nat) (h : hS) (th : Nat) (x1 : Int32) (x2 : Int32) (a3 : Option Nat) (x4 : Int32) (H : Heap) (locs : List Loc) (ls : Array Slot), wd D cy z s cells h H locs → h_s h = s0 + slots → lv_has ls 6 [(0, .ref th), (1, .int x1), (2, .int x2), (3, va_rf a3), (4, .int x4)] → f_K_look_81 N rc32  h th x1 x2 a3 x4 = some (r, g) → W p l e { frames := 11, cells := h_x g - n0, slots := h_s g - s0, locals := 188 } s m args below meth c H locs cells slots (eT D cy z rI r g below args s (h_x g - n0) (h_s g - s0)) (F0 m 81 ls []) := by
  obtain ⟨hx, hb, hr, hml, hown, hts, hlk⟩ := id C
  intro cells slots h th x1 x2 a3 x4 H locs ls w hsl hl hE
  have hcc : cells ≤ h_x g - n0 ∧ slots ≤ h_s g - s0 := by
    have q1 := mo_K_look_81 N hsh32 h th x1 x2 a3 x4 _ _ hE
    have q2 := wd_x w
    have q3 := q1.1
    have q4 := q1.2.1
    omega
  unfold f_K_look_81 at hE
  obtain ⟨v1, ev1, e1⟩ := bn_some hE
  refine lv_iinc (v := v1) (lv' := [(4, .int v1), (0, .ref th), (1, .int x1), (2, .int x2), (3, va_rf a3)]) hx hb dX11_look_81 hl (k := 4) rfl (by rw [ev1]; rfl) (by decide) (by cases a3 <;> rfl) (fun ls hl => ?_)
  refine lv_goto (tgt := 32) hx hb dX11_look_84 (by decide) ?_
  exact hrc32 _ _ h th x1 x2 a3 v1 _ _ ls w hsl (lv_sub hl [1, 2, 3, 4, 0] rfl) e1
set_option maxRecDepth 20000 in
set_option maxHeartbeats 4000000 in
theorem b_K_look_50 {p : Program} {l : Launch} {e : Env} {s : State} {m : MethodId} {args : Array Value} {below : List Frame} {meth : Method} {c : Code} {D : va_G} {cy : cyT} {z : Nat} (C : MX p s m args meth c cX11_look 6 ((some .int)) RX11 (Cond.code yX11_look cX11_look 6 ((some .int)) :: GW)) (hst : l.stackTraces = false) (hxt : ∀ x ∈ c.exceptionTable.toList, False) (N : Nat) (n0 s0 : Nat) (hn0 : s.heap.size = n0) {r : (Int32 ⊕ Nat)} {g : hS} {rc32 : hS → Nat → Int32 → Int32 → Option Nat → Int32 → Option ((Int32 ⊕ Nat) × hS)} (hsh32 : ∀ (h : hS) (th : Nat) (x1 : Int32) (x2 : Int32) (a3 : Option Nat) (x4 : Int32), Mo h (rc32 h th x1 x2 a3 x4)) (hrc32 : ∀ (cells slots : Nat) (h : hS) (th : Nat) (x1 : Int32) (x2 : Int32) (a3 : Option Nat) (x4 : Int32) (H : Heap) (locs : List Loc) (ls : Array Slot), wd D cy z s cells h H locs → h_s h = s0 + slots → lv_has ls 6 [(0, .ref th), (1, .int x1), (2, .int x2), (3, va_rf a3), (4, .int x4)] → rc32 h th x1 x2 a3 x4 = some (r, g) → W p l e { frames := 11, cells := h_x g - n0, slots := h_s g - s0, locals := 188 } s m args below meth c H locs cells slots (eT D cy z rI r g below args s (h_x g - n0) (h_s g - s0)) (F0 m 32 ls [])) : ∀  (cells slots : Nat) (h : hS) (th : Nat) (x1 : Int32) (x2 : Int32) (a3 : Option Nat) (x4 : Int32) (y0 : Int32) (H : Heap) (locs : List Loc) (ls : Array Slot), wd D cy z s cells h H locs → h_s h = s0 + slots → lv_has ls 6 [(0, .ref th), (1, .int x1), (2, .int x2), (3, va_rf a3), (4, .int x4)] → f_K_look_50 N rc32  h th x1 x2 a3 x4 y0 = some (r, g) → W p l e { frames := 11, cells := h_x g - n0, slots := h_s g - s0, locals := 188 } s m args below meth c H locs cells slots (eT D cy z rI r g below args s (h_x g - n0) (h_s g - s0)) (F0 m 50 ls [.int y0]) := by
  obtain ⟨hx, hb, hr, hml, hown, hts, hlk⟩ := id C
  intro cells slots h th x1 x2 a3 x4 y0 H locs ls w hsl hl hE
  have hcc : cells ≤ h_x g - n0 ∧ slots ≤ h_s g - s0 := by
    have q1 := mo_K_look_50 N hsh32 h th x1 x2 a3 x4 y0 _ _ hE
    have q2 := wd_x w
    have q3 := q1.1
    have q4 := q1.2.1
    omega
  unfold f_K_look_50 at hE
  refine w_if_eq (tgt := 81) C dX11_look_50 (by decide) hE (fun hc e1 => ?_) (fun hc e1 => ?_)
  · exact b_K_look_81 C hst hxt N n0 s0 hn0 hsh32 hrc32  _ _ h th x1 x2 a3 x4 _ _ ls w hsl (lv_sub hl [0, 1, 2, 3, 4] rfl) e1
  · refine lv_aload_n hx hb dX11_look_53 rfl (lv_at hl 0 rfl) ?_
    refine w_gR (r := some th) (ci := 12) (k := 16) C w rfl (by decide) (GF_wsX110 _) (by decide) rfl (List.mem_cons_of_mem _ gw_3_11) rfl dX11_look_54 e1 (fun v1 e2 => ?_)
    refine lv_aload_n hx hb dX11_look_57 rfl (lv_at hl 0 rfl) ?_
    refine w_gR (r := some th) (ci := 12) (k := 4) C w rfl (by decide) (GF_wsX110 _) (by decide) rfl (List.mem_cons_of_mem _ gw_2_1) rfl dX11_look_58 e2 (fun v2 e3 => ?_)
    refine w_gR (r := v2) (ci := 1) (k := 0) C w rfl (by decide) (GF_wsX00 _) (by decide) rfl (List.mem_cons_of_mem _ gw_23_9) rfl dX11_look_61 e3 (fun v3 e4 => ?_)
    refine w_VI GW_good (n := 1) (F := 2) (Lc := 73) (o := v1) (av := [va_rf v3]) (rest := []) C w rfl (by decide) (fun a r g hf => k_State_holdsNotes l D cy z N h a v3 r g hf) gw_61_7 gw_61_8 gw_61_9 gw_3_10 gw_61_10 (by decide +kernel) ⟨Nat.le_of_ble_eq_true rfl, Nat.le_of_ble_eq_true rfl⟩ rfl hl.1 rfl (Nat.le_of_ble_eq_true rfl) dX11_look_64 (fun a => (sh_State_holdsNotes N h a v3)) ⟨hcc.1, hcc.2⟩ e4 (fun v4 h5 H locs w hsh5 e5 => ?_)
    have hsl := hsh5.2.2.2.trans hsl
    refine w_if_eq (tgt := 81) C dX11_look_67 (by decide) e5 (fun hc e6 => ?_) (fun hc e6 => ?_)
    · exact b_K_look_81 C hst hxt N n0 s0 hn0 hsh32 hrc32  _ _ h5 th x1 x2 a3 x4 _ _ ls w hsl (lv_sub hl [0, 1, 2, 3, 4] rfl) e6
    · refine lv_aload_n hx hb dX11_look_70 rfl (lv_at hl 0 rfl) ?_
      refine lv_aload_n hx hb dX11_look_71 rfl (lv_at hl 0 rfl) ?_
      refine w_gR (r := some th) (ci := 12) (k := 4) C w rfl (by decide) (GF_wsX110 _) (by decide) rfl (List.mem_cons_of_mem _ gw_2_1) rfl dX11_look_72 e6 (fun v6 e7 => ?_)
      refine w_gR (r := v6) (ci := 1) (k := 0) C w rfl (by decide) (GF_wsX00 _) (by decide) rfl (List.mem_cons_of_mem _ gw_23_9) rfl dX11_look_75 e7 (fun v7 e8 => ?_)
      refine w_VV GW_good (n := 1) (F := 3) (Lc := 95) (o := some th) (av := [va_rf v7]) (rest := []) C w rfl (by decide) (fun a r g hf => k_K_lookAlong l D cy z N h5 a v7 r g hf) gw_62_6 gw_62_7 gw_62_8 gw_1_2 gw_62_9 (by decide +kernel) ⟨Nat.le_of_ble_eq_true rfl, Nat.le_of_ble_eq_true rfl⟩ rfl hl.1 rfl (Nat.le_of_ble_eq_true rfl) dX11_look_78 (fun a => (sh_K_lookAlong N h5 a v7)) ⟨hcc.1, hcc.2⟩ e8 (fun v8 h9 H locs w hsh9 e9 => ?_)
      have hsl := hsh9.2.2.2.trans hsl
      exact b_K_look_81 C hst hxt N n0 s0 hn0 hsh32 hrc32  _ _ h9 th x1 x2 a3 x4 _ _ ls w hsl (lv_sub hl [0, 1, 2, 3, 4] rfl) e9
set_option maxRecDepth 20000 in
set_option maxHeartbeats 4000000 in
theorem b_K_look_32 {p : Program} {l : Launch} {e : Env} {s : State} {m : MethodId} {args : Array Value} {below : List Frame} {meth : Method} {c : Code} {D : va_G} {cy : cyT} {z : Nat} (C : MX p s m args meth c cX11_look 6 ((some .int)) RX11 (Cond.code yX11_look cX11_look 6 ((some .int)) :: GW)) (hst : l.stackTraces = false) (hxt : ∀ x ∈ c.exceptionTable.toList, False) (N : Nat) (n0 s0 : Nat) (hn0 : s.heap.size = n0) {r : (Int32 ⊕ Nat)} {g : hS}  : ∀ (n : Nat) (cells slots : Nat) (h : hS) (th : Nat) (x1 : Int32) (x2 : Int32) (a3 : Option Nat) (x4 : Int32) (H : Heap) (locs : List Loc) (ls : Array Slot), wd D cy z s cells h H locs → h_s h = s0 + slots → lv_has ls 6 [(0, .ref th), (1, .int x1), (2, .int x2), (3, va_rf a3), (4, .int x4)] → f_K_look_32 N  n h th x1 x2 a3 x4 = some (r, g) → W p l e { frames := 11, cells := h_x g - n0, slots := h_s g - s0, locals := 188 } s m args below meth c H locs cells slots (eT D cy z rI r g below args s (h_x g - n0) (h_s g - s0)) (F0 m 32 ls []) := by
  obtain ⟨hx, hb, hr, hml, hown, hts, hlk⟩ := id C
  intro n
  induction n with
  | zero =>
    intro cells slots h th x1 x2 a3 x4 H locs ls w hsl hl hE
    cases hE
  | succ n ih =>
    intro cells slots h th x1 x2 a3 x4 H locs ls w hsl hl hE
    have hcc : cells ≤ h_x g - n0 ∧ slots ≤ h_s g - s0 := by
      have q1 := mo_K_look_32 N  (n + 1) h th x1 x2 a3 x4 _ _ hE
      have q2 := wd_x w
      have q3 := q1.1
      have q4 := q1.2.1
      omega
    unfold f_K_look_32 at hE
    refine lv_iload hx hb dX11_look_32 (lv_at hl 4 rfl) ?_
    refine lv_bipush (v := 40) hx hb dX11_look_34 (by decide) ?_
    refine w_icmp_gt (tgt := 87) C dX11_look_36 (by decide) hE (fun hc e1 => ?_) (fun hc e1 => ?_)
    · refine lv_iconst (v := 0) hx hb dX11_look_87 (by decide) ?_
      refine lv_istore (lv' := [(4, .int (0 : Int32)), (0, .ref th), (1, .int x1), (2, .int x2), (3, va_rf a3)]) hx hb dX11_look_88 hl (by decide) (by cases a3 <;> rfl) (fun ls hl => ?_)
      refine lv_iconst (v := 1) hx hb dX11_look_90 (by decide) ?_
      refine lv_istore (lv' := [(5, .int (1 : Int32)), (4, .int (0 : Int32)), (0, .ref th), (1, .int x1), (2, .int x2), (3, va_rf a3)]) hx hb dX11_look_91 hl (by decide) rfl (fun ls hl => ?_)
      exact b_K_look_93 C hst hxt N n0 s0 hn0  N _ _ h th x2 (0 : Int32) (1 : Int32) _ _ ls w hsl (lv_sub hl [2, 4, 1, 0] rfl) e1
    · refine lv_aload_n hx hb dX11_look_39 rfl (lv_at hl 0 rfl) ?_
      refine w_gR (r := some th) (ci := 12) (k := 4) C w rfl (by decide) (GF_wsX110 _) (by decide) rfl (List.mem_cons_of_mem _ gw_2_1) rfl dX11_look_40 e1 (fun v1 e2 => ?_)
      refine w_aload_n C dX11_look_43 rfl (lv_at hl 3 rfl) ?_
      refine lv_iload_n hx hb dX11_look_44 rfl (lv_at hl 1 rfl) ?_
      refine lv_iload hx hb dX11_look_45 (lv_at hl 4 rfl) ?_
      refine w_VAI GW_good (n := 3) (F := 5) (Lc := 142) (o := v1) (av := [va_rf a3, .int x1, .int x4]) (rest := []) C w rfl (by decide) (fun a r g hf => k_Bench_goThrough l D cy z N h a a3 x1 x4 r g hf) gw_50_10 gw_50_11 gw_50_12 gw_2_0 gw_50_13 (by decide +kernel) ⟨Nat.le_of_ble_eq_true rfl, Nat.le_of_ble_eq_true rfl⟩ rfl hl.1 rfl (Nat.le_of_ble_eq_true rfl) dX11_look_47 (fun a => (mo_Bench_goThrough N h a a3 x1 x4)) (fun a v2 h3 q1 q2 => by have u1 := (mo_Bench_goThrough N h a a3 x1 x4) _ _ q1; have u2 := mo_K_look_50 N (mo_K_look_32 N  n)  h3 th x1 x2 a3 x4 v2 _ _ q2; have u3 := wd_x w; have u4 := u1.1; have u5 := u1.2.1; have u6 := u2.1; have u7 := u2.2.1; show cells + _ ≤ h_x g - n0 ∧ slots + _ ≤ h_s g - s0; omega) e2 (fun v2 h3 H locs w hsh3 e3 => ?_)
      exact b_K_look_50 C hst hxt N n0 s0 hn0 (mo_K_look_32 N  n) ih  _ _ h3 th x1 x2 a3 x4 v2 _ _ ls w (by have u5 := hsh3.2.1; have u8 := hsl; omega) (lv_sub hl [0, 1, 2, 3, 4] rfl) e3
set_option maxRecDepth 20000 in
set_option maxHeartbeats 4000000 in
theorem b_K_look_29 {p : Program} {l : Launch} {e : Env} {s : State} {m : MethodId} {args : Array Value} {below : List Frame} {meth : Method} {c : Code} {D : va_G} {cy : cyT} {z : Nat} (C : MX p s m args meth c cX11_look 6 ((some .int)) RX11 (Cond.code yX11_look cX11_look 6 ((some .int)) :: GW)) (hst : l.stackTraces = false) (hxt : ∀ x ∈ c.exceptionTable.toList, False) (N : Nat) (n0 s0 : Nat) (hn0 : s.heap.size = n0) {r : (Int32 ⊕ Nat)} {g : hS}  : ∀  (cells slots : Nat) (h : hS) (th : Nat) (x1 : Int32) (x2 : Int32) (a3 : Option Nat) (H : Heap) (locs : List Loc) (ls : Array Slot), wd D cy z s cells h H locs → h_s h = s0 + slots → lv_has ls 6 [(0, .ref th), (1, .int x1), (2, .int x2), (3, va_rf a3)] → f_K_look_29 N   h th x1 x2 a3 = some (r, g) → W p l e { frames := 11, cells := h_x g - n0, slots := h_s g - s0, locals := 188 } s m args below meth c H locs cells slots (eT D cy z rI r g below args s (h_x g - n0) (h_s g - s0)) (F0 m 29 ls []) := by
  obtain ⟨hx, hb, hr, hml, hown, hts, hlk⟩ := id C
  intro cells slots h th x1 x2 a3 H locs ls w hsl hl hE
  have hcc : cells ≤ h_x g - n0 ∧ slots ≤ h_s g - s0 := by
    have q1 := mo_K_look_29 N  h th x1 x2 a3 _ _ hE
    have q2 := wd_x w
    have q3 := q1.1
    have q4 := q1.2.1
    omega
  unfold f_K_look_29 at hE
  refine lv_iconst (v := 0) hx hb dX11_look_29 (by decide) ?_
  refine lv_istore (lv' := [(4, .int (0 : Int32)), (0, .ref th), (1, .int x1), (2, .int x2), (3, va_rf a3)]) hx hb dX11_look_30 hl (by decide) (by cases a3 <;> rfl) (fun ls hl => ?_)
  exact b_K_look_32 C hst hxt N n0 s0 hn0  N _ _ h th x1 x2 a3 (0 : Int32) _ _ ls w hsl (lv_sub hl [1, 2, 3, 4, 0] rfl) hE
set_option maxRecDepth 20000 in
set_option maxHeartbeats 4000000 in
theorem b_K_look_11 {p : Program} {l : Launch} {e : Env} {s : State} {m : MethodId} {args : Array Value} {below : List Frame} {meth : Method} {c : Code} {D : va_G} {cy : cyT} {z : Nat} (C : MX p s m args meth c cX11_look 6 ((some .int)) RX11 (Cond.code yX11_look cX11_look 6 ((some .int)) :: GW)) (hst : l.stackTraces = false) (hxt : ∀ x ∈ c.exceptionTable.toList, False) (N : Nat) (n0 s0 : Nat) (hn0 : s.heap.size = n0) {r : (Int32 ⊕ Nat)} {g : hS}  : ∀  (cells slots : Nat) (h : hS) (th : Nat) (x1 : Int32) (x2 : Int32) (y0 : Option Nat) (H : Heap) (locs : List Loc) (ls : Array Slot), wd D cy z s cells h H locs → h_s h = s0 + slots → lv_has ls 6 [(0, .ref th), (1, .int x1), (2, .int x2)] → f_K_look_11 N   h th x1 x2 y0 = some (r, g) → W p l e { frames := 11, cells := h_x g - n0, slots := h_s g - s0, locals := 188 } s m args below meth c H locs cells slots (eT D cy z rI r g below args s (h_x g - n0) (h_s g - s0)) (F0 m 11 ls [va_rf y0]) := by
  obtain ⟨hx, hb, hr, hml, hown, hts, hlk⟩ := id C
  intro cells slots h th x1 x2 y0 H locs ls w hsl hl hE
  have hcc : cells ≤ h_x g - n0 ∧ slots ≤ h_s g - s0 := by
    have q1 := mo_K_look_11 N  h th x1 x2 y0 _ _ hE
    have q2 := wd_x w
    have q3 := q1.1
    have q4 := q1.2.1
    omega
  unfold f_K_look_11 at hE
  refine w_astore_n (r := y0) (lv' := [(3, va_rf y0), (0, .ref th), (1, .int x1), (2, .int x2)]) C dX11_look_11 rfl hl (by decide) rfl (fun ls hl => ?_)
  refine lv_aload_n hx hb dX11_look_12 rfl (lv_at hl 1 rfl) ?_
  refine w_gR (r := some th) (ci := 12) (k := 12) C w rfl (by decide) (GF_wsX110 _) (by decide) rfl (List.mem_cons_of_mem _ gw_2_17) rfl dX11_look_13 hE (fun v1 e1 => ?_)
  refine lv_iconst (v := 0) hx hb dX11_look_16 (by decide) ?_
  refine w_SV GW_good (n := 2) (F := 0) (Lc := 0) (av := [va_rf v1, .int (0 : Int32)]) (rest := []) C w (fun r g hf => k_Arr_fill_53178 l D cy z N h v1 (0 : Int32) r g hf) gw_62_3 gw_62_4 gw_16_23 gw_62_5 (by decide +kernel) ⟨Nat.le_of_ble_eq_true rfl, Nat.le_of_ble_eq_true rfl⟩ rfl hl.1 rfl (Nat.le_of_ble_eq_true rfl) dX11_look_17 (sh_Arr_fill_53178 N h v1 (0 : Int32)) ⟨hcc.1, hcc.2⟩ e1 (fun v2 h3 H locs w hsh3 e2 => ?_)
  have hsl := hsh3.2.2.2.trans hsl
  refine lv_aload_n hx hb dX11_look_20 rfl (lv_at hl 1 rfl) ?_
  refine w_gR (r := some th) (ci := 12) (k := 4) C w rfl (by decide) (GF_wsX110 _) (by decide) rfl (List.mem_cons_of_mem _ gw_2_1) rfl dX11_look_21 e2 (fun v4 e3 => ?_)
  refine w_aload_n C dX11_look_24 rfl (lv_at hl 0 rfl) ?_
  refine lv_iload_n hx hb dX11_look_25 rfl (lv_at hl 2 rfl) ?_
  refine w_VAV GW_good (n := 2) (F := 5) (Lc := 142) (o := v4) (av := [va_rf y0, .int x1]) (rest := []) C w rfl (by decide) (fun a r g hf => k_Bench_standAhead l D cy z N h3 a y0 x1 r g hf) gw_50_5 gw_50_6 gw_50_7 gw_2_0 gw_50_8 (by decide +kernel) ⟨Nat.le_of_ble_eq_true rfl, Nat.le_of_ble_eq_true rfl⟩ rfl hl.1 rfl (Nat.le_of_ble_eq_true rfl) dX11_look_26 (fun a => (mo_Bench_standAhead N h3 a y0 x1)) (fun a v5 h6 q1 q2 => by have u1 := (mo_Bench_standAhead N h3 a y0 x1) _ _ q1; have u2 := mo_K_look_29 N   h6 th x1 x2 y0 _ _ q2; have u3 := wd_x w; have u4 := u1.1; have u5 := u1.2.1; have u6 := u2.1; have u7 := u2.2.1; show cells + _ ≤ h_x g - n0 ∧ slots + _ ≤ h_s g - s0; omega) e3 (fun v5 h6 H locs w hsh6 e4 => ?_)
  exact b_K_look_29 C hst hxt N n0 s0 hn0   _ _ h6 th x1 x2 y0 _ _ ls w (by have u5 := hsh6.2.1; have u8 := hsl; omega) (lv_sub hl [1, 2, 3, 0] rfl) e4
set_option maxRecDepth 20000 in
set_option maxHeartbeats 4000000 in
theorem b_K_look_6 {p : Program} {l : Launch} {e : Env} {s : State} {m : MethodId} {args : Array Value} {below : List Frame} {meth : Method} {c : Code} {D : va_G} {cy : cyT} {z : Nat} (C : MX p s m args meth c cX11_look 6 ((some .int)) RX11 (Cond.code yX11_look cX11_look 6 ((some .int)) :: GW)) (hst : l.stackTraces = false) (hxt : ∀ x ∈ c.exceptionTable.toList, False) (N : Nat) (n0 s0 : Nat) (hn0 : s.heap.size = n0) {r : (Int32 ⊕ Nat)} {g : hS}  : ∀  (cells slots : Nat) (h : hS) (th : Nat) (x1 : Int32) (x2 : Int32) (H : Heap) (locs : List Loc) (ls : Array Slot), wd D cy z s cells h H locs → h_s h = s0 + slots → lv_has ls 6 [(0, .ref th), (1, .int x1), (2, .int x2)] → f_K_look_6 N   h th x1 x2 = some (r, g) → W p l e { frames := 11, cells := h_x g - n0, slots := h_s g - s0, locals := 188 } s m args below meth c H locs cells slots (eT D cy z rI r g below args s (h_x g - n0) (h_s g - s0)) (F0 m 6 ls []) := by
  obtain ⟨hx, hb, hr, hml, hown, hts, hlk⟩ := id C
  intro cells slots h th x1 x2 H locs ls w hsl hl hE
  have hcc : cells ≤ h_x g - n0 ∧ slots ≤ h_s g - s0 := by
    have q1 := mo_K_look_6 N  h th x1 x2 _ _ hE
    have q2 := wd_x w
    have q3 := q1.1
    have q4 := q1.2.1
    omega
  unfold f_K_look_6 at hE
  refine lv_aload_n hx hb dX11_look_6 rfl (lv_at hl 0 rfl) ?_
  refine lv_iconst (v := 0) hx hb dX11_look_7 (by decide) ?_
  refine w_VTR GW_good (n := 1) (F := 8) (Lc := 122) (ob := some th) (av := [.int (0 : Int32)]) (rest := []) hxt hn0 hsl C w rfl (by decide) (fun a r g hf => k_K_chainOf l hst D cy z N h a (0 : Int32) r g hf) gw_32_8 gw_32_9 gw_32_10 gw_1_2 gw_32_11 (by decide +kernel) ⟨Nat.le_of_ble_eq_true rfl, Nat.le_of_ble_eq_true rfl⟩ rfl hl.1 rfl (Nat.le_of_ble_eq_true rfl) dX11_look_8 (fun a => (mo_K_chainOf N h a (0 : Int32))) (fun v1 h2 => mo_K_look_11 N   h2 th x1 x2 v1) hE (fun v1 h2 H locs w hsh2 e1 => ?_)
  exact b_K_look_11 C hst hxt N n0 s0 hn0   _ _ h2 th x1 x2 v1 _ _ ls w (by have u5 := hsh2.2.1; have u8 := hsl; omega) (lv_sub hl [0, 1, 2] rfl) e1
set_option maxRecDepth 20000 in
set_option maxHeartbeats 4000000 in
theorem k_K_look (l : Launch) (hst : l.stackTraces = false) (D : va_G) (cy : cyT) (z : Nat) (N : Nat) (h : hS) (th : Nat) (x1 : Int32) (x2 : Int32) (r : (Int32 ⊕ Nat)) (g : hS) (hE : f_K_look N h th x1 x2 = some (r, g)) : ctT l yX11_look (Cond.code yX11_look cX11_look 6 ((some .int)) :: GW) { frames := 11, cells := h_x g - h_x h, slots := h_s g - h_s h, locals := 188 } D cy z h [.ref th, .int x1, .int x2] rI r g := by
  refine ctT_of (cc := cX11_look) (maxL := 6) (ret := (some .int)) (by decide) ?_
  intro p e s m args below meth c s₁ B hml hxt hv
  obtain ⟨rfl, hw⟩ := hv
  have C : MX p s m ([.ref th, .int x1, .int x2] : List Value).toArray meth c cX11_look 6 ((some .int)) RX11 (Cond.code yX11_look cX11_look 6 ((some .int)) :: GW) := ⟨B.exec, B.bytes, B.returns, hml, findClass_of_methodNamed B.named, atoms_spec (ws := Cond.code yX11_look cX11_look 6 ((some .int)) :: GW) B.pre, B.notSynchronized⟩
  obtain ⟨hx, hb, hr, hml, hown, hts, hlk⟩ := id C
  have w := wd_of hw
  have hsl : h_s h = h_s h + 0 := rfl
  have hn0 : s.heap.size = h_x h := (wd_x w).1
  obtain ⟨ls, hen, hl⟩ : ∃ ls : Array Slot, entryFrame m ([.ref th, .int x1, .int x2] : List Value).toArray 6 = F0 m 0 ls [] ∧ lv_has ls 6 [(0, .ref th), (1, .int x1), (2, .int x2)] := by
    exact ⟨_, lg_entry_eq _ _ _, lv_entry _ (Nat.le_of_ble_eq_true rfl)⟩
  rw [hen]
  have hcc : 0 ≤ h_x g - h_x h ∧ 0 ≤ h_s g - h_s h := ⟨Nat.zero_le _, Nat.zero_le _⟩
  unfold f_K_look at hE
  refine lv_aload_n hx hb dX11_look_0 rfl (lv_at hl 0 rfl) ?_
  refine lv_iload_n hx hb dX11_look_1 rfl (lv_at hl 1 rfl) ?_
  refine lv_iload_n hx hb dX11_look_2 rfl (lv_at hl 2 rfl) ?_
  refine w_VTV GW_good (n := 2) (F := 10) (Lc := 166) (ob := some th) (av := [.int x1, .int x2]) (rest := []) hxt hn0 hsl C w rfl (by decide) (fun a r g hf => k_K_needWeighted l hst D cy z N h a x1 x2 r g hf) gw_61_3 gw_61_4 gw_61_5 gw_1_2 gw_61_6 (by decide +kernel) ⟨Nat.le_of_ble_eq_true rfl, Nat.le_of_ble_eq_true rfl⟩ rfl hl.1 rfl (Nat.le_of_ble_eq_true rfl) dX11_look_3 (fun a => (mo_K_needWeighted N h a x1 x2)) (fun v1 h2 => mo_K_look_6 N   h2 th x1 x2) hE (fun v1 h2 H locs w hsh2 e1 => ?_)
  exact b_K_look_6 C hst hxt N (h_x h) (h_s h) hn0   _ _ h2 th x1 x2 _ _ ls w (by have u5 := hsh2.2.1; have u8 := hsl; omega) (lv_sub hl [0, 1, 2] rfl) e1
set_option maxRecDepth 20000 in
set_option maxHeartbeats 4000000 in
theorem k_K_forget (l : Launch) (D : va_G) (cy : cyT) (z : Nat) (N : Nat) (h : hS) (th : Nat) (r : Unit) (g : hS) (hE : f_K_forget N h th = some (r, g)) : ct l yX11_forget (Cond.code yX11_forget cX11_forget 1 (none) :: GW) { frames := 0, cells := 0, slots := 0, locals := 0 } D cy z h [.ref th] (rV r) g := by
  refine Met.ofW (cc := cX11_forget) (maxL := 1) (ret := none) (by decide) rfl ?_
  intro p e s m args below meth c s₁ B hml hv
  obtain ⟨rfl, hw⟩ := hv
  have C : MX p s m ([.ref th] : List Value).toArray meth c cX11_forget 1 (none) RX11 (Cond.code yX11_forget cX11_forget 1 (none) :: GW) := ⟨B.exec, B.bytes, B.returns, hml, findClass_of_methodNamed B.named, atoms_spec (ws := Cond.code yX11_forget cX11_forget 1 (none) :: GW) B.pre, B.notSynchronized⟩
  obtain ⟨hx, hb, hr, hml, hown, hts, hlk⟩ := id C
  have w := wd_of hw
  obtain ⟨ls, hen, hl⟩ : ∃ ls : Array Slot, entryFrame m ([.ref th] : List Value).toArray 1 = F0 m 0 ls [] ∧ lv_has ls 1 [(0, .ref th)] := by
    exact ⟨_, lg_entry_eq _ _ _, lv_entry _ (Nat.le_of_ble_eq_true rfl)⟩
  rw [hen]
  unfold f_K_forget at hE
  refine lv_aload_n hx hb dX11_forget_0 rfl (lv_at hl 0 rfl) ?_
  refine w_gR (r := some th) (ci := 12) (k := 16) C w rfl (by decide) (GF_wsX110 _) (by decide) rfl (List.mem_cons_of_mem _ gw_3_11) rfl dX11_forget_1 hE (fun v1 e1 => ?_)
  refine lv_iconst (v := 0) hx hb dX11_forget_4 (by decide) ?_
  refine w_pI (r := v1) (ci := 7) (k := 6) C w rfl (by decide) (by unfold roK; omega) (GF_wsX60 _) tyX6 tyX6_ok nmX6 (by decide) rfl (List.mem_cons_of_mem _ gw_32_7) rfl rfl (tyX6_ok 6 (by decide)) dX11_forget_5 e1 (fun h2 H locs w hsh2 e2 => ?_)
  exact w_vret C w e2 dX11_forget_8
set_option maxRecDepth 20000 in
set_option maxHeartbeats 4000000 in
theorem b_K_draw_38 {p : Program} {l : Launch} {e : Env} {s : State} {m : MethodId} {args : Array Value} {below : List Frame} {meth : Method} {c : Code} {D : va_G} {cy : cyT} {z : Nat} (C : MX p s m args meth c cX11_draw 2 ((some .int)) RX11 (Cond.code yX11_draw cX11_draw 2 ((some .int)) :: GW)) (N : Nat) {r : Int32} {g : hS}  : ∀  (h : hS) (y0 : Int32) (H : Heap) (locs : List Loc) (ls : Array Slot), wd D cy z s 0 h H locs → lv_has ls 2 [] → f_K_draw_38 N   h y0 = some (r, g) → W p l e { frames := 0, cells := 0, slots := 0, locals := 0 } s m args below meth c H locs 0 0 (MQ below (eQ D cy z (rI r) g) args s 0 0 (fun q => z ≤ q)) (F0 m 38 ls [.int y0]) := by
  obtain ⟨hx, hb, hr, hml, hown, hts, hlk⟩ := id C
  intro  h y0 H locs ls w  hl hE
  unfold f_K_draw_38 at hE
  exact w_iret C w hE dX11_draw_38
set_option maxRecDepth 20000 in
set_option maxHeartbeats 4000000 in
theorem k_K_draw (l : Launch) (D : va_G) (cy : cyT) (z : Nat) (N : Nat) (h : hS) (th : Nat) (x1 : Int32) (r : Int32) (g : hS) (hE : f_K_draw N h th x1 = some (r, g)) : ct l yX11_draw (Cond.code yX11_draw cX11_draw 2 ((some .int)) :: GW) { frames := 0, cells := 0, slots := 0, locals := 0 } D cy z h [.ref th, .int x1] (rI r) g := by
  refine Met.ofW (cc := cX11_draw) (maxL := 2) (ret := (some .int)) (by decide) rfl ?_
  intro p e s m args below meth c s₁ B hml hv
  obtain ⟨rfl, hw⟩ := hv
  have C : MX p s m ([.ref th, .int x1] : List Value).toArray meth c cX11_draw 2 ((some .int)) RX11 (Cond.code yX11_draw cX11_draw 2 ((some .int)) :: GW) := ⟨B.exec, B.bytes, B.returns, hml, findClass_of_methodNamed B.named, atoms_spec (ws := Cond.code yX11_draw cX11_draw 2 ((some .int)) :: GW) B.pre, B.notSynchronized⟩
  obtain ⟨hx, hb, hr, hml, hown, hts, hlk⟩ := id C
  have w := wd_of hw
  obtain ⟨ls, hen, hl⟩ : ∃ ls : Array Slot, entryFrame m ([.ref th, .int x1] : List Value).toArray 2 = F0 m 0 ls [] ∧ lv_has ls 2 [(0, .ref th), (1, .int x1)] := by
    exact ⟨_, lg_entry_eq _ _ _, lv_entry _ (Nat.le_of_ble_eq_true rfl)⟩
  rw [hen]
  unfold f_K_draw at hE
  refine lv_aload_n hx hb dX11_draw_0 rfl (lv_at hl 0 rfl) ?_
  refine lv_aload_n hx hb dX11_draw_1 rfl (lv_at hl 0 rfl) ?_
  refine w_gI (r := some th) (ci := 12) (k := 8) C w rfl (by decide) (GF_wsX110 _) (by decide) rfl (List.mem_cons_of_mem _ gw_2_14) rfl dX11_draw_2 hE (fun v1 e1 => ?_)
  refine lv_ldcw hx hb hown (hts _ (List.mem_cons_of_mem _ gw_63_17)) dX11_draw_5 ?_
  refine lv_imul hx hb dX11_draw_8 ?_
  refine lv_sipush (v := 12345) hx hb dX11_draw_9 (by decide) ?_
  refine lv_iadd hx hb dX11_draw_12 ?_
  refine w_pI (r := some th) (ci := 12) (k := 8) C w rfl (by decide) (by unfold roK; omega) (GF_wsX110 _) tyX11 tyX11_ok nmX11 (by decide) rfl (List.mem_cons_of_mem _ gw_2_14) rfl rfl (tyX11_ok 8 (by decide)) dX11_draw_13 e1 (fun h2 H locs w hsh2 e2 => ?_)
  refine lv_iload_n hx hb dX11_draw_16 rfl (lv_at hl 1 rfl) ?_
  refine lv_iconst (v := 1) hx hb dX11_draw_17 (by decide) ?_
  refine w_icmp_ge (tgt := 25) C dX11_draw_18 (by decide) e2 (fun hc e3 => ?_) (fun hc e3 => ?_)
  · refine lv_aload_n hx hb dX11_draw_25 rfl (lv_at hl 0 rfl) ?_
    refine w_gI (r := some th) (ci := 12) (k := 8) C w rfl (by decide) (GF_wsX110 _) (by decide) rfl (List.mem_cons_of_mem _ gw_2_14) rfl dX11_draw_26 e3 (fun v3 e4 => ?_)
    refine lv_bipush (v := 16) hx hb dX11_draw_29 (by decide) ?_
    refine lv_iushr hx hb dX11_draw_31 rfl ?_
    refine lv_sipush (v := 32767) hx hb dX11_draw_32 (by decide) ?_
    refine lv_iand hx hb dX11_draw_35 ?_
    refine lv_iload_n hx hb dX11_draw_36 rfl (lv_at hl 1 rfl) ?_
    refine w_irem C dX11_draw_37 e4 (fun e5 => ?_)
    exact b_K_draw_38 C N     h2 ((((v3.toUInt32 >>> ((16 : Int32).toUInt32 &&& Int32.toUInt32 31)).toInt32) &&& (32767 : Int32)) - (((v3.toUInt32 >>> ((16 : Int32).toUInt32 &&& Int32.toUInt32 31)).toInt32) &&& (32767 : Int32)) / x1 * x1) _ _ ls w  (lv_sub hl [] rfl) e5
  · refine lv_iconst (v := 0) hx hb dX11_draw_21 (by decide) ?_
    refine lv_goto (tgt := 38) hx hb dX11_draw_22 (by decide) ?_
    exact b_K_draw_38 C N     h2 (0 : Int32) _ _ ls w  (lv_sub hl [] rfl) e3
set_option maxRecDepth 20000 in
set_option maxHeartbeats 4000000 in
theorem b_K_liveYear_121 {p : Program} {l : Launch} {e : Env} {s : State} {m : MethodId} {args : Array Value} {below : List Frame} {meth : Method} {c : Code} {D : va_G} {cy : cyT} {z : Nat} (C : MX p s m args meth c cX11_liveYear 5 (none) RX11 (Cond.code yX11_liveYear cX11_liveYear 5 (none) :: GW)) (N : Nat) (n0 s0 : Nat) (hn0 : s.heap.size = n0) {r : Unit} {g : hS}  : ∀  (cells slots : Nat) (h : hS)  (H : Heap) (locs : List Loc) (ls : Array Slot), wd D cy z s cells h H locs → h_s h = s0 + slots → lv_has ls 5 [] → f_K_liveYear_121 N   h  = some (r, g) → W p l e { frames := 5, cells := h_x g - n0, slots := h_s g - s0, locals := 144 } s m args below meth c H locs cells slots (MQ below (eQ D cy z (rV r) g) args s (h_x g - n0) (h_s g - s0) (fun q => z ≤ q)) (F0 m 121 ls []) := by
  obtain ⟨hx, hb, hr, hml, hown, hts, hlk⟩ := id C
  intro cells slots h  H locs ls w hsl hl hE
  have hcc : cells ≤ h_x g - n0 ∧ slots ≤ h_s g - s0 := by
    have q1 := mo_K_liveYear_121 N  h  _ _ hE
    have q2 := wd_x w
    have q3 := q1.1
    have q4 := q1.2.1
    omega
  unfold f_K_liveYear_121 at hE
  refine W.widen (k := h_x g - n0) (n := h_s g - s0) hcc.1 hcc.2 ?_
  exact w_vret C w hE dX11_liveYear_121
set_option maxRecDepth 20000 in
set_option maxHeartbeats 4000000 in
theorem b_K_liveYear_110 {p : Program} {l : Launch} {e : Env} {s : State} {m : MethodId} {args : Array Value} {below : List Frame} {meth : Method} {c : Code} {D : va_G} {cy : cyT} {z : Nat} (C : MX p s m args meth c cX11_liveYear 5 (none) RX11 (Cond.code yX11_liveYear cX11_liveYear 5 (none) :: GW)) (N : Nat) (n0 s0 : Nat) (hn0 : s.heap.size = n0) {r : Unit} {g : hS}  : ∀  (cells slots : Nat) (h : hS) (th : Nat) (x2 : Int32) (x3 : Int32) (x4 : Int32) (H : Heap) (locs : List Loc) (ls : Array Slot), wd D cy z s cells h H locs → h_s h = s0 + slots → lv_has ls 5 [(0, .ref th), (2, .int x2), (3, .int x3), (4, .int x4)] → f_K_liveYear_110 N   h th x2 x3 x4 = some (r, g) → W p l e { frames := 5, cells := h_x g - n0, slots := h_s g - s0, locals := 144 } s m args below meth c H locs cells slots (MQ below (eQ D cy z (rV r) g) args s (h_x g - n0) (h_s g - s0) (fun q => z ≤ q)) (F0 m 110 ls []) := by
  obtain ⟨hx, hb, hr, hml, hown, hts, hlk⟩ := id C
  intro cells slots h th x2 x3 x4 H locs ls w hsl hl hE
  have hcc : cells ≤ h_x g - n0 ∧ slots ≤ h_s g - s0 := by
    have q1 := mo_K_liveYear_110 N  h th x2 x3 x4 _ _ hE
    have q2 := wd_x w
    have q3 := q1.1
    have q4 := q1.2.1
    omega
  unfold f_K_liveYear_110 at hE
  refine lv_aload_n hx hb dX11_liveYear_110 rfl (lv_at hl 0 rfl) ?_
  refine w_gR (r := some th) (ci := 12) (k := 4) C w rfl (by decide) (GF_wsX110 _) (by decide) rfl (List.mem_cons_of_mem _ gw_2_1) rfl dX11_liveYear_111 hE (fun v1 e1 => ?_)
  refine lv_iload_n hx hb dX11_liveYear_114 rfl (lv_at hl 1 rfl) ?_
  refine lv_iload_n hx hb dX11_liveYear_115 rfl (lv_at hl 2 rfl) ?_
  refine lv_iload hx hb dX11_liveYear_116 (lv_at hl 3 rfl) ?_
  refine w_VAV GW_good (n := 3) (F := 4) (Lc := 121) (o := v1) (av := [.int x2, .int x3, .int x4]) (rest := []) C w rfl (by decide) (fun a r g hf => k_Bench_applyIfNotTooMuch l D cy z N h a x2 x3 x4 r g hf) gw_63_18 gw_63_19 gw_63_20 gw_2_0 gw_63_21 (by decide +kernel) ⟨Nat.le_of_ble_eq_true rfl, Nat.le_of_ble_eq_true rfl⟩ rfl hl.1 rfl (Nat.le_of_ble_eq_true rfl) dX11_liveYear_118 (fun a => (mo_Bench_applyIfNotTooMuch N h a x2 x3 x4)) (fun a v2 h3 q1 q2 => by have u1 := (mo_Bench_applyIfNotTooMuch N h a x2 x3 x4) _ _ q1; have u2 := mo_K_liveYear_121 N   h3  _ _ q2; have u3 := wd_x w; have u4 := u1.1; have u5 := u1.2.1; have u6 := u2.1; have u7 := u2.2.1; show cells + _ ≤ h_x g - n0 ∧ slots + _ ≤ h_s g - s0; omega) e1 (fun v2 h3 H locs w hsh3 e2 => ?_)
  exact b_K_liveYear_121 C N n0 s0 hn0   _ _ h3  _ _ ls w (by have u5 := hsh3.2.1; have u8 := hsl; omega) (lv_sub hl [] rfl) e2
set_option maxRecDepth 20000 in
set_option maxHeartbeats 4000000 in
theorem k_K_liveYear (l : Launch) (D : va_G) (cy : cyT) (z : Nat) (N : Nat) (h : hS) (th : Nat) (r : Unit) (g : hS) (hE : f_K_liveYear N h th = some (r, g)) : ct l yX11_liveYear (Cond.code yX11_liveYear cX11_liveYear 5 (none) :: GW) { frames := 5, cells := h_x g - h_x h, slots := h_s g - h_s h, locals := 144 } D cy z h [.ref th] (rV r) g := by
  refine Met.ofW (cc := cX11_liveYear) (maxL := 5) (ret := none) (by decide) rfl ?_
  intro p e s m args below meth c s₁ B hml hv
  obtain ⟨rfl, hw⟩ := hv
  have C : MX p s m ([.ref th] : List Value).toArray meth c cX11_liveYear 5 (none) RX11 (Cond.code yX11_liveYear cX11_liveYear 5 (none) :: GW) := ⟨B.exec, B.bytes, B.returns, hml, findClass_of_methodNamed B.named, atoms_spec (ws := Cond.code yX11_liveYear cX11_liveYear 5 (none) :: GW) B.pre, B.notSynchronized⟩
  obtain ⟨hx, hb, hr, hml, hown, hts, hlk⟩ := id C
  have w := wd_of hw
  have hsl : h_s h = h_s h + 0 := rfl
  have hn0 : s.heap.size = h_x h := (wd_x w).1
  obtain ⟨ls, hen, hl⟩ : ∃ ls : Array Slot, entryFrame m ([.ref th] : List Value).toArray 5 = F0 m 0 ls [] ∧ lv_has ls 5 [(0, .ref th)] := by
    exact ⟨_, lg_entry_eq _ _ _, lv_entry _ (Nat.le_of_ble_eq_true rfl)⟩
  rw [hen]
  have hcc : 0 ≤ h_x g - h_x h ∧ 0 ≤ h_s g - h_s h := ⟨Nat.zero_le _, Nat.zero_le _⟩
  unfold f_K_liveYear at hE
  refine lv_aload_n hx hb dX11_liveYear_0 rfl (lv_at hl 0 rfl) ?_
  refine lv_bipush (v := 8) hx hb dX11_liveYear_1 (by decide) ?_
  refine w_VI GW_good (n := 1) (F := 0) (Lc := 0) (o := some th) (av := [.int (8 : Int32)]) (rest := []) C w rfl (by decide) (fun a r g hf => k_K_draw l D cy z N h a (8 : Int32) r g hf) gw_63_13 gw_63_14 gw_63_15 gw_1_2 gw_63_16 (by decide +kernel) ⟨Nat.le_of_ble_eq_true rfl, Nat.le_of_ble_eq_true rfl⟩ rfl hl.1 rfl (Nat.le_of_ble_eq_true rfl) dX11_liveYear_3 (fun a => (sh_K_draw N h a (8 : Int32))) ⟨hcc.1, hcc.2⟩ hE (fun v1 h2 H locs w hsh2 e1 => ?_)
  have hsl := hsh2.2.2.2.trans hsl
  refine lv_istore_n (lv' := [(1, .int v1), (0, .ref th)]) hx hb dX11_liveYear_6 rfl hl (by decide) rfl (fun ls hl => ?_)
  refine lv_iconst (v := 0) hx hb dX11_liveYear_7 (by decide) ?_
  refine lv_istore_n (lv' := [(3, .int (0 : Int32)), (1, .int v1), (0, .ref th)]) hx hb dX11_liveYear_8 rfl hl (by decide) rfl (fun ls hl => ?_)
  refine lv_iconst (v := 0) hx hb dX11_liveYear_9 (by decide) ?_
  refine lv_istore (lv' := [(4, .int (0 : Int32)), (3, .int (0 : Int32)), (1, .int v1), (0, .ref th)]) hx hb dX11_liveYear_10 hl (by decide) rfl (fun ls hl => ?_)
  refine lv_iload_n hx hb dX11_liveYear_12 rfl (lv_at hl 2 rfl) ?_
  refine lv_iconst (v := 3) hx hb dX11_liveYear_13 (by decide) ?_
  refine w_icmp_gt (tgt := 44) C dX11_liveYear_14 (by decide) e1 (fun hc e2 => ?_) (fun hc e2 => ?_)
  · refine lv_iload_n hx hb dX11_liveYear_44 rfl (lv_at hl 2 rfl) ?_
    refine lv_iconst (v := 4) hx hb dX11_liveYear_45 (by decide) ?_
    refine w_icmp_ne (tgt := 64) C dX11_liveYear_46 (by decide) e2 (fun hc e3 => ?_) (fun hc e3 => ?_)
    · refine lv_iload_n hx hb dX11_liveYear_64 rfl (lv_at hl 2 rfl) ?_
      refine lv_iconst (v := 5) hx hb dX11_liveYear_65 (by decide) ?_
      refine w_icmp_ne (tgt := 89) C dX11_liveYear_66 (by decide) e3 (fun hc e4 => ?_) (fun hc e4 => ?_)
      · refine lv_iload_n hx hb dX11_liveYear_89 rfl (lv_at hl 2 rfl) ?_
        refine lv_bipush (v := 6) hx hb dX11_liveYear_90 (by decide) ?_
        refine w_icmp_ne (tgt := 100) C dX11_liveYear_92 (by decide) e4 (fun hc e5 => ?_) (fun hc e5 => ?_)
        · refine lv_bipush (v := 7) hx hb dX11_liveYear_100 (by decide) ?_
          refine lv_istore_n (lv' := [(2, .int (7 : Int32)), (4, .int (0 : Int32)), (3, .int (0 : Int32)), (1, .int v1), (0, .ref th)]) hx hb dX11_liveYear_102 rfl hl (by decide) rfl (fun ls hl => ?_)
          refine lv_aload_n hx hb dX11_liveYear_103 rfl (lv_at hl 4 rfl) ?_
          refine lv_bipush (v := 10) hx hb dX11_liveYear_104 (by decide) ?_
          refine w_VI GW_good (n := 1) (F := 0) (Lc := 0) (o := some th) (av := [.int (10 : Int32)]) (rest := []) C w rfl (by decide) (fun a r g hf => k_K_draw l D cy z N h2 a (10 : Int32) r g hf) gw_63_13 gw_63_14 gw_63_15 gw_1_2 gw_63_16 (by decide +kernel) ⟨Nat.le_of_ble_eq_true rfl, Nat.le_of_ble_eq_true rfl⟩ rfl hl.1 rfl (Nat.le_of_ble_eq_true rfl) dX11_liveYear_106 (fun a => (sh_K_draw N h2 a (10 : Int32))) ⟨hcc.1, hcc.2⟩ e5 (fun v3 h4 H locs w hsh4 e6 => ?_)
          have hsl := hsh4.2.2.2.trans hsl
          refine lv_istore_n (lv' := [(3, .int v3), (2, .int (7 : Int32)), (4, .int (0 : Int32)), (1, .int v1), (0, .ref th)]) hx hb dX11_liveYear_109 rfl hl (by decide) rfl (fun ls hl => ?_)
          exact b_K_liveYear_110 C N (h_x h) (h_s h) hn0   _ _ h4 th (7 : Int32) v3 (0 : Int32) _ _ ls w hsl (lv_sub hl [4, 1, 0, 2] rfl) e6
        · refine lv_iconst (v := 5) hx hb dX11_liveYear_95 (by decide) ?_
          refine lv_istore_n (lv' := [(2, .int (5 : Int32)), (4, .int (0 : Int32)), (3, .int (0 : Int32)), (1, .int v1), (0, .ref th)]) hx hb dX11_liveYear_96 rfl hl (by decide) rfl (fun ls hl => ?_)
          refine lv_goto (tgt := 110) hx hb dX11_liveYear_97 (by decide) ?_
          exact b_K_liveYear_110 C N (h_x h) (h_s h) hn0   _ _ h2 th (5 : Int32) (0 : Int32) (0 : Int32) _ _ ls w hsl (lv_sub hl [4, 0, 2, 1] rfl) e5
      · refine lv_iconst (v := 4) hx hb dX11_liveYear_69 (by decide) ?_
        refine lv_istore_n (lv' := [(2, .int (4 : Int32)), (4, .int (0 : Int32)), (3, .int (0 : Int32)), (1, .int v1), (0, .ref th)]) hx hb dX11_liveYear_70 rfl hl (by decide) rfl (fun ls hl => ?_)
        refine lv_aload_n hx hb dX11_liveYear_71 rfl (lv_at hl 4 rfl) ?_
        refine lv_bipush (v := 6) hx hb dX11_liveYear_72 (by decide) ?_
        refine w_VI GW_good (n := 1) (F := 0) (Lc := 0) (o := some th) (av := [.int (6 : Int32)]) (rest := []) C w rfl (by decide) (fun a r g hf => k_K_draw l D cy z N h2 a (6 : Int32) r g hf) gw_63_13 gw_63_14 gw_63_15 gw_1_2 gw_63_16 (by decide +kernel) ⟨Nat.le_of_ble_eq_true rfl, Nat.le_of_ble_eq_true rfl⟩ rfl hl.1 rfl (Nat.le_of_ble_eq_true rfl) dX11_liveYear_74 (fun a => (sh_K_draw N h2 a (6 : Int32))) ⟨hcc.1, hcc.2⟩ e4 (fun v5 h6 H locs w hsh6 e7 => ?_)
        have hsl := hsh6.2.2.2.trans hsl
        refine lv_istore_n (lv' := [(3, .int v5), (2, .int (4 : Int32)), (4, .int (0 : Int32)), (1, .int v1), (0, .ref th)]) hx hb dX11_liveYear_77 rfl hl (by decide) rfl (fun ls hl => ?_)
        refine lv_aload_n hx hb dX11_liveYear_78 rfl (lv_at hl 4 rfl) ?_
        refine lv_bipush (v := 6) hx hb dX11_liveYear_79 (by decide) ?_
        refine w_VI GW_good (n := 1) (F := 0) (Lc := 0) (o := some th) (av := [.int (6 : Int32)]) (rest := []) C w rfl (by decide) (fun a r g hf => k_K_draw l D cy z N h6 a (6 : Int32) r g hf) gw_63_13 gw_63_14 gw_63_15 gw_1_2 gw_63_16 (by decide +kernel) ⟨Nat.le_of_ble_eq_true rfl, Nat.le_of_ble_eq_true rfl⟩ rfl hl.1 rfl (Nat.le_of_ble_eq_true rfl) dX11_liveYear_81 (fun a => (sh_K_draw N h6 a (6 : Int32))) ⟨hcc.1, hcc.2⟩ e7 (fun v7 h8 H locs w hsh8 e8 => ?_)
        have hsl := hsh8.2.2.2.trans hsl
        refine lv_istore (lv' := [(4, .int v7), (3, .int v5), (2, .int (4 : Int32)), (1, .int v1), (0, .ref th)]) hx hb dX11_liveYear_84 hl (by decide) rfl (fun ls hl => ?_)
        refine lv_goto (tgt := 110) hx hb dX11_liveYear_86 (by decide) ?_
        exact b_K_liveYear_110 C N (h_x h) (h_s h) hn0   _ _ h8 th (4 : Int32) v5 v7 _ _ ls w hsl (lv_sub hl [4, 2, 1, 0] rfl) e8
    · refine lv_iconst (v := 3) hx hb dX11_liveYear_49 (by decide) ?_
      refine lv_istore_n (lv' := [(2, .int (3 : Int32)), (4, .int (0 : Int32)), (3, .int (0 : Int32)), (1, .int v1), (0, .ref th)]) hx hb dX11_liveYear_50 rfl hl (by decide) rfl (fun ls hl => ?_)
      refine lv_aload_n hx hb dX11_liveYear_51 rfl (lv_at hl 4 rfl) ?_
      refine lv_bipush (v := 21) hx hb dX11_liveYear_52 (by decide) ?_
      refine w_VI GW_good (n := 1) (F := 0) (Lc := 0) (o := some th) (av := [.int (21 : Int32)]) (rest := []) C w rfl (by decide) (fun a r g hf => k_K_draw l D cy z N h2 a (21 : Int32) r g hf) gw_63_13 gw_63_14 gw_63_15 gw_1_2 gw_63_16 (by decide +kernel) ⟨Nat.le_of_ble_eq_true rfl, Nat.le_of_ble_eq_true rfl⟩ rfl hl.1 rfl (Nat.le_of_ble_eq_true rfl) dX11_liveYear_54 (fun a => (sh_K_draw N h2 a (21 : Int32))) ⟨hcc.1, hcc.2⟩ e3 (fun v9 h10 H locs w hsh10 e9 => ?_)
      have hsl := hsh10.2.2.2.trans hsl
      refine lv_bipush (v := 10) hx hb dX11_liveYear_57 (by decide) ?_
      refine lv_isub hx hb dX11_liveYear_59 ?_
      refine w_bnI e9 (fun v11 e10 => ?_)
      refine lv_istore_n (lv' := [(3, .int v11), (2, .int (3 : Int32)), (4, .int (0 : Int32)), (1, .int v1), (0, .ref th)]) hx hb dX11_liveYear_60 rfl hl (by decide) rfl (fun ls hl => ?_)
      refine lv_goto (tgt := 110) hx hb dX11_liveYear_61 (by decide) ?_
      exact b_K_liveYear_110 C N (h_x h) (h_s h) hn0   _ _ h10 th (3 : Int32) v11 (0 : Int32) _ _ ls w hsl (lv_sub hl [4, 1, 0, 2] rfl) e10
  · refine lv_iload_n hx hb dX11_liveYear_17 rfl (lv_at hl 2 rfl) ?_
    refine lv_iconst (v := 2) hx hb dX11_liveYear_18 (by decide) ?_
    refine w_mmin C hl.1 (List.mem_cons_of_mem _ gw_37_8) (List.mem_cons_of_mem _ gw_10_6) (List.mem_cons_of_mem _ gw_10_7) (List.mem_cons_of_mem _ gw_10_8) (Nat.le_of_ble_eq_true rfl) (Nat.le_of_ble_eq_true rfl) hcc.1 hcc.2 dX11_liveYear_19 ?_
    refine w_bnI e2 (fun v12 e11 => ?_)
    refine lv_istore_n (lv' := [(2, .int v12), (4, .int (0 : Int32)), (3, .int (0 : Int32)), (1, .int v1), (0, .ref th)]) hx hb dX11_liveYear_22 rfl hl (by decide) rfl (fun ls hl => ?_)
    refine lv_aload_n hx hb dX11_liveYear_23 rfl (lv_at hl 4 rfl) ?_
    refine lv_bipush (v := 101) hx hb dX11_liveYear_24 (by decide) ?_
    refine w_VI GW_good (n := 1) (F := 0) (Lc := 0) (o := some th) (av := [.int (101 : Int32)]) (rest := []) C w rfl (by decide) (fun a r g hf => k_K_draw l D cy z N h2 a (101 : Int32) r g hf) gw_63_13 gw_63_14 gw_63_15 gw_1_2 gw_63_16 (by decide +kernel) ⟨Nat.le_of_ble_eq_true rfl, Nat.le_of_ble_eq_true rfl⟩ rfl hl.1 rfl (Nat.le_of_ble_eq_true rfl) dX11_liveYear_26 (fun a => (sh_K_draw N h2 a (101 : Int32))) ⟨hcc.1, hcc.2⟩ e11 (fun v13 h14 H locs w hsh14 e12 => ?_)
    have hsl := hsh14.2.2.2.trans hsl
    refine lv_bipush (v := 50) hx hb dX11_liveYear_29 (by decide) ?_
    refine lv_isub hx hb dX11_liveYear_31 ?_
    refine w_bnI e12 (fun v15 e13 => ?_)
    refine lv_istore_n (lv' := [(3, .int v15), (2, .int v12), (4, .int (0 : Int32)), (1, .int v1), (0, .ref th)]) hx hb dX11_liveYear_32 rfl hl (by decide) rfl (fun ls hl => ?_)
    refine lv_aload_n hx hb dX11_liveYear_33 rfl (lv_at hl 4 rfl) ?_
    refine lv_bipush (v := 10) hx hb dX11_liveYear_34 (by decide) ?_
    refine w_VI GW_good (n := 1) (F := 0) (Lc := 0) (o := some th) (av := [.int (10 : Int32)]) (rest := []) C w rfl (by decide) (fun a r g hf => k_K_draw l D cy z N h14 a (10 : Int32) r g hf) gw_63_13 gw_63_14 gw_63_15 gw_1_2 gw_63_16 (by decide +kernel) ⟨Nat.le_of_ble_eq_true rfl, Nat.le_of_ble_eq_true rfl⟩ rfl hl.1 rfl (Nat.le_of_ble_eq_true rfl) dX11_liveYear_36 (fun a => (sh_K_draw N h14 a (10 : Int32))) ⟨hcc.1, hcc.2⟩ e13 (fun v16 h17 H locs w hsh17 e14 => ?_)
    have hsl := hsh17.2.2.2.trans hsl
    refine lv_istore (lv' := [(4, .int v16), (3, .int v15), (2, .int v12), (1, .int v1), (0, .ref th)]) hx hb dX11_liveYear_39 hl (by decide) rfl (fun ls hl => ?_)
    refine lv_goto (tgt := 110) hx hb dX11_liveYear_41 (by decide) ?_
    exact b_K_liveYear_110 C N (h_x h) (h_s h) hn0   _ _ h17 th v12 v15 v16 _ _ ls w hsl (lv_sub hl [4, 2, 1, 0] rfl) e14
set_option maxRecDepth 20000 in
set_option maxHeartbeats 4000000 in
theorem b_K_years_116 {p : Program} {l : Launch} {e : Env} {s : State} {m : MethodId} {args : Array Value} {below : List Frame} {meth : Method} {c : Code} {D : va_G} {cy : cyT} {z : Nat} (C : MX p s m args meth c cX11_years 5 ((some .long)) RX11 (Cond.code yX11_years cX11_years 5 ((some .long)) :: GW)) (hst : l.stackTraces = false) (hxt : ∀ x ∈ c.exceptionTable.toList, False) (N : Nat) (n0 s0 : Nat) (hn0 : s.heap.size = n0) {r : (Int64 ⊕ Nat)} {g : hS}  : ∀  (cells slots : Nat) (h : hS) (y0 : Int64) (H : Heap) (locs : List Loc) (ls : Array Slot), wd D cy z s cells h H locs → h_s h = s0 + slots → lv_has ls 5 [] → f_K_years_116 N   h y0 = some (r, g) → W p l e { frames := 9, cells := h_x g - n0, slots := h_s g - s0, locals := 168 } s m args below meth c H locs cells slots (eT D cy z rJ r g below args s (h_x g - n0) (h_s g - s0)) (F0 m 116 ls [.long y0]) := by
  obtain ⟨hx, hb, hr, hml, hown, hts, hlk⟩ := id C
  intro cells slots h y0 H locs ls w hsl hl hE
  have hcc : cells ≤ h_x g - n0 ∧ slots ≤ h_s g - s0 := by
    have q1 := mo_K_years_116 N  h y0 _ _ hE
    have q2 := wd_x w
    have q3 := q1.1
    have q4 := q1.2.1
    omega
  unfold f_K_years_116 at hE
  refine W.widen (k := h_x g - n0) (n := h_s g - s0) hcc.1 hcc.2 ?_
  exact w_lretT C w hE dX11_years_116
set_option maxRecDepth 20000 in
set_option maxHeartbeats 4000000 in
theorem b_K_years_65 {p : Program} {l : Launch} {e : Env} {s : State} {m : MethodId} {args : Array Value} {below : List Frame} {meth : Method} {c : Code} {D : va_G} {cy : cyT} {z : Nat} (C : MX p s m args meth c cX11_years 5 ((some .long)) RX11 (Cond.code yX11_years cX11_years 5 ((some .long)) :: GW)) (hst : l.stackTraces = false) (hxt : ∀ x ∈ c.exceptionTable.toList, False) (N : Nat) (n0 s0 : Nat) (hn0 : s.heap.size = n0) {r : (Int64 ⊕ Nat)} {g : hS} {rc55 : hS → Nat → Int32 → Int32 → Int32 → Option ((Int64 ⊕ Nat) × hS)} (hsh55 : ∀ (h : hS) (th : Nat) (x2 : Int32) (x3 : Int32) (x4 : Int32), Mo h (rc55 h th x2 x3 x4)) (hrc55 : ∀ (cells slots : Nat) (h : hS) (th : Nat) (x2 : Int32) (x3 : Int32) (x4 : Int32) (H : Heap) (locs : List Loc) (ls : Array Slot), wd D cy z s cells h H locs → h_s h = s0 + slots → lv_has ls 5 [(0, .ref th), (2, .int x2), (3, .int x3), (4, .int x4)] → rc55 h th x2 x3 x4 = some (r, g) → W p l e { frames := 9, cells := h_x g - n0, slots := h_s g - s0, locals := 168 } s m args below meth c H locs cells slots (eT D cy z rJ r g below args s (h_x g - n0) (h_s g - s0)) (F0 m 55 ls [])) : ∀  (cells slots : Nat) (h : hS) (th : Nat) (x2 : Int32) (x3 : Int32) (x4 : Int32) (H : Heap) (locs : List Loc) (ls : Array Slot), wd D cy z s cells h H locs → h_s h = s0 + slots → lv_has ls 5 [(0, .ref th), (2, .int x2), (3, .int x3), (4, .int x4)] → f_K_years_65 N rc55  h th x2 x3 x4 = some (r, g) → W p l e { frames := 9, cells := h_x g - n0, slots := h_s g - s0, locals := 168 } s m args below meth c H locs cells slots (eT D cy z rJ r g below args s (h_x g - n0) (h_s g - s0)) (F0 m 65 ls []) := by
  obtain ⟨hx, hb, hr, hml, hown, hts, hlk⟩ := id C
  intro cells slots h th x2 x3 x4 H locs ls w hsl hl hE
  have hcc : cells ≤ h_x g - n0 ∧ slots ≤ h_s g - s0 := by
    have q1 := mo_K_years_65 N hsh55 h th x2 x3 x4 _ _ hE
    have q2 := wd_x w
    have q3 := q1.1
    have q4 := q1.2.1
    omega
  unfold f_K_years_65 at hE
  obtain ⟨v1, ev1, e1⟩ := bn_some hE
  refine lv_iinc (v := v1) (lv' := [(4, .int v1), (0, .ref th), (2, .int x2), (3, .int x3)]) hx hb dX11_years_65 hl (k := 3) rfl (by rw [ev1]; rfl) (by decide) rfl (fun ls hl => ?_)
  refine lv_goto (tgt := 55) hx hb dX11_years_68 (by decide) ?_
  exact hrc55 _ _ h th x2 x3 v1 _ _ ls w hsl (lv_sub hl [1, 2, 3, 0] rfl) e1
set_option maxRecDepth 20000 in
set_option maxHeartbeats 4000000 in
theorem b_K_years_55 {p : Program} {l : Launch} {e : Env} {s : State} {m : MethodId} {args : Array Value} {below : List Frame} {meth : Method} {c : Code} {D : va_G} {cy : cyT} {z : Nat} (C : MX p s m args meth c cX11_years 5 ((some .long)) RX11 (Cond.code yX11_years cX11_years 5 ((some .long)) :: GW)) (hst : l.stackTraces = false) (hxt : ∀ x ∈ c.exceptionTable.toList, False) (N : Nat) (n0 s0 : Nat) (hn0 : s.heap.size = n0) {r : (Int64 ⊕ Nat)} {g : hS}  : ∀ (n : Nat) (cells slots : Nat) (h : hS) (th : Nat) (x2 : Int32) (x3 : Int32) (x4 : Int32) (H : Heap) (locs : List Loc) (ls : Array Slot), wd D cy z s cells h H locs → h_s h = s0 + slots → lv_has ls 5 [(0, .ref th), (2, .int x2), (3, .int x3), (4, .int x4)] → f_K_years_55 N  n h th x2 x3 x4 = some (r, g) → W p l e { frames := 9, cells := h_x g - n0, slots := h_s g - s0, locals := 168 } s m args below meth c H locs cells slots (eT D cy z rJ r g below args s (h_x g - n0) (h_s g - s0)) (F0 m 55 ls []) := by
  obtain ⟨hx, hb, hr, hml, hown, hts, hlk⟩ := id C
  intro n
  induction n with
  | zero =>
    intro cells slots h th x2 x3 x4 H locs ls w hsl hl hE
    cases hE
  | succ n ih =>
    intro cells slots h th x2 x3 x4 H locs ls w hsl hl hE
    have hcc : cells ≤ h_x g - n0 ∧ slots ≤ h_s g - s0 := by
      have q1 := mo_K_years_55 N  (n + 1) h th x2 x3 x4 _ _ hE
      have q2 := wd_x w
      have q3 := q1.1
      have q4 := q1.2.1
      omega
    unfold f_K_years_55 at hE
    refine lv_iload hx hb dX11_years_55 (lv_at hl 3 rfl) ?_
    refine lv_iload_n hx hb dX11_years_57 rfl (lv_at hl 1 rfl) ?_
    refine w_icmp_ge (tgt := 71) C dX11_years_58 (by decide) hE (fun hc e1 => ?_) (fun hc e1 => ?_)
    · refine lv_iload_n hx hb dX11_years_71 rfl (lv_at hl 2 rfl) ?_
      refine w_if_ne (tgt := 86) C dX11_years_72 (by decide) e1 (fun hc e2 => ?_) (fun hc e2 => ?_)
      · refine lv_iload_n hx hb dX11_years_86 rfl (lv_at hl 2 rfl) ?_
        refine lv_iconst (v := 1) hx hb dX11_years_87 (by decide) ?_
        refine w_icmp_ne (tgt := 105) C dX11_years_88 (by decide) e2 (fun hc e3 => ?_) (fun hc e3 => ?_)
        · refine lv_aload_n hx hb dX11_years_105 rfl (lv_at hl 0 rfl) ?_
          refine w_gR (r := some th) (ci := 12) (k := 4) C w rfl (by decide) (GF_wsX110 _) (by decide) rfl (List.mem_cons_of_mem _ gw_2_1) rfl dX11_years_106 e3 (fun v1 e4 => ?_)
          refine w_gR (r := v1) (ci := 1) (k := 0) C w rfl (by decide) (GF_wsX00 _) (by decide) rfl (List.mem_cons_of_mem _ gw_23_9) rfl dX11_years_109 e4 (fun v2 e5 => ?_)
          refine lv_iconst (v := 0) hx hb dX11_years_112 (by decide) ?_
          refine w_VJ GW_good (n := 1) (F := 1) (Lc := 44) (o := v2) (av := [.int (0 : Int32)]) (rest := []) C w rfl (by decide) (fun a r g hf => k_Curve_valueAt l D cy z N h a (0 : Int32) r g hf) gw_34_17 gw_22_1 gw_22_2 gw_2_22 gw_22_3 (by decide +kernel) ⟨Nat.le_of_ble_eq_true rfl, Nat.le_of_ble_eq_true rfl⟩ rfl hl.1 rfl (Nat.le_of_ble_eq_true rfl) dX11_years_113 (fun a => (sh_Curve_valueAt N h a (0 : Int32))) ⟨hcc.1, hcc.2⟩ e5 (fun v3 h4 H locs w hsh4 e6 => ?_)
          have hsl := hsh4.2.2.2.trans hsl
          exact b_K_years_116 C hst hxt N n0 s0 hn0   _ _ h4 v3 _ _ ls w hsl (lv_sub hl [] rfl) e6
        · refine lv_aload_n hx hb dX11_years_91 rfl (lv_at hl 0 rfl) ?_
          refine w_gR (r := some th) (ci := 12) (k := 4) C w rfl (by decide) (GF_wsX110 _) (by decide) rfl (List.mem_cons_of_mem _ gw_2_1) rfl dX11_years_92 e3 (fun v5 e7 => ?_)
          refine w_gR (r := v5) (ci := 1) (k := 0) C w rfl (by decide) (GF_wsX00 _) (by decide) rfl (List.mem_cons_of_mem _ gw_23_9) rfl dX11_years_95 e7 (fun v6 e8 => ?_)
          refine w_gI (r := v6) (ci := 3) (k := 0) C w rfl (by decide) (GF_wsX20 _) (by decide) rfl (List.mem_cons_of_mem _ gw_35_22) rfl dX11_years_98 e8 (fun v7 e9 => ?_)
          refine lv_i2l hx hb dX11_years_101 rfl ?_
          refine lv_goto (tgt := 116) hx hb dX11_years_102 (by decide) ?_
          exact b_K_years_116 C hst hxt N n0 s0 hn0   _ _ h v7.toInt64 _ _ ls w hsl (lv_sub hl [] rfl) e9
      · refine lv_aload_n hx hb dX11_years_75 rfl (lv_at hl 0 rfl) ?_
        refine w_gR (r := some th) (ci := 12) (k := 4) C w rfl (by decide) (GF_wsX110 _) (by decide) rfl (List.mem_cons_of_mem _ gw_2_1) rfl dX11_years_76 e2 (fun v8 e10 => ?_)
        refine w_gR (r := v8) (ci := 1) (k := 0) C w rfl (by decide) (GF_wsX00 _) (by decide) rfl (List.mem_cons_of_mem _ gw_23_9) rfl dX11_years_79 e10 (fun v9 e11 => ?_)
        refine w_gJ (r := v9) (ci := 3) (k := 4) C w rfl (by decide) (GF_wsX20 _) (by decide) rfl (List.mem_cons_of_mem _ gw_35_10) rfl dX11_years_82 e11 (fun v10 e12 => ?_)
        refine W.widen (k := h_x g - n0) (n := h_s g - s0) hcc.1 hcc.2 ?_
        exact w_lretT C w e12 dX11_years_85
    · refine lv_aload_n hx hb dX11_years_61 rfl (lv_at hl 0 rfl) ?_
      refine w_VAV GW_good (n := 0) (F := 5) (Lc := 144) (o := some th) (av := []) (rest := []) C w rfl (by decide) (fun a r g hf => k_K_liveYear l D cy z N h a  r g hf) gw_63_9 gw_63_10 gw_63_11 gw_1_2 gw_63_12 (by decide +kernel) ⟨Nat.le_of_ble_eq_true rfl, Nat.le_of_ble_eq_true rfl⟩ rfl hl.1 rfl (Nat.le_of_ble_eq_true rfl) dX11_years_62 (fun a => (mo_K_liveYear N h a )) (fun a v11 h12 q1 q2 => by have u1 := (mo_K_liveYear N h a ) _ _ q1; have u2 := mo_K_years_65 N (mo_K_years_55 N  n)  h12 th x2 x3 x4 _ _ q2; have u3 := wd_x w; have u4 := u1.1; have u5 := u1.2.1; have u6 := u2.1; have u7 := u2.2.1; show cells + _ ≤ h_x g - n0 ∧ slots + _ ≤ h_s g - s0; omega) e1 (fun v11 h12 H locs w hsh12 e13 => ?_)
      exact b_K_years_65 C hst hxt N n0 s0 hn0 (mo_K_years_55 N  n) ih  _ _ h12 th x2 x3 x4 _ _ ls w (by have u5 := hsh12.2.1; have u8 := hsl; omega) (lv_sub hl [0, 1, 2, 3] rfl) e13
set_option maxRecDepth 20000 in
set_option maxHeartbeats 4000000 in
theorem b_K_years_52 {p : Program} {l : Launch} {e : Env} {s : State} {m : MethodId} {args : Array Value} {below : List Frame} {meth : Method} {c : Code} {D : va_G} {cy : cyT} {z : Nat} (C : MX p s m args meth c cX11_years 5 ((some .long)) RX11 (Cond.code yX11_years cX11_years 5 ((some .long)) :: GW)) (hst : l.stackTraces = false) (hxt : ∀ x ∈ c.exceptionTable.toList, False) (N : Nat) (n0 s0 : Nat) (hn0 : s.heap.size = n0) {r : (Int64 ⊕ Nat)} {g : hS}  : ∀  (cells slots : Nat) (h : hS) (th : Nat) (x2 : Int32) (x3 : Int32) (H : Heap) (locs : List Loc) (ls : Array Slot), wd D cy z s cells h H locs → h_s h = s0 + slots → lv_has ls 5 [(0, .ref th), (2, .int x2), (3, .int x3)] → f_K_years_52 N   h th x2 x3 = some (r, g) → W p l e { frames := 9, cells := h_x g - n0, slots := h_s g - s0, locals := 168 } s m args below meth c H locs cells slots (eT D cy z rJ r g below args s (h_x g - n0) (h_s g - s0)) (F0 m 52 ls []) := by
  obtain ⟨hx, hb, hr, hml, hown, hts, hlk⟩ := id C
  intro cells slots h th x2 x3 H locs ls w hsl hl hE
  have hcc : cells ≤ h_x g - n0 ∧ slots ≤ h_s g - s0 := by
    have q1 := mo_K_years_52 N  h th x2 x3 _ _ hE
    have q2 := wd_x w
    have q3 := q1.1
    have q4 := q1.2.1
    omega
  unfold f_K_years_52 at hE
  refine lv_iconst (v := 0) hx hb dX11_years_52 (by decide) ?_
  refine lv_istore (lv' := [(4, .int (0 : Int32)), (0, .ref th), (2, .int x2), (3, .int x3)]) hx hb dX11_years_53 hl (by decide) rfl (fun ls hl => ?_)
  exact b_K_years_55 C hst hxt N n0 s0 hn0  N _ _ h th x2 x3 (0 : Int32) _ _ ls w hsl (lv_sub hl [1, 2, 3, 0] rfl) hE
set_option maxRecDepth 20000 in
set_option maxHeartbeats 4000000 in
theorem b_K_years_49 {p : Program} {l : Launch} {e : Env} {s : State} {m : MethodId} {args : Array Value} {below : List Frame} {meth : Method} {c : Code} {D : va_G} {cy : cyT} {z : Nat} (C : MX p s m args meth c cX11_years 5 ((some .long)) RX11 (Cond.code yX11_years cX11_years 5 ((some .long)) :: GW)) (hst : l.stackTraces = false) (hxt : ∀ x ∈ c.exceptionTable.toList, False) (N : Nat) (n0 s0 : Nat) (hn0 : s.heap.size = n0) {r : (Int64 ⊕ Nat)} {g : hS}  : ∀  (cells slots : Nat) (h : hS) (th : Nat) (x2 : Int32) (x3 : Int32) (y0 : Option Nat) (y1 : Option Nat) (H : Heap) (locs : List Loc) (ls : Array Slot), wd D cy z s cells h H locs → h_s h = s0 + slots → lv_has ls 5 [(0, .ref th), (2, .int x2), (3, .int x3)] → f_K_years_49 N   h th x2 x3 y0 y1 = some (r, g) → W p l e { frames := 9, cells := h_x g - n0, slots := h_s g - s0, locals := 168 } s m args below meth c H locs cells slots (eT D cy z rJ r g below args s (h_x g - n0) (h_s g - s0)) (F0 m 49 ls [va_rf y1, va_rf y0]) := by
  obtain ⟨hx, hb, hr, hml, hown, hts, hlk⟩ := id C
  intro cells slots h th x2 x3 y0 y1 H locs ls w hsl hl hE
  have hcc : cells ≤ h_x g - n0 ∧ slots ≤ h_s g - s0 := by
    have q1 := mo_K_years_49 N  h th x2 x3 y0 y1 _ _ hE
    have q2 := wd_x w
    have q3 := q1.1
    have q4 := q1.2.1
    omega
  unfold f_K_years_49 at hE
  refine w_VAV GW_good (n := 1) (F := 2) (Lc := 81) (o := y0) (av := [va_rf y1]) (rest := []) C w rfl (by decide) (fun a r g hf => k_Bench_startWith l D cy z N h a y1 r g hf) gw_57_2 gw_57_3 gw_57_4 gw_2_0 gw_57_5 (by decide +kernel) ⟨Nat.le_of_ble_eq_true rfl, Nat.le_of_ble_eq_true rfl⟩ rfl hl.1 rfl (Nat.le_of_ble_eq_true rfl) dX11_years_49 (fun a => (mo_Bench_startWith N h a y1)) (fun a v1 h2 q1 q2 => by have u1 := (mo_Bench_startWith N h a y1) _ _ q1; have u2 := mo_K_years_52 N   h2 th x2 x3 _ _ q2; have u3 := wd_x w; have u4 := u1.1; have u5 := u1.2.1; have u6 := u2.1; have u7 := u2.2.1; show cells + _ ≤ h_x g - n0 ∧ slots + _ ≤ h_s g - s0; omega) hE (fun v1 h2 H locs w hsh2 e1 => ?_)
  exact b_K_years_52 C hst hxt N n0 s0 hn0   _ _ h2 th x2 x3 _ _ ls w (by have u5 := hsh2.2.1; have u8 := hsl; omega) (lv_sub hl [0, 1, 2] rfl) e1
set_option maxRecDepth 20000 in
set_option maxHeartbeats 4000000 in
theorem b_K_years_35 {p : Program} {l : Launch} {e : Env} {s : State} {m : MethodId} {args : Array Value} {below : List Frame} {meth : Method} {c : Code} {D : va_G} {cy : cyT} {z : Nat} (C : MX p s m args meth c cX11_years 5 ((some .long)) RX11 (Cond.code yX11_years cX11_years 5 ((some .long)) :: GW)) (hst : l.stackTraces = false) (hxt : ∀ x ∈ c.exceptionTable.toList, False) (N : Nat) (n0 s0 : Nat) (hn0 : s.heap.size = n0) {r : (Int64 ⊕ Nat)} {g : hS}  : ∀  (cells slots : Nat) (h : hS) (th : Nat) (x1 : Int32) (x2 : Int32) (x3 : Int32) (H : Heap) (locs : List Loc) (ls : Array Slot), wd D cy z s cells h H locs → h_s h = s0 + slots → lv_has ls 5 [(0, .ref th), (1, .int x1), (2, .int x2), (3, .int x3)] → f_K_years_35 N   h th x1 x2 x3 = some (r, g) → W p l e { frames := 9, cells := h_x g - n0, slots := h_s g - s0, locals := 168 } s m args below meth c H locs cells slots (eT D cy z rJ r g below args s (h_x g - n0) (h_s g - s0)) (F0 m 35 ls []) := by
  obtain ⟨hx, hb, hr, hml, hown, hts, hlk⟩ := id C
  intro cells slots h th x1 x2 x3 H locs ls w hsl hl hE
  have hcc : cells ≤ h_x g - n0 ∧ slots ≤ h_s g - s0 := by
    have q1 := mo_K_years_35 N  h th x1 x2 x3 _ _ hE
    have q2 := wd_x w
    have q3 := q1.1
    have q4 := q1.2.1
    omega
  unfold f_K_years_35 at hE
  refine lv_aload_n hx hb dX11_years_35 rfl (lv_at hl 0 rfl) ?_
  refine lv_iload_n hx hb dX11_years_36 rfl (lv_at hl 1 rfl) ?_
  refine w_pI (r := some th) (ci := 12) (k := 8) C w rfl (by decide) (by unfold roK; omega) (GF_wsX110 _) tyX11 tyX11_ok nmX11 (by decide) rfl (List.mem_cons_of_mem _ gw_2_14) rfl rfl (tyX11_ok 8 (by decide)) dX11_years_37 hE (fun h1 H locs w hsh1 e1 => ?_)
  have hsl := hsh1.2.2.2.trans hsl
  refine lv_aload_n hx hb dX11_years_40 rfl (lv_at hl 0 rfl) ?_
  refine w_gR (r := some th) (ci := 12) (k := 4) C w rfl (by decide) (GF_wsX110 _) (by decide) rfl (List.mem_cons_of_mem _ gw_2_1) rfl dX11_years_41 e1 (fun v2 e2 => ?_)
  refine lv_aload_n hx hb dX11_years_44 rfl (lv_at hl 0 rfl) ?_
  refine lv_iconst (v := 0) hx hb dX11_years_45 (by decide) ?_
  refine w_VTR GW_good (n := 1) (F := 8) (Lc := 122) (ob := some th) (av := [.int (0 : Int32)]) (rest := [va_rf v2]) hxt hn0 hsl C w rfl (by decide) (fun a r g hf => k_K_curveOf l hst D cy z N h1 a (0 : Int32) r g hf) gw_16_2 gw_16_3 gw_16_4 gw_1_2 gw_16_5 (by decide +kernel) ⟨Nat.le_of_ble_eq_true rfl, Nat.le_of_ble_eq_true rfl⟩ rfl hl.1 rfl (cat_le (Nat.le_of_ble_eq_true rfl)) dX11_years_46 (fun a => (mo_K_curveOf N h1 a (0 : Int32))) (fun v3 h4 => mo_K_years_49 N   h4 th x2 x3 v2 v3) e2 (fun v3 h4 H locs w hsh4 e3 => ?_)
  exact b_K_years_49 C hst hxt N n0 s0 hn0   _ _ h4 th x2 x3 v2 v3 _ _ ls w (by have u5 := hsh4.2.1; have u8 := hsl; omega) (lv_sub hl [0, 2, 3] rfl) e3
set_option maxRecDepth 20000 in
set_option maxHeartbeats 4000000 in
theorem b_K_years_32 {p : Program} {l : Launch} {e : Env} {s : State} {m : MethodId} {args : Array Value} {below : List Frame} {meth : Method} {c : Code} {D : va_G} {cy : cyT} {z : Nat} (C : MX p s m args meth c cX11_years 5 ((some .long)) RX11 (Cond.code yX11_years cX11_years 5 ((some .long)) :: GW)) (hst : l.stackTraces = false) (hxt : ∀ x ∈ c.exceptionTable.toList, False) (N : Nat) (n0 s0 : Nat) (hn0 : s.heap.size = n0) {r : (Int64 ⊕ Nat)} {g : hS}  : ∀  (cells slots : Nat) (h : hS) (th : Nat) (x1 : Int32) (x2 : Int32) (x3 : Int32) (y0 : Int32) (H : Heap) (locs : List Loc) (ls : Array Slot), wd D cy z s cells h H locs → h_s h = s0 + slots → lv_has ls 5 [(0, .ref th), (1, .int x1), (2, .int x2), (3, .int x3)] → f_K_years_32 N   h th x1 x2 x3 y0 = some (r, g) → W p l e { frames := 9, cells := h_x g - n0, slots := h_s g - s0, locals := 168 } s m args below meth c H locs cells slots (eT D cy z rJ r g below args s (h_x g - n0) (h_s g - s0)) (F0 m 32 ls [.int y0]) := by
  obtain ⟨hx, hb, hr, hml, hown, hts, hlk⟩ := id C
  intro cells slots h th x1 x2 x3 y0 H locs ls w hsl hl hE
  have hcc : cells ≤ h_x g - n0 ∧ slots ≤ h_s g - s0 := by
    have q1 := mo_K_years_32 N  h th x1 x2 x3 y0 _ _ hE
    have q2 := wd_x w
    have q3 := q1.1
    have q4 := q1.2.1
    omega
  unfold f_K_years_32 at hE
  refine w_STV GW_good (n := 1) (F := 6) (Lc := 82) (av := [.int y0]) (rest := []) hxt hn0 hsl C w (fun r g hf => k_K_needFit l hst D cy z N h y0 r g hf) gw_9_20 gw_9_21 gw_1_2 gw_9_22 (by decide +kernel) ⟨Nat.le_of_ble_eq_true rfl, Nat.le_of_ble_eq_true rfl⟩ rfl hl.1 rfl (Nat.le_of_ble_eq_true rfl) dX11_years_32 (mo_K_needFit N h y0) (fun v1 h2 => mo_K_years_35 N   h2 th x1 x2 x3) hE (fun v1 h2 H locs w hsh2 e1 => ?_)
  exact b_K_years_35 C hst hxt N n0 s0 hn0   _ _ h2 th x1 x2 x3 _ _ ls w (by have u5 := hsh2.2.1; have u8 := hsl; omega) (lv_sub hl [0, 1, 2, 3] rfl) e1
set_option maxRecDepth 20000 in
set_option maxHeartbeats 4000000 in
theorem b_K_years_31 {p : Program} {l : Launch} {e : Env} {s : State} {m : MethodId} {args : Array Value} {below : List Frame} {meth : Method} {c : Code} {D : va_G} {cy : cyT} {z : Nat} (C : MX p s m args meth c cX11_years 5 ((some .long)) RX11 (Cond.code yX11_years cX11_years 5 ((some .long)) :: GW)) (hst : l.stackTraces = false) (hxt : ∀ x ∈ c.exceptionTable.toList, False) (N : Nat) (n0 s0 : Nat) (hn0 : s.heap.size = n0) {r : (Int64 ⊕ Nat)} {g : hS}  : ∀  (cells slots : Nat) (h : hS) (th : Nat) (x1 : Int32) (x2 : Int32) (x3 : Int32) (H : Heap) (locs : List Loc) (ls : Array Slot), wd D cy z s cells h H locs → h_s h = s0 + slots → lv_has ls 5 [(0, .ref th), (1, .int x1), (2, .int x2), (3, .int x3)] → f_K_years_31 N   h th x1 x2 x3 = some (r, g) → W p l e { frames := 9, cells := h_x g - n0, slots := h_s g - s0, locals := 168 } s m args below meth c H locs cells slots (eT D cy z rJ r g below args s (h_x g - n0) (h_s g - s0)) (F0 m 31 ls []) := by
  obtain ⟨hx, hb, hr, hml, hown, hts, hlk⟩ := id C
  intro cells slots h th x1 x2 x3 H locs ls w hsl hl hE
  have hcc : cells ≤ h_x g - n0 ∧ slots ≤ h_s g - s0 := by
    have q1 := mo_K_years_31 N  h th x1 x2 x3 _ _ hE
    have q2 := wd_x w
    have q3 := q1.1
    have q4 := q1.2.1
    omega
  unfold f_K_years_31 at hE
  refine lv_iconst (v := 0) hx hb dX11_years_31 (by decide) ?_
  exact b_K_years_32 C hst hxt N n0 s0 hn0   _ _ h th x1 x2 x3 (0 : Int32) _ _ ls w hsl (lv_sub hl [0, 1, 2, 3] rfl) hE
set_option maxRecDepth 20000 in
set_option maxHeartbeats 4000000 in
theorem b_K_years_17 {p : Program} {l : Launch} {e : Env} {s : State} {m : MethodId} {args : Array Value} {below : List Frame} {meth : Method} {c : Code} {D : va_G} {cy : cyT} {z : Nat} (C : MX p s m args meth c cX11_years 5 ((some .long)) RX11 (Cond.code yX11_years cX11_years 5 ((some .long)) :: GW)) (hst : l.stackTraces = false) (hxt : ∀ x ∈ c.exceptionTable.toList, False) (N : Nat) (n0 s0 : Nat) (hn0 : s.heap.size = n0) {r : (Int64 ⊕ Nat)} {g : hS}  : ∀  (cells slots : Nat) (h : hS) (th : Nat) (x1 : Int32) (x2 : Int32) (x3 : Int32) (H : Heap) (locs : List Loc) (ls : Array Slot), wd D cy z s cells h H locs → h_s h = s0 + slots → lv_has ls 5 [(0, .ref th), (1, .int x1), (2, .int x2), (3, .int x3)] → f_K_years_17 N   h th x1 x2 x3 = some (r, g) → W p l e { frames := 9, cells := h_x g - n0, slots := h_s g - s0, locals := 168 } s m args below meth c H locs cells slots (eT D cy z rJ r g below args s (h_x g - n0) (h_s g - s0)) (F0 m 17 ls []) := by
  obtain ⟨hx, hb, hr, hml, hown, hts, hlk⟩ := id C
  intro cells slots h th x1 x2 x3 H locs ls w hsl hl hE
  have hcc : cells ≤ h_x g - n0 ∧ slots ≤ h_s g - s0 := by
    have q1 := mo_K_years_17 N  h th x1 x2 x3 _ _ hE
    have q2 := wd_x w
    have q3 := q1.1
    have q4 := q1.2.1
    omega
  unfold f_K_years_17 at hE
  refine lv_iload_n hx hb dX11_years_17 rfl (lv_at hl 2 rfl) ?_
  refine w_if_lt (tgt := 31) C dX11_years_18 (by decide) hE (fun hc e1 => ?_) (fun hc e1 => ?_)
  · exact b_K_years_31 C hst hxt N n0 s0 hn0   _ _ h th x1 x2 x3 _ _ ls w hsl (lv_sub hl [0, 1, 2, 3] rfl) e1
  · refine lv_iload_n hx hb dX11_years_21 rfl (lv_at hl 2 rfl) ?_
    refine lv_bipush (v := 20) hx hb dX11_years_22 (by decide) ?_
    refine w_icmp_gt (tgt := 31) C dX11_years_24 (by decide) e1 (fun hc e2 => ?_) (fun hc e2 => ?_)
    · exact b_K_years_31 C hst hxt N n0 s0 hn0   _ _ h th x1 x2 x3 _ _ ls w hsl (lv_sub hl [0, 1, 2, 3] rfl) e2
    · refine lv_iconst (v := 1) hx hb dX11_years_27 (by decide) ?_
      refine lv_goto (tgt := 32) hx hb dX11_years_28 (by decide) ?_
      exact b_K_years_32 C hst hxt N n0 s0 hn0   _ _ h th x1 x2 x3 (1 : Int32) _ _ ls w hsl (lv_sub hl [0, 1, 2, 3] rfl) e2
set_option maxRecDepth 20000 in
set_option maxHeartbeats 4000000 in
theorem b_K_years_14 {p : Program} {l : Launch} {e : Env} {s : State} {m : MethodId} {args : Array Value} {below : List Frame} {meth : Method} {c : Code} {D : va_G} {cy : cyT} {z : Nat} (C : MX p s m args meth c cX11_years 5 ((some .long)) RX11 (Cond.code yX11_years cX11_years 5 ((some .long)) :: GW)) (hst : l.stackTraces = false) (hxt : ∀ x ∈ c.exceptionTable.toList, False) (N : Nat) (n0 s0 : Nat) (hn0 : s.heap.size = n0) {r : (Int64 ⊕ Nat)} {g : hS}  : ∀  (cells slots : Nat) (h : hS) (th : Nat) (x1 : Int32) (x2 : Int32) (x3 : Int32) (y0 : Int32) (H : Heap) (locs : List Loc) (ls : Array Slot), wd D cy z s cells h H locs → h_s h = s0 + slots → lv_has ls 5 [(0, .ref th), (1, .int x1), (2, .int x2), (3, .int x3)] → f_K_years_14 N   h th x1 x2 x3 y0 = some (r, g) → W p l e { frames := 9, cells := h_x g - n0, slots := h_s g - s0, locals := 168 } s m args below meth c H locs cells slots (eT D cy z rJ r g below args s (h_x g - n0) (h_s g - s0)) (F0 m 14 ls [.int y0]) := by
  obtain ⟨hx, hb, hr, hml, hown, hts, hlk⟩ := id C
  intro cells slots h th x1 x2 x3 y0 H locs ls w hsl hl hE
  have hcc : cells ≤ h_x g - n0 ∧ slots ≤ h_s g - s0 := by
    have q1 := mo_K_years_14 N  h th x1 x2 x3 y0 _ _ hE
    have q2 := wd_x w
    have q3 := q1.1
    have q4 := q1.2.1
    omega
  unfold f_K_years_14 at hE
  refine w_STV GW_good (n := 1) (F := 6) (Lc := 82) (av := [.int y0]) (rest := []) hxt hn0 hsl C w (fun r g hf => k_K_needSuch l hst D cy z N h y0 r g hf) gw_9_15 gw_9_16 gw_1_2 gw_9_17 (by decide +kernel) ⟨Nat.le_of_ble_eq_true rfl, Nat.le_of_ble_eq_true rfl⟩ rfl hl.1 rfl (Nat.le_of_ble_eq_true rfl) dX11_years_14 (mo_K_needSuch N h y0) (fun v1 h2 => mo_K_years_17 N   h2 th x1 x2 x3) hE (fun v1 h2 H locs w hsh2 e1 => ?_)
  exact b_K_years_17 C hst hxt N n0 s0 hn0   _ _ h2 th x1 x2 x3 _ _ ls w (by have u5 := hsh2.2.1; have u8 := hsl; omega) (lv_sub hl [0, 1, 2, 3] rfl) e1
set_option maxRecDepth 20000 in
set_option maxHeartbeats 4000000 in
theorem b_K_years_13 {p : Program} {l : Launch} {e : Env} {s : State} {m : MethodId} {args : Array Value} {below : List Frame} {meth : Method} {c : Code} {D : va_G} {cy : cyT} {z : Nat} (C : MX p s m args meth c cX11_years 5 ((some .long)) RX11 (Cond.code yX11_years cX11_years 5 ((some .long)) :: GW)) (hst : l.stackTraces = false) (hxt : ∀ x ∈ c.exceptionTable.toList, False) (N : Nat) (n0 s0 : Nat) (hn0 : s.heap.size = n0) {r : (Int64 ⊕ Nat)} {g : hS}  : ∀  (cells slots : Nat) (h : hS) (th : Nat) (x1 : Int32) (x2 : Int32) (x3 : Int32) (H : Heap) (locs : List Loc) (ls : Array Slot), wd D cy z s cells h H locs → h_s h = s0 + slots → lv_has ls 5 [(0, .ref th), (1, .int x1), (2, .int x2), (3, .int x3)] → f_K_years_13 N   h th x1 x2 x3 = some (r, g) → W p l e { frames := 9, cells := h_x g - n0, slots := h_s g - s0, locals := 168 } s m args below meth c H locs cells slots (eT D cy z rJ r g below args s (h_x g - n0) (h_s g - s0)) (F0 m 13 ls []) := by
  obtain ⟨hx, hb, hr, hml, hown, hts, hlk⟩ := id C
  intro cells slots h th x1 x2 x3 H locs ls w hsl hl hE
  have hcc : cells ≤ h_x g - n0 ∧ slots ≤ h_s g - s0 := by
    have q1 := mo_K_years_13 N  h th x1 x2 x3 _ _ hE
    have q2 := wd_x w
    have q3 := q1.1
    have q4 := q1.2.1
    omega
  unfold f_K_years_13 at hE
  refine lv_iconst (v := 0) hx hb dX11_years_13 (by decide) ?_
  exact b_K_years_14 C hst hxt N n0 s0 hn0   _ _ h th x1 x2 x3 (0 : Int32) _ _ ls w hsl (lv_sub hl [0, 1, 2, 3] rfl) hE
set_option maxRecDepth 20000 in
set_option maxHeartbeats 4000000 in
theorem k_K_years (l : Launch) (hst : l.stackTraces = false) (D : va_G) (cy : cyT) (z : Nat) (N : Nat) (h : hS) (th : Nat) (x1 : Int32) (x2 : Int32) (x3 : Int32) (r : (Int64 ⊕ Nat)) (g : hS) (hE : f_K_years N h th x1 x2 x3 = some (r, g)) : ctT l yX11_years (Cond.code yX11_years cX11_years 5 ((some .long)) :: GW) { frames := 9, cells := h_x g - h_x h, slots := h_s g - h_s h, locals := 168 } D cy z h [.ref th, .int x1, .int x2, .int x3] rJ r g := by
  refine ctT_of (cc := cX11_years) (maxL := 5) (ret := (some .long)) (by decide) ?_
  intro p e s m args below meth c s₁ B hml hxt hv
  obtain ⟨rfl, hw⟩ := hv
  have C : MX p s m ([.ref th, .int x1, .int x2, .int x3] : List Value).toArray meth c cX11_years 5 ((some .long)) RX11 (Cond.code yX11_years cX11_years 5 ((some .long)) :: GW) := ⟨B.exec, B.bytes, B.returns, hml, findClass_of_methodNamed B.named, atoms_spec (ws := Cond.code yX11_years cX11_years 5 ((some .long)) :: GW) B.pre, B.notSynchronized⟩
  obtain ⟨hx, hb, hr, hml, hown, hts, hlk⟩ := id C
  have w := wd_of hw
  have hsl : h_s h = h_s h + 0 := rfl
  have hn0 : s.heap.size = h_x h := (wd_x w).1
  obtain ⟨ls, hen, hl⟩ : ∃ ls : Array Slot, entryFrame m ([.ref th, .int x1, .int x2, .int x3] : List Value).toArray 5 = F0 m 0 ls [] ∧ lv_has ls 5 [(0, .ref th), (1, .int x1), (2, .int x2), (3, .int x3)] := by
    exact ⟨_, lg_entry_eq _ _ _, lv_entry _ (Nat.le_of_ble_eq_true rfl)⟩
  rw [hen]
  have hcc : 0 ≤ h_x g - h_x h ∧ 0 ≤ h_s g - h_s h := ⟨Nat.zero_le _, Nat.zero_le _⟩
  unfold f_K_years at hE
  refine lv_iload_n hx hb dX11_years_0 rfl (lv_at hl 3 rfl) ?_
  refine w_if_lt (tgt := 13) C dX11_years_1 (by decide) hE (fun hc e1 => ?_) (fun hc e1 => ?_)
  · exact b_K_years_13 C hst hxt N (h_x h) (h_s h) hn0   _ _ h th x1 x2 x3 _ _ ls w hsl (lv_sub hl [0, 1, 2, 3] rfl) e1
  · refine lv_iload_n hx hb dX11_years_4 rfl (lv_at hl 3 rfl) ?_
    refine lv_iconst (v := 2) hx hb dX11_years_5 (by decide) ?_
    refine w_icmp_gt (tgt := 13) C dX11_years_6 (by decide) e1 (fun hc e2 => ?_) (fun hc e2 => ?_)
    · exact b_K_years_13 C hst hxt N (h_x h) (h_s h) hn0   _ _ h th x1 x2 x3 _ _ ls w hsl (lv_sub hl [0, 1, 2, 3] rfl) e2
    · refine lv_iconst (v := 1) hx hb dX11_years_9 (by decide) ?_
      refine lv_goto (tgt := 14) hx hb dX11_years_10 (by decide) ?_
      exact b_K_years_14 C hst hxt N (h_x h) (h_s h) hn0   _ _ h th x1 x2 x3 (1 : Int32) _ _ ls w hsl (lv_sub hl [0, 1, 2, 3] rfl) e2
set_option maxRecDepth 20000 in
set_option maxHeartbeats 4000000 in
theorem b_K_image_29 {p : Program} {l : Launch} {e : Env} {s : State} {m : MethodId} {args : Array Value} {below : List Frame} {meth : Method} {c : Code} {D : va_G} {cy : cyT} {z : Nat} (C : MX p s m args meth c cX11_image 1 (none) RX11 (Cond.code yX11_image cX11_image 1 (none) :: GW)) (N : Nat) (n0 s0 : Nat) (hn0 : s.heap.size = n0) {r : Unit} {g : hS}  : ∀  (cells slots : Nat) (h : hS)  (H : Heap) (locs : List Loc) (ls : Array Slot), wd D cy z s cells h H locs → h_s h = s0 + slots → lv_has ls 1 [] → f_K_image_29 N   h  = some (r, g) → W p l e { frames := 4, cells := h_x g - n0, slots := h_s g - s0, locals := 107 } s m args below meth c H locs cells slots (MQ below (eQ D cy z (rV r) g) args s (h_x g - n0) (h_s g - s0) (fun q => z ≤ q)) (F0 m 29 ls []) := by
  obtain ⟨hx, hb, hr, hml, hown, hts, hlk⟩ := id C
  intro cells slots h  H locs ls w hsl hl hE
  have hcc : cells ≤ h_x g - n0 ∧ slots ≤ h_s g - s0 := by
    have q1 := mo_K_image_29 N  h  _ _ hE
    have q2 := wd_x w
    have q3 := q1.1
    have q4 := q1.2.1
    omega
  unfold f_K_image_29 at hE
  refine W.widen (k := h_x g - n0) (n := h_s g - s0) hcc.1 hcc.2 ?_
  exact w_vret C w hE dX11_image_29
set_option maxRecDepth 20000 in
set_option maxHeartbeats 4000000 in
theorem b_K_image_18 {p : Program} {l : Launch} {e : Env} {s : State} {m : MethodId} {args : Array Value} {below : List Frame} {meth : Method} {c : Code} {D : va_G} {cy : cyT} {z : Nat} (C : MX p s m args meth c cX11_image 1 (none) RX11 (Cond.code yX11_image cX11_image 1 (none) :: GW)) (N : Nat) (n0 s0 : Nat) (hn0 : s.heap.size = n0) {r : Unit} {g : hS}  : ∀  (cells slots : Nat) (h : hS) (th : Nat) (H : Heap) (locs : List Loc) (ls : Array Slot), wd D cy z s cells h H locs → h_s h = s0 + slots → lv_has ls 1 [(0, .ref th)] → f_K_image_18 N   h th = some (r, g) → W p l e { frames := 4, cells := h_x g - n0, slots := h_s g - s0, locals := 107 } s m args below meth c H locs cells slots (MQ below (eQ D cy z (rV r) g) args s (h_x g - n0) (h_s g - s0) (fun q => z ≤ q)) (F0 m 18 ls []) := by
  obtain ⟨hx, hb, hr, hml, hown, hts, hlk⟩ := id C
  intro cells slots h th H locs ls w hsl hl hE
  have hcc : cells ≤ h_x g - n0 ∧ slots ≤ h_s g - s0 := by
    have q1 := mo_K_image_18 N  h th _ _ hE
    have q2 := wd_x w
    have q3 := q1.1
    have q4 := q1.2.1
    omega
  unfold f_K_image_18 at hE
  refine lv_aload_n hx hb dX11_image_18 rfl (lv_at hl 0 rfl) ?_
  refine w_gR (r := some th) (ci := 12) (k := 17) C w rfl (by decide) (GF_wsX110 _) (by decide) rfl (List.mem_cons_of_mem _ gw_3_12) rfl dX11_image_19 hE (fun v1 e1 => ?_)
  refine lv_aload_n hx hb dX11_image_22 rfl (lv_at hl 0 rfl) ?_
  refine w_gR (r := some th) (ci := 12) (k := 16) C w rfl (by decide) (GF_wsX110 _) (by decide) rfl (List.mem_cons_of_mem _ gw_3_11) rfl dX11_image_23 e1 (fun v2 e2 => ?_)
  refine w_VAV GW_good (n := 1) (F := 3) (Lc := 85) (o := v1) (av := [va_rf v2]) (rest := []) C w rfl (by decide) (fun a r g hf => k_State_take l D cy z N h a v2 r g hf) gw_64_17 gw_64_18 gw_64_19 gw_3_10 gw_64_20 (by decide +kernel) ⟨Nat.le_of_ble_eq_true rfl, Nat.le_of_ble_eq_true rfl⟩ rfl hl.1 rfl (Nat.le_of_ble_eq_true rfl) dX11_image_26 (fun a => (mo_State_take N h a v2)) (fun a v3 h4 q1 q2 => by have u1 := (mo_State_take N h a v2) _ _ q1; have u2 := mo_K_image_29 N   h4  _ _ q2; have u3 := wd_x w; have u4 := u1.1; have u5 := u1.2.1; have u6 := u2.1; have u7 := u2.2.1; show cells + _ ≤ h_x g - n0 ∧ slots + _ ≤ h_s g - s0; omega) e2 (fun v3 h4 H locs w hsh4 e3 => ?_)
  exact b_K_image_29 C N n0 s0 hn0   _ _ h4  _ _ ls w (by have u5 := hsh4.2.1; have u8 := hsl; omega) (lv_sub hl [] rfl) e3
set_option maxRecDepth 20000 in
set_option maxHeartbeats 4000000 in
theorem b_K_image_15 {p : Program} {l : Launch} {e : Env} {s : State} {m : MethodId} {args : Array Value} {below : List Frame} {meth : Method} {c : Code} {D : va_G} {cy : cyT} {z : Nat} (C : MX p s m args meth c cX11_image 1 (none) RX11 (Cond.code yX11_image cX11_image 1 (none) :: GW)) (N : Nat) (n0 s0 : Nat) (hn0 : s.heap.size = n0) {r : Unit} {g : hS}  : ∀  (cells slots : Nat) (h : hS) (th : Nat) (y0 : Option Nat) (y1 : Option Nat) (H : Heap) (locs : List Loc) (ls : Array Slot), wd D cy z s cells h H locs → h_s h = s0 + slots → lv_has ls 1 [(0, .ref th)] → f_K_image_15 N   h th y0 y1 = some (r, g) → W p l e { frames := 4, cells := h_x g - n0, slots := h_s g - s0, locals := 107 } s m args below meth c H locs cells slots (MQ below (eQ D cy z (rV r) g) args s (h_x g - n0) (h_s g - s0) (fun q => z ≤ q)) (F0 m 15 ls [va_rf y1, va_rf y0]) := by
  obtain ⟨hx, hb, hr, hml, hown, hts, hlk⟩ := id C
  intro cells slots h th y0 y1 H locs ls w hsl hl hE
  have hcc : cells ≤ h_x g - n0 ∧ slots ≤ h_s g - s0 := by
    have q1 := mo_K_image_15 N  h th y0 y1 _ _ hE
    have q2 := wd_x w
    have q3 := q1.1
    have q4 := q1.2.1
    omega
  unfold f_K_image_15 at hE
  refine w_pR (r := y0) (ci := 12) (k := 17) (v := y1) (Or.inl ⟨_, rfl⟩) C w rfl (by decide) (by unfold roK; omega) (GF_wsX110 _) tyX11 tyX11_ok nmX11 (by decide) rfl (List.mem_cons_of_mem _ gw_3_12) rfl rfl (tyX11_ok 17 (by decide)) dX11_image_15 hE (fun h1 H locs w hsh1 e1 => ?_)
  have hsl := hsh1.2.2.2.trans hsl
  exact b_K_image_18 C N n0 s0 hn0   _ _ h1 th _ _ ls w hsl (lv_sub hl [0] rfl) e1
set_option maxRecDepth 20000 in
set_option maxHeartbeats 4000000 in
theorem b_K_image_11 {p : Program} {l : Launch} {e : Env} {s : State} {m : MethodId} {args : Array Value} {below : List Frame} {meth : Method} {c : Code} {D : va_G} {cy : cyT} {z : Nat} (C : MX p s m args meth c cX11_image 1 (none) RX11 (Cond.code yX11_image cX11_image 1 (none) :: GW)) (N : Nat) (n0 s0 : Nat) (hn0 : s.heap.size = n0) {r : Unit} {g : hS}  : ∀  (cells slots : Nat) (h : hS) (th : Nat) (y0 : Option Nat) (y1 : Option Nat) (H : Heap) (locs : List Loc) (ls : Array Slot), wd D cy z s cells h H locs → h_s h = s0 + slots → lv_has ls 1 [(0, .ref th)] → f_K_image_11 N   h th y0 y1 = some (r, g) → W p l e { frames := 4, cells := h_x g - n0, slots := h_s g - s0, locals := 107 } s m args below meth c H locs cells slots (MQ below (eQ D cy z (rV r) g) args s (h_x g - n0) (h_s g - s0) (fun q => z ≤ q)) (F0 m 11 ls [va_rf y1, va_rf y0]) := by
  obtain ⟨hx, hb, hr, hml, hown, hts, hlk⟩ := id C
  intro cells slots h th y0 y1 H locs ls w hsl hl hE
  have hcc : cells ≤ h_x g - n0 ∧ slots ≤ h_s g - s0 := by
    have q1 := mo_K_image_11 N  h th y0 y1 _ _ hE
    have q2 := wd_x w
    have q3 := q1.1
    have q4 := q1.2.1
    omega
  unfold f_K_image_11 at hE
  refine lv_dup hx hb dX11_image_11 (va_rf_cat _) ?_
  obtain ⟨q3, eq3, e1⟩ := nn_some hE
  subst eq3
  refine w_IAV GW_good (b := q3) (n := 0) (F := 2) (Lc := 64) (av := []) (rest := [.ref q3, va_rf y0]) C w (fun r g hf => k_State_init l D cy z N h q3  r g hf) gw_6_1 gw_6_2 gw_3_10 gw_6_3 rfl (by decide +kernel) ⟨Nat.le_of_ble_eq_true rfl, Nat.le_of_ble_eq_true rfl⟩ rfl hl.1 rfl (cat_le (Nat.le_of_ble_eq_true rfl)) dX11_image_12 (mo_State_init N h q3 ) (fun v1 h2 q1 q2 => by have u1 := (mo_State_init N h q3 ) _ _ q1; have u2 := mo_K_image_15 N   h2 th y0 (some q3) _ _ q2; have u3 := wd_x w; have u4 := u1.1; have u5 := u1.2.1; have u6 := u2.1; have u7 := u2.2.1; show cells + _ ≤ h_x g - n0 ∧ slots + _ ≤ h_s g - s0; omega) e1 (fun v1 h2 H locs w hsh2 e2 => ?_)
  exact b_K_image_15 C N n0 s0 hn0   _ _ h2 th y0 (some q3) _ _ ls w (by have u5 := hsh2.2.1; have u8 := hsl; omega) (lv_sub hl [0] rfl) e2
set_option maxRecDepth 20000 in
set_option maxHeartbeats 4000000 in
theorem k_K_image (l : Launch) (D : va_G) (cy : cyT) (z : Nat) (N : Nat) (h : hS) (th : Nat) (r : Unit) (g : hS) (hE : f_K_image N h th = some (r, g)) : ct l yX11_image (Cond.code yX11_image cX11_image 1 (none) :: GW) { frames := 4, cells := h_x g - h_x h, slots := h_s g - h_s h, locals := 107 } D cy z h [.ref th] (rV r) g := by
  refine Met.ofW (cc := cX11_image) (maxL := 1) (ret := none) (by decide) rfl ?_
  intro p e s m args below meth c s₁ B hml hv
  obtain ⟨rfl, hw⟩ := hv
  have C : MX p s m ([.ref th] : List Value).toArray meth c cX11_image 1 (none) RX11 (Cond.code yX11_image cX11_image 1 (none) :: GW) := ⟨B.exec, B.bytes, B.returns, hml, findClass_of_methodNamed B.named, atoms_spec (ws := Cond.code yX11_image cX11_image 1 (none) :: GW) B.pre, B.notSynchronized⟩
  obtain ⟨hx, hb, hr, hml, hown, hts, hlk⟩ := id C
  have w := wd_of hw
  have hsl : h_s h = h_s h + 0 := rfl
  have hn0 : s.heap.size = h_x h := (wd_x w).1
  obtain ⟨ls, hen, hl⟩ : ∃ ls : Array Slot, entryFrame m ([.ref th] : List Value).toArray 1 = F0 m 0 ls [] ∧ lv_has ls 1 [(0, .ref th)] := by
    exact ⟨_, lg_entry_eq _ _ _, lv_entry _ (Nat.le_of_ble_eq_true rfl)⟩
  rw [hen]
  have hcc : 0 ≤ h_x g - h_x h ∧ 0 ≤ h_s g - h_s h := ⟨Nat.zero_le _, Nat.zero_le _⟩
  unfold f_K_image at hE
  refine lv_aload_n hx hb dX11_image_0 rfl (lv_at hl 0 rfl) ?_
  refine w_gR (r := some th) (ci := 12) (k := 17) C w rfl (by decide) (GF_wsX110 _) (by decide) rfl (List.mem_cons_of_mem _ gw_3_12) rfl dX11_image_1 hE (fun v1 e1 => ?_)
  refine w_nonnull (r := v1) (tgt := 18) C dX11_image_4 (by decide) e1 (fun hc e2 => ?_) (fun hc e2 => ?_)
  · exact b_K_image_18 C N (h_x h) (h_s h) hn0   _ _ h th _ _ ls w hsl (lv_sub hl [0] rfl) e2
  · refine lv_aload_n hx hb dX11_image_7 rfl (lv_at hl 0 rfl) ?_
    have hm := mo_K_image_11 N   (nw h 8 0 8) th (some th) (some (h_x h)) _ _ e2
    have hm1 := hm.1
    have hm2 := hm.2.1
    rw [h_x_nw] at hm1
    rw [h_s_nw] at hm2
    have hwx := wd_x w
    refine w_newO (ci := 7) C w rfl (by decide) (GF_wsX60 _) tyX6 tyX6_ok (List.mem_cons_of_mem _ gw_3_8) (List.mem_cons_of_mem _ gw_3_9) (List.mem_cons_of_mem _ gw_3_10) (fun j hj => by rcases (show j = 0 ∨ j = 1 ∨ j = 2 ∨ j = 3 ∨ j = 4 ∨ j = 5 ∨ j = 6 ∨ j = 7 by omega) with rfl | rfl | rfl | rfl | rfl | rfl | rfl | rfl <;> rfl) dX11_image_8 e2 (by show 0 + 1 ≤ h_x g - (h_x h); omega) (by show 0 + _ ≤ h_s g - (h_s h); omega) (fun H w e3 => ?_)
    exact b_K_image_11 C N (h_x h) (h_s h) hn0   (0 + 1) (0 + 8) (nw h 8 0 8) th (some th) (some (h_x h)) _ _ ls w (by first | (rw [h_s_nw, hsl]; done) | (rw [h_s_nw, hsl]; omega)) (lv_sub hl [0] rfl) e3
set_option maxRecDepth 20000 in
set_option maxHeartbeats 4000000 in
theorem b_K_restore_32 {p : Program} {l : Launch} {e : Env} {s : State} {m : MethodId} {args : Array Value} {below : List Frame} {meth : Method} {c : Code} {D : va_G} {cy : cyT} {z : Nat} (C : MX p s m args meth c cX11_restore 2 ((some .boolean)) RX11 (Cond.code yX11_restore cX11_restore 2 ((some .boolean)) :: GW)) (hst : l.stackTraces = false) (N : Nat) (n0 s0 : Nat) (hn0 : s.heap.size = n0) {r : Int32} {g : hS} {rc22 : hS → Nat → Int32 → Option (Int32 × hS)} (hsh22 : ∀ (h : hS) (th : Nat) (x1 : Int32), Mo h (rc22 h th x1)) (hrc22 : ∀ (cells slots : Nat) (h : hS) (th : Nat) (x1 : Int32) (H : Heap) (locs : List Loc) (ls : Array Slot), wd D cy z s cells h H locs → h_s h = s0 + slots → lv_has ls 2 [(0, .ref th), (1, .int x1)] → rc22 h th x1 = some (r, g) → W p l e { frames := 10, cells := h_x g - n0, slots := h_s g - s0, locals := 185 } s m args below meth c H locs cells slots (MQ below (eQ D cy z (rI r) g) args s (h_x g - n0) (h_s g - s0) (fun q => z ≤ q)) (F0 m 22 ls [])) : ∀  (cells slots : Nat) (h : hS) (th : Nat) (x1 : Int32) (H : Heap) (locs : List Loc) (ls : Array Slot), wd D cy z s cells h H locs → h_s h = s0 + slots → lv_has ls 2 [(0, .ref th), (1, .int x1)] → f_K_restore_32 N rc22  h th x1 = some (r, g) → W p l e { frames := 10, cells := h_x g - n0, slots := h_s g - s0, locals := 185 } s m args below meth c H locs cells slots (MQ below (eQ D cy z (rI r) g) args s (h_x g - n0) (h_s g - s0) (fun q => z ≤ q)) (F0 m 32 ls []) := by
  obtain ⟨hx, hb, hr, hml, hown, hts, hlk⟩ := id C
  intro cells slots h th x1 H locs ls w hsl hl hE
  have hcc : cells ≤ h_x g - n0 ∧ slots ≤ h_s g - s0 := by
    have q1 := mo_K_restore_32 N hsh22 h th x1 _ _ hE
    have q2 := wd_x w
    have q3 := q1.1
    have q4 := q1.2.1
    omega
  unfold f_K_restore_32 at hE
  obtain ⟨v1, ev1, e1⟩ := bn_some hE
  refine lv_iinc (v := v1) (lv' := [(1, .int v1), (0, .ref th)]) hx hb dX11_restore_32 hl (k := 1) rfl (by rw [ev1]; rfl) (by decide) rfl (fun ls hl => ?_)
  refine lv_goto (tgt := 22) hx hb dX11_restore_35 (by decide) ?_
  exact hrc22 _ _ h th v1 _ _ ls w hsl (lv_sub hl [1, 0] rfl) e1
set_option maxRecDepth 20000 in
set_option maxHeartbeats 4000000 in
theorem b_K_restore_22 {p : Program} {l : Launch} {e : Env} {s : State} {m : MethodId} {args : Array Value} {below : List Frame} {meth : Method} {c : Code} {D : va_G} {cy : cyT} {z : Nat} (C : MX p s m args meth c cX11_restore 2 ((some .boolean)) RX11 (Cond.code yX11_restore cX11_restore 2 ((some .boolean)) :: GW)) (hst : l.stackTraces = false) (N : Nat) (n0 s0 : Nat) (hn0 : s.heap.size = n0) {r : Int32} {g : hS}  : ∀ (n : Nat) (cells slots : Nat) (h : hS) (th : Nat) (x1 : Int32) (H : Heap) (locs : List Loc) (ls : Array Slot), wd D cy z s cells h H locs → h_s h = s0 + slots → lv_has ls 2 [(0, .ref th), (1, .int x1)] → f_K_restore_22 N  n h th x1 = some (r, g) → W p l e { frames := 10, cells := h_x g - n0, slots := h_s g - s0, locals := 185 } s m args below meth c H locs cells slots (MQ below (eQ D cy z (rI r) g) args s (h_x g - n0) (h_s g - s0) (fun q => z ≤ q)) (F0 m 22 ls []) := by
  obtain ⟨hx, hb, hr, hml, hown, hts, hlk⟩ := id C
  intro n
  induction n with
  | zero =>
    intro cells slots h th x1 H locs ls w hsl hl hE
    cases hE
  | succ n ih =>
    intro cells slots h th x1 H locs ls w hsl hl hE
    have hcc : cells ≤ h_x g - n0 ∧ slots ≤ h_s g - s0 := by
      have q1 := mo_K_restore_22 N  (n + 1) h th x1 _ _ hE
      have q2 := wd_x w
      have q3 := q1.1
      have q4 := q1.2.1
      omega
    unfold f_K_restore_22 at hE
    refine lv_iload_n hx hb dX11_restore_22 rfl (lv_at hl 1 rfl) ?_
    refine lv_iconst (v := 4) hx hb dX11_restore_23 (by decide) ?_
    refine w_icmp_ge (tgt := 38) C dX11_restore_24 (by decide) hE (fun hc e1 => ?_) (fun hc e1 => ?_)
    · refine lv_iconst (v := 1) hx hb dX11_restore_38 (by decide) ?_
      refine W.widen (k := h_x g - n0) (n := h_s g - s0) hcc.1 hcc.2 ?_
      exact w_zret C w e1 dX11_restore_39
    · refine lv_aload_n hx hb dX11_restore_27 rfl (lv_at hl 0 rfl) ?_
      refine lv_iload_n hx hb dX11_restore_28 rfl (lv_at hl 1 rfl) ?_
      refine w_VAV GW_good (n := 1) (F := 9) (Lc := 164) (o := some th) (av := [.int x1]) (rest := []) C w rfl (by decide) (fun a r g hf => k_K_makeCurve l hst D cy z N h a x1 r g hf) gw_60_2 gw_60_3 gw_60_4 gw_1_2 gw_60_5 (by decide +kernel) ⟨Nat.le_of_ble_eq_true rfl, Nat.le_of_ble_eq_true rfl⟩ rfl hl.1 rfl (Nat.le_of_ble_eq_true rfl) dX11_restore_29 (fun a => (mo_K_makeCurve N h a x1)) (fun a v1 h2 q1 q2 => by have u1 := (mo_K_makeCurve N h a x1) _ _ q1; have u2 := mo_K_restore_32 N (mo_K_restore_22 N  n)  h2 th x1 _ _ q2; have u3 := wd_x w; have u4 := u1.1; have u5 := u1.2.1; have u6 := u2.1; have u7 := u2.2.1; show cells + _ ≤ h_x g - n0 ∧ slots + _ ≤ h_s g - s0; omega) e1 (fun v1 h2 H locs w hsh2 e2 => ?_)
      exact b_K_restore_32 C hst N n0 s0 hn0 (mo_K_restore_22 N  n) ih  _ _ h2 th x1 _ _ ls w (by have u5 := hsh2.2.1; have u8 := hsl; omega) (lv_sub hl [0, 1] rfl) e2
set_option maxRecDepth 20000 in
set_option maxHeartbeats 4000000 in
theorem b_K_restore_20 {p : Program} {l : Launch} {e : Env} {s : State} {m : MethodId} {args : Array Value} {below : List Frame} {meth : Method} {c : Code} {D : va_G} {cy : cyT} {z : Nat} (C : MX p s m args meth c cX11_restore 2 ((some .boolean)) RX11 (Cond.code yX11_restore cX11_restore 2 ((some .boolean)) :: GW)) (hst : l.stackTraces = false) (N : Nat) (n0 s0 : Nat) (hn0 : s.heap.size = n0) {r : Int32} {g : hS}  : ∀  (cells slots : Nat) (h : hS) (th : Nat) (H : Heap) (locs : List Loc) (ls : Array Slot), wd D cy z s cells h H locs → h_s h = s0 + slots → lv_has ls 2 [(0, .ref th)] → f_K_restore_20 N   h th = some (r, g) → W p l e { frames := 10, cells := h_x g - n0, slots := h_s g - s0, locals := 185 } s m args below meth c H locs cells slots (MQ below (eQ D cy z (rI r) g) args s (h_x g - n0) (h_s g - s0) (fun q => z ≤ q)) (F0 m 20 ls []) := by
  obtain ⟨hx, hb, hr, hml, hown, hts, hlk⟩ := id C
  intro cells slots h th H locs ls w hsl hl hE
  have hcc : cells ≤ h_x g - n0 ∧ slots ≤ h_s g - s0 := by
    have q1 := mo_K_restore_20 N  h th _ _ hE
    have q2 := wd_x w
    have q3 := q1.1
    have q4 := q1.2.1
    omega
  unfold f_K_restore_20 at hE
  refine lv_iconst (v := 0) hx hb dX11_restore_20 (by decide) ?_
  refine lv_istore_n (lv' := [(1, .int (0 : Int32)), (0, .ref th)]) hx hb dX11_restore_21 rfl hl (by decide) rfl (fun ls hl => ?_)
  exact b_K_restore_22 C hst N n0 s0 hn0  N _ _ h th (0 : Int32) _ _ ls w hsl (lv_sub hl [1, 0] rfl) hE
set_option maxRecDepth 20000 in
set_option maxHeartbeats 4000000 in
theorem k_K_restore (l : Launch) (hst : l.stackTraces = false) (D : va_G) (cy : cyT) (z : Nat) (N : Nat) (h : hS) (th : Nat) (r : Int32) (g : hS) (hE : f_K_restore N h th = some (r, g)) : ct l yX11_restore (Cond.code yX11_restore cX11_restore 2 ((some .boolean)) :: GW) { frames := 10, cells := h_x g - h_x h, slots := h_s g - h_s h, locals := 185 } D cy z h [.ref th] (rI r) g := by
  refine Met.ofW (cc := cX11_restore) (maxL := 2) (ret := (some .boolean)) (by decide) rfl ?_
  intro p e s m args below meth c s₁ B hml hv
  obtain ⟨rfl, hw⟩ := hv
  have C : MX p s m ([.ref th] : List Value).toArray meth c cX11_restore 2 ((some .boolean)) RX11 (Cond.code yX11_restore cX11_restore 2 ((some .boolean)) :: GW) := ⟨B.exec, B.bytes, B.returns, hml, findClass_of_methodNamed B.named, atoms_spec (ws := Cond.code yX11_restore cX11_restore 2 ((some .boolean)) :: GW) B.pre, B.notSynchronized⟩
  obtain ⟨hx, hb, hr, hml, hown, hts, hlk⟩ := id C
  have w := wd_of hw
  have hsl : h_s h = h_s h + 0 := rfl
  have hn0 : s.heap.size = h_x h := (wd_x w).1
  obtain ⟨ls, hen, hl⟩ : ∃ ls : Array Slot, entryFrame m ([.ref th] : List Value).toArray 2 = F0 m 0 ls [] ∧ lv_has ls 2 [(0, .ref th)] := by
    exact ⟨_, lg_entry_eq _ _ _, lv_entry _ (Nat.le_of_ble_eq_true rfl)⟩
  rw [hen]
  have hcc : 0 ≤ h_x g - h_x h ∧ 0 ≤ h_s g - h_s h := ⟨Nat.zero_le _, Nat.zero_le _⟩
  unfold f_K_restore at hE
  refine lv_aload_n hx hb dX11_restore_0 rfl (lv_at hl 0 rfl) ?_
  refine w_gR (r := some th) (ci := 12) (k := 17) C w rfl (by decide) (GF_wsX110 _) (by decide) rfl (List.mem_cons_of_mem _ gw_3_12) rfl dX11_restore_1 hE (fun v1 e1 => ?_)
  refine w_nonnull (r := v1) (tgt := 9) C dX11_restore_4 (by decide) e1 (fun hc e2 => ?_) (fun hc e2 => ?_)
  · refine lv_aload_n hx hb dX11_restore_9 rfl (lv_at hl 0 rfl) ?_
    refine w_gR (r := some th) (ci := 12) (k := 16) C w rfl (by decide) (GF_wsX110 _) (by decide) rfl (List.mem_cons_of_mem _ gw_3_11) rfl dX11_restore_10 e2 (fun v2 e3 => ?_)
    refine lv_aload_n hx hb dX11_restore_13 rfl (lv_at hl 0 rfl) ?_
    refine w_gR (r := some th) (ci := 12) (k := 17) C w rfl (by decide) (GF_wsX110 _) (by decide) rfl (List.mem_cons_of_mem _ gw_3_12) rfl dX11_restore_14 e3 (fun v3 e4 => ?_)
    refine w_VAV GW_good (n := 1) (F := 3) (Lc := 85) (o := v2) (av := [va_rf v3]) (rest := []) C w rfl (by decide) (fun a r g hf => k_State_take l D cy z N h a v3 r g hf) gw_64_17 gw_64_18 gw_64_19 gw_3_10 gw_64_20 (by decide +kernel) ⟨Nat.le_of_ble_eq_true rfl, Nat.le_of_ble_eq_true rfl⟩ rfl hl.1 rfl (Nat.le_of_ble_eq_true rfl) dX11_restore_17 (fun a => (mo_State_take N h a v3)) (fun a v4 h5 q1 q2 => by have u1 := (mo_State_take N h a v3) _ _ q1; have u2 := mo_K_restore_20 N   h5 th _ _ q2; have u3 := wd_x w; have u4 := u1.1; have u5 := u1.2.1; have u6 := u2.1; have u7 := u2.2.1; show 0 + _ ≤ h_x g - (h_x h) ∧ 0 + _ ≤ h_s g - (h_s h); omega) e4 (fun v4 h5 H locs w hsh5 e5 => ?_)
    exact b_K_restore_20 C hst N (h_x h) (h_s h) hn0   _ _ h5 th _ _ ls w (by have u5 := hsh5.2.1; have u8 := hsl; omega) (lv_sub hl [0] rfl) e5
  · refine lv_iconst (v := 0) hx hb dX11_restore_7 (by decide) ?_
    refine W.widen (k := h_x g - (h_x h)) (n := h_s g - (h_s h)) hcc.1 hcc.2 ?_
    exact w_zret C w e2 dX11_restore_8
