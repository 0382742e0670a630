def f_M_isIn_18 (N : Nat)  (h : hS) (y0 : Int32) : Option (Int32 × hS) := bz y0 (some (y0, h))
def f_M_isIn_17 (N : Nat)  (h : hS)  : Option (Int32 × hS) := f_M_isIn_18 N   h (0 : Int32)
def f_M_isIn (N : Nat) (h : hS) (x0 : Int64) (x2 : Int64) (x4 : Int64) : Option (Int32 × hS) := if (lg_cmp x0 x2) < (0 : Int32) then (f_M_isIn_17 N   h ) else (if (0 : Int32) < (lg_cmp x0 x4) then (f_M_isIn_17 N   h ) else (f_M_isIn_18 N   h (1 : Int32)))
def f_M_copyTo_2 (N : Nat)  : Nat → hS → Nat → Nat → Int32 → Option (Unit × hS)
  | 0 => fun _ _ _ _ => none
  | n + 1 => fun h a0 a1 x2 => lnA h 50 (some a0) fun v1 => if v1 ≤ x2 then (some ((), h)) else (aI h 50 (some a1) x2 fun v2 => uI h (some a0) x2 v2 fun h3 => bn (x2 + (1 : Int32)) fun v4 => f_M_copyTo_2 N  n h3 a0 a1 v4)
def f_M_copyTo (N : Nat) (h : hS) (a0 : Nat) (a1 : Nat) : Option (Unit × hS) := f_M_copyTo_2 N  N h a0 a1 (0 : Int32)
def f_M_clear_2 (N : Nat)  : Nat → hS → Nat → Int32 → Option (Unit × hS)
  | 0 => fun _ _ _ => none
  | n + 1 => fun h a0 x1 => lnA h 50 (some a0) fun v1 => if v1 ≤ x1 then (some ((), h)) else (uI h (some a0) x1 (0 : Int32) fun h2 => bn (x1 + (1 : Int32)) fun v3 => f_M_clear_2 N  n h2 a0 v3)
def f_M_clear (N : Nat) (h : hS) (a0 : Nat) : Option (Unit × hS) := f_M_clear_2 N  N h a0 (0 : Int32)
def f_M_valueAt_107 (N : Nat)  (h : hS) (y0 : Int64) : Option (Int64 × hS) := some (y0, h)
def f_M_valueAt_46 (N : Nat)  : Nat → hS → Nat → Int32 → Int64 → Int64 → Int32 → Int32 → Option (Int64 × hS)
  | 0 => fun _ _ _ _ _ _ _ => none
  | n + 1 => fun h a0 x1 x2 x4 x6 x7 => if x6 ≤ x7 then (if (5000 : Int32) < x1 then (aI h 50 (some a0) (10002 : Int32) fun v1 => f_M_valueAt_107 N   h (x2 + ((x4 + v1.toInt64) * ((x1 - (5000 : Int32)).toInt64)))) else (f_M_valueAt_107 N   h x2)) else (aI h 50 (some a0) ((5002 : Int32) + x7) fun v2 => bn ((x4 + v2.toInt64)) fun v3 => bn ((x2 + v3)) fun v4 => bn (x7 + (1 : Int32)) fun v5 => f_M_valueAt_46 N  n h a0 x1 v4 v3 x6 v5)
def f_M_valueAt (N : Nat) (h : hS) (a0 : Nat) (x1 : Int32) : Option (Int64 × hS) := aI h 50 (some a0) (1 : Int32) fun v1 => bn (v1.toInt64) fun v2 => if (-5000 : Int32) < x1 then (aI h 50 (some a0) (0 : Int32) fun v3 => bn (v3.toInt64) fun v4 => bn ((jmn x1 (5000 : Int32))) fun v5 => f_M_valueAt_46 N  N h a0 x1 v2 v4 v5 (-5000 : Int32)) else (aI h 50 (some a0) (0 : Int32) fun v6 => some ((v2 + (v6.toInt64 * ((x1 + (5000 : Int32)).toInt64))), h))
def f_M_weights_4 (N : Nat)  : Nat → hS → Nat → Int32 → Int32 → Option (Int32 × hS)
  | 0 => fun _ _ _ _ => none
  | n + 1 => fun h a0 x1 x2 => if (10001 : Int32) ≤ x2 then (some (x1, h)) else (aI h 50 (some a0) ((2 : Int32) + x2) fun v1 => bn ((x1 + v1)) fun v2 => bn (x2 + (1 : Int32)) fun v3 => f_M_weights_4 N  n h a0 v2 v3)
def f_M_weights (N : Nat) (h : hS) (a0 : Nat) : Option (Int32 × hS) := f_M_weights_4 N  N h a0 (0 : Int32) (0 : Int32)
def f_M_kinks_25 (N : Nat) (rc4 : hS → Nat → Int32 → Int32 → Option (Int32 × hS)) (h : hS) (a0 : Nat) (x2 : Int32) (y0 : Int32) (y1 : Int32) : Option (Int32 × hS) := bn ((y0 + y1)) fun v1 => bn (x2 + (1 : Int32)) fun v2 => rc4 h a0 v1 v2
def f_M_kinks_4 (N : Nat)  : Nat → hS → Nat → Int32 → Int32 → Option (Int32 × hS)
  | 0 => fun _ _ _ _ => none
  | n + 1 => fun h a0 x1 x2 => if (10001 : Int32) ≤ x2 then (some (x1, h)) else (aI h 50 (some a0) ((2 : Int32) + x2) fun v1 => if v1 ≤ (0 : Int32) then (f_M_kinks_25 N (f_M_kinks_4 N  n)  h a0 x2 x1 (0 : Int32)) else (f_M_kinks_25 N (f_M_kinks_4 N  n)  h a0 x2 x1 (1 : Int32)))
def f_M_kinks (N : Nat) (h : hS) (a0 : Nat) : Option (Int32 × hS) := f_M_kinks_4 N  N h a0 (0 : Int32) (0 : Int32)
def f_M_turnsTo_14 (N : Nat)  : Nat → hS → Nat → Int32 → Int32 → Int32 → Option (Int32 × hS)
  | 0 => fun _ _ _ _ _ => none
  | n + 1 => fun h a0 x1 x2 x3 => if (10001 : Int32) ≤ x3 then (some ((100000000 : Int32), h)) else (aI h 50 (some a0) ((2 : Int32) + x3) fun v1 => bn ((x2 + v1)) fun v2 => if v2 < x1 then (bn (x3 + (1 : Int32)) fun v3 => f_M_turnsTo_14 N  n h a0 x1 v2 v3) else (some ((x3 - (5000 : Int32)), h)))
def f_M_turnsTo (N : Nat) (h : hS) (a0 : Nat) (x1 : Int32) : Option (Int32 × hS) := aI h 50 (some a0) (0 : Int32) fun v1 => if v1 < x1 then (f_M_turnsTo_14 N  N h a0 x1 v1 (0 : Int32)) else (some ((-100000000 : Int32), h))
def f_M_nearest_19 (N : Nat)  (h : hS) (y0 : Int32) : Option (Int32 × hS) := some (y0, h)
def f_M_nearest (N : Nat) (h : hS) (x0 : Int32) (x1 : Int32) (x2 : Int32) : Option (Int32 × hS) := if x0 ≤ x2 then (if x2 ≤ x1 then (f_M_nearest_19 N   h x2) else (f_M_nearest_19 N   h x1)) else (f_M_nearest_19 N   h x0)
def f_M_flatFrom (N : Nat) (h : hS) (a0 : Nat) : Option (Int32 × hS) := cl (f_M_turnsTo N h a0 (0 : Int32)) fun v1 h2 => some (v1, h2)
def f_M_flatTo (N : Nat) (h : hS) (a0 : Nat) : Option (Int32 × hS) := cl (f_M_turnsTo N h a0 (1 : Int32)) fun v1 h2 => some (v1, h2)
def f_M_leastOf (N : Nat) (h : hS) (a0 : Nat) : Option (Int64 × hS) := cl (f_M_flatFrom N h a0) fun v1 h2 => cl (f_M_flatTo N h2 a0) fun v3 h4 => cl (f_M_nearest N h4 v1 v3 (0 : Int32)) fun v5 h6 => cl (f_M_valueAt N h6 a0 v5) fun v7 h8 => some (v7, h8)
def f_M_adds_41 (N : Nat)  (h : hS)  : Option (Unit × hS) := some ((), h)
def f_M_adds (N : Nat) (h : hS) (th : Nat) (x1 : Int32) (x2 : Int32) : Option (Unit × hS) := if x2 = (0 : Int32) then (some ((), h)) else (cl (f_M_isIn N h x1.toInt64 (-5000 : Int64) (5000 : Int64)) fun v1 h2 => if v1 = (0 : Int32) then (pZ h2 (some th) 0 9 (1 : Int32) fun h3 => f_M_adds_41 N   h3 ) else (gR h2 (some th) 0 4 fun v4 => aI h2 50 v4 ((5002 : Int32) + x1) fun v5 => uI h2 v4 ((5002 : Int32) + x1) (v5 + x2) fun h6 => f_M_adds_41 N   h6 ))
def f_M_leans (N : Nat) (h : hS) (th : Nat) (x1 : Int32) (x2 : Int32) (x3 : Int32) : Option (Unit × hS) := gR h (some th) 0 4 fun v1 => aI h 50 v1 (0 : Int32) fun v2 => uI h v1 (0 : Int32) (v2 - x2) fun h3 => gR h3 (some th) 0 4 fun v4 => aI h3 50 v4 (1 : Int32) fun v5 => uI h3 v4 (1 : Int32) (v5 + (x2 * (x1 + (5000 : Int32)))) fun h6 => cv h6 (some th) 0 (fun a => f_M_adds N h6 a x1 (x2 + x3)) fun _ h8 => some ((), h8)
def f_M_drifts_56 (N : Nat)  : Nat → hS → Nat → Int32 → Int32 → Option (Unit × hS)
  | 0 => fun _ _ _ _ => none
  | n + 1 => fun h th x1 x2 => if (10001 : Int32) ≤ x2 then (some ((), h)) else (gR h (some th) 0 6 fun v1 => aI h 50 v1 ((2 : Int32) + x2) fun v2 => cv h (some th) 0 (fun a => f_M_adds N h a ((x2 - (5000 : Int32)) + x1) v2) fun _ h4 => bn (x2 + (1 : Int32)) fun v5 => f_M_drifts_56 N  n h4 th x1 v5)
def f_M_drifts_32 (N : Nat)  : Nat → hS → Nat → Int32 → Int32 → Option (Unit × hS)
  | 0 => fun _ _ _ _ => none
  | n + 1 => fun h th x1 x2 => if (10001 : Int32) ≤ x2 then (f_M_drifts_56 N  N h th x1 (0 : Int32)) else (gR h (some th) 0 4 fun v1 => uI h v1 ((2 : Int32) + x2) (0 : Int32) fun h2 => bn (x2 + (1 : Int32)) fun v3 => f_M_drifts_32 N  n h2 th x1 v3)
def f_M_drifts (N : Nat) (h : hS) (th : Nat) (x1 : Int32) : Option (Unit × hS) := gR h (some th) 0 6 fun v1 => gR h (some th) 0 4 fun v2 => nn v1 fun q3 => nn v2 fun q4 => cl (f_M_copyTo N h q3 q4) fun _ h6 => gR h6 (some th) 0 4 fun v7 => gR h6 (some th) 0 6 fun v8 => nn v8 fun q9 => cl (f_M_valueAt N h6 q9 ((-5000 : Int32) - x1)) fun v10 h11 => uI h11 v7 (1 : Int32) v10.toInt32 fun h12 => f_M_drifts_32 N  N h12 th x1 (0 : Int32)
def f_M_parts_230 (N : Nat)  (h : hS) (y0 : Option Nat) (y1 : Int32) (y2 : Int32) : Option (Unit × hS) := uI h y0 y1 y2 fun h1 => some ((), h1)
def f_M_parts_199 (N : Nat)  (h : hS) (th : Nat) (x1 : Int32) (x5 : Int64) (y0 : Int32) : Option (Unit × hS) := gR h (some th) 0 4 fun v1 => if y0 = (0 : Int32) then (gR h (some th) 0 6 fun v2 => nn v2 fun q3 => cl (f_M_valueAt N h q3 ((-5000 : Int32) + x1)) fun v4 h5 => f_M_parts_230 N   h5 v1 (1 : Int32) v4.toInt32) else (f_M_parts_230 N   h v1 (1 : Int32) x5.toInt32)
def f_M_parts_194 (N : Nat)  (h : hS) (th : Nat) (x1 : Int32) (x5 : Int64) : Option (Unit × hS) := f_M_parts_199 N   h th x1 x5 (1 : Int32)
def f_M_parts_160 (N : Nat) (rc87 : hS → Nat → Int32 → Int32 → Int32 → Int32 → Int64 → Int32 → Int32 → Int32 → Option (Unit × hS)) (h : hS) (th : Nat) (x1 : Int32) (x2 : Int32) (x3 : Int32) (x4 : Int32) (x5 : Int64) (x7 : Int32) (x8 : Int32) (x9 : Int32) (x10 : Int32) : Option (Unit × hS) := bn ((x8 + x10)) fun v1 => bn (x9 + (1 : Int32)) fun v2 => rc87 h th x1 x2 x3 x4 x5 x7 v1 v2
def f_M_parts_138 (N : Nat) (rc87 : hS → Nat → Int32 → Int32 → Int32 → Int32 → Int64 → Int32 → Int32 → Int32 → Option (Unit × hS)) (h : hS) (th : Nat) (x1 : Int32) (x2 : Int32) (x3 : Int32) (x4 : Int32) (x5 : Int64) (x7 : Int32) (x8 : Int32) (x9 : Int32) (x10 : Int32) (x11 : Int32) : Option (Unit × hS) := if x4 = (0 : Int32) then (f_M_parts_160 N rc87  h th x1 x2 x3 x4 x5 x7 x8 x9 x10) else (cv h (some th) 0 (fun a => f_M_adds N h a ((x9 - (5000 : Int32)) + x2) (x10 - x11)) fun _ h2 => f_M_parts_160 N rc87  h2 th x1 x2 x3 x4 x5 x7 x8 x9 x10)
def f_M_parts_87 (N : Nat)  : Nat → hS → Nat → Int32 → Int32 → Int32 → Int32 → Int64 → Int32 → Int32 → Int32 → Option (Unit × hS)
  | 0 => fun _ _ _ _ _ _ _ _ _ _ => none
  | n + 1 => fun h th x1 x2 x3 x4 x5 x7 x8 x9 => if (10001 : Int32) ≤ x9 then (if x3 = (0 : Int32) then (f_M_parts_194 N   h th x1 x5) else (if x7 = (-100000000 : Int32) then (f_M_parts_194 N   h th x1 x5) else (if (-5000 : Int32) < (x7 - x1) then (f_M_parts_199 N   h th x1 x5 (0 : Int32)) else (f_M_parts_194 N   h th x1 x5)))) else (gR h (some th) 0 6 fun v1 => aI h 50 v1 ((2 : Int32) + x9) fun v2 => bn ((jmn v2 (jmx (0 : Int32) (-x8)))) fun v3 => if x3 = (0 : Int32) then (f_M_parts_138 N (f_M_parts_87 N  n)  h th x1 x2 x3 x4 x5 x7 x8 x9 v2 v3) else (cv h (some th) 0 (fun a => f_M_adds N h a ((x9 - (5000 : Int32)) - x1) v3) fun _ h5 => f_M_parts_138 N (f_M_parts_87 N  n)  h5 th x1 x2 x3 x4 x5 x7 x8 x9 v2 v3))
def f_M_parts_75 (N : Nat)  (h : hS) (th : Nat) (x1 : Int32) (x2 : Int32) (x3 : Int32) (x4 : Int32) (x5 : Int64) (x7 : Int32) (y0 : Option Nat) (y1 : Int32) (y2 : Int32) : Option (Unit × hS) := uI h y0 y1 y2 fun h1 => gR h1 (some th) 0 6 fun v2 => aI h1 50 v2 (0 : Int32) fun v3 => f_M_parts_87 N  N h1 th x1 x2 x3 x4 x5 x7 v3 (0 : Int32)
def f_M_parts_32 (N : Nat)  : Nat → hS → Nat → Int32 → Int32 → Int32 → Int32 → Int64 → Int32 → Int32 → Option (Unit × hS)
  | 0 => fun _ _ _ _ _ _ _ _ _ => none
  | n + 1 => fun h th x1 x2 x3 x4 x5 x7 x8 => if (10001 : Int32) ≤ x8 then (gR h (some th) 0 4 fun v1 => if x3 = (0 : Int32) then (f_M_parts_75 N   h th x1 x2 x3 x4 x5 x7 v1 (0 : Int32) (0 : Int32)) else (gR h (some th) 0 6 fun v2 => aI h 50 v2 (0 : Int32) fun v3 => f_M_parts_75 N   h th x1 x2 x3 x4 x5 x7 v1 (0 : Int32) v3)) else (gR h (some th) 0 4 fun v4 => uI h v4 ((2 : Int32) + x8) (0 : Int32) fun h5 => bn (x8 + (1 : Int32)) fun v6 => f_M_parts_32 N  n h5 th x1 x2 x3 x4 x5 x7 v6)
def f_M_parts (N : Nat) (h : hS) (th : Nat) (x1 : Int32) (x2 : Int32) (x3 : Int32) (x4 : Int32) : Option (Unit × hS) := gR h (some th) 0 6 fun v1 => gR h (some th) 0 4 fun v2 => nn v1 fun q3 => nn v2 fun q4 => cl (f_M_copyTo N h q3 q4) fun _ h6 => gR h6 (some th) 0 6 fun v7 => nn v7 fun q8 => cl (f_M_leastOf N h6 q8) fun v9 h10 => gR h10 (some th) 0 6 fun v11 => nn v11 fun q12 => cl (f_M_flatFrom N h10 q12) fun v13 h14 => f_M_parts_32 N  N h14 th x1 x2 x3 x4 v9 v13 (0 : Int32)
def f_M_putsOn_2 (N : Nat)  : Nat → hS → Nat → Nat → Int32 → Option (Unit × hS)
  | 0 => fun _ _ _ _ => none
  | n + 1 => fun h th a1 x2 => lnA h 50 (some a1) fun v1 => if v1 ≤ x2 then (some ((), h)) else (gR h (some th) 0 4 fun v2 => aI h 50 v2 x2 fun v3 => aI h 50 (some a1) x2 fun v4 => uI h v2 x2 (v3 + v4) fun h5 => bn (x2 + (1 : Int32)) fun v6 => f_M_putsOn_2 N  n h5 th a1 v6)
def f_M_putsOn (N : Nat) (h : hS) (th : Nat) (a1 : Nat) : Option (Unit × hS) := f_M_putsOn_2 N  N h th a1 (0 : Int32)
def f_M_forgetLaid_2 (N : Nat)  : Nat → hS → Nat → Int32 → Option (Unit × hS)
  | 0 => fun _ _ _ => none
  | n + 1 => fun h th x1 => if (4 : Int32) ≤ x1 then (some ((), h)) else (gR h (some th) 0 16 fun v1 => uI h v1 x1 (-1 : Int32) fun h2 => bn (x1 + (1 : Int32)) fun v3 => f_M_forgetLaid_2 N  n h2 th v3)
def f_M_forgetLaid (N : Nat) (h : hS) (th : Nat) : Option (Unit × hS) := f_M_forgetLaid_2 N  N h th (0 : Int32)
def f_M_feed_76 (N : Nat) (rc23 : hS → Nat → Int32 → Int32 → Int32 → Int32 → Int32 → Int32 → Option (Int32 × hS)) (h : hS) (th : Nat) (x1 : Int32) (x2 : Int32) (x3 : Int32) (x4 : Int32) (x5 : Int32) (x6 : Int32) (y0 : Int32) : Option (Int32 × hS) := gR h (some th) 0 17 fun v1 => gI h (some th) 0 20 fun v2 => dv (4 : Int32) (uI h v1 v2 ((y0 >>> (((24 : Int32) - ((8 : Int32) * (x6 - x6 / (4 : Int32) * (4 : Int32)))) &&& 31)) &&& (255 : Int32)) fun h3 => gI h3 (some th) 0 20 fun v4 => pI h3 (some th) 0 20 (v4 + (1 : Int32)) fun h5 => bn (x6 + (1 : Int32)) fun v6 => rc23 h5 th x1 x2 x3 x4 x5 v6)
def f_M_feed_23 (N : Nat)  : Nat → hS → Nat → Int32 → Int32 → Int32 → Int32 → Int32 → Int32 → Option (Int32 × hS)
  | 0 => fun _ _ _ _ _ _ _ _ => none
  | n + 1 => fun h th x1 x2 x3 x4 x5 x6 => if (20 : Int32) ≤ x6 then (gI h (some th) 0 20 fun v1 => some (v1, h)) else (if (4 : Int32) ≤ x6 then (if (8 : Int32) ≤ x6 then (if (12 : Int32) ≤ x6 then (if (16 : Int32) ≤ x6 then (f_M_feed_76 N (f_M_feed_23 N  n)  h th x1 x2 x3 x4 x5 x6 x5) else (f_M_feed_76 N (f_M_feed_23 N  n)  h th x1 x2 x3 x4 x5 x6 x4)) else (f_M_feed_76 N (f_M_feed_23 N  n)  h th x1 x2 x3 x4 x5 x6 x3)) else (f_M_feed_76 N (f_M_feed_23 N  n)  h th x1 x2 x3 x4 x5 x6 x2)) else (f_M_feed_76 N (f_M_feed_23 N  n)  h th x1 x2 x3 x4 x5 x6 x1))
def f_M_feed (N : Nat) (h : hS) (th : Nat) (x1 : Int32) (x2 : Int32) (x3 : Int32) (x4 : Int32) (x5 : Int32) : Option (Int32 × hS) := pI h (some th) 0 1 (0 : Int32) fun h1 => gI h1 (some th) 0 20 fun v2 => if (v2 + (20 : Int32)) ≤ (600 : Int32) then (f_M_feed_23 N  N h1 th x1 x2 x3 x4 x5 (0 : Int32)) else (some ((-1 : Int32), h1))
def f_M_byteAt_18 (N : Nat)  (h : hS) (y0 : Int32) : Option (Int32 × hS) := some (y0, h)
def f_M_byteAt (N : Nat) (h : hS) (th : Nat) (x1 : Int32) : Option (Int32 × hS) := gI h (some th) 0 22 fun v1 => if v1 ≤ x1 then (f_M_byteAt_18 N   h (-1 : Int32)) else (gR h (some th) 0 17 fun v2 => aI h 50 v2 x1 fun v3 => f_M_byteAt_18 N   h v3)
def f_M_isLetter_17 (N : Nat)  (h : hS) (y0 : Int32) : Option (Int32 × hS) := bz y0 (some (y0, h))
def f_M_isLetter_16 (N : Nat)  (h : hS)  : Option (Int32 × hS) := f_M_isLetter_17 N   h (0 : Int32)
def f_M_isLetter (N : Nat) (h : hS) (x0 : Int32) : Option (Int32 × hS) := if x0 < (97 : Int32) then (f_M_isLetter_16 N   h ) else (if (122 : Int32) < x0 then (f_M_isLetter_16 N   h ) else (f_M_isLetter_17 N   h (1 : Int32)))
def f_M_isDigit_17 (N : Nat)  (h : hS) (y0 : Int32) : Option (Int32 × hS) := bz y0 (some (y0, h))
def f_M_isDigit_16 (N : Nat)  (h : hS)  : Option (Int32 × hS) := f_M_isDigit_17 N   h (0 : Int32)
def f_M_isDigit (N : Nat) (h : hS) (x0 : Int32) : Option (Int32 × hS) := if x0 < (48 : Int32) then (f_M_isDigit_16 N   h ) else (if (57 : Int32) < x0 then (f_M_isDigit_16 N   h ) else (f_M_isDigit_17 N   h (1 : Int32)))
def f_M_stepOn_26 (N : Nat) (rc0 : hS → Nat → Option (Unit × hS)) (h : hS) (th : Nat) : Option (Unit × hS) := gI h (some th) 0 21 fun v1 => pI h (some th) 0 21 (v1 + (1 : Int32)) fun h2 => rc0 h2 th
def f_M_stepOn_218 (N : Nat)  (h : hS) (th : Nat) : Option (Unit × hS) := gI h (some th) 0 21 fun v1 => pI h (some th) 0 26 v1 fun h2 => some ((), h2)
def f_M_stepOn_215 (N : Nat)  (h : hS) (th : Nat) (y0 : Option Nat) (y1 : Int32) : Option (Unit × hS) := pI h y0 0 23 y1 fun h1 => f_M_stepOn_218 N   h1 th
def f_M_stepOn_210 (N : Nat)  (h : hS) (th : Nat) (y0 : Option Nat) : Option (Unit × hS) := f_M_stepOn_215 N   h th y0 (3 : Int32)
def f_M_stepOn_123 (N : Nat)  : Nat → hS → Nat → Option (Unit × hS)
  | 0 => fun _ _ => none
  | n + 1 => fun h th => gI h (some th) 0 21 fun v1 => cv h (some th) 0 (fun a => f_M_byteAt N h a v1) fun v2 h3 => cl (f_M_isDigit N h3 v2) fun v4 h5 => if v4 = (0 : Int32) then (pI h5 (some th) 0 23 (2 : Int32) fun h6 => f_M_stepOn_218 N   h6 th) else (gI h5 (some th) 0 24 fun v7 => gI h5 (some th) 0 21 fun v8 => cv h5 (some th) 0 (fun a => f_M_byteAt N h5 a v8) fun v9 h10 => pI h10 (some th) 0 24 (jmn (100000 : Int32) ((((10 : Int32) * v7) + v9) - (48 : Int32))) fun h11 => gI h11 (some th) 0 21 fun v12 => pI h11 (some th) 0 21 (v12 + (1 : Int32)) fun h13 => f_M_stepOn_123 N  n h13 th)
def f_M_stepOn_76 (N : Nat)  : Nat → hS → Nat → Option (Unit × hS)
  | 0 => fun _ _ => none
  | n + 1 => fun h th => gI h (some th) 0 21 fun v1 => cv h (some th) 0 (fun a => f_M_byteAt N h a v1) fun v2 h3 => cl (f_M_isLetter N h3 v2) fun v4 h5 => if v4 = (0 : Int32) then (pI h5 (some th) 0 23 (1 : Int32) fun h6 => f_M_stepOn_218 N   h6 th) else (gI h5 (some th) 0 21 fun v7 => pI h5 (some th) 0 21 (v7 + (1 : Int32)) fun h8 => f_M_stepOn_76 N  n h8 th)
def f_M_stepOn_0 (N : Nat)  : Nat → hS → Nat → Option (Unit × hS)
  | 0 => fun _ _ => none
  | n + 1 => fun h th => gI h (some th) 0 21 fun v1 => cv h (some th) 0 (fun a => f_M_byteAt N h a v1) fun v2 h3 => if v2 = (32 : Int32) then (f_M_stepOn_26 N (f_M_stepOn_0 N  n)  h3 th) else (gI h3 (some th) 0 21 fun v4 => cv h3 (some th) 0 (fun a => f_M_byteAt N h3 a v4) fun v5 h6 => if v5 = (10 : Int32) then (f_M_stepOn_26 N (f_M_stepOn_0 N  n)  h6 th) else (gI h6 (some th) 0 21 fun v7 => pI h6 (some th) 0 25 v7 fun h8 => gI h8 (some th) 0 21 fun v9 => cv h8 (some th) 0 (fun a => f_M_byteAt N h8 a v9) fun v10 h11 => if v10 = (-1 : Int32) then (pI h11 (some th) 0 23 (0 : Int32) fun h19 => f_M_stepOn_218 N   h19 th) else (cl (f_M_isLetter N h11 v10) fun v12 h13 => if v12 = (0 : Int32) then (cl (f_M_isDigit N h13 v10) fun v14 h15 => if v14 = (0 : Int32) then (gI h15 (some th) 0 21 fun v16 => pI h15 (some th) 0 21 (v16 + (1 : Int32)) fun h17 => if v10 = (59 : Int32) then (f_M_stepOn_210 N   h17 th (some th)) else (if v10 = (45 : Int32) then (f_M_stepOn_210 N   h17 th (some th)) else (f_M_stepOn_215 N   h17 th (some th) (4 : Int32)))) else (pI h15 (some th) 0 24 (0 : Int32) fun h18 => f_M_stepOn_123 N  N h18 th)) else (f_M_stepOn_76 N  N h13 th))))
def f_M_stepOn (N : Nat) (h : hS) (th : Nat) : Option (Unit × hS) := f_M_stepOn_0 N  N h th
def f_M_wrong (N : Nat) (h : hS) (th : Nat) (x1 : Int32) : Option (Unit × hS) := gI h (some th) 0 27 fun v1 => if v1 = (0 : Int32) then (pI h (some th) 0 27 x1 fun h2 => gI h2 (some th) 0 25 fun v3 => pI h2 (some th) 0 28 v3 fun h4 => some ((), h4)) else (some ((), h))
def f_M_isMarked_33 (N : Nat)  (h : hS) (y0 : Int32) : Option (Int32 × hS) := bz y0 (some (y0, h))
def f_M_isMarked_32 (N : Nat)  (h : hS)  : Option (Int32 × hS) := f_M_isMarked_33 N   h (0 : Int32)
def f_M_isMarked (N : Nat) (h : hS) (th : Nat) (x1 : Int32) : Option (Int32 × hS) := gI h (some th) 0 27 fun v1 => if v1 = (0 : Int32) then (gI h (some th) 0 23 fun v2 => if v2 = (3 : Int32) then (gR h (some th) 0 17 fun v3 => gI h (some th) 0 25 fun v4 => aI h 50 v3 v4 fun v5 => if v5 = x1 then (f_M_isMarked_33 N   h (1 : Int32)) else (f_M_isMarked_32 N   h )) else (f_M_isMarked_32 N   h )) else (f_M_isMarked_32 N   h )
def f_M_numberNow_66 (N : Nat)  (h : hS) (y0 : Int32) : Option (Int32 × hS) := some (y0, h)
def f_M_numberNow_51 (N : Nat)  (h : hS) (th : Nat) : Option (Int32 × hS) := gI h (some th) 0 27 fun v1 => if v1 = (0 : Int32) then (gI h (some th) 0 24 fun v2 => f_M_numberNow_66 N   h v2) else (f_M_numberNow_66 N   h (0 : Int32))
def f_M_numberNow_46 (N : Nat)  (h : hS) (th : Nat) : Option (Int32 × hS) := cv h (some th) 0 (fun a => f_M_wrong N h a (2 : Int32)) fun _ h2 => f_M_numberNow_51 N   h2 th
def f_M_numberNow (N : Nat) (h : hS) (th : Nat) (x1 : Int32) : Option (Int32 × hS) := gI h (some th) 0 27 fun v1 => if v1 = (0 : Int32) then (gI h (some th) 0 23 fun v2 => if v2 = (2 : Int32) then (gI h (some th) 0 26 fun v3 => gI h (some th) 0 25 fun v4 => if (3 : Int32) < (v3 - v4) then (f_M_numberNow_46 N   h th) else (gI h (some th) 0 24 fun v5 => if v5 ≤ x1 then (f_M_numberNow_51 N   h th) else (f_M_numberNow_46 N   h th))) else (cv h (some th) 0 (fun a => f_M_wrong N h a (1 : Int32)) fun _ h7 => f_M_numberNow_51 N   h7 th)) else (some ((0 : Int32), h))
def f_M_readNumber_17 (N : Nat)  (h : hS) (x2 : Int32) : Option (Int32 × hS) := some (x2, h)
def f_M_readNumber (N : Nat) (h : hS) (th : Nat) (x1 : Int32) : Option (Int32 × hS) := cv h (some th) 0 (fun a => f_M_numberNow N h a x1) fun v1 h2 => gI h2 (some th) 0 27 fun v3 => if v3 = (0 : Int32) then (cv h2 (some th) 0 (fun a => f_M_stepOn N h2 a ) fun _ h5 => f_M_readNumber_17 N   h5 v1) else (f_M_readNumber_17 N   h2 v1)
def f_M_readPlace_33 (N : Nat)  (h : hS) (y0 : Int32) : Option (Int32 × hS) := some (y0, h)
def f_M_readPlace_15 (N : Nat)  (h : hS) (th : Nat) (x1 : Int32) : Option (Int32 × hS) := cv h (some th) 0 (fun a => f_M_readNumber N h a (500 : Int32)) fun v1 h2 => if x1 = (0 : Int32) then (f_M_readPlace_33 N   h2 v1) else (f_M_readPlace_33 N   h2 (-v1))
def f_M_readPlace (N : Nat) (h : hS) (th : Nat) : Option (Int32 × hS) := cv h (some th) 0 (fun a => f_M_isMarked N h a (45 : Int32)) fun v1 h2 => if v1 = (0 : Int32) then (f_M_readPlace_15 N   h2 th v1) else (cv h2 (some th) 0 (fun a => f_M_stepOn N h2 a ) fun _ h4 => f_M_readPlace_15 N   h4 th v1)
def f_M_readCost_34 (N : Nat)  (h : hS) (x2 : Int32) : Option (Int32 × hS) := some (x2, h)
def f_M_readCost_23 (N : Nat)  (h : hS) (th : Nat) (x2 : Int32) : Option (Int32 × hS) := gI h (some th) 0 27 fun v1 => if v1 = (0 : Int32) then (cv h (some th) 0 (fun a => f_M_stepOn N h a ) fun _ h3 => f_M_readCost_34 N   h3 x2) else (f_M_readCost_34 N   h x2)
def f_M_readCost (N : Nat) (h : hS) (th : Nat) (x1 : Int32) : Option (Int32 × hS) := cv h (some th) 0 (fun a => f_M_numberNow N h a (3 : Int32)) fun v1 h2 => gI h2 (some th) 0 27 fun v3 => if v3 = (0 : Int32) then (if v1 = x1 then (cv h2 (some th) 0 (fun a => f_M_wrong N h2 a (3 : Int32)) fun _ h5 => f_M_readCost_23 N   h5 th v1) else (f_M_readCost_23 N   h2 th v1)) else (f_M_readCost_23 N   h2 th v1)
def f_M_isCost (N : Nat) (h : hS) (th : Nat) (x1 : Int32) : Option (Int32 × hS) := cl (f_M_isIn N h x1.toInt64 (0 : Int64) (3 : Int64)) fun v1 h2 => bz v1 (some (v1, h2))
def f_M_fault (N : Nat) (h : hS) (th : Nat) : Option (Int32 × hS) := pI h (some th) 0 1 (0 : Int32) fun h1 => gI h1 (some th) 0 29 fun v2 => some (v2, h1)
def f_M_fail (N : Nat) (h : hS) (th : Nat) (x1 : Int32) : Option (Int32 × hS) := pI h (some th) 0 1 x1 fun h1 => some ((0 : Int32), h1)
def f_M_count_60 (N : Nat)  (h : hS) (th : Nat) (x1 : Int32) : Option (Int32 × hS) := gR h (some th) 0 2 fun v1 => aI h 50 v1 ((161 : Int32) * x1) fun v2 => some (v2, h)
def f_M_count_86 (N : Nat)  (h : hS) (th : Nat) (x1 : Int32) : Option (Int32 × hS) := gR h (some th) 0 3 fun v1 => aI h 50 v1 (x1 - (7 : Int32)) fun v2 => some (v2, h)
def f_M_count (N : Nat) (h : hS) (th : Nat) (x1 : Int32) : Option (Int32 × hS) := pI h (some th) 0 1 (0 : Int32) fun h1 => if x1 = (0 : Int32) then (f_M_count_60 N   h1 th x1) else (if x1 = (1 : Int32) then (f_M_count_60 N   h1 th x1) else (if x1 = (2 : Int32) then (f_M_count_60 N   h1 th x1) else (if x1 = (3 : Int32) then (f_M_count_60 N   h1 th x1) else (if x1 = (4 : Int32) then (gI h1 (some th) 0 41 fun v2 => some (v2, h1)) else (if x1 = (5 : Int32) then (gI h1 (some th) 0 43 fun v3 => some (v3, h1)) else (if x1 = (6 : Int32) then (gI h1 (some th) 0 20 fun v4 => some (v4, h1)) else (if x1 = (7 : Int32) then (f_M_count_86 N   h1 th x1) else (if x1 = (8 : Int32) then (f_M_count_86 N   h1 th x1) else (if x1 = (9 : Int32) then (f_M_count_86 N   h1 th x1) else (cv h1 (some th) 0 (fun a => f_M_fail N h1 a (1 : Int32)) fun v5 h6 => some (v5, h6)))))))))))
def f_M_steps (N : Nat) (h : hS) (th : Nat) (x1 : Int32) : Option (Int32 × hS) := gR h (some th) 0 2 fun v1 => aI h 50 v1 ((161 : Int32) * x1) fun v2 => some (v2, h)
def f_M_isStep_30 (N : Nat)  (h : hS) (y0 : Int32) : Option (Int32 × hS) := bz y0 (some (y0, h))
def f_M_isStep_29 (N : Nat)  (h : hS)  : Option (Int32 × hS) := f_M_isStep_30 N   h (0 : Int32)
def f_M_isStep (N : Nat) (h : hS) (th : Nat) (x1 : Int32) (x2 : Int32) : Option (Int32 × hS) := cv h (some th) 0 (fun a => f_M_isCost N h a x1) fun v1 h2 => if v1 = (0 : Int32) then (f_M_isStep_29 N   h2 ) else (cv h2 (some th) 0 (fun a => f_M_steps N h2 a x1) fun v3 h4 => cl (f_M_isIn N h4 x2.toInt64 (0 : Int64) ((v3 - (1 : Int32)).toInt64)) fun v5 h6 => if v5 = (0 : Int32) then (f_M_isStep_29 N   h6 ) else (f_M_isStep_30 N   h6 (1 : Int32)))
def f_M_stepAt (N : Nat) (h : hS) (th : Nat) (x1 : Int32) (x2 : Int32) (x3 : Int32) : Option (Int32 × hS) := gR h (some th) 0 2 fun v1 => aI h 50 v1 (((((161 : Int32) * x1) + (1 : Int32)) + ((4 : Int32) * x2)) + x3) fun v2 => some (v2, h)
def f_M_step_41 (N : Nat)  (h : hS) (y0 : Int32) : Option (Int32 × hS) := some (y0, h)
def f_M_step_36 (N : Nat)  (h : hS) (th : Nat) : Option (Int32 × hS) := cv h (some th) 0 (fun a => f_M_fail N h a (1 : Int32)) fun v1 h2 => f_M_step_41 N   h2 v1
def f_M_step (N : Nat) (h : hS) (th : Nat) (x1 : Int32) (x2 : Int32) (x3 : Int32) : Option (Int32 × hS) := pI h (some th) 0 1 (0 : Int32) fun h1 => cv h1 (some th) 0 (fun a => f_M_isStep N h1 a x1 x2) fun v2 h3 => if v2 = (0 : Int32) then (f_M_step_36 N   h3 th) else (cl (f_M_isIn N h3 x3.toInt64 (0 : Int64) (2 : Int64)) fun v4 h5 => if v4 = (0 : Int32) then (f_M_step_36 N   h5 th) else (cv h5 (some th) 0 (fun a => f_M_stepAt N h5 a x1 x2 x3) fun v6 h7 => f_M_step_41 N   h7 v6))
def f_M_isX (N : Nat) (h : hS) (x0 : Int32) : Option (Int32 × hS) := cl (f_M_isIn N h x0.toInt64 (-100000 : Int64) (100000 : Int64)) fun v1 h2 => bz v1 (some (v1, h2))
def f_M_somewhere_21 (N : Nat)  (h : hS) (y0 : Int32) : Option (Int32 × hS) := some (y0, h)
def f_M_somewhere (N : Nat) (h : hS) (x0 : Int32) : Option (Int32 × hS) := cl (f_M_isIn N h x0.toInt64 (-99999999 : Int64) (99999999 : Int64)) fun v1 h2 => if v1 = (0 : Int32) then (f_M_somewhere_21 N   h2 (-10000000 : Int32)) else (f_M_somewhere_21 N   h2 x0)
def f_M_last (N : Nat) (h : hS) (a0 : Nat) : Option (Int32 × hS) := aI h 50 (some a0) (0 : Int32) fun v1 => cl (f_M_weights N h a0) fun v2 h3 => some ((v1 + v2), h3)
def f_M_isBound_20 (N : Nat)  (h : hS) (y0 : Int32) : Option (Int32 × hS) := bz y0 (some (y0, h))
def f_M_isBound_19 (N : Nat)  (h : hS)  : Option (Int32 × hS) := f_M_isBound_20 N   h (0 : Int32)
def f_M_isBound (N : Nat) (h : hS) (a0 : Nat) (x1 : Int32) : Option (Int32 × hS) := aI h 50 (some a0) (0 : Int32) fun v1 => if x1 < v1 then (f_M_isBound_19 N   h ) else (cl (f_M_last N h a0) fun v2 h3 => if v2 < x1 then (f_M_isBound_19 N   h3 ) else (f_M_isBound_20 N   h3 (1 : Int32)))
def f_M_standsAt (N : Nat) (h : hS) (a0 : Nat) (x1 : Int32) : Option (Int32 × hS) := cl (f_M_turnsTo N h a0 x1) fun v1 h2 => cl (f_M_turnsTo N h2 a0 (x1 + (1 : Int32))) fun v3 h4 => cl (f_M_nearest N h4 v1 v3 (0 : Int32)) fun v5 h6 => some (v5, h6)
def f_M_againstOf (N : Nat) (h : hS) (a0 : Nat) (x1 : Int32) : Option (Int64 × hS) := cl (f_M_standsAt N h a0 x1) fun v1 h2 => cl (f_M_valueAt N h2 a0 v1) fun v3 h4 => some (((x1.toInt64 * v1.toInt64) - v3), h4)
def f_M_addStands_140 (N : Nat)  : Nat → hS → Nat → Int32 → Int32 → Option (Unit × hS)
  | 0 => fun _ _ _ _ => none
  | n + 1 => fun h th x2 x5 => if x2 < x5 then (some ((), h)) else (gR h (some th) 0 31 fun v1 => aJ h v1 ((5000 : Int32) + x5) fun v2 => gR h (some th) 0 34 fun v3 => aJ h v3 ((5000 : Int32) + x5) fun v4 => uJ h v1 ((5000 : Int32) + x5) (v2 + v4) fun h5 => bn (x5 + (1 : Int32)) fun v6 => f_M_addStands_140 N  n h5 th x2 v6)
def f_M_addStands_80 (N : Nat) (rc59 : hS → Nat → Nat → Int32 → Int64 → Int32 → Option (Unit × hS)) : Nat → hS → Nat → Nat → Int32 → Int64 → Int32 → Int32 → Int32 → Option (Unit × hS)
  | 0 => fun _ _ _ _ _ _ _ _ => none
  | n + 1 => fun h th a1 x2 x3 x5 x6 x7 => if (x2 + x6) < x7 then (bn ((x2 + x6)) fun v1 => bn ((x3 + v1.toInt64)) fun v2 => bn (x5 + (1 : Int32)) fun v3 => rc59 h th a1 v1 v2 v3) else (gR h (some th) 0 34 fun v4 => uJ h v4 ((5000 : Int32) + x7) ((x7.toInt64 * ((x5 - (5000 : Int32)).toInt64)) - x3) fun h5 => bn (x7 + (1 : Int32)) fun v6 => f_M_addStands_80 N rc59 n h5 th a1 x2 x3 x5 x6 v6)
def f_M_addStands_59 (N : Nat)  : Nat → hS → Nat → Nat → Int32 → Int64 → Int32 → Option (Unit × hS)
  | 0 => fun _ _ _ _ _ _ => none
  | n + 1 => fun h th a1 x2 x3 x5 => if (10001 : Int32) ≤ x5 then (aI h 50 (some a1) (0 : Int32) fun v1 => f_M_addStands_140 N  N h th x2 v1) else (aI h 50 (some a1) ((2 : Int32) + x5) fun v2 => bn ((x2 + (1 : Int32))) fun v3 => f_M_addStands_80 N (f_M_addStands_59 N  n) N h th a1 x2 x3 x5 v2 v3)
def f_M_addStands (N : Nat) (h : hS) (th : Nat) (a1 : Nat) : Option (Unit × hS) := gI h (some th) 0 32 fun v1 => aI h 50 (some a1) (0 : Int32) fun v2 => pI h (some th) 0 32 (jmx v1 v2) fun h3 => gI h3 (some th) 0 33 fun v4 => cl (f_M_last N h3 a1) fun v5 h6 => pI h6 (some th) 0 33 (jmn v4 v5) fun h7 => aI h7 50 (some a1) (0 : Int32) fun v8 => aI h7 50 (some a1) (1 : Int32) fun v9 => bn (v9.toInt64) fun v10 => gR h7 (some th) 0 34 fun v11 => uJ h7 v11 ((5000 : Int32) + v8) ((v8.toInt64 * (-5000 : Int64)) - v10) fun h12 => f_M_addStands_59 N  N h12 th a1 v8 v10 (0 : Int32)
def f_M_clearStands_16 (N : Nat)  : Nat → hS → Nat → Int32 → Option (Unit × hS)
  | 0 => fun _ _ _ => none
  | n + 1 => fun h th x1 => gR h (some th) 0 31 fun v1 => lnA h 51 v1 fun v2 => if v2 ≤ x1 then (some ((), h)) else (gR h (some th) 0 31 fun v3 => uJ h v3 x1 (0 : Int64) fun h4 => bn (x1 + (1 : Int32)) fun v5 => f_M_clearStands_16 N  n h4 th v5)
def f_M_clearStands (N : Nat) (h : hS) (th : Nat) : Option (Unit × hS) := pI h (some th) 0 32 (-5000 : Int32) fun h1 => pI h1 (some th) 0 33 (5000 : Int32) fun h2 => f_M_clearStands_16 N  N h2 th (0 : Int32)
def f_M_together_87 (N : Nat) (rc39 : hS → Nat → Int32 → Int64 → Int32 → Option (Int64 × hS)) (h : hS) (th : Nat) (x1 : Int32) (x2 : Int64) (x4 : Int32) : Option (Int64 × hS) := bn (x4 + (1 : Int32)) fun v1 => rc39 h th x1 x2 v1
def f_M_together_39 (N : Nat)  : Nat → hS → Nat → Int32 → Int64 → Int32 → Option (Int64 × hS)
  | 0 => fun _ _ _ _ _ => none
  | n + 1 => fun h th x1 x2 x4 => gI h (some th) 0 33 fun v1 => if v1 < x4 then (some (x2, h)) else (gR h (some th) 0 31 fun v2 => aJ h v2 ((5000 : Int32) + x4) fun v3 => bn (((x4.toInt64 * x1.toInt64) - v3)) fun v4 => if (0 : Int32) < (lg_cmp v4 x2) then (pI h (some th) 0 35 x4 fun h5 => f_M_together_87 N (f_M_together_39 N  n)  h5 th x1 v4 x4) else (f_M_together_87 N (f_M_together_39 N  n)  h th x1 x2 x4))
def f_M_together (N : Nat) (h : hS) (th : Nat) (x1 : Int32) : Option (Int64 × hS) := gI h (some th) 0 32 fun v1 => pI h (some th) 0 35 v1 fun h2 => gI h2 (some th) 0 32 fun v3 => gR h2 (some th) 0 31 fun v4 => gI h2 (some th) 0 32 fun v5 => aJ h2 v4 ((5000 : Int32) + v5) fun v6 => bn (((v3.toInt64 * x1.toInt64) - v6)) fun v7 => gI h2 (some th) 0 32 fun v8 => bn ((v8 + (1 : Int32))) fun v9 => f_M_together_39 N  N h2 th x1 v7 v9
def f_M_refusal_32 (N : Nat)  (h : hS) (y0 : Int32) : Option (Int32 × hS) := some (y0, h)
def f_M_refusal_16 (N : Nat)  (h : hS)  : Option (Int32 × hS) := f_M_refusal_32 N   h (1 : Int32)
def f_M_refusal (N : Nat) (h : hS) (th : Nat) (x1 : Int32) (x2 : Int32) (x3 : Int32) : Option (Int32 × hS) := cv h (some th) 0 (fun a => f_M_isCost N h a x1) fun v1 h2 => if v1 = (0 : Int32) then (f_M_refusal_16 N   h2 ) else (cv h2 (some th) 0 (fun a => f_M_isCost N h2 a x2) fun v3 h4 => if v3 = (0 : Int32) then (f_M_refusal_16 N   h4 ) else (cl (f_M_isX N h4 x3) fun v5 h6 => if v5 = (0 : Int32) then (f_M_refusal_32 N   h6 (2 : Int32)) else (f_M_refusal_32 N   h6 (0 : Int32))))
def f_M_refuse (N : Nat) (h : hS) (th : Nat) (x1 : Int32) : Option (Int32 × hS) := gR h (some th) 0 3 fun v1 => aI h 50 v1 x1 fun v2 => uI h v1 x1 (v2 + (1 : Int32)) fun h3 => some ((-1 : Int32), h3)
def f_M_keep_56 (N : Nat)  : Nat → hS → Nat → Int32 → Option (Unit × hS)
  | 0 => fun _ _ _ => none
  | n + 1 => fun h th x1 => if (644 : Int32) ≤ x1 then (gI h (some th) 0 41 fun v1 => pI h (some th) 0 41 (v1 + (1 : Int32)) fun h2 => some ((), h2)) else (gR h (some th) 0 42 fun v3 => gI h (some th) 0 41 fun v4 => gR h (some th) 0 2 fun v5 => aI h 50 v5 x1 fun v6 => uI h v3 (((644 : Int32) * v4) + x1) v6 fun h7 => bn (x1 + (1 : Int32)) fun v8 => f_M_keep_56 N  n h7 th v8)
def f_M_keep_54 (N : Nat)  (h : hS) (th : Nat) : Option (Unit × hS) := f_M_keep_56 N  N h th (0 : Int32)
def f_M_keep_13 (N : Nat)  : Nat → hS → Nat → Int32 → Option (Unit × hS)
  | 0 => fun _ _ _ => none
  | n + 1 => fun h th x1 => gR h (some th) 0 42 fun v1 => lnA h 50 v1 fun v2 => if v2 ≤ x1 then (gI h (some th) 0 41 fun v3 => pI h (some th) 0 41 (v3 - (1 : Int32)) fun h4 => f_M_keep_54 N   h4 th) else (gR h (some th) 0 42 fun v5 => gR h (some th) 0 42 fun v6 => aI h 50 v6 x1 fun v7 => uI h v5 (x1 - (644 : Int32)) v7 fun h8 => bn (x1 + (1 : Int32)) fun v9 => f_M_keep_13 N  n h8 th v9)
def f_M_keep (N : Nat) (h : hS) (th : Nat) : Option (Unit × hS) := gI h (some th) 0 41 fun v1 => if v1 = (40 : Int32) then (f_M_keep_13 N  N h th (644 : Int32)) else (f_M_keep_54 N   h th)
def f_M_isStepTold_83 (N : Nat)  (h : hS) (y0 : Int32) : Option (Int32 × hS) := bz y0 (some (y0, h))
def f_M_isStepTold_82 (N : Nat)  (h : hS)  : Option (Int32 × hS) := f_M_isStepTold_83 N   h (0 : Int32)
def f_M_isStepTold_52 (N : Nat)  (h : hS) (x2 : Int32) (x3 : Int32) : Option (Int32 × hS) := cl (f_M_isIn N h x2.toInt64 (-500 : Int64) (500 : Int64)) fun v1 h2 => if v1 = (0 : Int32) then (f_M_isStepTold_82 N   h2 ) else (cl (f_M_isIn N h2 x3.toInt64 (0 : Int64) (99 : Int64)) fun v3 h4 => if v3 = (0 : Int32) then (f_M_isStepTold_82 N   h4 ) else (f_M_isStepTold_83 N   h4 (1 : Int32)))
def f_M_isStepTold_125 (N : Nat)  (h : hS) (y0 : Int32) : Option (Int32 × hS) := bz y0 (some (y0, h))
def f_M_isStepTold_124 (N : Nat)  (h : hS)  : Option (Int32 × hS) := f_M_isStepTold_125 N   h (0 : Int32)
def f_M_isStepTold_175 (N : Nat)  (h : hS) (y0 : Int32) : Option (Int32 × hS) := bz y0 (some (y0, h))
def f_M_isStepTold_170 (N : Nat)  (h : hS)  : Option (Int32 × hS) := f_M_isStepTold_175 N   h (1 : Int32)
def f_M_isStepTold_159 (N : Nat)  (h : hS) (x1 : Int32) : Option (Int32 × hS) := if x1 = (5 : Int32) then (f_M_isStepTold_170 N   h ) else (if x1 = (6 : Int32) then (f_M_isStepTold_170 N   h ) else (f_M_isStepTold_175 N   h (0 : Int32)))
def f_M_isStepTold_158 (N : Nat)  (h : hS) (y0 : Int32) : Option (Int32 × hS) := bz y0 (some (y0, h))
def f_M_isStepTold_157 (N : Nat)  (h : hS)  : Option (Int32 × hS) := f_M_isStepTold_158 N   h (0 : Int32)
def f_M_isStepTold (N : Nat) (h : hS) (x0 : Int32) (x1 : Int32) (x2 : Int32) (x3 : Int32) : Option (Int32 × hS) := if x1 = (0 : Int32) then (f_M_isStepTold_52 N   h x2 x3) else (if x1 = (1 : Int32) then (f_M_isStepTold_52 N   h x2 x3) else (if x1 = (2 : Int32) then (f_M_isStepTold_52 N   h x2 x3) else (if x1 = (3 : Int32) then (cl (f_M_isIn N h x2.toInt64 (-500 : Int64) (500 : Int64)) fun v1 h2 => bz v1 (some (v1, h2))) else (if x1 = (4 : Int32) then (cl (f_M_isIn N h x2.toInt64 (0 : Int64) (99 : Int64)) fun v3 h4 => if v3 = (0 : Int32) then (f_M_isStepTold_124 N   h4 ) else (cl (f_M_isIn N h4 x3.toInt64 (0 : Int64) (99 : Int64)) fun v5 h6 => if v5 = (0 : Int32) then (f_M_isStepTold_124 N   h6 ) else (f_M_isStepTold_125 N   h6 (1 : Int32)))) else (if x1 = (5 : Int32) then (f_M_isStepTold_159 N   h x1) else (if x1 = (6 : Int32) then (f_M_isStepTold_159 N   h x1) else (if x1 = (7 : Int32) then (cl (f_M_isIn N h x2.toInt64 (0 : Int64) (999 : Int64)) fun v7 h8 => bz v7 (some (v7, h8))) else (if x1 = (8 : Int32) then (cl (f_M_isIn N h x2.toInt64 (0 : Int64) (3 : Int64)) fun v9 h10 => if v9 = (0 : Int32) then (f_M_isStepTold_157 N   h10 ) else (if x2 = x0 then (f_M_isStepTold_157 N   h10 ) else (f_M_isStepTold_158 N   h10 (1 : Int32)))) else (f_M_isStepTold_159 N   h x1)))))))))
def f_M_undo_26 (N : Nat)  : Nat → hS → Nat → Int32 → Option (Int32 × hS)
  | 0 => fun _ _ _ => none
  | n + 1 => fun h th x1 => if (644 : Int32) ≤ x1 then (gI h (some th) 0 41 fun v1 => some (v1, h)) else (gR h (some th) 0 2 fun v2 => gR h (some th) 0 42 fun v3 => gI h (some th) 0 41 fun v4 => aI h 50 v3 (((644 : Int32) * v4) + x1) fun v5 => uI h v2 x1 v5 fun h6 => gR h6 (some th) 0 42 fun v7 => gI h6 (some th) 0 41 fun v8 => uI h6 v7 (((644 : Int32) * v8) + x1) (0 : Int32) fun h9 => bn (x1 + (1 : Int32)) fun v10 => f_M_undo_26 N  n h9 th v10)
def f_M_undo (N : Nat) (h : hS) (th : Nat) : Option (Int32 × hS) := pI h (some th) 0 1 (0 : Int32) fun h1 => gI h1 (some th) 0 41 fun v2 => if v2 = (0 : Int32) then (some ((-1 : Int32), h1)) else (gI h1 (some th) 0 41 fun v3 => pI h1 (some th) 0 41 (v3 - (1 : Int32)) fun h4 => f_M_undo_26 N  N h4 th (0 : Int32))
def f_M_note_21 (N : Nat)  (h : hS) (th : Nat) : Option (Int32 × hS) := cv h (some th) 0 (fun a => f_M_refuse N h a (2 : Int32)) fun v1 h2 => some (v1, h2)
def f_M_note (N : Nat) (h : hS) (th : Nat) (x1 : Int32) (x2 : Int64) : Option (Int32 × hS) := pI h (some th) 0 1 (0 : Int32) fun h1 => gI h1 (some th) 0 43 fun v2 => if v2 = (8 : Int32) then (f_M_note_21 N   h1 th) else (cl (f_M_isX N h1 x1) fun v3 h4 => if v3 = (0 : Int32) then (f_M_note_21 N   h4 th) else (gR h4 (some th) 0 44 fun v5 => gI h4 (some th) 0 43 fun v6 => uI h4 v5 v6 x1 fun h7 => gR h7 (some th) 0 45 fun v8 => gI h7 (some th) 0 43 fun v9 => uJ h7 v8 v9 x2 fun h10 => gI h10 (some th) 0 43 fun v11 => pI h10 (some th) 0 43 (v11 + (1 : Int32)) fun h12 => gI h12 (some th) 0 43 fun v13 => some (v13, h12)))
def f_M_forget (N : Nat) (h : hS) (th : Nat) : Option (Unit × hS) := pI h (some th) 0 1 (0 : Int32) fun h1 => pI h1 (some th) 0 43 (0 : Int32) fun h2 => some ((), h2)
def f_M_draw (N : Nat) (h : hS) (th : Nat) (x1 : Int32) : Option (Int32 × hS) := gI h (some th) 0 48 fun v1 => pI h (some th) 0 48 ((v1 * (1103515245 : Int32)) + (12345 : Int32)) fun h2 => gI h2 (some th) 0 48 fun v3 => dv x1 (some ((((v3 >>> ((16 : Int32) &&& 31)) &&& (32767 : Int32)) - ((v3 >>> ((16 : Int32) &&& 31)) &&& (32767 : Int32)) / x1 * x1), h2))
def f_M_image_61 (N : Nat)  : Nat → hS → Nat → Int32 → Option (Unit × hS)
  | 0 => fun _ _ _ => none
  | n + 1 => fun h th x1 => if (8 : Int32) ≤ x1 then (gR h (some th) 0 55 fun v1 => gR h (some th) 0 3 fun v2 => nn v1 fun q3 => nn v2 fun q4 => cl (f_M_copyTo N h q3 q4) fun _ h6 => some ((), h6)) else (gR h (some th) 0 56 fun v7 => gR h (some th) 0 45 fun v8 => aJ h v8 x1 fun v9 => uJ h v7 x1 v9 fun h10 => bn (x1 + (1 : Int32)) fun v11 => f_M_image_61 N  n h10 th v11)
def f_M_image (N : Nat) (h : hS) (th : Nat) : Option (Unit × hS) := pI h (some th) 0 1 (0 : Int32) fun h1 => pZ h1 (some th) 0 49 (1 : Int32) fun h2 => gI h2 (some th) 0 41 fun v3 => pI h2 (some th) 0 50 v3 fun h4 => gI h4 (some th) 0 43 fun v5 => pI h4 (some th) 0 51 v5 fun h6 => gR h6 (some th) 0 52 fun v7 => gR h6 (some th) 0 2 fun v8 => nn v7 fun q9 => nn v8 fun q10 => cl (f_M_copyTo N h6 q9 q10) fun _ h12 => gR h12 (some th) 0 53 fun v13 => gR h12 (some th) 0 42 fun v14 => nn v13 fun q15 => nn v14 fun q16 => cl (f_M_copyTo N h12 q15 q16) fun _ h18 => gR h18 (some th) 0 54 fun v19 => gR h18 (some th) 0 44 fun v20 => nn v19 fun q21 => nn v20 fun q22 => cl (f_M_copyTo N h18 q21 q22) fun _ h24 => f_M_image_61 N  N h24 th (0 : Int32)
def f_M_restore_65 (N : Nat)  : Nat → hS → Nat → Int32 → Option (Int32 × hS)
  | 0 => fun _ _ _ => none
  | n + 1 => fun h th x1 => if (8 : Int32) ≤ x1 then (gR h (some th) 0 3 fun v1 => gR h (some th) 0 55 fun v2 => nn v1 fun q3 => nn v2 fun q4 => cl (f_M_copyTo N h q3 q4) fun _ h6 => bz (1 : Int32) (some ((1 : Int32), h6))) else (gR h (some th) 0 45 fun v7 => gR h (some th) 0 56 fun v8 => aJ h v8 x1 fun v9 => uJ h v7 x1 v9 fun h10 => bn (x1 + (1 : Int32)) fun v11 => f_M_restore_65 N  n h10 th v11)
def f_M_restore (N : Nat) (h : hS) (th : Nat) : Option (Int32 × hS) := pI h (some th) 0 1 (0 : Int32) fun h1 => gI h1 (some th) 0 49 fun v2 => if v2 = (0 : Int32) then (bz (0 : Int32) (some ((0 : Int32), h1))) else (gI h1 (some th) 0 50 fun v3 => pI h1 (some th) 0 41 v3 fun h4 => gI h4 (some th) 0 51 fun v5 => pI h4 (some th) 0 43 v5 fun h6 => gR h6 (some th) 0 2 fun v7 => gR h6 (some th) 0 52 fun v8 => nn v7 fun q9 => nn v8 fun q10 => cl (f_M_copyTo N h6 q9 q10) fun _ h12 => gR h12 (some th) 0 42 fun v13 => gR h12 (some th) 0 53 fun v14 => nn v13 fun q15 => nn v14 fun q16 => cl (f_M_copyTo N h12 q15 q16) fun _ h18 => gR h18 (some th) 0 44 fun v19 => gR h18 (some th) 0 54 fun v20 => nn v19 fun q21 => nn v20 fun q22 => cl (f_M_copyTo N h18 q21 q22) fun _ h24 => f_M_restore_65 N  N h24 th (0 : Int32))
def f_M_names_59 (N : Nat) (rc2 : hS → Nat → Nat → Int32 → Option (Unit × hS)) (rc14 : hS → Nat → Nat → Int32 → Int32 → Option (Unit × hS)) (h : hS) (th : Nat) (a1 : Nat) (x2 : Int32) (x3 : Int32) : Option (Unit × hS) := bn (x3 + (1 : Int32)) fun v1 => rc14 h th a1 x2 v1
def f_M_names_14 (N : Nat) (rc2 : hS → Nat → Nat → Int32 → Option (Unit × hS)) : Nat → hS → Nat → Nat → Int32 → Int32 → Option (Unit × hS)
  | 0 => fun _ _ _ _ _ => none
  | n + 1 => fun h th a1 x2 x3 => aI h 50 (some a1) ((161 : Int32) * x2) fun v1 => if v1 ≤ x3 then (bn (x2 + (1 : Int32)) fun v2 => rc2 h th a1 v2) else (bn (((((161 : Int32) * x2) + (1 : Int32)) + ((4 : Int32) * x3))) fun v3 => aI h 50 (some a1) v3 fun v4 => if v4 = (8 : Int32) then (gR h (some th) 0 8 fun v5 => aI h 50 (some a1) (v3 + (3 : Int32)) fun v6 => uZ h v5 v6 (1 : Int32) fun h7 => f_M_names_59 N rc2 (f_M_names_14 N rc2 n)  h7 th a1 x2 x3) else (f_M_names_59 N rc2 (f_M_names_14 N rc2 n)  h th a1 x2 x3))
def f_M_names_2 (N : Nat)  : Nat → hS → Nat → Nat → Int32 → Option (Unit × hS)
  | 0 => fun _ _ _ _ => none
  | n + 1 => fun h th a1 x2 => lnA h 50 (some a1) fun v1 => dv (161 : Int32) (if (v1 / (161 : Int32)) ≤ x2 then (some ((), h)) else (f_M_names_14 N (f_M_names_2 N  n) N h th a1 x2 (0 : Int32)))
def f_M_names (N : Nat) (h : hS) (th : Nat) (a1 : Nat) : Option (Unit × hS) := f_M_names_2 N  N h th a1 (0 : Int32)
def f_M_tellByte_16 (N : Nat)  (h : hS) (th : Nat) : Option (Unit × hS) := gI h (some th) 0 39 fun v1 => pI h (some th) 0 39 (v1 + (1 : Int32)) fun h2 => some ((), h2)
def f_M_tellByte (N : Nat) (h : hS) (th : Nat) (x1 : Int32) : Option (Unit × hS) := gI h (some th) 0 39 fun v1 => gI h (some th) 0 38 fun v2 => if v1 = v2 then (pI h (some th) 0 40 x1 fun h3 => f_M_tellByte_16 N   h3 th) else (f_M_tellByte_16 N   h th)
def f_M_thrown (N : Nat) (h : hS) (th : Nat) : Option (Int32 × hS) := gI h (some th) 0 1 fun v1 => some (v1, h)
def f_M_unlike_99 (N : Nat) (rc4 : hS → Nat → Int32 → Int32 → Int32 → Option (Int32 × hS)) (h : hS) (th : Nat) (x1 : Int32) (x3 : Int32) (y0 : Int32) (y1 : Int32) : Option (Int32 × hS) := bn ((y0 + y1)) fun v1 => bn (x3 + (1 : Int32)) fun v2 => rc4 h th x1 v1 v2
def f_M_unlike_88 (N : Nat) (rc4 : hS → Nat → Int32 → Int32 → Int32 → Option (Int32 × hS)) (h : hS) (th : Nat) (x1 : Int32) (x2 : Int32) (x3 : Int32) (x4 : Int32) : Option (Int32 × hS) := if x4 = (0 : Int32) then (f_M_unlike_99 N rc4  h th x1 x3 x2 (0 : Int32)) else (f_M_unlike_99 N rc4  h th x1 x3 x2 (1 : Int32))
def f_M_unlike_80 (N : Nat) (rc4 : hS → Nat → Int32 → Int32 → Int32 → Option (Int32 × hS)) (rc21 : hS → Nat → Int32 → Int32 → Int32 → Int32 → Int32 → Option (Int32 × hS)) (h : hS) (th : Nat) (x1 : Int32) (x2 : Int32) (x3 : Int32) (x5 : Int32) (y0 : Int32) : Option (Int32 × hS) := bn (x5 + (1 : Int32)) fun v1 => rc21 h th x1 x2 x3 y0 v1
def f_M_unlike_75 (N : Nat) (rc4 : hS → Nat → Int32 → Int32 → Int32 → Option (Int32 × hS)) (rc21 : hS → Nat → Int32 → Int32 → Int32 → Int32 → Int32 → Option (Int32 × hS)) (h : hS) (th : Nat) (x1 : Int32) (x2 : Int32) (x3 : Int32) (x5 : Int32) : Option (Int32 × hS) := f_M_unlike_80 N rc4 rc21  h th x1 x2 x3 x5 (1 : Int32)
def f_M_unlike_21 (N : Nat) (rc4 : hS → Nat → Int32 → Int32 → Int32 → Option (Int32 × hS)) : Nat → hS → Nat → Int32 → Int32 → Int32 → Int32 → Int32 → Option (Int32 × hS)
  | 0 => fun _ _ _ _ _ _ _ => none
  | n + 1 => fun h th x1 x2 x3 x4 x5 => if x3 ≤ x5 then (f_M_unlike_88 N rc4  h th x1 x2 x3 x4) else (if x4 = (0 : Int32) then (f_M_unlike_88 N rc4  h th x1 x2 x3 x4) else (gR h (some th) 0 46 fun v1 => aI h 53 v1 x5 fun v2 => if v2 = (0 : Int32) then (f_M_unlike_75 N rc4 (f_M_unlike_21 N rc4 n)  h th x1 x2 x3 x5) else (gR h (some th) 0 47 fun v3 => aJ h v3 ((((41 : Int32) * x5) + x1) + (20 : Int32)) fun v4 => gR h (some th) 0 47 fun v5 => aJ h v5 ((((41 : Int32) * x3) + x1) + (20 : Int32)) fun v6 => if (lg_cmp v4 v6) = (0 : Int32) then (f_M_unlike_80 N rc4 (f_M_unlike_21 N rc4 n)  h th x1 x2 x3 x5 (0 : Int32)) else (f_M_unlike_75 N rc4 (f_M_unlike_21 N rc4 n)  h th x1 x2 x3 x5))))
def f_M_unlike_4 (N : Nat)  : Nat → hS → Nat → Int32 → Int32 → Int32 → Option (Int32 × hS)
  | 0 => fun _ _ _ _ _ => none
  | n + 1 => fun h th x1 x2 x3 => if (40 : Int32) < x3 then (some (x2, h)) else (gR h (some th) 0 46 fun v1 => aI h 53 v1 x3 fun v2 => f_M_unlike_21 N (f_M_unlike_4 N  n) N h th x1 x2 x3 v2 (0 : Int32))
def f_M_unlike (N : Nat) (h : hS) (th : Nat) (x1 : Int32) : Option (Int32 × hS) := f_M_unlike_4 N  N h th x1 (0 : Int32) (0 : Int32)
theorem sh_M_isIn_18 (N : Nat)  : ∀  (h : hS) (y0 : Int32), Sh h (f_M_isIn_18 N   h y0) := by
  intro h y0
  unfold f_M_isIn_18
  exact Sh_bz Sh_some
theorem sh_M_isIn_17 (N : Nat)  : ∀  (h : hS) , Sh h (f_M_isIn_17 N   h ) := by
  intro h 
  unfold f_M_isIn_17
  exact sh_M_isIn_18 N   h (0 : Int32)
theorem sh_M_isIn (N : Nat) (h : hS) (x0 : Int64) (x2 : Int64) (x4 : Int64) : Sh h (f_M_isIn N h x0 x2 x4) := by
  unfold f_M_isIn
  refine Sh_ite ?_ ?_
  · exact sh_M_isIn_17 N   h 
  · refine Sh_ite ?_ ?_
    · exact sh_M_isIn_17 N   h 
    · exact sh_M_isIn_18 N   h (1 : Int32)
theorem sh_M_copyTo_2 (N : Nat)  : ∀ (n : Nat) (h : hS) (a0 : Nat) (a1 : Nat) (x2 : Int32), Sh h (f_M_copyTo_2 N  n h a0 a1 x2) := by
  intro n
  induction n with
  | zero =>
    intro h a0 a1 x2
    exact Sh_none
  | succ n ih =>
    intro h a0 a1 x2
    unfold f_M_copyTo_2
    refine Sh_lnA (fun v1 => ?_)
    refine Sh_ite ?_ ?_
    · exact Sh_some
    · refine Sh_aI (fun v2 => ?_)
      refine Sh_uI (fun h3 => ?_)
      refine Sh_bn (fun v4 => ?_)
      exact ih h3 a0 a1 v4
theorem sh_M_copyTo (N : Nat) (h : hS) (a0 : Nat) (a1 : Nat) : Sh h (f_M_copyTo N h a0 a1) := by
  unfold f_M_copyTo
  exact sh_M_copyTo_2 N  N h a0 a1 (0 : Int32)
theorem sh_M_clear_2 (N : Nat)  : ∀ (n : Nat) (h : hS) (a0 : Nat) (x1 : Int32), Sh h (f_M_clear_2 N  n h a0 x1) := by
  intro n
  induction n with
  | zero =>
    intro h a0 x1
    exact Sh_none
  | succ n ih =>
    intro h a0 x1
    unfold f_M_clear_2
    refine Sh_lnA (fun v1 => ?_)
    refine Sh_ite ?_ ?_
    · exact Sh_some
    · refine Sh_uI (fun h2 => ?_)
      refine Sh_bn (fun v3 => ?_)
      exact ih h2 a0 v3
theorem sh_M_clear (N : Nat) (h : hS) (a0 : Nat) : Sh h (f_M_clear N h a0) := by
  unfold f_M_clear
  exact sh_M_clear_2 N  N h a0 (0 : Int32)
theorem sh_M_valueAt_107 (N : Nat)  : ∀  (h : hS) (y0 : Int64), Sh h (f_M_valueAt_107 N   h y0) := by
  intro h y0
  unfold f_M_valueAt_107
  exact Sh_some
theorem sh_M_valueAt_46 (N : Nat)  : ∀ (n : Nat) (h : hS) (a0 : Nat) (x1 : Int32) (x2 : Int64) (x4 : Int64) (x6 : Int32) (x7 : Int32), Sh h (f_M_valueAt_46 N  n h a0 x1 x2 x4 x6 x7) := by
  intro n
  induction n with
  | zero =>
    intro h a0 x1 x2 x4 x6 x7
    exact Sh_none
  | succ n ih =>
    intro h a0 x1 x2 x4 x6 x7
    unfold f_M_valueAt_46
    refine Sh_ite ?_ ?_
    · refine Sh_ite ?_ ?_
      · refine Sh_aI (fun v1 => ?_)
        exact sh_M_valueAt_107 N   h (x2 + ((x4 + v1.toInt64) * ((x1 - (5000 : Int32)).toInt64)))
      · exact sh_M_valueAt_107 N   h x2
    · refine Sh_aI (fun v2 => ?_)
      refine Sh_bn (fun v3 => ?_)
      refine Sh_bn (fun v4 => ?_)
      refine Sh_bn (fun v5 => ?_)
      exact ih h a0 x1 v4 v3 x6 v5
theorem sh_M_valueAt (N : Nat) (h : hS) (a0 : Nat) (x1 : Int32) : Sh h (f_M_valueAt N h a0 x1) := by
  unfold f_M_valueAt
  refine Sh_aI (fun v1 => ?_)
  refine Sh_bn (fun v2 => ?_)
  refine Sh_ite ?_ ?_
  · refine Sh_aI (fun v3 => ?_)
    refine Sh_bn (fun v4 => ?_)
    refine Sh_bn (fun v5 => ?_)
    exact sh_M_valueAt_46 N  N h a0 x1 v2 v4 v5 (-5000 : Int32)
  · refine Sh_aI (fun v6 => ?_)
    exact Sh_some
theorem sh_M_weights_4 (N : Nat)  : ∀ (n : Nat) (h : hS) (a0 : Nat) (x1 : Int32) (x2 : Int32), Sh h (f_M_weights_4 N  n h a0 x1 x2) := by
  intro n
  induction n with
  | zero =>
    intro h a0 x1 x2
    exact Sh_none
  | succ n ih =>
    intro h a0 x1 x2
    unfold f_M_weights_4
    refine Sh_ite ?_ ?_
    · exact Sh_some
    · refine Sh_aI (fun v1 => ?_)
      refine Sh_bn (fun v2 => ?_)
      refine Sh_bn (fun v3 => ?_)
      exact ih h a0 v2 v3
theorem sh_M_weights (N : Nat) (h : hS) (a0 : Nat) : Sh h (f_M_weights N h a0) := by
  unfold f_M_weights
  exact sh_M_weights_4 N  N h a0 (0 : Int32) (0 : Int32)
theorem sh_M_kinks_25 (N : Nat) {rc4 : hS → Nat → Int32 → Int32 → Option (Int32 × hS)} (hsh4 : ∀ (h : hS) (a0 : Nat) (x1 : Int32) (x2 : Int32), Sh h (rc4 h a0 x1 x2)) : ∀  (h : hS) (a0 : Nat) (x2 : Int32) (y0 : Int32) (y1 : Int32), Sh h (f_M_kinks_25 N rc4  h a0 x2 y0 y1) := by
  intro h a0 x2 y0 y1
  unfold f_M_kinks_25
  refine Sh_bn (fun v1 => ?_)
  refine Sh_bn (fun v2 => ?_)
  exact hsh4 h a0 v1 v2
theorem sh_M_kinks_4 (N : Nat)  : ∀ (n : Nat) (h : hS) (a0 : Nat) (x1 : Int32) (x2 : Int32), Sh h (f_M_kinks_4 N  n h a0 x1 x2) := by
  intro n
  induction n with
  | zero =>
    intro h a0 x1 x2
    exact Sh_none
  | succ n ih =>
    intro h a0 x1 x2
    unfold f_M_kinks_4
    refine Sh_ite ?_ ?_
    · exact Sh_some
    · refine Sh_aI (fun v1 => ?_)
      refine Sh_ite ?_ ?_
      · exact sh_M_kinks_25 N ih  h a0 x2 x1 (0 : Int32)
      · exact sh_M_kinks_25 N ih  h a0 x2 x1 (1 : Int32)
theorem sh_M_kinks (N : Nat) (h : hS) (a0 : Nat) : Sh h (f_M_kinks N h a0) := by
  unfold f_M_kinks
  exact sh_M_kinks_4 N  N h a0 (0 : Int32) (0 : Int32)
theorem sh_M_turnsTo_14 (N : Nat)  : ∀ (n : Nat) (h : hS) (a0 : Nat) (x1 : Int32) (x2 : Int32) (x3 : Int32), Sh h (f_M_turnsTo_14 N  n h a0 x1 x2 x3) := by
  intro n
  induction n with
  | zero =>
    intro h a0 x1 x2 x3
    exact Sh_none
  | succ n ih =>
    intro h a0 x1 x2 x3
    unfold f_M_turnsTo_14
    refine Sh_ite ?_ ?_
    · exact Sh_some
    · refine Sh_aI (fun v1 => ?_)
      refine Sh_bn (fun v2 => ?_)
      refine Sh_ite ?_ ?_
      · refine Sh_bn (fun v3 => ?_)
        exact ih h a0 x1 v2 v3
      · exact Sh_some
theorem sh_M_turnsTo (N : Nat) (h : hS) (a0 : Nat) (x1 : Int32) : Sh h (f_M_turnsTo N h a0 x1) := by
  unfold f_M_turnsTo
  refine Sh_aI (fun v1 => ?_)
  refine Sh_ite ?_ ?_
  · exact sh_M_turnsTo_14 N  N h a0 x1 v1 (0 : Int32)
  · exact Sh_some
theorem sh_M_nearest_19 (N : Nat)  : ∀  (h : hS) (y0 : Int32), Sh h (f_M_nearest_19 N   h y0) := by
  intro h y0
  unfold f_M_nearest_19
  exact Sh_some
theorem sh_M_nearest (N : Nat) (h : hS) (x0 : Int32) (x1 : Int32) (x2 : Int32) : Sh h (f_M_nearest N h x0 x1 x2) := by
  unfold f_M_nearest
  refine Sh_ite ?_ ?_
  · refine Sh_ite ?_ ?_
    · exact sh_M_nearest_19 N   h x2
    · exact sh_M_nearest_19 N   h x1
  · exact sh_M_nearest_19 N   h x0
theorem sh_M_flatFrom (N : Nat) (h : hS) (a0 : Nat) : Sh h (f_M_flatFrom N h a0) := by
  unfold f_M_flatFrom
  refine Sh_cl (sh_M_turnsTo N h a0 (0 : Int32)) (fun v1 h2 => ?_)
  exact Sh_some
theorem sh_M_flatTo (N : Nat) (h : hS) (a0 : Nat) : Sh h (f_M_flatTo N h a0) := by
  unfold f_M_flatTo
  refine Sh_cl (sh_M_turnsTo N h a0 (1 : Int32)) (fun v1 h2 => ?_)
  exact Sh_some
theorem sh_M_leastOf (N : Nat) (h : hS) (a0 : Nat) : Sh h (f_M_leastOf N h a0) := by
  unfold f_M_leastOf
  refine Sh_cl (sh_M_flatFrom N h a0) (fun v1 h2 => ?_)
  refine Sh_cl (sh_M_flatTo N h2 a0) (fun v3 h4 => ?_)
  refine Sh_cl (sh_M_nearest N h4 v1 v3 (0 : Int32)) (fun v5 h6 => ?_)
  refine Sh_cl (sh_M_valueAt N h6 a0 v5) (fun v7 h8 => ?_)
  exact Sh_some
theorem sh_M_adds_41 (N : Nat)  : ∀  (h : hS) , Sh h (f_M_adds_41 N   h ) := by
  intro h 
  unfold f_M_adds_41
  exact Sh_some
theorem sh_M_adds (N : Nat) (h : hS) (th : Nat) (x1 : Int32) (x2 : Int32) : Sh h (f_M_adds N h th x1 x2) := by
  unfold f_M_adds
  refine Sh_ite ?_ ?_
  · exact Sh_some
  · refine Sh_cl (sh_M_isIn N h x1.toInt64 (-5000 : Int64) (5000 : Int64)) (fun v1 h2 => ?_)
    refine Sh_ite ?_ ?_
    · refine Sh_pZ (fun h3 => ?_)
      exact sh_M_adds_41 N   h3 
    · refine Sh_gR (fun v4 => ?_)
      refine Sh_aI (fun v5 => ?_)
      refine Sh_uI (fun h6 => ?_)
      exact sh_M_adds_41 N   h6 
theorem sh_M_leans (N : Nat) (h : hS) (th : Nat) (x1 : Int32) (x2 : Int32) (x3 : Int32) : Sh h (f_M_leans N h th x1 x2 x3) := by
  unfold f_M_leans
  refine Sh_gR (fun v1 => ?_)
  refine Sh_aI (fun v2 => ?_)
  refine Sh_uI (fun h3 => ?_)
  refine Sh_gR (fun v4 => ?_)
  refine Sh_aI (fun v5 => ?_)
  refine Sh_uI (fun h6 => ?_)
  refine Sh_cv (fun a => (sh_M_adds N h6 a x1 (x2 + x3))) (fun v7 h8 => ?_)
  exact Sh_some
theorem sh_M_drifts_56 (N : Nat)  : ∀ (n : Nat) (h : hS) (th : Nat) (x1 : Int32) (x2 : Int32), Sh h (f_M_drifts_56 N  n h th x1 x2) := by
  intro n
  induction n with
  | zero =>
    intro h th x1 x2
    exact Sh_none
  | succ n ih =>
    intro h th x1 x2
    unfold f_M_drifts_56
    refine Sh_ite ?_ ?_
    · exact Sh_some
    · refine Sh_gR (fun v1 => ?_)
      refine Sh_aI (fun v2 => ?_)
      refine Sh_cv (fun a => (sh_M_adds N h a ((x2 - (5000 : Int32)) + x1) v2)) (fun v3 h4 => ?_)
      refine Sh_bn (fun v5 => ?_)
      exact ih h4 th x1 v5
theorem sh_M_drifts_32 (N : Nat)  : ∀ (n : Nat) (h : hS) (th : Nat) (x1 : Int32) (x2 : Int32), Sh h (f_M_drifts_32 N  n h th x1 x2) := by
  intro n
  induction n with
  | zero =>
    intro h th x1 x2
    exact Sh_none
  | succ n ih =>
    intro h th x1 x2
    unfold f_M_drifts_32
    refine Sh_ite ?_ ?_
    · exact sh_M_drifts_56 N  N h th x1 (0 : Int32)
    · refine Sh_gR (fun v1 => ?_)
      refine Sh_uI (fun h2 => ?_)
      refine Sh_bn (fun v3 => ?_)
      exact ih h2 th x1 v3
theorem sh_M_drifts (N : Nat) (h : hS) (th : Nat) (x1 : Int32) : Sh h (f_M_drifts N h th x1) := by
  unfold f_M_drifts
  refine Sh_gR (fun v1 => ?_)
  refine Sh_gR (fun v2 => ?_)
  refine Sh_nn (fun q3 => ?_)
  refine Sh_nn (fun q4 => ?_)
  refine Sh_cl (sh_M_copyTo N h q3 q4) (fun v5 h6 => ?_)
  refine Sh_gR (fun v7 => ?_)
  refine Sh_gR (fun v8 => ?_)
  refine Sh_nn (fun q9 => ?_)
  refine Sh_cl (sh_M_valueAt N h6 q9 ((-5000 : Int32) - x1)) (fun v10 h11 => ?_)
  refine Sh_uI (fun h12 => ?_)
  exact sh_M_drifts_32 N  N h12 th x1 (0 : Int32)
theorem sh_M_parts_230 (N : Nat)  : ∀  (h : hS) (y0 : Option Nat) (y1 : Int32) (y2 : Int32), Sh h (f_M_parts_230 N   h y0 y1 y2) := by
  intro h y0 y1 y2
  unfold f_M_parts_230
  refine Sh_uI (fun h1 => ?_)
  exact Sh_some
theorem sh_M_parts_199 (N : Nat)  : ∀  (h : hS) (th : Nat) (x1 : Int32) (x5 : Int64) (y0 : Int32), Sh h (f_M_parts_199 N   h th x1 x5 y0) := by
  intro h th x1 x5 y0
  unfold f_M_parts_199
  refine Sh_gR (fun v1 => ?_)
  refine Sh_ite ?_ ?_
  · refine Sh_gR (fun v2 => ?_)
    refine Sh_nn (fun q3 => ?_)
    refine Sh_cl (sh_M_valueAt N h q3 ((-5000 : Int32) + x1)) (fun v4 h5 => ?_)
    exact sh_M_parts_230 N   h5 v1 (1 : Int32) v4.toInt32
  · exact sh_M_parts_230 N   h v1 (1 : Int32) x5.toInt32
theorem sh_M_parts_194 (N : Nat)  : ∀  (h : hS) (th : Nat) (x1 : Int32) (x5 : Int64), Sh h (f_M_parts_194 N   h th x1 x5) := by
  intro h th x1 x5
  unfold f_M_parts_194
  exact sh_M_parts_199 N   h th x1 x5 (1 : Int32)
theorem sh_M_parts_160 (N : Nat) {rc87 : hS → Nat → Int32 → Int32 → Int32 → Int32 → Int64 → Int32 → Int32 → Int32 → Option (Unit × hS)} (hsh87 : ∀ (h : hS) (th : Nat) (x1 : Int32) (x2 : Int32) (x3 : Int32) (x4 : Int32) (x5 : Int64) (x7 : Int32) (x8 : Int32) (x9 : Int32), Sh h (rc87 h th x1 x2 x3 x4 x5 x7 x8 x9)) : ∀  (h : hS) (th : Nat) (x1 : Int32) (x2 : Int32) (x3 : Int32) (x4 : Int32) (x5 : Int64) (x7 : Int32) (x8 : Int32) (x9 : Int32) (x10 : Int32), Sh h (f_M_parts_160 N rc87  h th x1 x2 x3 x4 x5 x7 x8 x9 x10) := by
  intro h th x1 x2 x3 x4 x5 x7 x8 x9 x10
  unfold f_M_parts_160
  refine Sh_bn (fun v1 => ?_)
  refine Sh_bn (fun v2 => ?_)
  exact hsh87 h th x1 x2 x3 x4 x5 x7 v1 v2
theorem sh_M_parts_138 (N : Nat) {rc87 : hS → Nat → Int32 → Int32 → Int32 → Int32 → Int64 → Int32 → Int32 → Int32 → Option (Unit × hS)} (hsh87 : ∀ (h : hS) (th : Nat) (x1 : Int32) (x2 : Int32) (x3 : Int32) (x4 : Int32) (x5 : Int64) (x7 : Int32) (x8 : Int32) (x9 : Int32), Sh h (rc87 h th x1 x2 x3 x4 x5 x7 x8 x9)) : ∀  (h : hS) (th : Nat) (x1 : Int32) (x2 : Int32) (x3 : Int32) (x4 : Int32) (x5 : Int64) (x7 : Int32) (x8 : Int32) (x9 : Int32) (x10 : Int32) (x11 : Int32), Sh h (f_M_parts_138 N rc87  h th x1 x2 x3 x4 x5 x7 x8 x9 x10 x11) := by
  intro h th x1 x2 x3 x4 x5 x7 x8 x9 x10 x11
  unfold f_M_parts_138
  refine Sh_ite ?_ ?_
  · exact sh_M_parts_160 N hsh87  h th x1 x2 x3 x4 x5 x7 x8 x9 x10
  · refine Sh_cv (fun a => (sh_M_adds N h a ((x9 - (5000 : Int32)) + x2) (x10 - x11))) (fun v1 h2 => ?_)
    exact sh_M_parts_160 N hsh87  h2 th x1 x2 x3 x4 x5 x7 x8 x9 x10
theorem sh_M_parts_87 (N : Nat)  : ∀ (n : Nat) (h : hS) (th : Nat) (x1 : Int32) (x2 : Int32) (x3 : Int32) (x4 : Int32) (x5 : Int64) (x7 : Int32) (x8 : Int32) (x9 : Int32), Sh h (f_M_parts_87 N  n h th x1 x2 x3 x4 x5 x7 x8 x9) := by
  intro n
  induction n with
  | zero =>
    intro h th x1 x2 x3 x4 x5 x7 x8 x9
    exact Sh_none
  | succ n ih =>
    intro h th x1 x2 x3 x4 x5 x7 x8 x9
    unfold f_M_parts_87
    refine Sh_ite ?_ ?_
    · refine Sh_ite ?_ ?_
      · exact sh_M_parts_194 N   h th x1 x5
      · refine Sh_ite ?_ ?_
        · exact sh_M_parts_194 N   h th x1 x5
        · refine Sh_ite ?_ ?_
          · exact sh_M_parts_199 N   h th x1 x5 (0 : Int32)
          · exact sh_M_parts_194 N   h th x1 x5
    · refine Sh_gR (fun v1 => ?_)
      refine Sh_aI (fun v2 => ?_)
      refine Sh_bn (fun v3 => ?_)
      refine Sh_ite ?_ ?_
      · exact sh_M_parts_138 N ih  h th x1 x2 x3 x4 x5 x7 x8 x9 v2 v3
      · refine Sh_cv (fun a => (sh_M_adds N h a ((x9 - (5000 : Int32)) - x1) v3)) (fun v4 h5 => ?_)
        exact sh_M_parts_138 N ih  h5 th x1 x2 x3 x4 x5 x7 x8 x9 v2 v3
theorem sh_M_parts_75 (N : Nat)  : ∀  (h : hS) (th : Nat) (x1 : Int32) (x2 : Int32) (x3 : Int32) (x4 : Int32) (x5 : Int64) (x7 : Int32) (y0 : Option Nat) (y1 : Int32) (y2 : Int32), Sh h (f_M_parts_75 N   h th x1 x2 x3 x4 x5 x7 y0 y1 y2) := by
  intro h th x1 x2 x3 x4 x5 x7 y0 y1 y2
  unfold f_M_parts_75
  refine Sh_uI (fun h1 => ?_)
  refine Sh_gR (fun v2 => ?_)
  refine Sh_aI (fun v3 => ?_)
  exact sh_M_parts_87 N  N h1 th x1 x2 x3 x4 x5 x7 v3 (0 : Int32)
theorem sh_M_parts_32 (N : Nat)  : ∀ (n : Nat) (h : hS) (th : Nat) (x1 : Int32) (x2 : Int32) (x3 : Int32) (x4 : Int32) (x5 : Int64) (x7 : Int32) (x8 : Int32), Sh h (f_M_parts_32 N  n h th x1 x2 x3 x4 x5 x7 x8) := by
  intro n
  induction n with
  | zero =>
    intro h th x1 x2 x3 x4 x5 x7 x8
    exact Sh_none
  | succ n ih =>
    intro h th x1 x2 x3 x4 x5 x7 x8
    unfold f_M_parts_32
    refine Sh_ite ?_ ?_
    · refine Sh_gR (fun v1 => ?_)
      refine Sh_ite ?_ ?_
      · exact sh_M_parts_75 N   h th x1 x2 x3 x4 x5 x7 v1 (0 : Int32) (0 : Int32)
      · refine Sh_gR (fun v2 => ?_)
        refine Sh_aI (fun v3 => ?_)
        exact sh_M_parts_75 N   h th x1 x2 x3 x4 x5 x7 v1 (0 : Int32) v3
    · refine Sh_gR (fun v4 => ?_)
      refine Sh_uI (fun h5 => ?_)
      refine Sh_bn (fun v6 => ?_)
      exact ih h5 th x1 x2 x3 x4 x5 x7 v6
theorem sh_M_parts (N : Nat) (h : hS) (th : Nat) (x1 : Int32) (x2 : Int32) (x3 : Int32) (x4 : Int32) : Sh h (f_M_parts N h th x1 x2 x3 x4) := by
  unfold f_M_parts
  refine Sh_gR (fun v1 => ?_)
  refine Sh_gR (fun v2 => ?_)
  refine Sh_nn (fun q3 => ?_)
  refine Sh_nn (fun q4 => ?_)
  refine Sh_cl (sh_M_copyTo N h q3 q4) (fun v5 h6 => ?_)
  refine Sh_gR (fun v7 => ?_)
  refine Sh_nn (fun q8 => ?_)
  refine Sh_cl (sh_M_leastOf N h6 q8) (fun v9 h10 => ?_)
  refine Sh_gR (fun v11 => ?_)
  refine Sh_nn (fun q12 => ?_)
  refine Sh_cl (sh_M_flatFrom N h10 q12) (fun v13 h14 => ?_)
  exact sh_M_parts_32 N  N h14 th x1 x2 x3 x4 v9 v13 (0 : Int32)
theorem sh_M_putsOn_2 (N : Nat)  : ∀ (n : Nat) (h : hS) (th : Nat) (a1 : Nat) (x2 : Int32), Sh h (f_M_putsOn_2 N  n h th a1 x2) := by
  intro n
  induction n with
  | zero =>
    intro h th a1 x2
    exact Sh_none
  | succ n ih =>
    intro h th a1 x2
    unfold f_M_putsOn_2
    refine Sh_lnA (fun v1 => ?_)
    refine Sh_ite ?_ ?_
    · exact Sh_some
    · refine Sh_gR (fun v2 => ?_)
      refine Sh_aI (fun v3 => ?_)
      refine Sh_aI (fun v4 => ?_)
      refine Sh_uI (fun h5 => ?_)
      refine Sh_bn (fun v6 => ?_)
      exact ih h5 th a1 v6
theorem sh_M_putsOn (N : Nat) (h : hS) (th : Nat) (a1 : Nat) : Sh h (f_M_putsOn N h th a1) := by
  unfold f_M_putsOn
  exact sh_M_putsOn_2 N  N h th a1 (0 : Int32)
theorem sh_M_forgetLaid_2 (N : Nat)  : ∀ (n : Nat) (h : hS) (th : Nat) (x1 : Int32), Sh h (f_M_forgetLaid_2 N  n h th x1) := by
  intro n
  induction n with
  | zero =>
    intro h th x1
    exact Sh_none
  | succ n ih =>
    intro h th x1
    unfold f_M_forgetLaid_2
    refine Sh_ite ?_ ?_
    · exact Sh_some
    · refine Sh_gR (fun v1 => ?_)
      refine Sh_uI (fun h2 => ?_)
      refine Sh_bn (fun v3 => ?_)
      exact ih h2 th v3
theorem sh_M_forgetLaid (N : Nat) (h : hS) (th : Nat) : Sh h (f_M_forgetLaid N h th) := by
  unfold f_M_forgetLaid
  exact sh_M_forgetLaid_2 N  N h th (0 : Int32)
theorem sh_M_feed_76 (N : Nat) {rc23 : hS → Nat → Int32 → Int32 → Int32 → Int32 → Int32 → Int32 → Option (Int32 × hS)} (hsh23 : ∀ (h : hS) (th : Nat) (x1 : Int32) (x2 : Int32) (x3 : Int32) (x4 : Int32) (x5 : Int32) (x6 : Int32), Sh h (rc23 h th x1 x2 x3 x4 x5 x6)) : ∀  (h : hS) (th : Nat) (x1 : Int32) (x2 : Int32) (x3 : Int32) (x4 : Int32) (x5 : Int32) (x6 : Int32) (y0 : Int32), Sh h (f_M_feed_76 N rc23  h th x1 x2 x3 x4 x5 x6 y0) := by
  intro h th x1 x2 x3 x4 x5 x6 y0
  unfold f_M_feed_76
  refine Sh_gR (fun v1 => ?_)
  refine Sh_gI (fun v2 => ?_)
  refine Sh_dv ?_
  refine Sh_uI (fun h3 => ?_)
  refine Sh_gI (fun v4 => ?_)
  refine Sh_pI (fun h5 => ?_)
  refine Sh_bn (fun v6 => ?_)
  exact hsh23 h5 th x1 x2 x3 x4 x5 v6
theorem sh_M_feed_23 (N : Nat)  : ∀ (n : Nat) (h : hS) (th : Nat) (x1 : Int32) (x2 : Int32) (x3 : Int32) (x4 : Int32) (x5 : Int32) (x6 : Int32), Sh h (f_M_feed_23 N  n h th x1 x2 x3 x4 x5 x6) := by
  intro n
  induction n with
  | zero =>
    intro h th x1 x2 x3 x4 x5 x6
    exact Sh_none
  | succ n ih =>
    intro h th x1 x2 x3 x4 x5 x6
    unfold f_M_feed_23
    refine Sh_ite ?_ ?_
    · refine Sh_gI (fun v1 => ?_)
      exact Sh_some
    · refine Sh_ite ?_ ?_
      · refine Sh_ite ?_ ?_
        · refine Sh_ite ?_ ?_
          · refine Sh_ite ?_ ?_
            · exact sh_M_feed_76 N ih  h th x1 x2 x3 x4 x5 x6 x5
            · exact sh_M_feed_76 N ih  h th x1 x2 x3 x4 x5 x6 x4
          · exact sh_M_feed_76 N ih  h th x1 x2 x3 x4 x5 x6 x3
        · exact sh_M_feed_76 N ih  h th x1 x2 x3 x4 x5 x6 x2
      · exact sh_M_feed_76 N ih  h th x1 x2 x3 x4 x5 x6 x1
theorem sh_M_feed (N : Nat) (h : hS) (th : Nat) (x1 : Int32) (x2 : Int32) (x3 : Int32) (x4 : Int32) (x5 : Int32) : Sh h (f_M_feed N h th x1 x2 x3 x4 x5) := by
  unfold f_M_feed
  refine Sh_pI (fun h1 => ?_)
  refine Sh_gI (fun v2 => ?_)
  refine Sh_ite ?_ ?_
  · exact sh_M_feed_23 N  N h1 th x1 x2 x3 x4 x5 (0 : Int32)
  · exact Sh_some
theorem sh_M_byteAt_18 (N : Nat)  : ∀  (h : hS) (y0 : Int32), Sh h (f_M_byteAt_18 N   h y0) := by
  intro h y0
  unfold f_M_byteAt_18
  exact Sh_some
theorem sh_M_byteAt (N : Nat) (h : hS) (th : Nat) (x1 : Int32) : Sh h (f_M_byteAt N h th x1) := by
  unfold f_M_byteAt
  refine Sh_gI (fun v1 => ?_)
  refine Sh_ite ?_ ?_
  · exact sh_M_byteAt_18 N   h (-1 : Int32)
  · refine Sh_gR (fun v2 => ?_)
    refine Sh_aI (fun v3 => ?_)
    exact sh_M_byteAt_18 N   h v3
theorem sh_M_isLetter_17 (N : Nat)  : ∀  (h : hS) (y0 : Int32), Sh h (f_M_isLetter_17 N   h y0) := by
  intro h y0
  unfold f_M_isLetter_17
  exact Sh_bz Sh_some
theorem sh_M_isLetter_16 (N : Nat)  : ∀  (h : hS) , Sh h (f_M_isLetter_16 N   h ) := by
  intro h 
  unfold f_M_isLetter_16
  exact sh_M_isLetter_17 N   h (0 : Int32)
theorem sh_M_isLetter (N : Nat) (h : hS) (x0 : Int32) : Sh h (f_M_isLetter N h x0) := by
  unfold f_M_isLetter
  refine Sh_ite ?_ ?_
  · exact sh_M_isLetter_16 N   h 
  · refine Sh_ite ?_ ?_
    · exact sh_M_isLetter_16 N   h 
    · exact sh_M_isLetter_17 N   h (1 : Int32)
theorem sh_M_isDigit_17 (N : Nat)  : ∀  (h : hS) (y0 : Int32), Sh h (f_M_isDigit_17 N   h y0) := by
  intro h y0
  unfold f_M_isDigit_17
  exact Sh_bz Sh_some
theorem sh_M_isDigit_16 (N : Nat)  : ∀  (h : hS) , Sh h (f_M_isDigit_16 N   h ) := by
  intro h 
  unfold f_M_isDigit_16
  exact sh_M_isDigit_17 N   h (0 : Int32)
theorem sh_M_isDigit (N : Nat) (h : hS) (x0 : Int32) : Sh h (f_M_isDigit N h x0) := by
  unfold f_M_isDigit
  refine Sh_ite ?_ ?_
  · exact sh_M_isDigit_16 N   h 
  · refine Sh_ite ?_ ?_
    · exact sh_M_isDigit_16 N   h 
    · exact sh_M_isDigit_17 N   h (1 : Int32)
theorem sh_M_stepOn_26 (N : Nat) {rc0 : hS → Nat → Option (Unit × hS)} (hsh0 : ∀ (h : hS) (th : Nat), Sh h (rc0 h th)) : ∀  (h : hS) (th : Nat), Sh h (f_M_stepOn_26 N rc0  h th) := by
  intro h th
  unfold f_M_stepOn_26
  refine Sh_gI (fun v1 => ?_)
  refine Sh_pI (fun h2 => ?_)
  exact hsh0 h2 th
theorem sh_M_stepOn_218 (N : Nat)  : ∀  (h : hS) (th : Nat), Sh h (f_M_stepOn_218 N   h th) := by
  intro h th
  unfold f_M_stepOn_218
  refine Sh_gI (fun v1 => ?_)
  refine Sh_pI (fun h2 => ?_)
  exact Sh_some
theorem sh_M_stepOn_215 (N : Nat)  : ∀  (h : hS) (th : Nat) (y0 : Option Nat) (y1 : Int32), Sh h (f_M_stepOn_215 N   h th y0 y1) := by
  intro h th y0 y1
  unfold f_M_stepOn_215
  refine Sh_pI (fun h1 => ?_)
  exact sh_M_stepOn_218 N   h1 th
theorem sh_M_stepOn_210 (N : Nat)  : ∀  (h : hS) (th : Nat) (y0 : Option Nat), Sh h (f_M_stepOn_210 N   h th y0) := by
  intro h th y0
  unfold f_M_stepOn_210
  exact sh_M_stepOn_215 N   h th y0 (3 : Int32)
theorem sh_M_stepOn_123 (N : Nat)  : ∀ (n : Nat) (h : hS) (th : Nat), Sh h (f_M_stepOn_123 N  n h th) := by
  intro n
  induction n with
  | zero =>
    intro h th
    exact Sh_none
  | succ n ih =>
    intro h th
    unfold f_M_stepOn_123
    refine Sh_gI (fun v1 => ?_)
    refine Sh_cv (fun a => (sh_M_byteAt N h a v1)) (fun v2 h3 => ?_)
    refine Sh_cl (sh_M_isDigit N h3 v2) (fun v4 h5 => ?_)
    refine Sh_ite ?_ ?_
    · refine Sh_pI (fun h6 => ?_)
      exact sh_M_stepOn_218 N   h6 th
    · refine Sh_gI (fun v7 => ?_)
      refine Sh_gI (fun v8 => ?_)
      refine Sh_cv (fun a => (sh_M_byteAt N h5 a v8)) (fun v9 h10 => ?_)
      refine Sh_pI (fun h11 => ?_)
      refine Sh_gI (fun v12 => ?_)
      refine Sh_pI (fun h13 => ?_)
      exact ih h13 th
theorem sh_M_stepOn_76 (N : Nat)  : ∀ (n : Nat) (h : hS) (th : Nat), Sh h (f_M_stepOn_76 N  n h th) := by
  intro n
  induction n with
  | zero =>
    intro h th
    exact Sh_none
  | succ n ih =>
    intro h th
    unfold f_M_stepOn_76
    refine Sh_gI (fun v1 => ?_)
    refine Sh_cv (fun a => (sh_M_byteAt N h a v1)) (fun v2 h3 => ?_)
    refine Sh_cl (sh_M_isLetter N h3 v2) (fun v4 h5 => ?_)
    refine Sh_ite ?_ ?_
    · refine Sh_pI (fun h6 => ?_)
      exact sh_M_stepOn_218 N   h6 th
    · refine Sh_gI (fun v7 => ?_)
      refine Sh_pI (fun h8 => ?_)
      exact ih h8 th
theorem sh_M_stepOn_0 (N : Nat)  : ∀ (n : Nat) (h : hS) (th : Nat), Sh h (f_M_stepOn_0 N  n h th) := by
  intro n
  induction n with
  | zero =>
    intro h th
    exact Sh_none
  | succ n ih =>
    intro h th
    unfold f_M_stepOn_0
    refine Sh_gI (fun v1 => ?_)
    refine Sh_cv (fun a => (sh_M_byteAt N h a v1)) (fun v2 h3 => ?_)
    refine Sh_ite ?_ ?_
    · exact sh_M_stepOn_26 N ih  h3 th
    · refine Sh_gI (fun v4 => ?_)
      refine Sh_cv (fun a => (sh_M_byteAt N h3 a v4)) (fun v5 h6 => ?_)
      refine Sh_ite ?_ ?_
      · exact sh_M_stepOn_26 N ih  h6 th
      · refine Sh_gI (fun v7 => ?_)
        refine Sh_pI (fun h8 => ?_)
        refine Sh_gI (fun v9 => ?_)
        refine Sh_cv (fun a => (sh_M_byteAt N h8 a v9)) (fun v10 h11 => ?_)
        refine Sh_ite ?_ ?_
        · refine Sh_pI (fun h19 => ?_)
          exact sh_M_stepOn_218 N   h19 th
        · refine Sh_cl (sh_M_isLetter N h11 v10) (fun v12 h13 => ?_)
          refine Sh_ite ?_ ?_
          · refine Sh_cl (sh_M_isDigit N h13 v10) (fun v14 h15 => ?_)
            refine Sh_ite ?_ ?_
            · refine Sh_gI (fun v16 => ?_)
              refine Sh_pI (fun h17 => ?_)
              refine Sh_ite ?_ ?_
              · exact sh_M_stepOn_210 N   h17 th (some th)
              · refine Sh_ite ?_ ?_
                · exact sh_M_stepOn_210 N   h17 th (some th)
                · exact sh_M_stepOn_215 N   h17 th (some th) (4 : Int32)
            · refine Sh_pI (fun h18 => ?_)
              exact sh_M_stepOn_123 N  N h18 th
          · exact sh_M_stepOn_76 N  N h13 th
theorem sh_M_stepOn (N : Nat) (h : hS) (th : Nat) : Sh h (f_M_stepOn N h th) := by
  unfold f_M_stepOn
  exact sh_M_stepOn_0 N  N h th
theorem sh_M_wrong (N : Nat) (h : hS) (th : Nat) (x1 : Int32) : Sh h (f_M_wrong N h th x1) := by
  unfold f_M_wrong
  refine Sh_gI (fun v1 => ?_)
  refine Sh_ite ?_ ?_
  · refine Sh_pI (fun h2 => ?_)
    refine Sh_gI (fun v3 => ?_)
    refine Sh_pI (fun h4 => ?_)
    exact Sh_some
  · exact Sh_some
theorem sh_M_isMarked_33 (N : Nat)  : ∀  (h : hS) (y0 : Int32), Sh h (f_M_isMarked_33 N   h y0) := by
  intro h y0
  unfold f_M_isMarked_33
  exact Sh_bz Sh_some
theorem sh_M_isMarked_32 (N : Nat)  : ∀  (h : hS) , Sh h (f_M_isMarked_32 N   h ) := by
  intro h 
  unfold f_M_isMarked_32
  exact sh_M_isMarked_33 N   h (0 : Int32)
theorem sh_M_isMarked (N : Nat) (h : hS) (th : Nat) (x1 : Int32) : Sh h (f_M_isMarked N h th x1) := by
  unfold f_M_isMarked
  refine Sh_gI (fun v1 => ?_)
  refine Sh_ite ?_ ?_
  · refine Sh_gI (fun v2 => ?_)
    refine Sh_ite ?_ ?_
    · refine Sh_gR (fun v3 => ?_)
      refine Sh_gI (fun v4 => ?_)
      refine Sh_aI (fun v5 => ?_)
      refine Sh_ite ?_ ?_
      · exact sh_M_isMarked_33 N   h (1 : Int32)
      · exact sh_M_isMarked_32 N   h 
    · exact sh_M_isMarked_32 N   h 
  · exact sh_M_isMarked_32 N   h 
theorem sh_M_numberNow_66 (N : Nat)  : ∀  (h : hS) (y0 : Int32), Sh h (f_M_numberNow_66 N   h y0) := by
  intro h y0
  unfold f_M_numberNow_66
  exact Sh_some
theorem sh_M_numberNow_51 (N : Nat)  : ∀  (h : hS) (th : Nat), Sh h (f_M_numberNow_51 N   h th) := by
  intro h th
  unfold f_M_numberNow_51
  refine Sh_gI (fun v1 => ?_)
  refine Sh_ite ?_ ?_
  · refine Sh_gI (fun v2 => ?_)
    exact sh_M_numberNow_66 N   h v2
  · exact sh_M_numberNow_66 N   h (0 : Int32)
theorem sh_M_numberNow_46 (N : Nat)  : ∀  (h : hS) (th : Nat), Sh h (f_M_numberNow_46 N   h th) := by
  intro h th
  unfold f_M_numberNow_46
  refine Sh_cv (fun a => (sh_M_wrong N h a (2 : Int32))) (fun v1 h2 => ?_)
  exact sh_M_numberNow_51 N   h2 th
theorem sh_M_numberNow (N : Nat) (h : hS) (th : Nat) (x1 : Int32) : Sh h (f_M_numberNow N h th x1) := by
  unfold f_M_numberNow
  refine Sh_gI (fun v1 => ?_)
  refine Sh_ite ?_ ?_
  · refine Sh_gI (fun v2 => ?_)
    refine Sh_ite ?_ ?_
    · refine Sh_gI (fun v3 => ?_)
      refine Sh_gI (fun v4 => ?_)
      refine Sh_ite ?_ ?_
      · exact sh_M_numberNow_46 N   h th
      · refine Sh_gI (fun v5 => ?_)
        refine Sh_ite ?_ ?_
        · exact sh_M_numberNow_51 N   h th
        · exact sh_M_numberNow_46 N   h th
    · refine Sh_cv (fun a => (sh_M_wrong N h a (1 : Int32))) (fun v6 h7 => ?_)
      exact sh_M_numberNow_51 N   h7 th
  · exact Sh_some
theorem sh_M_readNumber_17 (N : Nat)  : ∀  (h : hS) (x2 : Int32), Sh h (f_M_readNumber_17 N   h x2) := by
  intro h x2
  unfold f_M_readNumber_17
  exact Sh_some
theorem sh_M_readNumber (N : Nat) (h : hS) (th : Nat) (x1 : Int32) : Sh h (f_M_readNumber N h th x1) := by
  unfold f_M_readNumber
  refine Sh_cv (fun a => (sh_M_numberNow N h a x1)) (fun v1 h2 => ?_)
  refine Sh_gI (fun v3 => ?_)
  refine Sh_ite ?_ ?_
  · refine Sh_cv (fun a => (sh_M_stepOn N h2 a )) (fun v4 h5 => ?_)
    exact sh_M_readNumber_17 N   h5 v1
  · exact sh_M_readNumber_17 N   h2 v1
theorem sh_M_readPlace_33 (N : Nat)  : ∀  (h : hS) (y0 : Int32), Sh h (f_M_readPlace_33 N   h y0) := by
  intro h y0
  unfold f_M_readPlace_33
  exact Sh_some
theorem sh_M_readPlace_15 (N : Nat)  : ∀  (h : hS) (th : Nat) (x1 : Int32), Sh h (f_M_readPlace_15 N   h th x1) := by
  intro h th x1
  unfold f_M_readPlace_15
  refine Sh_cv (fun a => (sh_M_readNumber N h a (500 : Int32))) (fun v1 h2 => ?_)
  refine Sh_ite ?_ ?_
  · exact sh_M_readPlace_33 N   h2 v1
  · exact sh_M_readPlace_33 N   h2 (-v1)
theorem sh_M_readPlace (N : Nat) (h : hS) (th : Nat) : Sh h (f_M_readPlace N h th) := by
  unfold f_M_readPlace
  refine Sh_cv (fun a => (sh_M_isMarked N h a (45 : Int32))) (fun v1 h2 => ?_)
  refine Sh_ite ?_ ?_
  · exact sh_M_readPlace_15 N   h2 th v1
  · refine Sh_cv (fun a => (sh_M_stepOn N h2 a )) (fun v3 h4 => ?_)
    exact sh_M_readPlace_15 N   h4 th v1
theorem sh_M_readCost_34 (N : Nat)  : ∀  (h : hS) (x2 : Int32), Sh h (f_M_readCost_34 N   h x2) := by
  intro h x2
  unfold f_M_readCost_34
  exact Sh_some
theorem sh_M_readCost_23 (N : Nat)  : ∀  (h : hS) (th : Nat) (x2 : Int32), Sh h (f_M_readCost_23 N   h th x2) := by
  intro h th x2
  unfold f_M_readCost_23
  refine Sh_gI (fun v1 => ?_)
  refine Sh_ite ?_ ?_
  · refine Sh_cv (fun a => (sh_M_stepOn N h a )) (fun v2 h3 => ?_)
    exact sh_M_readCost_34 N   h3 x2
  · exact sh_M_readCost_34 N   h x2
theorem sh_M_readCost (N : Nat) (h : hS) (th : Nat) (x1 : Int32) : Sh h (f_M_readCost N h th x1) := by
  unfold f_M_readCost
  refine Sh_cv (fun a => (sh_M_numberNow N h a (3 : Int32))) (fun v1 h2 => ?_)
  refine Sh_gI (fun v3 => ?_)
  refine Sh_ite ?_ ?_
  · refine Sh_ite ?_ ?_
    · refine Sh_cv (fun a => (sh_M_wrong N h2 a (3 : Int32))) (fun v4 h5 => ?_)
      exact sh_M_readCost_23 N   h5 th v1
    · exact sh_M_readCost_23 N   h2 th v1
  · exact sh_M_readCost_23 N   h2 th v1
theorem sh_M_isCost (N : Nat) (h : hS) (th : Nat) (x1 : Int32) : Sh h (f_M_isCost N h th x1) := by
  unfold f_M_isCost
  refine Sh_cl (sh_M_isIn N h x1.toInt64 (0 : Int64) (3 : Int64)) (fun v1 h2 => ?_)
  exact Sh_bz Sh_some
theorem sh_M_fault (N : Nat) (h : hS) (th : Nat) : Sh h (f_M_fault N h th) := by
  unfold f_M_fault
  refine Sh_pI (fun h1 => ?_)
  refine Sh_gI (fun v2 => ?_)
  exact Sh_some
theorem sh_M_fail (N : Nat) (h : hS) (th : Nat) (x1 : Int32) : Sh h (f_M_fail N h th x1) := by
  unfold f_M_fail
  refine Sh_pI (fun h1 => ?_)
  exact Sh_some
theorem sh_M_count_60 (N : Nat)  : ∀  (h : hS) (th : Nat) (x1 : Int32), Sh h (f_M_count_60 N   h th x1) := by
  intro h th x1
  unfold f_M_count_60
  refine Sh_gR (fun v1 => ?_)
  refine Sh_aI (fun v2 => ?_)
  exact Sh_some
theorem sh_M_count_86 (N : Nat)  : ∀  (h : hS) (th : Nat) (x1 : Int32), Sh h (f_M_count_86 N   h th x1) := by
  intro h th x1
  unfold f_M_count_86
  refine Sh_gR (fun v1 => ?_)
  refine Sh_aI (fun v2 => ?_)
  exact Sh_some
theorem sh_M_count (N : Nat) (h : hS) (th : Nat) (x1 : Int32) : Sh h (f_M_count N h th x1) := by
  unfold f_M_count
  refine Sh_pI (fun h1 => ?_)
  refine Sh_ite ?_ ?_
  ·
    exact sh_M_count_60 N   h1 th x1
  ·
    refine Sh_ite ?_ ?_
    ·
      exact sh_M_count_60 N   h1 th x1
    ·
      refine Sh_ite ?_ ?_
      ·
        exact sh_M_count_60 N   h1 th x1
      ·
        refine Sh_ite ?_ ?_
        ·
          exact sh_M_count_60 N   h1 th x1
        ·
          refine Sh_ite ?_ ?_
          ·
            refine Sh_gI (fun v2 => ?_)
            exact Sh_some
          ·
            refine Sh_ite ?_ ?_
            ·
              refine Sh_gI (fun v3 => ?_)
              exact Sh_some
            ·
              refine Sh_ite ?_ ?_
              ·
                refine Sh_gI (fun v4 => ?_)
                exact Sh_some
              ·
                refine Sh_ite ?_ ?_
                ·
                  exact sh_M_count_86 N   h1 th x1
                ·
                  refine Sh_ite ?_ ?_
                  ·
                    exact sh_M_count_86 N   h1 th x1
                  ·
                    refine Sh_ite ?_ ?_
                    ·
                      exact sh_M_count_86 N   h1 th x1
                    ·
                      refine Sh_cv (fun a => (sh_M_fail N h1 a (1 : Int32))) (fun v5 h6 => ?_)
                      exact Sh_some
theorem sh_M_steps (N : Nat) (h : hS) (th : Nat) (x1 : Int32) : Sh h (f_M_steps N h th x1) := by
  unfold f_M_steps
  refine Sh_gR (fun v1 => ?_)
  refine Sh_aI (fun v2 => ?_)
  exact Sh_some
theorem sh_M_isStep_30 (N : Nat)  : ∀  (h : hS) (y0 : Int32), Sh h (f_M_isStep_30 N   h y0) := by
  intro h y0
  unfold f_M_isStep_30
  exact Sh_bz Sh_some
theorem sh_M_isStep_29 (N : Nat)  : ∀  (h : hS) , Sh h (f_M_isStep_29 N   h ) := by
  intro h 
  unfold f_M_isStep_29
  exact sh_M_isStep_30 N   h (0 : Int32)
theorem sh_M_isStep (N : Nat) (h : hS) (th : Nat) (x1 : Int32) (x2 : Int32) : Sh h (f_M_isStep N h th x1 x2) := by
  unfold f_M_isStep
  refine Sh_cv (fun a => (sh_M_isCost N h a x1)) (fun v1 h2 => ?_)
  refine Sh_ite ?_ ?_
  · exact sh_M_isStep_29 N   h2 
  · refine Sh_cv (fun a => (sh_M_steps N h2 a x1)) (fun v3 h4 => ?_)
    refine Sh_cl (sh_M_isIn N h4 x2.toInt64 (0 : Int64) ((v3 - (1 : Int32)).toInt64)) (fun v5 h6 => ?_)
    refine Sh_ite ?_ ?_
    · exact sh_M_isStep_29 N   h6 
    · exact sh_M_isStep_30 N   h6 (1 : Int32)
theorem sh_M_stepAt (N : Nat) (h : hS) (th : Nat) (x1 : Int32) (x2 : Int32) (x3 : Int32) : Sh h (f_M_stepAt N h th x1 x2 x3) := by
  unfold f_M_stepAt
  refine Sh_gR (fun v1 => ?_)
  refine Sh_aI (fun v2 => ?_)
  exact Sh_some
theorem sh_M_step_41 (N : Nat)  : ∀  (h : hS) (y0 : Int32), Sh h (f_M_step_41 N   h y0) := by
  intro h y0
  unfold f_M_step_41
  exact Sh_some
theorem sh_M_step_36 (N : Nat)  : ∀  (h : hS) (th : Nat), Sh h (f_M_step_36 N   h th) := by
  intro h th
  unfold f_M_step_36
  refine Sh_cv (fun a => (sh_M_fail N h a (1 : Int32))) (fun v1 h2 => ?_)
  exact sh_M_step_41 N   h2 v1
theorem sh_M_step (N : Nat) (h : hS) (th : Nat) (x1 : Int32) (x2 : Int32) (x3 : Int32) : Sh h (f_M_step N h th x1 x2 x3) := by
  unfold f_M_step
  refine Sh_pI (fun h1 => ?_)
  refine Sh_cv (fun a => (sh_M_isStep N h1 a x1 x2)) (fun v2 h3 => ?_)
  refine Sh_ite ?_ ?_
  · exact sh_M_step_36 N   h3 th
  · refine Sh_cl (sh_M_isIn N h3 x3.toInt64 (0 : Int64) (2 : Int64)) (fun v4 h5 => ?_)
    refine Sh_ite ?_ ?_
    · exact sh_M_step_36 N   h5 th
    · refine Sh_cv (fun a => (sh_M_stepAt N h5 a x1 x2 x3)) (fun v6 h7 => ?_)
      exact sh_M_step_41 N   h7 v6
theorem sh_M_isX (N : Nat) (h : hS) (x0 : Int32) : Sh h (f_M_isX N h x0) := by
  unfold f_M_isX
  refine Sh_cl (sh_M_isIn N h x0.toInt64 (-100000 : Int64) (100000 : Int64)) (fun v1 h2 => ?_)
  exact Sh_bz Sh_some
theorem sh_M_somewhere_21 (N : Nat)  : ∀  (h : hS) (y0 : Int32), Sh h (f_M_somewhere_21 N   h y0) := by
  intro h y0
  unfold f_M_somewhere_21
  exact Sh_some
theorem sh_M_somewhere (N : Nat) (h : hS) (x0 : Int32) : Sh h (f_M_somewhere N h x0) := by
  unfold f_M_somewhere
  refine Sh_cl (sh_M_isIn N h x0.toInt64 (-99999999 : Int64) (99999999 : Int64)) (fun v1 h2 => ?_)
  refine Sh_ite ?_ ?_
  · exact sh_M_somewhere_21 N   h2 (-10000000 : Int32)
  · exact sh_M_somewhere_21 N   h2 x0
theorem sh_M_last (N : Nat) (h : hS) (a0 : Nat) : Sh h (f_M_last N h a0) := by
  unfold f_M_last
  refine Sh_aI (fun v1 => ?_)
  refine Sh_cl (sh_M_weights N h a0) (fun v2 h3 => ?_)
  exact Sh_some
theorem sh_M_isBound_20 (N : Nat)  : ∀  (h : hS) (y0 : Int32), Sh h (f_M_isBound_20 N   h y0) := by
  intro h y0
  unfold f_M_isBound_20
  exact Sh_bz Sh_some
theorem sh_M_isBound_19 (N : Nat)  : ∀  (h : hS) , Sh h (f_M_isBound_19 N   h ) := by
  intro h 
  unfold f_M_isBound_19
  exact sh_M_isBound_20 N   h (0 : Int32)
theorem sh_M_isBound (N : Nat) (h : hS) (a0 : Nat) (x1 : Int32) : Sh h (f_M_isBound N h a0 x1) := by
  unfold f_M_isBound
  refine Sh_aI (fun v1 => ?_)
  refine Sh_ite ?_ ?_
  · exact sh_M_isBound_19 N   h 
  · refine Sh_cl (sh_M_last N h a0) (fun v2 h3 => ?_)
    refine Sh_ite ?_ ?_
    · exact sh_M_isBound_19 N   h3 
    · exact sh_M_isBound_20 N   h3 (1 : Int32)
theorem sh_M_standsAt (N : Nat) (h : hS) (a0 : Nat) (x1 : Int32) : Sh h (f_M_standsAt N h a0 x1) := by
  unfold f_M_standsAt
  refine Sh_cl (sh_M_turnsTo N h a0 x1) (fun v1 h2 => ?_)
  refine Sh_cl (sh_M_turnsTo N h2 a0 (x1 + (1 : Int32))) (fun v3 h4 => ?_)
  refine Sh_cl (sh_M_nearest N h4 v1 v3 (0 : Int32)) (fun v5 h6 => ?_)
  exact Sh_some
theorem sh_M_againstOf (N : Nat) (h : hS) (a0 : Nat) (x1 : Int32) : Sh h (f_M_againstOf N h a0 x1) := by
  unfold f_M_againstOf
  refine Sh_cl (sh_M_standsAt N h a0 x1) (fun v1 h2 => ?_)
  refine Sh_cl (sh_M_valueAt N h2 a0 v1) (fun v3 h4 => ?_)
  exact Sh_some
theorem sh_M_addStands_140 (N : Nat)  : ∀ (n : Nat) (h : hS) (th : Nat) (x2 : Int32) (x5 : Int32), Sh h (f_M_addStands_140 N  n h th x2 x5) := by
  intro n
  induction n with
  | zero =>
    intro h th x2 x5
    exact Sh_none
  | succ n ih =>
    intro h th x2 x5
    unfold f_M_addStands_140
    refine Sh_ite ?_ ?_
    · exact Sh_some
    · refine Sh_gR (fun v1 => ?_)
      refine Sh_aJ (kd := 0) (fun v2 => ?_)
      refine Sh_gR (fun v3 => ?_)
      refine Sh_aJ (kd := 0) (fun v4 => ?_)
      refine Sh_uJ (fun h5 => ?_)
      refine Sh_bn (fun v6 => ?_)
      exact ih h5 th x2 v6
theorem sh_M_addStands_80 (N : Nat) {rc59 : hS → Nat → Nat → Int32 → Int64 → Int32 → Option (Unit × hS)} (hsh59 : ∀ (h : hS) (th : Nat) (a1 : Nat) (x2 : Int32) (x3 : Int64) (x5 : Int32), Sh h (rc59 h th a1 x2 x3 x5)) : ∀ (n : Nat) (h : hS) (th : Nat) (a1 : Nat) (x2 : Int32) (x3 : Int64) (x5 : Int32) (x6 : Int32) (x7 : Int32), Sh h (f_M_addStands_80 N rc59 n h th a1 x2 x3 x5 x6 x7) := by
  intro n
  induction n with
  | zero =>
    intro h th a1 x2 x3 x5 x6 x7
    exact Sh_none
  | succ n ih =>
    intro h th a1 x2 x3 x5 x6 x7
    unfold f_M_addStands_80
    refine Sh_ite ?_ ?_
    · refine Sh_bn (fun v1 => ?_)
      refine Sh_bn (fun v2 => ?_)
      refine Sh_bn (fun v3 => ?_)
      exact hsh59 h th a1 v1 v2 v3
    · refine Sh_gR (fun v4 => ?_)
      refine Sh_uJ (fun h5 => ?_)
      refine Sh_bn (fun v6 => ?_)
      exact ih h5 th a1 x2 x3 x5 x6 v6
theorem sh_M_addStands_59 (N : Nat)  : ∀ (n : Nat) (h : hS) (th : Nat) (a1 : Nat) (x2 : Int32) (x3 : Int64) (x5 : Int32), Sh h (f_M_addStands_59 N  n h th a1 x2 x3 x5) := by
  intro n
  induction n with
  | zero =>
    intro h th a1 x2 x3 x5
    exact Sh_none
  | succ n ih =>
    intro h th a1 x2 x3 x5
    unfold f_M_addStands_59
    refine Sh_ite ?_ ?_
    · refine Sh_aI (fun v1 => ?_)
      exact sh_M_addStands_140 N  N h th x2 v1
    · refine Sh_aI (fun v2 => ?_)
      refine Sh_bn (fun v3 => ?_)
      exact sh_M_addStands_80 N ih N h th a1 x2 x3 x5 v2 v3
theorem sh_M_addStands (N : Nat) (h : hS) (th : Nat) (a1 : Nat) : Sh h (f_M_addStands N h th a1) := by
  unfold f_M_addStands
  refine Sh_gI (fun v1 => ?_)
  refine Sh_aI (fun v2 => ?_)
  refine Sh_pI (fun h3 => ?_)
  refine Sh_gI (fun v4 => ?_)
  refine Sh_cl (sh_M_last N h3 a1) (fun v5 h6 => ?_)
  refine Sh_pI (fun h7 => ?_)
  refine Sh_aI (fun v8 => ?_)
  refine Sh_aI (fun v9 => ?_)
  refine Sh_bn (fun v10 => ?_)
  refine Sh_gR (fun v11 => ?_)
  refine Sh_uJ (fun h12 => ?_)
  exact sh_M_addStands_59 N  N h12 th a1 v8 v10 (0 : Int32)
theorem sh_M_clearStands_16 (N : Nat)  : ∀ (n : Nat) (h : hS) (th : Nat) (x1 : Int32), Sh h (f_M_clearStands_16 N  n h th x1) := by
  intro n
  induction n with
  | zero =>
    intro h th x1
    exact Sh_none
  | succ n ih =>
    intro h th x1
    unfold f_M_clearStands_16
    refine Sh_gR (fun v1 => ?_)
    refine Sh_lnA (fun v2 => ?_)
    refine Sh_ite ?_ ?_
    · exact Sh_some
    · refine Sh_gR (fun v3 => ?_)
      refine Sh_uJ (fun h4 => ?_)
      refine Sh_bn (fun v5 => ?_)
      exact ih h4 th v5
theorem sh_M_clearStands (N : Nat) (h : hS) (th : Nat) : Sh h (f_M_clearStands N h th) := by
  unfold f_M_clearStands
  refine Sh_pI (fun h1 => ?_)
  refine Sh_pI (fun h2 => ?_)
  exact sh_M_clearStands_16 N  N h2 th (0 : Int32)
theorem sh_M_together_87 (N : Nat) {rc39 : hS → Nat → Int32 → Int64 → Int32 → Option (Int64 × hS)} (hsh39 : ∀ (h : hS) (th : Nat) (x1 : Int32) (x2 : Int64) (x4 : Int32), Sh h (rc39 h th x1 x2 x4)) : ∀  (h : hS) (th : Nat) (x1 : Int32) (x2 : Int64) (x4 : Int32), Sh h (f_M_together_87 N rc39  h th x1 x2 x4) := by
  intro h th x1 x2 x4
  unfold f_M_together_87
  refine Sh_bn (fun v1 => ?_)
  exact hsh39 h th x1 x2 v1
theorem sh_M_together_39 (N : Nat)  : ∀ (n : Nat) (h : hS) (th : Nat) (x1 : Int32) (x2 : Int64) (x4 : Int32), Sh h (f_M_together_39 N  n h th x1 x2 x4) := by
  intro n
  induction n with
  | zero =>
    intro h th x1 x2 x4
    exact Sh_none
  | succ n ih =>
    intro h th x1 x2 x4
    unfold f_M_together_39
    refine Sh_gI (fun v1 => ?_)
    refine Sh_ite ?_ ?_
    · exact Sh_some
    · refine Sh_gR (fun v2 => ?_)
      refine Sh_aJ (kd := 0) (fun v3 => ?_)
      refine Sh_bn (fun v4 => ?_)
      refine Sh_ite ?_ ?_
      · refine Sh_pI (fun h5 => ?_)
        exact sh_M_together_87 N ih  h5 th x1 v4 x4
      · exact sh_M_together_87 N ih  h th x1 x2 x4
theorem sh_M_together (N : Nat) (h : hS) (th : Nat) (x1 : Int32) : Sh h (f_M_together N h th x1) := by
  unfold f_M_together
  refine Sh_gI (fun v1 => ?_)
  refine Sh_pI (fun h2 => ?_)
  refine Sh_gI (fun v3 => ?_)
  refine Sh_gR (fun v4 => ?_)
  refine Sh_gI (fun v5 => ?_)
  refine Sh_aJ (kd := 0) (fun v6 => ?_)
  refine Sh_bn (fun v7 => ?_)
  refine Sh_gI (fun v8 => ?_)
  refine Sh_bn (fun v9 => ?_)
  exact sh_M_together_39 N  N h2 th x1 v7 v9
theorem sh_M_refusal_32 (N : Nat)  : ∀  (h : hS) (y0 : Int32), Sh h (f_M_refusal_32 N   h y0) := by
  intro h y0
  unfold f_M_refusal_32
  exact Sh_some
theorem sh_M_refusal_16 (N : Nat)  : ∀  (h : hS) , Sh h (f_M_refusal_16 N   h ) := by
  intro h 
  unfold f_M_refusal_16
  exact sh_M_refusal_32 N   h (1 : Int32)
theorem sh_M_refusal (N : Nat) (h : hS) (th : Nat) (x1 : Int32) (x2 : Int32) (x3 : Int32) : Sh h (f_M_refusal N h th x1 x2 x3) := by
  unfold f_M_refusal
  refine Sh_cv (fun a => (sh_M_isCost N h a x1)) (fun v1 h2 => ?_)
  refine Sh_ite ?_ ?_
  · exact sh_M_refusal_16 N   h2 
  · refine Sh_cv (fun a => (sh_M_isCost N h2 a x2)) (fun v3 h4 => ?_)
    refine Sh_ite ?_ ?_
    · exact sh_M_refusal_16 N   h4 
    · refine Sh_cl (sh_M_isX N h4 x3) (fun v5 h6 => ?_)
      refine Sh_ite ?_ ?_
      · exact sh_M_refusal_32 N   h6 (2 : Int32)
      · exact sh_M_refusal_32 N   h6 (0 : Int32)
theorem sh_M_refuse (N : Nat) (h : hS) (th : Nat) (x1 : Int32) : Sh h (f_M_refuse N h th x1) := by
  unfold f_M_refuse
  refine Sh_gR (fun v1 => ?_)
  refine Sh_aI (fun v2 => ?_)
  refine Sh_uI (fun h3 => ?_)
  exact Sh_some
theorem sh_M_keep_56 (N : Nat)  : ∀ (n : Nat) (h : hS) (th : Nat) (x1 : Int32), Sh h (f_M_keep_56 N  n h th x1) := by
  intro n
  induction n with
  | zero =>
    intro h th x1
    exact Sh_none
  | succ n ih =>
    intro h th x1
    unfold f_M_keep_56
    refine Sh_ite ?_ ?_
    · refine Sh_gI (fun v1 => ?_)
      refine Sh_pI (fun h2 => ?_)
      exact Sh_some
    · refine Sh_gR (fun v3 => ?_)
      refine Sh_gI (fun v4 => ?_)
      refine Sh_gR (fun v5 => ?_)
      refine Sh_aI (fun v6 => ?_)
      refine Sh_uI (fun h7 => ?_)
      refine Sh_bn (fun v8 => ?_)
      exact ih h7 th v8
theorem sh_M_keep_54 (N : Nat)  : ∀  (h : hS) (th : Nat), Sh h (f_M_keep_54 N   h th) := by
  intro h th
  unfold f_M_keep_54
  exact sh_M_keep_56 N  N h th (0 : Int32)
theorem sh_M_keep_13 (N : Nat)  : ∀ (n : Nat) (h : hS) (th : Nat) (x1 : Int32), Sh h (f_M_keep_13 N  n h th x1) := by
  intro n
  induction n with
  | zero =>
    intro h th x1
    exact Sh_none
  | succ n ih =>
    intro h th x1
    unfold f_M_keep_13
    refine Sh_gR (fun v1 => ?_)
    refine Sh_lnA (fun v2 => ?_)
    refine Sh_ite ?_ ?_
    · refine Sh_gI (fun v3 => ?_)
      refine Sh_pI (fun h4 => ?_)
      exact sh_M_keep_54 N   h4 th
    · refine Sh_gR (fun v5 => ?_)
      refine Sh_gR (fun v6 => ?_)
      refine Sh_aI (fun v7 => ?_)
      refine Sh_uI (fun h8 => ?_)
      refine Sh_bn (fun v9 => ?_)
      exact ih h8 th v9
theorem sh_M_keep (N : Nat) (h : hS) (th : Nat) : Sh h (f_M_keep N h th) := by
  unfold f_M_keep
  refine Sh_gI (fun v1 => ?_)
  refine Sh_ite ?_ ?_
  · exact sh_M_keep_13 N  N h th (644 : Int32)
  · exact sh_M_keep_54 N   h th
theorem sh_M_isStepTold_83 (N : Nat)  : ∀  (h : hS) (y0 : Int32), Sh h (f_M_isStepTold_83 N   h y0) := by
  intro h y0
  unfold f_M_isStepTold_83
  exact Sh_bz Sh_some
theorem sh_M_isStepTold_82 (N : Nat)  : ∀  (h : hS) , Sh h (f_M_isStepTold_82 N   h ) := by
  intro h 
  unfold f_M_isStepTold_82
  exact sh_M_isStepTold_83 N   h (0 : Int32)
theorem sh_M_isStepTold_52 (N : Nat)  : ∀  (h : hS) (x2 : Int32) (x3 : Int32), Sh h (f_M_isStepTold_52 N   h x2 x3) := by
  intro h x2 x3
  unfold f_M_isStepTold_52
  refine Sh_cl (sh_M_isIn N h x2.toInt64 (-500 : Int64) (500 : Int64)) (fun v1 h2 => ?_)
  refine Sh_ite ?_ ?_
  · exact sh_M_isStepTold_82 N   h2 
  · refine Sh_cl (sh_M_isIn N h2 x3.toInt64 (0 : Int64) (99 : Int64)) (fun v3 h4 => ?_)
    refine Sh_ite ?_ ?_
    · exact sh_M_isStepTold_82 N   h4 
    · exact sh_M_isStepTold_83 N   h4 (1 : Int32)
theorem sh_M_isStepTold_125 (N : Nat)  : ∀  (h : hS) (y0 : Int32), Sh h (f_M_isStepTold_125 N   h y0) := by
  intro h y0
  unfold f_M_isStepTold_125
  exact Sh_bz Sh_some
theorem sh_M_isStepTold_124 (N : Nat)  : ∀  (h : hS) , Sh h (f_M_isStepTold_124 N   h ) := by
  intro h 
  unfold f_M_isStepTold_124
  exact sh_M_isStepTold_125 N   h (0 : Int32)
theorem sh_M_isStepTold_175 (N : Nat)  : ∀  (h : hS) (y0 : Int32), Sh h (f_M_isStepTold_175 N   h y0) := by
  intro h y0
  unfold f_M_isStepTold_175
  exact Sh_bz Sh_some
theorem sh_M_isStepTold_170 (N : Nat)  : ∀  (h : hS) , Sh h (f_M_isStepTold_170 N   h ) := by
  intro h 
  unfold f_M_isStepTold_170
  exact sh_M_isStepTold_175 N   h (1 : Int32)
theorem sh_M_isStepTold_159 (N : Nat)  : ∀  (h : hS) (x1 : Int32), Sh h (f_M_isStepTold_159 N   h x1) := by
  intro h x1
  unfold f_M_isStepTold_159
  refine Sh_ite ?_ ?_
  · exact sh_M_isStepTold_170 N   h 
  · refine Sh_ite ?_ ?_
    · exact sh_M_isStepTold_170 N   h 
    · exact sh_M_isStepTold_175 N   h (0 : Int32)
theorem sh_M_isStepTold_158 (N : Nat)  : ∀  (h : hS) (y0 : Int32), Sh h (f_M_isStepTold_158 N   h y0) := by
  intro h y0
  unfold f_M_isStepTold_158
  exact Sh_bz Sh_some
theorem sh_M_isStepTold_157 (N : Nat)  : ∀  (h : hS) , Sh h (f_M_isStepTold_157 N   h ) := by
  intro h 
  unfold f_M_isStepTold_157
  exact sh_M_isStepTold_158 N   h (0 : Int32)
theorem sh_M_isStepTold (N : Nat) (h : hS) (x0 : Int32) (x1 : Int32) (x2 : Int32) (x3 : Int32) : Sh h (f_M_isStepTold N h x0 x1 x2 x3) := by
  unfold f_M_isStepTold
  refine Sh_ite ?_ ?_
  ·
    exact sh_M_isStepTold_52 N   h x2 x3
  ·
    refine Sh_ite ?_ ?_
    ·
      exact sh_M_isStepTold_52 N   h x2 x3
    ·
      refine Sh_ite ?_ ?_
      ·
        exact sh_M_isStepTold_52 N   h x2 x3
      ·
        refine Sh_ite ?_ ?_
        ·
          refine Sh_cl (sh_M_isIn N h x2.toInt64 (-500 : Int64) (500 : Int64)) (fun v1 h2 => ?_)
          exact Sh_bz Sh_some
        ·
          refine Sh_ite ?_ ?_
          ·
            refine Sh_cl (sh_M_isIn N h x2.toInt64 (0 : Int64) (99 : Int64)) (fun v3 h4 => ?_)
            refine Sh_ite ?_ ?_
            · exact sh_M_isStepTold_124 N   h4 
            · refine Sh_cl (sh_M_isIn N h4 x3.toInt64 (0 : Int64) (99 : Int64)) (fun v5 h6 => ?_)
              refine Sh_ite ?_ ?_
              · exact sh_M_isStepTold_124 N   h6 
              · exact sh_M_isStepTold_125 N   h6 (1 : Int32)
          ·
            refine Sh_ite ?_ ?_
            ·
              exact sh_M_isStepTold_159 N   h x1
            ·
              refine Sh_ite ?_ ?_
              ·
                exact sh_M_isStepTold_159 N   h x1
              ·
                refine Sh_ite ?_ ?_
                ·
                  refine Sh_cl (sh_M_isIn N h x2.toInt64 (0 : Int64) (999 : Int64)) (fun v7 h8 => ?_)
                  exact Sh_bz Sh_some
                ·
                  refine Sh_ite ?_ ?_
                  ·
                    refine Sh_cl (sh_M_isIn N h x2.toInt64 (0 : Int64) (3 : Int64)) (fun v9 h10 => ?_)
                    refine Sh_ite ?_ ?_
                    · exact sh_M_isStepTold_157 N   h10 
                    · refine Sh_ite ?_ ?_
                      · exact sh_M_isStepTold_157 N   h10 
                      · exact sh_M_isStepTold_158 N   h10 (1 : Int32)
                  ·
                    exact sh_M_isStepTold_159 N   h x1
theorem sh_M_undo_26 (N : Nat)  : ∀ (n : Nat) (h : hS) (th : Nat) (x1 : Int32), Sh h (f_M_undo_26 N  n h th x1) := by
  intro n
  induction n with
  | zero =>
    intro h th x1
    exact Sh_none
  | succ n ih =>
    intro h th x1
    unfold f_M_undo_26
    refine Sh_ite ?_ ?_
    · refine Sh_gI (fun v1 => ?_)
      exact Sh_some
    · refine Sh_gR (fun v2 => ?_)
      refine Sh_gR (fun v3 => ?_)
      refine Sh_gI (fun v4 => ?_)
      refine Sh_aI (fun v5 => ?_)
      refine Sh_uI (fun h6 => ?_)
      refine Sh_gR (fun v7 => ?_)
      refine Sh_gI (fun v8 => ?_)
      refine Sh_uI (fun h9 => ?_)
      refine Sh_bn (fun v10 => ?_)
      exact ih h9 th v10
theorem sh_M_undo (N : Nat) (h : hS) (th : Nat) : Sh h (f_M_undo N h th) := by
  unfold f_M_undo
  refine Sh_pI (fun h1 => ?_)
  refine Sh_gI (fun v2 => ?_)
  refine Sh_ite ?_ ?_
  · exact Sh_some
  · refine Sh_gI (fun v3 => ?_)
    refine Sh_pI (fun h4 => ?_)
    exact sh_M_undo_26 N  N h4 th (0 : Int32)
theorem sh_M_note_21 (N : Nat)  : ∀  (h : hS) (th : Nat), Sh h (f_M_note_21 N   h th) := by
  intro h th
  unfold f_M_note_21
  refine Sh_cv (fun a => (sh_M_refuse N h a (2 : Int32))) (fun v1 h2 => ?_)
  exact Sh_some
theorem sh_M_note (N : Nat) (h : hS) (th : Nat) (x1 : Int32) (x2 : Int64) : Sh h (f_M_note N h th x1 x2) := by
  unfold f_M_note
  refine Sh_pI (fun h1 => ?_)
  refine Sh_gI (fun v2 => ?_)
  refine Sh_ite ?_ ?_
  · exact sh_M_note_21 N   h1 th
  · refine Sh_cl (sh_M_isX N h1 x1) (fun v3 h4 => ?_)
    refine Sh_ite ?_ ?_
    · exact sh_M_note_21 N   h4 th
    · refine Sh_gR (fun v5 => ?_)
      refine Sh_gI (fun v6 => ?_)
      refine Sh_uI (fun h7 => ?_)
      refine Sh_gR (fun v8 => ?_)
      refine Sh_gI (fun v9 => ?_)
      refine Sh_uJ (fun h10 => ?_)
      refine Sh_gI (fun v11 => ?_)
      refine Sh_pI (fun h12 => ?_)
      refine Sh_gI (fun v13 => ?_)
      exact Sh_some
theorem sh_M_forget (N : Nat) (h : hS) (th : Nat) : Sh h (f_M_forget N h th) := by
  unfold f_M_forget
  refine Sh_pI (fun h1 => ?_)
  refine Sh_pI (fun h2 => ?_)
  exact Sh_some
theorem sh_M_draw (N : Nat) (h : hS) (th : Nat) (x1 : Int32) : Sh h (f_M_draw N h th x1) := by
  unfold f_M_draw
  refine Sh_gI (fun v1 => ?_)
  refine Sh_pI (fun h2 => ?_)
  refine Sh_gI (fun v3 => ?_)
  refine Sh_dv ?_
  exact Sh_some
theorem sh_M_image_61 (N : Nat)  : ∀ (n : Nat) (h : hS) (th : Nat) (x1 : Int32), Sh h (f_M_image_61 N  n h th x1) := by
  intro n
  induction n with
  | zero =>
    intro h th x1
    exact Sh_none
  | succ n ih =>
    intro h th x1
    unfold f_M_image_61
    refine Sh_ite ?_ ?_
    · refine Sh_gR (fun v1 => ?_)
      refine Sh_gR (fun v2 => ?_)
      refine Sh_nn (fun q3 => ?_)
      refine Sh_nn (fun q4 => ?_)
      refine Sh_cl (sh_M_copyTo N h q3 q4) (fun v5 h6 => ?_)
      exact Sh_some
    · refine Sh_gR (fun v7 => ?_)
      refine Sh_gR (fun v8 => ?_)
      refine Sh_aJ (kd := 0) (fun v9 => ?_)
      refine Sh_uJ (fun h10 => ?_)
      refine Sh_bn (fun v11 => ?_)
      exact ih h10 th v11
theorem sh_M_image (N : Nat) (h : hS) (th : Nat) : Sh h (f_M_image N h th) := by
  unfold f_M_image
  refine Sh_pI (fun h1 => ?_)
  refine Sh_pZ (fun h2 => ?_)
  refine Sh_gI (fun v3 => ?_)
  refine Sh_pI (fun h4 => ?_)
  refine Sh_gI (fun v5 => ?_)
  refine Sh_pI (fun h6 => ?_)
  refine Sh_gR (fun v7 => ?_)
  refine Sh_gR (fun v8 => ?_)
  refine Sh_nn (fun q9 => ?_)
  refine Sh_nn (fun q10 => ?_)
  refine Sh_cl (sh_M_copyTo N h6 q9 q10) (fun v11 h12 => ?_)
  refine Sh_gR (fun v13 => ?_)
  refine Sh_gR (fun v14 => ?_)
  refine Sh_nn (fun q15 => ?_)
  refine Sh_nn (fun q16 => ?_)
  refine Sh_cl (sh_M_copyTo N h12 q15 q16) (fun v17 h18 => ?_)
  refine Sh_gR (fun v19 => ?_)
  refine Sh_gR (fun v20 => ?_)
  refine Sh_nn (fun q21 => ?_)
  refine Sh_nn (fun q22 => ?_)
  refine Sh_cl (sh_M_copyTo N h18 q21 q22) (fun v23 h24 => ?_)
  exact sh_M_image_61 N  N h24 th (0 : Int32)
theorem sh_M_restore_65 (N : Nat)  : ∀ (n : Nat) (h : hS) (th : Nat) (x1 : Int32), Sh h (f_M_restore_65 N  n h th x1) := by
  intro n
  induction n with
  | zero =>
    intro h th x1
    exact Sh_none
  | succ n ih =>
    intro h th x1
    unfold f_M_restore_65
    refine Sh_ite ?_ ?_
    · refine Sh_gR (fun v1 => ?_)
      refine Sh_gR (fun v2 => ?_)
      refine Sh_nn (fun q3 => ?_)
      refine Sh_nn (fun q4 => ?_)
      refine Sh_cl (sh_M_copyTo N h q3 q4) (fun v5 h6 => ?_)
      exact Sh_bz Sh_some
    · refine Sh_gR (fun v7 => ?_)
      refine Sh_gR (fun v8 => ?_)
      refine Sh_aJ (kd := 0) (fun v9 => ?_)
      refine Sh_uJ (fun h10 => ?_)
      refine Sh_bn (fun v11 => ?_)
      exact ih h10 th v11
theorem sh_M_restore (N : Nat) (h : hS) (th : Nat) : Sh h (f_M_restore N h th) := by
  unfold f_M_restore
  refine Sh_pI (fun h1 => ?_)
  refine Sh_gI (fun v2 => ?_)
  refine Sh_ite ?_ ?_
  · exact Sh_bz Sh_some
  · refine Sh_gI (fun v3 => ?_)
    refine Sh_pI (fun h4 => ?_)
    refine Sh_gI (fun v5 => ?_)
    refine Sh_pI (fun h6 => ?_)
    refine Sh_gR (fun v7 => ?_)
    refine Sh_gR (fun v8 => ?_)
    refine Sh_nn (fun q9 => ?_)
    refine Sh_nn (fun q10 => ?_)
    refine Sh_cl (sh_M_copyTo N h6 q9 q10) (fun v11 h12 => ?_)
    refine Sh_gR (fun v13 => ?_)
    refine Sh_gR (fun v14 => ?_)
    refine Sh_nn (fun q15 => ?_)
    refine Sh_nn (fun q16 => ?_)
    refine Sh_cl (sh_M_copyTo N h12 q15 q16) (fun v17 h18 => ?_)
    refine Sh_gR (fun v19 => ?_)
    refine Sh_gR (fun v20 => ?_)
    refine Sh_nn (fun q21 => ?_)
    refine Sh_nn (fun q22 => ?_)
    refine Sh_cl (sh_M_copyTo N h18 q21 q22) (fun v23 h24 => ?_)
    exact sh_M_restore_65 N  N h24 th (0 : Int32)
theorem sh_M_names_59 (N : Nat) {rc2 : hS → Nat → Nat → Int32 → Option (Unit × hS)} (hsh2 : ∀ (h : hS) (th : Nat) (a1 : Nat) (x2 : Int32), Sh h (rc2 h th a1 x2)) {rc14 : hS → Nat → Nat → Int32 → Int32 → Option (Unit × hS)} (hsh14 : ∀ (h : hS) (th : Nat) (a1 : Nat) (x2 : Int32) (x3 : Int32), Sh h (rc14 h th a1 x2 x3)) : ∀  (h : hS) (th : Nat) (a1 : Nat) (x2 : Int32) (x3 : Int32), Sh h (f_M_names_59 N rc2 rc14  h th a1 x2 x3) := by
  intro h th a1 x2 x3
  unfold f_M_names_59
  refine Sh_bn (fun v1 => ?_)
  exact hsh14 h th a1 x2 v1
theorem sh_M_names_14 (N : Nat) {rc2 : hS → Nat → Nat → Int32 → Option (Unit × hS)} (hsh2 : ∀ (h : hS) (th : Nat) (a1 : Nat) (x2 : Int32), Sh h (rc2 h th a1 x2)) : ∀ (n : Nat) (h : hS) (th : Nat) (a1 : Nat) (x2 : Int32) (x3 : Int32), Sh h (f_M_names_14 N rc2 n h th a1 x2 x3) := by
  intro n
  induction n with
  | zero =>
    intro h th a1 x2 x3
    exact Sh_none
  | succ n ih =>
    intro h th a1 x2 x3
    unfold f_M_names_14
    refine Sh_aI (fun v1 => ?_)
    refine Sh_ite ?_ ?_
    · refine Sh_bn (fun v2 => ?_)
      exact hsh2 h th a1 v2
    · refine Sh_bn (fun v3 => ?_)
      refine Sh_aI (fun v4 => ?_)
      refine Sh_ite ?_ ?_
      · refine Sh_gR (fun v5 => ?_)
        refine Sh_aI (fun v6 => ?_)
        refine Sh_uZ (fun h7 => ?_)
        exact sh_M_names_59 N hsh2 ih  h7 th a1 x2 x3
      · exact sh_M_names_59 N hsh2 ih  h th a1 x2 x3
theorem sh_M_names_2 (N : Nat)  : ∀ (n : Nat) (h : hS) (th : Nat) (a1 : Nat) (x2 : Int32), Sh h (f_M_names_2 N  n h th a1 x2) := by
  intro n
  induction n with
  | zero =>
    intro h th a1 x2
    exact Sh_none
  | succ n ih =>
    intro h th a1 x2
    unfold f_M_names_2
    refine Sh_lnA (fun v1 => ?_)
    refine Sh_dv ?_
    refine Sh_ite ?_ ?_
    · exact Sh_some
    · exact sh_M_names_14 N ih N h th a1 x2 (0 : Int32)
theorem sh_M_names (N : Nat) (h : hS) (th : Nat) (a1 : Nat) : Sh h (f_M_names N h th a1) := by
  unfold f_M_names
  exact sh_M_names_2 N  N h th a1 (0 : Int32)
theorem sh_M_tellByte_16 (N : Nat)  : ∀  (h : hS) (th : Nat), Sh h (f_M_tellByte_16 N   h th) := by
  intro h th
  unfold f_M_tellByte_16
  refine Sh_gI (fun v1 => ?_)
  refine Sh_pI (fun h2 => ?_)
  exact Sh_some
theorem sh_M_tellByte (N : Nat) (h : hS) (th : Nat) (x1 : Int32) : Sh h (f_M_tellByte N h th x1) := by
  unfold f_M_tellByte
  refine Sh_gI (fun v1 => ?_)
  refine Sh_gI (fun v2 => ?_)
  refine Sh_ite ?_ ?_
  · refine Sh_pI (fun h3 => ?_)
    exact sh_M_tellByte_16 N   h3 th
  · exact sh_M_tellByte_16 N   h th
theorem sh_M_thrown (N : Nat) (h : hS) (th : Nat) : Sh h (f_M_thrown N h th) := by
  unfold f_M_thrown
  refine Sh_gI (fun v1 => ?_)
  exact Sh_some
theorem sh_M_unlike_99 (N : Nat) {rc4 : hS → Nat → Int32 → Int32 → Int32 → Option (Int32 × hS)} (hsh4 : ∀ (h : hS) (th : Nat) (x1 : Int32) (x2 : Int32) (x3 : Int32), Sh h (rc4 h th x1 x2 x3)) : ∀  (h : hS) (th : Nat) (x1 : Int32) (x3 : Int32) (y0 : Int32) (y1 : Int32), Sh h (f_M_unlike_99 N rc4  h th x1 x3 y0 y1) := by
  intro h th x1 x3 y0 y1
  unfold f_M_unlike_99
  refine Sh_bn (fun v1 => ?_)
  refine Sh_bn (fun v2 => ?_)
  exact hsh4 h th x1 v1 v2
theorem sh_M_unlike_88 (N : Nat) {rc4 : hS → Nat → Int32 → Int32 → Int32 → Option (Int32 × hS)} (hsh4 : ∀ (h : hS) (th : Nat) (x1 : Int32) (x2 : Int32) (x3 : Int32), Sh h (rc4 h th x1 x2 x3)) : ∀  (h : hS) (th : Nat) (x1 : Int32) (x2 : Int32) (x3 : Int32) (x4 : Int32), Sh h (f_M_unlike_88 N rc4  h th x1 x2 x3 x4) := by
  intro h th x1 x2 x3 x4
  unfold f_M_unlike_88
  refine Sh_ite ?_ ?_
  · exact sh_M_unlike_99 N hsh4  h th x1 x3 x2 (0 : Int32)
  · exact sh_M_unlike_99 N hsh4  h th x1 x3 x2 (1 : Int32)
theorem sh_M_unlike_80 (N : Nat) {rc4 : hS → Nat → Int32 → Int32 → Int32 → Option (Int32 × hS)} (hsh4 : ∀ (h : hS) (th : Nat) (x1 : Int32) (x2 : Int32) (x3 : Int32), Sh h (rc4 h th x1 x2 x3)) {rc21 : hS → Nat → Int32 → Int32 → Int32 → Int32 → Int32 → Option (Int32 × hS)} (hsh21 : ∀ (h : hS) (th : Nat) (x1 : Int32) (x2 : Int32) (x3 : Int32) (x4 : Int32) (x5 : Int32), Sh h (rc21 h th x1 x2 x3 x4 x5)) : ∀  (h : hS) (th : Nat) (x1 : Int32) (x2 : Int32) (x3 : Int32) (x5 : Int32) (y0 : Int32), Sh h (f_M_unlike_80 N rc4 rc21  h th x1 x2 x3 x5 y0) := by
  intro h th x1 x2 x3 x5 y0
  unfold f_M_unlike_80
  refine Sh_bn (fun v1 => ?_)
  exact hsh21 h th x1 x2 x3 y0 v1
theorem sh_M_unlike_75 (N : Nat) {rc4 : hS → Nat → Int32 → Int32 → Int32 → Option (Int32 × hS)} (hsh4 : ∀ (h : hS) (th : Nat) (x1 : Int32) (x2 : Int32) (x3 : Int32), Sh h (rc4 h th x1 x2 x3)) {rc21 : hS → Nat → Int32 → Int32 → Int32 → Int32 → Int32 → Option (Int32 × hS)} (hsh21 : ∀ (h : hS) (th : Nat) (x1 : Int32) (x2 : Int32) (x3 : Int32) (x4 : Int32) (x5 : Int32), Sh h (rc21 h th x1 x2 x3 x4 x5)) : ∀  (h : hS) (th : Nat) (x1 : Int32) (x2 : Int32) (x3 : Int32) (x5 : Int32), Sh h (f_M_unlike_75 N rc4 rc21  h th x1 x2 x3 x5) := by
  intro h th x1 x2 x3 x5
  unfold f_M_unlike_75
  exact sh_M_unlike_80 N hsh4 hsh21  h th x1 x2 x3 x5 (1 : Int32)
theorem sh_M_unlike_21 (N : Nat) {rc4 : hS → Nat → Int32 → Int32 → Int32 → Option (Int32 × hS)} (hsh4 : ∀ (h : hS) (th : Nat) (x1 : Int32) (x2 : Int32) (x3 : Int32), Sh h (rc4 h th x1 x2 x3)) : ∀ (n : Nat) (h : hS) (th : Nat) (x1 : Int32) (x2 : Int32) (x3 : Int32) (x4 : Int32) (x5 : Int32), Sh h (f_M_unlike_21 N rc4 n h th x1 x2 x3 x4 x5) := by
  intro n
  induction n with
  | zero =>
    intro h th x1 x2 x3 x4 x5
    exact Sh_none
  | succ n ih =>
    intro h th x1 x2 x3 x4 x5
    unfold f_M_unlike_21
    refine Sh_ite ?_ ?_
    · exact sh_M_unlike_88 N hsh4  h th x1 x2 x3 x4
    · refine Sh_ite ?_ ?_
      · exact sh_M_unlike_88 N hsh4  h th x1 x2 x3 x4
      · refine Sh_gR (fun v1 => ?_)
        refine Sh_aI (fun v2 => ?_)
        refine Sh_ite ?_ ?_
        · exact sh_M_unlike_75 N hsh4 ih  h th x1 x2 x3 x5
        · refine Sh_gR (fun v3 => ?_)
          refine Sh_aJ (kd := 0) (fun v4 => ?_)
          refine Sh_gR (fun v5 => ?_)
          refine Sh_aJ (kd := 0) (fun v6 => ?_)
          refine Sh_ite ?_ ?_
          · exact sh_M_unlike_80 N hsh4 ih  h th x1 x2 x3 x5 (0 : Int32)
          · exact sh_M_unlike_75 N hsh4 ih  h th x1 x2 x3 x5
theorem sh_M_unlike_4 (N : Nat)  : ∀ (n : Nat) (h : hS) (th : Nat) (x1 : Int32) (x2 : Int32) (x3 : Int32), Sh h (f_M_unlike_4 N  n h th x1 x2 x3) := by
  intro n
  induction n with
  | zero =>
    intro h th x1 x2 x3
    exact Sh_none
  | succ n ih =>
    intro h th x1 x2 x3
    unfold f_M_unlike_4
    refine Sh_ite ?_ ?_
    · exact Sh_some
    · refine Sh_gR (fun v1 => ?_)
      refine Sh_aI (fun v2 => ?_)
      exact sh_M_unlike_21 N ih N h th x1 x2 x3 v2 (0 : Int32)
theorem sh_M_unlike (N : Nat) (h : hS) (th : Nat) (x1 : Int32) : Sh h (f_M_unlike N h th x1) := by
  unfold f_M_unlike
  exact sh_M_unlike_4 N  N h th x1 (0 : Int32) (0 : Int32)
set_option maxRecDepth 20000 in
set_option maxHeartbeats 4000000 in
theorem b_M_isIn_18 {p : Program} {l : Launch} {e : Env} {s : State} {m : MethodId} {args : Array Value} {below : List Frame} {meth : Method} {c : Code} {D : va_G} {cy : cyT} {z : Nat} (C : MX p s m args meth c cX12_isIn 6 ((some .boolean)) RX12 (Cond.code yX12_isIn cX12_isIn 6 ((some .boolean)) :: GW)) (N : Nat) {r : Int32} {g : hS}  : ∀  (h : hS) (y0 : Int32) (H : Heap) (locs : List Loc) (ls : Array Slot), wd D cy z s 0 h H locs → lv_has ls 6 [] → f_M_isIn_18 N   h y0 = some (r, g) → W p l e { frames := 0, cells := 0, slots := 0, locals := 0 } s m args below meth c H locs 0 0 (MQ below (eQ D cy z (rI r) g) args s 0 0 (fun q => z ≤ q)) (F0 m 18 ls [.int y0]) := by
  obtain ⟨hx, hb, hr, hml, hown, hts, hlk⟩ := id C
  intro  h y0 H locs ls w  hl hE
  unfold f_M_isIn_18 at hE
  exact w_zret C w hE dX12_isIn_18
set_option maxRecDepth 20000 in
set_option maxHeartbeats 4000000 in
theorem b_M_isIn_17 {p : Program} {l : Launch} {e : Env} {s : State} {m : MethodId} {args : Array Value} {below : List Frame} {meth : Method} {c : Code} {D : va_G} {cy : cyT} {z : Nat} (C : MX p s m args meth c cX12_isIn 6 ((some .boolean)) RX12 (Cond.code yX12_isIn cX12_isIn 6 ((some .boolean)) :: GW)) (N : Nat) {r : Int32} {g : hS}  : ∀  (h : hS)  (H : Heap) (locs : List Loc) (ls : Array Slot), wd D cy z s 0 h H locs → lv_has ls 6 [] → f_M_isIn_17 N   h  = some (r, g) → W p l e { frames := 0, cells := 0, slots := 0, locals := 0 } s m args below meth c H locs 0 0 (MQ below (eQ D cy z (rI r) g) args s 0 0 (fun q => z ≤ q)) (F0 m 17 ls []) := by
  obtain ⟨hx, hb, hr, hml, hown, hts, hlk⟩ := id C
  intro  h  H locs ls w  hl hE
  unfold f_M_isIn_17 at hE
  refine lv_iconst (v := 0) hx hb dX12_isIn_17 (by decide) ?_
  exact b_M_isIn_18 C N     h (0 : Int32) _ _ ls w  (lv_sub hl [] rfl) hE
set_option maxRecDepth 20000 in
set_option maxHeartbeats 4000000 in
theorem k_M_isIn (l : Launch) (D : va_G) (cy : cyT) (z : Nat) (N : Nat) (h : hS) (x0 : Int64) (x2 : Int64) (x4 : Int64) (r : Int32) (g : hS) (hE : f_M_isIn N h x0 x2 x4 = some (r, g)) : ct l yX12_isIn (Cond.code yX12_isIn cX12_isIn 6 ((some .boolean)) :: GW) { frames := 0, cells := 0, slots := 0, locals := 0 } D cy z h [.long x0, .long x2, .long x4] (rI r) g := by
  refine Met.ofW (cc := cX12_isIn) (maxL := 6) (ret := (some .boolean)) (by decide) rfl ?_
  intro p e s m args below meth c s₁ B hml hv
  obtain ⟨rfl, hw⟩ := hv
  have C : MX p s m ([.long x0, .long x2, .long x4] : List Value).toArray meth c cX12_isIn 6 ((some .boolean)) RX12 (Cond.code yX12_isIn cX12_isIn 6 ((some .boolean)) :: GW) := ⟨B.exec, B.bytes, B.returns, hml, findClass_of_methodNamed B.named, atoms_spec (ws := Cond.code yX12_isIn cX12_isIn 6 ((some .boolean)) :: GW) B.pre, B.notSynchronized⟩
  obtain ⟨hx, hb, hr, hml, hown, hts, hlk⟩ := id C
  have w := wd_of hw
  obtain ⟨ls, hen, hl⟩ : ∃ ls : Array Slot, entryFrame m ([.long x0, .long x2, .long x4] : List Value).toArray 6 = F0 m 0 ls [] ∧ lv_has ls 6 [(0, .long x0), (2, .long x2), (4, .long x4)] := by
    exact ⟨_, lg_entry_eq _ _ _, lv_entry _ (Nat.le_of_ble_eq_true rfl)⟩
  rw [hen]
  unfold f_M_isIn at hE
  refine lv_lload_n hx hb dX12_isIn_0 rfl (lv_at hl 0 rfl) ?_
  refine lv_lload_n hx hb dX12_isIn_1 rfl (lv_at hl 1 rfl) ?_
  refine W.lcmp hx hb dX12_isIn_2 ?_
  refine w_if_lt (tgt := 17) C dX12_isIn_3 (by decide) hE (fun hc e1 => ?_) (fun hc e1 => ?_)
  · exact b_M_isIn_17 C N     h  _ _ ls w  (lv_sub hl [] rfl) e1
  · refine lv_lload_n hx hb dX12_isIn_6 rfl (lv_at hl 0 rfl) ?_
    refine lv_lload hx hb dX12_isIn_7 (lv_at hl 2 rfl) ?_
    refine W.lcmp hx hb dX12_isIn_9 ?_
    refine w_if_gt (tgt := 17) C dX12_isIn_10 (by decide) e1 (fun hc e2 => ?_) (fun hc e2 => ?_)
    · exact b_M_isIn_17 C N     h  _ _ ls w  (lv_sub hl [] rfl) e2
    · refine lv_iconst (v := 1) hx hb dX12_isIn_13 (by decide) ?_
      refine lv_goto (tgt := 18) hx hb dX12_isIn_14 (by decide) ?_
      exact b_M_isIn_18 C N     h (1 : Int32) _ _ ls w  (lv_sub hl [] rfl) e2
set_option maxRecDepth 20000 in
set_option maxHeartbeats 4000000 in
theorem b_M_copyTo_2 {p : Program} {l : Launch} {e : Env} {s : State} {m : MethodId} {args : Array Value} {below : List Frame} {meth : Method} {c : Code} {D : va_G} {cy : cyT} {z : Nat} (C : MX p s m args meth c cX12_copyTo 3 (none) RX12 (Cond.code yX12_copyTo cX12_copyTo 3 (none) :: GW)) (N : Nat) {r : Unit} {g : hS}  : ∀ (n : Nat) (h : hS) (a0 : Nat) (a1 : Nat) (x2 : Int32) (H : Heap) (locs : List Loc) (ls : Array Slot), wd D cy z s 0 h H locs → lv_has ls 3 [(0, .ref a0), (1, .ref a1), (2, .int x2)] → f_M_copyTo_2 N  n h a0 a1 x2 = some (r, g) → W p l e { frames := 0, cells := 0, slots := 0, locals := 0 } s m args below meth c H locs 0 0 (MQ below (eQ D cy z (rV r) g) args s 0 0 (fun q => z ≤ q)) (F0 m 2 ls []) := by
  obtain ⟨hx, hb, hr, hml, hown, hts, hlk⟩ := id C
  intro n
  induction n with
  | zero =>
    intro  h a0 a1 x2 H locs ls w  hl hE
    cases hE
  | succ n ih =>
    intro  h a0 a1 x2 H locs ls w  hl hE
    unfold f_M_copyTo_2 at hE
    refine lv_iload_n hx hb dX12_copyTo_2 rfl (lv_at hl 2 rfl) ?_
    refine lv_aload_n hx hb dX12_copyTo_3 rfl (lv_at hl 0 rfl) ?_
    refine w_lenI (r := some a0) C w dX12_copyTo_4 hE (fun v1 e1 => ?_)
    refine w_icmp_ge (tgt := 20) C dX12_copyTo_5 (by decide) e1 (fun hc e2 => ?_) (fun hc e2 => ?_)
    · exact w_vret C w e2 dX12_copyTo_20
    · refine lv_aload_n hx hb dX12_copyTo_8 rfl (lv_at hl 0 rfl) ?_
      refine lv_iload_n hx hb dX12_copyTo_9 rfl (lv_at hl 2 rfl) ?_
      refine lv_aload_n hx hb dX12_copyTo_10 rfl (lv_at hl 1 rfl) ?_
      refine lv_iload_n hx hb dX12_copyTo_11 rfl (lv_at hl 2 rfl) ?_
      refine w_aI (r := some a1) C w dX12_copyTo_12 e2 (fun v2 e3 => ?_)
      refine w_uI (r := some a0) C w dX12_copyTo_13 e3 (fun h3 H locs w hsh3 e4 => ?_)
      obtain ⟨v4, ev4, e5⟩ := bn_some e4
      refine lv_iinc (v := v4) (lv' := [(2, .int v4), (0, .ref a0), (1, .ref a1)]) hx hb dX12_copyTo_14 hl (k := 2) rfl (by rw [ev4]; rfl) (by decide) rfl (fun ls hl => ?_)
      refine lv_goto (tgt := 2) hx hb dX12_copyTo_17 (by decide) ?_
      exact ih  h3 a0 a1 v4 _ _ ls w  (lv_sub hl [1, 2, 0] rfl) e5
set_option maxRecDepth 20000 in
set_option maxHeartbeats 4000000 in
theorem k_M_copyTo (l : Launch) (D : va_G) (cy : cyT) (z : Nat) (N : Nat) (h : hS) (a0 : Nat) (a1 : Nat) (r : Unit) (g : hS) (hE : f_M_copyTo N h a0 a1 = some (r, g)) : ct l yX12_copyTo (Cond.code yX12_copyTo cX12_copyTo 3 (none) :: GW) { frames := 0, cells := 0, slots := 0, locals := 0 } D cy z h [.ref a0, .ref a1] (rV r) g := by
  refine Met.ofW (cc := cX12_copyTo) (maxL := 3) (ret := none) (by decide) rfl ?_
  intro p e s m args below meth c s₁ B hml hv
  obtain ⟨rfl, hw⟩ := hv
  have C : MX p s m ([.ref a0, .ref a1] : List Value).toArray meth c cX12_copyTo 3 (none) RX12 (Cond.code yX12_copyTo cX12_copyTo 3 (none) :: GW) := ⟨B.exec, B.bytes, B.returns, hml, findClass_of_methodNamed B.named, atoms_spec (ws := Cond.code yX12_copyTo cX12_copyTo 3 (none) :: GW) B.pre, B.notSynchronized⟩
  obtain ⟨hx, hb, hr, hml, hown, hts, hlk⟩ := id C
  have w := wd_of hw
  obtain ⟨ls, hen, hl⟩ : ∃ ls : Array Slot, entryFrame m ([.ref a0, .ref a1] : List Value).toArray 3 = F0 m 0 ls [] ∧ lv_has ls 3 [(0, .ref a0), (1, .ref a1)] := by
    exact ⟨_, lg_entry_eq _ _ _, lv_entry _ (Nat.le_of_ble_eq_true rfl)⟩
  rw [hen]
  unfold f_M_copyTo at hE
  refine lv_iconst (v := 0) hx hb dX12_copyTo_0 (by decide) ?_
  refine lv_istore_n (lv' := [(2, .int (0 : Int32)), (0, .ref a0), (1, .ref a1)]) hx hb dX12_copyTo_1 rfl hl (by decide) rfl (fun ls hl => ?_)
  exact b_M_copyTo_2 C N   N  h a0 a1 (0 : Int32) _ _ ls w  (lv_sub hl [1, 2, 0] rfl) hE
set_option maxRecDepth 20000 in
set_option maxHeartbeats 4000000 in
theorem b_M_clear_2 {p : Program} {l : Launch} {e : Env} {s : State} {m : MethodId} {args : Array Value} {below : List Frame} {meth : Method} {c : Code} {D : va_G} {cy : cyT} {z : Nat} (C : MX p s m args meth c cX12_clear 2 (none) RX12 (Cond.code yX12_clear cX12_clear 2 (none) :: GW)) (N : Nat) {r : Unit} {g : hS}  : ∀ (n : Nat) (h : hS) (a0 : Nat) (x1 : Int32) (H : Heap) (locs : List Loc) (ls : Array Slot), wd D cy z s 0 h H locs → lv_has ls 2 [(0, .ref a0), (1, .int x1)] → f_M_clear_2 N  n h a0 x1 = some (r, g) → W p l e { frames := 0, cells := 0, slots := 0, locals := 0 } s m args below meth c H locs 0 0 (MQ below (eQ D cy z (rV r) g) args s 0 0 (fun q => z ≤ q)) (F0 m 2 ls []) := by
  obtain ⟨hx, hb, hr, hml, hown, hts, hlk⟩ := id C
  intro n
  induction n with
  | zero =>
    intro  h a0 x1 H locs ls w  hl hE
    cases hE
  | succ n ih =>
    intro  h a0 x1 H locs ls w  hl hE
    unfold f_M_clear_2 at hE
    refine lv_iload_n hx hb dX12_clear_2 rfl (lv_at hl 1 rfl) ?_
    refine lv_aload_n hx hb dX12_clear_3 rfl (lv_at hl 0 rfl) ?_
    refine w_lenI (r := some a0) C w dX12_clear_4 hE (fun v1 e1 => ?_)
    refine w_icmp_ge (tgt := 18) C dX12_clear_5 (by decide) e1 (fun hc e2 => ?_) (fun hc e2 => ?_)
    · exact w_vret C w e2 dX12_clear_18
    · refine lv_aload_n hx hb dX12_clear_8 rfl (lv_at hl 0 rfl) ?_
      refine lv_iload_n hx hb dX12_clear_9 rfl (lv_at hl 1 rfl) ?_
      refine lv_iconst (v := 0) hx hb dX12_clear_10 (by decide) ?_
      refine w_uI (r := some a0) C w dX12_clear_11 e2 (fun h2 H locs w hsh2 e3 => ?_)
      obtain ⟨v3, ev3, e4⟩ := bn_some e3
      refine lv_iinc (v := v3) (lv' := [(1, .int v3), (0, .ref a0)]) hx hb dX12_clear_12 hl (k := 1) rfl (by rw [ev3]; rfl) (by decide) rfl (fun ls hl => ?_)
      refine lv_goto (tgt := 2) hx hb dX12_clear_15 (by decide) ?_
      exact ih  h2 a0 v3 _ _ ls w  (lv_sub hl [1, 0] rfl) e4
set_option maxRecDepth 20000 in
set_option maxHeartbeats 4000000 in
theorem k_M_clear (l : Launch) (D : va_G) (cy : cyT) (z : Nat) (N : Nat) (h : hS) (a0 : Nat) (r : Unit) (g : hS) (hE : f_M_clear N h a0 = some (r, g)) : ct l yX12_clear (Cond.code yX12_clear cX12_clear 2 (none) :: GW) { frames := 0, cells := 0, slots := 0, locals := 0 } D cy z h [.ref a0] (rV r) g := by
  refine Met.ofW (cc := cX12_clear) (maxL := 2) (ret := none) (by decide) rfl ?_
  intro p e s m args below meth c s₁ B hml hv
  obtain ⟨rfl, hw⟩ := hv
  have C : MX p s m ([.ref a0] : List Value).toArray meth c cX12_clear 2 (none) RX12 (Cond.code yX12_clear cX12_clear 2 (none) :: GW) := ⟨B.exec, B.bytes, B.returns, hml, findClass_of_methodNamed B.named, atoms_spec (ws := Cond.code yX12_clear cX12_clear 2 (none) :: GW) B.pre, B.notSynchronized⟩
  obtain ⟨hx, hb, hr, hml, hown, hts, hlk⟩ := id C
  have w := wd_of hw
  obtain ⟨ls, hen, hl⟩ : ∃ ls : Array Slot, entryFrame m ([.ref a0] : List Value).toArray 2 = F0 m 0 ls [] ∧ lv_has ls 2 [(0, .ref a0)] := by
    exact ⟨_, lg_entry_eq _ _ _, lv_entry _ (Nat.le_of_ble_eq_true rfl)⟩
  rw [hen]
  unfold f_M_clear at hE
  refine lv_iconst (v := 0) hx hb dX12_clear_0 (by decide) ?_
  refine lv_istore_n (lv' := [(1, .int (0 : Int32)), (0, .ref a0)]) hx hb dX12_clear_1 rfl hl (by decide) rfl (fun ls hl => ?_)
  exact b_M_clear_2 C N   N  h a0 (0 : Int32) _ _ ls w  (lv_sub hl [1, 0] rfl) hE
set_option maxRecDepth 20000 in
set_option maxHeartbeats 4000000 in
theorem b_M_valueAt_107 {p : Program} {l : Launch} {e : Env} {s : State} {m : MethodId} {args : Array Value} {below : List Frame} {meth : Method} {c : Code} {D : va_G} {cy : cyT} {z : Nat} (C : MX p s m args meth c cX12_valueAt 8 ((some .long)) RX12 (Cond.code yX12_valueAt cX12_valueAt 8 ((some .long)) :: GW)) (N : Nat) {r : Int64} {g : hS}  : ∀  (h : hS) (y0 : Int64) (H : Heap) (locs : List Loc) (ls : Array Slot), wd D cy z s 0 h H locs → lv_has ls 8 [] → f_M_valueAt_107 N   h y0 = some (r, g) → W p l e { frames := 1, cells := 0, slots := 0, locals := 44 } s m args below meth c H locs 0 0 (MQ below (eQ D cy z (rJ r) g) args s 0 0 (fun q => z ≤ q)) (F0 m 107 ls [.long y0]) := by
  obtain ⟨hx, hb, hr, hml, hown, hts, hlk⟩ := id C
  intro  h y0 H locs ls w  hl hE
  unfold f_M_valueAt_107 at hE
  exact w_lret C w hE dX12_valueAt_107
set_option maxRecDepth 20000 in
set_option maxHeartbeats 4000000 in
theorem b_M_valueAt_46 {p : Program} {l : Launch} {e : Env} {s : State} {m : MethodId} {args : Array Value} {below : List Frame} {meth : Method} {c : Code} {D : va_G} {cy : cyT} {z : Nat} (C : MX p s m args meth c cX12_valueAt 8 ((some .long)) RX12 (Cond.code yX12_valueAt cX12_valueAt 8 ((some .long)) :: GW)) (N : Nat) {r : Int64} {g : hS}  : ∀ (n : Nat) (h : hS) (a0 : Nat) (x1 : Int32) (x2 : Int64) (x4 : Int64) (x6 : Int32) (x7 : Int32) (H : Heap) (locs : List Loc) (ls : Array Slot), wd D cy z s 0 h H locs → lv_has ls 8 [(0, .ref a0), (1, .int x1), (2, .long x2), (4, .long x4), (6, .int x6), (7, .int x7)] → f_M_valueAt_46 N  n h a0 x1 x2 x4 x6 x7 = some (r, g) → W p l e { frames := 1, cells := 0, slots := 0, locals := 44 } s m args below meth c H locs 0 0 (MQ below (eQ D cy z (rJ r) g) args s 0 0 (fun q => z ≤ q)) (F0 m 46 ls []) := by
  obtain ⟨hx, hb, hr, hml, hown, hts, hlk⟩ := id C
  intro n
  induction n with
  | zero =>
    intro  h a0 x1 x2 x4 x6 x7 H locs ls w  hl hE
    cases hE
  | succ n ih =>
    intro  h a0 x1 x2 x4 x6 x7 H locs ls w  hl hE
    unfold f_M_valueAt_46 at hE
    refine lv_iload hx hb dX12_valueAt_46 (lv_at hl 5 rfl) ?_
    refine lv_iload hx hb dX12_valueAt_48 (lv_at hl 4 rfl) ?_
    refine w_icmp_ge (tgt := 78) C dX12_valueAt_50 (by decide) hE (fun hc e1 => ?_) (fun hc e1 => ?_)
    · refine lv_iload_n hx hb dX12_valueAt_78 rfl (lv_at hl 1 rfl) ?_
      refine lv_sipush (v := 5000) hx hb dX12_valueAt_79 (by decide) ?_
      refine w_icmp_gt (tgt := 89) C dX12_valueAt_82 (by decide) e1 (fun hc e2 => ?_) (fun hc e2 => ?_)
      · refine lv_lload_n hx hb dX12_valueAt_89 rfl (lv_at hl 2 rfl) ?_
        refine lv_lload hx hb dX12_valueAt_90 (lv_at hl 3 rfl) ?_
        refine lv_aload_n hx hb dX12_valueAt_92 rfl (lv_at hl 0 rfl) ?_
        refine lv_sipush (v := 10002) hx hb dX12_valueAt_93 (by decide) ?_
        refine w_aI (r := some a0) C w dX12_valueAt_96 e2 (fun v1 e3 => ?_)
        refine lv_i2l hx hb dX12_valueAt_97 rfl ?_
        refine lv_ladd hx hb dX12_valueAt_98 ?_
        refine lv_iload_n hx hb dX12_valueAt_99 rfl (lv_at hl 1 rfl) ?_
        refine lv_sipush (v := 5000) hx hb dX12_valueAt_100 (by decide) ?_
        refine lv_isub hx hb dX12_valueAt_103 ?_
        refine lv_i2l hx hb dX12_valueAt_104 rfl ?_
        refine lv_lmul hx hb dX12_valueAt_105 ?_
        refine lv_ladd hx hb dX12_valueAt_106 ?_
        exact b_M_valueAt_107 C N     h (x2 + ((x4 + v1.toInt64) * ((x1 - (5000 : Int32)).toInt64))) _ _ ls w  (lv_sub hl [] rfl) e3
      · refine lv_lload_n hx hb dX12_valueAt_85 rfl (lv_at hl 2 rfl) ?_
        refine lv_goto (tgt := 107) hx hb dX12_valueAt_86 (by decide) ?_
        exact b_M_valueAt_107 C N     h x2 _ _ ls w  (lv_sub hl [] rfl) e2
    · refine lv_lload hx hb dX12_valueAt_53 (lv_at hl 3 rfl) ?_
      refine lv_aload_n hx hb dX12_valueAt_55 rfl (lv_at hl 0 rfl) ?_
      refine lv_sipush (v := 5002) hx hb dX12_valueAt_56 (by decide) ?_
      refine lv_iload hx hb dX12_valueAt_59 (lv_at hl 5 rfl) ?_
      refine lv_iadd hx hb dX12_valueAt_61 ?_
      refine w_aI (r := some a0) C w dX12_valueAt_62 e1 (fun v2 e4 => ?_)
      refine lv_i2l hx hb dX12_valueAt_63 rfl ?_
      refine lv_ladd hx hb dX12_valueAt_64 ?_
      refine w_bnJ e4 (fun v3 e5 => ?_)
      refine lv_lstore (lv' := [(4, .long v3), (0, .ref a0), (1, .int x1), (2, .long x2), (6, .int x6), (7, .int x7)]) hx hb dX12_valueAt_65 hl (by decide) rfl (fun ls hl => ?_)
      refine lv_lload_n hx hb dX12_valueAt_67 rfl (lv_at hl 3 rfl) ?_
      refine lv_lload hx hb dX12_valueAt_68 (lv_at hl 0 rfl) ?_
      refine lv_ladd hx hb dX12_valueAt_70 ?_
      refine w_bnJ e5 (fun v4 e6 => ?_)
      refine lv_lstore_n (lv' := [(2, .long v4), (4, .long v3), (0, .ref a0), (1, .int x1), (6, .int x6), (7, .int x7)]) hx hb dX12_valueAt_71 rfl hl (by decide) rfl (fun ls hl => ?_)
      obtain ⟨v5, ev5, e7⟩ := bn_some e6
      refine lv_iinc (v := v5) (lv' := [(7, .int v5), (2, .long v4), (4, .long v3), (0, .ref a0), (1, .int x1), (6, .int x6)]) hx hb dX12_valueAt_72 hl (k := 5) rfl (by rw [ev5]; rfl) (by decide) rfl (fun ls hl => ?_)
      refine lv_goto (tgt := 46) hx hb dX12_valueAt_75 (by decide) ?_
      exact ih  h a0 x1 v4 v3 x6 v5 _ _ ls w  (lv_sub hl [3, 4, 1, 2, 5, 0] rfl) e7
set_option maxRecDepth 20000 in
set_option maxHeartbeats 4000000 in
theorem k_M_valueAt (l : Launch) (D : va_G) (cy : cyT) (z : Nat) (N : Nat) (h : hS) (a0 : Nat) (x1 : Int32) (r : Int64) (g : hS) (hE : f_M_valueAt N h a0 x1 = some (r, g)) : ct l yX12_valueAt (Cond.code yX12_valueAt cX12_valueAt 8 ((some .long)) :: GW) { frames := 1, cells := 0, slots := 0, locals := 44 } D cy z h [.ref a0, .int x1] (rJ r) g := by
  refine Met.ofW (cc := cX12_valueAt) (maxL := 8) (ret := (some .long)) (by decide) rfl ?_
  intro p e s m args below meth c s₁ B hml hv
  obtain ⟨rfl, hw⟩ := hv
  have C : MX p s m ([.ref a0, .int x1] : List Value).toArray meth c cX12_valueAt 8 ((some .long)) RX12 (Cond.code yX12_valueAt cX12_valueAt 8 ((some .long)) :: GW) := ⟨B.exec, B.bytes, B.returns, hml, findClass_of_methodNamed B.named, atoms_spec (ws := Cond.code yX12_valueAt cX12_valueAt 8 ((some .long)) :: GW) B.pre, B.notSynchronized⟩
  obtain ⟨hx, hb, hr, hml, hown, hts, hlk⟩ := id C
  have w := wd_of hw
  obtain ⟨ls, hen, hl⟩ : ∃ ls : Array Slot, entryFrame m ([.ref a0, .int x1] : List Value).toArray 8 = F0 m 0 ls [] ∧ lv_has ls 8 [(0, .ref a0), (1, .int x1)] := by
    exact ⟨_, lg_entry_eq _ _ _, lv_entry _ (Nat.le_of_ble_eq_true rfl)⟩
  rw [hen]
  unfold f_M_valueAt at hE
  refine lv_aload_n hx hb dX12_valueAt_0 rfl (lv_at hl 0 rfl) ?_
  refine lv_iconst (v := 1) hx hb dX12_valueAt_1 (by decide) ?_
  refine w_aI (r := some a0) C w dX12_valueAt_2 hE (fun v1 e1 => ?_)
  refine lv_i2l hx hb dX12_valueAt_3 rfl ?_
  refine w_bnJ e1 (fun v2 e2 => ?_)
  refine lv_lstore_n (lv' := [(2, .long v2), (0, .ref a0), (1, .int x1)]) hx hb dX12_valueAt_4 rfl hl (by decide) rfl (fun ls hl => ?_)
  refine lv_iload_n hx hb dX12_valueAt_5 rfl (lv_at hl 2 rfl) ?_
  refine lv_sipush (v := -5000) hx hb dX12_valueAt_6 (by decide) ?_
  refine w_icmp_gt (tgt := 26) C dX12_valueAt_9 (by decide) e2 (fun hc e3 => ?_) (fun hc e3 => ?_)
  · refine lv_aload_n hx hb dX12_valueAt_26 rfl (lv_at hl 1 rfl) ?_
    refine lv_iconst (v := 0) hx hb dX12_valueAt_27 (by decide) ?_
    refine w_aI (r := some a0) C w dX12_valueAt_28 e3 (fun v3 e4 => ?_)
    refine lv_i2l hx hb dX12_valueAt_29 rfl ?_
    refine w_bnJ e4 (fun v4 e5 => ?_)
    refine lv_lstore (lv' := [(4, .long v4), (2, .long v2), (0, .ref a0), (1, .int x1)]) hx hb dX12_valueAt_30 hl (by decide) rfl (fun ls hl => ?_)
    refine lv_iload_n hx hb dX12_valueAt_32 rfl (lv_at hl 3 rfl) ?_
    refine lv_sipush (v := 5000) hx hb dX12_valueAt_33 (by decide) ?_
    refine w_mmin C hl.1 (List.mem_cons_of_mem _ gw_25_15) (List.mem_cons_of_mem _ gw_10_6) (List.mem_cons_of_mem _ gw_10_7) (List.mem_cons_of_mem _ gw_10_8) (Nat.le_of_ble_eq_true rfl) (Nat.le_of_ble_eq_true rfl) (by decide) (by decide) dX12_valueAt_36 ?_
    refine w_bnI e5 (fun v5 e6 => ?_)
    refine lv_istore (lv' := [(6, .int v5), (4, .long v4), (2, .long v2), (0, .ref a0), (1, .int x1)]) hx hb dX12_valueAt_39 hl (by decide) rfl (fun ls hl => ?_)
    refine lv_sipush (v := -5000) hx hb dX12_valueAt_41 (by decide) ?_
    refine lv_istore (lv' := [(7, .int (-5000 : Int32)), (6, .int v5), (4, .long v4), (2, .long v2), (0, .ref a0), (1, .int x1)]) hx hb dX12_valueAt_44 hl (by decide) rfl (fun ls hl => ?_)
    exact b_M_valueAt_46 C N   N  h a0 x1 v2 v4 v5 (-5000 : Int32) _ _ ls w  (lv_sub hl [4, 5, 3, 2, 1, 0] rfl) e6
  · refine lv_lload_n hx hb dX12_valueAt_12 rfl (lv_at hl 0 rfl) ?_
    refine lv_aload_n hx hb dX12_valueAt_13 rfl (lv_at hl 1 rfl) ?_
    refine lv_iconst (v := 0) hx hb dX12_valueAt_14 (by decide) ?_
    refine w_aI (r := some a0) C w dX12_valueAt_15 e3 (fun v6 e7 => ?_)
    refine lv_i2l hx hb dX12_valueAt_16 rfl ?_
    refine lv_iload_n hx hb dX12_valueAt_17 rfl (lv_at hl 2 rfl) ?_
    refine lv_sipush (v := 5000) hx hb dX12_valueAt_18 (by decide) ?_
    refine lv_iadd hx hb dX12_valueAt_21 ?_
    refine lv_i2l hx hb dX12_valueAt_22 rfl ?_
    refine lv_lmul hx hb dX12_valueAt_23 ?_
    refine lv_ladd hx hb dX12_valueAt_24 ?_
    exact w_lret C w e7 dX12_valueAt_25
set_option maxRecDepth 20000 in
set_option maxHeartbeats 4000000 in
theorem b_M_weights_4 {p : Program} {l : Launch} {e : Env} {s : State} {m : MethodId} {args : Array Value} {below : List Frame} {meth : Method} {c : Code} {D : va_G} {cy : cyT} {z : Nat} (C : MX p s m args meth c cX12_weights 3 ((some .int)) RX12 (Cond.code yX12_weights cX12_weights 3 ((some .int)) :: GW)) (N : Nat) {r : Int32} {g : hS}  : ∀ (n : Nat) (h : hS) (a0 : Nat) (x1 : Int32) (x2 : Int32) (H : Heap) (locs : List Loc) (ls : Array Slot), wd D cy z s 0 h H locs → lv_has ls 3 [(0, .ref a0), (1, .int x1), (2, .int x2)] → f_M_weights_4 N  n h a0 x1 x2 = some (r, g) → W p l e { frames := 0, cells := 0, slots := 0, locals := 0 } s m args below meth c H locs 0 0 (MQ below (eQ D cy z (rI r) g) args s 0 0 (fun q => z ≤ q)) (F0 m 4 ls []) := by
  obtain ⟨hx, hb, hr, hml, hown, hts, hlk⟩ := id C
  intro n
  induction n with
  | zero =>
    intro  h a0 x1 x2 H locs ls w  hl hE
    cases hE
  | succ n ih =>
    intro  h a0 x1 x2 H locs ls w  hl hE
    unfold f_M_weights_4 at hE
    refine lv_iload_n hx hb dX12_weights_4 rfl (lv_at hl 2 rfl) ?_
    refine lv_sipush (v := 10001) hx hb dX12_weights_5 (by decide) ?_
    refine w_icmp_ge (tgt := 25) C dX12_weights_8 (by decide) hE (fun hc e1 => ?_) (fun hc e1 => ?_)
    · refine lv_iload_n hx hb dX12_weights_25 rfl (lv_at hl 1 rfl) ?_
      exact w_iret C w e1 dX12_weights_26
    · refine lv_iload_n hx hb dX12_weights_11 rfl (lv_at hl 1 rfl) ?_
      refine lv_aload_n hx hb dX12_weights_12 rfl (lv_at hl 0 rfl) ?_
      refine lv_iconst (v := 2) hx hb dX12_weights_13 (by decide) ?_
      refine lv_iload_n hx hb dX12_weights_14 rfl (lv_at hl 2 rfl) ?_
      refine lv_iadd hx hb dX12_weights_15 ?_
      refine w_aI (r := some a0) C w dX12_weights_16 e1 (fun v1 e2 => ?_)
      refine lv_iadd hx hb dX12_weights_17 ?_
      refine w_bnI e2 (fun v2 e3 => ?_)
      refine lv_istore_n (lv' := [(1, .int v2), (0, .ref a0), (2, .int x2)]) hx hb dX12_weights_18 rfl hl (by decide) rfl (fun ls hl => ?_)
      obtain ⟨v3, ev3, e4⟩ := bn_some e3
      refine lv_iinc (v := v3) (lv' := [(2, .int v3), (1, .int v2), (0, .ref a0)]) hx hb dX12_weights_19 hl (k := 2) rfl (by rw [ev3]; rfl) (by decide) rfl (fun ls hl => ?_)
      refine lv_goto (tgt := 4) hx hb dX12_weights_22 (by decide) ?_
      exact ih  h a0 v2 v3 _ _ ls w  (lv_sub hl [2, 1, 0] rfl) e4
set_option maxRecDepth 20000 in
set_option maxHeartbeats 4000000 in
theorem k_M_weights (l : Launch) (D : va_G) (cy : cyT) (z : Nat) (N : Nat) (h : hS) (a0 : Nat) (r : Int32) (g : hS) (hE : f_M_weights N h a0 = some (r, g)) : ct l yX12_weights (Cond.code yX12_weights cX12_weights 3 ((some .int)) :: GW) { frames := 0, cells := 0, slots := 0, locals := 0 } D cy z h [.ref a0] (rI r) g := by
  refine Met.ofW (cc := cX12_weights) (maxL := 3) (ret := (some .int)) (by decide) rfl ?_
  intro p e s m args below meth c s₁ B hml hv
  obtain ⟨rfl, hw⟩ := hv
  have C : MX p s m ([.ref a0] : List Value).toArray meth c cX12_weights 3 ((some .int)) RX12 (Cond.code yX12_weights cX12_weights 3 ((some .int)) :: GW) := ⟨B.exec, B.bytes, B.returns, hml, findClass_of_methodNamed B.named, atoms_spec (ws := Cond.code yX12_weights cX12_weights 3 ((some .int)) :: GW) B.pre, B.notSynchronized⟩
  obtain ⟨hx, hb, hr, hml, hown, hts, hlk⟩ := id C
  have w := wd_of hw
  obtain ⟨ls, hen, hl⟩ : ∃ ls : Array Slot, entryFrame m ([.ref a0] : List Value).toArray 3 = F0 m 0 ls [] ∧ lv_has ls 3 [(0, .ref a0)] := by
    exact ⟨_, lg_entry_eq _ _ _, lv_entry _ (Nat.le_of_ble_eq_true rfl)⟩
  rw [hen]
  unfold f_M_weights at hE
  refine lv_iconst (v := 0) hx hb dX12_weights_0 (by decide) ?_
  refine lv_istore_n (lv' := [(1, .int (0 : Int32)), (0, .ref a0)]) hx hb dX12_weights_1 rfl hl (by decide) rfl (fun ls hl => ?_)
  refine lv_iconst (v := 0) hx hb dX12_weights_2 (by decide) ?_
  refine lv_istore_n (lv' := [(2, .int (0 : Int32)), (1, .int (0 : Int32)), (0, .ref a0)]) hx hb dX12_weights_3 rfl hl (by decide) rfl (fun ls hl => ?_)
  exact b_M_weights_4 C N   N  h a0 (0 : Int32) (0 : Int32) _ _ ls w  (lv_sub hl [2, 1, 0] rfl) hE
set_option maxRecDepth 20000 in
set_option maxHeartbeats 4000000 in
theorem b_M_kinks_25 {p : Program} {l : Launch} {e : Env} {s : State} {m : MethodId} {args : Array Value} {below : List Frame} {meth : Method} {c : Code} {D : va_G} {cy : cyT} {z : Nat} (C : MX p s m args meth c cX12_kinks 3 ((some .int)) RX12 (Cond.code yX12_kinks cX12_kinks 3 ((some .int)) :: GW)) (N : Nat) {r : Int32} {g : hS} {rc4 : hS → Nat → Int32 → Int32 → Option (Int32 × hS)}  (hrc4 : ∀ (h : hS) (a0 : Nat) (x1 : Int32) (x2 : Int32) (H : Heap) (locs : List Loc) (ls : Array Slot), wd D cy z s 0 h H locs → lv_has ls 3 [(0, .ref a0), (1, .int x1), (2, .int x2)] → rc4 h a0 x1 x2 = some (r, g) → W p l e { frames := 0, cells := 0, slots := 0, locals := 0 } s m args below meth c H locs 0 0 (MQ below (eQ D cy z (rI r) g) args s 0 0 (fun q => z ≤ q)) (F0 m 4 ls [])) : ∀  (h : hS) (a0 : Nat) (x2 : Int32) (y0 : Int32) (y1 : Int32) (H : Heap) (locs : List Loc) (ls : Array Slot), wd D cy z s 0 h H locs → lv_has ls 3 [(0, .ref a0), (2, .int x2)] → f_M_kinks_25 N rc4  h a0 x2 y0 y1 = some (r, g) → W p l e { frames := 0, cells := 0, slots := 0, locals := 0 } s m args below meth c H locs 0 0 (MQ below (eQ D cy z (rI r) g) args s 0 0 (fun q => z ≤ q)) (F0 m 25 ls [.int y1, .int y0]) := by
  obtain ⟨hx, hb, hr, hml, hown, hts, hlk⟩ := id C
  intro  h a0 x2 y0 y1 H locs ls w  hl hE
  unfold f_M_kinks_25 at hE
  refine lv_iadd hx hb dX12_kinks_25 ?_
  refine w_bnI hE (fun v1 e1 => ?_)
  refine lv_istore_n (lv' := [(1, .int v1), (0, .ref a0), (2, .int x2)]) hx hb dX12_kinks_26 rfl hl (by decide) rfl (fun ls hl => ?_)
  obtain ⟨v2, ev2, e2⟩ := bn_some e1
  refine lv_iinc (v := v2) (lv' := [(2, .int v2), (1, .int v1), (0, .ref a0)]) hx hb dX12_kinks_27 hl (k := 2) rfl (by rw [ev2]; rfl) (by decide) rfl (fun ls hl => ?_)
  refine lv_goto (tgt := 4) hx hb dX12_kinks_30 (by decide) ?_
  exact hrc4  h a0 v1 v2 _ _ ls w  (lv_sub hl [2, 1, 0] rfl) e2
set_option maxRecDepth 20000 in
set_option maxHeartbeats 4000000 in
theorem b_M_kinks_4 {p : Program} {l : Launch} {e : Env} {s : State} {m : MethodId} {args : Array Value} {below : List Frame} {meth : Method} {c : Code} {D : va_G} {cy : cyT} {z : Nat} (C : MX p s m args meth c cX12_kinks 3 ((some .int)) RX12 (Cond.code yX12_kinks cX12_kinks 3 ((some .int)) :: GW)) (N : Nat) {r : Int32} {g : hS}  : ∀ (n : Nat) (h : hS) (a0 : Nat) (x1 : Int32) (x2 : Int32) (H : Heap) (locs : List Loc) (ls : Array Slot), wd D cy z s 0 h H locs → lv_has ls 3 [(0, .ref a0), (1, .int x1), (2, .int x2)] → f_M_kinks_4 N  n h a0 x1 x2 = some (r, g) → W p l e { frames := 0, cells := 0, slots := 0, locals := 0 } s m args below meth c H locs 0 0 (MQ below (eQ D cy z (rI r) g) args s 0 0 (fun q => z ≤ q)) (F0 m 4 ls []) := by
  obtain ⟨hx, hb, hr, hml, hown, hts, hlk⟩ := id C
  intro n
  induction n with
  | zero =>
    intro  h a0 x1 x2 H locs ls w  hl hE
    cases hE
  | succ n ih =>
    intro  h a0 x1 x2 H locs ls w  hl hE
    unfold f_M_kinks_4 at hE
    refine lv_iload_n hx hb dX12_kinks_4 rfl (lv_at hl 2 rfl) ?_
    refine lv_sipush (v := 10001) hx hb dX12_kinks_5 (by decide) ?_
    refine w_icmp_ge (tgt := 33) C dX12_kinks_8 (by decide) hE (fun hc e1 => ?_) (fun hc e1 => ?_)
    · refine lv_iload_n hx hb dX12_kinks_33 rfl (lv_at hl 1 rfl) ?_
      exact w_iret C w e1 dX12_kinks_34
    · refine lv_iload_n hx hb dX12_kinks_11 rfl (lv_at hl 1 rfl) ?_
      refine lv_aload_n hx hb dX12_kinks_12 rfl (lv_at hl 0 rfl) ?_
      refine lv_iconst (v := 2) hx hb dX12_kinks_13 (by decide) ?_
      refine lv_iload_n hx hb dX12_kinks_14 rfl (lv_at hl 2 rfl) ?_
      refine lv_iadd hx hb dX12_kinks_15 ?_
      refine w_aI (r := some a0) C w dX12_kinks_16 e1 (fun v1 e2 => ?_)
      refine w_if_le (tgt := 24) C dX12_kinks_17 (by decide) e2 (fun hc e3 => ?_) (fun hc e3 => ?_)
      · refine lv_iconst (v := 0) hx hb dX12_kinks_24 (by decide) ?_
        exact b_M_kinks_25 C N  ih   h a0 x2 x1 (0 : Int32) _ _ ls w  (lv_sub hl [0, 2] rfl) e3
      · refine lv_iconst (v := 1) hx hb dX12_kinks_20 (by decide) ?_
        refine lv_goto (tgt := 25) hx hb dX12_kinks_21 (by decide) ?_
        exact b_M_kinks_25 C N  ih   h a0 x2 x1 (1 : Int32) _ _ ls w  (lv_sub hl [0, 2] rfl) e3
set_option maxRecDepth 20000 in
set_option maxHeartbeats 4000000 in
theorem k_M_kinks (l : Launch) (D : va_G) (cy : cyT) (z : Nat) (N : Nat) (h : hS) (a0 : Nat) (r : Int32) (g : hS) (hE : f_M_kinks N h a0 = some (r, g)) : ct l yX12_kinks (Cond.code yX12_kinks cX12_kinks 3 ((some .int)) :: GW) { frames := 0, cells := 0, slots := 0, locals := 0 } D cy z h [.ref a0] (rI r) g := by
  refine Met.ofW (cc := cX12_kinks) (maxL := 3) (ret := (some .int)) (by decide) rfl ?_
  intro p e s m args below meth c s₁ B hml hv
  obtain ⟨rfl, hw⟩ := hv
  have C : MX p s m ([.ref a0] : List Value).toArray meth c cX12_kinks 3 ((some .int)) RX12 (Cond.code yX12_kinks cX12_kinks 3 ((some .int)) :: GW) := ⟨B.exec, B.bytes, B.returns, hml, findClass_of_methodNamed B.named, atoms_spec (ws := Cond.code yX12_kinks cX12_kinks 3 ((some .int)) :: GW) B.pre, B.notSynchronized⟩
  obtain ⟨hx, hb, hr, hml, hown, hts, hlk⟩ := id C
  have w := wd_of hw
  obtain ⟨ls, hen, hl⟩ : ∃ ls : Array Slot, entryFrame m ([.ref a0] : List Value).toArray 3 = F0 m 0 ls [] ∧ lv_has ls 3 [(0, .ref a0)] := by
    exact ⟨_, lg_entry_eq _ _ _, lv_entry _ (Nat.le_of_ble_eq_true rfl)⟩
  rw [hen]
  unfold f_M_kinks at hE
  refine lv_iconst (v := 0) hx hb dX12_kinks_0 (by decide) ?_
  refine lv_istore_n (lv' := [(1, .int (0 : Int32)), (0, .ref a0)]) hx hb dX12_kinks_1 rfl hl (by decide) rfl (fun ls hl => ?_)
  refine lv_iconst (v := 0) hx hb dX12_kinks_2 (by decide) ?_
  refine lv_istore_n (lv' := [(2, .int (0 : Int32)), (1, .int (0 : Int32)), (0, .ref a0)]) hx hb dX12_kinks_3 rfl hl (by decide) rfl (fun ls hl => ?_)
  exact b_M_kinks_4 C N   N  h a0 (0 : Int32) (0 : Int32) _ _ ls w  (lv_sub hl [2, 1, 0] rfl) hE
set_option maxRecDepth 20000 in
set_option maxHeartbeats 4000000 in
theorem b_M_turnsTo_14 {p : Program} {l : Launch} {e : Env} {s : State} {m : MethodId} {args : Array Value} {below : List Frame} {meth : Method} {c : Code} {D : va_G} {cy : cyT} {z : Nat} (C : MX p s m args meth c cX12_turnsTo 4 ((some .int)) RX12 (Cond.code yX12_turnsTo cX12_turnsTo 4 ((some .int)) :: GW)) (N : Nat) {r : Int32} {g : hS}  : ∀ (n : Nat) (h : hS) (a0 : Nat) (x1 : Int32) (x2 : Int32) (x3 : Int32) (H : Heap) (locs : List Loc) (ls : Array Slot), wd D cy z s 0 h H locs → lv_has ls 4 [(0, .ref a0), (1, .int x1), (2, .int x2), (3, .int x3)] → f_M_turnsTo_14 N  n h a0 x1 x2 x3 = some (r, g) → W p l e { frames := 0, cells := 0, slots := 0, locals := 0 } s m args below meth c H locs 0 0 (MQ below (eQ D cy z (rI r) g) args s 0 0 (fun q => z ≤ q)) (F0 m 14 ls []) := by
  obtain ⟨hx, hb, hr, hml, hown, hts, hlk⟩ := id C
  intro n
  induction n with
  | zero =>
    intro  h a0 x1 x2 x3 H locs ls w  hl hE
    cases hE
  | succ n ih =>
    intro  h a0 x1 x2 x3 H locs ls w  hl hE
    unfold f_M_turnsTo_14 at hE
    refine lv_iload_n hx hb dX12_turnsTo_14 rfl (lv_at hl 3 rfl) ?_
    refine lv_sipush (v := 10001) hx hb dX12_turnsTo_15 (by decide) ?_
    refine w_icmp_ge (tgt := 46) C dX12_turnsTo_18 (by decide) hE (fun hc e1 => ?_) (fun hc e1 => ?_)
    · refine lv_ldc hx hb hown (hts _ (List.mem_cons_of_mem _ gw_29_4)) dX12_turnsTo_46 ?_
      exact w_iret C w e1 dX12_turnsTo_48
    · refine lv_iload_n hx hb dX12_turnsTo_21 rfl (lv_at hl 2 rfl) ?_
      refine lv_aload_n hx hb dX12_turnsTo_22 rfl (lv_at hl 0 rfl) ?_
      refine lv_iconst (v := 2) hx hb dX12_turnsTo_23 (by decide) ?_
      refine lv_iload_n hx hb dX12_turnsTo_24 rfl (lv_at hl 3 rfl) ?_
      refine lv_iadd hx hb dX12_turnsTo_25 ?_
      refine w_aI (r := some a0) C w dX12_turnsTo_26 e1 (fun v1 e2 => ?_)
      refine lv_iadd hx hb dX12_turnsTo_27 ?_
      refine w_bnI e2 (fun v2 e3 => ?_)
      refine lv_istore_n (lv' := [(2, .int v2), (0, .ref a0), (1, .int x1), (3, .int x3)]) hx hb dX12_turnsTo_28 rfl hl (by decide) rfl (fun ls hl => ?_)
      refine lv_iload_n hx hb dX12_turnsTo_29 rfl (lv_at hl 0 rfl) ?_
      refine lv_iload_n hx hb dX12_turnsTo_30 rfl (lv_at hl 2 rfl) ?_
      refine w_icmp_lt (tgt := 40) C dX12_turnsTo_31 (by decide) e3 (fun hc e4 => ?_) (fun hc e4 => ?_)
      · obtain ⟨v3, ev3, e5⟩ := bn_some e4
        refine lv_iinc (v := v3) (lv' := [(3, .int v3), (2, .int v2), (0, .ref a0), (1, .int x1)]) hx hb dX12_turnsTo_40 hl (k := 3) rfl (by rw [ev3]; rfl) (by decide) rfl (fun ls hl => ?_)
        refine lv_goto (tgt := 14) hx hb dX12_turnsTo_43 (by decide) ?_
        exact ih  h a0 x1 v2 v3 _ _ ls w  (lv_sub hl [2, 3, 1, 0] rfl) e5
      · refine lv_iload_n hx hb dX12_turnsTo_34 rfl (lv_at hl 3 rfl) ?_
        refine lv_sipush (v := 5000) hx hb dX12_turnsTo_35 (by decide) ?_
        refine lv_isub hx hb dX12_turnsTo_38 ?_
        exact w_iret C w e4 dX12_turnsTo_39
set_option maxRecDepth 20000 in
set_option maxHeartbeats 4000000 in
theorem k_M_turnsTo (l : Launch) (D : va_G) (cy : cyT) (z : Nat) (N : Nat) (h : hS) (a0 : Nat) (x1 : Int32) (r : Int32) (g : hS) (hE : f_M_turnsTo N h a0 x1 = some (r, g)) : ct l yX12_turnsTo (Cond.code yX12_turnsTo cX12_turnsTo 4 ((some .int)) :: GW) { frames := 0, cells := 0, slots := 0, locals := 0 } D cy z h [.ref a0, .int x1] (rI r) g := by
  refine Met.ofW (cc := cX12_turnsTo) (maxL := 4) (ret := (some .int)) (by decide) rfl ?_
  intro p e s m args below meth c s₁ B hml hv
  obtain ⟨rfl, hw⟩ := hv
  have C : MX p s m ([.ref a0, .int x1] : List Value).toArray meth c cX12_turnsTo 4 ((some .int)) RX12 (Cond.code yX12_turnsTo cX12_turnsTo 4 ((some .int)) :: GW) := ⟨B.exec, B.bytes, B.returns, hml, findClass_of_methodNamed B.named, atoms_spec (ws := Cond.code yX12_turnsTo cX12_turnsTo 4 ((some .int)) :: GW) B.pre, B.notSynchronized⟩
  obtain ⟨hx, hb, hr, hml, hown, hts, hlk⟩ := id C
  have w := wd_of hw
  obtain ⟨ls, hen, hl⟩ : ∃ ls : Array Slot, entryFrame m ([.ref a0, .int x1] : List Value).toArray 4 = F0 m 0 ls [] ∧ lv_has ls 4 [(0, .ref a0), (1, .int x1)] := by
    exact ⟨_, lg_entry_eq _ _ _, lv_entry _ (Nat.le_of_ble_eq_true rfl)⟩
  rw [hen]
  unfold f_M_turnsTo at hE
  refine lv_aload_n hx hb dX12_turnsTo_0 rfl (lv_at hl 0 rfl) ?_
  refine lv_iconst (v := 0) hx hb dX12_turnsTo_1 (by decide) ?_
  refine w_aI (r := some a0) C w dX12_turnsTo_2 hE (fun v1 e1 => ?_)
  refine lv_istore_n (lv' := [(2, .int v1), (0, .ref a0), (1, .int x1)]) hx hb dX12_turnsTo_3 rfl hl (by decide) rfl (fun ls hl => ?_)
  refine lv_iload_n hx hb dX12_turnsTo_4 rfl (lv_at hl 0 rfl) ?_
  refine lv_iload_n hx hb dX12_turnsTo_5 rfl (lv_at hl 2 rfl) ?_
  refine w_icmp_lt (tgt := 12) C dX12_turnsTo_6 (by decide) e1 (fun hc e2 => ?_) (fun hc e2 => ?_)
  · refine lv_iconst (v := 0) hx hb dX12_turnsTo_12 (by decide) ?_
    refine lv_istore_n (lv' := [(3, .int (0 : Int32)), (2, .int v1), (0, .ref a0), (1, .int x1)]) hx hb dX12_turnsTo_13 rfl hl (by decide) rfl (fun ls hl => ?_)
    exact b_M_turnsTo_14 C N   N  h a0 x1 v1 (0 : Int32) _ _ ls w  (lv_sub hl [2, 3, 1, 0] rfl) e2
  · refine lv_ldc hx hb hown (hts _ (List.mem_cons_of_mem _ gw_29_3)) dX12_turnsTo_9 ?_
    exact w_iret C w e2 dX12_turnsTo_11
set_option maxRecDepth 20000 in
set_option maxHeartbeats 4000000 in
theorem b_M_nearest_19 {p : Program} {l : Launch} {e : Env} {s : State} {m : MethodId} {args : Array Value} {below : List Frame} {meth : Method} {c : Code} {D : va_G} {cy : cyT} {z : Nat} (C : MX p s m args meth c cX12_nearest 3 ((some .int)) RX12 (Cond.code yX12_nearest cX12_nearest 3 ((some .int)) :: GW)) (N : Nat) {r : Int32} {g : hS}  : ∀  (h : hS) (y0 : Int32) (H : Heap) (locs : List Loc) (ls : Array Slot), wd D cy z s 0 h H locs → lv_has ls 3 [] → f_M_nearest_19 N   h y0 = some (r, g) → W p l e { frames := 0, cells := 0, slots := 0, locals := 0 } s m args below meth c H locs 0 0 (MQ below (eQ D cy z (rI r) g) args s 0 0 (fun q => z ≤ q)) (F0 m 19 ls [.int y0]) := by
  obtain ⟨hx, hb, hr, hml, hown, hts, hlk⟩ := id C
  intro  h y0 H locs ls w  hl hE
  unfold f_M_nearest_19 at hE
  exact w_iret C w hE dX12_nearest_19
set_option maxRecDepth 20000 in
set_option maxHeartbeats 4000000 in
theorem k_M_nearest (l : Launch) (D : va_G) (cy : cyT) (z : Nat) (N : Nat) (h : hS) (x0 : Int32) (x1 : Int32) (x2 : Int32) (r : Int32) (g : hS) (hE : f_M_nearest N h x0 x1 x2 = some (r, g)) : ct l yX12_nearest (Cond.code yX12_nearest cX12_nearest 3 ((some .int)) :: GW) { frames := 0, cells := 0, slots := 0, locals := 0 } D cy z h [.int x0, .int x1, .int x2] (rI r) g := by
  refine Met.ofW (cc := cX12_nearest) (maxL := 3) (ret := (some .int)) (by decide) rfl ?_
  intro p e s m args below meth c s₁ B hml hv
  obtain ⟨rfl, hw⟩ := hv
  have C : MX p s m ([.int x0, .int x1, .int x2] : List Value).toArray meth c cX12_nearest 3 ((some .int)) RX12 (Cond.code yX12_nearest cX12_nearest 3 ((some .int)) :: GW) := ⟨B.exec, B.bytes, B.returns, hml, findClass_of_methodNamed B.named, atoms_spec (ws := Cond.code yX12_nearest cX12_nearest 3 ((some .int)) :: GW) B.pre, B.notSynchronized⟩
  obtain ⟨hx, hb, hr, hml, hown, hts, hlk⟩ := id C
  have w := wd_of hw
  obtain ⟨ls, hen, hl⟩ : ∃ ls : Array Slot, entryFrame m ([.int x0, .int x1, .int x2] : List Value).toArray 3 = F0 m 0 ls [] ∧ lv_has ls 3 [(0, .int x0), (1, .int x1), (2, .int x2)] := by
    exact ⟨_, lg_entry_eq _ _ _, lv_entry _ (Nat.le_of_ble_eq_true rfl)⟩
  rw [hen]
  unfold f_M_nearest at hE
  refine lv_iload_n hx hb dX12_nearest_0 rfl (lv_at hl 2 rfl) ?_
  refine lv_iload_n hx hb dX12_nearest_1 rfl (lv_at hl 0 rfl) ?_
  refine w_icmp_ge (tgt := 9) C dX12_nearest_2 (by decide) hE (fun hc e1 => ?_) (fun hc e1 => ?_)
  · refine lv_iload_n hx hb dX12_nearest_9 rfl (lv_at hl 2 rfl) ?_
    refine lv_iload_n hx hb dX12_nearest_10 rfl (lv_at hl 1 rfl) ?_
    refine w_icmp_le (tgt := 18) C dX12_nearest_11 (by decide) e1 (fun hc e2 => ?_) (fun hc e2 => ?_)
    · refine lv_iload_n hx hb dX12_nearest_18 rfl (lv_at hl 2 rfl) ?_
      exact b_M_nearest_19 C N     h x2 _ _ ls w  (lv_sub hl [] rfl) e2
    · refine lv_iload_n hx hb dX12_nearest_14 rfl (lv_at hl 1 rfl) ?_
      refine lv_goto (tgt := 19) hx hb dX12_nearest_15 (by decide) ?_
      exact b_M_nearest_19 C N     h x1 _ _ ls w  (lv_sub hl [] rfl) e2
  · refine lv_iload_n hx hb dX12_nearest_5 rfl (lv_at hl 0 rfl) ?_
    refine lv_goto (tgt := 19) hx hb dX12_nearest_6 (by decide) ?_
    exact b_M_nearest_19 C N     h x0 _ _ ls w  (lv_sub hl [] rfl) e1
set_option maxRecDepth 20000 in
set_option maxHeartbeats 4000000 in
theorem k_M_flatFrom (l : Launch) (D : va_G) (cy : cyT) (z : Nat) (N : Nat) (h : hS) (a0 : Nat) (r : Int32) (g : hS) (hE : f_M_flatFrom N h a0 = some (r, g)) : ct l yX12_flatFrom (Cond.code yX12_flatFrom cX12_flatFrom 1 ((some .int)) :: GW) { frames := 1, cells := 0, slots := 0, locals := 23 } D cy z h [.ref a0] (rI r) g := by
  refine Met.ofW (cc := cX12_flatFrom) (maxL := 1) (ret := (some .int)) (by decide) rfl ?_
  intro p e s m args below meth c s₁ B hml hv
  obtain ⟨rfl, hw⟩ := hv
  have C : MX p s m ([.ref a0] : List Value).toArray meth c cX12_flatFrom 1 ((some .int)) RX12 (Cond.code yX12_flatFrom cX12_flatFrom 1 ((some .int)) :: GW) := ⟨B.exec, B.bytes, B.returns, hml, findClass_of_methodNamed B.named, atoms_spec (ws := Cond.code yX12_flatFrom cX12_flatFrom 1 ((some .int)) :: GW) B.pre, B.notSynchronized⟩
  obtain ⟨hx, hb, hr, hml, hown, hts, hlk⟩ := id C
  have w := wd_of hw
  obtain ⟨ls, hen, hl⟩ : ∃ ls : Array Slot, entryFrame m ([.ref a0] : List Value).toArray 1 = F0 m 0 ls [] ∧ lv_has ls 1 [(0, .ref a0)] := by
    exact ⟨_, lg_entry_eq _ _ _, lv_entry _ (Nat.le_of_ble_eq_true rfl)⟩
  rw [hen]
  unfold f_M_flatFrom at hE
  refine lv_aload_n hx hb dX12_flatFrom_0 rfl (lv_at hl 0 rfl) ?_
  refine lv_iconst (v := 0) hx hb dX12_flatFrom_1 (by decide) ?_
  refine w_SI GW_good (n := 2) (F := 0) (Lc := 0) (av := [.ref a0, .int (0 : Int32)]) (rest := []) C w (fun r g hf => k_M_turnsTo l D cy z N h a0 (0 : Int32) r g hf) gw_29_0 gw_29_1 gw_1_5 gw_29_2 (by decide +kernel) ⟨Nat.le_of_ble_eq_true rfl, Nat.le_of_ble_eq_true rfl⟩ rfl hl.1 rfl (Nat.le_of_ble_eq_true rfl) dX12_flatFrom_2 (sh_M_turnsTo N h a0 (0 : Int32)) ⟨by decide, by decide⟩ hE (fun v1 h2 H locs w hsh2 e1 => ?_)
  exact w_iret C w e1 dX12_flatFrom_5
set_option maxRecDepth 20000 in
set_option maxHeartbeats 4000000 in
theorem k_M_flatTo (l : Launch) (D : va_G) (cy : cyT) (z : Nat) (N : Nat) (h : hS) (a0 : Nat) (r : Int32) (g : hS) (hE : f_M_flatTo N h a0 = some (r, g)) : ct l yX12_flatTo (Cond.code yX12_flatTo cX12_flatTo 1 ((some .int)) :: GW) { frames := 1, cells := 0, slots := 0, locals := 23 } D cy z h [.ref a0] (rI r) g := by
  refine Met.ofW (cc := cX12_flatTo) (maxL := 1) (ret := (some .int)) (by decide) rfl ?_
  intro p e s m args below meth c s₁ B hml hv
  obtain ⟨rfl, hw⟩ := hv
  have C : MX p s m ([.ref a0] : List Value).toArray meth c cX12_flatTo 1 ((some .int)) RX12 (Cond.code yX12_flatTo cX12_flatTo 1 ((some .int)) :: GW) := ⟨B.exec, B.bytes, B.returns, hml, findClass_of_methodNamed B.named, atoms_spec (ws := Cond.code yX12_flatTo cX12_flatTo 1 ((some .int)) :: GW) B.pre, B.notSynchronized⟩
  obtain ⟨hx, hb, hr, hml, hown, hts, hlk⟩ := id C
  have w := wd_of hw
  obtain ⟨ls, hen, hl⟩ : ∃ ls : Array Slot, entryFrame m ([.ref a0] : List Value).toArray 1 = F0 m 0 ls [] ∧ lv_has ls 1 [(0, .ref a0)] := by
    exact ⟨_, lg_entry_eq _ _ _, lv_entry _ (Nat.le_of_ble_eq_true rfl)⟩
  rw [hen]
  unfold f_M_flatTo at hE
  refine lv_aload_n hx hb dX12_flatTo_0 rfl (lv_at hl 0 rfl) ?_
  refine lv_iconst (v := 1) hx hb dX12_flatTo_1 (by decide) ?_
  refine w_SI GW_good (n := 2) (F := 0) (Lc := 0) (av := [.ref a0, .int (1 : Int32)]) (rest := []) C w (fun r g hf => k_M_turnsTo l D cy z N h a0 (1 : Int32) r g hf) gw_29_0 gw_29_1 gw_1_5 gw_29_2 (by decide +kernel) ⟨Nat.le_of_ble_eq_true rfl, Nat.le_of_ble_eq_true rfl⟩ rfl hl.1 rfl (Nat.le_of_ble_eq_true rfl) dX12_flatTo_2 (sh_M_turnsTo N h a0 (1 : Int32)) ⟨by decide, by decide⟩ hE (fun v1 h2 H locs w hsh2 e1 => ?_)
  exact w_iret C w e1 dX12_flatTo_5
set_option maxRecDepth 20000 in
set_option maxHeartbeats 4000000 in
theorem k_M_leastOf (l : Launch) (D : va_G) (cy : cyT) (z : Nat) (N : Nat) (h : hS) (a0 : Nat) (r : Int64) (g : hS) (hE : f_M_leastOf N h a0 = some (r, g)) : ct l yX12_leastOf (Cond.code yX12_leastOf cX12_leastOf 1 ((some .long)) :: GW) { frames := 2, cells := 0, slots := 0, locals := 71 } D cy z h [.ref a0] (rJ r) g := by
  refine Met.ofW (cc := cX12_leastOf) (maxL := 1) (ret := (some .long)) (by decide) rfl ?_
  intro p e s m args below meth c s₁ B hml hv
  obtain ⟨rfl, hw⟩ := hv
  have C : MX p s m ([.ref a0] : List Value).toArray meth c cX12_leastOf 1 ((some .long)) RX12 (Cond.code yX12_leastOf cX12_leastOf 1 ((some .long)) :: GW) := ⟨B.exec, B.bytes, B.returns, hml, findClass_of_methodNamed B.named, atoms_spec (ws := Cond.code yX12_leastOf cX12_leastOf 1 ((some .long)) :: GW) B.pre, B.notSynchronized⟩
  obtain ⟨hx, hb, hr, hml, hown, hts, hlk⟩ := id C
  have w := wd_of hw
  obtain ⟨ls, hen, hl⟩ : ∃ ls : Array Slot, entryFrame m ([.ref a0] : List Value).toArray 1 = F0 m 0 ls [] ∧ lv_has ls 1 [(0, .ref a0)] := by
    exact ⟨_, lg_entry_eq _ _ _, lv_entry _ (Nat.le_of_ble_eq_true rfl)⟩
  rw [hen]
  unfold f_M_leastOf at hE
  refine lv_aload_n hx hb dX12_leastOf_0 rfl (lv_at hl 0 rfl) ?_
  refine lv_aload_n hx hb dX12_leastOf_1 rfl (lv_at hl 0 rfl) ?_
  refine w_SI GW_good (n := 1) (F := 1) (Lc := 23) (av := [.ref a0]) (rest := [.ref a0]) C w (fun r g hf => k_M_flatFrom l D cy z N h a0 r g hf) gw_28_21 gw_28_22 gw_1_5 gw_28_23 (by decide +kernel) ⟨Nat.le_of_ble_eq_true rfl, Nat.le_of_ble_eq_true rfl⟩ rfl hl.1 rfl (Nat.le_of_ble_eq_true rfl) dX12_leastOf_2 (sh_M_flatFrom N h a0) ⟨by decide, by decide⟩ hE (fun v1 h2 H locs w hsh2 e1 => ?_)
  refine lv_aload_n hx hb dX12_leastOf_5 rfl (lv_at hl 0 rfl) ?_
  refine w_SI GW_good (n := 1) (F := 1) (Lc := 23) (av := [.ref a0]) (rest := [.int v1, .ref a0]) C w (fun r g hf => k_M_flatTo l D cy z N h2 a0 r g hf) gw_29_5 gw_29_6 gw_1_5 gw_29_7 (by decide +kernel) ⟨Nat.le_of_ble_eq_true rfl, Nat.le_of_ble_eq_true rfl⟩ rfl hl.1 rfl (Nat.le_of_ble_eq_true rfl) dX12_leastOf_6 (sh_M_flatTo N h2 a0) ⟨by decide, by decide⟩ e1 (fun v3 h4 H locs w hsh4 e2 => ?_)
  refine lv_iconst (v := 0) hx hb dX12_leastOf_9 (by decide) ?_
  refine w_SI GW_good (n := 3) (F := 0) (Lc := 0) (av := [.int v1, .int v3, .int (0 : Int32)]) (rest := [.ref a0]) C w (fun r g hf => k_M_nearest l D cy z N h4 v1 v3 (0 : Int32) r g hf) gw_30_20 gw_30_21 gw_1_5 gw_30_22 (by decide +kernel) ⟨Nat.le_of_ble_eq_true rfl, Nat.le_of_ble_eq_true rfl⟩ rfl hl.1 rfl (Nat.le_of_ble_eq_true rfl) dX12_leastOf_10 (sh_M_nearest N h4 v1 v3 (0 : Int32)) ⟨by decide, by decide⟩ e2 (fun v5 h6 H locs w hsh6 e3 => ?_)
  refine w_SJ GW_good (n := 2) (F := 1) (Lc := 44) (av := [.ref a0, .int v5]) (rest := []) C w (fun r g hf => k_M_valueAt l D cy z N h6 a0 v5 r g hf) gw_30_7 gw_30_8 gw_1_5 gw_30_9 (by decide +kernel) ⟨Nat.le_of_ble_eq_true rfl, Nat.le_of_ble_eq_true rfl⟩ rfl hl.1 rfl (Nat.le_of_ble_eq_true rfl) dX12_leastOf_13 (sh_M_valueAt N h6 a0 v5) ⟨by decide, by decide⟩ e3 (fun v7 h8 H locs w hsh8 e4 => ?_)
  exact w_lret C w e4 dX12_leastOf_16
set_option maxRecDepth 20000 in
set_option maxHeartbeats 4000000 in
theorem b_M_adds_41 {p : Program} {l : Launch} {e : Env} {s : State} {m : MethodId} {args : Array Value} {below : List Frame} {meth : Method} {c : Code} {D : va_G} {cy : cyT} {z : Nat} (C : MX p s m args meth c cX12_adds 3 (none) RX12 (Cond.code yX12_adds cX12_adds 3 (none) :: GW)) (N : Nat) {r : Unit} {g : hS}  : ∀  (h : hS)  (H : Heap) (locs : List Loc) (ls : Array Slot), wd D cy z s 0 h H locs → lv_has ls 3 [] → f_M_adds_41 N   h  = some (r, g) → W p l e { frames := 1, cells := 0, slots := 0, locals := 25 } s m args below meth c H locs 0 0 (MQ below (eQ D cy z (rV r) g) args s 0 0 (fun q => z ≤ q)) (F0 m 41 ls []) := by
  obtain ⟨hx, hb, hr, hml, hown, hts, hlk⟩ := id C
  intro  h  H locs ls w  hl hE
  unfold f_M_adds_41 at hE
  exact w_vret C w hE dX12_adds_41
set_option maxRecDepth 20000 in
set_option maxHeartbeats 4000000 in
theorem k_M_adds (l : Launch) (D : va_G) (cy : cyT) (z : Nat) (N : Nat) (h : hS) (th : Nat) (x1 : Int32) (x2 : Int32) (r : Unit) (g : hS) (hE : f_M_adds N h th x1 x2 = some (r, g)) : ct l yX12_adds (Cond.code yX12_adds cX12_adds 3 (none) :: GW) { frames := 1, cells := 0, slots := 0, locals := 25 } D cy z h [.ref th, .int x1, .int x2] (rV r) g := by
  refine Met.ofW (cc := cX12_adds) (maxL := 3) (ret := none) (by decide) rfl ?_
  intro p e s m args below meth c s₁ B hml hv
  obtain ⟨rfl, hw⟩ := hv
  have C : MX p s m ([.ref th, .int x1, .int x2] : List Value).toArray meth c cX12_adds 3 (none) RX12 (Cond.code yX12_adds cX12_adds 3 (none) :: GW) := ⟨B.exec, B.bytes, B.returns, hml, findClass_of_methodNamed B.named, atoms_spec (ws := Cond.code yX12_adds cX12_adds 3 (none) :: GW) B.pre, B.notSynchronized⟩
  obtain ⟨hx, hb, hr, hml, hown, hts, hlk⟩ := id C
  have w := wd_of hw
  obtain ⟨ls, hen, hl⟩ : ∃ ls : Array Slot, entryFrame m ([.ref th, .int x1, .int x2] : List Value).toArray 3 = F0 m 0 ls [] ∧ lv_has ls 3 [(0, .ref th), (1, .int x1), (2, .int x2)] := by
    exact ⟨_, lg_entry_eq _ _ _, lv_entry _ (Nat.le_of_ble_eq_true rfl)⟩
  rw [hen]
  unfold f_M_adds at hE
  refine lv_iload_n hx hb dX12_adds_0 rfl (lv_at hl 2 rfl) ?_
  refine w_if_ne (tgt := 5) C dX12_adds_1 (by decide) hE (fun hc e1 => ?_) (fun hc e1 => ?_)
  · refine lv_iload_n hx hb dX12_adds_5 rfl (lv_at hl 1 rfl) ?_
    refine lv_i2l hx hb dX12_adds_6 rfl ?_
    refine lv_ldc2 hx hb hown (hts _ (List.mem_cons_of_mem _ gw_29_22)) dX12_adds_7 ?_
    refine lv_ldc2 hx hb hown (hts _ (List.mem_cons_of_mem _ gw_29_23)) dX12_adds_10 ?_
    refine w_SI GW_good (n := 3) (F := 0) (Lc := 0) (av := [.long x1.toInt64, .long (-5000 : Int64), .long (5000 : Int64)]) (rest := []) C w (fun r g hf => k_M_isIn l D cy z N h x1.toInt64 (-5000 : Int64) (5000 : Int64) r g hf) gw_25_1 gw_25_2 gw_1_5 gw_25_3 (by decide +kernel) ⟨Nat.le_of_ble_eq_true rfl, Nat.le_of_ble_eq_true rfl⟩ rfl hl.1 rfl (Nat.le_of_ble_eq_true rfl) dX12_adds_13 (sh_M_isIn N h x1.toInt64 (-5000 : Int64) (5000 : Int64)) ⟨by decide, by decide⟩ e1 (fun v1 h2 H locs w hsh2 e2 => ?_)
    refine w_if_eq (tgt := 36) C dX12_adds_16 (by decide) e2 (fun hc e3 => ?_) (fun hc e3 => ?_)
    · refine lv_aload_n hx hb dX12_adds_36 rfl (lv_at hl 0 rfl) ?_
      refine lv_iconst (v := 1) hx hb dX12_adds_37 (by decide) ?_
      refine w_pZ (r := some th) (ci := 0) (k := 9) C w rfl (by decide) (by unfold roK; omega) (GF_wsX120 _) tyX12 tyX12_ok nmX12 (by decide) rfl (List.mem_cons_of_mem _ gw_29_12) rfl rfl (tyX12_ok 9 (by decide)) dX12_adds_38 e3 (fun h3 H locs w hsh3 e4 => ?_)
      exact b_M_adds_41 C N     h3  _ _ ls w  (lv_sub hl [] rfl) e4
    · refine lv_aload_n hx hb dX12_adds_19 rfl (lv_at hl 0 rfl) ?_
      refine w_gR (r := some th) (ci := 0) (k := 4) C w rfl (by decide) (GF_wsX120 _) (by decide) rfl (List.mem_cons_of_mem _ gw_6_23) rfl dX12_adds_20 e3 (fun v4 e5 => ?_)
      refine lv_sipush (v := 5002) hx hb dX12_adds_23 (by decide) ?_
      refine lv_iload_n hx hb dX12_adds_26 rfl (lv_at hl 1 rfl) ?_
      refine lv_iadd hx hb dX12_adds_27 ?_
      refine lv_dup2_11 hx hb dX12_adds_28 rfl (va_rf_cat _) ?_
      refine w_aI (r := v4) C w dX12_adds_29 e5 (fun v5 e6 => ?_)
      refine lv_iload_n hx hb dX12_adds_30 rfl (lv_at hl 2 rfl) ?_
      refine lv_iadd hx hb dX12_adds_31 ?_
      refine w_uI (r := v4) C w dX12_adds_32 e6 (fun h6 H locs w hsh6 e7 => ?_)
      refine lv_goto (tgt := 41) hx hb dX12_adds_33 (by decide) ?_
      exact b_M_adds_41 C N     h6  _ _ ls w  (lv_sub hl [] rfl) e7
  · exact w_vret C w e1 dX12_adds_4
set_option maxRecDepth 20000 in
set_option maxHeartbeats 4000000 in
theorem k_M_leans (l : Launch) (D : va_G) (cy : cyT) (z : Nat) (N : Nat) (h : hS) (th : Nat) (x1 : Int32) (x2 : Int32) (x3 : Int32) (r : Unit) (g : hS) (hE : f_M_leans N h th x1 x2 x3 = some (r, g)) : ct l yX12_leans (Cond.code yX12_leans cX12_leans 4 (none) :: GW) { frames := 2, cells := 0, slots := 0, locals := 47 } D cy z h [.ref th, .int x1, .int x2, .int x3] (rV r) g := by
  refine Met.ofW (cc := cX12_leans) (maxL := 4) (ret := none) (by decide) rfl ?_
  intro p e s m args below meth c s₁ B hml hv
  obtain ⟨rfl, hw⟩ := hv
  have C : MX p s m ([.ref th, .int x1, .int x2, .int x3] : List Value).toArray meth c cX12_leans 4 (none) RX12 (Cond.code yX12_leans cX12_leans 4 (none) :: GW) := ⟨B.exec, B.bytes, B.returns, hml, findClass_of_methodNamed B.named, atoms_spec (ws := Cond.code yX12_leans cX12_leans 4 (none) :: GW) B.pre, B.notSynchronized⟩
  obtain ⟨hx, hb, hr, hml, hown, hts, hlk⟩ := id C
  have w := wd_of hw
  obtain ⟨ls, hen, hl⟩ : ∃ ls : Array Slot, entryFrame m ([.ref th, .int x1, .int x2, .int x3] : List Value).toArray 4 = F0 m 0 ls [] ∧ lv_has ls 4 [(0, .ref th), (1, .int x1), (2, .int x2), (3, .int x3)] := by
    exact ⟨_, lg_entry_eq _ _ _, lv_entry _ (Nat.le_of_ble_eq_true rfl)⟩
  rw [hen]
  unfold f_M_leans at hE
  refine lv_aload_n hx hb dX12_leans_0 rfl (lv_at hl 0 rfl) ?_
  refine w_gR (r := some th) (ci := 0) (k := 4) C w rfl (by decide) (GF_wsX120 _) (by decide) rfl (List.mem_cons_of_mem _ gw_6_23) rfl dX12_leans_1 hE (fun v1 e1 => ?_)
  refine lv_iconst (v := 0) hx hb dX12_leans_4 (by decide) ?_
  refine lv_dup2_11 hx hb dX12_leans_5 rfl (va_rf_cat _) ?_
  refine w_aI (r := v1) C w dX12_leans_6 e1 (fun v2 e2 => ?_)
  refine lv_iload_n hx hb dX12_leans_7 rfl (lv_at hl 2 rfl) ?_
  refine lv_isub hx hb dX12_leans_8 ?_
  refine w_uI (r := v1) C w dX12_leans_9 e2 (fun h3 H locs w hsh3 e3 => ?_)
  refine lv_aload_n hx hb dX12_leans_10 rfl (lv_at hl 0 rfl) ?_
  refine w_gR (r := some th) (ci := 0) (k := 4) C w rfl (by decide) (GF_wsX120 _) (by decide) rfl (List.mem_cons_of_mem _ gw_6_23) rfl dX12_leans_11 e3 (fun v4 e4 => ?_)
  refine lv_iconst (v := 1) hx hb dX12_leans_14 (by decide) ?_
  refine lv_dup2_11 hx hb dX12_leans_15 rfl (va_rf_cat _) ?_
  refine w_aI (r := v4) C w dX12_leans_16 e4 (fun v5 e5 => ?_)
  refine lv_iload_n hx hb dX12_leans_17 rfl (lv_at hl 2 rfl) ?_
  refine lv_iload_n hx hb dX12_leans_18 rfl (lv_at hl 1 rfl) ?_
  refine lv_sipush (v := 5000) hx hb dX12_leans_19 (by decide) ?_
  refine lv_iadd hx hb dX12_leans_22 ?_
  refine lv_imul hx hb dX12_leans_23 ?_
  refine lv_iadd hx hb dX12_leans_24 ?_
  refine w_uI (r := v4) C w dX12_leans_25 e5 (fun h6 H locs w hsh6 e6 => ?_)
  refine lv_aload_n hx hb dX12_leans_26 rfl (lv_at hl 0 rfl) ?_
  refine lv_iload_n hx hb dX12_leans_27 rfl (lv_at hl 1 rfl) ?_
  refine lv_iload_n hx hb dX12_leans_28 rfl (lv_at hl 2 rfl) ?_
  refine lv_iload_n hx hb dX12_leans_29 rfl (lv_at hl 3 rfl) ?_
  refine lv_iadd hx hb dX12_leans_30 ?_
  refine w_VV GW_good (n := 2) (F := 1) (Lc := 25) (o := some th) (av := [.int x1, .int (x2 + x3)]) (rest := []) C w rfl (by decide) (fun a r g hf => k_M_adds l D cy z N h6 a x1 (x2 + x3) r g hf) gw_29_18 gw_29_19 gw_29_20 gw_1_5 gw_29_21 (by decide +kernel) ⟨Nat.le_of_ble_eq_true rfl, Nat.le_of_ble_eq_true rfl⟩ rfl hl.1 rfl (Nat.le_of_ble_eq_true rfl) dX12_leans_31 (fun a => (sh_M_adds N h6 a x1 (x2 + x3))) ⟨by decide, by decide⟩ e6 (fun v7 h8 H locs w hsh8 e7 => ?_)
  exact w_vret C w e7 dX12_leans_34
set_option maxRecDepth 20000 in
set_option maxHeartbeats 4000000 in
theorem b_M_drifts_56 {p : Program} {l : Launch} {e : Env} {s : State} {m : MethodId} {args : Array Value} {below : List Frame} {meth : Method} {c : Code} {D : va_G} {cy : cyT} {z : Nat} (C : MX p s m args meth c cX12_drifts 3 (none) RX12 (Cond.code yX12_drifts cX12_drifts 3 (none) :: GW)) (N : Nat) {r : Unit} {g : hS}  : ∀ (n : Nat) (h : hS) (th : Nat) (x1 : Int32) (x2 : Int32) (H : Heap) (locs : List Loc) (ls : Array Slot), wd D cy z s 0 h H locs → lv_has ls 3 [(0, .ref th), (1, .int x1), (2, .int x2)] → f_M_drifts_56 N  n h th x1 x2 = some (r, g) → W p l e { frames := 2, cells := 0, slots := 0, locals := 71 } s m args below meth c H locs 0 0 (MQ below (eQ D cy z (rV r) g) args s 0 0 (fun q => z ≤ q)) (F0 m 56 ls []) := by
  obtain ⟨hx, hb, hr, hml, hown, hts, hlk⟩ := id C
  intro n
  induction n with
  | zero =>
    intro  h th x1 x2 H locs ls w  hl hE
    cases hE
  | succ n ih =>
    intro  h th x1 x2 H locs ls w  hl hE
    unfold f_M_drifts_56 at hE
    refine lv_iload_n hx hb dX12_drifts_56 rfl (lv_at hl 2 rfl) ?_
    refine lv_sipush (v := 10001) hx hb dX12_drifts_57 (by decide) ?_
    refine w_icmp_ge (tgt := 88) C dX12_drifts_60 (by decide) hE (fun hc e1 => ?_) (fun hc e1 => ?_)
    · exact w_vret C w e1 dX12_drifts_88
    · refine lv_aload_n hx hb dX12_drifts_63 rfl (lv_at hl 0 rfl) ?_
      refine lv_iload_n hx hb dX12_drifts_64 rfl (lv_at hl 2 rfl) ?_
      refine lv_sipush (v := 5000) hx hb dX12_drifts_65 (by decide) ?_
      refine lv_isub hx hb dX12_drifts_68 ?_
      refine lv_iload_n hx hb dX12_drifts_69 rfl (lv_at hl 1 rfl) ?_
      refine lv_iadd hx hb dX12_drifts_70 ?_
      refine lv_aload_n hx hb dX12_drifts_71 rfl (lv_at hl 0 rfl) ?_
      refine w_gR (r := some th) (ci := 0) (k := 6) C w rfl (by decide) (GF_wsX120 _) (by decide) rfl (List.mem_cons_of_mem _ gw_7_1) rfl dX12_drifts_72 e1 (fun v1 e2 => ?_)
      refine lv_iconst (v := 2) hx hb dX12_drifts_75 (by decide) ?_
      refine lv_iload_n hx hb dX12_drifts_76 rfl (lv_at hl 2 rfl) ?_
      refine lv_iadd hx hb dX12_drifts_77 ?_
      refine w_aI (r := v1) C w dX12_drifts_78 e2 (fun v2 e3 => ?_)
      refine w_VV GW_good (n := 2) (F := 1) (Lc := 25) (o := some th) (av := [.int ((x2 - (5000 : Int32)) + x1), .int v2]) (rest := []) C w rfl (by decide) (fun a r g hf => k_M_adds l D cy z N h a ((x2 - (5000 : Int32)) + x1) v2 r g hf) gw_29_18 gw_29_19 gw_29_20 gw_1_5 gw_29_21 (by decide +kernel) ⟨Nat.le_of_ble_eq_true rfl, Nat.le_of_ble_eq_true rfl⟩ rfl hl.1 rfl (Nat.le_of_ble_eq_true rfl) dX12_drifts_79 (fun a => (sh_M_adds N h a ((x2 - (5000 : Int32)) + x1) v2)) ⟨by decide, by decide⟩ e3 (fun v3 h4 H locs w hsh4 e4 => ?_)
      obtain ⟨v5, ev5, e5⟩ := bn_some e4
      refine lv_iinc (v := v5) (lv' := [(2, .int v5), (0, .ref th), (1, .int x1)]) hx hb dX12_drifts_82 hl (k := 2) rfl (by rw [ev5]; rfl) (by decide) rfl (fun ls hl => ?_)
      refine lv_goto (tgt := 56) hx hb dX12_drifts_85 (by decide) ?_
      exact ih  h4 th x1 v5 _ _ ls w  (lv_sub hl [1, 2, 0] rfl) e5
set_option maxRecDepth 20000 in
set_option maxHeartbeats 4000000 in
theorem b_M_drifts_32 {p : Program} {l : Launch} {e : Env} {s : State} {m : MethodId} {args : Array Value} {below : List Frame} {meth : Method} {c : Code} {D : va_G} {cy : cyT} {z : Nat} (C : MX p s m args meth c cX12_drifts 3 (none) RX12 (Cond.code yX12_drifts cX12_drifts 3 (none) :: GW)) (N : Nat) {r : Unit} {g : hS}  : ∀ (n : Nat) (h : hS) (th : Nat) (x1 : Int32) (x2 : Int32) (H : Heap) (locs : List Loc) (ls : Array Slot), wd D cy z s 0 h H locs → lv_has ls 3 [(0, .ref th), (1, .int x1), (2, .int x2)] → f_M_drifts_32 N  n h th x1 x2 = some (r, g) → W p l e { frames := 2, cells := 0, slots := 0, locals := 71 } s m args below meth c H locs 0 0 (MQ below (eQ D cy z (rV r) g) args s 0 0 (fun q => z ≤ q)) (F0 m 32 ls []) := by
  obtain ⟨hx, hb, hr, hml, hown, hts, hlk⟩ := id C
  intro n
  induction n with
  | zero =>
    intro  h th x1 x2 H locs ls w  hl hE
    cases hE
  | succ n ih =>
    intro  h th x1 x2 H locs ls w  hl hE
    unfold f_M_drifts_32 at hE
    refine lv_iload_n hx hb dX12_drifts_32 rfl (lv_at hl 2 rfl) ?_
    refine lv_sipush (v := 10001) hx hb dX12_drifts_33 (by decide) ?_
    refine w_icmp_ge (tgt := 54) C dX12_drifts_36 (by decide) hE (fun hc e1 => ?_) (fun hc e1 => ?_)
    · refine lv_iconst (v := 0) hx hb dX12_drifts_54 (by decide) ?_
      refine lv_istore_n (lv' := [(2, .int (0 : Int32)), (0, .ref th), (1, .int x1)]) hx hb dX12_drifts_55 rfl hl (by decide) rfl (fun ls hl => ?_)
      exact b_M_drifts_56 C N   N  h th x1 (0 : Int32) _ _ ls w  (lv_sub hl [1, 2, 0] rfl) e1
    · refine lv_aload_n hx hb dX12_drifts_39 rfl (lv_at hl 0 rfl) ?_
      refine w_gR (r := some th) (ci := 0) (k := 4) C w rfl (by decide) (GF_wsX120 _) (by decide) rfl (List.mem_cons_of_mem _ gw_6_23) rfl dX12_drifts_40 e1 (fun v1 e2 => ?_)
      refine lv_iconst (v := 2) hx hb dX12_drifts_43 (by decide) ?_
      refine lv_iload_n hx hb dX12_drifts_44 rfl (lv_at hl 2 rfl) ?_
      refine lv_iadd hx hb dX12_drifts_45 ?_
      refine lv_iconst (v := 0) hx hb dX12_drifts_46 (by decide) ?_
      refine w_uI (r := v1) C w dX12_drifts_47 e2 (fun h2 H locs w hsh2 e3 => ?_)
      obtain ⟨v3, ev3, e4⟩ := bn_some e3
      refine lv_iinc (v := v3) (lv' := [(2, .int v3), (0, .ref th), (1, .int x1)]) hx hb dX12_drifts_48 hl (k := 2) rfl (by rw [ev3]; rfl) (by decide) rfl (fun ls hl => ?_)
      refine lv_goto (tgt := 32) hx hb dX12_drifts_51 (by decide) ?_
      exact ih  h2 th x1 v3 _ _ ls w  (lv_sub hl [1, 2, 0] rfl) e4
set_option maxRecDepth 20000 in
set_option maxHeartbeats 4000000 in
theorem k_M_drifts (l : Launch) (D : va_G) (cy : cyT) (z : Nat) (N : Nat) (h : hS) (th : Nat) (x1 : Int32) (r : Unit) (g : hS) (hE : f_M_drifts N h th x1 = some (r, g)) : ct l yX12_drifts (Cond.code yX12_drifts cX12_drifts 3 (none) :: GW) { frames := 2, cells := 0, slots := 0, locals := 71 } D cy z h [.ref th, .int x1] (rV r) g := by
  refine Met.ofW (cc := cX12_drifts) (maxL := 3) (ret := none) (by decide) rfl ?_
  intro p e s m args below meth c s₁ B hml hv
  obtain ⟨rfl, hw⟩ := hv
  have C : MX p s m ([.ref th, .int x1] : List Value).toArray meth c cX12_drifts 3 (none) RX12 (Cond.code yX12_drifts cX12_drifts 3 (none) :: GW) := ⟨B.exec, B.bytes, B.returns, hml, findClass_of_methodNamed B.named, atoms_spec (ws := Cond.code yX12_drifts cX12_drifts 3 (none) :: GW) B.pre, B.notSynchronized⟩
  obtain ⟨hx, hb, hr, hml, hown, hts, hlk⟩ := id C
  have w := wd_of hw
  obtain ⟨ls, hen, hl⟩ : ∃ ls : Array Slot, entryFrame m ([.ref th, .int x1] : List Value).toArray 3 = F0 m 0 ls [] ∧ lv_has ls 3 [(0, .ref th), (1, .int x1)] := by
    exact ⟨_, lg_entry_eq _ _ _, lv_entry _ (Nat.le_of_ble_eq_true rfl)⟩
  rw [hen]
  unfold f_M_drifts at hE
  refine lv_aload_n hx hb dX12_drifts_0 rfl (lv_at hl 0 rfl) ?_
  refine w_gR (r := some th) (ci := 0) (k := 6) C w rfl (by decide) (GF_wsX120 _) (by decide) rfl (List.mem_cons_of_mem _ gw_7_1) rfl dX12_drifts_1 hE (fun v1 e1 => ?_)
  refine lv_aload_n hx hb dX12_drifts_4 rfl (lv_at hl 0 rfl) ?_
  refine w_gR (r := some th) (ci := 0) (k := 4) C w rfl (by decide) (GF_wsX120 _) (by decide) rfl (List.mem_cons_of_mem _ gw_6_23) rfl dX12_drifts_5 e1 (fun v2 e2 => ?_)
  obtain ⟨q3, eq3, e3⟩ := nn_some e2
  subst eq3
  obtain ⟨q4, eq4, e4⟩ := nn_some e3
  subst eq4
  refine w_SV GW_good (n := 2) (F := 0) (Lc := 0) (av := [.ref q3, .ref q4]) (rest := []) C w (fun r g hf => k_M_copyTo l D cy z N h q3 q4 r g hf) gw_30_4 gw_30_5 gw_1_5 gw_30_6 (by decide +kernel) ⟨Nat.le_of_ble_eq_true rfl, Nat.le_of_ble_eq_true rfl⟩ rfl hl.1 rfl (Nat.le_of_ble_eq_true rfl) dX12_drifts_8 (sh_M_copyTo N h q3 q4) ⟨by decide, by decide⟩ e4 (fun v5 h6 H locs w hsh6 e5 => ?_)
  refine lv_aload_n hx hb dX12_drifts_11 rfl (lv_at hl 0 rfl) ?_
  refine w_gR (r := some th) (ci := 0) (k := 4) C w rfl (by decide) (GF_wsX120 _) (by decide) rfl (List.mem_cons_of_mem _ gw_6_23) rfl dX12_drifts_12 e5 (fun v7 e6 => ?_)
  refine lv_iconst (v := 1) hx hb dX12_drifts_15 (by decide) ?_
  refine lv_aload_n hx hb dX12_drifts_16 rfl (lv_at hl 0 rfl) ?_
  refine w_gR (r := some th) (ci := 0) (k := 6) C w rfl (by decide) (GF_wsX120 _) (by decide) rfl (List.mem_cons_of_mem _ gw_7_1) rfl dX12_drifts_17 e6 (fun v8 e7 => ?_)
  refine lv_sipush (v := -5000) hx hb dX12_drifts_20 (by decide) ?_
  refine lv_iload_n hx hb dX12_drifts_23 rfl (lv_at hl 1 rfl) ?_
  refine lv_isub hx hb dX12_drifts_24 ?_
  obtain ⟨q9, eq9, e8⟩ := nn_some e7
  subst eq9
  refine w_SJ GW_good (n := 2) (F := 1) (Lc := 44) (av := [.ref q9, .int ((-5000 : Int32) - x1)]) (rest := [.int (1 : Int32), va_rf v7]) C w (fun r g hf => k_M_valueAt l D cy z N h6 q9 ((-5000 : Int32) - x1) r g hf) gw_30_7 gw_30_8 gw_1_5 gw_30_9 (by decide +kernel) ⟨Nat.le_of_ble_eq_true rfl, Nat.le_of_ble_eq_true rfl⟩ rfl hl.1 rfl (cat_le (Nat.le_of_ble_eq_true rfl)) dX12_drifts_25 (sh_M_valueAt N h6 q9 ((-5000 : Int32) - x1)) ⟨by decide, by decide⟩ e8 (fun v10 h11 H locs w hsh11 e9 => ?_)
  refine lv_l2i hx hb dX12_drifts_28 rfl ?_
  refine w_uI (r := v7) C w dX12_drifts_29 e9 (fun h12 H locs w hsh12 e10 => ?_)
  refine lv_iconst (v := 0) hx hb dX12_drifts_30 (by decide) ?_
  refine lv_istore_n (lv' := [(2, .int (0 : Int32)), (0, .ref th), (1, .int x1)]) hx hb dX12_drifts_31 rfl hl (by decide) rfl (fun ls hl => ?_)
  exact b_M_drifts_32 C N   N  h12 th x1 (0 : Int32) _ _ ls w  (lv_sub hl [1, 2, 0] rfl) e10
set_option maxRecDepth 20000 in
set_option maxHeartbeats 4000000 in
theorem b_M_parts_230 {p : Program} {l : Launch} {e : Env} {s : State} {m : MethodId} {args : Array Value} {below : List Frame} {meth : Method} {c : Code} {D : va_G} {cy : cyT} {z : Nat} (C : MX p s m args meth c cX12_parts 12 (none) RX12 (Cond.code yX12_parts cX12_parts 12 (none) :: GW)) (N : Nat) {r : Unit} {g : hS}  : ∀  (h : hS) (y0 : Option Nat) (y1 : Int32) (y2 : Int32) (H : Heap) (locs : List Loc) (ls : Array Slot), wd D cy z s 0 h H locs → lv_has ls 12 [] → f_M_parts_230 N   h y0 y1 y2 = some (r, g) → W p l e { frames := 3, cells := 0, slots := 0, locals := 91 } s m args below meth c H locs 0 0 (MQ below (eQ D cy z (rV r) g) args s 0 0 (fun q => z ≤ q)) (F0 m 230 ls [.int y2, .int y1, va_rf y0]) := by
  obtain ⟨hx, hb, hr, hml, hown, hts, hlk⟩ := id C
  intro  h y0 y1 y2 H locs ls w  hl hE
  unfold f_M_parts_230 at hE
  refine w_uI (r := y0) C w dX12_parts_230 hE (fun h1 H locs w hsh1 e1 => ?_)
  exact w_vret C w e1 dX12_parts_231
set_option maxRecDepth 20000 in
set_option maxHeartbeats 4000000 in
theorem b_M_parts_199 {p : Program} {l : Launch} {e : Env} {s : State} {m : MethodId} {args : Array Value} {below : List Frame} {meth : Method} {c : Code} {D : va_G} {cy : cyT} {z : Nat} (C : MX p s m args meth c cX12_parts 12 (none) RX12 (Cond.code yX12_parts cX12_parts 12 (none) :: GW)) (N : Nat) {r : Unit} {g : hS}  : ∀  (h : hS) (th : Nat) (x1 : Int32) (x5 : Int64) (y0 : Int32) (H : Heap) (locs : List Loc) (ls : Array Slot), wd D cy z s 0 h H locs → lv_has ls 12 [(0, .ref th), (1, .int x1), (5, .long x5)] → f_M_parts_199 N   h th x1 x5 y0 = some (r, g) → W p l e { frames := 3, cells := 0, slots := 0, locals := 91 } s m args below meth c H locs 0 0 (MQ below (eQ D cy z (rV r) g) args s 0 0 (fun q => z ≤ q)) (F0 m 199 ls [.int y0]) := by
  obtain ⟨hx, hb, hr, hml, hown, hts, hlk⟩ := id C
  intro  h th x1 x5 y0 H locs ls w  hl hE
  unfold f_M_parts_199 at hE
  refine lv_istore (lv' := [(9, .int y0), (0, .ref th), (1, .int x1), (5, .long x5)]) hx hb dX12_parts_199 hl (by decide) rfl (fun ls hl => ?_)
  refine lv_aload_n hx hb dX12_parts_201 rfl (lv_at hl 1 rfl) ?_
  refine w_gR (r := some th) (ci := 0) (k := 4) C w rfl (by decide) (GF_wsX120 _) (by decide) rfl (List.mem_cons_of_mem _ gw_6_23) rfl dX12_parts_202 hE (fun v1 e1 => ?_)
  refine lv_iconst (v := 1) hx hb dX12_parts_205 (by decide) ?_
  refine lv_iload hx hb dX12_parts_206 (lv_at hl 0 rfl) ?_
  refine w_if_eq (tgt := 217) C dX12_parts_208 (by decide) e1 (fun hc e2 => ?_) (fun hc e2 => ?_)
  · refine lv_aload_n hx hb dX12_parts_217 rfl (lv_at hl 1 rfl) ?_
    refine w_gR (r := some th) (ci := 0) (k := 6) C w rfl (by decide) (GF_wsX120 _) (by decide) rfl (List.mem_cons_of_mem _ gw_7_1) rfl dX12_parts_218 e2 (fun v2 e3 => ?_)
    refine lv_sipush (v := -5000) hx hb dX12_parts_221 (by decide) ?_
    refine lv_iload_n hx hb dX12_parts_224 rfl (lv_at hl 2 rfl) ?_
    refine lv_iadd hx hb dX12_parts_225 ?_
    obtain ⟨q3, eq3, e4⟩ := nn_some e3
    subst eq3
    refine w_SJ GW_good (n := 2) (F := 1) (Lc := 44) (av := [.ref q3, .int ((-5000 : Int32) + x1)]) (rest := [.int (1 : Int32), va_rf v1]) C w (fun r g hf => k_M_valueAt l D cy z N h q3 ((-5000 : Int32) + x1) r g hf) gw_30_7 gw_30_8 gw_1_5 gw_30_9 (by decide +kernel) ⟨Nat.le_of_ble_eq_true rfl, Nat.le_of_ble_eq_true rfl⟩ rfl hl.1 rfl (cat_le (Nat.le_of_ble_eq_true rfl)) dX12_parts_226 (sh_M_valueAt N h q3 ((-5000 : Int32) + x1)) ⟨by decide, by decide⟩ e4 (fun v4 h5 H locs w hsh5 e5 => ?_)
    refine lv_l2i hx hb dX12_parts_229 rfl ?_
    exact b_M_parts_230 C N     h5 v1 (1 : Int32) v4.toInt32 _ _ ls w  (lv_sub hl [] rfl) e5
  · refine lv_lload hx hb dX12_parts_211 (lv_at hl 3 rfl) ?_
    refine lv_l2i hx hb dX12_parts_213 rfl ?_
    refine lv_goto (tgt := 230) hx hb dX12_parts_214 (by decide) ?_
    exact b_M_parts_230 C N     h v1 (1 : Int32) x5.toInt32 _ _ ls w  (lv_sub hl [] rfl) e2
set_option maxRecDepth 20000 in
set_option maxHeartbeats 4000000 in
theorem b_M_parts_194 {p : Program} {l : Launch} {e : Env} {s : State} {m : MethodId} {args : Array Value} {below : List Frame} {meth : Method} {c : Code} {D : va_G} {cy : cyT} {z : Nat} (C : MX p s m args meth c cX12_parts 12 (none) RX12 (Cond.code yX12_parts cX12_parts 12 (none) :: GW)) (N : Nat) {r : Unit} {g : hS}  : ∀  (h : hS) (th : Nat) (x1 : Int32) (x5 : Int64) (H : Heap) (locs : List Loc) (ls : Array Slot), wd D cy z s 0 h H locs → lv_has ls 12 [(0, .ref th), (1, .int x1), (5, .long x5)] → f_M_parts_194 N   h th x1 x5 = some (r, g) → W p l e { frames := 3, cells := 0, slots := 0, locals := 91 } s m args below meth c H locs 0 0 (MQ below (eQ D cy z (rV r) g) args s 0 0 (fun q => z ≤ q)) (F0 m 194 ls []) := by
  obtain ⟨hx, hb, hr, hml, hown, hts, hlk⟩ := id C
  intro  h th x1 x5 H locs ls w  hl hE
  unfold f_M_parts_194 at hE
  refine lv_iconst (v := 1) hx hb dX12_parts_194 (by decide) ?_
  refine lv_goto (tgt := 199) hx hb dX12_parts_195 (by decide) ?_
  exact b_M_parts_199 C N     h th x1 x5 (1 : Int32) _ _ ls w  (lv_sub hl [0, 1, 2] rfl) hE
set_option maxRecDepth 20000 in
set_option maxHeartbeats 4000000 in
theorem b_M_parts_160 {p : Program} {l : Launch} {e : Env} {s : State} {m : MethodId} {args : Array Value} {below : List Frame} {meth : Method} {c : Code} {D : va_G} {cy : cyT} {z : Nat} (C : MX p s m args meth c cX12_parts 12 (none) RX12 (Cond.code yX12_parts cX12_parts 12 (none) :: GW)) (N : Nat) {r : Unit} {g : hS} {rc87 : hS → Nat → Int32 → Int32 → Int32 → Int32 → Int64 → Int32 → Int32 → Int32 → Option (Unit × hS)}  (hrc87 : ∀ (h : hS) (th : Nat) (x1 : Int32) (x2 : Int32) (x3 : Int32) (x4 : Int32) (x5 : Int64) (x7 : Int32) (x8 : Int32) (x9 : Int32) (H : Heap) (locs : List Loc) (ls : Array Slot), wd D cy z s 0 h H locs → lv_has ls 12 [(0, .ref th), (1, .int x1), (2, .int x2), (3, .int x3), (4, .int x4), (5, .long x5), (7, .int x7), (8, .int x8), (9, .int x9)] → rc87 h th x1 x2 x3 x4 x5 x7 x8 x9 = some (r, g) → W p l e { frames := 3, cells := 0, slots := 0, locals := 91 } s m args below meth c H locs 0 0 (MQ below (eQ D cy z (rV r) g) args s 0 0 (fun q => z ≤ q)) (F0 m 87 ls [])) : ∀  (h : hS) (th : Nat) (x1 : Int32) (x2 : Int32) (x3 : Int32) (x4 : Int32) (x5 : Int64) (x7 : Int32) (x8 : Int32) (x9 : Int32) (x10 : Int32) (H : Heap) (locs : List Loc) (ls : Array Slot), wd D cy z s 0 h H locs → lv_has ls 12 [(0, .ref th), (1, .int x1), (2, .int x2), (3, .int x3), (4, .int x4), (5, .long x5), (7, .int x7), (8, .int x8), (9, .int x9), (10, .int x10)] → f_M_parts_160 N rc87  h th x1 x2 x3 x4 x5 x7 x8 x9 x10 = some (r, g) → W p l e { frames := 3, cells := 0, slots := 0, locals := 91 } s m args below meth c H locs 0 0 (MQ below (eQ D cy z (rV r) g) args s 0 0 (fun q => z ≤ q)) (F0 m 160 ls []) := by
  obtain ⟨hx, hb, hr, hml, hown, hts, hlk⟩ := id C
  intro  h th x1 x2 x3 x4 x5 x7 x8 x9 x10 H locs ls w  hl hE
  unfold f_M_parts_160 at hE
  refine lv_iload hx hb dX12_parts_160 (lv_at hl 7 rfl) ?_
  refine lv_iload hx hb dX12_parts_162 (lv_at hl 9 rfl) ?_
  refine lv_iadd hx hb dX12_parts_164 ?_
  refine w_bnI hE (fun v1 e1 => ?_)
  refine lv_istore (lv' := [(8, .int v1), (0, .ref th), (1, .int x1), (2, .int x2), (3, .int x3), (4, .int x4), (5, .long x5), (7, .int x7), (9, .int x9), (10, .int x10)]) hx hb dX12_parts_165 hl (by decide) rfl (fun ls hl => ?_)
  obtain ⟨v2, ev2, e2⟩ := bn_some e1
  refine lv_iinc (v := v2) (lv' := [(9, .int v2), (8, .int v1), (0, .ref th), (1, .int x1), (2, .int x2), (3, .int x3), (4, .int x4), (5, .long x5), (7, .int x7), (10, .int x10)]) hx hb dX12_parts_167 hl (k := 8) rfl (by rw [ev2]; rfl) (by decide) rfl (fun ls hl => ?_)
  refine lv_goto (tgt := 87) hx hb dX12_parts_170 (by decide) ?_
  exact hrc87  h th x1 x2 x3 x4 x5 x7 v1 v2 _ _ ls w  (lv_sub hl [2, 3, 4, 5, 6, 7, 8, 1, 0] rfl) e2
set_option maxRecDepth 20000 in
set_option maxHeartbeats 4000000 in
theorem b_M_parts_138 {p : Program} {l : Launch} {e : Env} {s : State} {m : MethodId} {args : Array Value} {below : List Frame} {meth : Method} {c : Code} {D : va_G} {cy : cyT} {z : Nat} (C : MX p s m args meth c cX12_parts 12 (none) RX12 (Cond.code yX12_parts cX12_parts 12 (none) :: GW)) (N : Nat) {r : Unit} {g : hS} {rc87 : hS → Nat → Int32 → Int32 → Int32 → Int32 → Int64 → Int32 → Int32 → Int32 → Option (Unit × hS)}  (hrc87 : ∀ (h : hS) (th : Nat) (x1 : Int32) (x2 : Int32) (x3 : Int32) (x4 : Int32) (x5 : Int64) (x7 : Int32) (x8 : Int32) (x9 : Int32) (H : Heap) (locs : List Loc) (ls : Array Slot), wd D cy z s 0 h H locs → lv_has ls 12 [(0, .ref th), (1, .int x1), (2, .int x2), (3, .int x3), (4, .int x4), (5, .long x5), (7, .int x7), (8, .int x8), (9, .int x9)] → rc87 h th x1 x2 x3 x4 x5 x7 x8 x9 = some (r, g) → W p l e { frames := 3, cells := 0, slots := 0, locals := 91 } s m args below meth c H locs 0 0 (MQ below (eQ D cy z (rV r) g) args s 0 0 (fun q => z ≤ q)) (F0 m 87 ls [])) : ∀  (h : hS) (th : Nat) (x1 : Int32) (x2 : Int32) (x3 : Int32) (x4 : Int32) (x5 : Int64) (x7 : Int32) (x8 : Int32) (x9 : Int32) (x10 : Int32) (x11 : Int32) (H : Heap) (locs : List Loc) (ls : Array Slot), wd D cy z s 0 h H locs → lv_has ls 12 [(0, .ref th), (1, .int x1), (2, .int x2), (3, .int x3), (4, .int x4), (5, .long x5), (7, .int x7), (8, .int x8), (9, .int x9), (10, .int x10), (11, .int x11)] → f_M_parts_138 N rc87  h th x1 x2 x3 x4 x5 x7 x8 x9 x10 x11 = some (r, g) → W p l e { frames := 3, cells := 0, slots := 0, locals := 91 } s m args below meth c H locs 0 0 (MQ below (eQ D cy z (rV r) g) args s 0 0 (fun q => z ≤ q)) (F0 m 138 ls []) := by
  obtain ⟨hx, hb, hr, hml, hown, hts, hlk⟩ := id C
  intro  h th x1 x2 x3 x4 x5 x7 x8 x9 x10 x11 H locs ls w  hl hE
  unfold f_M_parts_138 at hE
  refine lv_iload hx hb dX12_parts_138 (lv_at hl 4 rfl) ?_
  refine w_if_eq (tgt := 160) C dX12_parts_140 (by decide) hE (fun hc e1 => ?_) (fun hc e1 => ?_)
  · exact b_M_parts_160 C N  hrc87   h th x1 x2 x3 x4 x5 x7 x8 x9 x10 _ _ ls w  (lv_sub hl [0, 1, 2, 3, 4, 5, 6, 7, 8, 9] rfl) e1
  · refine lv_aload_n hx hb dX12_parts_143 rfl (lv_at hl 0 rfl) ?_
    refine lv_iload hx hb dX12_parts_144 (lv_at hl 8 rfl) ?_
    refine lv_sipush (v := 5000) hx hb dX12_parts_146 (by decide) ?_
    refine lv_isub hx hb dX12_parts_149 ?_
    refine lv_iload_n hx hb dX12_parts_150 rfl (lv_at hl 2 rfl) ?_
    refine lv_iadd hx hb dX12_parts_151 ?_
    refine lv_iload hx hb dX12_parts_152 (lv_at hl 9 rfl) ?_
    refine lv_iload hx hb dX12_parts_154 (lv_at hl 10 rfl) ?_
    refine lv_isub hx hb dX12_parts_156 ?_
    refine w_VV GW_good (n := 2) (F := 1) (Lc := 25) (o := some th) (av := [.int ((x9 - (5000 : Int32)) + x2), .int (x10 - x11)]) (rest := []) C w rfl (by decide) (fun a r g hf => k_M_adds l D cy z N h a ((x9 - (5000 : Int32)) + x2) (x10 - x11) r g hf) gw_29_18 gw_29_19 gw_29_20 gw_1_5 gw_29_21 (by decide +kernel) ⟨Nat.le_of_ble_eq_true rfl, Nat.le_of_ble_eq_true rfl⟩ rfl hl.1 rfl (Nat.le_of_ble_eq_true rfl) dX12_parts_157 (fun a => (sh_M_adds N h a ((x9 - (5000 : Int32)) + x2) (x10 - x11))) ⟨by decide, by decide⟩ e1 (fun v1 h2 H locs w hsh2 e2 => ?_)
    exact b_M_parts_160 C N  hrc87   h2 th x1 x2 x3 x4 x5 x7 x8 x9 x10 _ _ ls w  (lv_sub hl [0, 1, 2, 3, 4, 5, 6, 7, 8, 9] rfl) e2
set_option maxRecDepth 20000 in
set_option maxHeartbeats 4000000 in
theorem b_M_parts_87 {p : Program} {l : Launch} {e : Env} {s : State} {m : MethodId} {args : Array Value} {below : List Frame} {meth : Method} {c : Code} {D : va_G} {cy : cyT} {z : Nat} (C : MX p s m args meth c cX12_parts 12 (none) RX12 (Cond.code yX12_parts cX12_parts 12 (none) :: GW)) (N : Nat) {r : Unit} {g : hS}  : ∀ (n : Nat) (h : hS) (th : Nat) (x1 : Int32) (x2 : Int32) (x3 : Int32) (x4 : Int32) (x5 : Int64) (x7 : Int32) (x8 : Int32) (x9 : Int32) (H : Heap) (locs : List Loc) (ls : Array Slot), wd D cy z s 0 h H locs → lv_has ls 12 [(0, .ref th), (1, .int x1), (2, .int x2), (3, .int x3), (4, .int x4), (5, .long x5), (7, .int x7), (8, .int x8), (9, .int x9)] → f_M_parts_87 N  n h th x1 x2 x3 x4 x5 x7 x8 x9 = some (r, g) → W p l e { frames := 3, cells := 0, slots := 0, locals := 91 } s m args below meth c H locs 0 0 (MQ below (eQ D cy z (rV r) g) args s 0 0 (fun q => z ≤ q)) (F0 m 87 ls []) := by
  obtain ⟨hx, hb, hr, hml, hown, hts, hlk⟩ := id C
  intro n
  induction n with
  | zero =>
    intro  h th x1 x2 x3 x4 x5 x7 x8 x9 H locs ls w  hl hE
    cases hE
  | succ n ih =>
    intro  h th x1 x2 x3 x4 x5 x7 x8 x9 H locs ls w  hl hE
    unfold f_M_parts_87 at hE
    refine lv_iload hx hb dX12_parts_87 (lv_at hl 8 rfl) ?_
    refine lv_sipush (v := 10001) hx hb dX12_parts_89 (by decide) ?_
    refine w_icmp_ge (tgt := 173) C dX12_parts_92 (by decide) hE (fun hc e1 => ?_) (fun hc e1 => ?_)
    · refine lv_iload_n hx hb dX12_parts_173 rfl (lv_at hl 3 rfl) ?_
      refine w_if_eq (tgt := 194) C dX12_parts_174 (by decide) e1 (fun hc e2 => ?_) (fun hc e2 => ?_)
      · exact b_M_parts_194 C N     h th x1 x5 _ _ ls w  (lv_sub hl [0, 1, 5] rfl) e2
      · refine lv_iload hx hb dX12_parts_177 (lv_at hl 6 rfl) ?_
        refine lv_ldc hx hb hown (hts _ (List.mem_cons_of_mem _ gw_29_3)) dX12_parts_179 ?_
        refine w_icmp_eq (tgt := 194) C dX12_parts_181 (by decide) e2 (fun hc e3 => ?_) (fun hc e3 => ?_)
        · exact b_M_parts_194 C N     h th x1 x5 _ _ ls w  (lv_sub hl [0, 1, 5] rfl) e3
        · refine lv_iload hx hb dX12_parts_184 (lv_at hl 6 rfl) ?_
          refine lv_iload_n hx hb dX12_parts_186 rfl (lv_at hl 1 rfl) ?_
          refine lv_isub hx hb dX12_parts_187 ?_
          refine lv_sipush (v := -5000) hx hb dX12_parts_188 (by decide) ?_
          refine w_icmp_gt (tgt := 198) C dX12_parts_191 (by decide) e3 (fun hc e4 => ?_) (fun hc e4 => ?_)
          · refine lv_iconst (v := 0) hx hb dX12_parts_198 (by decide) ?_
            exact b_M_parts_199 C N     h th x1 x5 (0 : Int32) _ _ ls w  (lv_sub hl [0, 1, 5] rfl) e4
          · exact b_M_parts_194 C N     h th x1 x5 _ _ ls w  (lv_sub hl [0, 1, 5] rfl) e4
    · refine lv_aload_n hx hb dX12_parts_95 rfl (lv_at hl 0 rfl) ?_
      refine w_gR (r := some th) (ci := 0) (k := 6) C w rfl (by decide) (GF_wsX120 _) (by decide) rfl (List.mem_cons_of_mem _ gw_7_1) rfl dX12_parts_96 e1 (fun v1 e5 => ?_)
      refine lv_iconst (v := 2) hx hb dX12_parts_99 (by decide) ?_
      refine lv_iload hx hb dX12_parts_100 (lv_at hl 8 rfl) ?_
      refine lv_iadd hx hb dX12_parts_102 ?_
      refine w_aI (r := v1) C w dX12_parts_103 e5 (fun v2 e6 => ?_)
      refine lv_istore (lv' := [(10, .int v2), (0, .ref th), (1, .int x1), (2, .int x2), (3, .int x3), (4, .int x4), (5, .long x5), (7, .int x7), (8, .int x8), (9, .int x9)]) hx hb dX12_parts_104 hl (by decide) rfl (fun ls hl => ?_)
      refine lv_iload hx hb dX12_parts_106 (lv_at hl 0 rfl) ?_
      refine lv_iconst (v := 0) hx hb dX12_parts_108 (by decide) ?_
      refine lv_iload hx hb dX12_parts_109 (lv_at hl 8 rfl) ?_
      refine lv_ineg hx hb dX12_parts_111 ?_
      refine w_mmax C hl.1 (List.mem_cons_of_mem _ gw_30_14) (List.mem_cons_of_mem _ gw_30_15) (List.mem_cons_of_mem _ gw_10_7) (List.mem_cons_of_mem _ gw_30_16) (Nat.le_of_ble_eq_true rfl) (Nat.le_of_ble_eq_true rfl) (by decide) (by decide) dX12_parts_112 ?_
      refine w_mmin C hl.1 (List.mem_cons_of_mem _ gw_25_15) (List.mem_cons_of_mem _ gw_10_6) (List.mem_cons_of_mem _ gw_10_7) (List.mem_cons_of_mem _ gw_10_8) (Nat.le_of_ble_eq_true rfl) (Nat.le_of_ble_eq_true rfl) (by decide) (by decide) dX12_parts_115 ?_
      refine w_bnI e6 (fun v3 e7 => ?_)
      refine lv_istore (lv' := [(11, .int v3), (10, .int v2), (0, .ref th), (1, .int x1), (2, .int x2), (3, .int x3), (4, .int x4), (5, .long x5), (7, .int x7), (8, .int x8), (9, .int x9)]) hx hb dX12_parts_118 hl (by decide) rfl (fun ls hl => ?_)
      refine lv_iload_n hx hb dX12_parts_120 rfl (lv_at hl 5 rfl) ?_
      refine w_if_eq (tgt := 138) C dX12_parts_121 (by decide) e7 (fun hc e8 => ?_) (fun hc e8 => ?_)
      · exact b_M_parts_138 C N  ih   h th x1 x2 x3 x4 x5 x7 x8 x9 v2 v3 _ _ ls w  (lv_sub hl [2, 3, 4, 5, 6, 7, 8, 9, 10, 1, 0] rfl) e8
      · refine lv_aload_n hx hb dX12_parts_124 rfl (lv_at hl 2 rfl) ?_
        refine lv_iload hx hb dX12_parts_125 (lv_at hl 10 rfl) ?_
        refine lv_sipush (v := 5000) hx hb dX12_parts_127 (by decide) ?_
        refine lv_isub hx hb dX12_parts_130 ?_
        refine lv_iload_n hx hb dX12_parts_131 rfl (lv_at hl 3 rfl) ?_
        refine lv_isub hx hb dX12_parts_132 ?_
        refine lv_iload hx hb dX12_parts_133 (lv_at hl 0 rfl) ?_
        refine w_VV GW_good (n := 2) (F := 1) (Lc := 25) (o := some th) (av := [.int ((x9 - (5000 : Int32)) - x1), .int v3]) (rest := []) C w rfl (by decide) (fun a r g hf => k_M_adds l D cy z N h a ((x9 - (5000 : Int32)) - x1) v3 r g hf) gw_29_18 gw_29_19 gw_29_20 gw_1_5 gw_29_21 (by decide +kernel) ⟨Nat.le_of_ble_eq_true rfl, Nat.le_of_ble_eq_true rfl⟩ rfl hl.1 rfl (Nat.le_of_ble_eq_true rfl) dX12_parts_135 (fun a => (sh_M_adds N h a ((x9 - (5000 : Int32)) - x1) v3)) ⟨by decide, by decide⟩ e8 (fun v4 h5 H locs w hsh5 e9 => ?_)
        exact b_M_parts_138 C N  ih   h5 th x1 x2 x3 x4 x5 x7 x8 x9 v2 v3 _ _ ls w  (lv_sub hl [2, 3, 4, 5, 6, 7, 8, 9, 10, 1, 0] rfl) e9
set_option maxRecDepth 20000 in
set_option maxHeartbeats 4000000 in
theorem b_M_parts_75 {p : Program} {l : Launch} {e : Env} {s : State} {m : MethodId} {args : Array Value} {below : List Frame} {meth : Method} {c : Code} {D : va_G} {cy : cyT} {z : Nat} (C : MX p s m args meth c cX12_parts 12 (none) RX12 (Cond.code yX12_parts cX12_parts 12 (none) :: GW)) (N : Nat) {r : Unit} {g : hS}  : ∀  (h : hS) (th : Nat) (x1 : Int32) (x2 : Int32) (x3 : Int32) (x4 : Int32) (x5 : Int64) (x7 : Int32) (y0 : Option Nat) (y1 : Int32) (y2 : Int32) (H : Heap) (locs : List Loc) (ls : Array Slot), wd D cy z s 0 h H locs → lv_has ls 12 [(0, .ref th), (1, .int x1), (2, .int x2), (3, .int x3), (4, .int x4), (5, .long x5), (7, .int x7)] → f_M_parts_75 N   h th x1 x2 x3 x4 x5 x7 y0 y1 y2 = some (r, g) → W p l e { frames := 3, cells := 0, slots := 0, locals := 91 } s m args below meth c H locs 0 0 (MQ below (eQ D cy z (rV r) g) args s 0 0 (fun q => z ≤ q)) (F0 m 75 ls [.int y2, .int y1, va_rf y0]) := by
  obtain ⟨hx, hb, hr, hml, hown, hts, hlk⟩ := id C
  intro  h th x1 x2 x3 x4 x5 x7 y0 y1 y2 H locs ls w  hl hE
  unfold f_M_parts_75 at hE
  refine w_uI (r := y0) C w dX12_parts_75 hE (fun h1 H locs w hsh1 e1 => ?_)
  refine lv_aload_n hx hb dX12_parts_76 rfl (lv_at hl 0 rfl) ?_
  refine w_gR (r := some th) (ci := 0) (k := 6) C w rfl (by decide) (GF_wsX120 _) (by decide) rfl (List.mem_cons_of_mem _ gw_7_1) rfl dX12_parts_77 e1 (fun v2 e2 => ?_)
  refine lv_iconst (v := 0) hx hb dX12_parts_80 (by decide) ?_
  refine w_aI (r := v2) C w dX12_parts_81 e2 (fun v3 e3 => ?_)
  refine lv_istore (lv' := [(8, .int v3), (0, .ref th), (1, .int x1), (2, .int x2), (3, .int x3), (4, .int x4), (5, .long x5), (7, .int x7)]) hx hb dX12_parts_82 hl (by decide) rfl (fun ls hl => ?_)
  refine lv_iconst (v := 0) hx hb dX12_parts_84 (by decide) ?_
  refine lv_istore (lv' := [(9, .int (0 : Int32)), (8, .int v3), (0, .ref th), (1, .int x1), (2, .int x2), (3, .int x3), (4, .int x4), (5, .long x5), (7, .int x7)]) hx hb dX12_parts_85 hl (by decide) rfl (fun ls hl => ?_)
  exact b_M_parts_87 C N   N  h1 th x1 x2 x3 x4 x5 x7 v3 (0 : Int32) _ _ ls w  (lv_sub hl [2, 3, 4, 5, 6, 7, 8, 1, 0] rfl) e3
set_option maxRecDepth 20000 in
set_option maxHeartbeats 4000000 in
theorem b_M_parts_32 {p : Program} {l : Launch} {e : Env} {s : State} {m : MethodId} {args : Array Value} {below : List Frame} {meth : Method} {c : Code} {D : va_G} {cy : cyT} {z : Nat} (C : MX p s m args meth c cX12_parts 12 (none) RX12 (Cond.code yX12_parts cX12_parts 12 (none) :: GW)) (N : Nat) {r : Unit} {g : hS}  : ∀ (n : Nat) (h : hS) (th : Nat) (x1 : Int32) (x2 : Int32) (x3 : Int32) (x4 : Int32) (x5 : Int64) (x7 : Int32) (x8 : Int32) (H : Heap) (locs : List Loc) (ls : Array Slot), wd D cy z s 0 h H locs → lv_has ls 12 [(0, .ref th), (1, .int x1), (2, .int x2), (3, .int x3), (4, .int x4), (5, .long x5), (7, .int x7), (8, .int x8)] → f_M_parts_32 N  n h th x1 x2 x3 x4 x5 x7 x8 = some (r, g) → W p l e { frames := 3, cells := 0, slots := 0, locals := 91 } s m args below meth c H locs 0 0 (MQ below (eQ D cy z (rV r) g) args s 0 0 (fun q => z ≤ q)) (F0 m 32 ls []) := by
  obtain ⟨hx, hb, hr, hml, hown, hts, hlk⟩ := id C
  intro n
  induction n with
  | zero =>
    intro  h th x1 x2 x3 x4 x5 x7 x8 H locs ls w  hl hE
    cases hE
  | succ n ih =>
    intro  h th x1 x2 x3 x4 x5 x7 x8 H locs ls w  hl hE
    unfold f_M_parts_32 at hE
    refine lv_iload hx hb dX12_parts_32 (lv_at hl 7 rfl) ?_
    refine lv_sipush (v := 10001) hx hb dX12_parts_34 (by decide) ?_
    refine w_icmp_ge (tgt := 56) C dX12_parts_37 (by decide) hE (fun hc e1 => ?_) (fun hc e1 => ?_)
    · refine lv_aload_n hx hb dX12_parts_56 rfl (lv_at hl 0 rfl) ?_
      refine w_gR (r := some th) (ci := 0) (k := 4) C w rfl (by decide) (GF_wsX120 _) (by decide) rfl (List.mem_cons_of_mem _ gw_6_23) rfl dX12_parts_57 e1 (fun v1 e2 => ?_)
      refine lv_iconst (v := 0) hx hb dX12_parts_60 (by decide) ?_
      refine lv_iload_n hx hb dX12_parts_61 rfl (lv_at hl 3 rfl) ?_
      refine w_if_eq (tgt := 74) C dX12_parts_62 (by decide) e2 (fun hc e3 => ?_) (fun hc e3 => ?_)
      · refine lv_iconst (v := 0) hx hb dX12_parts_74 (by decide) ?_
        exact b_M_parts_75 C N     h th x1 x2 x3 x4 x5 x7 v1 (0 : Int32) (0 : Int32) _ _ ls w  (lv_sub hl [0, 1, 2, 3, 4, 5, 6] rfl) e3
      · refine lv_aload_n hx hb dX12_parts_65 rfl (lv_at hl 0 rfl) ?_
        refine w_gR (r := some th) (ci := 0) (k := 6) C w rfl (by decide) (GF_wsX120 _) (by decide) rfl (List.mem_cons_of_mem _ gw_7_1) rfl dX12_parts_66 e3 (fun v2 e4 => ?_)
        refine lv_iconst (v := 0) hx hb dX12_parts_69 (by decide) ?_
        refine w_aI (r := v2) C w dX12_parts_70 e4 (fun v3 e5 => ?_)
        refine lv_goto (tgt := 75) hx hb dX12_parts_71 (by decide) ?_
        exact b_M_parts_75 C N     h th x1 x2 x3 x4 x5 x7 v1 (0 : Int32) v3 _ _ ls w  (lv_sub hl [0, 1, 2, 3, 4, 5, 6] rfl) e5
    · refine lv_aload_n hx hb dX12_parts_40 rfl (lv_at hl 0 rfl) ?_
      refine w_gR (r := some th) (ci := 0) (k := 4) C w rfl (by decide) (GF_wsX120 _) (by decide) rfl (List.mem_cons_of_mem _ gw_6_23) rfl dX12_parts_41 e1 (fun v4 e6 => ?_)
      refine lv_iconst (v := 2) hx hb dX12_parts_44 (by decide) ?_
      refine lv_iload hx hb dX12_parts_45 (lv_at hl 7 rfl) ?_
      refine lv_iadd hx hb dX12_parts_47 ?_
      refine lv_iconst (v := 0) hx hb dX12_parts_48 (by decide) ?_
      refine w_uI (r := v4) C w dX12_parts_49 e6 (fun h5 H locs w hsh5 e7 => ?_)
      obtain ⟨v6, ev6, e8⟩ := bn_some e7
      refine lv_iinc (v := v6) (lv' := [(8, .int v6), (0, .ref th), (1, .int x1), (2, .int x2), (3, .int x3), (4, .int x4), (5, .long x5), (7, .int x7)]) hx hb dX12_parts_50 hl (k := 7) rfl (by rw [ev6]; rfl) (by decide) rfl (fun ls hl => ?_)
      refine lv_goto (tgt := 32) hx hb dX12_parts_53 (by decide) ?_
      exact ih  h5 th x1 x2 x3 x4 x5 x7 v6 _ _ ls w  (lv_sub hl [1, 2, 3, 4, 5, 6, 7, 0] rfl) e8
set_option maxRecDepth 20000 in
set_option maxHeartbeats 4000000 in
theorem k_M_parts (l : Launch) (D : va_G) (cy : cyT) (z : Nat) (N : Nat) (h : hS) (th : Nat) (x1 : Int32) (x2 : Int32) (x3 : Int32) (x4 : Int32) (r : Unit) (g : hS) (hE : f_M_parts N h th x1 x2 x3 x4 = some (r, g)) : ct l yX12_parts (Cond.code yX12_parts cX12_parts 12 (none) :: GW) { frames := 3, cells := 0, slots := 0, locals := 91 } D cy z h [.ref th, .int x1, .int x2, .int x3, .int x4] (rV r) g := by
  refine Met.ofW (cc := cX12_parts) (maxL := 12) (ret := none) (by decide) rfl ?_
  intro p e s m args below meth c s₁ B hml hv
  obtain ⟨rfl, hw⟩ := hv
  have C : MX p s m ([.ref th, .int x1, .int x2, .int x3, .int x4] : List Value).toArray meth c cX12_parts 12 (none) RX12 (Cond.code yX12_parts cX12_parts 12 (none) :: GW) := ⟨B.exec, B.bytes, B.returns, hml, findClass_of_methodNamed B.named, atoms_spec (ws := Cond.code yX12_parts cX12_parts 12 (none) :: GW) B.pre, B.notSynchronized⟩
  obtain ⟨hx, hb, hr, hml, hown, hts, hlk⟩ := id C
  have w := wd_of hw
  obtain ⟨ls, hen, hl⟩ : ∃ ls : Array Slot, entryFrame m ([.ref th, .int x1, .int x2, .int x3, .int x4] : List Value).toArray 12 = F0 m 0 ls [] ∧ lv_has ls 12 [(0, .ref th), (1, .int x1), (2, .int x2), (3, .int x3), (4, .int x4)] := by
    exact ⟨_, lg_entry_eq _ _ _, lv_entry _ (Nat.le_of_ble_eq_true rfl)⟩
  rw [hen]
  unfold f_M_parts at hE
  refine lv_aload_n hx hb dX12_parts_0 rfl (lv_at hl 0 rfl) ?_
  refine w_gR (r := some th) (ci := 0) (k := 6) C w rfl (by decide) (GF_wsX120 _) (by decide) rfl (List.mem_cons_of_mem _ gw_7_1) rfl dX12_parts_1 hE (fun v1 e1 => ?_)
  refine lv_aload_n hx hb dX12_parts_4 rfl (lv_at hl 0 rfl) ?_
  refine w_gR (r := some th) (ci := 0) (k := 4) C w rfl (by decide) (GF_wsX120 _) (by decide) rfl (List.mem_cons_of_mem _ gw_6_23) rfl dX12_parts_5 e1 (fun v2 e2 => ?_)
  obtain ⟨q3, eq3, e3⟩ := nn_some e2
  subst eq3
  obtain ⟨q4, eq4, e4⟩ := nn_some e3
  subst eq4
  refine w_SV GW_good (n := 2) (F := 0) (Lc := 0) (av := [.ref q3, .ref q4]) (rest := []) C w (fun r g hf => k_M_copyTo l D cy z N h q3 q4 r g hf) gw_30_4 gw_30_5 gw_1_5 gw_30_6 (by decide +kernel) ⟨Nat.le_of_ble_eq_true rfl, Nat.le_of_ble_eq_true rfl⟩ rfl hl.1 rfl (Nat.le_of_ble_eq_true rfl) dX12_parts_8 (sh_M_copyTo N h q3 q4) ⟨by decide, by decide⟩ e4 (fun v5 h6 H locs w hsh6 e5 => ?_)
  refine lv_aload_n hx hb dX12_parts_11 rfl (lv_at hl 0 rfl) ?_
  refine w_gR (r := some th) (ci := 0) (k := 6) C w rfl (by decide) (GF_wsX120 _) (by decide) rfl (List.mem_cons_of_mem _ gw_7_1) rfl dX12_parts_12 e5 (fun v7 e6 => ?_)
  obtain ⟨q8, eq8, e7⟩ := nn_some e6
  subst eq8
  refine w_SJ GW_good (n := 1) (F := 2) (Lc := 71) (av := [.ref q8]) (rest := []) C w (fun r g hf => k_M_leastOf l D cy z N h6 q8 r g hf) gw_30_17 gw_30_18 gw_1_5 gw_30_19 (by decide +kernel) ⟨Nat.le_of_ble_eq_true rfl, Nat.le_of_ble_eq_true rfl⟩ rfl hl.1 rfl (Nat.le_of_ble_eq_true rfl) dX12_parts_15 (sh_M_leastOf N h6 q8) ⟨by decide, by decide⟩ e7 (fun v9 h10 H locs w hsh10 e8 => ?_)
  refine lv_lstore (lv' := [(5, .long v9), (0, .ref th), (1, .int x1), (2, .int x2), (3, .int x3), (4, .int x4)]) hx hb dX12_parts_18 hl (by decide) rfl (fun ls hl => ?_)
  refine lv_aload_n hx hb dX12_parts_20 rfl (lv_at hl 1 rfl) ?_
  refine w_gR (r := some th) (ci := 0) (k := 6) C w rfl (by decide) (GF_wsX120 _) (by decide) rfl (List.mem_cons_of_mem _ gw_7_1) rfl dX12_parts_21 e8 (fun v11 e9 => ?_)
  obtain ⟨q12, eq12, e10⟩ := nn_some e9
  subst eq12
  refine w_SI GW_good (n := 1) (F := 1) (Lc := 23) (av := [.ref q12]) (rest := []) C w (fun r g hf => k_M_flatFrom l D cy z N h10 q12 r g hf) gw_28_21 gw_28_22 gw_1_5 gw_28_23 (by decide +kernel) ⟨Nat.le_of_ble_eq_true rfl, Nat.le_of_ble_eq_true rfl⟩ rfl hl.1 rfl (Nat.le_of_ble_eq_true rfl) dX12_parts_24 (sh_M_flatFrom N h10 q12) ⟨by decide, by decide⟩ e10 (fun v13 h14 H locs w hsh14 e11 => ?_)
  refine lv_istore (lv' := [(7, .int v13), (5, .long v9), (0, .ref th), (1, .int x1), (2, .int x2), (3, .int x3), (4, .int x4)]) hx hb dX12_parts_27 hl (by decide) rfl (fun ls hl => ?_)
  refine lv_iconst (v := 0) hx hb dX12_parts_29 (by decide) ?_
  refine lv_istore (lv' := [(8, .int (0 : Int32)), (7, .int v13), (5, .long v9), (0, .ref th), (1, .int x1), (2, .int x2), (3, .int x3), (4, .int x4)]) hx hb dX12_parts_30 hl (by decide) rfl (fun ls hl => ?_)
  exact b_M_parts_32 C N   N  h14 th x1 x2 x3 x4 v9 v13 (0 : Int32) _ _ ls w  (lv_sub hl [3, 4, 5, 6, 7, 2, 1, 0] rfl) e11
set_option maxRecDepth 20000 in
set_option maxHeartbeats 4000000 in
theorem b_M_putsOn_2 {p : Program} {l : Launch} {e : Env} {s : State} {m : MethodId} {args : Array Value} {below : List Frame} {meth : Method} {c : Code} {D : va_G} {cy : cyT} {z : Nat} (C : MX p s m args meth c cX12_putsOn 3 (none) RX12 (Cond.code yX12_putsOn cX12_putsOn 3 (none) :: GW)) (N : Nat) {r : Unit} {g : hS}  : ∀ (n : Nat) (h : hS) (th : Nat) (a1 : Nat) (x2 : Int32) (H : Heap) (locs : List Loc) (ls : Array Slot), wd D cy z s 0 h H locs → lv_has ls 3 [(0, .ref th), (1, .ref a1), (2, .int x2)] → f_M_putsOn_2 N  n h th a1 x2 = some (r, g) → W p l e { frames := 0, cells := 0, slots := 0, locals := 0 } s m args below meth c H locs 0 0 (MQ below (eQ D cy z (rV r) g) args s 0 0 (fun q => z ≤ q)) (F0 m 2 ls []) := by
  obtain ⟨hx, hb, hr, hml, hown, hts, hlk⟩ := id C
  intro n
  induction n with
  | zero =>
    intro  h th a1 x2 H locs ls w  hl hE
    cases hE
  | succ n ih =>
    intro  h th a1 x2 H locs ls w  hl hE
    unfold f_M_putsOn_2 at hE
    refine lv_iload_n hx hb dX12_putsOn_2 rfl (lv_at hl 2 rfl) ?_
    refine lv_aload_n hx hb dX12_putsOn_3 rfl (lv_at hl 1 rfl) ?_
    refine w_lenI (r := some a1) C w dX12_putsOn_4 hE (fun v1 e1 => ?_)
    refine w_icmp_ge (tgt := 26) C dX12_putsOn_5 (by decide) e1 (fun hc e2 => ?_) (fun hc e2 => ?_)
    · exact w_vret C w e2 dX12_putsOn_26
    · refine lv_aload_n hx hb dX12_putsOn_8 rfl (lv_at hl 0 rfl) ?_
      refine w_gR (r := some th) (ci := 0) (k := 4) C w rfl (by decide) (GF_wsX120 _) (by decide) rfl (List.mem_cons_of_mem _ gw_6_23) rfl dX12_putsOn_9 e2 (fun v2 e3 => ?_)
      refine lv_iload_n hx hb dX12_putsOn_12 rfl (lv_at hl 2 rfl) ?_
      refine lv_dup2_11 hx hb dX12_putsOn_13 rfl (va_rf_cat _) ?_
      refine w_aI (r := v2) C w dX12_putsOn_14 e3 (fun v3 e4 => ?_)
      refine lv_aload_n hx hb dX12_putsOn_15 rfl (lv_at hl 1 rfl) ?_
      refine lv_iload_n hx hb dX12_putsOn_16 rfl (lv_at hl 2 rfl) ?_
      refine w_aI (r := some a1) C w dX12_putsOn_17 e4 (fun v4 e5 => ?_)
      refine lv_iadd hx hb dX12_putsOn_18 ?_
      refine w_uI (r := v2) C w dX12_putsOn_19 e5 (fun h5 H locs w hsh5 e6 => ?_)
      obtain ⟨v6, ev6, e7⟩ := bn_some e6
      refine lv_iinc (v := v6) (lv' := [(2, .int v6), (0, .ref th), (1, .ref a1)]) hx hb dX12_putsOn_20 hl (k := 2) rfl (by rw [ev6]; rfl) (by decide) rfl (fun ls hl => ?_)
      refine lv_goto (tgt := 2) hx hb dX12_putsOn_23 (by decide) ?_
      exact ih  h5 th a1 v6 _ _ ls w  (lv_sub hl [1, 2, 0] rfl) e7
set_option maxRecDepth 20000 in
set_option maxHeartbeats 4000000 in
theorem k_M_putsOn (l : Launch) (D : va_G) (cy : cyT) (z : Nat) (N : Nat) (h : hS) (th : Nat) (a1 : Nat) (r : Unit) (g : hS) (hE : f_M_putsOn N h th a1 = some (r, g)) : ct l yX12_putsOn (Cond.code yX12_putsOn cX12_putsOn 3 (none) :: GW) { frames := 0, cells := 0, slots := 0, locals := 0 } D cy z h [.ref th, .ref a1] (rV r) g := by
  refine Met.ofW (cc := cX12_putsOn) (maxL := 3) (ret := none) (by decide) rfl ?_
  intro p e s m args below meth c s₁ B hml hv
  obtain ⟨rfl, hw⟩ := hv
  have C : MX p s m ([.ref th, .ref a1] : List Value).toArray meth c cX12_putsOn 3 (none) RX12 (Cond.code yX12_putsOn cX12_putsOn 3 (none) :: GW) := ⟨B.exec, B.bytes, B.returns, hml, findClass_of_methodNamed B.named, atoms_spec (ws := Cond.code yX12_putsOn cX12_putsOn 3 (none) :: GW) B.pre, B.notSynchronized⟩
  obtain ⟨hx, hb, hr, hml, hown, hts, hlk⟩ := id C
  have w := wd_of hw
  obtain ⟨ls, hen, hl⟩ : ∃ ls : Array Slot, entryFrame m ([.ref th, .ref a1] : List Value).toArray 3 = F0 m 0 ls [] ∧ lv_has ls 3 [(0, .ref th), (1, .ref a1)] := by
    exact ⟨_, lg_entry_eq _ _ _, lv_entry _ (Nat.le_of_ble_eq_true rfl)⟩
  rw [hen]
  unfold f_M_putsOn at hE
  refine lv_iconst (v := 0) hx hb dX12_putsOn_0 (by decide) ?_
  refine lv_istore_n (lv' := [(2, .int (0 : Int32)), (0, .ref th), (1, .ref a1)]) hx hb dX12_putsOn_1 rfl hl (by decide) rfl (fun ls hl => ?_)
  exact b_M_putsOn_2 C N   N  h th a1 (0 : Int32) _ _ ls w  (lv_sub hl [1, 2, 0] rfl) hE
set_option maxRecDepth 20000 in
set_option maxHeartbeats 4000000 in
theorem b_M_forgetLaid_2 {p : Program} {l : Launch} {e : Env} {s : State} {m : MethodId} {args : Array Value} {below : List Frame} {meth : Method} {c : Code} {D : va_G} {cy : cyT} {z : Nat} (C : MX p s m args meth c cX12_forgetLaid 2 (none) RX12 (Cond.code yX12_forgetLaid cX12_forgetLaid 2 (none) :: GW)) (N : Nat) {r : Unit} {g : hS}  : ∀ (n : Nat) (h : hS) (th : Nat) (x1 : Int32) (H : Heap) (locs : List Loc) (ls : Array Slot), wd D cy z s 0 h H locs → lv_has ls 2 [(0, .ref th), (1, .int x1)] → f_M_forgetLaid_2 N  n h th x1 = some (r, g) → W p l e { frames := 0, cells := 0, slots := 0, locals := 0 } s m args below meth c H locs 0 0 (MQ below (eQ D cy z (rV r) g) args s 0 0 (fun q => z ≤ q)) (F0 m 2 ls []) := by
  obtain ⟨hx, hb, hr, hml, hown, hts, hlk⟩ := id C
  intro n
  induction n with
  | zero =>
    intro  h th x1 H locs ls w  hl hE
    cases hE
  | succ n ih =>
    intro  h th x1 H locs ls w  hl hE
    unfold f_M_forgetLaid_2 at hE
    refine lv_iload_n hx hb dX12_forgetLaid_2 rfl (lv_at hl 1 rfl) ?_
    refine lv_iconst (v := 4) hx hb dX12_forgetLaid_3 (by decide) ?_
    refine w_icmp_ge (tgt := 20) C dX12_forgetLaid_4 (by decide) hE (fun hc e1 => ?_) (fun hc e1 => ?_)
    · exact w_vret C w e1 dX12_forgetLaid_20
    · refine lv_aload_n hx hb dX12_forgetLaid_7 rfl (lv_at hl 0 rfl) ?_
      refine w_gR (r := some th) (ci := 0) (k := 16) C w rfl (by decide) (GF_wsX120 _) (by decide) rfl (List.mem_cons_of_mem _ gw_7_10) rfl dX12_forgetLaid_8 e1 (fun v1 e2 => ?_)
      refine lv_iload_n hx hb dX12_forgetLaid_11 rfl (lv_at hl 1 rfl) ?_
      refine lv_iconst (v := -1) hx hb dX12_forgetLaid_12 (by decide) ?_
      refine w_uI (r := v1) C w dX12_forgetLaid_13 e2 (fun h2 H locs w hsh2 e3 => ?_)
      obtain ⟨v3, ev3, e4⟩ := bn_some e3
      refine lv_iinc (v := v3) (lv' := [(1, .int v3), (0, .ref th)]) hx hb dX12_forgetLaid_14 hl (k := 1) rfl (by rw [ev3]; rfl) (by decide) rfl (fun ls hl => ?_)
      refine lv_goto (tgt := 2) hx hb dX12_forgetLaid_17 (by decide) ?_
      exact ih  h2 th v3 _ _ ls w  (lv_sub hl [1, 0] rfl) e4
set_option maxRecDepth 20000 in
set_option maxHeartbeats 4000000 in
theorem k_M_forgetLaid (l : Launch) (D : va_G) (cy : cyT) (z : Nat) (N : Nat) (h : hS) (th : Nat) (r : Unit) (g : hS) (hE : f_M_forgetLaid N h th = some (r, g)) : ct l yX12_forgetLaid (Cond.code yX12_forgetLaid cX12_forgetLaid 2 (none) :: GW) { frames := 0, cells := 0, slots := 0, locals := 0 } D cy z h [.ref th] (rV r) g := by
  refine Met.ofW (cc := cX12_forgetLaid) (maxL := 2) (ret := none) (by decide) rfl ?_
  intro p e s m args below meth c s₁ B hml hv
  obtain ⟨rfl, hw⟩ := hv
  have C : MX p s m ([.ref th] : List Value).toArray meth c cX12_forgetLaid 2 (none) RX12 (Cond.code yX12_forgetLaid cX12_forgetLaid 2 (none) :: GW) := ⟨B.exec, B.bytes, B.returns, hml, findClass_of_methodNamed B.named, atoms_spec (ws := Cond.code yX12_forgetLaid cX12_forgetLaid 2 (none) :: GW) B.pre, B.notSynchronized⟩
  obtain ⟨hx, hb, hr, hml, hown, hts, hlk⟩ := id C
  have w := wd_of hw
  obtain ⟨ls, hen, hl⟩ : ∃ ls : Array Slot, entryFrame m ([.ref th] : List Value).toArray 2 = F0 m 0 ls [] ∧ lv_has ls 2 [(0, .ref th)] := by
    exact ⟨_, lg_entry_eq _ _ _, lv_entry _ (Nat.le_of_ble_eq_true rfl)⟩
  rw [hen]
  unfold f_M_forgetLaid at hE
  refine lv_iconst (v := 0) hx hb dX12_forgetLaid_0 (by decide) ?_
  refine lv_istore_n (lv' := [(1, .int (0 : Int32)), (0, .ref th)]) hx hb dX12_forgetLaid_1 rfl hl (by decide) rfl (fun ls hl => ?_)
  exact b_M_forgetLaid_2 C N   N  h th (0 : Int32) _ _ ls w  (lv_sub hl [1, 0] rfl) hE
set_option maxRecDepth 20000 in
set_option maxHeartbeats 4000000 in
theorem b_M_feed_76 {p : Program} {l : Launch} {e : Env} {s : State} {m : MethodId} {args : Array Value} {below : List Frame} {meth : Method} {c : Code} {D : va_G} {cy : cyT} {z : Nat} (C : MX p s m args meth c cX12_feed 8 ((some .int)) RX12 (Cond.code yX12_feed cX12_feed 8 ((some .int)) :: GW)) (N : Nat) {r : Int32} {g : hS} {rc23 : hS → Nat → Int32 → Int32 → Int32 → Int32 → Int32 → Int32 → Option (Int32 × hS)}  (hrc23 : ∀ (h : hS) (th : Nat) (x1 : Int32) (x2 : Int32) (x3 : Int32) (x4 : Int32) (x5 : Int32) (x6 : Int32) (H : Heap) (locs : List Loc) (ls : Array Slot), wd D cy z s 0 h H locs → lv_has ls 8 [(0, .ref th), (1, .int x1), (2, .int x2), (3, .int x3), (4, .int x4), (5, .int x5), (6, .int x6)] → rc23 h th x1 x2 x3 x4 x5 x6 = some (r, g) → W p l e { frames := 0, cells := 0, slots := 0, locals := 0 } s m args below meth c H locs 0 0 (MQ below (eQ D cy z (rI r) g) args s 0 0 (fun q => z ≤ q)) (F0 m 23 ls [])) : ∀  (h : hS) (th : Nat) (x1 : Int32) (x2 : Int32) (x3 : Int32) (x4 : Int32) (x5 : Int32) (x6 : Int32) (y0 : Int32) (H : Heap) (locs : List Loc) (ls : Array Slot), wd D cy z s 0 h H locs → lv_has ls 8 [(0, .ref th), (1, .int x1), (2, .int x2), (3, .int x3), (4, .int x4), (5, .int x5), (6, .int x6)] → f_M_feed_76 N rc23  h th x1 x2 x3 x4 x5 x6 y0 = some (r, g) → W p l e { frames := 0, cells := 0, slots := 0, locals := 0 } s m args below meth c H locs 0 0 (MQ below (eQ D cy z (rI r) g) args s 0 0 (fun q => z ≤ q)) (F0 m 76 ls [.int y0]) := by
  obtain ⟨hx, hb, hr, hml, hown, hts, hlk⟩ := id C
  intro  h th x1 x2 x3 x4 x5 x6 y0 H locs ls w  hl hE
  unfold f_M_feed_76 at hE
  refine lv_istore (lv' := [(7, .int y0), (0, .ref th), (1, .int x1), (2, .int x2), (3, .int x3), (4, .int x4), (5, .int x5), (6, .int x6)]) hx hb dX12_feed_76 hl (by decide) rfl (fun ls hl => ?_)
  refine lv_aload_n hx hb dX12_feed_78 rfl (lv_at hl 1 rfl) ?_
  refine w_gR (r := some th) (ci := 0) (k := 17) C w rfl (by decide) (GF_wsX120 _) (by decide) rfl (List.mem_cons_of_mem _ gw_7_11) rfl dX12_feed_79 hE (fun v1 e1 => ?_)
  refine lv_aload_n hx hb dX12_feed_82 rfl (lv_at hl 1 rfl) ?_
  refine w_gI (r := some th) (ci := 0) (k := 20) C w rfl (by decide) (GF_wsX120 _) (by decide) rfl (List.mem_cons_of_mem _ gw_8_19) rfl dX12_feed_83 e1 (fun v2 e2 => ?_)
  refine lv_iload hx hb dX12_feed_86 (lv_at hl 0 rfl) ?_
  refine lv_bipush (v := 24) hx hb dX12_feed_88 (by decide) ?_
  refine lv_bipush (v := 8) hx hb dX12_feed_90 (by decide) ?_
  refine lv_iload hx hb dX12_feed_92 (lv_at hl 7 rfl) ?_
  refine lv_iconst (v := 4) hx hb dX12_feed_94 (by decide) ?_
  refine w_irem C dX12_feed_95 e2 (fun e3 => ?_)
  refine lv_imul hx hb dX12_feed_96 ?_
  refine lv_isub hx hb dX12_feed_97 ?_
  refine lv_ishr hx hb dX12_feed_98 ?_
  refine lv_sipush (v := 255) hx hb dX12_feed_99 (by decide) ?_
  refine lv_iand hx hb dX12_feed_102 ?_
  refine w_uI (r := v1) C w dX12_feed_103 e3 (fun h3 H locs w hsh3 e4 => ?_)
  refine lv_aload_n hx hb dX12_feed_104 rfl (lv_at hl 1 rfl) ?_
  refine lv_dup hx hb dX12_feed_105 rfl ?_
  refine w_gI (r := some th) (ci := 0) (k := 20) C w rfl (by decide) (GF_wsX120 _) (by decide) rfl (List.mem_cons_of_mem _ gw_8_19) rfl dX12_feed_106 e4 (fun v4 e5 => ?_)
  refine lv_iconst (v := 1) hx hb dX12_feed_109 (by decide) ?_
  refine lv_iadd hx hb dX12_feed_110 ?_
  refine w_pI (r := some th) (ci := 0) (k := 20) C w rfl (by decide) (by unfold roK; omega) (GF_wsX120 _) tyX12 tyX12_ok nmX12 (by decide) rfl (List.mem_cons_of_mem _ gw_8_19) rfl rfl (tyX12_ok 20 (by decide)) dX12_feed_111 e5 (fun h5 H locs w hsh5 e6 => ?_)
  obtain ⟨v6, ev6, e7⟩ := bn_some e6
  refine lv_iinc (v := v6) (lv' := [(6, .int v6), (7, .int y0), (0, .ref th), (1, .int x1), (2, .int x2), (3, .int x3), (4, .int x4), (5, .int x5)]) hx hb dX12_feed_114 hl (k := 7) rfl (by rw [ev6]; rfl) (by decide) rfl (fun ls hl => ?_)
  refine lv_goto (tgt := 23) hx hb dX12_feed_117 (by decide) ?_
  exact hrc23  h5 th x1 x2 x3 x4 x5 v6 _ _ ls w  (lv_sub hl [2, 3, 4, 5, 6, 7, 0] rfl) e7
set_option maxRecDepth 20000 in
set_option maxHeartbeats 4000000 in
theorem b_M_feed_23 {p : Program} {l : Launch} {e : Env} {s : State} {m : MethodId} {args : Array Value} {below : List Frame} {meth : Method} {c : Code} {D : va_G} {cy : cyT} {z : Nat} (C : MX p s m args meth c cX12_feed 8 ((some .int)) RX12 (Cond.code yX12_feed cX12_feed 8 ((some .int)) :: GW)) (N : Nat) {r : Int32} {g : hS}  : ∀ (n : Nat) (h : hS) (th : Nat) (x1 : Int32) (x2 : Int32) (x3 : Int32) (x4 : Int32) (x5 : Int32) (x6 : Int32) (H : Heap) (locs : List Loc) (ls : Array Slot), wd D cy z s 0 h H locs → lv_has ls 8 [(0, .ref th), (1, .int x1), (2, .int x2), (3, .int x3), (4, .int x4), (5, .int x5), (6, .int x6)] → f_M_feed_23 N  n h th x1 x2 x3 x4 x5 x6 = some (r, g) → W p l e { frames := 0, cells := 0, slots := 0, locals := 0 } s m args below meth c H locs 0 0 (MQ below (eQ D cy z (rI r) g) args s 0 0 (fun q => z ≤ q)) (F0 m 23 ls []) := by
  obtain ⟨hx, hb, hr, hml, hown, hts, hlk⟩ := id C
  intro n
  induction n with
  | zero =>
    intro  h th x1 x2 x3 x4 x5 x6 H locs ls w  hl hE
    cases hE
  | succ n ih =>
    intro  h th x1 x2 x3 x4 x5 x6 H locs ls w  hl hE
    unfold f_M_feed_23 at hE
    refine lv_iload hx hb dX12_feed_23 (lv_at hl 6 rfl) ?_
    refine lv_bipush (v := 20) hx hb dX12_feed_25 (by decide) ?_
    refine w_icmp_ge (tgt := 120) C dX12_feed_27 (by decide) hE (fun hc e1 => ?_) (fun hc e1 => ?_)
    · refine lv_aload_n hx hb dX12_feed_120 rfl (lv_at hl 0 rfl) ?_
      refine w_gI (r := some th) (ci := 0) (k := 20) C w rfl (by decide) (GF_wsX120 _) (by decide) rfl (List.mem_cons_of_mem _ gw_8_19) rfl dX12_feed_121 e1 (fun v1 e2 => ?_)
      exact w_iret C w e2 dX12_feed_124
    · refine lv_iload hx hb dX12_feed_30 (lv_at hl 6 rfl) ?_
      refine lv_iconst (v := 4) hx hb dX12_feed_32 (by decide) ?_
      refine w_icmp_ge (tgt := 40) C dX12_feed_33 (by decide) e1 (fun hc e3 => ?_) (fun hc e3 => ?_)
      · refine lv_iload hx hb dX12_feed_40 (lv_at hl 6 rfl) ?_
        refine lv_bipush (v := 8) hx hb dX12_feed_42 (by decide) ?_
        refine w_icmp_ge (tgt := 51) C dX12_feed_44 (by decide) e3 (fun hc e4 => ?_) (fun hc e4 => ?_)
        · refine lv_iload hx hb dX12_feed_51 (lv_at hl 6 rfl) ?_
          refine lv_bipush (v := 12) hx hb dX12_feed_53 (by decide) ?_
          refine w_icmp_ge (tgt := 62) C dX12_feed_55 (by decide) e4 (fun hc e5 => ?_) (fun hc e5 => ?_)
          · refine lv_iload hx hb dX12_feed_62 (lv_at hl 6 rfl) ?_
            refine lv_bipush (v := 16) hx hb dX12_feed_64 (by decide) ?_
            refine w_icmp_ge (tgt := 74) C dX12_feed_66 (by decide) e5 (fun hc e6 => ?_) (fun hc e6 => ?_)
            · refine lv_iload hx hb dX12_feed_74 (lv_at hl 5 rfl) ?_
              exact b_M_feed_76 C N  ih   h th x1 x2 x3 x4 x5 x6 x5 _ _ ls w  (lv_sub hl [0, 1, 2, 3, 4, 5, 6] rfl) e6
            · refine lv_iload hx hb dX12_feed_69 (lv_at hl 4 rfl) ?_
              refine lv_goto (tgt := 76) hx hb dX12_feed_71 (by decide) ?_
              exact b_M_feed_76 C N  ih   h th x1 x2 x3 x4 x5 x6 x4 _ _ ls w  (lv_sub hl [0, 1, 2, 3, 4, 5, 6] rfl) e6
          · refine lv_iload_n hx hb dX12_feed_58 rfl (lv_at hl 3 rfl) ?_
            refine lv_goto (tgt := 76) hx hb dX12_feed_59 (by decide) ?_
            exact b_M_feed_76 C N  ih   h th x1 x2 x3 x4 x5 x6 x3 _ _ ls w  (lv_sub hl [0, 1, 2, 3, 4, 5, 6] rfl) e5
        · refine lv_iload_n hx hb dX12_feed_47 rfl (lv_at hl 2 rfl) ?_
          refine lv_goto (tgt := 76) hx hb dX12_feed_48 (by decide) ?_
          exact b_M_feed_76 C N  ih   h th x1 x2 x3 x4 x5 x6 x2 _ _ ls w  (lv_sub hl [0, 1, 2, 3, 4, 5, 6] rfl) e4
      · refine lv_iload_n hx hb dX12_feed_36 rfl (lv_at hl 1 rfl) ?_
        refine lv_goto (tgt := 76) hx hb dX12_feed_37 (by decide) ?_
        exact b_M_feed_76 C N  ih   h th x1 x2 x3 x4 x5 x6 x1 _ _ ls w  (lv_sub hl [0, 1, 2, 3, 4, 5, 6] rfl) e3
set_option maxRecDepth 20000 in
set_option maxHeartbeats 4000000 in
theorem k_M_feed (l : Launch) (D : va_G) (cy : cyT) (z : Nat) (N : Nat) (h : hS) (th : Nat) (x1 : Int32) (x2 : Int32) (x3 : Int32) (x4 : Int32) (x5 : Int32) (r : Int32) (g : hS) (hE : f_M_feed N h th x1 x2 x3 x4 x5 = some (r, g)) : ct l yX12_feed (Cond.code yX12_feed cX12_feed 8 ((some .int)) :: GW) { frames := 0, cells := 0, slots := 0, locals := 0 } D cy z h [.ref th, .int x1, .int x2, .int x3, .int x4, .int x5] (rI r) g := by
  refine Met.ofW (cc := cX12_feed) (maxL := 8) (ret := (some .int)) (by decide) rfl ?_
  intro p e s m args below meth c s₁ B hml hv
  obtain ⟨rfl, hw⟩ := hv
  have C : MX p s m ([.ref th, .int x1, .int x2, .int x3, .int x4, .int x5] : List Value).toArray meth c cX12_feed 8 ((some .int)) RX12 (Cond.code yX12_feed cX12_feed 8 ((some .int)) :: GW) := ⟨B.exec, B.bytes, B.returns, hml, findClass_of_methodNamed B.named, atoms_spec (ws := Cond.code yX12_feed cX12_feed 8 ((some .int)) :: GW) B.pre, B.notSynchronized⟩
  obtain ⟨hx, hb, hr, hml, hown, hts, hlk⟩ := id C
  have w := wd_of hw
  obtain ⟨ls, hen, hl⟩ : ∃ ls : Array Slot, entryFrame m ([.ref th, .int x1, .int x2, .int x3, .int x4, .int x5] : List Value).toArray 8 = F0 m 0 ls [] ∧ lv_has ls 8 [(0, .ref th), (1, .int x1), (2, .int x2), (3, .int x3), (4, .int x4), (5, .int x5)] := by
    exact ⟨_, lg_entry_eq _ _ _, lv_entry _ (Nat.le_of_ble_eq_true rfl)⟩
  rw [hen]
  unfold f_M_feed at hE
  refine lv_aload_n hx hb dX12_feed_0 rfl (lv_at hl 0 rfl) ?_
  refine lv_iconst (v := 0) hx hb dX12_feed_1 (by decide) ?_
  refine w_pI (r := some th) (ci := 0) (k := 1) C w rfl (by decide) (by unfold roK; omega) (GF_wsX120 _) tyX12 tyX12_ok nmX12 (by decide) rfl (List.mem_cons_of_mem _ gw_8_18) rfl rfl (tyX12_ok 1 (by decide)) dX12_feed_2 hE (fun h1 H locs w hsh1 e1 => ?_)
  refine lv_aload_n hx hb dX12_feed_5 rfl (lv_at hl 0 rfl) ?_
  refine w_gI (r := some th) (ci := 0) (k := 20) C w rfl (by decide) (GF_wsX120 _) (by decide) rfl (List.mem_cons_of_mem _ gw_8_19) rfl dX12_feed_6 e1 (fun v2 e2 => ?_)
  refine lv_bipush (v := 20) hx hb dX12_feed_9 (by decide) ?_
  refine lv_iadd hx hb dX12_feed_11 ?_
  refine lv_sipush (v := 600) hx hb dX12_feed_12 (by decide) ?_
  refine w_icmp_le (tgt := 20) C dX12_feed_15 (by decide) e2 (fun hc e3 => ?_) (fun hc e3 => ?_)
  · refine lv_iconst (v := 0) hx hb dX12_feed_20 (by decide) ?_
    refine lv_istore (lv' := [(6, .int (0 : Int32)), (0, .ref th), (1, .int x1), (2, .int x2), (3, .int x3), (4, .int x4), (5, .int x5)]) hx hb dX12_feed_21 hl (by decide) rfl (fun ls hl => ?_)
    exact b_M_feed_23 C N   N  h1 th x1 x2 x3 x4 x5 (0 : Int32) _ _ ls w  (lv_sub hl [1, 2, 3, 4, 5, 6, 0] rfl) e3
  · refine lv_iconst (v := -1) hx hb dX12_feed_18 (by decide) ?_
    exact w_iret C w e3 dX12_feed_19
set_option maxRecDepth 20000 in
set_option maxHeartbeats 4000000 in
theorem b_M_byteAt_18 {p : Program} {l : Launch} {e : Env} {s : State} {m : MethodId} {args : Array Value} {below : List Frame} {meth : Method} {c : Code} {D : va_G} {cy : cyT} {z : Nat} (C : MX p s m args meth c cX12_byteAt 2 ((some .int)) RX12 (Cond.code yX12_byteAt cX12_byteAt 2 ((some .int)) :: GW)) (N : Nat) {r : Int32} {g : hS}  : ∀  (h : hS) (y0 : Int32) (H : Heap) (locs : List Loc) (ls : Array Slot), wd D cy z s 0 h H locs → lv_has ls 2 [] → f_M_byteAt_18 N   h y0 = some (r, g) → W p l e { frames := 0, cells := 0, slots := 0, locals := 0 } s m args below meth c H locs 0 0 (MQ below (eQ D cy z (rI r) g) args s 0 0 (fun q => z ≤ q)) (F0 m 18 ls [.int y0]) := by
  obtain ⟨hx, hb, hr, hml, hown, hts, hlk⟩ := id C
  intro  h y0 H locs ls w  hl hE
  unfold f_M_byteAt_18 at hE
  exact w_iret C w hE dX12_byteAt_18
set_option maxRecDepth 20000 in
set_option maxHeartbeats 4000000 in
theorem k_M_byteAt (l : Launch) (D : va_G) (cy : cyT) (z : Nat) (N : Nat) (h : hS) (th : Nat) (x1 : Int32) (r : Int32) (g : hS) (hE : f_M_byteAt N h th x1 = some (r, g)) : ct l yX12_byteAt (Cond.code yX12_byteAt cX12_byteAt 2 ((some .int)) :: GW) { frames := 0, cells := 0, slots := 0, locals := 0 } D cy z h [.ref th, .int x1] (rI r) g := by
  refine Met.ofW (cc := cX12_byteAt) (maxL := 2) (ret := (some .int)) (by decide) rfl ?_
  intro p e s m args below meth c s₁ B hml hv
  obtain ⟨rfl, hw⟩ := hv
  have C : MX p s m ([.ref th, .int x1] : List Value).toArray meth c cX12_byteAt 2 ((some .int)) RX12 (Cond.code yX12_byteAt cX12_byteAt 2 ((some .int)) :: GW) := ⟨B.exec, B.bytes, B.returns, hml, findClass_of_methodNamed B.named, atoms_spec (ws := Cond.code yX12_byteAt cX12_byteAt 2 ((some .int)) :: GW) B.pre, B.notSynchronized⟩
  obtain ⟨hx, hb, hr, hml, hown, hts, hlk⟩ := id C
  have w := wd_of hw
  obtain ⟨ls, hen, hl⟩ : ∃ ls : Array Slot, entryFrame m ([.ref th, .int x1] : List Value).toArray 2 = F0 m 0 ls [] ∧ lv_has ls 2 [(0, .ref th), (1, .int x1)] := by
    exact ⟨_, lg_entry_eq _ _ _, lv_entry _ (Nat.le_of_ble_eq_true rfl)⟩
  rw [hen]
  unfold f_M_byteAt at hE
  refine lv_iload_n hx hb dX12_byteAt_0 rfl (lv_at hl 1 rfl) ?_
  refine lv_aload_n hx hb dX12_byteAt_1 rfl (lv_at hl 0 rfl) ?_
  refine w_gI (r := some th) (ci := 0) (k := 22) C w rfl (by decide) (GF_wsX120 _) (by decide) rfl (List.mem_cons_of_mem _ gw_24_14) rfl dX12_byteAt_2 hE (fun v1 e1 => ?_)
  refine w_icmp_ge (tgt := 17) C dX12_byteAt_5 (by decide) e1 (fun hc e2 => ?_) (fun hc e2 => ?_)
  · refine lv_iconst (v := -1) hx hb dX12_byteAt_17 (by decide) ?_
    exact b_M_byteAt_18 C N     h (-1 : Int32) _ _ ls w  (lv_sub hl [] rfl) e2
  · refine lv_aload_n hx hb dX12_byteAt_8 rfl (lv_at hl 0 rfl) ?_
    refine w_gR (r := some th) (ci := 0) (k := 17) C w rfl (by decide) (GF_wsX120 _) (by decide) rfl (List.mem_cons_of_mem _ gw_7_11) rfl dX12_byteAt_9 e2 (fun v2 e3 => ?_)
    refine lv_iload_n hx hb dX12_byteAt_12 rfl (lv_at hl 1 rfl) ?_
    refine w_aI (r := v2) C w dX12_byteAt_13 e3 (fun v3 e4 => ?_)
    refine lv_goto (tgt := 18) hx hb dX12_byteAt_14 (by decide) ?_
    exact b_M_byteAt_18 C N     h v3 _ _ ls w  (lv_sub hl [] rfl) e4
set_option maxRecDepth 20000 in
set_option maxHeartbeats 4000000 in
theorem b_M_isLetter_17 {p : Program} {l : Launch} {e : Env} {s : State} {m : MethodId} {args : Array Value} {below : List Frame} {meth : Method} {c : Code} {D : va_G} {cy : cyT} {z : Nat} (C : MX p s m args meth c cX12_isLetter 1 ((some .boolean)) RX12 (Cond.code yX12_isLetter cX12_isLetter 1 ((some .boolean)) :: GW)) (N : Nat) {r : Int32} {g : hS}  : ∀  (h : hS) (y0 : Int32) (H : Heap) (locs : List Loc) (ls : Array Slot), wd D cy z s 0 h H locs → lv_has ls 1 [] → f_M_isLetter_17 N   h y0 = some (r, g) → W p l e { frames := 0, cells := 0, slots := 0, locals := 0 } s m args below meth c H locs 0 0 (MQ below (eQ D cy z (rI r) g) args s 0 0 (fun q => z ≤ q)) (F0 m 17 ls [.int y0]) := by
  obtain ⟨hx, hb, hr, hml, hown, hts, hlk⟩ := id C
  intro  h y0 H locs ls w  hl hE
  unfold f_M_isLetter_17 at hE
  exact w_zret C w hE dX12_isLetter_17
set_option maxRecDepth 20000 in
set_option maxHeartbeats 4000000 in
theorem b_M_isLetter_16 {p : Program} {l : Launch} {e : Env} {s : State} {m : MethodId} {args : Array Value} {below : List Frame} {meth : Method} {c : Code} {D : va_G} {cy : cyT} {z : Nat} (C : MX p s m args meth c cX12_isLetter 1 ((some .boolean)) RX12 (Cond.code yX12_isLetter cX12_isLetter 1 ((some .boolean)) :: GW)) (N : Nat) {r : Int32} {g : hS}  : ∀  (h : hS)  (H : Heap) (locs : List Loc) (ls : Array Slot), wd D cy z s 0 h H locs → lv_has ls 1 [] → f_M_isLetter_16 N   h  = some (r, g) → W p l e { frames := 0, cells := 0, slots := 0, locals := 0 } s m args below meth c H locs 0 0 (MQ below (eQ D cy z (rI r) g) args s 0 0 (fun q => z ≤ q)) (F0 m 16 ls []) := by
  obtain ⟨hx, hb, hr, hml, hown, hts, hlk⟩ := id C
  intro  h  H locs ls w  hl hE
  unfold f_M_isLetter_16 at hE
  refine lv_iconst (v := 0) hx hb dX12_isLetter_16 (by decide) ?_
  exact b_M_isLetter_17 C N     h (0 : Int32) _ _ ls w  (lv_sub hl [] rfl) hE
set_option maxRecDepth 20000 in
set_option maxHeartbeats 4000000 in
theorem k_M_isLetter (l : Launch) (D : va_G) (cy : cyT) (z : Nat) (N : Nat) (h : hS) (x0 : Int32) (r : Int32) (g : hS) (hE : f_M_isLetter N h x0 = some (r, g)) : ct l yX12_isLetter (Cond.code yX12_isLetter cX12_isLetter 1 ((some .boolean)) :: GW) { frames := 0, cells := 0, slots := 0, locals := 0 } D cy z h [.int x0] (rI r) g := by
  refine Met.ofW (cc := cX12_isLetter) (maxL := 1) (ret := (some .boolean)) (by decide) rfl ?_
  intro p e s m args below meth c s₁ B hml hv
  obtain ⟨rfl, hw⟩ := hv
  have C : MX p s m ([.int x0] : List Value).toArray meth c cX12_isLetter 1 ((some .boolean)) RX12 (Cond.code yX12_isLetter cX12_isLetter 1 ((some .boolean)) :: GW) := ⟨B.exec, B.bytes, B.returns, hml, findClass_of_methodNamed B.named, atoms_spec (ws := Cond.code yX12_isLetter cX12_isLetter 1 ((some .boolean)) :: GW) B.pre, B.notSynchronized⟩
  obtain ⟨hx, hb, hr, hml, hown, hts, hlk⟩ := id C
  have w := wd_of hw
  obtain ⟨ls, hen, hl⟩ : ∃ ls : Array Slot, entryFrame m ([.int x0] : List Value).toArray 1 = F0 m 0 ls [] ∧ lv_has ls 1 [(0, .int x0)] := by
    exact ⟨_, lg_entry_eq _ _ _, lv_entry _ (Nat.le_of_ble_eq_true rfl)⟩
  rw [hen]
  unfold f_M_isLetter at hE
  refine lv_iload_n hx hb dX12_isLetter_0 rfl (lv_at hl 0 rfl) ?_
  refine lv_bipush (v := 97) hx hb dX12_isLetter_1 (by decide) ?_
  refine w_icmp_lt (tgt := 16) C dX12_isLetter_3 (by decide) hE (fun hc e1 => ?_) (fun hc e1 => ?_)
  · exact b_M_isLetter_16 C N     h  _ _ ls w  (lv_sub hl [] rfl) e1
  · refine lv_iload_n hx hb dX12_isLetter_6 rfl (lv_at hl 0 rfl) ?_
    refine lv_bipush (v := 122) hx hb dX12_isLetter_7 (by decide) ?_
    refine w_icmp_gt (tgt := 16) C dX12_isLetter_9 (by decide) e1 (fun hc e2 => ?_) (fun hc e2 => ?_)
    · exact b_M_isLetter_16 C N     h  _ _ ls w  (lv_sub hl [] rfl) e2
    · refine lv_iconst (v := 1) hx hb dX12_isLetter_12 (by decide) ?_
      refine lv_goto (tgt := 17) hx hb dX12_isLetter_13 (by decide) ?_
      exact b_M_isLetter_17 C N     h (1 : Int32) _ _ ls w  (lv_sub hl [] rfl) e2
set_option maxRecDepth 20000 in
set_option maxHeartbeats 4000000 in
theorem b_M_isDigit_17 {p : Program} {l : Launch} {e : Env} {s : State} {m : MethodId} {args : Array Value} {below : List Frame} {meth : Method} {c : Code} {D : va_G} {cy : cyT} {z : Nat} (C : MX p s m args meth c cX12_isDigit 1 ((some .boolean)) RX12 (Cond.code yX12_isDigit cX12_isDigit 1 ((some .boolean)) :: GW)) (N : Nat) {r : Int32} {g : hS}  : ∀  (h : hS) (y0 : Int32) (H : Heap) (locs : List Loc) (ls : Array Slot), wd D cy z s 0 h H locs → lv_has ls 1 [] → f_M_isDigit_17 N   h y0 = some (r, g) → W p l e { frames := 0, cells := 0, slots := 0, locals := 0 } s m args below meth c H locs 0 0 (MQ below (eQ D cy z (rI r) g) args s 0 0 (fun q => z ≤ q)) (F0 m 17 ls [.int y0]) := by
  obtain ⟨hx, hb, hr, hml, hown, hts, hlk⟩ := id C
  intro  h y0 H locs ls w  hl hE
  unfold f_M_isDigit_17 at hE
  exact w_zret C w hE dX12_isDigit_17
set_option maxRecDepth 20000 in
set_option maxHeartbeats 4000000 in
theorem b_M_isDigit_16 {p : Program} {l : Launch} {e : Env} {s : State} {m : MethodId} {args : Array Value} {below : List Frame} {meth : Method} {c : Code} {D : va_G} {cy : cyT} {z : Nat} (C : MX p s m args meth c cX12_isDigit 1 ((some .boolean)) RX12 (Cond.code yX12_isDigit cX12_isDigit 1 ((some .boolean)) :: GW)) (N : Nat) {r : Int32} {g : hS}  : ∀  (h : hS)  (H : Heap) (locs : List Loc) (ls : Array Slot), wd D cy z s 0 h H locs → lv_has ls 1 [] → f_M_isDigit_16 N   h  = some (r, g) → W p l e { frames := 0, cells := 0, slots := 0, locals := 0 } s m args below meth c H locs 0 0 (MQ below (eQ D cy z (rI r) g) args s 0 0 (fun q => z ≤ q)) (F0 m 16 ls []) := by
  obtain ⟨hx, hb, hr, hml, hown, hts, hlk⟩ := id C
  intro  h  H locs ls w  hl hE
  unfold f_M_isDigit_16 at hE
  refine lv_iconst (v := 0) hx hb dX12_isDigit_16 (by decide) ?_
  exact b_M_isDigit_17 C N     h (0 : Int32) _ _ ls w  (lv_sub hl [] rfl) hE
set_option maxRecDepth 20000 in
set_option maxHeartbeats 4000000 in
theorem k_M_isDigit (l : Launch) (D : va_G) (cy : cyT) (z : Nat) (N : Nat) (h : hS) (x0 : Int32) (r : Int32) (g : hS) (hE : f_M_isDigit N h x0 = some (r, g)) : ct l yX12_isDigit (Cond.code yX12_isDigit cX12_isDigit 1 ((some .boolean)) :: GW) { frames := 0, cells := 0, slots := 0, locals := 0 } D cy z h [.int x0] (rI r) g := by
  refine Met.ofW (cc := cX12_isDigit) (maxL := 1) (ret := (some .boolean)) (by decide) rfl ?_
  intro p e s m args below meth c s₁ B hml hv
  obtain ⟨rfl, hw⟩ := hv
  have C : MX p s m ([.int x0] : List Value).toArray meth c cX12_isDigit 1 ((some .boolean)) RX12 (Cond.code yX12_isDigit cX12_isDigit 1 ((some .boolean)) :: GW) := ⟨B.exec, B.bytes, B.returns, hml, findClass_of_methodNamed B.named, atoms_spec (ws := Cond.code yX12_isDigit cX12_isDigit 1 ((some .boolean)) :: GW) B.pre, B.notSynchronized⟩
  obtain ⟨hx, hb, hr, hml, hown, hts, hlk⟩ := id C
  have w := wd_of hw
  obtain ⟨ls, hen, hl⟩ : ∃ ls : Array Slot, entryFrame m ([.int x0] : List Value).toArray 1 = F0 m 0 ls [] ∧ lv_has ls 1 [(0, .int x0)] := by
    exact ⟨_, lg_entry_eq _ _ _, lv_entry _ (Nat.le_of_ble_eq_true rfl)⟩
  rw [hen]
  unfold f_M_isDigit at hE
  refine lv_iload_n hx hb dX12_isDigit_0 rfl (lv_at hl 0 rfl) ?_
  refine lv_bipush (v := 48) hx hb dX12_isDigit_1 (by decide) ?_
  refine w_icmp_lt (tgt := 16) C dX12_isDigit_3 (by decide) hE (fun hc e1 => ?_) (fun hc e1 => ?_)
  · exact b_M_isDigit_16 C N     h  _ _ ls w  (lv_sub hl [] rfl) e1
  · refine lv_iload_n hx hb dX12_isDigit_6 rfl (lv_at hl 0 rfl) ?_
    refine lv_bipush (v := 57) hx hb dX12_isDigit_7 (by decide) ?_
    refine w_icmp_gt (tgt := 16) C dX12_isDigit_9 (by decide) e1 (fun hc e2 => ?_) (fun hc e2 => ?_)
    · exact b_M_isDigit_16 C N     h  _ _ ls w  (lv_sub hl [] rfl) e2
    · refine lv_iconst (v := 1) hx hb dX12_isDigit_12 (by decide) ?_
      refine lv_goto (tgt := 17) hx hb dX12_isDigit_13 (by decide) ?_
      exact b_M_isDigit_17 C N     h (1 : Int32) _ _ ls w  (lv_sub hl [] rfl) e2
set_option maxRecDepth 20000 in
set_option maxHeartbeats 4000000 in
theorem b_M_stepOn_26 {p : Program} {l : Launch} {e : Env} {s : State} {m : MethodId} {args : Array Value} {below : List Frame} {meth : Method} {c : Code} {D : va_G} {cy : cyT} {z : Nat} (C : MX p s m args meth c cX12_stepOn 2 (none) RX12 (Cond.code yX12_stepOn cX12_stepOn 2 (none) :: GW)) (N : Nat) {r : Unit} {g : hS} {rc0 : hS → Nat → Option (Unit × hS)}  (hrc0 : ∀ (h : hS) (th : Nat) (H : Heap) (locs : List Loc) (ls : Array Slot), wd D cy z s 0 h H locs → lv_has ls 2 [(0, .ref th)] → rc0 h th = some (r, g) → W p l e { frames := 1, cells := 0, slots := 0, locals := 44 } s m args below meth c H locs 0 0 (MQ below (eQ D cy z (rV r) g) args s 0 0 (fun q => z ≤ q)) (F0 m 0 ls [])) : ∀  (h : hS) (th : Nat) (H : Heap) (locs : List Loc) (ls : Array Slot), wd D cy z s 0 h H locs → lv_has ls 2 [(0, .ref th)] → f_M_stepOn_26 N rc0  h th = some (r, g) → W p l e { frames := 1, cells := 0, slots := 0, locals := 44 } s m args below meth c H locs 0 0 (MQ below (eQ D cy z (rV r) g) args s 0 0 (fun q => z ≤ q)) (F0 m 26 ls []) := by
  obtain ⟨hx, hb, hr, hml, hown, hts, hlk⟩ := id C
  intro  h th H locs ls w  hl hE
  unfold f_M_stepOn_26 at hE
  refine lv_aload_n hx hb dX12_stepOn_26 rfl (lv_at hl 0 rfl) ?_
  refine lv_dup hx hb dX12_stepOn_27 rfl ?_
  refine w_gI (r := some th) (ci := 0) (k := 21) C w rfl (by decide) (GF_wsX120 _) (by decide) rfl (List.mem_cons_of_mem _ gw_24_15) rfl dX12_stepOn_28 hE (fun v1 e1 => ?_)
  refine lv_iconst (v := 1) hx hb dX12_stepOn_31 (by decide) ?_
  refine lv_iadd hx hb dX12_stepOn_32 ?_
  refine w_pI (r := some th) (ci := 0) (k := 21) C w rfl (by decide) (by unfold roK; omega) (GF_wsX120 _) tyX12 tyX12_ok nmX12 (by decide) rfl (List.mem_cons_of_mem _ gw_24_15) rfl rfl (tyX12_ok 21 (by decide)) dX12_stepOn_33 e1 (fun h2 H locs w hsh2 e2 => ?_)
  refine lv_goto (tgt := 0) hx hb dX12_stepOn_36 (by decide) ?_
  exact hrc0  h2 th _ _ ls w  (lv_sub hl [0] rfl) e2
set_option maxRecDepth 20000 in
set_option maxHeartbeats 4000000 in
theorem b_M_stepOn_218 {p : Program} {l : Launch} {e : Env} {s : State} {m : MethodId} {args : Array Value} {below : List Frame} {meth : Method} {c : Code} {D : va_G} {cy : cyT} {z : Nat} (C : MX p s m args meth c cX12_stepOn 2 (none) RX12 (Cond.code yX12_stepOn cX12_stepOn 2 (none) :: GW)) (N : Nat) {r : Unit} {g : hS}  : ∀  (h : hS) (th : Nat) (H : Heap) (locs : List Loc) (ls : Array Slot), wd D cy z s 0 h H locs → lv_has ls 2 [(0, .ref th)] → f_M_stepOn_218 N   h th = some (r, g) → W p l e { frames := 1, cells := 0, slots := 0, locals := 44 } s m args below meth c H locs 0 0 (MQ below (eQ D cy z (rV r) g) args s 0 0 (fun q => z ≤ q)) (F0 m 218 ls []) := by
  obtain ⟨hx, hb, hr, hml, hown, hts, hlk⟩ := id C
  intro  h th H locs ls w  hl hE
  unfold f_M_stepOn_218 at hE
  refine lv_aload_n hx hb dX12_stepOn_218 rfl (lv_at hl 0 rfl) ?_
  refine lv_aload_n hx hb dX12_stepOn_219 rfl (lv_at hl 0 rfl) ?_
  refine w_gI (r := some th) (ci := 0) (k := 21) C w rfl (by decide) (GF_wsX120 _) (by decide) rfl (List.mem_cons_of_mem _ gw_24_15) rfl dX12_stepOn_220 hE (fun v1 e1 => ?_)
  refine w_pI (r := some th) (ci := 0) (k := 26) C w rfl (by decide) (by unfold roK; omega) (GF_wsX120 _) tyX12 tyX12_ok nmX12 (by decide) rfl (List.mem_cons_of_mem _ gw_25_16) rfl rfl (tyX12_ok 26 (by decide)) dX12_stepOn_223 e1 (fun h2 H locs w hsh2 e2 => ?_)
  exact w_vret C w e2 dX12_stepOn_226
set_option maxRecDepth 20000 in
set_option maxHeartbeats 4000000 in
theorem b_M_stepOn_215 {p : Program} {l : Launch} {e : Env} {s : State} {m : MethodId} {args : Array Value} {below : List Frame} {meth : Method} {c : Code} {D : va_G} {cy : cyT} {z : Nat} (C : MX p s m args meth c cX12_stepOn 2 (none) RX12 (Cond.code yX12_stepOn cX12_stepOn 2 (none) :: GW)) (N : Nat) {r : Unit} {g : hS}  : ∀  (h : hS) (th : Nat) (y0 : Option Nat) (y1 : Int32) (H : Heap) (locs : List Loc) (ls : Array Slot), wd D cy z s 0 h H locs → lv_has ls 2 [(0, .ref th)] → f_M_stepOn_215 N   h th y0 y1 = some (r, g) → W p l e { frames := 1, cells := 0, slots := 0, locals := 44 } s m args below meth c H locs 0 0 (MQ below (eQ D cy z (rV r) g) args s 0 0 (fun q => z ≤ q)) (F0 m 215 ls [.int y1, va_rf y0]) := by
  obtain ⟨hx, hb, hr, hml, hown, hts, hlk⟩ := id C
  intro  h th y0 y1 H locs ls w  hl hE
  unfold f_M_stepOn_215 at hE
  refine w_pI (r := y0) (ci := 0) (k := 23) C w rfl (by decide) (by unfold roK; omega) (GF_wsX120 _) tyX12 tyX12_ok nmX12 (by decide) rfl (List.mem_cons_of_mem _ gw_24_17) rfl rfl (tyX12_ok 23 (by decide)) dX12_stepOn_215 hE (fun h1 H locs w hsh1 e1 => ?_)
  exact b_M_stepOn_218 C N     h1 th _ _ ls w  (lv_sub hl [0] rfl) e1
set_option maxRecDepth 20000 in
set_option maxHeartbeats 4000000 in
theorem b_M_stepOn_210 {p : Program} {l : Launch} {e : Env} {s : State} {m : MethodId} {args : Array Value} {below : List Frame} {meth : Method} {c : Code} {D : va_G} {cy : cyT} {z : Nat} (C : MX p s m args meth c cX12_stepOn 2 (none) RX12 (Cond.code yX12_stepOn cX12_stepOn 2 (none) :: GW)) (N : Nat) {r : Unit} {g : hS}  : ∀  (h : hS) (th : Nat) (y0 : Option Nat) (H : Heap) (locs : List Loc) (ls : Array Slot), wd D cy z s 0 h H locs → lv_has ls 2 [(0, .ref th)] → f_M_stepOn_210 N   h th y0 = some (r, g) → W p l e { frames := 1, cells := 0, slots := 0, locals := 44 } s m args below meth c H locs 0 0 (MQ below (eQ D cy z (rV r) g) args s 0 0 (fun q => z ≤ q)) (F0 m 210 ls [va_rf y0]) := by
  obtain ⟨hx, hb, hr, hml, hown, hts, hlk⟩ := id C
  intro  h th y0 H locs ls w  hl hE
  unfold f_M_stepOn_210 at hE
  refine lv_iconst (v := 3) hx hb dX12_stepOn_210 (by decide) ?_
  refine lv_goto (tgt := 215) hx hb dX12_stepOn_211 (by decide) ?_
  exact b_M_stepOn_215 C N     h th y0 (3 : Int32) _ _ ls w  (lv_sub hl [0] rfl) hE
set_option maxRecDepth 20000 in
set_option maxHeartbeats 4000000 in
theorem b_M_stepOn_123 {p : Program} {l : Launch} {e : Env} {s : State} {m : MethodId} {args : Array Value} {below : List Frame} {meth : Method} {c : Code} {D : va_G} {cy : cyT} {z : Nat} (C : MX p s m args meth c cX12_stepOn 2 (none) RX12 (Cond.code yX12_stepOn cX12_stepOn 2 (none) :: GW)) (N : Nat) {r : Unit} {g : hS}  : ∀ (n : Nat) (h : hS) (th : Nat) (H : Heap) (locs : List Loc) (ls : Array Slot), wd D cy z s 0 h H locs → lv_has ls 2 [(0, .ref th)] → f_M_stepOn_123 N  n h th = some (r, g) → W p l e { frames := 1, cells := 0, slots := 0, locals := 44 } s m args below meth c H locs 0 0 (MQ below (eQ D cy z (rV r) g) args s 0 0 (fun q => z ≤ q)) (F0 m 123 ls []) := by
  obtain ⟨hx, hb, hr, hml, hown, hts, hlk⟩ := id C
  intro n
  induction n with
  | zero =>
    intro  h th H locs ls w  hl hE
    cases hE
  | succ n ih =>
    intro  h th H locs ls w  hl hE
    unfold f_M_stepOn_123 at hE
    refine lv_aload_n hx hb dX12_stepOn_123 rfl (lv_at hl 0 rfl) ?_
    refine lv_aload_n hx hb dX12_stepOn_124 rfl (lv_at hl 0 rfl) ?_
    refine w_gI (r := some th) (ci := 0) (k := 21) C w rfl (by decide) (GF_wsX120 _) (by decide) rfl (List.mem_cons_of_mem _ gw_24_15) rfl dX12_stepOn_125 hE (fun v1 e1 => ?_)
    refine w_VI GW_good (n := 1) (F := 0) (Lc := 0) (o := some th) (av := [.int v1]) (rest := []) C w rfl (by decide) (fun a r g hf => k_M_byteAt l D cy z N h a v1 r g hf) gw_25_17 gw_25_18 gw_25_19 gw_1_5 gw_25_20 (by decide +kernel) ⟨Nat.le_of_ble_eq_true rfl, Nat.le_of_ble_eq_true rfl⟩ rfl hl.1 rfl (Nat.le_of_ble_eq_true rfl) dX12_stepOn_128 (fun a => (sh_M_byteAt N h a v1)) ⟨by decide, by decide⟩ e1 (fun v2 h3 H locs w hsh3 e2 => ?_)
    refine w_SI GW_good (n := 1) (F := 0) (Lc := 0) (av := [.int v2]) (rest := []) C w (fun r g hf => k_M_isDigit l D cy z N h3 v2 r g hf) gw_26_0 gw_26_1 gw_1_5 gw_26_2 (by decide +kernel) ⟨Nat.le_of_ble_eq_true rfl, Nat.le_of_ble_eq_true rfl⟩ rfl hl.1 rfl (Nat.le_of_ble_eq_true rfl) dX12_stepOn_131 (sh_M_isDigit N h3 v2) ⟨by decide, by decide⟩ e2 (fun v4 h5 H locs w hsh5 e3 => ?_)
    refine w_if_eq (tgt := 179) C dX12_stepOn_134 (by decide) e3 (fun hc e4 => ?_) (fun hc e4 => ?_)
    · refine lv_aload_n hx hb dX12_stepOn_179 rfl (lv_at hl 0 rfl) ?_
      refine lv_iconst (v := 2) hx hb dX12_stepOn_180 (by decide) ?_
      refine w_pI (r := some th) (ci := 0) (k := 23) C w rfl (by decide) (by unfold roK; omega) (GF_wsX120 _) tyX12 tyX12_ok nmX12 (by decide) rfl (List.mem_cons_of_mem _ gw_24_17) rfl rfl (tyX12_ok 23 (by decide)) dX12_stepOn_181 e4 (fun h6 H locs w hsh6 e5 => ?_)
      refine lv_goto (tgt := 218) hx hb dX12_stepOn_184 (by decide) ?_
      exact b_M_stepOn_218 C N     h6 th _ _ ls w  (lv_sub hl [0] rfl) e5
    · refine lv_aload_n hx hb dX12_stepOn_137 rfl (lv_at hl 0 rfl) ?_
      refine lv_ldcw hx hb hown (hts _ (List.mem_cons_of_mem _ gw_25_14)) dX12_stepOn_138 ?_
      refine lv_bipush (v := 10) hx hb dX12_stepOn_141 (by decide) ?_
      refine lv_aload_n hx hb dX12_stepOn_143 rfl (lv_at hl 0 rfl) ?_
      refine w_gI (r := some th) (ci := 0) (k := 24) C w rfl (by decide) (GF_wsX120 _) (by decide) rfl (List.mem_cons_of_mem _ gw_25_13) rfl dX12_stepOn_144 e4 (fun v7 e6 => ?_)
      refine lv_imul hx hb dX12_stepOn_147 ?_
      refine lv_aload_n hx hb dX12_stepOn_148 rfl (lv_at hl 0 rfl) ?_
      refine lv_aload_n hx hb dX12_stepOn_149 rfl (lv_at hl 0 rfl) ?_
      refine w_gI (r := some th) (ci := 0) (k := 21) C w rfl (by decide) (GF_wsX120 _) (by decide) rfl (List.mem_cons_of_mem _ gw_24_15) rfl dX12_stepOn_150 e6 (fun v8 e7 => ?_)
      refine w_VI GW_good (n := 1) (F := 0) (Lc := 0) (o := some th) (av := [.int v8]) (rest := [.int ((10 : Int32) * v7), .int (100000 : Int32), .ref th]) C w rfl (by decide) (fun a r g hf => k_M_byteAt l D cy z N h5 a v8 r g hf) gw_25_17 gw_25_18 gw_25_19 gw_1_5 gw_25_20 (by decide +kernel) ⟨Nat.le_of_ble_eq_true rfl, Nat.le_of_ble_eq_true rfl⟩ rfl hl.1 rfl (Nat.le_of_ble_eq_true rfl) dX12_stepOn_153 (fun a => (sh_M_byteAt N h5 a v8)) ⟨by decide, by decide⟩ e7 (fun v9 h10 H locs w hsh10 e8 => ?_)
      refine lv_iadd hx hb dX12_stepOn_156 ?_
      refine lv_bipush (v := 48) hx hb dX12_stepOn_157 (by decide) ?_
      refine lv_isub hx hb dX12_stepOn_159 ?_
      refine w_mmin C hl.1 (List.mem_cons_of_mem _ gw_25_15) (List.mem_cons_of_mem _ gw_10_6) (List.mem_cons_of_mem _ gw_10_7) (List.mem_cons_of_mem _ gw_10_8) (Nat.le_of_ble_eq_true rfl) (Nat.le_of_ble_eq_true rfl) (by decide) (by decide) dX12_stepOn_160 ?_
      refine w_pI (r := some th) (ci := 0) (k := 24) C w rfl (by decide) (by unfold roK; omega) (GF_wsX120 _) tyX12 tyX12_ok nmX12 (by decide) rfl (List.mem_cons_of_mem _ gw_25_13) rfl rfl (tyX12_ok 24 (by decide)) dX12_stepOn_163 e8 (fun h11 H locs w hsh11 e9 => ?_)
      refine lv_aload_n hx hb dX12_stepOn_166 rfl (lv_at hl 0 rfl) ?_
      refine lv_dup hx hb dX12_stepOn_167 rfl ?_
      refine w_gI (r := some th) (ci := 0) (k := 21) C w rfl (by decide) (GF_wsX120 _) (by decide) rfl (List.mem_cons_of_mem _ gw_24_15) rfl dX12_stepOn_168 e9 (fun v12 e10 => ?_)
      refine lv_iconst (v := 1) hx hb dX12_stepOn_171 (by decide) ?_
      refine lv_iadd hx hb dX12_stepOn_172 ?_
      refine w_pI (r := some th) (ci := 0) (k := 21) C w rfl (by decide) (by unfold roK; omega) (GF_wsX120 _) tyX12 tyX12_ok nmX12 (by decide) rfl (List.mem_cons_of_mem _ gw_24_15) rfl rfl (tyX12_ok 21 (by decide)) dX12_stepOn_173 e10 (fun h13 H locs w hsh13 e11 => ?_)
      refine lv_goto (tgt := 123) hx hb dX12_stepOn_176 (by decide) ?_
      exact ih  h13 th _ _ ls w  (lv_sub hl [0] rfl) e11
set_option maxRecDepth 20000 in
set_option maxHeartbeats 4000000 in
theorem b_M_stepOn_76 {p : Program} {l : Launch} {e : Env} {s : State} {m : MethodId} {args : Array Value} {below : List Frame} {meth : Method} {c : Code} {D : va_G} {cy : cyT} {z : Nat} (C : MX p s m args meth c cX12_stepOn 2 (none) RX12 (Cond.code yX12_stepOn cX12_stepOn 2 (none) :: GW)) (N : Nat) {r : Unit} {g : hS}  : ∀ (n : Nat) (h : hS) (th : Nat) (H : Heap) (locs : List Loc) (ls : Array Slot), wd D cy z s 0 h H locs → lv_has ls 2 [(0, .ref th)] → f_M_stepOn_76 N  n h th = some (r, g) → W p l e { frames := 1, cells := 0, slots := 0, locals := 44 } s m args below meth c H locs 0 0 (MQ below (eQ D cy z (rV r) g) args s 0 0 (fun q => z ≤ q)) (F0 m 76 ls []) := by
  obtain ⟨hx, hb, hr, hml, hown, hts, hlk⟩ := id C
  intro n
  induction n with
  | zero =>
    intro  h th H locs ls w  hl hE
    cases hE
  | succ n ih =>
    intro  h th H locs ls w  hl hE
    unfold f_M_stepOn_76 at hE
    refine lv_aload_n hx hb dX12_stepOn_76 rfl (lv_at hl 0 rfl) ?_
    refine lv_aload_n hx hb dX12_stepOn_77 rfl (lv_at hl 0 rfl) ?_
    refine w_gI (r := some th) (ci := 0) (k := 21) C w rfl (by decide) (GF_wsX120 _) (by decide) rfl (List.mem_cons_of_mem _ gw_24_15) rfl dX12_stepOn_78 hE (fun v1 e1 => ?_)
    refine w_VI GW_good (n := 1) (F := 0) (Lc := 0) (o := some th) (av := [.int v1]) (rest := []) C w rfl (by decide) (fun a r g hf => k_M_byteAt l D cy z N h a v1 r g hf) gw_25_17 gw_25_18 gw_25_19 gw_1_5 gw_25_20 (by decide +kernel) ⟨Nat.le_of_ble_eq_true rfl, Nat.le_of_ble_eq_true rfl⟩ rfl hl.1 rfl (Nat.le_of_ble_eq_true rfl) dX12_stepOn_81 (fun a => (sh_M_byteAt N h a v1)) ⟨by decide, by decide⟩ e1 (fun v2 h3 H locs w hsh3 e2 => ?_)
    refine w_SI GW_good (n := 1) (F := 0) (Lc := 0) (av := [.int v2]) (rest := []) C w (fun r g hf => k_M_isLetter l D cy z N h3 v2 r g hf) gw_25_21 gw_25_22 gw_1_5 gw_25_23 (by decide +kernel) ⟨Nat.le_of_ble_eq_true rfl, Nat.le_of_ble_eq_true rfl⟩ rfl hl.1 rfl (Nat.le_of_ble_eq_true rfl) dX12_stepOn_84 (sh_M_isLetter N h3 v2) ⟨by decide, by decide⟩ e2 (fun v4 h5 H locs w hsh5 e3 => ?_)
    refine w_if_eq (tgt := 103) C dX12_stepOn_87 (by decide) e3 (fun hc e4 => ?_) (fun hc e4 => ?_)
    · refine lv_aload_n hx hb dX12_stepOn_103 rfl (lv_at hl 0 rfl) ?_
      refine lv_iconst (v := 1) hx hb dX12_stepOn_104 (by decide) ?_
      refine w_pI (r := some th) (ci := 0) (k := 23) C w rfl (by decide) (by unfold roK; omega) (GF_wsX120 _) tyX12 tyX12_ok nmX12 (by decide) rfl (List.mem_cons_of_mem _ gw_24_17) rfl rfl (tyX12_ok 23 (by decide)) dX12_stepOn_105 e4 (fun h6 H locs w hsh6 e5 => ?_)
      refine lv_goto (tgt := 218) hx hb dX12_stepOn_108 (by decide) ?_
      exact b_M_stepOn_218 C N     h6 th _ _ ls w  (lv_sub hl [0] rfl) e5
    · refine lv_aload_n hx hb dX12_stepOn_90 rfl (lv_at hl 0 rfl) ?_
      refine lv_dup hx hb dX12_stepOn_91 rfl ?_
      refine w_gI (r := some th) (ci := 0) (k := 21) C w rfl (by decide) (GF_wsX120 _) (by decide) rfl (List.mem_cons_of_mem _ gw_24_15) rfl dX12_stepOn_92 e4 (fun v7 e6 => ?_)
      refine lv_iconst (v := 1) hx hb dX12_stepOn_95 (by decide) ?_
      refine lv_iadd hx hb dX12_stepOn_96 ?_
      refine w_pI (r := some th) (ci := 0) (k := 21) C w rfl (by decide) (by unfold roK; omega) (GF_wsX120 _) tyX12 tyX12_ok nmX12 (by decide) rfl (List.mem_cons_of_mem _ gw_24_15) rfl rfl (tyX12_ok 21 (by decide)) dX12_stepOn_97 e6 (fun h8 H locs w hsh8 e7 => ?_)
      refine lv_goto (tgt := 76) hx hb dX12_stepOn_100 (by decide) ?_
      exact ih  h8 th _ _ ls w  (lv_sub hl [0] rfl) e7
set_option maxRecDepth 20000 in
set_option maxHeartbeats 4000000 in
theorem b_M_stepOn_0 {p : Program} {l : Launch} {e : Env} {s : State} {m : MethodId} {args : Array Value} {below : List Frame} {meth : Method} {c : Code} {D : va_G} {cy : cyT} {z : Nat} (C : MX p s m args meth c cX12_stepOn 2 (none) RX12 (Cond.code yX12_stepOn cX12_stepOn 2 (none) :: GW)) (N : Nat) {r : Unit} {g : hS}  : ∀ (n : Nat) (h : hS) (th : Nat) (H : Heap) (locs : List Loc) (ls : Array Slot), wd D cy z s 0 h H locs → lv_has ls 2 [(0, .ref th)] → f_M_stepOn_0 N  n h th = some (r, g) → W p l e { frames := 1, cells := 0, slots := 0, locals := 44 } s m args below meth c H locs 0 0 (MQ below (eQ D cy z (rV r) g) args s 0 0 (fun q => z ≤ q)) (F0 m 0 ls []) := by
  obtain ⟨hx, hb, hr, hml, hown, hts, hlk⟩ := id C
  intro n
  induction n with
  | zero =>
    intro  h th H locs ls w  hl hE
    cases hE
  | succ n ih =>
    intro  h th H locs ls w  hl hE
    unfold f_M_stepOn_0 at hE
    refine lv_aload_n hx hb dX12_stepOn_0 rfl (lv_at hl 0 rfl) ?_
    refine lv_aload_n hx hb dX12_stepOn_1 rfl (lv_at hl 0 rfl) ?_
    refine w_gI (r := some th) (ci := 0) (k := 21) C w rfl (by decide) (GF_wsX120 _) (by decide) rfl (List.mem_cons_of_mem _ gw_24_15) rfl dX12_stepOn_2 hE (fun v1 e1 => ?_)
    refine w_VI GW_good (n := 1) (F := 0) (Lc := 0) (o := some th) (av := [.int v1]) (rest := []) C w rfl (by decide) (fun a r g hf => k_M_byteAt l D cy z N h a v1 r g hf) gw_25_17 gw_25_18 gw_25_19 gw_1_5 gw_25_20 (by decide +kernel) ⟨Nat.le_of_ble_eq_true rfl, Nat.le_of_ble_eq_true rfl⟩ rfl hl.1 rfl (Nat.le_of_ble_eq_true rfl) dX12_stepOn_5 (fun a => (sh_M_byteAt N h a v1)) ⟨by decide, by decide⟩ e1 (fun v2 h3 H locs w hsh3 e2 => ?_)
    refine lv_bipush (v := 32) hx hb dX12_stepOn_8 (by decide) ?_
    refine w_icmp_eq (tgt := 26) C dX12_stepOn_10 (by decide) e2 (fun hc e3 => ?_) (fun hc e3 => ?_)
    · exact b_M_stepOn_26 C N  ih   h3 th _ _ ls w  (lv_sub hl [0] rfl) e3
    · refine lv_aload_n hx hb dX12_stepOn_13 rfl (lv_at hl 0 rfl) ?_
      refine lv_aload_n hx hb dX12_stepOn_14 rfl (lv_at hl 0 rfl) ?_
      refine w_gI (r := some th) (ci := 0) (k := 21) C w rfl (by decide) (GF_wsX120 _) (by decide) rfl (List.mem_cons_of_mem _ gw_24_15) rfl dX12_stepOn_15 e3 (fun v4 e4 => ?_)
      refine w_VI GW_good (n := 1) (F := 0) (Lc := 0) (o := some th) (av := [.int v4]) (rest := []) C w rfl (by decide) (fun a r g hf => k_M_byteAt l D cy z N h3 a v4 r g hf) gw_25_17 gw_25_18 gw_25_19 gw_1_5 gw_25_20 (by decide +kernel) ⟨Nat.le_of_ble_eq_true rfl, Nat.le_of_ble_eq_true rfl⟩ rfl hl.1 rfl (Nat.le_of_ble_eq_true rfl) dX12_stepOn_18 (fun a => (sh_M_byteAt N h3 a v4)) ⟨by decide, by decide⟩ e4 (fun v5 h6 H locs w hsh6 e5 => ?_)
      refine lv_bipush (v := 10) hx hb dX12_stepOn_21 (by decide) ?_
      refine w_icmp_ne (tgt := 39) C dX12_stepOn_23 (by decide) e5 (fun hc e6 => ?_) (fun hc e6 => ?_)
      · refine lv_aload_n hx hb dX12_stepOn_39 rfl (lv_at hl 0 rfl) ?_
        refine lv_aload_n hx hb dX12_stepOn_40 rfl (lv_at hl 0 rfl) ?_
        refine w_gI (r := some th) (ci := 0) (k := 21) C w rfl (by decide) (GF_wsX120 _) (by decide) rfl (List.mem_cons_of_mem _ gw_24_15) rfl dX12_stepOn_41 e6 (fun v7 e7 => ?_)
        refine w_pI (r := some th) (ci := 0) (k := 25) C w rfl (by decide) (by unfold roK; omega) (GF_wsX120 _) tyX12 tyX12_ok nmX12 (by decide) rfl (List.mem_cons_of_mem _ gw_25_12) rfl rfl (tyX12_ok 25 (by decide)) dX12_stepOn_44 e7 (fun h8 H locs w hsh8 e8 => ?_)
        refine lv_aload_n hx hb dX12_stepOn_47 rfl (lv_at hl 0 rfl) ?_
        refine lv_aload_n hx hb dX12_stepOn_48 rfl (lv_at hl 0 rfl) ?_
        refine w_gI (r := some th) (ci := 0) (k := 21) C w rfl (by decide) (GF_wsX120 _) (by decide) rfl (List.mem_cons_of_mem _ gw_24_15) rfl dX12_stepOn_49 e8 (fun v9 e9 => ?_)
        refine w_VI GW_good (n := 1) (F := 0) (Lc := 0) (o := some th) (av := [.int v9]) (rest := []) C w rfl (by decide) (fun a r g hf => k_M_byteAt l D cy z N h8 a v9 r g hf) gw_25_17 gw_25_18 gw_25_19 gw_1_5 gw_25_20 (by decide +kernel) ⟨Nat.le_of_ble_eq_true rfl, Nat.le_of_ble_eq_true rfl⟩ rfl hl.1 rfl (Nat.le_of_ble_eq_true rfl) dX12_stepOn_52 (fun a => (sh_M_byteAt N h8 a v9)) ⟨by decide, by decide⟩ e9 (fun v10 h11 H locs w hsh11 e10 => ?_)
        refine lv_istore_n (lv' := [(1, .int v10), (0, .ref th)]) hx hb dX12_stepOn_55 rfl hl (by decide) rfl (fun ls hl => ?_)
        refine lv_iload_n hx hb dX12_stepOn_56 rfl (lv_at hl 0 rfl) ?_
        refine lv_iconst (v := -1) hx hb dX12_stepOn_57 (by decide) ?_
        refine w_icmp_ne (tgt := 69) C dX12_stepOn_58 (by decide) e10 (fun hc e11 => ?_) (fun hc e11 => ?_)
        · refine lv_iload_n hx hb dX12_stepOn_69 rfl (lv_at hl 0 rfl) ?_
          refine w_SI GW_good (n := 1) (F := 0) (Lc := 0) (av := [.int v10]) (rest := []) C w (fun r g hf => k_M_isLetter l D cy z N h11 v10 r g hf) gw_25_21 gw_25_22 gw_1_5 gw_25_23 (by decide +kernel) ⟨Nat.le_of_ble_eq_true rfl, Nat.le_of_ble_eq_true rfl⟩ rfl hl.1 rfl (Nat.le_of_ble_eq_true rfl) dX12_stepOn_70 (sh_M_isLetter N h11 v10) ⟨by decide, by decide⟩ e11 (fun v12 h13 H locs w hsh13 e12 => ?_)
          refine w_if_eq (tgt := 111) C dX12_stepOn_73 (by decide) e12 (fun hc e13 => ?_) (fun hc e13 => ?_)
          · refine lv_iload_n hx hb dX12_stepOn_111 rfl (lv_at hl 0 rfl) ?_
            refine w_SI GW_good (n := 1) (F := 0) (Lc := 0) (av := [.int v10]) (rest := []) C w (fun r g hf => k_M_isDigit l D cy z N h13 v10 r g hf) gw_26_0 gw_26_1 gw_1_5 gw_26_2 (by decide +kernel) ⟨Nat.le_of_ble_eq_true rfl, Nat.le_of_ble_eq_true rfl⟩ rfl hl.1 rfl (Nat.le_of_ble_eq_true rfl) dX12_stepOn_112 (sh_M_isDigit N h13 v10) ⟨by decide, by decide⟩ e13 (fun v14 h15 H locs w hsh15 e14 => ?_)
            refine w_if_eq (tgt := 187) C dX12_stepOn_115 (by decide) e14 (fun hc e15 => ?_) (fun hc e15 => ?_)
            · refine lv_aload_n hx hb dX12_stepOn_187 rfl (lv_at hl 1 rfl) ?_
              refine lv_dup hx hb dX12_stepOn_188 rfl ?_
              refine w_gI (r := some th) (ci := 0) (k := 21) C w rfl (by decide) (GF_wsX120 _) (by decide) rfl (List.mem_cons_of_mem _ gw_24_15) rfl dX12_stepOn_189 e15 (fun v16 e16 => ?_)
              refine lv_iconst (v := 1) hx hb dX12_stepOn_192 (by decide) ?_
              refine lv_iadd hx hb dX12_stepOn_193 ?_
              refine w_pI (r := some th) (ci := 0) (k := 21) C w rfl (by decide) (by unfold roK; omega) (GF_wsX120 _) tyX12 tyX12_ok nmX12 (by decide) rfl (List.mem_cons_of_mem _ gw_24_15) rfl rfl (tyX12_ok 21 (by decide)) dX12_stepOn_194 e16 (fun h17 H locs w hsh17 e17 => ?_)
              refine lv_aload_n hx hb dX12_stepOn_197 rfl (lv_at hl 1 rfl) ?_
              refine lv_iload_n hx hb dX12_stepOn_198 rfl (lv_at hl 0 rfl) ?_
              refine lv_bipush (v := 59) hx hb dX12_stepOn_199 (by decide) ?_
              refine w_icmp_eq (tgt := 210) C dX12_stepOn_201 (by decide) e17 (fun hc e18 => ?_) (fun hc e18 => ?_)
              · exact b_M_stepOn_210 C N     h17 th (some th) _ _ ls w  (lv_sub hl [1] rfl) e18
              · refine lv_iload_n hx hb dX12_stepOn_204 rfl (lv_at hl 0 rfl) ?_
                refine lv_bipush (v := 45) hx hb dX12_stepOn_205 (by decide) ?_
                refine w_icmp_ne (tgt := 214) C dX12_stepOn_207 (by decide) e18 (fun hc e19 => ?_) (fun hc e19 => ?_)
                · refine lv_iconst (v := 4) hx hb dX12_stepOn_214 (by decide) ?_
                  exact b_M_stepOn_215 C N     h17 th (some th) (4 : Int32) _ _ ls w  (lv_sub hl [1] rfl) e19
                · exact b_M_stepOn_210 C N     h17 th (some th) _ _ ls w  (lv_sub hl [1] rfl) e19
            · refine lv_aload_n hx hb dX12_stepOn_118 rfl (lv_at hl 1 rfl) ?_
              refine lv_iconst (v := 0) hx hb dX12_stepOn_119 (by decide) ?_
              refine w_pI (r := some th) (ci := 0) (k := 24) C w rfl (by decide) (by unfold roK; omega) (GF_wsX120 _) tyX12 tyX12_ok nmX12 (by decide) rfl (List.mem_cons_of_mem _ gw_25_13) rfl rfl (tyX12_ok 24 (by decide)) dX12_stepOn_120 e15 (fun h18 H locs w hsh18 e20 => ?_)
              exact b_M_stepOn_123 C N   N  h18 th _ _ ls w  (lv_sub hl [1] rfl) e20
          · exact b_M_stepOn_76 C N   N  h13 th _ _ ls w  (lv_sub hl [1] rfl) e13
        · refine lv_aload_n hx hb dX12_stepOn_61 rfl (lv_at hl 1 rfl) ?_
          refine lv_iconst (v := 0) hx hb dX12_stepOn_62 (by decide) ?_
          refine w_pI (r := some th) (ci := 0) (k := 23) C w rfl (by decide) (by unfold roK; omega) (GF_wsX120 _) tyX12 tyX12_ok nmX12 (by decide) rfl (List.mem_cons_of_mem _ gw_24_17) rfl rfl (tyX12_ok 23 (by decide)) dX12_stepOn_63 e11 (fun h19 H locs w hsh19 e21 => ?_)
          refine lv_goto (tgt := 218) hx hb dX12_stepOn_66 (by decide) ?_
          exact b_M_stepOn_218 C N     h19 th _ _ ls w  (lv_sub hl [1] rfl) e21
      · exact b_M_stepOn_26 C N  ih   h6 th _ _ ls w  (lv_sub hl [0] rfl) e6
set_option maxRecDepth 20000 in
set_option maxHeartbeats 4000000 in
theorem k_M_stepOn (l : Launch) (D : va_G) (cy : cyT) (z : Nat) (N : Nat) (h : hS) (th : Nat) (r : Unit) (g : hS) (hE : f_M_stepOn N h th = some (r, g)) : ct l yX12_stepOn (Cond.code yX12_stepOn cX12_stepOn 2 (none) :: GW) { frames := 1, cells := 0, slots := 0, locals := 44 } D cy z h [.ref th] (rV r) g := by
  refine Met.ofW (cc := cX12_stepOn) (maxL := 2) (ret := none) (by decide) rfl ?_
  intro p e s m args below meth c s₁ B hml hv
  obtain ⟨rfl, hw⟩ := hv
  have C : MX p s m ([.ref th] : List Value).toArray meth c cX12_stepOn 2 (none) RX12 (Cond.code yX12_stepOn cX12_stepOn 2 (none) :: GW) := ⟨B.exec, B.bytes, B.returns, hml, findClass_of_methodNamed B.named, atoms_spec (ws := Cond.code yX12_stepOn cX12_stepOn 2 (none) :: GW) B.pre, B.notSynchronized⟩
  obtain ⟨hx, hb, hr, hml, hown, hts, hlk⟩ := id C
  have w := wd_of hw
  obtain ⟨ls, hen, hl⟩ : ∃ ls : Array Slot, entryFrame m ([.ref th] : List Value).toArray 2 = F0 m 0 ls [] ∧ lv_has ls 2 [(0, .ref th)] := by
    exact ⟨_, lg_entry_eq _ _ _, lv_entry _ (Nat.le_of_ble_eq_true rfl)⟩
  rw [hen]
  unfold f_M_stepOn at hE
  exact b_M_stepOn_0 C N   N  h th _ _ ls w  (lv_sub hl [0] rfl) hE
set_option maxRecDepth 20000 in
set_option maxHeartbeats 4000000 in
theorem k_M_wrong (l : Launch) (D : va_G) (cy : cyT) (z : Nat) (N : Nat) (h : hS) (th : Nat) (x1 : Int32) (r : Unit) (g : hS) (hE : f_M_wrong N h th x1 = some (r, g)) : ct l yX12_wrong (Cond.code yX12_wrong cX12_wrong 2 (none) :: GW) { frames := 0, cells := 0, slots := 0, locals := 0 } D cy z h [.ref th, .int x1] (rV r) g := by
  refine Met.ofW (cc := cX12_wrong) (maxL := 2) (ret := none) (by decide) rfl ?_
  intro p e s m args below meth c s₁ B hml hv
  obtain ⟨rfl, hw⟩ := hv
  have C : MX p s m ([.ref th, .int x1] : List Value).toArray meth c cX12_wrong 2 (none) RX12 (Cond.code yX12_wrong cX12_wrong 2 (none) :: GW) := ⟨B.exec, B.bytes, B.returns, hml, findClass_of_methodNamed B.named, atoms_spec (ws := Cond.code yX12_wrong cX12_wrong 2 (none) :: GW) B.pre, B.notSynchronized⟩
  obtain ⟨hx, hb, hr, hml, hown, hts, hlk⟩ := id C
  have w := wd_of hw
  obtain ⟨ls, hen, hl⟩ : ∃ ls : Array Slot, entryFrame m ([.ref th, .int x1] : List Value).toArray 2 = F0 m 0 ls [] ∧ lv_has ls 2 [(0, .ref th), (1, .int x1)] := by
    exact ⟨_, lg_entry_eq _ _ _, lv_entry _ (Nat.le_of_ble_eq_true rfl)⟩
  rw [hen]
  unfold f_M_wrong at hE
  refine lv_aload_n hx hb dX12_wrong_0 rfl (lv_at hl 0 rfl) ?_
  refine w_gI (r := some th) (ci := 0) (k := 27) C w rfl (by decide) (GF_wsX120 _) (by decide) rfl (List.mem_cons_of_mem _ gw_24_16) rfl dX12_wrong_1 hE (fun v1 e1 => ?_)
  refine w_if_eq (tgt := 8) C dX12_wrong_4 (by decide) e1 (fun hc e2 => ?_) (fun hc e2 => ?_)
  · refine lv_aload_n hx hb dX12_wrong_8 rfl (lv_at hl 0 rfl) ?_
    refine lv_iload_n hx hb dX12_wrong_9 rfl (lv_at hl 1 rfl) ?_
    refine w_pI (r := some th) (ci := 0) (k := 27) C w rfl (by decide) (by unfold roK; omega) (GF_wsX120 _) tyX12 tyX12_ok nmX12 (by decide) rfl (List.mem_cons_of_mem _ gw_24_16) rfl rfl (tyX12_ok 27 (by decide)) dX12_wrong_10 e2 (fun h2 H locs w hsh2 e3 => ?_)
    refine lv_aload_n hx hb dX12_wrong_13 rfl (lv_at hl 0 rfl) ?_
    refine lv_aload_n hx hb dX12_wrong_14 rfl (lv_at hl 0 rfl) ?_
    refine w_gI (r := some th) (ci := 0) (k := 25) C w rfl (by decide) (GF_wsX120 _) (by decide) rfl (List.mem_cons_of_mem _ gw_25_12) rfl dX12_wrong_15 e3 (fun v3 e4 => ?_)
    refine w_pI (r := some th) (ci := 0) (k := 28) C w rfl (by decide) (by unfold roK; omega) (GF_wsX120 _) tyX12 tyX12_ok nmX12 (by decide) rfl (List.mem_cons_of_mem _ gw_24_19) rfl rfl (tyX12_ok 28 (by decide)) dX12_wrong_18 e4 (fun h4 H locs w hsh4 e5 => ?_)
    exact w_vret C w e5 dX12_wrong_21
  · exact w_vret C w e2 dX12_wrong_7
set_option maxRecDepth 20000 in
set_option maxHeartbeats 4000000 in
theorem b_M_isMarked_33 {p : Program} {l : Launch} {e : Env} {s : State} {m : MethodId} {args : Array Value} {below : List Frame} {meth : Method} {c : Code} {D : va_G} {cy : cyT} {z : Nat} (C : MX p s m args meth c cX12_isMarked 2 ((some .boolean)) RX12 (Cond.code yX12_isMarked cX12_isMarked 2 ((some .boolean)) :: GW)) (N : Nat) {r : Int32} {g : hS}  : ∀  (h : hS) (y0 : Int32) (H : Heap) (locs : List Loc) (ls : Array Slot), wd D cy z s 0 h H locs → lv_has ls 2 [] → f_M_isMarked_33 N   h y0 = some (r, g) → W p l e { frames := 0, cells := 0, slots := 0, locals := 0 } s m args below meth c H locs 0 0 (MQ below (eQ D cy z (rI r) g) args s 0 0 (fun q => z ≤ q)) (F0 m 33 ls [.int y0]) := by
  obtain ⟨hx, hb, hr, hml, hown, hts, hlk⟩ := id C
  intro  h y0 H locs ls w  hl hE
  unfold f_M_isMarked_33 at hE
  exact w_zret C w hE dX12_isMarked_33
set_option maxRecDepth 20000 in
set_option maxHeartbeats 4000000 in
theorem b_M_isMarked_32 {p : Program} {l : Launch} {e : Env} {s : State} {m : MethodId} {args : Array Value} {below : List Frame} {meth : Method} {c : Code} {D : va_G} {cy : cyT} {z : Nat} (C : MX p s m args meth c cX12_isMarked 2 ((some .boolean)) RX12 (Cond.code yX12_isMarked cX12_isMarked 2 ((some .boolean)) :: GW)) (N : Nat) {r : Int32} {g : hS}  : ∀  (h : hS)  (H : Heap) (locs : List Loc) (ls : Array Slot), wd D cy z s 0 h H locs → lv_has ls 2 [] → f_M_isMarked_32 N   h  = some (r, g) → W p l e { frames := 0, cells := 0, slots := 0, locals := 0 } s m args below meth c H locs 0 0 (MQ below (eQ D cy z (rI r) g) args s 0 0 (fun q => z ≤ q)) (F0 m 32 ls []) := by
  obtain ⟨hx, hb, hr, hml, hown, hts, hlk⟩ := id C
  intro  h  H locs ls w  hl hE
  unfold f_M_isMarked_32 at hE
  refine lv_iconst (v := 0) hx hb dX12_isMarked_32 (by decide) ?_
  exact b_M_isMarked_33 C N     h (0 : Int32) _ _ ls w  (lv_sub hl [] rfl) hE
set_option maxRecDepth 20000 in
set_option maxHeartbeats 4000000 in
theorem k_M_isMarked (l : Launch) (D : va_G) (cy : cyT) (z : Nat) (N : Nat) (h : hS) (th : Nat) (x1 : Int32) (r : Int32) (g : hS) (hE : f_M_isMarked N h th x1 = some (r, g)) : ct l yX12_isMarked (Cond.code yX12_isMarked cX12_isMarked 2 ((some .boolean)) :: GW) { frames := 0, cells := 0, slots := 0, locals := 0 } D cy z h [.ref th, .int x1] (rI r) g := by
  refine Met.ofW (cc := cX12_isMarked) (maxL := 2) (ret := (some .boolean)) (by decide) rfl ?_
  intro p e s m args below meth c s₁ B hml hv
  obtain ⟨rfl, hw⟩ := hv
  have C : MX p s m ([.ref th, .int x1] : List Value).toArray meth c cX12_isMarked 2 ((some .boolean)) RX12 (Cond.code yX12_isMarked cX12_isMarked 2 ((some .boolean)) :: GW) := ⟨B.exec, B.bytes, B.returns, hml, findClass_of_methodNamed B.named, atoms_spec (ws := Cond.code yX12_isMarked cX12_isMarked 2 ((some .boolean)) :: GW) B.pre, B.notSynchronized⟩
  obtain ⟨hx, hb, hr, hml, hown, hts, hlk⟩ := id C
  have w := wd_of hw
  obtain ⟨ls, hen, hl⟩ : ∃ ls : Array Slot, entryFrame m ([.ref th, .int x1] : List Value).toArray 2 = F0 m 0 ls [] ∧ lv_has ls 2 [(0, .ref th), (1, .int x1)] := by
    exact ⟨_, lg_entry_eq _ _ _, lv_entry _ (Nat.le_of_ble_eq_true rfl)⟩
  rw [hen]
  unfold f_M_isMarked at hE
  refine lv_aload_n hx hb dX12_isMarked_0 rfl (lv_at hl 0 rfl) ?_
  refine w_gI (r := some th) (ci := 0) (k := 27) C w rfl (by decide) (GF_wsX120 _) (by decide) rfl (List.mem_cons_of_mem _ gw_24_16) rfl dX12_isMarked_1 hE (fun v1 e1 => ?_)
  refine w_if_ne (tgt := 32) C dX12_isMarked_4 (by decide) e1 (fun hc e2 => ?_) (fun hc e2 => ?_)
  · exact b_M_isMarked_32 C N     h  _ _ ls w  (lv_sub hl [] rfl) e2
  · refine lv_aload_n hx hb dX12_isMarked_7 rfl (lv_at hl 0 rfl) ?_
    refine w_gI (r := some th) (ci := 0) (k := 23) C w rfl (by decide) (GF_wsX120 _) (by decide) rfl (List.mem_cons_of_mem _ gw_24_17) rfl dX12_isMarked_8 e2 (fun v2 e3 => ?_)
    refine lv_iconst (v := 3) hx hb dX12_isMarked_11 (by decide) ?_
    refine w_icmp_ne (tgt := 32) C dX12_isMarked_12 (by decide) e3 (fun hc e4 => ?_) (fun hc e4 => ?_)
    · exact b_M_isMarked_32 C N     h  _ _ ls w  (lv_sub hl [] rfl) e4
    · refine lv_aload_n hx hb dX12_isMarked_15 rfl (lv_at hl 0 rfl) ?_
      refine w_gR (r := some th) (ci := 0) (k := 17) C w rfl (by decide) (GF_wsX120 _) (by decide) rfl (List.mem_cons_of_mem _ gw_7_11) rfl dX12_isMarked_16 e4 (fun v3 e5 => ?_)
      refine lv_aload_n hx hb dX12_isMarked_19 rfl (lv_at hl 0 rfl) ?_
      refine w_gI (r := some th) (ci := 0) (k := 25) C w rfl (by decide) (GF_wsX120 _) (by decide) rfl (List.mem_cons_of_mem _ gw_25_12) rfl dX12_isMarked_20 e5 (fun v4 e6 => ?_)
      refine w_aI (r := v3) C w dX12_isMarked_23 e6 (fun v5 e7 => ?_)
      refine lv_iload_n hx hb dX12_isMarked_24 rfl (lv_at hl 1 rfl) ?_
      refine w_icmp_ne (tgt := 32) C dX12_isMarked_25 (by decide) e7 (fun hc e8 => ?_) (fun hc e8 => ?_)
      · exact b_M_isMarked_32 C N     h  _ _ ls w  (lv_sub hl [] rfl) e8
      · refine lv_iconst (v := 1) hx hb dX12_isMarked_28 (by decide) ?_
        refine lv_goto (tgt := 33) hx hb dX12_isMarked_29 (by decide) ?_
        exact b_M_isMarked_33 C N     h (1 : Int32) _ _ ls w  (lv_sub hl [] rfl) e8
set_option maxRecDepth 20000 in
set_option maxHeartbeats 4000000 in
theorem b_M_numberNow_66 {p : Program} {l : Launch} {e : Env} {s : State} {m : MethodId} {args : Array Value} {below : List Frame} {meth : Method} {c : Code} {D : va_G} {cy : cyT} {z : Nat} (C : MX p s m args meth c cX12_numberNow 2 ((some .int)) RX12 (Cond.code yX12_numberNow cX12_numberNow 2 ((some .int)) :: GW)) (N : Nat) {r : Int32} {g : hS}  : ∀  (h : hS) (y0 : Int32) (H : Heap) (locs : List Loc) (ls : Array Slot), wd D cy z s 0 h H locs → lv_has ls 2 [] → f_M_numberNow_66 N   h y0 = some (r, g) → W p l e { frames := 1, cells := 0, slots := 0, locals := 21 } s m args below meth c H locs 0 0 (MQ below (eQ D cy z (rI r) g) args s 0 0 (fun q => z ≤ q)) (F0 m 66 ls [.int y0]) := by
  obtain ⟨hx, hb, hr, hml, hown, hts, hlk⟩ := id C
  intro  h y0 H locs ls w  hl hE
  unfold f_M_numberNow_66 at hE
  exact w_iret C w hE dX12_numberNow_66
set_option maxRecDepth 20000 in
set_option maxHeartbeats 4000000 in
theorem b_M_numberNow_51 {p : Program} {l : Launch} {e : Env} {s : State} {m : MethodId} {args : Array Value} {below : List Frame} {meth : Method} {c : Code} {D : va_G} {cy : cyT} {z : Nat} (C : MX p s m args meth c cX12_numberNow 2 ((some .int)) RX12 (Cond.code yX12_numberNow cX12_numberNow 2 ((some .int)) :: GW)) (N : Nat) {r : Int32} {g : hS}  : ∀  (h : hS) (th : Nat) (H : Heap) (locs : List Loc) (ls : Array Slot), wd D cy z s 0 h H locs → lv_has ls 2 [(0, .ref th)] → f_M_numberNow_51 N   h th = some (r, g) → W p l e { frames := 1, cells := 0, slots := 0, locals := 21 } s m args below meth c H locs 0 0 (MQ below (eQ D cy z (rI r) g) args s 0 0 (fun q => z ≤ q)) (F0 m 51 ls []) := by
  obtain ⟨hx, hb, hr, hml, hown, hts, hlk⟩ := id C
  intro  h th H locs ls w  hl hE
  unfold f_M_numberNow_51 at hE
  refine lv_aload_n hx hb dX12_numberNow_51 rfl (lv_at hl 0 rfl) ?_
  refine w_gI (r := some th) (ci := 0) (k := 27) C w rfl (by decide) (GF_wsX120 _) (by decide) rfl (List.mem_cons_of_mem _ gw_24_16) rfl dX12_numberNow_52 hE (fun v1 e1 => ?_)
  refine w_if_ne (tgt := 65) C dX12_numberNow_55 (by decide) e1 (fun hc e2 => ?_) (fun hc e2 => ?_)
  · refine lv_iconst (v := 0) hx hb dX12_numberNow_65 (by decide) ?_
    exact b_M_numberNow_66 C N     h (0 : Int32) _ _ ls w  (lv_sub hl [] rfl) e2
  · refine lv_aload_n hx hb dX12_numberNow_58 rfl (lv_at hl 0 rfl) ?_
    refine w_gI (r := some th) (ci := 0) (k := 24) C w rfl (by decide) (GF_wsX120 _) (by decide) rfl (List.mem_cons_of_mem _ gw_25_13) rfl dX12_numberNow_59 e2 (fun v2 e3 => ?_)
    refine lv_goto (tgt := 66) hx hb dX12_numberNow_62 (by decide) ?_
    exact b_M_numberNow_66 C N     h v2 _ _ ls w  (lv_sub hl [] rfl) e3
set_option maxRecDepth 20000 in
set_option maxHeartbeats 4000000 in
theorem b_M_numberNow_46 {p : Program} {l : Launch} {e : Env} {s : State} {m : MethodId} {args : Array Value} {below : List Frame} {meth : Method} {c : Code} {D : va_G} {cy : cyT} {z : Nat} (C : MX p s m args meth c cX12_numberNow 2 ((some .int)) RX12 (Cond.code yX12_numberNow cX12_numberNow 2 ((some .int)) :: GW)) (N : Nat) {r : Int32} {g : hS}  : ∀  (h : hS) (th : Nat) (H : Heap) (locs : List Loc) (ls : Array Slot), wd D cy z s 0 h H locs → lv_has ls 2 [(0, .ref th)] → f_M_numberNow_46 N   h th = some (r, g) → W p l e { frames := 1, cells := 0, slots := 0, locals := 21 } s m args below meth c H locs 0 0 (MQ below (eQ D cy z (rI r) g) args s 0 0 (fun q => z ≤ q)) (F0 m 46 ls []) := by
  obtain ⟨hx, hb, hr, hml, hown, hts, hlk⟩ := id C
  intro  h th H locs ls w  hl hE
  unfold f_M_numberNow_46 at hE
  refine lv_aload_n hx hb dX12_numberNow_46 rfl (lv_at hl 0 rfl) ?_
  refine lv_iconst (v := 2) hx hb dX12_numberNow_47 (by decide) ?_
  refine w_VV GW_good (n := 1) (F := 0) (Lc := 0) (o := some th) (av := [.int (2 : Int32)]) (rest := []) C w rfl (by decide) (fun a r g hf => k_M_wrong l D cy z N h a (2 : Int32) r g hf) gw_26_17 gw_26_18 gw_26_19 gw_1_5 gw_26_20 (by decide +kernel) ⟨Nat.le_of_ble_eq_true rfl, Nat.le_of_ble_eq_true rfl⟩ rfl hl.1 rfl (Nat.le_of_ble_eq_true rfl) dX12_numberNow_48 (fun a => (sh_M_wrong N h a (2 : Int32))) ⟨by decide, by decide⟩ hE (fun v1 h2 H locs w hsh2 e1 => ?_)
  exact b_M_numberNow_51 C N     h2 th _ _ ls w  (lv_sub hl [0] rfl) e1
set_option maxRecDepth 20000 in
set_option maxHeartbeats 4000000 in
theorem k_M_numberNow (l : Launch) (D : va_G) (cy : cyT) (z : Nat) (N : Nat) (h : hS) (th : Nat) (x1 : Int32) (r : Int32) (g : hS) (hE : f_M_numberNow N h th x1 = some (r, g)) : ct l yX12_numberNow (Cond.code yX12_numberNow cX12_numberNow 2 ((some .int)) :: GW) { frames := 1, cells := 0, slots := 0, locals := 21 } D cy z h [.ref th, .int x1] (rI r) g := by
  refine Met.ofW (cc := cX12_numberNow) (maxL := 2) (ret := (some .int)) (by decide) rfl ?_
  intro p e s m args below meth c s₁ B hml hv
  obtain ⟨rfl, hw⟩ := hv
  have C : MX p s m ([.ref th, .int x1] : List Value).toArray meth c cX12_numberNow 2 ((some .int)) RX12 (Cond.code yX12_numberNow cX12_numberNow 2 ((some .int)) :: GW) := ⟨B.exec, B.bytes, B.returns, hml, findClass_of_methodNamed B.named, atoms_spec (ws := Cond.code yX12_numberNow cX12_numberNow 2 ((some .int)) :: GW) B.pre, B.notSynchronized⟩
  obtain ⟨hx, hb, hr, hml, hown, hts, hlk⟩ := id C
  have w := wd_of hw
  obtain ⟨ls, hen, hl⟩ : ∃ ls : Array Slot, entryFrame m ([.ref th, .int x1] : List Value).toArray 2 = F0 m 0 ls [] ∧ lv_has ls 2 [(0, .ref th), (1, .int x1)] := by
    exact ⟨_, lg_entry_eq _ _ _, lv_entry _ (Nat.le_of_ble_eq_true rfl)⟩
  rw [hen]
  unfold f_M_numberNow at hE
  refine lv_aload_n hx hb dX12_numberNow_0 rfl (lv_at hl 0 rfl) ?_
  refine w_gI (r := some th) (ci := 0) (k := 27) C w rfl (by decide) (GF_wsX120 _) (by decide) rfl (List.mem_cons_of_mem _ gw_24_16) rfl dX12_numberNow_1 hE (fun v1 e1 => ?_)
  refine w_if_eq (tgt := 9) C dX12_numberNow_4 (by decide) e1 (fun hc e2 => ?_) (fun hc e2 => ?_)
  · refine lv_aload_n hx hb dX12_numberNow_9 rfl (lv_at hl 0 rfl) ?_
    refine w_gI (r := some th) (ci := 0) (k := 23) C w rfl (by decide) (GF_wsX120 _) (by decide) rfl (List.mem_cons_of_mem _ gw_24_17) rfl dX12_numberNow_10 e2 (fun v2 e3 => ?_)
    refine lv_iconst (v := 2) hx hb dX12_numberNow_13 (by decide) ?_
    refine w_icmp_eq (tgt := 25) C dX12_numberNow_14 (by decide) e3 (fun hc e4 => ?_) (fun hc e4 => ?_)
    · refine lv_aload_n hx hb dX12_numberNow_25 rfl (lv_at hl 0 rfl) ?_
      refine w_gI (r := some th) (ci := 0) (k := 26) C w rfl (by decide) (GF_wsX120 _) (by decide) rfl (List.mem_cons_of_mem _ gw_25_16) rfl dX12_numberNow_26 e4 (fun v3 e5 => ?_)
      refine lv_aload_n hx hb dX12_numberNow_29 rfl (lv_at hl 0 rfl) ?_
      refine w_gI (r := some th) (ci := 0) (k := 25) C w rfl (by decide) (GF_wsX120 _) (by decide) rfl (List.mem_cons_of_mem _ gw_25_12) rfl dX12_numberNow_30 e5 (fun v4 e6 => ?_)
      refine lv_isub hx hb dX12_numberNow_33 ?_
      refine lv_iconst (v := 3) hx hb dX12_numberNow_34 (by decide) ?_
      refine w_icmp_gt (tgt := 46) C dX12_numberNow_35 (by decide) e6 (fun hc e7 => ?_) (fun hc e7 => ?_)
      · exact b_M_numberNow_46 C N     h th _ _ ls w  (lv_sub hl [0] rfl) e7
      · refine lv_aload_n hx hb dX12_numberNow_38 rfl (lv_at hl 0 rfl) ?_
        refine w_gI (r := some th) (ci := 0) (k := 24) C w rfl (by decide) (GF_wsX120 _) (by decide) rfl (List.mem_cons_of_mem _ gw_25_13) rfl dX12_numberNow_39 e7 (fun v5 e8 => ?_)
        refine lv_iload_n hx hb dX12_numberNow_42 rfl (lv_at hl 1 rfl) ?_
        refine w_icmp_le (tgt := 51) C dX12_numberNow_43 (by decide) e8 (fun hc e9 => ?_) (fun hc e9 => ?_)
        · exact b_M_numberNow_51 C N     h th _ _ ls w  (lv_sub hl [0] rfl) e9
        · exact b_M_numberNow_46 C N     h th _ _ ls w  (lv_sub hl [0] rfl) e9
    · refine lv_aload_n hx hb dX12_numberNow_17 rfl (lv_at hl 0 rfl) ?_
      refine lv_iconst (v := 1) hx hb dX12_numberNow_18 (by decide) ?_
      refine w_VV GW_good (n := 1) (F := 0) (Lc := 0) (o := some th) (av := [.int (1 : Int32)]) (rest := []) C w rfl (by decide) (fun a r g hf => k_M_wrong l D cy z N h a (1 : Int32) r g hf) gw_26_17 gw_26_18 gw_26_19 gw_1_5 gw_26_20 (by decide +kernel) ⟨Nat.le_of_ble_eq_true rfl, Nat.le_of_ble_eq_true rfl⟩ rfl hl.1 rfl (Nat.le_of_ble_eq_true rfl) dX12_numberNow_19 (fun a => (sh_M_wrong N h a (1 : Int32))) ⟨by decide, by decide⟩ e4 (fun v6 h7 H locs w hsh7 e10 => ?_)
      refine lv_goto (tgt := 51) hx hb dX12_numberNow_22 (by decide) ?_
      exact b_M_numberNow_51 C N     h7 th _ _ ls w  (lv_sub hl [0] rfl) e10
  · refine lv_iconst (v := 0) hx hb dX12_numberNow_7 (by decide) ?_
    exact w_iret C w e2 dX12_numberNow_8
set_option maxRecDepth 20000 in
set_option maxHeartbeats 4000000 in
theorem b_M_readNumber_17 {p : Program} {l : Launch} {e : Env} {s : State} {m : MethodId} {args : Array Value} {below : List Frame} {meth : Method} {c : Code} {D : va_G} {cy : cyT} {z : Nat} (C : MX p s m args meth c cX12_readNumber 3 ((some .int)) RX12 (Cond.code yX12_readNumber cX12_readNumber 3 ((some .int)) :: GW)) (N : Nat) {r : Int32} {g : hS}  : ∀  (h : hS) (x2 : Int32) (H : Heap) (locs : List Loc) (ls : Array Slot), wd D cy z s 0 h H locs → lv_has ls 3 [(2, .int x2)] → f_M_readNumber_17 N   h x2 = some (r, g) → W p l e { frames := 2, cells := 0, slots := 0, locals := 65 } s m args below meth c H locs 0 0 (MQ below (eQ D cy z (rI r) g) args s 0 0 (fun q => z ≤ q)) (F0 m 17 ls []) := by
  obtain ⟨hx, hb, hr, hml, hown, hts, hlk⟩ := id C
  intro  h x2 H locs ls w  hl hE
  unfold f_M_readNumber_17 at hE
  refine lv_iload_n hx hb dX12_readNumber_17 rfl (lv_at hl 0 rfl) ?_
  exact w_iret C w hE dX12_readNumber_18
set_option maxRecDepth 20000 in
set_option maxHeartbeats 4000000 in
theorem k_M_readNumber (l : Launch) (D : va_G) (cy : cyT) (z : Nat) (N : Nat) (h : hS) (th : Nat) (x1 : Int32) (r : Int32) (g : hS) (hE : f_M_readNumber N h th x1 = some (r, g)) : ct l yX12_readNumber (Cond.code yX12_readNumber cX12_readNumber 3 ((some .int)) :: GW) { frames := 2, cells := 0, slots := 0, locals := 65 } D cy z h [.ref th, .int x1] (rI r) g := by
  refine Met.ofW (cc := cX12_readNumber) (maxL := 3) (ret := (some .int)) (by decide) rfl ?_
  intro p e s m args below meth c s₁ B hml hv
  obtain ⟨rfl, hw⟩ := hv
  have C : MX p s m ([.ref th, .int x1] : List Value).toArray meth c cX12_readNumber 3 ((some .int)) RX12 (Cond.code yX12_readNumber cX12_readNumber 3 ((some .int)) :: GW) := ⟨B.exec, B.bytes, B.returns, hml, findClass_of_methodNamed B.named, atoms_spec (ws := Cond.code yX12_readNumber cX12_readNumber 3 ((some .int)) :: GW) B.pre, B.notSynchronized⟩
  obtain ⟨hx, hb, hr, hml, hown, hts, hlk⟩ := id C
  have w := wd_of hw
  obtain ⟨ls, hen, hl⟩ : ∃ ls : Array Slot, entryFrame m ([.ref th, .int x1] : List Value).toArray 3 = F0 m 0 ls [] ∧ lv_has ls 3 [(0, .ref th), (1, .int x1)] := by
    exact ⟨_, lg_entry_eq _ _ _, lv_entry _ (Nat.le_of_ble_eq_true rfl)⟩
  rw [hen]
  unfold f_M_readNumber at hE
  refine lv_aload_n hx hb dX12_readNumber_0 rfl (lv_at hl 0 rfl) ?_
  refine lv_iload_n hx hb dX12_readNumber_1 rfl (lv_at hl 1 rfl) ?_
  refine w_VI GW_good (n := 1) (F := 1) (Lc := 21) (o := some th) (av := [.int x1]) (rest := []) C w rfl (by decide) (fun a r g hf => k_M_numberNow l D cy z N h a x1 r g hf) gw_27_9 gw_27_10 gw_27_11 gw_1_5 gw_27_12 (by decide +kernel) ⟨Nat.le_of_ble_eq_true rfl, Nat.le_of_ble_eq_true rfl⟩ rfl hl.1 rfl (Nat.le_of_ble_eq_true rfl) dX12_readNumber_2 (fun a => (sh_M_numberNow N h a x1)) ⟨by decide, by decide⟩ hE (fun v1 h2 H locs w hsh2 e1 => ?_)
  refine lv_istore_n (lv' := [(2, .int v1), (0, .ref th), (1, .int x1)]) hx hb dX12_readNumber_5 rfl hl (by decide) rfl (fun ls hl => ?_)
  refine lv_aload_n hx hb dX12_readNumber_6 rfl (lv_at hl 1 rfl) ?_
  refine w_gI (r := some th) (ci := 0) (k := 27) C w rfl (by decide) (GF_wsX120 _) (by decide) rfl (List.mem_cons_of_mem _ gw_24_16) rfl dX12_readNumber_7 e1 (fun v3 e2 => ?_)
  refine w_if_ne (tgt := 17) C dX12_readNumber_10 (by decide) e2 (fun hc e3 => ?_) (fun hc e3 => ?_)
  · exact b_M_readNumber_17 C N     h2 v1 _ _ ls w  (lv_sub hl [0] rfl) e3
  · refine lv_aload_n hx hb dX12_readNumber_13 rfl (lv_at hl 1 rfl) ?_
    refine w_VV GW_good (n := 0) (F := 1) (Lc := 44) (o := some th) (av := []) (rest := []) C w rfl (by decide) (fun a r g hf => k_M_stepOn l D cy z N h2 a  r g hf) gw_25_8 gw_25_9 gw_25_10 gw_1_5 gw_25_11 (by decide +kernel) ⟨Nat.le_of_ble_eq_true rfl, Nat.le_of_ble_eq_true rfl⟩ rfl hl.1 rfl (Nat.le_of_ble_eq_true rfl) dX12_readNumber_14 (fun a => (sh_M_stepOn N h2 a )) ⟨by decide, by decide⟩ e3 (fun v4 h5 H locs w hsh5 e4 => ?_)
    exact b_M_readNumber_17 C N     h5 v1 _ _ ls w  (lv_sub hl [0] rfl) e4
set_option maxRecDepth 20000 in
set_option maxHeartbeats 4000000 in
theorem b_M_readPlace_33 {p : Program} {l : Launch} {e : Env} {s : State} {m : MethodId} {args : Array Value} {below : List Frame} {meth : Method} {c : Code} {D : va_G} {cy : cyT} {z : Nat} (C : MX p s m args meth c cX12_readPlace 3 ((some .int)) RX12 (Cond.code yX12_readPlace cX12_readPlace 3 ((some .int)) :: GW)) (N : Nat) {r : Int32} {g : hS}  : ∀  (h : hS) (y0 : Int32) (H : Heap) (locs : List Loc) (ls : Array Slot), wd D cy z s 0 h H locs → lv_has ls 3 [] → f_M_readPlace_33 N   h y0 = some (r, g) → W p l e { frames := 3, cells := 0, slots := 0, locals := 87 } s m args below meth c H locs 0 0 (MQ below (eQ D cy z (rI r) g) args s 0 0 (fun q => z ≤ q)) (F0 m 33 ls [.int y0]) := by
  obtain ⟨hx, hb, hr, hml, hown, hts, hlk⟩ := id C
  intro  h y0 H locs ls w  hl hE
  unfold f_M_readPlace_33 at hE
  exact w_iret C w hE dX12_readPlace_33
set_option maxRecDepth 20000 in
set_option maxHeartbeats 4000000 in
theorem b_M_readPlace_15 {p : Program} {l : Launch} {e : Env} {s : State} {m : MethodId} {args : Array Value} {below : List Frame} {meth : Method} {c : Code} {D : va_G} {cy : cyT} {z : Nat} (C : MX p s m args meth c cX12_readPlace 3 ((some .int)) RX12 (Cond.code yX12_readPlace cX12_readPlace 3 ((some .int)) :: GW)) (N : Nat) {r : Int32} {g : hS}  : ∀  (h : hS) (th : Nat) (x1 : Int32) (H : Heap) (locs : List Loc) (ls : Array Slot), wd D cy z s 0 h H locs → lv_has ls 3 [(0, .ref th), (1, .int x1)] → f_M_readPlace_15 N   h th x1 = some (r, g) → W p l e { frames := 3, cells := 0, slots := 0, locals := 87 } s m args below meth c H locs 0 0 (MQ below (eQ D cy z (rI r) g) args s 0 0 (fun q => z ≤ q)) (F0 m 15 ls []) := by
  obtain ⟨hx, hb, hr, hml, hown, hts, hlk⟩ := id C
  intro  h th x1 H locs ls w  hl hE
  unfold f_M_readPlace_15 at hE
  refine lv_aload_n hx hb dX12_readPlace_15 rfl (lv_at hl 0 rfl) ?_
  refine lv_sipush (v := 500) hx hb dX12_readPlace_16 (by decide) ?_
  refine w_VI GW_good (n := 1) (F := 2) (Lc := 65) (o := some th) (av := [.int (500 : Int32)]) (rest := []) C w rfl (by decide) (fun a r g hf => k_M_readNumber l D cy z N h a (500 : Int32) r g hf) gw_27_5 gw_27_6 gw_27_7 gw_1_5 gw_27_8 (by decide +kernel) ⟨Nat.le_of_ble_eq_true rfl, Nat.le_of_ble_eq_true rfl⟩ rfl hl.1 rfl (Nat.le_of_ble_eq_true rfl) dX12_readPlace_19 (fun a => (sh_M_readNumber N h a (500 : Int32))) ⟨by decide, by decide⟩ hE (fun v1 h2 H locs w hsh2 e1 => ?_)
  refine lv_istore_n (lv' := [(2, .int v1), (0, .ref th), (1, .int x1)]) hx hb dX12_readPlace_22 rfl hl (by decide) rfl (fun ls hl => ?_)
  refine lv_iload_n hx hb dX12_readPlace_23 rfl (lv_at hl 2 rfl) ?_
  refine w_if_eq (tgt := 32) C dX12_readPlace_24 (by decide) e1 (fun hc e2 => ?_) (fun hc e2 => ?_)
  · refine lv_iload_n hx hb dX12_readPlace_32 rfl (lv_at hl 0 rfl) ?_
    exact b_M_readPlace_33 C N     h2 v1 _ _ ls w  (lv_sub hl [] rfl) e2
  · refine lv_iload_n hx hb dX12_readPlace_27 rfl (lv_at hl 0 rfl) ?_
    refine lv_ineg hx hb dX12_readPlace_28 ?_
    refine lv_goto (tgt := 33) hx hb dX12_readPlace_29 (by decide) ?_
    exact b_M_readPlace_33 C N     h2 (-v1) _ _ ls w  (lv_sub hl [] rfl) e2
set_option maxRecDepth 20000 in
set_option maxHeartbeats 4000000 in
theorem k_M_readPlace (l : Launch) (D : va_G) (cy : cyT) (z : Nat) (N : Nat) (h : hS) (th : Nat) (r : Int32) (g : hS) (hE : f_M_readPlace N h th = some (r, g)) : ct l yX12_readPlace (Cond.code yX12_readPlace cX12_readPlace 3 ((some .int)) :: GW) { frames := 3, cells := 0, slots := 0, locals := 87 } D cy z h [.ref th] (rI r) g := by
  refine Met.ofW (cc := cX12_readPlace) (maxL := 3) (ret := (some .int)) (by decide) rfl ?_
  intro p e s m args below meth c s₁ B hml hv
  obtain ⟨rfl, hw⟩ := hv
  have C : MX p s m ([.ref th] : List Value).toArray meth c cX12_readPlace 3 ((some .int)) RX12 (Cond.code yX12_readPlace cX12_readPlace 3 ((some .int)) :: GW) := ⟨B.exec, B.bytes, B.returns, hml, findClass_of_methodNamed B.named, atoms_spec (ws := Cond.code yX12_readPlace cX12_readPlace 3 ((some .int)) :: GW) B.pre, B.notSynchronized⟩
  obtain ⟨hx, hb, hr, hml, hown, hts, hlk⟩ := id C
  have w := wd_of hw
  obtain ⟨ls, hen, hl⟩ : ∃ ls : Array Slot, entryFrame m ([.ref th] : List Value).toArray 3 = F0 m 0 ls [] ∧ lv_has ls 3 [(0, .ref th)] := by
    exact ⟨_, lg_entry_eq _ _ _, lv_entry _ (Nat.le_of_ble_eq_true rfl)⟩
  rw [hen]
  unfold f_M_readPlace at hE
  refine lv_aload_n hx hb dX12_readPlace_0 rfl (lv_at hl 0 rfl) ?_
  refine lv_bipush (v := 45) hx hb dX12_readPlace_1 (by decide) ?_
  refine w_VI GW_good (n := 1) (F := 0) (Lc := 0) (o := some th) (av := [.int (45 : Int32)]) (rest := []) C w rfl (by decide) (fun a r g hf => k_M_isMarked l D cy z N h a (45 : Int32) r g hf) gw_27_1 gw_27_2 gw_27_3 gw_1_5 gw_27_4 (by decide +kernel) ⟨Nat.le_of_ble_eq_true rfl, Nat.le_of_ble_eq_true rfl⟩ rfl hl.1 rfl (Nat.le_of_ble_eq_true rfl) dX12_readPlace_3 (fun a => (sh_M_isMarked N h a (45 : Int32))) ⟨by decide, by decide⟩ hE (fun v1 h2 H locs w hsh2 e1 => ?_)
  refine lv_istore_n (lv' := [(1, .int v1), (0, .ref th)]) hx hb dX12_readPlace_6 rfl hl (by decide) rfl (fun ls hl => ?_)
  refine lv_iload_n hx hb dX12_readPlace_7 rfl (lv_at hl 0 rfl) ?_
  refine w_if_eq (tgt := 15) C dX12_readPlace_8 (by decide) e1 (fun hc e2 => ?_) (fun hc e2 => ?_)
  · exact b_M_readPlace_15 C N     h2 th v1 _ _ ls w  (lv_sub hl [1, 0] rfl) e2
  · refine lv_aload_n hx hb dX12_readPlace_11 rfl (lv_at hl 1 rfl) ?_
    refine w_VV GW_good (n := 0) (F := 1) (Lc := 44) (o := some th) (av := []) (rest := []) C w rfl (by decide) (fun a r g hf => k_M_stepOn l D cy z N h2 a  r g hf) gw_25_8 gw_25_9 gw_25_10 gw_1_5 gw_25_11 (by decide +kernel) ⟨Nat.le_of_ble_eq_true rfl, Nat.le_of_ble_eq_true rfl⟩ rfl hl.1 rfl (Nat.le_of_ble_eq_true rfl) dX12_readPlace_12 (fun a => (sh_M_stepOn N h2 a )) ⟨by decide, by decide⟩ e2 (fun v3 h4 H locs w hsh4 e3 => ?_)
    exact b_M_readPlace_15 C N     h4 th v1 _ _ ls w  (lv_sub hl [1, 0] rfl) e3
set_option maxRecDepth 20000 in
set_option maxHeartbeats 4000000 in
theorem b_M_readCost_34 {p : Program} {l : Launch} {e : Env} {s : State} {m : MethodId} {args : Array Value} {below : List Frame} {meth : Method} {c : Code} {D : va_G} {cy : cyT} {z : Nat} (C : MX p s m args meth c cX12_readCost 3 ((some .int)) RX12 (Cond.code yX12_readCost cX12_readCost 3 ((some .int)) :: GW)) (N : Nat) {r : Int32} {g : hS}  : ∀  (h : hS) (x2 : Int32) (H : Heap) (locs : List Loc) (ls : Array Slot), wd D cy z s 0 h H locs → lv_has ls 3 [(2, .int x2)] → f_M_readCost_34 N   h x2 = some (r, g) → W p l e { frames := 2, cells := 0, slots := 0, locals := 65 } s m args below meth c H locs 0 0 (MQ below (eQ D cy z (rI r) g) args s 0 0 (fun q => z ≤ q)) (F0 m 34 ls []) := by
  obtain ⟨hx, hb, hr, hml, hown, hts, hlk⟩ := id C
  intro  h x2 H locs ls w  hl hE
  unfold f_M_readCost_34 at hE
  refine lv_iload_n hx hb dX12_readCost_34 rfl (lv_at hl 0 rfl) ?_
  exact w_iret C w hE dX12_readCost_35
set_option maxRecDepth 20000 in
set_option maxHeartbeats 4000000 in
theorem b_M_readCost_23 {p : Program} {l : Launch} {e : Env} {s : State} {m : MethodId} {args : Array Value} {below : List Frame} {meth : Method} {c : Code} {D : va_G} {cy : cyT} {z : Nat} (C : MX p s m args meth c cX12_readCost 3 ((some .int)) RX12 (Cond.code yX12_readCost cX12_readCost 3 ((some .int)) :: GW)) (N : Nat) {r : Int32} {g : hS}  : ∀  (h : hS) (th : Nat) (x2 : Int32) (H : Heap) (locs : List Loc) (ls : Array Slot), wd D cy z s 0 h H locs → lv_has ls 3 [(0, .ref th), (2, .int x2)] → f_M_readCost_23 N   h th x2 = some (r, g) → W p l e { frames := 2, cells := 0, slots := 0, locals := 65 } s m args below meth c H locs 0 0 (MQ below (eQ D cy z (rI r) g) args s 0 0 (fun q => z ≤ q)) (F0 m 23 ls []) := by
  obtain ⟨hx, hb, hr, hml, hown, hts, hlk⟩ := id C
  intro  h th x2 H locs ls w  hl hE
  unfold f_M_readCost_23 at hE
  refine lv_aload_n hx hb dX12_readCost_23 rfl (lv_at hl 0 rfl) ?_
  refine w_gI (r := some th) (ci := 0) (k := 27) C w rfl (by decide) (GF_wsX120 _) (by decide) rfl (List.mem_cons_of_mem _ gw_24_16) rfl dX12_readCost_24 hE (fun v1 e1 => ?_)
  refine w_if_ne (tgt := 34) C dX12_readCost_27 (by decide) e1 (fun hc e2 => ?_) (fun hc e2 => ?_)
  · exact b_M_readCost_34 C N     h x2 _ _ ls w  (lv_sub hl [1] rfl) e2
  · refine lv_aload_n hx hb dX12_readCost_30 rfl (lv_at hl 0 rfl) ?_
    refine w_VV GW_good (n := 0) (F := 1) (Lc := 44) (o := some th) (av := []) (rest := []) C w rfl (by decide) (fun a r g hf => k_M_stepOn l D cy z N h a  r g hf) gw_25_8 gw_25_9 gw_25_10 gw_1_5 gw_25_11 (by decide +kernel) ⟨Nat.le_of_ble_eq_true rfl, Nat.le_of_ble_eq_true rfl⟩ rfl hl.1 rfl (Nat.le_of_ble_eq_true rfl) dX12_readCost_31 (fun a => (sh_M_stepOn N h a )) ⟨by decide, by decide⟩ e2 (fun v2 h3 H locs w hsh3 e3 => ?_)
    exact b_M_readCost_34 C N     h3 x2 _ _ ls w  (lv_sub hl [1] rfl) e3
set_option maxRecDepth 20000 in
set_option maxHeartbeats 4000000 in
theorem k_M_readCost (l : Launch) (D : va_G) (cy : cyT) (z : Nat) (N : Nat) (h : hS) (th : Nat) (x1 : Int32) (r : Int32) (g : hS) (hE : f_M_readCost N h th x1 = some (r, g)) : ct l yX12_readCost (Cond.code yX12_readCost cX12_readCost 3 ((some .int)) :: GW) { frames := 2, cells := 0, slots := 0, locals := 65 } D cy z h [.ref th, .int x1] (rI r) g := by
  refine Met.ofW (cc := cX12_readCost) (maxL := 3) (ret := (some .int)) (by decide) rfl ?_
  intro p e s m args below meth c s₁ B hml hv
  obtain ⟨rfl, hw⟩ := hv
  have C : MX p s m ([.ref th, .int x1] : List Value).toArray meth c cX12_readCost 3 ((some .int)) RX12 (Cond.code yX12_readCost cX12_readCost 3 ((some .int)) :: GW) := ⟨B.exec, B.bytes, B.returns, hml, findClass_of_methodNamed B.named, atoms_spec (ws := Cond.code yX12_readCost cX12_readCost 3 ((some .int)) :: GW) B.pre, B.notSynchronized⟩
  obtain ⟨hx, hb, hr, hml, hown, hts, hlk⟩ := id C
  have w := wd_of hw
  obtain ⟨ls, hen, hl⟩ : ∃ ls : Array Slot, entryFrame m ([.ref th, .int x1] : List Value).toArray 3 = F0 m 0 ls [] ∧ lv_has ls 3 [(0, .ref th), (1, .int x1)] := by
    exact ⟨_, lg_entry_eq _ _ _, lv_entry _ (Nat.le_of_ble_eq_true rfl)⟩
  rw [hen]
  unfold f_M_readCost at hE
  refine lv_aload_n hx hb dX12_readCost_0 rfl (lv_at hl 0 rfl) ?_
  refine lv_iconst (v := 3) hx hb dX12_readCost_1 (by decide) ?_
  refine w_VI GW_good (n := 1) (F := 1) (Lc := 21) (o := some th) (av := [.int (3 : Int32)]) (rest := []) C w rfl (by decide) (fun a r g hf => k_M_numberNow l D cy z N h a (3 : Int32) r g hf) gw_27_9 gw_27_10 gw_27_11 gw_1_5 gw_27_12 (by decide +kernel) ⟨Nat.le_of_ble_eq_true rfl, Nat.le_of_ble_eq_true rfl⟩ rfl hl.1 rfl (Nat.le_of_ble_eq_true rfl) dX12_readCost_2 (fun a => (sh_M_numberNow N h a (3 : Int32))) ⟨by decide, by decide⟩ hE (fun v1 h2 H locs w hsh2 e1 => ?_)
  refine lv_istore_n (lv' := [(2, .int v1), (0, .ref th), (1, .int x1)]) hx hb dX12_readCost_5 rfl hl (by decide) rfl (fun ls hl => ?_)
  refine lv_aload_n hx hb dX12_readCost_6 rfl (lv_at hl 1 rfl) ?_
  refine w_gI (r := some th) (ci := 0) (k := 27) C w rfl (by decide) (GF_wsX120 _) (by decide) rfl (List.mem_cons_of_mem _ gw_24_16) rfl dX12_readCost_7 e1 (fun v3 e2 => ?_)
  refine w_if_ne (tgt := 23) C dX12_readCost_10 (by decide) e2 (fun hc e3 => ?_) (fun hc e3 => ?_)
  · exact b_M_readCost_23 C N     h2 th v1 _ _ ls w  (lv_sub hl [1, 0] rfl) e3
  · refine lv_iload_n hx hb dX12_readCost_13 rfl (lv_at hl 0 rfl) ?_
    refine lv_iload_n hx hb dX12_readCost_14 rfl (lv_at hl 2 rfl) ?_
    refine w_icmp_ne (tgt := 23) C dX12_readCost_15 (by decide) e3 (fun hc e4 => ?_) (fun hc e4 => ?_)
    · exact b_M_readCost_23 C N     h2 th v1 _ _ ls w  (lv_sub hl [1, 0] rfl) e4
    · refine lv_aload_n hx hb dX12_readCost_18 rfl (lv_at hl 1 rfl) ?_
      refine lv_iconst (v := 3) hx hb dX12_readCost_19 (by decide) ?_
      refine w_VV GW_good (n := 1) (F := 0) (Lc := 0) (o := some th) (av := [.int (3 : Int32)]) (rest := []) C w rfl (by decide) (fun a r g hf => k_M_wrong l D cy z N h2 a (3 : Int32) r g hf) gw_26_17 gw_26_18 gw_26_19 gw_1_5 gw_26_20 (by decide +kernel) ⟨Nat.le_of_ble_eq_true rfl, Nat.le_of_ble_eq_true rfl⟩ rfl hl.1 rfl (Nat.le_of_ble_eq_true rfl) dX12_readCost_20 (fun a => (sh_M_wrong N h2 a (3 : Int32))) ⟨by decide, by decide⟩ e4 (fun v4 h5 H locs w hsh5 e5 => ?_)
      exact b_M_readCost_23 C N     h5 th v1 _ _ ls w  (lv_sub hl [1, 0] rfl) e5
set_option maxRecDepth 20000 in
set_option maxHeartbeats 4000000 in
theorem k_M_isCost (l : Launch) (D : va_G) (cy : cyT) (z : Nat) (N : Nat) (h : hS) (th : Nat) (x1 : Int32) (r : Int32) (g : hS) (hE : f_M_isCost N h th x1 = some (r, g)) : ct l yX12_isCost (Cond.code yX12_isCost cX12_isCost 2 ((some .boolean)) :: GW) { frames := 1, cells := 0, slots := 0, locals := 25 } D cy z h [.ref th, .int x1] (rI r) g := by
  refine Met.ofW (cc := cX12_isCost) (maxL := 2) (ret := (some .boolean)) (by decide) rfl ?_
  intro p e s m args below meth c s₁ B hml hv
  obtain ⟨rfl, hw⟩ := hv
  have C : MX p s m ([.ref th, .int x1] : List Value).toArray meth c cX12_isCost 2 ((some .boolean)) RX12 (Cond.code yX12_isCost cX12_isCost 2 ((some .boolean)) :: GW) := ⟨B.exec, B.bytes, B.returns, hml, findClass_of_methodNamed B.named, atoms_spec (ws := Cond.code yX12_isCost cX12_isCost 2 ((some .boolean)) :: GW) B.pre, B.notSynchronized⟩
  obtain ⟨hx, hb, hr, hml, hown, hts, hlk⟩ := id C
  have w := wd_of hw
  obtain ⟨ls, hen, hl⟩ : ∃ ls : Array Slot, entryFrame m ([.ref th, .int x1] : List Value).toArray 2 = F0 m 0 ls [] ∧ lv_has ls 2 [(0, .ref th), (1, .int x1)] := by
    exact ⟨_, lg_entry_eq _ _ _, lv_entry _ (Nat.le_of_ble_eq_true rfl)⟩
  rw [hen]
  unfold f_M_isCost at hE
  refine lv_iload_n hx hb dX12_isCost_0 rfl (lv_at hl 1 rfl) ?_
  refine lv_i2l hx hb dX12_isCost_1 rfl ?_
  refine lv_lconst (v := 0) hx hb dX12_isCost_2 (by decide) ?_
  refine lv_ldc2 hx hb hown (hts _ (List.mem_cons_of_mem _ gw_25_0)) dX12_isCost_3 ?_
  refine w_SI GW_good (n := 3) (F := 0) (Lc := 0) (av := [.long x1.toInt64, .long (0 : Int64), .long (3 : Int64)]) (rest := []) C w (fun r g hf => k_M_isIn l D cy z N h x1.toInt64 (0 : Int64) (3 : Int64) r g hf) gw_25_1 gw_25_2 gw_1_5 gw_25_3 (by decide +kernel) ⟨Nat.le_of_ble_eq_true rfl, Nat.le_of_ble_eq_true rfl⟩ rfl hl.1 rfl (Nat.le_of_ble_eq_true rfl) dX12_isCost_6 (sh_M_isIn N h x1.toInt64 (0 : Int64) (3 : Int64)) ⟨by decide, by decide⟩ hE (fun v1 h2 H locs w hsh2 e1 => ?_)
  exact w_zret C w e1 dX12_isCost_9
set_option maxRecDepth 20000 in
set_option maxHeartbeats 4000000 in
theorem k_M_fault (l : Launch) (D : va_G) (cy : cyT) (z : Nat) (N : Nat) (h : hS) (th : Nat) (r : Int32) (g : hS) (hE : f_M_fault N h th = some (r, g)) : ct l yX12_fault (Cond.code yX12_fault cX12_fault 1 ((some .int)) :: GW) { frames := 0, cells := 0, slots := 0, locals := 0 } D cy z h [.ref th] (rI r) g := by
  refine Met.ofW (cc := cX12_fault) (maxL := 1) (ret := (some .int)) (by decide) rfl ?_
  intro p e s m args below meth c s₁ B hml hv
  obtain ⟨rfl, hw⟩ := hv
  have C : MX p s m ([.ref th] : List Value).toArray meth c cX12_fault 1 ((some .int)) RX12 (Cond.code yX12_fault cX12_fault 1 ((some .int)) :: GW) := ⟨B.exec, B.bytes, B.returns, hml, findClass_of_methodNamed B.named, atoms_spec (ws := Cond.code yX12_fault cX12_fault 1 ((some .int)) :: GW) B.pre, B.notSynchronized⟩
  obtain ⟨hx, hb, hr, hml, hown, hts, hlk⟩ := id C
  have w := wd_of hw
  obtain ⟨ls, hen, hl⟩ : ∃ ls : Array Slot, entryFrame m ([.ref th] : List Value).toArray 1 = F0 m 0 ls [] ∧ lv_has ls 1 [(0, .ref th)] := by
    exact ⟨_, lg_entry_eq _ _ _, lv_entry _ (Nat.le_of_ble_eq_true rfl)⟩
  rw [hen]
  unfold f_M_fault at hE
  refine lv_aload_n hx hb dX12_fault_0 rfl (lv_at hl 0 rfl) ?_
  refine lv_iconst (v := 0) hx hb dX12_fault_1 (by decide) ?_
  refine w_pI (r := some th) (ci := 0) (k := 1) C w rfl (by decide) (by unfold roK; omega) (GF_wsX120 _) tyX12 tyX12_ok nmX12 (by decide) rfl (List.mem_cons_of_mem _ gw_8_18) rfl rfl (tyX12_ok 1 (by decide)) dX12_fault_2 hE (fun h1 H locs w hsh1 e1 => ?_)
  refine lv_aload_n hx hb dX12_fault_5 rfl (lv_at hl 0 rfl) ?_
  refine w_gI (r := some th) (ci := 0) (k := 29) C w rfl (by decide) (GF_wsX120 _) (by decide) rfl (List.mem_cons_of_mem _ gw_7_14) rfl dX12_fault_6 e1 (fun v2 e2 => ?_)
  exact w_iret C w e2 dX12_fault_9
set_option maxRecDepth 20000 in
set_option maxHeartbeats 4000000 in
theorem k_M_fail (l : Launch) (D : va_G) (cy : cyT) (z : Nat) (N : Nat) (h : hS) (th : Nat) (x1 : Int32) (r : Int32) (g : hS) (hE : f_M_fail N h th x1 = some (r, g)) : ct l yX12_fail (Cond.code yX12_fail cX12_fail 2 ((some .int)) :: GW) { frames := 0, cells := 0, slots := 0, locals := 0 } D cy z h [.ref th, .int x1] (rI r) g := by
  refine Met.ofW (cc := cX12_fail) (maxL := 2) (ret := (some .int)) (by decide) rfl ?_
  intro p e s m args below meth c s₁ B hml hv
  obtain ⟨rfl, hw⟩ := hv
  have C : MX p s m ([.ref th, .int x1] : List Value).toArray meth c cX12_fail 2 ((some .int)) RX12 (Cond.code yX12_fail cX12_fail 2 ((some .int)) :: GW) := ⟨B.exec, B.bytes, B.returns, hml, findClass_of_methodNamed B.named, atoms_spec (ws := Cond.code yX12_fail cX12_fail 2 ((some .int)) :: GW) B.pre, B.notSynchronized⟩
  obtain ⟨hx, hb, hr, hml, hown, hts, hlk⟩ := id C
  have w := wd_of hw
  obtain ⟨ls, hen, hl⟩ : ∃ ls : Array Slot, entryFrame m ([.ref th, .int x1] : List Value).toArray 2 = F0 m 0 ls [] ∧ lv_has ls 2 [(0, .ref th), (1, .int x1)] := by
    exact ⟨_, lg_entry_eq _ _ _, lv_entry _ (Nat.le_of_ble_eq_true rfl)⟩
  rw [hen]
  unfold f_M_fail at hE
  refine lv_aload_n hx hb dX12_fail_0 rfl (lv_at hl 0 rfl) ?_
  refine lv_iload_n hx hb dX12_fail_1 rfl (lv_at hl 1 rfl) ?_
  refine w_pI (r := some th) (ci := 0) (k := 1) C w rfl (by decide) (by unfold roK; omega) (GF_wsX120 _) tyX12 tyX12_ok nmX12 (by decide) rfl (List.mem_cons_of_mem _ gw_8_18) rfl rfl (tyX12_ok 1 (by decide)) dX12_fail_2 hE (fun h1 H locs w hsh1 e1 => ?_)
  refine lv_iconst (v := 0) hx hb dX12_fail_5 (by decide) ?_
  exact w_iret C w e1 dX12_fail_6
set_option maxRecDepth 20000 in
set_option maxHeartbeats 4000000 in
theorem b_M_count_60 {p : Program} {l : Launch} {e : Env} {s : State} {m : MethodId} {args : Array Value} {below : List Frame} {meth : Method} {c : Code} {D : va_G} {cy : cyT} {z : Nat} (C : MX p s m args meth c cX12_count 2 ((some .int)) RX12 (Cond.code yX12_count cX12_count 2 ((some .int)) :: GW)) (N : Nat) {r : Int32} {g : hS}  : ∀  (h : hS) (th : Nat) (x1 : Int32) (H : Heap) (locs : List Loc) (ls : Array Slot), wd D cy z s 0 h H locs → lv_has ls 2 [(0, .ref th), (1, .int x1)] → f_M_count_60 N   h th x1 = some (r, g) → W p l e { frames := 1, cells := 0, slots := 0, locals := 21 } s m args below meth c H locs 0 0 (MQ below (eQ D cy z (rI r) g) args s 0 0 (fun q => z ≤ q)) (F0 m 60 ls []) := by
  obtain ⟨hx, hb, hr, hml, hown, hts, hlk⟩ := id C
  intro  h th x1 H locs ls w  hl hE
  unfold f_M_count_60 at hE
  refine lv_aload_n hx hb dX12_count_60 rfl (lv_at hl 0 rfl) ?_
  refine w_gR (r := some th) (ci := 0) (k := 2) C w rfl (by decide) (GF_wsX120 _) (by decide) rfl (List.mem_cons_of_mem _ gw_6_21) rfl dX12_count_61 hE (fun v1 e1 => ?_)
  refine lv_sipush (v := 161) hx hb dX12_count_64 (by decide) ?_
  refine lv_iload_n hx hb dX12_count_67 rfl (lv_at hl 1 rfl) ?_
  refine lv_imul hx hb dX12_count_68 ?_
  refine w_aI (r := v1) C w dX12_count_69 e1 (fun v2 e2 => ?_)
  exact w_iret C w e2 dX12_count_70
set_option maxRecDepth 20000 in
set_option maxHeartbeats 4000000 in
theorem b_M_count_86 {p : Program} {l : Launch} {e : Env} {s : State} {m : MethodId} {args : Array Value} {below : List Frame} {meth : Method} {c : Code} {D : va_G} {cy : cyT} {z : Nat} (C : MX p s m args meth c cX12_count 2 ((some .int)) RX12 (Cond.code yX12_count cX12_count 2 ((some .int)) :: GW)) (N : Nat) {r : Int32} {g : hS}  : ∀  (h : hS) (th : Nat) (x1 : Int32) (H : Heap) (locs : List Loc) (ls : Array Slot), wd D cy z s 0 h H locs → lv_has ls 2 [(0, .ref th), (1, .int x1)] → f_M_count_86 N   h th x1 = some (r, g) → W p l e { frames := 1, cells := 0, slots := 0, locals := 21 } s m args below meth c H locs 0 0 (MQ below (eQ D cy z (rI r) g) args s 0 0 (fun q => z ≤ q)) (F0 m 86 ls []) := by
  obtain ⟨hx, hb, hr, hml, hown, hts, hlk⟩ := id C
  intro  h th x1 H locs ls w  hl hE
  unfold f_M_count_86 at hE
  refine lv_aload_n hx hb dX12_count_86 rfl (lv_at hl 0 rfl) ?_
  refine w_gR (r := some th) (ci := 0) (k := 3) C w rfl (by decide) (GF_wsX120 _) (by decide) rfl (List.mem_cons_of_mem _ gw_6_22) rfl dX12_count_87 hE (fun v1 e1 => ?_)
  refine lv_iload_n hx hb dX12_count_90 rfl (lv_at hl 1 rfl) ?_
  refine lv_bipush (v := 7) hx hb dX12_count_91 (by decide) ?_
  refine lv_isub hx hb dX12_count_93 ?_
  refine w_aI (r := v1) C w dX12_count_94 e1 (fun v2 e2 => ?_)
  exact w_iret C w e2 dX12_count_95
set_option maxRecDepth 20000 in
set_option maxHeartbeats 4000000 in
theorem k_M_count (l : Launch) (D : va_G) (cy : cyT) (z : Nat) (N : Nat) (h : hS) (th : Nat) (x1 : Int32) (r : Int32) (g : hS) (hE : f_M_count N h th x1 = some (r, g)) : ct l yX12_count (Cond.code yX12_count cX12_count 2 ((some .int)) :: GW) { frames := 1, cells := 0, slots := 0, locals := 21 } D cy z h [.ref th, .int x1] (rI r) g := by
  refine Met.ofW (cc := cX12_count) (maxL := 2) (ret := (some .int)) (by decide) rfl ?_
  intro p e s m args below meth c s₁ B hml hv
  obtain ⟨rfl, hw⟩ := hv
  have C : MX p s m ([.ref th, .int x1] : List Value).toArray meth c cX12_count 2 ((some .int)) RX12 (Cond.code yX12_count cX12_count 2 ((some .int)) :: GW) := ⟨B.exec, B.bytes, B.returns, hml, findClass_of_methodNamed B.named, atoms_spec (ws := Cond.code yX12_count cX12_count 2 ((some .int)) :: GW) B.pre, B.notSynchronized⟩
  obtain ⟨hx, hb, hr, hml, hown, hts, hlk⟩ := id C
  have w := wd_of hw
  obtain ⟨ls, hen, hl⟩ : ∃ ls : Array Slot, entryFrame m ([.ref th, .int x1] : List Value).toArray 2 = F0 m 0 ls [] ∧ lv_has ls 2 [(0, .ref th), (1, .int x1)] := by
    exact ⟨_, lg_entry_eq _ _ _, lv_entry _ (Nat.le_of_ble_eq_true rfl)⟩
  rw [hen]
  unfold f_M_count at hE
  refine lv_aload_n hx hb dX12_count_0 rfl (lv_at hl 0 rfl) ?_
  refine lv_iconst (v := 0) hx hb dX12_count_1 (by decide) ?_
  refine w_pI (r := some th) (ci := 0) (k := 1) C w rfl (by decide) (by unfold roK; omega) (GF_wsX120 _) tyX12 tyX12_ok nmX12 (by decide) rfl (List.mem_cons_of_mem _ gw_8_18) rfl rfl (tyX12_ok 1 (by decide)) dX12_count_2 hE (fun h1 H locs w hsh1 e1 => ?_)
  refine lv_iload_n hx hb dX12_count_5 rfl (lv_at hl 1 rfl) ?_
  refine w_case e1 (fun hc e2 => ?_) (fun nc6_0 e2 => ?_)
  · refine w_tin (tgt := 60) C hc dX12_count_6 (by decide) (by decide) rfl (by decide) ?_
    exact b_M_count_60 C N     h1 th x1 _ _ ls w  (lv_sub hl [0, 1] rfl) e2
  ·
    refine w_case e2 (fun hc e3 => ?_) (fun nc6_1 e3 => ?_)
    · refine w_tin (tgt := 60) C hc dX12_count_6 (by decide) (by decide) rfl (by decide) ?_
      exact b_M_count_60 C N     h1 th x1 _ _ ls w  (lv_sub hl [0, 1] rfl) e3
    ·
      refine w_case e3 (fun hc e4 => ?_) (fun nc6_2 e4 => ?_)
      · refine w_tin (tgt := 60) C hc dX12_count_6 (by decide) (by decide) rfl (by decide) ?_
        exact b_M_count_60 C N     h1 th x1 _ _ ls w  (lv_sub hl [0, 1] rfl) e4
      ·
        refine w_case e4 (fun hc e5 => ?_) (fun nc6_3 e5 => ?_)
        · refine w_tin (tgt := 60) C hc dX12_count_6 (by decide) (by decide) rfl (by decide) ?_
          exact b_M_count_60 C N     h1 th x1 _ _ ls w  (lv_sub hl [0, 1] rfl) e5
        ·
          refine w_case e5 (fun hc e6 => ?_) (fun nc6_4 e6 => ?_)
          · refine w_tin (tgt := 71) C hc dX12_count_6 (by decide) (by decide) rfl (by decide) ?_
            refine lv_aload_n hx hb dX12_count_71 rfl (lv_at hl 0 rfl) ?_
            refine w_gI (r := some th) (ci := 0) (k := 41) C w rfl (by decide) (GF_wsX120 _) (by decide) rfl (List.mem_cons_of_mem _ gw_31_10) rfl dX12_count_72 e6 (fun v2 e7 => ?_)
            exact w_iret C w e7 dX12_count_75
          ·
            refine w_case e6 (fun hc e8 => ?_) (fun nc6_5 e8 => ?_)
            · refine w_tin (tgt := 76) C hc dX12_count_6 (by decide) (by decide) rfl (by decide) ?_
              refine lv_aload_n hx hb dX12_count_76 rfl (lv_at hl 0 rfl) ?_
              refine w_gI (r := some th) (ci := 0) (k := 43) C w rfl (by decide) (GF_wsX120 _) (by decide) rfl (List.mem_cons_of_mem _ gw_32_17) rfl dX12_count_77 e8 (fun v3 e9 => ?_)
              exact w_iret C w e9 dX12_count_80
            ·
              refine w_case e8 (fun hc e10 => ?_) (fun nc6_6 e10 => ?_)
              · refine w_tin (tgt := 81) C hc dX12_count_6 (by decide) (by decide) rfl (by decide) ?_
                refine lv_aload_n hx hb dX12_count_81 rfl (lv_at hl 0 rfl) ?_
                refine w_gI (r := some th) (ci := 0) (k := 20) C w rfl (by decide) (GF_wsX120 _) (by decide) rfl (List.mem_cons_of_mem _ gw_8_19) rfl dX12_count_82 e10 (fun v4 e11 => ?_)
                exact w_iret C w e11 dX12_count_85
              ·
                refine w_case e10 (fun hc e12 => ?_) (fun nc6_7 e12 => ?_)
                · refine w_tin (tgt := 86) C hc dX12_count_6 (by decide) (by decide) rfl (by decide) ?_
                  exact b_M_count_86 C N     h1 th x1 _ _ ls w  (lv_sub hl [0, 1] rfl) e12
                ·
                  refine w_case e12 (fun hc e13 => ?_) (fun nc6_8 e13 => ?_)
                  · refine w_tin (tgt := 86) C hc dX12_count_6 (by decide) (by decide) rfl (by decide) ?_
                    exact b_M_count_86 C N     h1 th x1 _ _ ls w  (lv_sub hl [0, 1] rfl) e13
                  ·
                    refine w_case e13 (fun hc e14 => ?_) (fun nc6_9 e14 => ?_)
                    · refine w_tin (tgt := 86) C hc dX12_count_6 (by decide) (by decide) rfl (by decide) ?_
                      exact b_M_count_86 C N     h1 th x1 _ _ ls w  (lv_sub hl [0, 1] rfl) e14
                    ·
                      refine w_tout (tgt := 96) 0 10 C (by decide) (by intro k hk; rcases (show k = 0 ∨ k = 1 ∨ k = 2 ∨ k = 3 ∨ k = 4 ∨ k = 5 ∨ k = 6 ∨ k = 7 ∨ k = 8 ∨ k = 9 by omega) with rfl | rfl | rfl | rfl | rfl | rfl | rfl | rfl | rfl | rfl; all_goals assumption) rfl rfl dX12_count_6 (by decide) ?_
                      refine lv_aload_n hx hb dX12_count_96 rfl (lv_at hl 0 rfl) ?_
                      refine lv_iconst (v := 1) hx hb dX12_count_97 (by decide) ?_
                      refine w_VI GW_good (n := 1) (F := 0) (Lc := 0) (o := some th) (av := [.int (1 : Int32)]) (rest := []) C w rfl (by decide) (fun a r g hf => k_M_fail l D cy z N h1 a (1 : Int32) r g hf) gw_25_4 gw_25_5 gw_25_6 gw_1_5 gw_25_7 (by decide +kernel) ⟨Nat.le_of_ble_eq_true rfl, Nat.le_of_ble_eq_true rfl⟩ rfl hl.1 rfl (Nat.le_of_ble_eq_true rfl) dX12_count_98 (fun a => (sh_M_fail N h1 a (1 : Int32))) ⟨by decide, by decide⟩ e14 (fun v5 h6 H locs w hsh6 e15 => ?_)
                      exact w_iret C w e15 dX12_count_101
set_option maxRecDepth 20000 in
set_option maxHeartbeats 4000000 in
theorem k_M_steps (l : Launch) (D : va_G) (cy : cyT) (z : Nat) (N : Nat) (h : hS) (th : Nat) (x1 : Int32) (r : Int32) (g : hS) (hE : f_M_steps N h th x1 = some (r, g)) : ct l yX12_steps (Cond.code yX12_steps cX12_steps 2 ((some .int)) :: GW) { frames := 0, cells := 0, slots := 0, locals := 0 } D cy z h [.ref th, .int x1] (rI r) g := by
  refine Met.ofW (cc := cX12_steps) (maxL := 2) (ret := (some .int)) (by decide) rfl ?_
  intro p e s m args below meth c s₁ B hml hv
  obtain ⟨rfl, hw⟩ := hv
  have C : MX p s m ([.ref th, .int x1] : List Value).toArray meth c cX12_steps 2 ((some .int)) RX12 (Cond.code yX12_steps cX12_steps 2 ((some .int)) :: GW) := ⟨B.exec, B.bytes, B.returns, hml, findClass_of_methodNamed B.named, atoms_spec (ws := Cond.code yX12_steps cX12_steps 2 ((some .int)) :: GW) B.pre, B.notSynchronized⟩
  obtain ⟨hx, hb, hr, hml, hown, hts, hlk⟩ := id C
  have w := wd_of hw
  obtain ⟨ls, hen, hl⟩ : ∃ ls : Array Slot, entryFrame m ([.ref th, .int x1] : List Value).toArray 2 = F0 m 0 ls [] ∧ lv_has ls 2 [(0, .ref th), (1, .int x1)] := by
    exact ⟨_, lg_entry_eq _ _ _, lv_entry _ (Nat.le_of_ble_eq_true rfl)⟩
  rw [hen]
  unfold f_M_steps at hE
  refine lv_aload_n hx hb dX12_steps_0 rfl (lv_at hl 0 rfl) ?_
  refine w_gR (r := some th) (ci := 0) (k := 2) C w rfl (by decide) (GF_wsX120 _) (by decide) rfl (List.mem_cons_of_mem _ gw_6_21) rfl dX12_steps_1 hE (fun v1 e1 => ?_)
  refine lv_sipush (v := 161) hx hb dX12_steps_4 (by decide) ?_
  refine lv_iload_n hx hb dX12_steps_7 rfl (lv_at hl 1 rfl) ?_
  refine lv_imul hx hb dX12_steps_8 ?_
  refine w_aI (r := v1) C w dX12_steps_9 e1 (fun v2 e2 => ?_)
  exact w_iret C w e2 dX12_steps_10
set_option maxRecDepth 20000 in
set_option maxHeartbeats 4000000 in
theorem b_M_isStep_30 {p : Program} {l : Launch} {e : Env} {s : State} {m : MethodId} {args : Array Value} {below : List Frame} {meth : Method} {c : Code} {D : va_G} {cy : cyT} {z : Nat} (C : MX p s m args meth c cX12_isStep 3 ((some .boolean)) RX12 (Cond.code yX12_isStep cX12_isStep 3 ((some .boolean)) :: GW)) (N : Nat) {r : Int32} {g : hS}  : ∀  (h : hS) (y0 : Int32) (H : Heap) (locs : List Loc) (ls : Array Slot), wd D cy z s 0 h H locs → lv_has ls 3 [] → f_M_isStep_30 N   h y0 = some (r, g) → W p l e { frames := 2, cells := 0, slots := 0, locals := 46 } s m args below meth c H locs 0 0 (MQ below (eQ D cy z (rI r) g) args s 0 0 (fun q => z ≤ q)) (F0 m 30 ls [.int y0]) := by
  obtain ⟨hx, hb, hr, hml, hown, hts, hlk⟩ := id C
  intro  h y0 H locs ls w  hl hE
  unfold f_M_isStep_30 at hE
  exact w_zret C w hE dX12_isStep_30
set_option maxRecDepth 20000 in
set_option maxHeartbeats 4000000 in
theorem b_M_isStep_29 {p : Program} {l : Launch} {e : Env} {s : State} {m : MethodId} {args : Array Value} {below : List Frame} {meth : Method} {c : Code} {D : va_G} {cy : cyT} {z : Nat} (C : MX p s m args meth c cX12_isStep 3 ((some .boolean)) RX12 (Cond.code yX12_isStep cX12_isStep 3 ((some .boolean)) :: GW)) (N : Nat) {r : Int32} {g : hS}  : ∀  (h : hS)  (H : Heap) (locs : List Loc) (ls : Array Slot), wd D cy z s 0 h H locs → lv_has ls 3 [] → f_M_isStep_29 N   h  = some (r, g) → W p l e { frames := 2, cells := 0, slots := 0, locals := 46 } s m args below meth c H locs 0 0 (MQ below (eQ D cy z (rI r) g) args s 0 0 (fun q => z ≤ q)) (F0 m 29 ls []) := by
  obtain ⟨hx, hb, hr, hml, hown, hts, hlk⟩ := id C
  intro  h  H locs ls w  hl hE
  unfold f_M_isStep_29 at hE
  refine lv_iconst (v := 0) hx hb dX12_isStep_29 (by decide) ?_
  exact b_M_isStep_30 C N     h (0 : Int32) _ _ ls w  (lv_sub hl [] rfl) hE
set_option maxRecDepth 20000 in
set_option maxHeartbeats 4000000 in
theorem k_M_isStep (l : Launch) (D : va_G) (cy : cyT) (z : Nat) (N : Nat) (h : hS) (th : Nat) (x1 : Int32) (x2 : Int32) (r : Int32) (g : hS) (hE : f_M_isStep N h th x1 x2 = some (r, g)) : ct l yX12_isStep (Cond.code yX12_isStep cX12_isStep 3 ((some .boolean)) :: GW) { frames := 2, cells := 0, slots := 0, locals := 46 } D cy z h [.ref th, .int x1, .int x2] (rI r) g := by
  refine Met.ofW (cc := cX12_isStep) (maxL := 3) (ret := (some .boolean)) (by decide) rfl ?_
  intro p e s m args below meth c s₁ B hml hv
  obtain ⟨rfl, hw⟩ := hv
  have C : MX p s m ([.ref th, .int x1, .int x2] : List Value).toArray meth c cX12_isStep 3 ((some .boolean)) RX12 (Cond.code yX12_isStep cX12_isStep 3 ((some .boolean)) :: GW) := ⟨B.exec, B.bytes, B.returns, hml, findClass_of_methodNamed B.named, atoms_spec (ws := Cond.code yX12_isStep cX12_isStep 3 ((some .boolean)) :: GW) B.pre, B.notSynchronized⟩
  obtain ⟨hx, hb, hr, hml, hown, hts, hlk⟩ := id C
  have w := wd_of hw
  obtain ⟨ls, hen, hl⟩ : ∃ ls : Array Slot, entryFrame m ([.ref th, .int x1, .int x2] : List Value).toArray 3 = F0 m 0 ls [] ∧ lv_has ls 3 [(0, .ref th), (1, .int x1), (2, .int x2)] := by
    exact ⟨_, lg_entry_eq _ _ _, lv_entry _ (Nat.le_of_ble_eq_true rfl)⟩
  rw [hen]
  unfold f_M_isStep at hE
  refine lv_aload_n hx hb dX12_isStep_0 rfl (lv_at hl 0 rfl) ?_
  refine lv_iload_n hx hb dX12_isStep_1 rfl (lv_at hl 1 rfl) ?_
  refine w_VI GW_good (n := 1) (F := 1) (Lc := 25) (o := some th) (av := [.int x1]) (rest := []) C w rfl (by decide) (fun a r g hf => k_M_isCost l D cy z N h a x1 r g hf) gw_24_20 gw_24_21 gw_24_22 gw_1_5 gw_24_23 (by decide +kernel) ⟨Nat.le_of_ble_eq_true rfl, Nat.le_of_ble_eq_true rfl⟩ rfl hl.1 rfl (Nat.le_of_ble_eq_true rfl) dX12_isStep_2 (fun a => (sh_M_isCost N h a x1)) ⟨by decide, by decide⟩ hE (fun v1 h2 H locs w hsh2 e1 => ?_)
  refine w_if_eq (tgt := 29) C dX12_isStep_5 (by decide) e1 (fun hc e2 => ?_) (fun hc e2 => ?_)
  · exact b_M_isStep_29 C N     h2  _ _ ls w  (lv_sub hl [] rfl) e2
  · refine lv_iload_n hx hb dX12_isStep_8 rfl (lv_at hl 2 rfl) ?_
    refine lv_i2l hx hb dX12_isStep_9 rfl ?_
    refine lv_lconst (v := 0) hx hb dX12_isStep_10 (by decide) ?_
    refine lv_aload_n hx hb dX12_isStep_11 rfl (lv_at hl 0 rfl) ?_
    refine lv_iload_n hx hb dX12_isStep_12 rfl (lv_at hl 1 rfl) ?_
    refine w_VI GW_good (n := 1) (F := 0) (Lc := 0) (o := some th) (av := [.int x1]) (rest := [.long (0 : Int64), .long x2.toInt64]) C w rfl (by decide) (fun a r g hf => k_M_steps l D cy z N h2 a x1 r g hf) gw_33_18 gw_33_19 gw_33_20 gw_1_5 gw_33_21 (by decide +kernel) ⟨Nat.le_of_ble_eq_true rfl, Nat.le_of_ble_eq_true rfl⟩ rfl hl.1 rfl (Nat.le_of_ble_eq_true rfl) dX12_isStep_13 (fun a => (sh_M_steps N h2 a x1)) ⟨by decide, by decide⟩ e2 (fun v3 h4 H locs w hsh4 e3 => ?_)
    refine lv_iconst (v := 1) hx hb dX12_isStep_16 (by decide) ?_
    refine lv_isub hx hb dX12_isStep_17 ?_
    refine lv_i2l hx hb dX12_isStep_18 rfl ?_
    refine w_SI GW_good (n := 3) (F := 0) (Lc := 0) (av := [.long x2.toInt64, .long (0 : Int64), .long ((v3 - (1 : Int32)).toInt64)]) (rest := []) C w (fun r g hf => k_M_isIn l D cy z N h4 x2.toInt64 (0 : Int64) ((v3 - (1 : Int32)).toInt64) r g hf) gw_25_1 gw_25_2 gw_1_5 gw_25_3 (by decide +kernel) ⟨Nat.le_of_ble_eq_true rfl, Nat.le_of_ble_eq_true rfl⟩ rfl hl.1 rfl (Nat.le_of_ble_eq_true rfl) dX12_isStep_19 (sh_M_isIn N h4 x2.toInt64 (0 : Int64) ((v3 - (1 : Int32)).toInt64)) ⟨by decide, by decide⟩ e3 (fun v5 h6 H locs w hsh6 e4 => ?_)
    refine w_if_eq (tgt := 29) C dX12_isStep_22 (by decide) e4 (fun hc e5 => ?_) (fun hc e5 => ?_)
    · exact b_M_isStep_29 C N     h6  _ _ ls w  (lv_sub hl [] rfl) e5
    · refine lv_iconst (v := 1) hx hb dX12_isStep_25 (by decide) ?_
      refine lv_goto (tgt := 30) hx hb dX12_isStep_26 (by decide) ?_
      exact b_M_isStep_30 C N     h6 (1 : Int32) _ _ ls w  (lv_sub hl [] rfl) e5
set_option maxRecDepth 20000 in
set_option maxHeartbeats 4000000 in
theorem k_M_stepAt (l : Launch) (D : va_G) (cy : cyT) (z : Nat) (N : Nat) (h : hS) (th : Nat) (x1 : Int32) (x2 : Int32) (x3 : Int32) (r : Int32) (g : hS) (hE : f_M_stepAt N h th x1 x2 x3 = some (r, g)) : ct l yX12_stepAt (Cond.code yX12_stepAt cX12_stepAt 4 ((some .int)) :: GW) { frames := 0, cells := 0, slots := 0, locals := 0 } D cy z h [.ref th, .int x1, .int x2, .int x3] (rI r) g := by
  refine Met.ofW (cc := cX12_stepAt) (maxL := 4) (ret := (some .int)) (by decide) rfl ?_
  intro p e s m args below meth c s₁ B hml hv
  obtain ⟨rfl, hw⟩ := hv
  have C : MX p s m ([.ref th, .int x1, .int x2, .int x3] : List Value).toArray meth c cX12_stepAt 4 ((some .int)) RX12 (Cond.code yX12_stepAt cX12_stepAt 4 ((some .int)) :: GW) := ⟨B.exec, B.bytes, B.returns, hml, findClass_of_methodNamed B.named, atoms_spec (ws := Cond.code yX12_stepAt cX12_stepAt 4 ((some .int)) :: GW) B.pre, B.notSynchronized⟩
  obtain ⟨hx, hb, hr, hml, hown, hts, hlk⟩ := id C
  have w := wd_of hw
  obtain ⟨ls, hen, hl⟩ : ∃ ls : Array Slot, entryFrame m ([.ref th, .int x1, .int x2, .int x3] : List Value).toArray 4 = F0 m 0 ls [] ∧ lv_has ls 4 [(0, .ref th), (1, .int x1), (2, .int x2), (3, .int x3)] := by
    exact ⟨_, lg_entry_eq _ _ _, lv_entry _ (Nat.le_of_ble_eq_true rfl)⟩
  rw [hen]
  unfold f_M_stepAt at hE
  refine lv_aload_n hx hb dX12_stepAt_0 rfl (lv_at hl 0 rfl) ?_
  refine w_gR (r := some th) (ci := 0) (k := 2) C w rfl (by decide) (GF_wsX120 _) (by decide) rfl (List.mem_cons_of_mem _ gw_6_21) rfl dX12_stepAt_1 hE (fun v1 e1 => ?_)
  refine lv_sipush (v := 161) hx hb dX12_stepAt_4 (by decide) ?_
  refine lv_iload_n hx hb dX12_stepAt_7 rfl (lv_at hl 1 rfl) ?_
  refine lv_imul hx hb dX12_stepAt_8 ?_
  refine lv_iconst (v := 1) hx hb dX12_stepAt_9 (by decide) ?_
  refine lv_iadd hx hb dX12_stepAt_10 ?_
  refine lv_iconst (v := 4) hx hb dX12_stepAt_11 (by decide) ?_
  refine lv_iload_n hx hb dX12_stepAt_12 rfl (lv_at hl 2 rfl) ?_
  refine lv_imul hx hb dX12_stepAt_13 ?_
  refine lv_iadd hx hb dX12_stepAt_14 ?_
  refine lv_iload_n hx hb dX12_stepAt_15 rfl (lv_at hl 3 rfl) ?_
  refine lv_iadd hx hb dX12_stepAt_16 ?_
  refine w_aI (r := v1) C w dX12_stepAt_17 e1 (fun v2 e2 => ?_)
  exact w_iret C w e2 dX12_stepAt_18
set_option maxRecDepth 20000 in
set_option maxHeartbeats 4000000 in
theorem b_M_step_41 {p : Program} {l : Launch} {e : Env} {s : State} {m : MethodId} {args : Array Value} {below : List Frame} {meth : Method} {c : Code} {D : va_G} {cy : cyT} {z : Nat} (C : MX p s m args meth c cX12_step 4 ((some .int)) RX12 (Cond.code yX12_step cX12_step 4 ((some .int)) :: GW)) (N : Nat) {r : Int32} {g : hS}  : ∀  (h : hS) (y0 : Int32) (H : Heap) (locs : List Loc) (ls : Array Slot), wd D cy z s 0 h H locs → lv_has ls 4 [] → f_M_step_41 N   h y0 = some (r, g) → W p l e { frames := 3, cells := 0, slots := 0, locals := 68 } s m args below meth c H locs 0 0 (MQ below (eQ D cy z (rI r) g) args s 0 0 (fun q => z ≤ q)) (F0 m 41 ls [.int y0]) := by
  obtain ⟨hx, hb, hr, hml, hown, hts, hlk⟩ := id C
  intro  h y0 H locs ls w  hl hE
  unfold f_M_step_41 at hE
  exact w_iret C w hE dX12_step_41
set_option maxRecDepth 20000 in
set_option maxHeartbeats 4000000 in
theorem b_M_step_36 {p : Program} {l : Launch} {e : Env} {s : State} {m : MethodId} {args : Array Value} {below : List Frame} {meth : Method} {c : Code} {D : va_G} {cy : cyT} {z : Nat} (C : MX p s m args meth c cX12_step 4 ((some .int)) RX12 (Cond.code yX12_step cX12_step 4 ((some .int)) :: GW)) (N : Nat) {r : Int32} {g : hS}  : ∀  (h : hS) (th : Nat) (H : Heap) (locs : List Loc) (ls : Array Slot), wd D cy z s 0 h H locs → lv_has ls 4 [(0, .ref th)] → f_M_step_36 N   h th = some (r, g) → W p l e { frames := 3, cells := 0, slots := 0, locals := 68 } s m args below meth c H locs 0 0 (MQ below (eQ D cy z (rI r) g) args s 0 0 (fun q => z ≤ q)) (F0 m 36 ls []) := by
  obtain ⟨hx, hb, hr, hml, hown, hts, hlk⟩ := id C
  intro  h th H locs ls w  hl hE
  unfold f_M_step_36 at hE
  refine lv_aload_n hx hb dX12_step_36 rfl (lv_at hl 0 rfl) ?_
  refine lv_iconst (v := 1) hx hb dX12_step_37 (by decide) ?_
  refine w_VI GW_good (n := 1) (F := 0) (Lc := 0) (o := some th) (av := [.int (1 : Int32)]) (rest := []) C w rfl (by decide) (fun a r g hf => k_M_fail l D cy z N h a (1 : Int32) r g hf) gw_25_4 gw_25_5 gw_25_6 gw_1_5 gw_25_7 (by decide +kernel) ⟨Nat.le_of_ble_eq_true rfl, Nat.le_of_ble_eq_true rfl⟩ rfl hl.1 rfl (Nat.le_of_ble_eq_true rfl) dX12_step_38 (fun a => (sh_M_fail N h a (1 : Int32))) ⟨by decide, by decide⟩ hE (fun v1 h2 H locs w hsh2 e1 => ?_)
  exact b_M_step_41 C N     h2 v1 _ _ ls w  (lv_sub hl [] rfl) e1
set_option maxRecDepth 20000 in
set_option maxHeartbeats 4000000 in
theorem k_M_step (l : Launch) (D : va_G) (cy : cyT) (z : Nat) (N : Nat) (h : hS) (th : Nat) (x1 : Int32) (x2 : Int32) (x3 : Int32) (r : Int32) (g : hS) (hE : f_M_step N h th x1 x2 x3 = some (r, g)) : ct l yX12_step (Cond.code yX12_step cX12_step 4 ((some .int)) :: GW) { frames := 3, cells := 0, slots := 0, locals := 68 } D cy z h [.ref th, .int x1, .int x2, .int x3] (rI r) g := by
  refine Met.ofW (cc := cX12_step) (maxL := 4) (ret := (some .int)) (by decide) rfl ?_
  intro p e s m args below meth c s₁ B hml hv
  obtain ⟨rfl, hw⟩ := hv
  have C : MX p s m ([.ref th, .int x1, .int x2, .int x3] : List Value).toArray meth c cX12_step 4 ((some .int)) RX12 (Cond.code yX12_step cX12_step 4 ((some .int)) :: GW) := ⟨B.exec, B.bytes, B.returns, hml, findClass_of_methodNamed B.named, atoms_spec (ws := Cond.code yX12_step cX12_step 4 ((some .int)) :: GW) B.pre, B.notSynchronized⟩
  obtain ⟨hx, hb, hr, hml, hown, hts, hlk⟩ := id C
  have w := wd_of hw
  obtain ⟨ls, hen, hl⟩ : ∃ ls : Array Slot, entryFrame m ([.ref th, .int x1, .int x2, .int x3] : List Value).toArray 4 = F0 m 0 ls [] ∧ lv_has ls 4 [(0, .ref th), (1, .int x1), (2, .int x2), (3, .int x3)] := by
    exact ⟨_, lg_entry_eq _ _ _, lv_entry _ (Nat.le_of_ble_eq_true rfl)⟩
  rw [hen]
  unfold f_M_step at hE
  refine lv_aload_n hx hb dX12_step_0 rfl (lv_at hl 0 rfl) ?_
  refine lv_iconst (v := 0) hx hb dX12_step_1 (by decide) ?_
  refine w_pI (r := some th) (ci := 0) (k := 1) C w rfl (by decide) (by unfold roK; omega) (GF_wsX120 _) tyX12 tyX12_ok nmX12 (by decide) rfl (List.mem_cons_of_mem _ gw_8_18) rfl rfl (tyX12_ok 1 (by decide)) dX12_step_2 hE (fun h1 H locs w hsh1 e1 => ?_)
  refine lv_aload_n hx hb dX12_step_5 rfl (lv_at hl 0 rfl) ?_
  refine lv_iload_n hx hb dX12_step_6 rfl (lv_at hl 1 rfl) ?_
  refine lv_iload_n hx hb dX12_step_7 rfl (lv_at hl 2 rfl) ?_
  refine w_VI GW_good (n := 2) (F := 2) (Lc := 46) (o := some th) (av := [.int x1, .int x2]) (rest := []) C w rfl (by decide) (fun a r g hf => k_M_isStep l D cy z N h1 a x1 x2 r g hf) gw_33_14 gw_33_15 gw_33_16 gw_1_5 gw_33_17 (by decide +kernel) ⟨Nat.le_of_ble_eq_true rfl, Nat.le_of_ble_eq_true rfl⟩ rfl hl.1 rfl (Nat.le_of_ble_eq_true rfl) dX12_step_8 (fun a => (sh_M_isStep N h1 a x1 x2)) ⟨by decide, by decide⟩ e1 (fun v2 h3 H locs w hsh3 e2 => ?_)
  refine w_if_eq (tgt := 36) C dX12_step_11 (by decide) e2 (fun hc e3 => ?_) (fun hc e3 => ?_)
  · exact b_M_step_36 C N     h3 th _ _ ls w  (lv_sub hl [0] rfl) e3
  · refine lv_iload_n hx hb dX12_step_14 rfl (lv_at hl 3 rfl) ?_
    refine lv_i2l hx hb dX12_step_15 rfl ?_
    refine lv_lconst (v := 0) hx hb dX12_step_16 (by decide) ?_
    refine lv_ldc2 hx hb hown (hts _ (List.mem_cons_of_mem _ gw_33_13)) dX12_step_17 ?_
    refine w_SI GW_good (n := 3) (F := 0) (Lc := 0) (av := [.long x3.toInt64, .long (0 : Int64), .long (2 : Int64)]) (rest := []) C w (fun r g hf => k_M_isIn l D cy z N h3 x3.toInt64 (0 : Int64) (2 : Int64) r g hf) gw_25_1 gw_25_2 gw_1_5 gw_25_3 (by decide +kernel) ⟨Nat.le_of_ble_eq_true rfl, Nat.le_of_ble_eq_true rfl⟩ rfl hl.1 rfl (Nat.le_of_ble_eq_true rfl) dX12_step_20 (sh_M_isIn N h3 x3.toInt64 (0 : Int64) (2 : Int64)) ⟨by decide, by decide⟩ e3 (fun v4 h5 H locs w hsh5 e4 => ?_)
    refine w_if_eq (tgt := 36) C dX12_step_23 (by decide) e4 (fun hc e5 => ?_) (fun hc e5 => ?_)
    · exact b_M_step_36 C N     h5 th _ _ ls w  (lv_sub hl [0] rfl) e5
    · refine lv_aload_n hx hb dX12_step_26 rfl (lv_at hl 0 rfl) ?_
      refine lv_iload_n hx hb dX12_step_27 rfl (lv_at hl 1 rfl) ?_
      refine lv_iload_n hx hb dX12_step_28 rfl (lv_at hl 2 rfl) ?_
      refine lv_iload_n hx hb dX12_step_29 rfl (lv_at hl 3 rfl) ?_
      refine w_VI GW_good (n := 3) (F := 0) (Lc := 0) (o := some th) (av := [.int x1, .int x2, .int x3]) (rest := []) C w rfl (by decide) (fun a r g hf => k_M_stepAt l D cy z N h5 a x1 x2 x3 r g hf) gw_33_22 gw_33_23 gw_34_0 gw_1_5 gw_34_1 (by decide +kernel) ⟨Nat.le_of_ble_eq_true rfl, Nat.le_of_ble_eq_true rfl⟩ rfl hl.1 rfl (Nat.le_of_ble_eq_true rfl) dX12_step_30 (fun a => (sh_M_stepAt N h5 a x1 x2 x3)) ⟨by decide, by decide⟩ e5 (fun v6 h7 H locs w hsh7 e6 => ?_)
      refine lv_goto (tgt := 41) hx hb dX12_step_33 (by decide) ?_
      exact b_M_step_41 C N     h7 v6 _ _ ls w  (lv_sub hl [] rfl) e6
set_option maxRecDepth 20000 in
set_option maxHeartbeats 4000000 in
theorem k_M_isX (l : Launch) (D : va_G) (cy : cyT) (z : Nat) (N : Nat) (h : hS) (x0 : Int32) (r : Int32) (g : hS) (hE : f_M_isX N h x0 = some (r, g)) : ct l yX12_isX (Cond.code yX12_isX cX12_isX 1 ((some .boolean)) :: GW) { frames := 1, cells := 0, slots := 0, locals := 25 } D cy z h [.int x0] (rI r) g := by
  refine Met.ofW (cc := cX12_isX) (maxL := 1) (ret := (some .boolean)) (by decide) rfl ?_
  intro p e s m args below meth c s₁ B hml hv
  obtain ⟨rfl, hw⟩ := hv
  have C : MX p s m ([.int x0] : List Value).toArray meth c cX12_isX 1 ((some .boolean)) RX12 (Cond.code yX12_isX cX12_isX 1 ((some .boolean)) :: GW) := ⟨B.exec, B.bytes, B.returns, hml, findClass_of_methodNamed B.named, atoms_spec (ws := Cond.code yX12_isX cX12_isX 1 ((some .boolean)) :: GW) B.pre, B.notSynchronized⟩
  obtain ⟨hx, hb, hr, hml, hown, hts, hlk⟩ := id C
  have w := wd_of hw
  obtain ⟨ls, hen, hl⟩ : ∃ ls : Array Slot, entryFrame m ([.int x0] : List Value).toArray 1 = F0 m 0 ls [] ∧ lv_has ls 1 [(0, .int x0)] := by
    exact ⟨_, lg_entry_eq _ _ _, lv_entry _ (Nat.le_of_ble_eq_true rfl)⟩
  rw [hen]
  unfold f_M_isX at hE
  refine lv_iload_n hx hb dX12_isX_0 rfl (lv_at hl 0 rfl) ?_
  refine lv_i2l hx hb dX12_isX_1 rfl ?_
  refine lv_ldc2 hx hb hown (hts _ (List.mem_cons_of_mem _ gw_35_1)) dX12_isX_2 ?_
  refine lv_ldc2 hx hb hown (hts _ (List.mem_cons_of_mem _ gw_35_2)) dX12_isX_5 ?_
  refine w_SI GW_good (n := 3) (F := 0) (Lc := 0) (av := [.long x0.toInt64, .long (-100000 : Int64), .long (100000 : Int64)]) (rest := []) C w (fun r g hf => k_M_isIn l D cy z N h x0.toInt64 (-100000 : Int64) (100000 : Int64) r g hf) gw_25_1 gw_25_2 gw_1_5 gw_25_3 (by decide +kernel) ⟨Nat.le_of_ble_eq_true rfl, Nat.le_of_ble_eq_true rfl⟩ rfl hl.1 rfl (Nat.le_of_ble_eq_true rfl) dX12_isX_8 (sh_M_isIn N h x0.toInt64 (-100000 : Int64) (100000 : Int64)) ⟨by decide, by decide⟩ hE (fun v1 h2 H locs w hsh2 e1 => ?_)
  exact w_zret C w e1 dX12_isX_11
set_option maxRecDepth 20000 in
set_option maxHeartbeats 4000000 in
theorem b_M_somewhere_21 {p : Program} {l : Launch} {e : Env} {s : State} {m : MethodId} {args : Array Value} {below : List Frame} {meth : Method} {c : Code} {D : va_G} {cy : cyT} {z : Nat} (C : MX p s m args meth c cX12_somewhere 1 ((some .int)) RX12 (Cond.code yX12_somewhere cX12_somewhere 1 ((some .int)) :: GW)) (N : Nat) {r : Int32} {g : hS}  : ∀  (h : hS) (y0 : Int32) (H : Heap) (locs : List Loc) (ls : Array Slot), wd D cy z s 0 h H locs → lv_has ls 1 [] → f_M_somewhere_21 N   h y0 = some (r, g) → W p l e { frames := 1, cells := 0, slots := 0, locals := 25 } s m args below meth c H locs 0 0 (MQ below (eQ D cy z (rI r) g) args s 0 0 (fun q => z ≤ q)) (F0 m 21 ls [.int y0]) := by
  obtain ⟨hx, hb, hr, hml, hown, hts, hlk⟩ := id C
  intro  h y0 H locs ls w  hl hE
  unfold f_M_somewhere_21 at hE
  exact w_iret C w hE dX12_somewhere_21
set_option maxRecDepth 20000 in
set_option maxHeartbeats 4000000 in
theorem k_M_somewhere (l : Launch) (D : va_G) (cy : cyT) (z : Nat) (N : Nat) (h : hS) (x0 : Int32) (r : Int32) (g : hS) (hE : f_M_somewhere N h x0 = some (r, g)) : ct l yX12_somewhere (Cond.code yX12_somewhere cX12_somewhere 1 ((some .int)) :: GW) { frames := 1, cells := 0, slots := 0, locals := 25 } D cy z h [.int x0] (rI r) g := by
  refine Met.ofW (cc := cX12_somewhere) (maxL := 1) (ret := (some .int)) (by decide) rfl ?_
  intro p e s m args below meth c s₁ B hml hv
  obtain ⟨rfl, hw⟩ := hv
  have C : MX p s m ([.int x0] : List Value).toArray meth c cX12_somewhere 1 ((some .int)) RX12 (Cond.code yX12_somewhere cX12_somewhere 1 ((some .int)) :: GW) := ⟨B.exec, B.bytes, B.returns, hml, findClass_of_methodNamed B.named, atoms_spec (ws := Cond.code yX12_somewhere cX12_somewhere 1 ((some .int)) :: GW) B.pre, B.notSynchronized⟩
  obtain ⟨hx, hb, hr, hml, hown, hts, hlk⟩ := id C
  have w := wd_of hw
  obtain ⟨ls, hen, hl⟩ : ∃ ls : Array Slot, entryFrame m ([.int x0] : List Value).toArray 1 = F0 m 0 ls [] ∧ lv_has ls 1 [(0, .int x0)] := by
    exact ⟨_, lg_entry_eq _ _ _, lv_entry _ (Nat.le_of_ble_eq_true rfl)⟩
  rw [hen]
  unfold f_M_somewhere at hE
  refine lv_iload_n hx hb dX12_somewhere_0 rfl (lv_at hl 0 rfl) ?_
  refine lv_i2l hx hb dX12_somewhere_1 rfl ?_
  refine lv_ldc2 hx hb hown (hts _ (List.mem_cons_of_mem _ gw_37_17)) dX12_somewhere_2 ?_
  refine lv_ldc2 hx hb hown (hts _ (List.mem_cons_of_mem _ gw_37_18)) dX12_somewhere_5 ?_
  refine w_SI GW_good (n := 3) (F := 0) (Lc := 0) (av := [.long x0.toInt64, .long (-99999999 : Int64), .long (99999999 : Int64)]) (rest := []) C w (fun r g hf => k_M_isIn l D cy z N h x0.toInt64 (-99999999 : Int64) (99999999 : Int64) r g hf) gw_25_1 gw_25_2 gw_1_5 gw_25_3 (by decide +kernel) ⟨Nat.le_of_ble_eq_true rfl, Nat.le_of_ble_eq_true rfl⟩ rfl hl.1 rfl (Nat.le_of_ble_eq_true rfl) dX12_somewhere_8 (sh_M_isIn N h x0.toInt64 (-99999999 : Int64) (99999999 : Int64)) ⟨by decide, by decide⟩ hE (fun v1 h2 H locs w hsh2 e1 => ?_)
  refine w_if_eq (tgt := 18) C dX12_somewhere_11 (by decide) e1 (fun hc e2 => ?_) (fun hc e2 => ?_)
  · refine lv_ldcw hx hb hown (hts _ (List.mem_cons_of_mem _ gw_37_19)) dX12_somewhere_18 ?_
    exact b_M_somewhere_21 C N     h2 (-10000000 : Int32) _ _ ls w  (lv_sub hl [] rfl) e2
  · refine lv_iload_n hx hb dX12_somewhere_14 rfl (lv_at hl 0 rfl) ?_
    refine lv_goto (tgt := 21) hx hb dX12_somewhere_15 (by decide) ?_
    exact b_M_somewhere_21 C N     h2 x0 _ _ ls w  (lv_sub hl [] rfl) e2
set_option maxRecDepth 20000 in
set_option maxHeartbeats 4000000 in
theorem k_M_last (l : Launch) (D : va_G) (cy : cyT) (z : Nat) (N : Nat) (h : hS) (a0 : Nat) (r : Int32) (g : hS) (hE : f_M_last N h a0 = some (r, g)) : ct l yX12_last (Cond.code yX12_last cX12_last 1 ((some .int)) :: GW) { frames := 1, cells := 0, slots := 0, locals := 22 } D cy z h [.ref a0] (rI r) g := by
  refine Met.ofW (cc := cX12_last) (maxL := 1) (ret := (some .int)) (by decide) rfl ?_
  intro p e s m args below meth c s₁ B hml hv
  obtain ⟨rfl, hw⟩ := hv
  have C : MX p s m ([.ref a0] : List Value).toArray meth c cX12_last 1 ((some .int)) RX12 (Cond.code yX12_last cX12_last 1 ((some .int)) :: GW) := ⟨B.exec, B.bytes, B.returns, hml, findClass_of_methodNamed B.named, atoms_spec (ws := Cond.code yX12_last cX12_last 1 ((some .int)) :: GW) B.pre, B.notSynchronized⟩
  obtain ⟨hx, hb, hr, hml, hown, hts, hlk⟩ := id C
  have w := wd_of hw
  obtain ⟨ls, hen, hl⟩ : ∃ ls : Array Slot, entryFrame m ([.ref a0] : List Value).toArray 1 = F0 m 0 ls [] ∧ lv_has ls 1 [(0, .ref a0)] := by
    exact ⟨_, lg_entry_eq _ _ _, lv_entry _ (Nat.le_of_ble_eq_true rfl)⟩
  rw [hen]
  unfold f_M_last at hE
  refine lv_aload_n hx hb dX12_last_0 rfl (lv_at hl 0 rfl) ?_
  refine lv_iconst (v := 0) hx hb dX12_last_1 (by decide) ?_
  refine w_aI (r := some a0) C w dX12_last_2 hE (fun v1 e1 => ?_)
  refine lv_aload_n hx hb dX12_last_3 rfl (lv_at hl 0 rfl) ?_
  refine w_SI GW_good (n := 1) (F := 0) (Lc := 0) (av := [.ref a0]) (rest := [.int v1]) C w (fun r g hf => k_M_weights l D cy z N h a0 r g hf) gw_31_3 gw_31_4 gw_1_5 gw_31_5 (by decide +kernel) ⟨Nat.le_of_ble_eq_true rfl, Nat.le_of_ble_eq_true rfl⟩ rfl hl.1 rfl (Nat.le_of_ble_eq_true rfl) dX12_last_4 (sh_M_weights N h a0) ⟨by decide, by decide⟩ e1 (fun v2 h3 H locs w hsh3 e2 => ?_)
  refine lv_iadd hx hb dX12_last_7 ?_
  exact w_iret C w e2 dX12_last_8
set_option maxRecDepth 20000 in
set_option maxHeartbeats 4000000 in
theorem b_M_isBound_20 {p : Program} {l : Launch} {e : Env} {s : State} {m : MethodId} {args : Array Value} {below : List Frame} {meth : Method} {c : Code} {D : va_G} {cy : cyT} {z : Nat} (C : MX p s m args meth c cX12_isBound 2 ((some .boolean)) RX12 (Cond.code yX12_isBound cX12_isBound 2 ((some .boolean)) :: GW)) (N : Nat) {r : Int32} {g : hS}  : ∀  (h : hS) (y0 : Int32) (H : Heap) (locs : List Loc) (ls : Array Slot), wd D cy z s 0 h H locs → lv_has ls 2 [] → f_M_isBound_20 N   h y0 = some (r, g) → W p l e { frames := 2, cells := 0, slots := 0, locals := 42 } s m args below meth c H locs 0 0 (MQ below (eQ D cy z (rI r) g) args s 0 0 (fun q => z ≤ q)) (F0 m 20 ls [.int y0]) := by
  obtain ⟨hx, hb, hr, hml, hown, hts, hlk⟩ := id C
  intro  h y0 H locs ls w  hl hE
  unfold f_M_isBound_20 at hE
  exact w_zret C w hE dX12_isBound_20
set_option maxRecDepth 20000 in
set_option maxHeartbeats 4000000 in
theorem b_M_isBound_19 {p : Program} {l : Launch} {e : Env} {s : State} {m : MethodId} {args : Array Value} {below : List Frame} {meth : Method} {c : Code} {D : va_G} {cy : cyT} {z : Nat} (C : MX p s m args meth c cX12_isBound 2 ((some .boolean)) RX12 (Cond.code yX12_isBound cX12_isBound 2 ((some .boolean)) :: GW)) (N : Nat) {r : Int32} {g : hS}  : ∀  (h : hS)  (H : Heap) (locs : List Loc) (ls : Array Slot), wd D cy z s 0 h H locs → lv_has ls 2 [] → f_M_isBound_19 N   h  = some (r, g) → W p l e { frames := 2, cells := 0, slots := 0, locals := 42 } s m args below meth c H locs 0 0 (MQ below (eQ D cy z (rI r) g) args s 0 0 (fun q => z ≤ q)) (F0 m 19 ls []) := by
  obtain ⟨hx, hb, hr, hml, hown, hts, hlk⟩ := id C
  intro  h  H locs ls w  hl hE
  unfold f_M_isBound_19 at hE
  refine lv_iconst (v := 0) hx hb dX12_isBound_19 (by decide) ?_
  exact b_M_isBound_20 C N     h (0 : Int32) _ _ ls w  (lv_sub hl [] rfl) hE
set_option maxRecDepth 20000 in
set_option maxHeartbeats 4000000 in
theorem k_M_isBound (l : Launch) (D : va_G) (cy : cyT) (z : Nat) (N : Nat) (h : hS) (a0 : Nat) (x1 : Int32) (r : Int32) (g : hS) (hE : f_M_isBound N h a0 x1 = some (r, g)) : ct l yX12_isBound (Cond.code yX12_isBound cX12_isBound 2 ((some .boolean)) :: GW) { frames := 2, cells := 0, slots := 0, locals := 42 } D cy z h [.ref a0, .int x1] (rI r) g := by
  refine Met.ofW (cc := cX12_isBound) (maxL := 2) (ret := (some .boolean)) (by decide) rfl ?_
  intro p e s m args below meth c s₁ B hml hv
  obtain ⟨rfl, hw⟩ := hv
  have C : MX p s m ([.ref a0, .int x1] : List Value).toArray meth c cX12_isBound 2 ((some .boolean)) RX12 (Cond.code yX12_isBound cX12_isBound 2 ((some .boolean)) :: GW) := ⟨B.exec, B.bytes, B.returns, hml, findClass_of_methodNamed B.named, atoms_spec (ws := Cond.code yX12_isBound cX12_isBound 2 ((some .boolean)) :: GW) B.pre, B.notSynchronized⟩
  obtain ⟨hx, hb, hr, hml, hown, hts, hlk⟩ := id C
  have w := wd_of hw
  obtain ⟨ls, hen, hl⟩ : ∃ ls : Array Slot, entryFrame m ([.ref a0, .int x1] : List Value).toArray 2 = F0 m 0 ls [] ∧ lv_has ls 2 [(0, .ref a0), (1, .int x1)] := by
    exact ⟨_, lg_entry_eq _ _ _, lv_entry _ (Nat.le_of_ble_eq_true rfl)⟩
  rw [hen]
  unfold f_M_isBound at hE
  refine lv_iload_n hx hb dX12_isBound_0 rfl (lv_at hl 1 rfl) ?_
  refine lv_aload_n hx hb dX12_isBound_1 rfl (lv_at hl 0 rfl) ?_
  refine lv_iconst (v := 0) hx hb dX12_isBound_2 (by decide) ?_
  refine w_aI (r := some a0) C w dX12_isBound_3 hE (fun v1 e1 => ?_)
  refine w_icmp_lt (tgt := 19) C dX12_isBound_4 (by decide) e1 (fun hc e2 => ?_) (fun hc e2 => ?_)
  · exact b_M_isBound_19 C N     h  _ _ ls w  (lv_sub hl [] rfl) e2
  · refine lv_iload_n hx hb dX12_isBound_7 rfl (lv_at hl 1 rfl) ?_
    refine lv_aload_n hx hb dX12_isBound_8 rfl (lv_at hl 0 rfl) ?_
    refine w_SI GW_good (n := 1) (F := 1) (Lc := 22) (av := [.ref a0]) (rest := [.int x1]) C w (fun r g hf => k_M_last l D cy z N h a0 r g hf) gw_44_17 gw_44_18 gw_1_5 gw_44_19 (by decide +kernel) ⟨Nat.le_of_ble_eq_true rfl, Nat.le_of_ble_eq_true rfl⟩ rfl hl.1 rfl (Nat.le_of_ble_eq_true rfl) dX12_isBound_9 (sh_M_last N h a0) ⟨by decide, by decide⟩ e2 (fun v2 h3 H locs w hsh3 e3 => ?_)
    refine w_icmp_gt (tgt := 19) C dX12_isBound_12 (by decide) e3 (fun hc e4 => ?_) (fun hc e4 => ?_)
    · exact b_M_isBound_19 C N     h3  _ _ ls w  (lv_sub hl [] rfl) e4
    · refine lv_iconst (v := 1) hx hb dX12_isBound_15 (by decide) ?_
      refine lv_goto (tgt := 20) hx hb dX12_isBound_16 (by decide) ?_
      exact b_M_isBound_20 C N     h3 (1 : Int32) _ _ ls w  (lv_sub hl [] rfl) e4
set_option maxRecDepth 20000 in
set_option maxHeartbeats 4000000 in
theorem k_M_standsAt (l : Launch) (D : va_G) (cy : cyT) (z : Nat) (N : Nat) (h : hS) (a0 : Nat) (x1 : Int32) (r : Int32) (g : hS) (hE : f_M_standsAt N h a0 x1 = some (r, g)) : ct l yX12_standsAt (Cond.code yX12_standsAt cX12_standsAt 2 ((some .int)) :: GW) { frames := 1, cells := 0, slots := 0, locals := 23 } D cy z h [.ref a0, .int x1] (rI r) g := by
  refine Met.ofW (cc := cX12_standsAt) (maxL := 2) (ret := (some .int)) (by decide) rfl ?_
  intro p e s m args below meth c s₁ B hml hv
  obtain ⟨rfl, hw⟩ := hv
  have C : MX p s m ([.ref a0, .int x1] : List Value).toArray meth c cX12_standsAt 2 ((some .int)) RX12 (Cond.code yX12_standsAt cX12_standsAt 2 ((some .int)) :: GW) := ⟨B.exec, B.bytes, B.returns, hml, findClass_of_methodNamed B.named, atoms_spec (ws := Cond.code yX12_standsAt cX12_standsAt 2 ((some .int)) :: GW) B.pre, B.notSynchronized⟩
  obtain ⟨hx, hb, hr, hml, hown, hts, hlk⟩ := id C
  have w := wd_of hw
  obtain ⟨ls, hen, hl⟩ : ∃ ls : Array Slot, entryFrame m ([.ref a0, .int x1] : List Value).toArray 2 = F0 m 0 ls [] ∧ lv_has ls 2 [(0, .ref a0), (1, .int x1)] := by
    exact ⟨_, lg_entry_eq _ _ _, lv_entry _ (Nat.le_of_ble_eq_true rfl)⟩
  rw [hen]
  unfold f_M_standsAt at hE
  refine lv_aload_n hx hb dX12_standsAt_0 rfl (lv_at hl 0 rfl) ?_
  refine lv_iload_n hx hb dX12_standsAt_1 rfl (lv_at hl 1 rfl) ?_
  refine w_SI GW_good (n := 2) (F := 0) (Lc := 0) (av := [.ref a0, .int x1]) (rest := []) C w (fun r g hf => k_M_turnsTo l D cy z N h a0 x1 r g hf) gw_29_0 gw_29_1 gw_1_5 gw_29_2 (by decide +kernel) ⟨Nat.le_of_ble_eq_true rfl, Nat.le_of_ble_eq_true rfl⟩ rfl hl.1 rfl (Nat.le_of_ble_eq_true rfl) dX12_standsAt_2 (sh_M_turnsTo N h a0 x1) ⟨by decide, by decide⟩ hE (fun v1 h2 H locs w hsh2 e1 => ?_)
  refine lv_aload_n hx hb dX12_standsAt_5 rfl (lv_at hl 0 rfl) ?_
  refine lv_iload_n hx hb dX12_standsAt_6 rfl (lv_at hl 1 rfl) ?_
  refine lv_iconst (v := 1) hx hb dX12_standsAt_7 (by decide) ?_
  refine lv_iadd hx hb dX12_standsAt_8 ?_
  refine w_SI GW_good (n := 2) (F := 0) (Lc := 0) (av := [.ref a0, .int (x1 + (1 : Int32))]) (rest := [.int v1]) C w (fun r g hf => k_M_turnsTo l D cy z N h2 a0 (x1 + (1 : Int32)) r g hf) gw_29_0 gw_29_1 gw_1_5 gw_29_2 (by decide +kernel) ⟨Nat.le_of_ble_eq_true rfl, Nat.le_of_ble_eq_true rfl⟩ rfl hl.1 rfl (Nat.le_of_ble_eq_true rfl) dX12_standsAt_9 (sh_M_turnsTo N h2 a0 (x1 + (1 : Int32))) ⟨by decide, by decide⟩ e1 (fun v3 h4 H locs w hsh4 e2 => ?_)
  refine lv_iconst (v := 0) hx hb dX12_standsAt_12 (by decide) ?_
  refine w_SI GW_good (n := 3) (F := 0) (Lc := 0) (av := [.int v1, .int v3, .int (0 : Int32)]) (rest := []) C w (fun r g hf => k_M_nearest l D cy z N h4 v1 v3 (0 : Int32) r g hf) gw_30_20 gw_30_21 gw_1_5 gw_30_22 (by decide +kernel) ⟨Nat.le_of_ble_eq_true rfl, Nat.le_of_ble_eq_true rfl⟩ rfl hl.1 rfl (Nat.le_of_ble_eq_true rfl) dX12_standsAt_13 (sh_M_nearest N h4 v1 v3 (0 : Int32)) ⟨by decide, by decide⟩ e2 (fun v5 h6 H locs w hsh6 e3 => ?_)
  exact w_iret C w e3 dX12_standsAt_16
set_option maxRecDepth 20000 in
set_option maxHeartbeats 4000000 in
theorem k_M_againstOf (l : Launch) (D : va_G) (cy : cyT) (z : Nat) (N : Nat) (h : hS) (a0 : Nat) (x1 : Int32) (r : Int64) (g : hS) (hE : f_M_againstOf N h a0 x1 = some (r, g)) : ct l yX12_againstOf (Cond.code yX12_againstOf cX12_againstOf 3 ((some .long)) :: GW) { frames := 2, cells := 0, slots := 0, locals := 71 } D cy z h [.ref a0, .int x1] (rJ r) g := by
  refine Met.ofW (cc := cX12_againstOf) (maxL := 3) (ret := (some .long)) (by decide) rfl ?_
  intro p e s m args below meth c s₁ B hml hv
  obtain ⟨rfl, hw⟩ := hv
  have C : MX p s m ([.ref a0, .int x1] : List Value).toArray meth c cX12_againstOf 3 ((some .long)) RX12 (Cond.code yX12_againstOf cX12_againstOf 3 ((some .long)) :: GW) := ⟨B.exec, B.bytes, B.returns, hml, findClass_of_methodNamed B.named, atoms_spec (ws := Cond.code yX12_againstOf cX12_againstOf 3 ((some .long)) :: GW) B.pre, B.notSynchronized⟩
  obtain ⟨hx, hb, hr, hml, hown, hts, hlk⟩ := id C
  have w := wd_of hw
  obtain ⟨ls, hen, hl⟩ : ∃ ls : Array Slot, entryFrame m ([.ref a0, .int x1] : List Value).toArray 3 = F0 m 0 ls [] ∧ lv_has ls 3 [(0, .ref a0), (1, .int x1)] := by
    exact ⟨_, lg_entry_eq _ _ _, lv_entry _ (Nat.le_of_ble_eq_true rfl)⟩
  rw [hen]
  unfold f_M_againstOf at hE
  refine lv_aload_n hx hb dX12_againstOf_0 rfl (lv_at hl 0 rfl) ?_
  refine lv_iload_n hx hb dX12_againstOf_1 rfl (lv_at hl 1 rfl) ?_
  refine w_SI GW_good (n := 2) (F := 1) (Lc := 23) (av := [.ref a0, .int x1]) (rest := []) C w (fun r g hf => k_M_standsAt l D cy z N h a0 x1 r g hf) gw_49_6 gw_49_7 gw_1_5 gw_49_8 (by decide +kernel) ⟨Nat.le_of_ble_eq_true rfl, Nat.le_of_ble_eq_true rfl⟩ rfl hl.1 rfl (Nat.le_of_ble_eq_true rfl) dX12_againstOf_2 (sh_M_standsAt N h a0 x1) ⟨by decide, by decide⟩ hE (fun v1 h2 H locs w hsh2 e1 => ?_)
  refine lv_istore_n (lv' := [(2, .int v1), (0, .ref a0), (1, .int x1)]) hx hb dX12_againstOf_5 rfl hl (by decide) rfl (fun ls hl => ?_)
  refine lv_iload_n hx hb dX12_againstOf_6 rfl (lv_at hl 2 rfl) ?_
  refine lv_i2l hx hb dX12_againstOf_7 rfl ?_
  refine lv_iload_n hx hb dX12_againstOf_8 rfl (lv_at hl 0 rfl) ?_
  refine lv_i2l hx hb dX12_againstOf_9 rfl ?_
  refine lv_lmul hx hb dX12_againstOf_10 ?_
  refine lv_aload_n hx hb dX12_againstOf_11 rfl (lv_at hl 1 rfl) ?_
  refine lv_iload_n hx hb dX12_againstOf_12 rfl (lv_at hl 0 rfl) ?_
  refine w_SJ GW_good (n := 2) (F := 1) (Lc := 44) (av := [.ref a0, .int v1]) (rest := [.long (x1.toInt64 * v1.toInt64)]) C w (fun r g hf => k_M_valueAt l D cy z N h2 a0 v1 r g hf) gw_30_7 gw_30_8 gw_1_5 gw_30_9 (by decide +kernel) ⟨Nat.le_of_ble_eq_true rfl, Nat.le_of_ble_eq_true rfl⟩ rfl hl.1 rfl (Nat.le_of_ble_eq_true rfl) dX12_againstOf_13 (sh_M_valueAt N h2 a0 v1) ⟨by decide, by decide⟩ e1 (fun v3 h4 H locs w hsh4 e2 => ?_)
  refine lv_lsub hx hb dX12_againstOf_16 ?_
  exact w_lret C w e2 dX12_againstOf_17
set_option maxRecDepth 20000 in
set_option maxHeartbeats 4000000 in
theorem b_M_addStands_140 {p : Program} {l : Launch} {e : Env} {s : State} {m : MethodId} {args : Array Value} {below : List Frame} {meth : Method} {c : Code} {D : va_G} {cy : cyT} {z : Nat} (C : MX p s m args meth c cX12_addStands 8 (none) RX12 (Cond.code yX12_addStands cX12_addStands 8 (none) :: GW)) (N : Nat) {r : Unit} {g : hS}  : ∀ (n : Nat) (h : hS) (th : Nat) (x2 : Int32) (x5 : Int32) (H : Heap) (locs : List Loc) (ls : Array Slot), wd D cy z s 0 h H locs → lv_has ls 8 [(0, .ref th), (2, .int x2), (5, .int x5)] → f_M_addStands_140 N  n h th x2 x5 = some (r, g) → W p l e { frames := 2, cells := 0, slots := 0, locals := 44 } s m args below meth c H locs 0 0 (MQ below (eQ D cy z (rV r) g) args s 0 0 (fun q => z ≤ q)) (F0 m 140 ls []) := by
  obtain ⟨hx, hb, hr, hml, hown, hts, hlk⟩ := id C
  intro n
  induction n with
  | zero =>
    intro  h th x2 x5 H locs ls w  hl hE
    cases hE
  | succ n ih =>
    intro  h th x2 x5 H locs ls w  hl hE
    unfold f_M_addStands_140 at hE
    refine lv_iload hx hb dX12_addStands_140 (lv_at hl 2 rfl) ?_
    refine lv_iload_n hx hb dX12_addStands_142 rfl (lv_at hl 1 rfl) ?_
    refine w_icmp_gt (tgt := 177) C dX12_addStands_143 (by decide) hE (fun hc e1 => ?_) (fun hc e1 => ?_)
    · exact w_vret C w e1 dX12_addStands_177
    · refine lv_aload_n hx hb dX12_addStands_146 rfl (lv_at hl 0 rfl) ?_
      refine w_gR (r := some th) (ci := 0) (k := 31) C w rfl (by decide) (GF_wsX120 _) (by decide) rfl (List.mem_cons_of_mem _ gw_7_16) rfl dX12_addStands_147 e1 (fun v1 e2 => ?_)
      refine lv_sipush (v := 5000) hx hb dX12_addStands_150 (by decide) ?_
      refine lv_iload hx hb dX12_addStands_153 (lv_at hl 2 rfl) ?_
      refine lv_iadd hx hb dX12_addStands_155 ?_
      refine lv_dup2_11 hx hb dX12_addStands_156 rfl (va_rf_cat _) ?_
      refine w_aJ (r := v1) C w dX12_addStands_157 e2 (fun v2 e3 => ?_)
      refine lv_aload_n hx hb dX12_addStands_158 rfl (lv_at hl 0 rfl) ?_
      refine w_gR (r := some th) (ci := 0) (k := 34) C w rfl (by decide) (GF_wsX120 _) (by decide) rfl (List.mem_cons_of_mem _ gw_7_17) rfl dX12_addStands_159 e3 (fun v3 e4 => ?_)
      refine lv_sipush (v := 5000) hx hb dX12_addStands_162 (by decide) ?_
      refine lv_iload hx hb dX12_addStands_165 (lv_at hl 2 rfl) ?_
      refine lv_iadd hx hb dX12_addStands_167 ?_
      refine w_aJ (r := v3) C w dX12_addStands_168 e4 (fun v4 e5 => ?_)
      refine lv_ladd hx hb dX12_addStands_169 ?_
      refine w_uJ (r := v1) C w dX12_addStands_170 e5 (fun h5 H locs w hsh5 e6 => ?_)
      obtain ⟨v6, ev6, e7⟩ := bn_some e6
      refine lv_iinc (v := v6) (lv' := [(5, .int v6), (0, .ref th), (2, .int x2)]) hx hb dX12_addStands_171 hl (k := 2) rfl (by rw [ev6]; rfl) (by decide) rfl (fun ls hl => ?_)
      refine lv_goto (tgt := 140) hx hb dX12_addStands_174 (by decide) ?_
      exact ih  h5 th x2 v6 _ _ ls w  (lv_sub hl [1, 2, 0] rfl) e7
set_option maxRecDepth 20000 in
set_option maxHeartbeats 4000000 in
theorem b_M_addStands_80 {p : Program} {l : Launch} {e : Env} {s : State} {m : MethodId} {args : Array Value} {below : List Frame} {meth : Method} {c : Code} {D : va_G} {cy : cyT} {z : Nat} (C : MX p s m args meth c cX12_addStands 8 (none) RX12 (Cond.code yX12_addStands cX12_addStands 8 (none) :: GW)) (N : Nat) {r : Unit} {g : hS} {rc59 : hS → Nat → Nat → Int32 → Int64 → Int32 → Option (Unit × hS)}  (hrc59 : ∀ (h : hS) (th : Nat) (a1 : Nat) (x2 : Int32) (x3 : Int64) (x5 : Int32) (H : Heap) (locs : List Loc) (ls : Array Slot), wd D cy z s 0 h H locs → lv_has ls 8 [(0, .ref th), (1, .ref a1), (2, .int x2), (3, .long x3), (5, .int x5)] → rc59 h th a1 x2 x3 x5 = some (r, g) → W p l e { frames := 2, cells := 0, slots := 0, locals := 44 } s m args below meth c H locs 0 0 (MQ below (eQ D cy z (rV r) g) args s 0 0 (fun q => z ≤ q)) (F0 m 59 ls [])) : ∀ (n : Nat) (h : hS) (th : Nat) (a1 : Nat) (x2 : Int32) (x3 : Int64) (x5 : Int32) (x6 : Int32) (x7 : Int32) (H : Heap) (locs : List Loc) (ls : Array Slot), wd D cy z s 0 h H locs → lv_has ls 8 [(0, .ref th), (1, .ref a1), (2, .int x2), (3, .long x3), (5, .int x5), (6, .int x6), (7, .int x7)] → f_M_addStands_80 N rc59 n h th a1 x2 x3 x5 x6 x7 = some (r, g) → W p l e { frames := 2, cells := 0, slots := 0, locals := 44 } s m args below meth c H locs 0 0 (MQ below (eQ D cy z (rV r) g) args s 0 0 (fun q => z ≤ q)) (F0 m 80 ls []) := by
  obtain ⟨hx, hb, hr, hml, hown, hts, hlk⟩ := id C
  intro n
  induction n with
  | zero =>
    intro  h th a1 x2 x3 x5 x6 x7 H locs ls w  hl hE
    cases hE
  | succ n ih =>
    intro  h th a1 x2 x3 x5 x6 x7 H locs ls w  hl hE
    unfold f_M_addStands_80 at hE
    refine lv_iload hx hb dX12_addStands_80 (lv_at hl 6 rfl) ?_
    refine lv_iload_n hx hb dX12_addStands_82 rfl (lv_at hl 2 rfl) ?_
    refine lv_iload hx hb dX12_addStands_83 (lv_at hl 5 rfl) ?_
    refine lv_iadd hx hb dX12_addStands_85 ?_
    refine w_icmp_gt (tgt := 119) C dX12_addStands_86 (by decide) hE (fun hc e1 => ?_) (fun hc e1 => ?_)
    · refine lv_iload_n hx hb dX12_addStands_119 rfl (lv_at hl 2 rfl) ?_
      refine lv_iload hx hb dX12_addStands_120 (lv_at hl 5 rfl) ?_
      refine lv_iadd hx hb dX12_addStands_122 ?_
      refine w_bnI e1 (fun v1 e2 => ?_)
      refine lv_istore_n (lv' := [(2, .int v1), (0, .ref th), (1, .ref a1), (3, .long x3), (5, .int x5), (6, .int x6), (7, .int x7)]) hx hb dX12_addStands_123 rfl hl (by decide) rfl (fun ls hl => ?_)
      refine lv_lload_n hx hb dX12_addStands_124 rfl (lv_at hl 3 rfl) ?_
      refine lv_iload_n hx hb dX12_addStands_125 rfl (lv_at hl 0 rfl) ?_
      refine lv_i2l hx hb dX12_addStands_126 rfl ?_
      refine lv_ladd hx hb dX12_addStands_127 ?_
      refine w_bnJ e2 (fun v2 e3 => ?_)
      refine lv_lstore_n (lv' := [(3, .long v2), (2, .int v1), (0, .ref th), (1, .ref a1), (5, .int x5), (6, .int x6), (7, .int x7)]) hx hb dX12_addStands_128 rfl hl (by decide) rfl (fun ls hl => ?_)
      obtain ⟨v3, ev3, e4⟩ := bn_some e3
      refine lv_iinc (v := v3) (lv' := [(5, .int v3), (3, .long v2), (2, .int v1), (0, .ref th), (1, .ref a1), (6, .int x6), (7, .int x7)]) hx hb dX12_addStands_129 hl (k := 4) rfl (by rw [ev3]; rfl) (by decide) rfl (fun ls hl => ?_)
      refine lv_goto (tgt := 59) hx hb dX12_addStands_132 (by decide) ?_
      exact hrc59  h th a1 v1 v2 v3 _ _ ls w  (lv_sub hl [3, 4, 2, 1, 0] rfl) e4
    · refine lv_aload_n hx hb dX12_addStands_89 rfl (lv_at hl 0 rfl) ?_
      refine w_gR (r := some th) (ci := 0) (k := 34) C w rfl (by decide) (GF_wsX120 _) (by decide) rfl (List.mem_cons_of_mem _ gw_7_17) rfl dX12_addStands_90 e1 (fun v4 e5 => ?_)
      refine lv_sipush (v := 5000) hx hb dX12_addStands_93 (by decide) ?_
      refine lv_iload hx hb dX12_addStands_96 (lv_at hl 6 rfl) ?_
      refine lv_iadd hx hb dX12_addStands_98 ?_
      refine lv_iload hx hb dX12_addStands_99 (lv_at hl 6 rfl) ?_
      refine lv_i2l hx hb dX12_addStands_101 rfl ?_
      refine lv_iload hx hb dX12_addStands_102 (lv_at hl 4 rfl) ?_
      refine lv_sipush (v := 5000) hx hb dX12_addStands_104 (by decide) ?_
      refine lv_isub hx hb dX12_addStands_107 ?_
      refine lv_i2l hx hb dX12_addStands_108 rfl ?_
      refine lv_lmul hx hb dX12_addStands_109 ?_
      refine lv_lload_n hx hb dX12_addStands_110 rfl (lv_at hl 3 rfl) ?_
      refine lv_lsub hx hb dX12_addStands_111 ?_
      refine w_uJ (r := v4) C w dX12_addStands_112 e5 (fun h5 H locs w hsh5 e6 => ?_)
      obtain ⟨v6, ev6, e7⟩ := bn_some e6
      refine lv_iinc (v := v6) (lv' := [(7, .int v6), (0, .ref th), (1, .ref a1), (2, .int x2), (3, .long x3), (5, .int x5), (6, .int x6)]) hx hb dX12_addStands_113 hl (k := 6) rfl (by rw [ev6]; rfl) (by decide) rfl (fun ls hl => ?_)
      refine lv_goto (tgt := 80) hx hb dX12_addStands_116 (by decide) ?_
      exact ih  h5 th a1 x2 x3 x5 x6 v6 _ _ ls w  (lv_sub hl [1, 2, 3, 4, 5, 6, 0] rfl) e7
set_option maxRecDepth 20000 in
set_option maxHeartbeats 4000000 in
theorem b_M_addStands_59 {p : Program} {l : Launch} {e : Env} {s : State} {m : MethodId} {args : Array Value} {below : List Frame} {meth : Method} {c : Code} {D : va_G} {cy : cyT} {z : Nat} (C : MX p s m args meth c cX12_addStands 8 (none) RX12 (Cond.code yX12_addStands cX12_addStands 8 (none) :: GW)) (N : Nat) {r : Unit} {g : hS}  : ∀ (n : Nat) (h : hS) (th : Nat) (a1 : Nat) (x2 : Int32) (x3 : Int64) (x5 : Int32) (H : Heap) (locs : List Loc) (ls : Array Slot), wd D cy z s 0 h H locs → lv_has ls 8 [(0, .ref th), (1, .ref a1), (2, .int x2), (3, .long x3), (5, .int x5)] → f_M_addStands_59 N  n h th a1 x2 x3 x5 = some (r, g) → W p l e { frames := 2, cells := 0, slots := 0, locals := 44 } s m args below meth c H locs 0 0 (MQ below (eQ D cy z (rV r) g) args s 0 0 (fun q => z ≤ q)) (F0 m 59 ls []) := by
  obtain ⟨hx, hb, hr, hml, hown, hts, hlk⟩ := id C
  intro n
  induction n with
  | zero =>
    intro  h th a1 x2 x3 x5 H locs ls w  hl hE
    cases hE
  | succ n ih =>
    intro  h th a1 x2 x3 x5 H locs ls w  hl hE
    unfold f_M_addStands_59 at hE
    refine lv_iload hx hb dX12_addStands_59 (lv_at hl 4 rfl) ?_
    refine lv_sipush (v := 10001) hx hb dX12_addStands_61 (by decide) ?_
    refine w_icmp_ge (tgt := 135) C dX12_addStands_64 (by decide) hE (fun hc e1 => ?_) (fun hc e1 => ?_)
    · refine lv_aload_n hx hb dX12_addStands_135 rfl (lv_at hl 1 rfl) ?_
      refine lv_iconst (v := 0) hx hb dX12_addStands_136 (by decide) ?_
      refine w_aI (r := some a1) C w dX12_addStands_137 e1 (fun v1 e2 => ?_)
      refine lv_istore (lv' := [(5, .int v1), (0, .ref th), (1, .ref a1), (2, .int x2), (3, .long x3)]) hx hb dX12_addStands_138 hl (by decide) rfl (fun ls hl => ?_)
      exact b_M_addStands_140 C N   N  h th x2 v1 _ _ ls w  (lv_sub hl [1, 3, 0] rfl) e2
    · refine lv_aload_n hx hb dX12_addStands_67 rfl (lv_at hl 1 rfl) ?_
      refine lv_iconst (v := 2) hx hb dX12_addStands_68 (by decide) ?_
      refine lv_iload hx hb dX12_addStands_69 (lv_at hl 4 rfl) ?_
      refine lv_iadd hx hb dX12_addStands_71 ?_
      refine w_aI (r := some a1) C w dX12_addStands_72 e1 (fun v2 e3 => ?_)
      refine lv_istore (lv' := [(6, .int v2), (0, .ref th), (1, .ref a1), (2, .int x2), (3, .long x3), (5, .int x5)]) hx hb dX12_addStands_73 hl (by decide) rfl (fun ls hl => ?_)
      refine lv_iload_n hx hb dX12_addStands_75 rfl (lv_at hl 3 rfl) ?_
      refine lv_iconst (v := 1) hx hb dX12_addStands_76 (by decide) ?_
      refine lv_iadd hx hb dX12_addStands_77 ?_
      refine w_bnI e3 (fun v3 e4 => ?_)
      refine lv_istore (lv' := [(7, .int v3), (6, .int v2), (0, .ref th), (1, .ref a1), (2, .int x2), (3, .long x3), (5, .int x5)]) hx hb dX12_addStands_78 hl (by decide) rfl (fun ls hl => ?_)
      exact b_M_addStands_80 C N  ih N  h th a1 x2 x3 x5 v2 v3 _ _ ls w  (lv_sub hl [2, 3, 4, 5, 6, 1, 0] rfl) e4
set_option maxRecDepth 20000 in
set_option maxHeartbeats 4000000 in
theorem k_M_addStands (l : Launch) (D : va_G) (cy : cyT) (z : Nat) (N : Nat) (h : hS) (th : Nat) (a1 : Nat) (r : Unit) (g : hS) (hE : f_M_addStands N h th a1 = some (r, g)) : ct l yX12_addStands (Cond.code yX12_addStands cX12_addStands 8 (none) :: GW) { frames := 2, cells := 0, slots := 0, locals := 44 } D cy z h [.ref th, .ref a1] (rV r) g := by
  refine Met.ofW (cc := cX12_addStands) (maxL := 8) (ret := none) (by decide) rfl ?_
  intro p e s m args below meth c s₁ B hml hv
  obtain ⟨rfl, hw⟩ := hv
  have C : MX p s m ([.ref th, .ref a1] : List Value).toArray meth c cX12_addStands 8 (none) RX12 (Cond.code yX12_addStands cX12_addStands 8 (none) :: GW) := ⟨B.exec, B.bytes, B.returns, hml, findClass_of_methodNamed B.named, atoms_spec (ws := Cond.code yX12_addStands cX12_addStands 8 (none) :: GW) B.pre, B.notSynchronized⟩
  obtain ⟨hx, hb, hr, hml, hown, hts, hlk⟩ := id C
  have w := wd_of hw
  obtain ⟨ls, hen, hl⟩ : ∃ ls : Array Slot, entryFrame m ([.ref th, .ref a1] : List Value).toArray 8 = F0 m 0 ls [] ∧ lv_has ls 8 [(0, .ref th), (1, .ref a1)] := by
    exact ⟨_, lg_entry_eq _ _ _, lv_entry _ (Nat.le_of_ble_eq_true rfl)⟩
  rw [hen]
  unfold f_M_addStands at hE
  refine lv_aload_n hx hb dX12_addStands_0 rfl (lv_at hl 0 rfl) ?_
  refine lv_aload_n hx hb dX12_addStands_1 rfl (lv_at hl 0 rfl) ?_
  refine w_gI (r := some th) (ci := 0) (k := 32) C w rfl (by decide) (GF_wsX120 _) (by decide) rfl (List.mem_cons_of_mem _ gw_44_11) rfl dX12_addStands_2 hE (fun v1 e1 => ?_)
  refine lv_aload_n hx hb dX12_addStands_5 rfl (lv_at hl 1 rfl) ?_
  refine lv_iconst (v := 0) hx hb dX12_addStands_6 (by decide) ?_
  refine w_aI (r := some a1) C w dX12_addStands_7 e1 (fun v2 e2 => ?_)
  refine w_mmax C hl.1 (List.mem_cons_of_mem _ gw_30_14) (List.mem_cons_of_mem _ gw_30_15) (List.mem_cons_of_mem _ gw_10_7) (List.mem_cons_of_mem _ gw_30_16) (Nat.le_of_ble_eq_true rfl) (Nat.le_of_ble_eq_true rfl) (by decide) (by decide) dX12_addStands_8 ?_
  refine w_pI (r := some th) (ci := 0) (k := 32) C w rfl (by decide) (by unfold roK; omega) (GF_wsX120 _) tyX12 tyX12_ok nmX12 (by decide) rfl (List.mem_cons_of_mem _ gw_44_11) rfl rfl (tyX12_ok 32 (by decide)) dX12_addStands_11 e2 (fun h3 H locs w hsh3 e3 => ?_)
  refine lv_aload_n hx hb dX12_addStands_14 rfl (lv_at hl 0 rfl) ?_
  refine lv_aload_n hx hb dX12_addStands_15 rfl (lv_at hl 0 rfl) ?_
  refine w_gI (r := some th) (ci := 0) (k := 33) C w rfl (by decide) (GF_wsX120 _) (by decide) rfl (List.mem_cons_of_mem _ gw_44_12) rfl dX12_addStands_16 e3 (fun v4 e4 => ?_)
  refine lv_aload_n hx hb dX12_addStands_19 rfl (lv_at hl 1 rfl) ?_
  refine w_SI GW_good (n := 1) (F := 1) (Lc := 22) (av := [.ref a1]) (rest := [.int v4, .ref th]) C w (fun r g hf => k_M_last l D cy z N h3 a1 r g hf) gw_44_17 gw_44_18 gw_1_5 gw_44_19 (by decide +kernel) ⟨Nat.le_of_ble_eq_true rfl, Nat.le_of_ble_eq_true rfl⟩ rfl hl.1 rfl (Nat.le_of_ble_eq_true rfl) dX12_addStands_20 (sh_M_last N h3 a1) ⟨by decide, by decide⟩ e4 (fun v5 h6 H locs w hsh6 e5 => ?_)
  refine w_mmin C hl.1 (List.mem_cons_of_mem _ gw_25_15) (List.mem_cons_of_mem _ gw_10_6) (List.mem_cons_of_mem _ gw_10_7) (List.mem_cons_of_mem _ gw_10_8) (Nat.le_of_ble_eq_true rfl) (Nat.le_of_ble_eq_true rfl) (by decide) (by decide) dX12_addStands_23 ?_
  refine w_pI (r := some th) (ci := 0) (k := 33) C w rfl (by decide) (by unfold roK; omega) (GF_wsX120 _) tyX12 tyX12_ok nmX12 (by decide) rfl (List.mem_cons_of_mem _ gw_44_12) rfl rfl (tyX12_ok 33 (by decide)) dX12_addStands_26 e5 (fun h7 H locs w hsh7 e6 => ?_)
  refine lv_aload_n hx hb dX12_addStands_29 rfl (lv_at hl 1 rfl) ?_
  refine lv_iconst (v := 0) hx hb dX12_addStands_30 (by decide) ?_
  refine w_aI (r := some a1) C w dX12_addStands_31 e6 (fun v8 e7 => ?_)
  refine lv_istore_n (lv' := [(2, .int v8), (0, .ref th), (1, .ref a1)]) hx hb dX12_addStands_32 rfl hl (by decide) rfl (fun ls hl => ?_)
  refine lv_aload_n hx hb dX12_addStands_33 rfl (lv_at hl 2 rfl) ?_
  refine lv_iconst (v := 1) hx hb dX12_addStands_34 (by decide) ?_
  refine w_aI (r := some a1) C w dX12_addStands_35 e7 (fun v9 e8 => ?_)
  refine lv_i2l hx hb dX12_addStands_36 rfl ?_
  refine w_bnJ e8 (fun v10 e9 => ?_)
  refine lv_lstore_n (lv' := [(3, .long v10), (2, .int v8), (0, .ref th), (1, .ref a1)]) hx hb dX12_addStands_37 rfl hl (by decide) rfl (fun ls hl => ?_)
  refine lv_aload_n hx hb dX12_addStands_38 rfl (lv_at hl 2 rfl) ?_
  refine w_gR (r := some th) (ci := 0) (k := 34) C w rfl (by decide) (GF_wsX120 _) (by decide) rfl (List.mem_cons_of_mem _ gw_7_17) rfl dX12_addStands_39 e9 (fun v11 e10 => ?_)
  refine lv_sipush (v := 5000) hx hb dX12_addStands_42 (by decide) ?_
  refine lv_iload_n hx hb dX12_addStands_45 rfl (lv_at hl 1 rfl) ?_
  refine lv_iadd hx hb dX12_addStands_46 ?_
  refine lv_iload_n hx hb dX12_addStands_47 rfl (lv_at hl 1 rfl) ?_
  refine lv_i2l hx hb dX12_addStands_48 rfl ?_
  refine lv_ldc2 hx hb hown (hts _ (List.mem_cons_of_mem _ gw_29_22)) dX12_addStands_49 ?_
  refine lv_lmul hx hb dX12_addStands_52 ?_
  refine lv_lload_n hx hb dX12_addStands_53 rfl (lv_at hl 0 rfl) ?_
  refine lv_lsub hx hb dX12_addStands_54 ?_
  refine w_uJ (r := v11) C w dX12_addStands_55 e10 (fun h12 H locs w hsh12 e11 => ?_)
  refine lv_iconst (v := 0) hx hb dX12_addStands_56 (by decide) ?_
  refine lv_istore (lv' := [(5, .int (0 : Int32)), (3, .long v10), (2, .int v8), (0, .ref th), (1, .ref a1)]) hx hb dX12_addStands_57 hl (by decide) rfl (fun ls hl => ?_)
  exact b_M_addStands_59 C N   N  h12 th a1 v8 v10 (0 : Int32) _ _ ls w  (lv_sub hl [3, 4, 2, 1, 0] rfl) e11
set_option maxRecDepth 20000 in
set_option maxHeartbeats 4000000 in
theorem b_M_clearStands_16 {p : Program} {l : Launch} {e : Env} {s : State} {m : MethodId} {args : Array Value} {below : List Frame} {meth : Method} {c : Code} {D : va_G} {cy : cyT} {z : Nat} (C : MX p s m args meth c cX12_clearStands 2 (none) RX12 (Cond.code yX12_clearStands cX12_clearStands 2 (none) :: GW)) (N : Nat) {r : Unit} {g : hS}  : ∀ (n : Nat) (h : hS) (th : Nat) (x1 : Int32) (H : Heap) (locs : List Loc) (ls : Array Slot), wd D cy z s 0 h H locs → lv_has ls 2 [(0, .ref th), (1, .int x1)] → f_M_clearStands_16 N  n h th x1 = some (r, g) → W p l e { frames := 0, cells := 0, slots := 0, locals := 0 } s m args below meth c H locs 0 0 (MQ below (eQ D cy z (rV r) g) args s 0 0 (fun q => z ≤ q)) (F0 m 16 ls []) := by
  obtain ⟨hx, hb, hr, hml, hown, hts, hlk⟩ := id C
  intro n
  induction n with
  | zero =>
    intro  h th x1 H locs ls w  hl hE
    cases hE
  | succ n ih =>
    intro  h th x1 H locs ls w  hl hE
    unfold f_M_clearStands_16 at hE
    refine lv_iload_n hx hb dX12_clearStands_16 rfl (lv_at hl 1 rfl) ?_
    refine lv_aload_n hx hb dX12_clearStands_17 rfl (lv_at hl 0 rfl) ?_
    refine w_gR (r := some th) (ci := 0) (k := 31) C w rfl (by decide) (GF_wsX120 _) (by decide) rfl (List.mem_cons_of_mem _ gw_7_16) rfl dX12_clearStands_18 hE (fun v1 e1 => ?_)
    refine w_lenJ (r := v1) C w dX12_clearStands_21 e1 (fun v2 e2 => ?_)
    refine w_icmp_ge (tgt := 38) C dX12_clearStands_22 (by decide) e2 (fun hc e3 => ?_) (fun hc e3 => ?_)
    · exact w_vret C w e3 dX12_clearStands_38
    · refine lv_aload_n hx hb dX12_clearStands_25 rfl (lv_at hl 0 rfl) ?_
      refine w_gR (r := some th) (ci := 0) (k := 31) C w rfl (by decide) (GF_wsX120 _) (by decide) rfl (List.mem_cons_of_mem _ gw_7_16) rfl dX12_clearStands_26 e3 (fun v3 e4 => ?_)
      refine lv_iload_n hx hb dX12_clearStands_29 rfl (lv_at hl 1 rfl) ?_
      refine lv_lconst (v := 0) hx hb dX12_clearStands_30 (by decide) ?_
      refine w_uJ (r := v3) C w dX12_clearStands_31 e4 (fun h4 H locs w hsh4 e5 => ?_)
      obtain ⟨v5, ev5, e6⟩ := bn_some e5
      refine lv_iinc (v := v5) (lv' := [(1, .int v5), (0, .ref th)]) hx hb dX12_clearStands_32 hl (k := 1) rfl (by rw [ev5]; rfl) (by decide) rfl (fun ls hl => ?_)
      refine lv_goto (tgt := 16) hx hb dX12_clearStands_35 (by decide) ?_
      exact ih  h4 th v5 _ _ ls w  (lv_sub hl [1, 0] rfl) e6
set_option maxRecDepth 20000 in
set_option maxHeartbeats 4000000 in
theorem k_M_clearStands (l : Launch) (D : va_G) (cy : cyT) (z : Nat) (N : Nat) (h : hS) (th : Nat) (r : Unit) (g : hS) (hE : f_M_clearStands N h th = some (r, g)) : ct l yX12_clearStands (Cond.code yX12_clearStands cX12_clearStands 2 (none) :: GW) { frames := 0, cells := 0, slots := 0, locals := 0 } D cy z h [.ref th] (rV r) g := by
  refine Met.ofW (cc := cX12_clearStands) (maxL := 2) (ret := none) (by decide) rfl ?_
  intro p e s m args below meth c s₁ B hml hv
  obtain ⟨rfl, hw⟩ := hv
  have C : MX p s m ([.ref th] : List Value).toArray meth c cX12_clearStands 2 (none) RX12 (Cond.code yX12_clearStands cX12_clearStands 2 (none) :: GW) := ⟨B.exec, B.bytes, B.returns, hml, findClass_of_methodNamed B.named, atoms_spec (ws := Cond.code yX12_clearStands cX12_clearStands 2 (none) :: GW) B.pre, B.notSynchronized⟩
  obtain ⟨hx, hb, hr, hml, hown, hts, hlk⟩ := id C
  have w := wd_of hw
  obtain ⟨ls, hen, hl⟩ : ∃ ls : Array Slot, entryFrame m ([.ref th] : List Value).toArray 2 = F0 m 0 ls [] ∧ lv_has ls 2 [(0, .ref th)] := by
    exact ⟨_, lg_entry_eq _ _ _, lv_entry _ (Nat.le_of_ble_eq_true rfl)⟩
  rw [hen]
  unfold f_M_clearStands at hE
  refine lv_aload_n hx hb dX12_clearStands_0 rfl (lv_at hl 0 rfl) ?_
  refine lv_sipush (v := -5000) hx hb dX12_clearStands_1 (by decide) ?_
  refine w_pI (r := some th) (ci := 0) (k := 32) C w rfl (by decide) (by unfold roK; omega) (GF_wsX120 _) tyX12 tyX12_ok nmX12 (by decide) rfl (List.mem_cons_of_mem _ gw_44_11) rfl rfl (tyX12_ok 32 (by decide)) dX12_clearStands_4 hE (fun h1 H locs w hsh1 e1 => ?_)
  refine lv_aload_n hx hb dX12_clearStands_7 rfl (lv_at hl 0 rfl) ?_
  refine lv_sipush (v := 5000) hx hb dX12_clearStands_8 (by decide) ?_
  refine w_pI (r := some th) (ci := 0) (k := 33) C w rfl (by decide) (by unfold roK; omega) (GF_wsX120 _) tyX12 tyX12_ok nmX12 (by decide) rfl (List.mem_cons_of_mem _ gw_44_12) rfl rfl (tyX12_ok 33 (by decide)) dX12_clearStands_11 e1 (fun h2 H locs w hsh2 e2 => ?_)
  refine lv_iconst (v := 0) hx hb dX12_clearStands_14 (by decide) ?_
  refine lv_istore_n (lv' := [(1, .int (0 : Int32)), (0, .ref th)]) hx hb dX12_clearStands_15 rfl hl (by decide) rfl (fun ls hl => ?_)
  exact b_M_clearStands_16 C N   N  h2 th (0 : Int32) _ _ ls w  (lv_sub hl [1, 0] rfl) e2
set_option maxRecDepth 20000 in
set_option maxHeartbeats 4000000 in
theorem b_M_together_87 {p : Program} {l : Launch} {e : Env} {s : State} {m : MethodId} {args : Array Value} {below : List Frame} {meth : Method} {c : Code} {D : va_G} {cy : cyT} {z : Nat} (C : MX p s m args meth c cX12_together 7 ((some .long)) RX12 (Cond.code yX12_together cX12_together 7 ((some .long)) :: GW)) (N : Nat) {r : Int64} {g : hS} {rc39 : hS → Nat → Int32 → Int64 → Int32 → Option (Int64 × hS)}  (hrc39 : ∀ (h : hS) (th : Nat) (x1 : Int32) (x2 : Int64) (x4 : Int32) (H : Heap) (locs : List Loc) (ls : Array Slot), wd D cy z s 0 h H locs → lv_has ls 7 [(0, .ref th), (1, .int x1), (2, .long x2), (4, .int x4)] → rc39 h th x1 x2 x4 = some (r, g) → W p l e { frames := 0, cells := 0, slots := 0, locals := 0 } s m args below meth c H locs 0 0 (MQ below (eQ D cy z (rJ r) g) args s 0 0 (fun q => z ≤ q)) (F0 m 39 ls [])) : ∀  (h : hS) (th : Nat) (x1 : Int32) (x2 : Int64) (x4 : Int32) (H : Heap) (locs : List Loc) (ls : Array Slot), wd D cy z s 0 h H locs → lv_has ls 7 [(0, .ref th), (1, .int x1), (2, .long x2), (4, .int x4)] → f_M_together_87 N rc39  h th x1 x2 x4 = some (r, g) → W p l e { frames := 0, cells := 0, slots := 0, locals := 0 } s m args below meth c H locs 0 0 (MQ below (eQ D cy z (rJ r) g) args s 0 0 (fun q => z ≤ q)) (F0 m 87 ls []) := by
  obtain ⟨hx, hb, hr, hml, hown, hts, hlk⟩ := id C
  intro  h th x1 x2 x4 H locs ls w  hl hE
  unfold f_M_together_87 at hE
  obtain ⟨v1, ev1, e1⟩ := bn_some hE
  refine lv_iinc (v := v1) (lv' := [(4, .int v1), (0, .ref th), (1, .int x1), (2, .long x2)]) hx hb dX12_together_87 hl (k := 3) rfl (by rw [ev1]; rfl) (by decide) rfl (fun ls hl => ?_)
  refine lv_goto (tgt := 39) hx hb dX12_together_90 (by decide) ?_
  exact hrc39  h th x1 x2 v1 _ _ ls w  (lv_sub hl [1, 2, 3, 0] rfl) e1
set_option maxRecDepth 20000 in
set_option maxHeartbeats 4000000 in
theorem b_M_together_39 {p : Program} {l : Launch} {e : Env} {s : State} {m : MethodId} {args : Array Value} {below : List Frame} {meth : Method} {c : Code} {D : va_G} {cy : cyT} {z : Nat} (C : MX p s m args meth c cX12_together 7 ((some .long)) RX12 (Cond.code yX12_together cX12_together 7 ((some .long)) :: GW)) (N : Nat) {r : Int64} {g : hS}  : ∀ (n : Nat) (h : hS) (th : Nat) (x1 : Int32) (x2 : Int64) (x4 : Int32) (H : Heap) (locs : List Loc) (ls : Array Slot), wd D cy z s 0 h H locs → lv_has ls 7 [(0, .ref th), (1, .int x1), (2, .long x2), (4, .int x4)] → f_M_together_39 N  n h th x1 x2 x4 = some (r, g) → W p l e { frames := 0, cells := 0, slots := 0, locals := 0 } s m args below meth c H locs 0 0 (MQ below (eQ D cy z (rJ r) g) args s 0 0 (fun q => z ≤ q)) (F0 m 39 ls []) := by
  obtain ⟨hx, hb, hr, hml, hown, hts, hlk⟩ := id C
  intro n
  induction n with
  | zero =>
    intro  h th x1 x2 x4 H locs ls w  hl hE
    cases hE
  | succ n ih =>
    intro  h th x1 x2 x4 H locs ls w  hl hE
    unfold f_M_together_39 at hE
    refine lv_iload hx hb dX12_together_39 (lv_at hl 3 rfl) ?_
    refine lv_aload_n hx hb dX12_together_41 rfl (lv_at hl 0 rfl) ?_
    refine w_gI (r := some th) (ci := 0) (k := 33) C w rfl (by decide) (GF_wsX120 _) (by decide) rfl (List.mem_cons_of_mem _ gw_44_12) rfl dX12_together_42 hE (fun v1 e1 => ?_)
    refine w_icmp_gt (tgt := 93) C dX12_together_45 (by decide) e1 (fun hc e2 => ?_) (fun hc e2 => ?_)
    · refine lv_lload_n hx hb dX12_together_93 rfl (lv_at hl 2 rfl) ?_
      exact w_lret C w e2 dX12_together_94
    · refine lv_iload hx hb dX12_together_48 (lv_at hl 3 rfl) ?_
      refine lv_i2l hx hb dX12_together_50 rfl ?_
      refine lv_iload_n hx hb dX12_together_51 rfl (lv_at hl 1 rfl) ?_
      refine lv_i2l hx hb dX12_together_52 rfl ?_
      refine lv_lmul hx hb dX12_together_53 ?_
      refine lv_aload_n hx hb dX12_together_54 rfl (lv_at hl 0 rfl) ?_
      refine w_gR (r := some th) (ci := 0) (k := 31) C w rfl (by decide) (GF_wsX120 _) (by decide) rfl (List.mem_cons_of_mem _ gw_7_16) rfl dX12_together_55 e2 (fun v2 e3 => ?_)
      refine lv_sipush (v := 5000) hx hb dX12_together_58 (by decide) ?_
      refine lv_iload hx hb dX12_together_61 (lv_at hl 3 rfl) ?_
      refine lv_iadd hx hb dX12_together_63 ?_
      refine w_aJ (r := v2) C w dX12_together_64 e3 (fun v3 e4 => ?_)
      refine lv_lsub hx hb dX12_together_65 ?_
      refine w_bnJ e4 (fun v4 e5 => ?_)
      refine lv_lstore (lv' := [(5, .long v4), (0, .ref th), (1, .int x1), (2, .long x2), (4, .int x4)]) hx hb dX12_together_66 hl (by decide) rfl (fun ls hl => ?_)
      refine lv_lload hx hb dX12_together_68 (lv_at hl 0 rfl) ?_
      refine lv_lload_n hx hb dX12_together_70 rfl (lv_at hl 3 rfl) ?_
      refine W.lcmp hx hb dX12_together_71 ?_
      refine w_if_gt (tgt := 78) C dX12_together_72 (by decide) e5 (fun hc e6 => ?_) (fun hc e6 => ?_)
      · refine lv_lload hx hb dX12_together_78 (lv_at hl 0 rfl) ?_
        refine lv_lstore_n (lv' := [(2, .long v4), (5, .long v4), (0, .ref th), (1, .int x1), (4, .int x4)]) hx hb dX12_together_80 rfl hl (by decide) rfl (fun ls hl => ?_)
        refine lv_aload_n hx hb dX12_together_81 rfl (lv_at hl 2 rfl) ?_
        refine lv_iload hx hb dX12_together_82 (lv_at hl 4 rfl) ?_
        refine w_pI (r := some th) (ci := 0) (k := 35) C w rfl (by decide) (by unfold roK; omega) (GF_wsX120 _) tyX12 tyX12_ok nmX12 (by decide) rfl (List.mem_cons_of_mem _ gw_45_0) rfl rfl (tyX12_ok 35 (by decide)) dX12_together_84 e6 (fun h5 H locs w hsh5 e7 => ?_)
        exact b_M_together_87 C N  ih   h5 th x1 v4 x4 _ _ ls w  (lv_sub hl [2, 3, 0, 4] rfl) e7
      · refine lv_goto (tgt := 87) hx hb dX12_together_75 (by decide) ?_
        exact b_M_together_87 C N  ih   h th x1 x2 x4 _ _ ls w  (lv_sub hl [1, 2, 3, 4] rfl) e6
set_option maxRecDepth 20000 in
set_option maxHeartbeats 4000000 in
theorem k_M_together (l : Launch) (D : va_G) (cy : cyT) (z : Nat) (N : Nat) (h : hS) (th : Nat) (x1 : Int32) (r : Int64) (g : hS) (hE : f_M_together N h th x1 = some (r, g)) : ct l yX12_together (Cond.code yX12_together cX12_together 7 ((some .long)) :: GW) { frames := 0, cells := 0, slots := 0, locals := 0 } D cy z h [.ref th, .int x1] (rJ r) g := by
  refine Met.ofW (cc := cX12_together) (maxL := 7) (ret := (some .long)) (by decide) rfl ?_
  intro p e s m args below meth c s₁ B hml hv
  obtain ⟨rfl, hw⟩ := hv
  have C : MX p s m ([.ref th, .int x1] : List Value).toArray meth c cX12_together 7 ((some .long)) RX12 (Cond.code yX12_together cX12_together 7 ((some .long)) :: GW) := ⟨B.exec, B.bytes, B.returns, hml, findClass_of_methodNamed B.named, atoms_spec (ws := Cond.code yX12_together cX12_together 7 ((some .long)) :: GW) B.pre, B.notSynchronized⟩
  obtain ⟨hx, hb, hr, hml, hown, hts, hlk⟩ := id C
  have w := wd_of hw
  obtain ⟨ls, hen, hl⟩ : ∃ ls : Array Slot, entryFrame m ([.ref th, .int x1] : List Value).toArray 7 = F0 m 0 ls [] ∧ lv_has ls 7 [(0, .ref th), (1, .int x1)] := by
    exact ⟨_, lg_entry_eq _ _ _, lv_entry _ (Nat.le_of_ble_eq_true rfl)⟩
  rw [hen]
  unfold f_M_together at hE
  refine lv_aload_n hx hb dX12_together_0 rfl (lv_at hl 0 rfl) ?_
  refine lv_aload_n hx hb dX12_together_1 rfl (lv_at hl 0 rfl) ?_
  refine w_gI (r := some th) (ci := 0) (k := 32) C w rfl (by decide) (GF_wsX120 _) (by decide) rfl (List.mem_cons_of_mem _ gw_44_11) rfl dX12_together_2 hE (fun v1 e1 => ?_)
  refine w_pI (r := some th) (ci := 0) (k := 35) C w rfl (by decide) (by unfold roK; omega) (GF_wsX120 _) tyX12 tyX12_ok nmX12 (by decide) rfl (List.mem_cons_of_mem _ gw_45_0) rfl rfl (tyX12_ok 35 (by decide)) dX12_together_5 e1 (fun h2 H locs w hsh2 e2 => ?_)
  refine lv_aload_n hx hb dX12_together_8 rfl (lv_at hl 0 rfl) ?_
  refine w_gI (r := some th) (ci := 0) (k := 32) C w rfl (by decide) (GF_wsX120 _) (by decide) rfl (List.mem_cons_of_mem _ gw_44_11) rfl dX12_together_9 e2 (fun v3 e3 => ?_)
  refine lv_i2l hx hb dX12_together_12 rfl ?_
  refine lv_iload_n hx hb dX12_together_13 rfl (lv_at hl 1 rfl) ?_
  refine lv_i2l hx hb dX12_together_14 rfl ?_
  refine lv_lmul hx hb dX12_together_15 ?_
  refine lv_aload_n hx hb dX12_together_16 rfl (lv_at hl 0 rfl) ?_
  refine w_gR (r := some th) (ci := 0) (k := 31) C w rfl (by decide) (GF_wsX120 _) (by decide) rfl (List.mem_cons_of_mem _ gw_7_16) rfl dX12_together_17 e3 (fun v4 e4 => ?_)
  refine lv_sipush (v := 5000) hx hb dX12_together_20 (by decide) ?_
  refine lv_aload_n hx hb dX12_together_23 rfl (lv_at hl 0 rfl) ?_
  refine w_gI (r := some th) (ci := 0) (k := 32) C w rfl (by decide) (GF_wsX120 _) (by decide) rfl (List.mem_cons_of_mem _ gw_44_11) rfl dX12_together_24 e4 (fun v5 e5 => ?_)
  refine lv_iadd hx hb dX12_together_27 ?_
  refine w_aJ (r := v4) C w dX12_together_28 e5 (fun v6 e6 => ?_)
  refine lv_lsub hx hb dX12_together_29 ?_
  refine w_bnJ e6 (fun v7 e7 => ?_)
  refine lv_lstore_n (lv' := [(2, .long v7), (0, .ref th), (1, .int x1)]) hx hb dX12_together_30 rfl hl (by decide) rfl (fun ls hl => ?_)
  refine lv_aload_n hx hb dX12_together_31 rfl (lv_at hl 1 rfl) ?_
  refine w_gI (r := some th) (ci := 0) (k := 32) C w rfl (by decide) (GF_wsX120 _) (by decide) rfl (List.mem_cons_of_mem _ gw_44_11) rfl dX12_together_32 e7 (fun v8 e8 => ?_)
  refine lv_iconst (v := 1) hx hb dX12_together_35 (by decide) ?_
  refine lv_iadd hx hb dX12_together_36 ?_
  refine w_bnI e8 (fun v9 e9 => ?_)
  refine lv_istore (lv' := [(4, .int v9), (2, .long v7), (0, .ref th), (1, .int x1)]) hx hb dX12_together_37 hl (by decide) rfl (fun ls hl => ?_)
  exact b_M_together_39 C N   N  h2 th x1 v7 v9 _ _ ls w  (lv_sub hl [2, 3, 1, 0] rfl) e9
set_option maxRecDepth 20000 in
set_option maxHeartbeats 4000000 in
theorem b_M_refusal_32 {p : Program} {l : Launch} {e : Env} {s : State} {m : MethodId} {args : Array Value} {below : List Frame} {meth : Method} {c : Code} {D : va_G} {cy : cyT} {z : Nat} (C : MX p s m args meth c cX12_refusal 4 ((some .int)) RX12 (Cond.code yX12_refusal cX12_refusal 4 ((some .int)) :: GW)) (N : Nat) {r : Int32} {g : hS}  : ∀  (h : hS) (y0 : Int32) (H : Heap) (locs : List Loc) (ls : Array Slot), wd D cy z s 0 h H locs → lv_has ls 4 [] → f_M_refusal_32 N   h y0 = some (r, g) → W p l e { frames := 2, cells := 0, slots := 0, locals := 46 } s m args below meth c H locs 0 0 (MQ below (eQ D cy z (rI r) g) args s 0 0 (fun q => z ≤ q)) (F0 m 32 ls [.int y0]) := by
  obtain ⟨hx, hb, hr, hml, hown, hts, hlk⟩ := id C
  intro  h y0 H locs ls w  hl hE
  unfold f_M_refusal_32 at hE
  exact w_iret C w hE dX12_refusal_32
set_option maxRecDepth 20000 in
set_option maxHeartbeats 4000000 in
theorem b_M_refusal_16 {p : Program} {l : Launch} {e : Env} {s : State} {m : MethodId} {args : Array Value} {below : List Frame} {meth : Method} {c : Code} {D : va_G} {cy : cyT} {z : Nat} (C : MX p s m args meth c cX12_refusal 4 ((some .int)) RX12 (Cond.code yX12_refusal cX12_refusal 4 ((some .int)) :: GW)) (N : Nat) {r : Int32} {g : hS}  : ∀  (h : hS)  (H : Heap) (locs : List Loc) (ls : Array Slot), wd D cy z s 0 h H locs → lv_has ls 4 [] → f_M_refusal_16 N   h  = some (r, g) → W p l e { frames := 2, cells := 0, slots := 0, locals := 46 } s m args below meth c H locs 0 0 (MQ below (eQ D cy z (rI r) g) args s 0 0 (fun q => z ≤ q)) (F0 m 16 ls []) := by
  obtain ⟨hx, hb, hr, hml, hown, hts, hlk⟩ := id C
  intro  h  H locs ls w  hl hE
  unfold f_M_refusal_16 at hE
  refine lv_iconst (v := 1) hx hb dX12_refusal_16 (by decide) ?_
  refine lv_goto (tgt := 32) hx hb dX12_refusal_17 (by decide) ?_
  exact b_M_refusal_32 C N     h (1 : Int32) _ _ ls w  (lv_sub hl [] rfl) hE
set_option maxRecDepth 20000 in
set_option maxHeartbeats 4000000 in
theorem k_M_refusal (l : Launch) (D : va_G) (cy : cyT) (z : Nat) (N : Nat) (h : hS) (th : Nat) (x1 : Int32) (x2 : Int32) (x3 : Int32) (r : Int32) (g : hS) (hE : f_M_refusal N h th x1 x2 x3 = some (r, g)) : ct l yX12_refusal (Cond.code yX12_refusal cX12_refusal 4 ((some .int)) :: GW) { frames := 2, cells := 0, slots := 0, locals := 46 } D cy z h [.ref th, .int x1, .int x2, .int x3] (rI r) g := by
  refine Met.ofW (cc := cX12_refusal) (maxL := 4) (ret := (some .int)) (by decide) rfl ?_
  intro p e s m args below meth c s₁ B hml hv
  obtain ⟨rfl, hw⟩ := hv
  have C : MX p s m ([.ref th, .int x1, .int x2, .int x3] : List Value).toArray meth c cX12_refusal 4 ((some .int)) RX12 (Cond.code yX12_refusal cX12_refusal 4 ((some .int)) :: GW) := ⟨B.exec, B.bytes, B.returns, hml, findClass_of_methodNamed B.named, atoms_spec (ws := Cond.code yX12_refusal cX12_refusal 4 ((some .int)) :: GW) B.pre, B.notSynchronized⟩
  obtain ⟨hx, hb, hr, hml, hown, hts, hlk⟩ := id C
  have w := wd_of hw
  obtain ⟨ls, hen, hl⟩ : ∃ ls : Array Slot, entryFrame m ([.ref th, .int x1, .int x2, .int x3] : List Value).toArray 4 = F0 m 0 ls [] ∧ lv_has ls 4 [(0, .ref th), (1, .int x1), (2, .int x2), (3, .int x3)] := by
    exact ⟨_, lg_entry_eq _ _ _, lv_entry _ (Nat.le_of_ble_eq_true rfl)⟩
  rw [hen]
  unfold f_M_refusal at hE
  refine lv_aload_n hx hb dX12_refusal_0 rfl (lv_at hl 0 rfl) ?_
  refine lv_iload_n hx hb dX12_refusal_1 rfl (lv_at hl 1 rfl) ?_
  refine w_VI GW_good (n := 1) (F := 1) (Lc := 25) (o := some th) (av := [.int x1]) (rest := []) C w rfl (by decide) (fun a r g hf => k_M_isCost l D cy z N h a x1 r g hf) gw_24_20 gw_24_21 gw_24_22 gw_1_5 gw_24_23 (by decide +kernel) ⟨Nat.le_of_ble_eq_true rfl, Nat.le_of_ble_eq_true rfl⟩ rfl hl.1 rfl (Nat.le_of_ble_eq_true rfl) dX12_refusal_2 (fun a => (sh_M_isCost N h a x1)) ⟨by decide, by decide⟩ hE (fun v1 h2 H locs w hsh2 e1 => ?_)
  refine w_if_eq (tgt := 16) C dX12_refusal_5 (by decide) e1 (fun hc e2 => ?_) (fun hc e2 => ?_)
  · exact b_M_refusal_16 C N     h2  _ _ ls w  (lv_sub hl [] rfl) e2
  · refine lv_aload_n hx hb dX12_refusal_8 rfl (lv_at hl 0 rfl) ?_
    refine lv_iload_n hx hb dX12_refusal_9 rfl (lv_at hl 2 rfl) ?_
    refine w_VI GW_good (n := 1) (F := 1) (Lc := 25) (o := some th) (av := [.int x2]) (rest := []) C w rfl (by decide) (fun a r g hf => k_M_isCost l D cy z N h2 a x2 r g hf) gw_24_20 gw_24_21 gw_24_22 gw_1_5 gw_24_23 (by decide +kernel) ⟨Nat.le_of_ble_eq_true rfl, Nat.le_of_ble_eq_true rfl⟩ rfl hl.1 rfl (Nat.le_of_ble_eq_true rfl) dX12_refusal_10 (fun a => (sh_M_isCost N h2 a x2)) ⟨by decide, by decide⟩ e2 (fun v3 h4 H locs w hsh4 e3 => ?_)
    refine w_if_ne (tgt := 20) C dX12_refusal_13 (by decide) e3 (fun hc e4 => ?_) (fun hc e4 => ?_)
    · refine lv_iload_n hx hb dX12_refusal_20 rfl (lv_at hl 3 rfl) ?_
      refine w_SI GW_good (n := 1) (F := 1) (Lc := 25) (av := [.int x3]) (rest := []) C w (fun r g hf => k_M_isX l D cy z N h4 x3 r g hf) gw_34_22 gw_34_23 gw_1_5 gw_35_0 (by decide +kernel) ⟨Nat.le_of_ble_eq_true rfl, Nat.le_of_ble_eq_true rfl⟩ rfl hl.1 rfl (Nat.le_of_ble_eq_true rfl) dX12_refusal_21 (sh_M_isX N h4 x3) ⟨by decide, by decide⟩ e4 (fun v5 h6 H locs w hsh6 e5 => ?_)
      refine w_if_eq (tgt := 31) C dX12_refusal_24 (by decide) e5 (fun hc e6 => ?_) (fun hc e6 => ?_)
      · refine lv_iconst (v := 2) hx hb dX12_refusal_31 (by decide) ?_
        exact b_M_refusal_32 C N     h6 (2 : Int32) _ _ ls w  (lv_sub hl [] rfl) e6
      · refine lv_iconst (v := 0) hx hb dX12_refusal_27 (by decide) ?_
        refine lv_goto (tgt := 32) hx hb dX12_refusal_28 (by decide) ?_
        exact b_M_refusal_32 C N     h6 (0 : Int32) _ _ ls w  (lv_sub hl [] rfl) e6
    · exact b_M_refusal_16 C N     h4  _ _ ls w  (lv_sub hl [] rfl) e4
set_option maxRecDepth 20000 in
set_option maxHeartbeats 4000000 in
theorem k_M_refuse (l : Launch) (D : va_G) (cy : cyT) (z : Nat) (N : Nat) (h : hS) (th : Nat) (x1 : Int32) (r : Int32) (g : hS) (hE : f_M_refuse N h th x1 = some (r, g)) : ct l yX12_refuse (Cond.code yX12_refuse cX12_refuse 2 ((some .int)) :: GW) { frames := 0, cells := 0, slots := 0, locals := 0 } D cy z h [.ref th, .int x1] (rI r) g := by
  refine Met.ofW (cc := cX12_refuse) (maxL := 2) (ret := (some .int)) (by decide) rfl ?_
  intro p e s m args below meth c s₁ B hml hv
  obtain ⟨rfl, hw⟩ := hv
  have C : MX p s m ([.ref th, .int x1] : List Value).toArray meth c cX12_refuse 2 ((some .int)) RX12 (Cond.code yX12_refuse cX12_refuse 2 ((some .int)) :: GW) := ⟨B.exec, B.bytes, B.returns, hml, findClass_of_methodNamed B.named, atoms_spec (ws := Cond.code yX12_refuse cX12_refuse 2 ((some .int)) :: GW) B.pre, B.notSynchronized⟩
  obtain ⟨hx, hb, hr, hml, hown, hts, hlk⟩ := id C
  have w := wd_of hw
  obtain ⟨ls, hen, hl⟩ : ∃ ls : Array Slot, entryFrame m ([.ref th, .int x1] : List Value).toArray 2 = F0 m 0 ls [] ∧ lv_has ls 2 [(0, .ref th), (1, .int x1)] := by
    exact ⟨_, lg_entry_eq _ _ _, lv_entry _ (Nat.le_of_ble_eq_true rfl)⟩
  rw [hen]
  unfold f_M_refuse at hE
  refine lv_aload_n hx hb dX12_refuse_0 rfl (lv_at hl 0 rfl) ?_
  refine w_gR (r := some th) (ci := 0) (k := 3) C w rfl (by decide) (GF_wsX120 _) (by decide) rfl (List.mem_cons_of_mem _ gw_6_22) rfl dX12_refuse_1 hE (fun v1 e1 => ?_)
  refine lv_iload_n hx hb dX12_refuse_4 rfl (lv_at hl 1 rfl) ?_
  refine lv_dup2_11 hx hb dX12_refuse_5 rfl (va_rf_cat _) ?_
  refine w_aI (r := v1) C w dX12_refuse_6 e1 (fun v2 e2 => ?_)
  refine lv_iconst (v := 1) hx hb dX12_refuse_7 (by decide) ?_
  refine lv_iadd hx hb dX12_refuse_8 ?_
  refine w_uI (r := v1) C w dX12_refuse_9 e2 (fun h3 H locs w hsh3 e3 => ?_)
  refine lv_iconst (v := -1) hx hb dX12_refuse_10 (by decide) ?_
  exact w_iret C w e3 dX12_refuse_11
set_option maxRecDepth 20000 in
set_option maxHeartbeats 4000000 in
theorem b_M_keep_56 {p : Program} {l : Launch} {e : Env} {s : State} {m : MethodId} {args : Array Value} {below : List Frame} {meth : Method} {c : Code} {D : va_G} {cy : cyT} {z : Nat} (C : MX p s m args meth c cX12_keep 2 (none) RX12 (Cond.code yX12_keep cX12_keep 2 (none) :: GW)) (N : Nat) {r : Unit} {g : hS}  : ∀ (n : Nat) (h : hS) (th : Nat) (x1 : Int32) (H : Heap) (locs : List Loc) (ls : Array Slot), wd D cy z s 0 h H locs → lv_has ls 2 [(0, .ref th), (1, .int x1)] → f_M_keep_56 N  n h th x1 = some (r, g) → W p l e { frames := 0, cells := 0, slots := 0, locals := 0 } s m args below meth c H locs 0 0 (MQ below (eQ D cy z (rV r) g) args s 0 0 (fun q => z ≤ q)) (F0 m 56 ls []) := by
  obtain ⟨hx, hb, hr, hml, hown, hts, hlk⟩ := id C
  intro n
  induction n with
  | zero =>
    intro  h th x1 H locs ls w  hl hE
    cases hE
  | succ n ih =>
    intro  h th x1 H locs ls w  hl hE
    unfold f_M_keep_56 at hE
    refine lv_iload_n hx hb dX12_keep_56 rfl (lv_at hl 1 rfl) ?_
    refine lv_sipush (v := 644) hx hb dX12_keep_57 (by decide) ?_
    refine w_icmp_ge (tgt := 90) C dX12_keep_60 (by decide) hE (fun hc e1 => ?_) (fun hc e1 => ?_)
    · refine lv_aload_n hx hb dX12_keep_90 rfl (lv_at hl 0 rfl) ?_
      refine lv_dup hx hb dX12_keep_91 rfl ?_
      refine w_gI (r := some th) (ci := 0) (k := 41) C w rfl (by decide) (GF_wsX120 _) (by decide) rfl (List.mem_cons_of_mem _ gw_31_10) rfl dX12_keep_92 e1 (fun v1 e2 => ?_)
      refine lv_iconst (v := 1) hx hb dX12_keep_95 (by decide) ?_
      refine lv_iadd hx hb dX12_keep_96 ?_
      refine w_pI (r := some th) (ci := 0) (k := 41) C w rfl (by decide) (by unfold roK; omega) (GF_wsX120 _) tyX12 tyX12_ok nmX12 (by decide) rfl (List.mem_cons_of_mem _ gw_31_10) rfl rfl (tyX12_ok 41 (by decide)) dX12_keep_97 e2 (fun h2 H locs w hsh2 e3 => ?_)
      exact w_vret C w e3 dX12_keep_100
    · refine lv_aload_n hx hb dX12_keep_63 rfl (lv_at hl 0 rfl) ?_
      refine w_gR (r := some th) (ci := 0) (k := 42) C w rfl (by decide) (GF_wsX120 _) (by decide) rfl (List.mem_cons_of_mem _ gw_7_20) rfl dX12_keep_64 e1 (fun v3 e4 => ?_)
      refine lv_sipush (v := 644) hx hb dX12_keep_67 (by decide) ?_
      refine lv_aload_n hx hb dX12_keep_70 rfl (lv_at hl 0 rfl) ?_
      refine w_gI (r := some th) (ci := 0) (k := 41) C w rfl (by decide) (GF_wsX120 _) (by decide) rfl (List.mem_cons_of_mem _ gw_31_10) rfl dX12_keep_71 e4 (fun v4 e5 => ?_)
      refine lv_imul hx hb dX12_keep_74 ?_
      refine lv_iload_n hx hb dX12_keep_75 rfl (lv_at hl 1 rfl) ?_
      refine lv_iadd hx hb dX12_keep_76 ?_
      refine lv_aload_n hx hb dX12_keep_77 rfl (lv_at hl 0 rfl) ?_
      refine w_gR (r := some th) (ci := 0) (k := 2) C w rfl (by decide) (GF_wsX120 _) (by decide) rfl (List.mem_cons_of_mem _ gw_6_21) rfl dX12_keep_78 e5 (fun v5 e6 => ?_)
      refine lv_iload_n hx hb dX12_keep_81 rfl (lv_at hl 1 rfl) ?_
      refine w_aI (r := v5) C w dX12_keep_82 e6 (fun v6 e7 => ?_)
      refine w_uI (r := v3) C w dX12_keep_83 e7 (fun h7 H locs w hsh7 e8 => ?_)
      obtain ⟨v8, ev8, e9⟩ := bn_some e8
      refine lv_iinc (v := v8) (lv' := [(1, .int v8), (0, .ref th)]) hx hb dX12_keep_84 hl (k := 1) rfl (by rw [ev8]; rfl) (by decide) rfl (fun ls hl => ?_)
      refine lv_goto (tgt := 56) hx hb dX12_keep_87 (by decide) ?_
      exact ih  h7 th v8 _ _ ls w  (lv_sub hl [1, 0] rfl) e9
set_option maxRecDepth 20000 in
set_option maxHeartbeats 4000000 in
theorem b_M_keep_54 {p : Program} {l : Launch} {e : Env} {s : State} {m : MethodId} {args : Array Value} {below : List Frame} {meth : Method} {c : Code} {D : va_G} {cy : cyT} {z : Nat} (C : MX p s m args meth c cX12_keep 2 (none) RX12 (Cond.code yX12_keep cX12_keep 2 (none) :: GW)) (N : Nat) {r : Unit} {g : hS}  : ∀  (h : hS) (th : Nat) (H : Heap) (locs : List Loc) (ls : Array Slot), wd D cy z s 0 h H locs → lv_has ls 2 [(0, .ref th)] → f_M_keep_54 N   h th = some (r, g) → W p l e { frames := 0, cells := 0, slots := 0, locals := 0 } s m args below meth c H locs 0 0 (MQ below (eQ D cy z (rV r) g) args s 0 0 (fun q => z ≤ q)) (F0 m 54 ls []) := by
  obtain ⟨hx, hb, hr, hml, hown, hts, hlk⟩ := id C
  intro  h th H locs ls w  hl hE
  unfold f_M_keep_54 at hE
  refine lv_iconst (v := 0) hx hb dX12_keep_54 (by decide) ?_
  refine lv_istore_n (lv' := [(1, .int (0 : Int32)), (0, .ref th)]) hx hb dX12_keep_55 rfl hl (by decide) rfl (fun ls hl => ?_)
  exact b_M_keep_56 C N   N  h th (0 : Int32) _ _ ls w  (lv_sub hl [1, 0] rfl) hE
set_option maxRecDepth 20000 in
set_option maxHeartbeats 4000000 in
theorem b_M_keep_13 {p : Program} {l : Launch} {e : Env} {s : State} {m : MethodId} {args : Array Value} {below : List Frame} {meth : Method} {c : Code} {D : va_G} {cy : cyT} {z : Nat} (C : MX p s m args meth c cX12_keep 2 (none) RX12 (Cond.code yX12_keep cX12_keep 2 (none) :: GW)) (N : Nat) {r : Unit} {g : hS}  : ∀ (n : Nat) (h : hS) (th : Nat) (x1 : Int32) (H : Heap) (locs : List Loc) (ls : Array Slot), wd D cy z s 0 h H locs → lv_has ls 2 [(0, .ref th), (1, .int x1)] → f_M_keep_13 N  n h th x1 = some (r, g) → W p l e { frames := 0, cells := 0, slots := 0, locals := 0 } s m args below meth c H locs 0 0 (MQ below (eQ D cy z (rV r) g) args s 0 0 (fun q => z ≤ q)) (F0 m 13 ls []) := by
  obtain ⟨hx, hb, hr, hml, hown, hts, hlk⟩ := id C
  intro n
  induction n with
  | zero =>
    intro  h th x1 H locs ls w  hl hE
    cases hE
  | succ n ih =>
    intro  h th x1 H locs ls w  hl hE
    unfold f_M_keep_13 at hE
    refine lv_iload_n hx hb dX12_keep_13 rfl (lv_at hl 1 rfl) ?_
    refine lv_aload_n hx hb dX12_keep_14 rfl (lv_at hl 0 rfl) ?_
    refine w_gR (r := some th) (ci := 0) (k := 42) C w rfl (by decide) (GF_wsX120 _) (by decide) rfl (List.mem_cons_of_mem _ gw_7_20) rfl dX12_keep_15 hE (fun v1 e1 => ?_)
    refine w_lenI (r := v1) C w dX12_keep_18 e1 (fun v2 e2 => ?_)
    refine w_icmp_ge (tgt := 44) C dX12_keep_19 (by decide) e2 (fun hc e3 => ?_) (fun hc e3 => ?_)
    · refine lv_aload_n hx hb dX12_keep_44 rfl (lv_at hl 0 rfl) ?_
      refine lv_dup hx hb dX12_keep_45 rfl ?_
      refine w_gI (r := some th) (ci := 0) (k := 41) C w rfl (by decide) (GF_wsX120 _) (by decide) rfl (List.mem_cons_of_mem _ gw_31_10) rfl dX12_keep_46 e3 (fun v3 e4 => ?_)
      refine lv_iconst (v := 1) hx hb dX12_keep_49 (by decide) ?_
      refine lv_isub hx hb dX12_keep_50 ?_
      refine w_pI (r := some th) (ci := 0) (k := 41) C w rfl (by decide) (by unfold roK; omega) (GF_wsX120 _) tyX12 tyX12_ok nmX12 (by decide) rfl (List.mem_cons_of_mem _ gw_31_10) rfl rfl (tyX12_ok 41 (by decide)) dX12_keep_51 e4 (fun h4 H locs w hsh4 e5 => ?_)
      exact b_M_keep_54 C N     h4 th _ _ ls w  (lv_sub hl [0] rfl) e5
    · refine lv_aload_n hx hb dX12_keep_22 rfl (lv_at hl 0 rfl) ?_
      refine w_gR (r := some th) (ci := 0) (k := 42) C w rfl (by decide) (GF_wsX120 _) (by decide) rfl (List.mem_cons_of_mem _ gw_7_20) rfl dX12_keep_23 e3 (fun v5 e6 => ?_)
      refine lv_iload_n hx hb dX12_keep_26 rfl (lv_at hl 1 rfl) ?_
      refine lv_sipush (v := 644) hx hb dX12_keep_27 (by decide) ?_
      refine lv_isub hx hb dX12_keep_30 ?_
      refine lv_aload_n hx hb dX12_keep_31 rfl (lv_at hl 0 rfl) ?_
      refine w_gR (r := some th) (ci := 0) (k := 42) C w rfl (by decide) (GF_wsX120 _) (by decide) rfl (List.mem_cons_of_mem _ gw_7_20) rfl dX12_keep_32 e6 (fun v6 e7 => ?_)
      refine lv_iload_n hx hb dX12_keep_35 rfl (lv_at hl 1 rfl) ?_
      refine w_aI (r := v6) C w dX12_keep_36 e7 (fun v7 e8 => ?_)
      refine w_uI (r := v5) C w dX12_keep_37 e8 (fun h8 H locs w hsh8 e9 => ?_)
      obtain ⟨v9, ev9, e10⟩ := bn_some e9
      refine lv_iinc (v := v9) (lv' := [(1, .int v9), (0, .ref th)]) hx hb dX12_keep_38 hl (k := 1) rfl (by rw [ev9]; rfl) (by decide) rfl (fun ls hl => ?_)
      refine lv_goto (tgt := 13) hx hb dX12_keep_41 (by decide) ?_
      exact ih  h8 th v9 _ _ ls w  (lv_sub hl [1, 0] rfl) e10
set_option maxRecDepth 20000 in
set_option maxHeartbeats 4000000 in
theorem k_M_keep (l : Launch) (D : va_G) (cy : cyT) (z : Nat) (N : Nat) (h : hS) (th : Nat) (r : Unit) (g : hS) (hE : f_M_keep N h th = some (r, g)) : ct l yX12_keep (Cond.code yX12_keep cX12_keep 2 (none) :: GW) { frames := 0, cells := 0, slots := 0, locals := 0 } D cy z h [.ref th] (rV r) g := by
  refine Met.ofW (cc := cX12_keep) (maxL := 2) (ret := none) (by decide) rfl ?_
  intro p e s m args below meth c s₁ B hml hv
  obtain ⟨rfl, hw⟩ := hv
  have C : MX p s m ([.ref th] : List Value).toArray meth c cX12_keep 2 (none) RX12 (Cond.code yX12_keep cX12_keep 2 (none) :: GW) := ⟨B.exec, B.bytes, B.returns, hml, findClass_of_methodNamed B.named, atoms_spec (ws := Cond.code yX12_keep cX12_keep 2 (none) :: GW) B.pre, B.notSynchronized⟩
  obtain ⟨hx, hb, hr, hml, hown, hts, hlk⟩ := id C
  have w := wd_of hw
  obtain ⟨ls, hen, hl⟩ : ∃ ls : Array Slot, entryFrame m ([.ref th] : List Value).toArray 2 = F0 m 0 ls [] ∧ lv_has ls 2 [(0, .ref th)] := by
    exact ⟨_, lg_entry_eq _ _ _, lv_entry _ (Nat.le_of_ble_eq_true rfl)⟩
  rw [hen]
  unfold f_M_keep at hE
  refine lv_aload_n hx hb dX12_keep_0 rfl (lv_at hl 0 rfl) ?_
  refine w_gI (r := some th) (ci := 0) (k := 41) C w rfl (by decide) (GF_wsX120 _) (by decide) rfl (List.mem_cons_of_mem _ gw_31_10) rfl dX12_keep_1 hE (fun v1 e1 => ?_)
  refine lv_bipush (v := 40) hx hb dX12_keep_4 (by decide) ?_
  refine w_icmp_ne (tgt := 54) C dX12_keep_6 (by decide) e1 (fun hc e2 => ?_) (fun hc e2 => ?_)
  · exact b_M_keep_54 C N     h th _ _ ls w  (lv_sub hl [0] rfl) e2
  · refine lv_sipush (v := 644) hx hb dX12_keep_9 (by decide) ?_
    refine lv_istore_n (lv' := [(1, .int (644 : Int32)), (0, .ref th)]) hx hb dX12_keep_12 rfl hl (by decide) rfl (fun ls hl => ?_)
    exact b_M_keep_13 C N   N  h th (644 : Int32) _ _ ls w  (lv_sub hl [1, 0] rfl) e2
set_option maxRecDepth 20000 in
set_option maxHeartbeats 4000000 in
theorem b_M_isStepTold_83 {p : Program} {l : Launch} {e : Env} {s : State} {m : MethodId} {args : Array Value} {below : List Frame} {meth : Method} {c : Code} {D : va_G} {cy : cyT} {z : Nat} (C : MX p s m args meth c cX12_isStepTold 4 ((some .boolean)) RX12 (Cond.code yX12_isStepTold cX12_isStepTold 4 ((some .boolean)) :: GW)) (N : Nat) {r : Int32} {g : hS}  : ∀  (h : hS) (y0 : Int32) (H : Heap) (locs : List Loc) (ls : Array Slot), wd D cy z s 0 h H locs → lv_has ls 4 [] → f_M_isStepTold_83 N   h y0 = some (r, g) → W p l e { frames := 1, cells := 0, slots := 0, locals := 25 } s m args below meth c H locs 0 0 (MQ below (eQ D cy z (rI r) g) args s 0 0 (fun q => z ≤ q)) (F0 m 83 ls [.int y0]) := by
  obtain ⟨hx, hb, hr, hml, hown, hts, hlk⟩ := id C
  intro  h y0 H locs ls w  hl hE
  unfold f_M_isStepTold_83 at hE
  exact w_zret C w hE dX12_isStepTold_83
set_option maxRecDepth 20000 in
set_option maxHeartbeats 4000000 in
theorem b_M_isStepTold_82 {p : Program} {l : Launch} {e : Env} {s : State} {m : MethodId} {args : Array Value} {below : List Frame} {meth : Method} {c : Code} {D : va_G} {cy : cyT} {z : Nat} (C : MX p s m args meth c cX12_isStepTold 4 ((some .boolean)) RX12 (Cond.code yX12_isStepTold cX12_isStepTold 4 ((some .boolean)) :: GW)) (N : Nat) {r : Int32} {g : hS}  : ∀  (h : hS)  (H : Heap) (locs : List Loc) (ls : Array Slot), wd D cy z s 0 h H locs → lv_has ls 4 [] → f_M_isStepTold_82 N   h  = some (r, g) → W p l e { frames := 1, cells := 0, slots := 0, locals := 25 } s m args below meth c H locs 0 0 (MQ below (eQ D cy z (rI r) g) args s 0 0 (fun q => z ≤ q)) (F0 m 82 ls []) := by
  obtain ⟨hx, hb, hr, hml, hown, hts, hlk⟩ := id C
  intro  h  H locs ls w  hl hE
  unfold f_M_isStepTold_82 at hE
  refine lv_iconst (v := 0) hx hb dX12_isStepTold_82 (by decide) ?_
  exact b_M_isStepTold_83 C N     h (0 : Int32) _ _ ls w  (lv_sub hl [] rfl) hE
set_option maxRecDepth 20000 in
set_option maxHeartbeats 4000000 in
theorem b_M_isStepTold_52 {p : Program} {l : Launch} {e : Env} {s : State} {m : MethodId} {args : Array Value} {below : List Frame} {meth : Method} {c : Code} {D : va_G} {cy : cyT} {z : Nat} (C : MX p s m args meth c cX12_isStepTold 4 ((some .boolean)) RX12 (Cond.code yX12_isStepTold cX12_isStepTold 4 ((some .boolean)) :: GW)) (N : Nat) {r : Int32} {g : hS}  : ∀  (h : hS) (x2 : Int32) (x3 : Int32) (H : Heap) (locs : List Loc) (ls : Array Slot), wd D cy z s 0 h H locs → lv_has ls 4 [(2, .int x2), (3, .int x3)] → f_M_isStepTold_52 N   h x2 x3 = some (r, g) → W p l e { frames := 1, cells := 0, slots := 0, locals := 25 } s m args below meth c H locs 0 0 (MQ below (eQ D cy z (rI r) g) args s 0 0 (fun q => z ≤ q)) (F0 m 52 ls []) := by
  obtain ⟨hx, hb, hr, hml, hown, hts, hlk⟩ := id C
  intro  h x2 x3 H locs ls w  hl hE
  unfold f_M_isStepTold_52 at hE
  refine lv_iload_n hx hb dX12_isStepTold_52 rfl (lv_at hl 0 rfl) ?_
  refine lv_i2l hx hb dX12_isStepTold_53 rfl ?_
  refine lv_ldc2 hx hb hown (hts _ (List.mem_cons_of_mem _ gw_57_19)) dX12_isStepTold_54 ?_
  refine lv_ldc2 hx hb hown (hts _ (List.mem_cons_of_mem _ gw_57_20)) dX12_isStepTold_57 ?_
  refine w_SI GW_good (n := 3) (F := 0) (Lc := 0) (av := [.long x2.toInt64, .long (-500 : Int64), .long (500 : Int64)]) (rest := []) C w (fun r g hf => k_M_isIn l D cy z N h x2.toInt64 (-500 : Int64) (500 : Int64) r g hf) gw_25_1 gw_25_2 gw_1_5 gw_25_3 (by decide +kernel) ⟨Nat.le_of_ble_eq_true rfl, Nat.le_of_ble_eq_true rfl⟩ rfl hl.1 rfl (Nat.le_of_ble_eq_true rfl) dX12_isStepTold_60 (sh_M_isIn N h x2.toInt64 (-500 : Int64) (500 : Int64)) ⟨by decide, by decide⟩ hE (fun v1 h2 H locs w hsh2 e1 => ?_)
  refine w_if_eq (tgt := 82) C dX12_isStepTold_63 (by decide) e1 (fun hc e2 => ?_) (fun hc e2 => ?_)
  · exact b_M_isStepTold_82 C N     h2  _ _ ls w  (lv_sub hl [] rfl) e2
  · refine lv_iload_n hx hb dX12_isStepTold_66 rfl (lv_at hl 1 rfl) ?_
    refine lv_i2l hx hb dX12_isStepTold_67 rfl ?_
    refine lv_lconst (v := 0) hx hb dX12_isStepTold_68 (by decide) ?_
    refine lv_ldc2 hx hb hown (hts _ (List.mem_cons_of_mem _ gw_57_21)) dX12_isStepTold_69 ?_
    refine w_SI GW_good (n := 3) (F := 0) (Lc := 0) (av := [.long x3.toInt64, .long (0 : Int64), .long (99 : Int64)]) (rest := []) C w (fun r g hf => k_M_isIn l D cy z N h2 x3.toInt64 (0 : Int64) (99 : Int64) r g hf) gw_25_1 gw_25_2 gw_1_5 gw_25_3 (by decide +kernel) ⟨Nat.le_of_ble_eq_true rfl, Nat.le_of_ble_eq_true rfl⟩ rfl hl.1 rfl (Nat.le_of_ble_eq_true rfl) dX12_isStepTold_72 (sh_M_isIn N h2 x3.toInt64 (0 : Int64) (99 : Int64)) ⟨by decide, by decide⟩ e2 (fun v3 h4 H locs w hsh4 e3 => ?_)
    refine w_if_eq (tgt := 82) C dX12_isStepTold_75 (by decide) e3 (fun hc e4 => ?_) (fun hc e4 => ?_)
    · exact b_M_isStepTold_82 C N     h4  _ _ ls w  (lv_sub hl [] rfl) e4
    · refine lv_iconst (v := 1) hx hb dX12_isStepTold_78 (by decide) ?_
      refine lv_goto (tgt := 83) hx hb dX12_isStepTold_79 (by decide) ?_
      exact b_M_isStepTold_83 C N     h4 (1 : Int32) _ _ ls w  (lv_sub hl [] rfl) e4
set_option maxRecDepth 20000 in
set_option maxHeartbeats 4000000 in
theorem b_M_isStepTold_125 {p : Program} {l : Launch} {e : Env} {s : State} {m : MethodId} {args : Array Value} {below : List Frame} {meth : Method} {c : Code} {D : va_G} {cy : cyT} {z : Nat} (C : MX p s m args meth c cX12_isStepTold 4 ((some .boolean)) RX12 (Cond.code yX12_isStepTold cX12_isStepTold 4 ((some .boolean)) :: GW)) (N : Nat) {r : Int32} {g : hS}  : ∀  (h : hS) (y0 : Int32) (H : Heap) (locs : List Loc) (ls : Array Slot), wd D cy z s 0 h H locs → lv_has ls 4 [] → f_M_isStepTold_125 N   h y0 = some (r, g) → W p l e { frames := 1, cells := 0, slots := 0, locals := 25 } s m args below meth c H locs 0 0 (MQ below (eQ D cy z (rI r) g) args s 0 0 (fun q => z ≤ q)) (F0 m 125 ls [.int y0]) := by
  obtain ⟨hx, hb, hr, hml, hown, hts, hlk⟩ := id C
  intro  h y0 H locs ls w  hl hE
  unfold f_M_isStepTold_125 at hE
  exact w_zret C w hE dX12_isStepTold_125
set_option maxRecDepth 20000 in
set_option maxHeartbeats 4000000 in
theorem b_M_isStepTold_124 {p : Program} {l : Launch} {e : Env} {s : State} {m : MethodId} {args : Array Value} {below : List Frame} {meth : Method} {c : Code} {D : va_G} {cy : cyT} {z : Nat} (C : MX p s m args meth c cX12_isStepTold 4 ((some .boolean)) RX12 (Cond.code yX12_isStepTold cX12_isStepTold 4 ((some .boolean)) :: GW)) (N : Nat) {r : Int32} {g : hS}  : ∀  (h : hS)  (H : Heap) (locs : List Loc) (ls : Array Slot), wd D cy z s 0 h H locs → lv_has ls 4 [] → f_M_isStepTold_124 N   h  = some (r, g) → W p l e { frames := 1, cells := 0, slots := 0, locals := 25 } s m args below meth c H locs 0 0 (MQ below (eQ D cy z (rI r) g) args s 0 0 (fun q => z ≤ q)) (F0 m 124 ls []) := by
  obtain ⟨hx, hb, hr, hml, hown, hts, hlk⟩ := id C
  intro  h  H locs ls w  hl hE
  unfold f_M_isStepTold_124 at hE
  refine lv_iconst (v := 0) hx hb dX12_isStepTold_124 (by decide) ?_
  exact b_M_isStepTold_125 C N     h (0 : Int32) _ _ ls w  (lv_sub hl [] rfl) hE
set_option maxRecDepth 20000 in
set_option maxHeartbeats 4000000 in
theorem b_M_isStepTold_175 {p : Program} {l : Launch} {e : Env} {s : State} {m : MethodId} {args : Array Value} {below : List Frame} {meth : Method} {c : Code} {D : va_G} {cy : cyT} {z : Nat} (C : MX p s m args meth c cX12_isStepTold 4 ((some .boolean)) RX12 (Cond.code yX12_isStepTold cX12_isStepTold 4 ((some .boolean)) :: GW)) (N : Nat) {r : Int32} {g : hS}  : ∀  (h : hS) (y0 : Int32) (H : Heap) (locs : List Loc) (ls : Array Slot), wd D cy z s 0 h H locs → lv_has ls 4 [] → f_M_isStepTold_175 N   h y0 = some (r, g) → W p l e { frames := 1, cells := 0, slots := 0, locals := 25 } s m args below meth c H locs 0 0 (MQ below (eQ D cy z (rI r) g) args s 0 0 (fun q => z ≤ q)) (F0 m 175 ls [.int y0]) := by
  obtain ⟨hx, hb, hr, hml, hown, hts, hlk⟩ := id C
  intro  h y0 H locs ls w  hl hE
  unfold f_M_isStepTold_175 at hE
  exact w_zret C w hE dX12_isStepTold_175
set_option maxRecDepth 20000 in
set_option maxHeartbeats 4000000 in
theorem b_M_isStepTold_170 {p : Program} {l : Launch} {e : Env} {s : State} {m : MethodId} {args : Array Value} {below : List Frame} {meth : Method} {c : Code} {D : va_G} {cy : cyT} {z : Nat} (C : MX p s m args meth c cX12_isStepTold 4 ((some .boolean)) RX12 (Cond.code yX12_isStepTold cX12_isStepTold 4 ((some .boolean)) :: GW)) (N : Nat) {r : Int32} {g : hS}  : ∀  (h : hS)  (H : Heap) (locs : List Loc) (ls : Array Slot), wd D cy z s 0 h H locs → lv_has ls 4 [] → f_M_isStepTold_170 N   h  = some (r, g) → W p l e { frames := 1, cells := 0, slots := 0, locals := 25 } s m args below meth c H locs 0 0 (MQ below (eQ D cy z (rI r) g) args s 0 0 (fun q => z ≤ q)) (F0 m 170 ls []) := by
  obtain ⟨hx, hb, hr, hml, hown, hts, hlk⟩ := id C
  intro  h  H locs ls w  hl hE
  unfold f_M_isStepTold_170 at hE
  refine lv_iconst (v := 1) hx hb dX12_isStepTold_170 (by decide) ?_
  refine lv_goto (tgt := 175) hx hb dX12_isStepTold_171 (by decide) ?_
  exact b_M_isStepTold_175 C N     h (1 : Int32) _ _ ls w  (lv_sub hl [] rfl) hE
set_option maxRecDepth 20000 in
set_option maxHeartbeats 4000000 in
theorem b_M_isStepTold_159 {p : Program} {l : Launch} {e : Env} {s : State} {m : MethodId} {args : Array Value} {below : List Frame} {meth : Method} {c : Code} {D : va_G} {cy : cyT} {z : Nat} (C : MX p s m args meth c cX12_isStepTold 4 ((some .boolean)) RX12 (Cond.code yX12_isStepTold cX12_isStepTold 4 ((some .boolean)) :: GW)) (N : Nat) {r : Int32} {g : hS}  : ∀  (h : hS) (x1 : Int32) (H : Heap) (locs : List Loc) (ls : Array Slot), wd D cy z s 0 h H locs → lv_has ls 4 [(1, .int x1)] → f_M_isStepTold_159 N   h x1 = some (r, g) → W p l e { frames := 1, cells := 0, slots := 0, locals := 25 } s m args below meth c H locs 0 0 (MQ below (eQ D cy z (rI r) g) args s 0 0 (fun q => z ≤ q)) (F0 m 159 ls []) := by
  obtain ⟨hx, hb, hr, hml, hown, hts, hlk⟩ := id C
  intro  h x1 H locs ls w  hl hE
  unfold f_M_isStepTold_159 at hE
  refine lv_iload_n hx hb dX12_isStepTold_159 rfl (lv_at hl 0 rfl) ?_
  refine lv_iconst (v := 5) hx hb dX12_isStepTold_160 (by decide) ?_
  refine w_icmp_eq (tgt := 170) C dX12_isStepTold_161 (by decide) hE (fun hc e1 => ?_) (fun hc e1 => ?_)
  · exact b_M_isStepTold_170 C N     h  _ _ ls w  (lv_sub hl [] rfl) e1
  · refine lv_iload_n hx hb dX12_isStepTold_164 rfl (lv_at hl 0 rfl) ?_
    refine lv_bipush (v := 6) hx hb dX12_isStepTold_165 (by decide) ?_
    refine w_icmp_ne (tgt := 174) C dX12_isStepTold_167 (by decide) e1 (fun hc e2 => ?_) (fun hc e2 => ?_)
    · refine lv_iconst (v := 0) hx hb dX12_isStepTold_174 (by decide) ?_
      exact b_M_isStepTold_175 C N     h (0 : Int32) _ _ ls w  (lv_sub hl [] rfl) e2
    · exact b_M_isStepTold_170 C N     h  _ _ ls w  (lv_sub hl [] rfl) e2
set_option maxRecDepth 20000 in
set_option maxHeartbeats 4000000 in
theorem b_M_isStepTold_158 {p : Program} {l : Launch} {e : Env} {s : State} {m : MethodId} {args : Array Value} {below : List Frame} {meth : Method} {c : Code} {D : va_G} {cy : cyT} {z : Nat} (C : MX p s m args meth c cX12_isStepTold 4 ((some .boolean)) RX12 (Cond.code yX12_isStepTold cX12_isStepTold 4 ((some .boolean)) :: GW)) (N : Nat) {r : Int32} {g : hS}  : ∀  (h : hS) (y0 : Int32) (H : Heap) (locs : List Loc) (ls : Array Slot), wd D cy z s 0 h H locs → lv_has ls 4 [] → f_M_isStepTold_158 N   h y0 = some (r, g) → W p l e { frames := 1, cells := 0, slots := 0, locals := 25 } s m args below meth c H locs 0 0 (MQ below (eQ D cy z (rI r) g) args s 0 0 (fun q => z ≤ q)) (F0 m 158 ls [.int y0]) := by
  obtain ⟨hx, hb, hr, hml, hown, hts, hlk⟩ := id C
  intro  h y0 H locs ls w  hl hE
  unfold f_M_isStepTold_158 at hE
  exact w_zret C w hE dX12_isStepTold_158
set_option maxRecDepth 20000 in
set_option maxHeartbeats 4000000 in
theorem b_M_isStepTold_157 {p : Program} {l : Launch} {e : Env} {s : State} {m : MethodId} {args : Array Value} {below : List Frame} {meth : Method} {c : Code} {D : va_G} {cy : cyT} {z : Nat} (C : MX p s m args meth c cX12_isStepTold 4 ((some .boolean)) RX12 (Cond.code yX12_isStepTold cX12_isStepTold 4 ((some .boolean)) :: GW)) (N : Nat) {r : Int32} {g : hS}  : ∀  (h : hS)  (H : Heap) (locs : List Loc) (ls : Array Slot), wd D cy z s 0 h H locs → lv_has ls 4 [] → f_M_isStepTold_157 N   h  = some (r, g) → W p l e { frames := 1, cells := 0, slots := 0, locals := 25 } s m args below meth c H locs 0 0 (MQ below (eQ D cy z (rI r) g) args s 0 0 (fun q => z ≤ q)) (F0 m 157 ls []) := by
  obtain ⟨hx, hb, hr, hml, hown, hts, hlk⟩ := id C
  intro  h  H locs ls w  hl hE
  unfold f_M_isStepTold_157 at hE
  refine lv_iconst (v := 0) hx hb dX12_isStepTold_157 (by decide) ?_
  exact b_M_isStepTold_158 C N     h (0 : Int32) _ _ ls w  (lv_sub hl [] rfl) hE
set_option maxRecDepth 20000 in
set_option maxHeartbeats 4000000 in
theorem k_M_isStepTold (l : Launch) (D : va_G) (cy : cyT) (z : Nat) (N : Nat) (h : hS) (x0 : Int32) (x1 : Int32) (x2 : Int32) (x3 : Int32) (r : Int32) (g : hS) (hE : f_M_isStepTold N h x0 x1 x2 x3 = some (r, g)) : ct l yX12_isStepTold (Cond.code yX12_isStepTold cX12_isStepTold 4 ((some .boolean)) :: GW) { frames := 1, cells := 0, slots := 0, locals := 25 } D cy z h [.int x0, .int x1, .int x2, .int x3] (rI r) g := by
  refine Met.ofW (cc := cX12_isStepTold) (maxL := 4) (ret := (some .boolean)) (by decide) rfl ?_
  intro p e s m args below meth c s₁ B hml hv
  obtain ⟨rfl, hw⟩ := hv
  have C : MX p s m ([.int x0, .int x1, .int x2, .int x3] : List Value).toArray meth c cX12_isStepTold 4 ((some .boolean)) RX12 (Cond.code yX12_isStepTold cX12_isStepTold 4 ((some .boolean)) :: GW) := ⟨B.exec, B.bytes, B.returns, hml, findClass_of_methodNamed B.named, atoms_spec (ws := Cond.code yX12_isStepTold cX12_isStepTold 4 ((some .boolean)) :: GW) B.pre, B.notSynchronized⟩
  obtain ⟨hx, hb, hr, hml, hown, hts, hlk⟩ := id C
  have w := wd_of hw
  obtain ⟨ls, hen, hl⟩ : ∃ ls : Array Slot, entryFrame m ([.int x0, .int x1, .int x2, .int x3] : List Value).toArray 4 = F0 m 0 ls [] ∧ lv_has ls 4 [(0, .int x0), (1, .int x1), (2, .int x2), (3, .int x3)] := by
    exact ⟨_, lg_entry_eq _ _ _, lv_entry _ (Nat.le_of_ble_eq_true rfl)⟩
  rw [hen]
  unfold f_M_isStepTold at hE
  refine lv_iload_n hx hb dX12_isStepTold_0 rfl (lv_at hl 1 rfl) ?_
  refine w_case hE (fun hc e1 => ?_) (fun nc1_0 e1 => ?_)
  · refine w_tin (tgt := 52) C hc dX12_isStepTold_1 (by decide) (by decide) rfl (by decide) ?_
    exact b_M_isStepTold_52 C N     h x2 x3 _ _ ls w  (lv_sub hl [2, 3] rfl) e1
  ·
    refine w_case e1 (fun hc e2 => ?_) (fun nc1_1 e2 => ?_)
    · refine w_tin (tgt := 52) C hc dX12_isStepTold_1 (by decide) (by decide) rfl (by decide) ?_
      exact b_M_isStepTold_52 C N     h x2 x3 _ _ ls w  (lv_sub hl [2, 3] rfl) e2
    ·
      refine w_case e2 (fun hc e3 => ?_) (fun nc1_2 e3 => ?_)
      · refine w_tin (tgt := 52) C hc dX12_isStepTold_1 (by decide) (by decide) rfl (by decide) ?_
        exact b_M_isStepTold_52 C N     h x2 x3 _ _ ls w  (lv_sub hl [2, 3] rfl) e3
      ·
        refine w_case e3 (fun hc e4 => ?_) (fun nc1_3 e4 => ?_)
        · refine w_tin (tgt := 84) C hc dX12_isStepTold_1 (by decide) (by decide) rfl (by decide) ?_
          refine lv_iload_n hx hb dX12_isStepTold_84 rfl (lv_at hl 2 rfl) ?_
          refine lv_i2l hx hb dX12_isStepTold_85 rfl ?_
          refine lv_ldc2 hx hb hown (hts _ (List.mem_cons_of_mem _ gw_57_19)) dX12_isStepTold_86 ?_
          refine lv_ldc2 hx hb hown (hts _ (List.mem_cons_of_mem _ gw_57_20)) dX12_isStepTold_89 ?_
          refine w_SI GW_good (n := 3) (F := 0) (Lc := 0) (av := [.long x2.toInt64, .long (-500 : Int64), .long (500 : Int64)]) (rest := []) C w (fun r g hf => k_M_isIn l D cy z N h x2.toInt64 (-500 : Int64) (500 : Int64) r g hf) gw_25_1 gw_25_2 gw_1_5 gw_25_3 (by decide +kernel) ⟨Nat.le_of_ble_eq_true rfl, Nat.le_of_ble_eq_true rfl⟩ rfl hl.1 rfl (Nat.le_of_ble_eq_true rfl) dX12_isStepTold_92 (sh_M_isIn N h x2.toInt64 (-500 : Int64) (500 : Int64)) ⟨by decide, by decide⟩ e4 (fun v1 h2 H locs w hsh2 e5 => ?_)
          exact w_zret C w e5 dX12_isStepTold_95
        ·
          refine w_case e4 (fun hc e6 => ?_) (fun nc1_4 e6 => ?_)
          · refine w_tin (tgt := 96) C hc dX12_isStepTold_1 (by decide) (by decide) rfl (by decide) ?_
            refine lv_iload_n hx hb dX12_isStepTold_96 rfl (lv_at hl 2 rfl) ?_
            refine lv_i2l hx hb dX12_isStepTold_97 rfl ?_
            refine lv_lconst (v := 0) hx hb dX12_isStepTold_98 (by decide) ?_
            refine lv_ldc2 hx hb hown (hts _ (List.mem_cons_of_mem _ gw_57_21)) dX12_isStepTold_99 ?_
            refine w_SI GW_good (n := 3) (F := 0) (Lc := 0) (av := [.long x2.toInt64, .long (0 : Int64), .long (99 : Int64)]) (rest := []) C w (fun r g hf => k_M_isIn l D cy z N h x2.toInt64 (0 : Int64) (99 : Int64) r g hf) gw_25_1 gw_25_2 gw_1_5 gw_25_3 (by decide +kernel) ⟨Nat.le_of_ble_eq_true rfl, Nat.le_of_ble_eq_true rfl⟩ rfl hl.1 rfl (Nat.le_of_ble_eq_true rfl) dX12_isStepTold_102 (sh_M_isIn N h x2.toInt64 (0 : Int64) (99 : Int64)) ⟨by decide, by decide⟩ e6 (fun v3 h4 H locs w hsh4 e7 => ?_)
            refine w_if_eq (tgt := 124) C dX12_isStepTold_105 (by decide) e7 (fun hc e8 => ?_) (fun hc e8 => ?_)
            · exact b_M_isStepTold_124 C N     h4  _ _ ls w  (lv_sub hl [] rfl) e8
            · refine lv_iload_n hx hb dX12_isStepTold_108 rfl (lv_at hl 3 rfl) ?_
              refine lv_i2l hx hb dX12_isStepTold_109 rfl ?_
              refine lv_lconst (v := 0) hx hb dX12_isStepTold_110 (by decide) ?_
              refine lv_ldc2 hx hb hown (hts _ (List.mem_cons_of_mem _ gw_57_21)) dX12_isStepTold_111 ?_
              refine w_SI GW_good (n := 3) (F := 0) (Lc := 0) (av := [.long x3.toInt64, .long (0 : Int64), .long (99 : Int64)]) (rest := []) C w (fun r g hf => k_M_isIn l D cy z N h4 x3.toInt64 (0 : Int64) (99 : Int64) r g hf) gw_25_1 gw_25_2 gw_1_5 gw_25_3 (by decide +kernel) ⟨Nat.le_of_ble_eq_true rfl, Nat.le_of_ble_eq_true rfl⟩ rfl hl.1 rfl (Nat.le_of_ble_eq_true rfl) dX12_isStepTold_114 (sh_M_isIn N h4 x3.toInt64 (0 : Int64) (99 : Int64)) ⟨by decide, by decide⟩ e8 (fun v5 h6 H locs w hsh6 e9 => ?_)
              refine w_if_eq (tgt := 124) C dX12_isStepTold_117 (by decide) e9 (fun hc e10 => ?_) (fun hc e10 => ?_)
              · exact b_M_isStepTold_124 C N     h6  _ _ ls w  (lv_sub hl [] rfl) e10
              · refine lv_iconst (v := 1) hx hb dX12_isStepTold_120 (by decide) ?_
                refine lv_goto (tgt := 125) hx hb dX12_isStepTold_121 (by decide) ?_
                exact b_M_isStepTold_125 C N     h6 (1 : Int32) _ _ ls w  (lv_sub hl [] rfl) e10
          ·
            refine w_case e6 (fun hc e11 => ?_) (fun nc1_5 e11 => ?_)
            · refine w_tin (tgt := 159) C hc dX12_isStepTold_1 (by decide) (by decide) rfl (by decide) ?_
              exact b_M_isStepTold_159 C N     h x1 _ _ ls w  (lv_sub hl [1] rfl) e11
            ·
              refine w_case e11 (fun hc e12 => ?_) (fun nc1_6 e12 => ?_)
              · refine w_tin (tgt := 159) C hc dX12_isStepTold_1 (by decide) (by decide) rfl (by decide) ?_
                exact b_M_isStepTold_159 C N     h x1 _ _ ls w  (lv_sub hl [1] rfl) e12
              ·
                refine w_case e12 (fun hc e13 => ?_) (fun nc1_7 e13 => ?_)
                · refine w_tin (tgt := 126) C hc dX12_isStepTold_1 (by decide) (by decide) rfl (by decide) ?_
                  refine lv_iload_n hx hb dX12_isStepTold_126 rfl (lv_at hl 2 rfl) ?_
                  refine lv_i2l hx hb dX12_isStepTold_127 rfl ?_
                  refine lv_lconst (v := 0) hx hb dX12_isStepTold_128 (by decide) ?_
                  refine lv_ldc2 hx hb hown (hts _ (List.mem_cons_of_mem _ gw_57_22)) dX12_isStepTold_129 ?_
                  refine w_SI GW_good (n := 3) (F := 0) (Lc := 0) (av := [.long x2.toInt64, .long (0 : Int64), .long (999 : Int64)]) (rest := []) C w (fun r g hf => k_M_isIn l D cy z N h x2.toInt64 (0 : Int64) (999 : Int64) r g hf) gw_25_1 gw_25_2 gw_1_5 gw_25_3 (by decide +kernel) ⟨Nat.le_of_ble_eq_true rfl, Nat.le_of_ble_eq_true rfl⟩ rfl hl.1 rfl (Nat.le_of_ble_eq_true rfl) dX12_isStepTold_132 (sh_M_isIn N h x2.toInt64 (0 : Int64) (999 : Int64)) ⟨by decide, by decide⟩ e13 (fun v7 h8 H locs w hsh8 e14 => ?_)
                  exact w_zret C w e14 dX12_isStepTold_135
                ·
                  refine w_case e13 (fun hc e15 => ?_) (fun nc1_8 e15 => ?_)
                  · refine w_tin (tgt := 136) C hc dX12_isStepTold_1 (by decide) (by decide) rfl (by decide) ?_
                    refine lv_iload_n hx hb dX12_isStepTold_136 rfl (lv_at hl 2 rfl) ?_
                    refine lv_i2l hx hb dX12_isStepTold_137 rfl ?_
                    refine lv_lconst (v := 0) hx hb dX12_isStepTold_138 (by decide) ?_
                    refine lv_ldc2 hx hb hown (hts _ (List.mem_cons_of_mem _ gw_25_0)) dX12_isStepTold_139 ?_
                    refine w_SI GW_good (n := 3) (F := 0) (Lc := 0) (av := [.long x2.toInt64, .long (0 : Int64), .long (3 : Int64)]) (rest := []) C w (fun r g hf => k_M_isIn l D cy z N h x2.toInt64 (0 : Int64) (3 : Int64) r g hf) gw_25_1 gw_25_2 gw_1_5 gw_25_3 (by decide +kernel) ⟨Nat.le_of_ble_eq_true rfl, Nat.le_of_ble_eq_true rfl⟩ rfl hl.1 rfl (Nat.le_of_ble_eq_true rfl) dX12_isStepTold_142 (sh_M_isIn N h x2.toInt64 (0 : Int64) (3 : Int64)) ⟨by decide, by decide⟩ e15 (fun v9 h10 H locs w hsh10 e16 => ?_)
                    refine w_if_eq (tgt := 157) C dX12_isStepTold_145 (by decide) e16 (fun hc e17 => ?_) (fun hc e17 => ?_)
                    · exact b_M_isStepTold_157 C N     h10  _ _ ls w  (lv_sub hl [] rfl) e17
                    · refine lv_iload_n hx hb dX12_isStepTold_148 rfl (lv_at hl 2 rfl) ?_
                      refine lv_iload_n hx hb dX12_isStepTold_149 rfl (lv_at hl 0 rfl) ?_
                      refine w_icmp_eq (tgt := 157) C dX12_isStepTold_150 (by decide) e17 (fun hc e18 => ?_) (fun hc e18 => ?_)
                      · exact b_M_isStepTold_157 C N     h10  _ _ ls w  (lv_sub hl [] rfl) e18
                      · refine lv_iconst (v := 1) hx hb dX12_isStepTold_153 (by decide) ?_
                        refine lv_goto (tgt := 158) hx hb dX12_isStepTold_154 (by decide) ?_
                        exact b_M_isStepTold_158 C N     h10 (1 : Int32) _ _ ls w  (lv_sub hl [] rfl) e18
                  ·
                    refine w_tout (tgt := 159) 0 9 C (by decide) (by intro k hk; rcases (show k = 0 ∨ k = 1 ∨ k = 2 ∨ k = 3 ∨ k = 4 ∨ k = 5 ∨ k = 6 ∨ k = 7 ∨ k = 8 by omega) with rfl | rfl | rfl | rfl | rfl | rfl | rfl | rfl | rfl; all_goals assumption) rfl rfl dX12_isStepTold_1 (by decide) ?_
                    exact b_M_isStepTold_159 C N     h x1 _ _ ls w  (lv_sub hl [1] rfl) e15
set_option maxRecDepth 20000 in
set_option maxHeartbeats 4000000 in
theorem b_M_undo_26 {p : Program} {l : Launch} {e : Env} {s : State} {m : MethodId} {args : Array Value} {below : List Frame} {meth : Method} {c : Code} {D : va_G} {cy : cyT} {z : Nat} (C : MX p s m args meth c cX12_undo 2 ((some .int)) RX12 (Cond.code yX12_undo cX12_undo 2 ((some .int)) :: GW)) (N : Nat) {r : Int32} {g : hS}  : ∀ (n : Nat) (h : hS) (th : Nat) (x1 : Int32) (H : Heap) (locs : List Loc) (ls : Array Slot), wd D cy z s 0 h H locs → lv_has ls 2 [(0, .ref th), (1, .int x1)] → f_M_undo_26 N  n h th x1 = some (r, g) → W p l e { frames := 0, cells := 0, slots := 0, locals := 0 } s m args below meth c H locs 0 0 (MQ below (eQ D cy z (rI r) g) args s 0 0 (fun q => z ≤ q)) (F0 m 26 ls []) := by
  obtain ⟨hx, hb, hr, hml, hown, hts, hlk⟩ := id C
  intro n
  induction n with
  | zero =>
    intro  h th x1 H locs ls w  hl hE
    cases hE
  | succ n ih =>
    intro  h th x1 H locs ls w  hl hE
    unfold f_M_undo_26 at hE
    refine lv_iload_n hx hb dX12_undo_26 rfl (lv_at hl 1 rfl) ?_
    refine lv_sipush (v := 644) hx hb dX12_undo_27 (by decide) ?_
    refine w_icmp_ge (tgt := 76) C dX12_undo_30 (by decide) hE (fun hc e1 => ?_) (fun hc e1 => ?_)
    · refine lv_aload_n hx hb dX12_undo_76 rfl (lv_at hl 0 rfl) ?_
      refine w_gI (r := some th) (ci := 0) (k := 41) C w rfl (by decide) (GF_wsX120 _) (by decide) rfl (List.mem_cons_of_mem _ gw_31_10) rfl dX12_undo_77 e1 (fun v1 e2 => ?_)
      exact w_iret C w e2 dX12_undo_80
    · refine lv_aload_n hx hb dX12_undo_33 rfl (lv_at hl 0 rfl) ?_
      refine w_gR (r := some th) (ci := 0) (k := 2) C w rfl (by decide) (GF_wsX120 _) (by decide) rfl (List.mem_cons_of_mem _ gw_6_21) rfl dX12_undo_34 e1 (fun v2 e3 => ?_)
      refine lv_iload_n hx hb dX12_undo_37 rfl (lv_at hl 1 rfl) ?_
      refine lv_aload_n hx hb dX12_undo_38 rfl (lv_at hl 0 rfl) ?_
      refine w_gR (r := some th) (ci := 0) (k := 42) C w rfl (by decide) (GF_wsX120 _) (by decide) rfl (List.mem_cons_of_mem _ gw_7_20) rfl dX12_undo_39 e3 (fun v3 e4 => ?_)
      refine lv_sipush (v := 644) hx hb dX12_undo_42 (by decide) ?_
      refine lv_aload_n hx hb dX12_undo_45 rfl (lv_at hl 0 rfl) ?_
      refine w_gI (r := some th) (ci := 0) (k := 41) C w rfl (by decide) (GF_wsX120 _) (by decide) rfl (List.mem_cons_of_mem _ gw_31_10) rfl dX12_undo_46 e4 (fun v4 e5 => ?_)
      refine lv_imul hx hb dX12_undo_49 ?_
      refine lv_iload_n hx hb dX12_undo_50 rfl (lv_at hl 1 rfl) ?_
      refine lv_iadd hx hb dX12_undo_51 ?_
      refine w_aI (r := v3) C w dX12_undo_52 e5 (fun v5 e6 => ?_)
      refine w_uI (r := v2) C w dX12_undo_53 e6 (fun h6 H locs w hsh6 e7 => ?_)
      refine lv_aload_n hx hb dX12_undo_54 rfl (lv_at hl 0 rfl) ?_
      refine w_gR (r := some th) (ci := 0) (k := 42) C w rfl (by decide) (GF_wsX120 _) (by decide) rfl (List.mem_cons_of_mem _ gw_7_20) rfl dX12_undo_55 e7 (fun v7 e8 => ?_)
      refine lv_sipush (v := 644) hx hb dX12_undo_58 (by decide) ?_
      refine lv_aload_n hx hb dX12_undo_61 rfl (lv_at hl 0 rfl) ?_
      refine w_gI (r := some th) (ci := 0) (k := 41) C w rfl (by decide) (GF_wsX120 _) (by decide) rfl (List.mem_cons_of_mem _ gw_31_10) rfl dX12_undo_62 e8 (fun v8 e9 => ?_)
      refine lv_imul hx hb dX12_undo_65 ?_
      refine lv_iload_n hx hb dX12_undo_66 rfl (lv_at hl 1 rfl) ?_
      refine lv_iadd hx hb dX12_undo_67 ?_
      refine lv_iconst (v := 0) hx hb dX12_undo_68 (by decide) ?_
      refine w_uI (r := v7) C w dX12_undo_69 e9 (fun h9 H locs w hsh9 e10 => ?_)
      obtain ⟨v10, ev10, e11⟩ := bn_some e10
      refine lv_iinc (v := v10) (lv' := [(1, .int v10), (0, .ref th)]) hx hb dX12_undo_70 hl (k := 1) rfl (by rw [ev10]; rfl) (by decide) rfl (fun ls hl => ?_)
      refine lv_goto (tgt := 26) hx hb dX12_undo_73 (by decide) ?_
      exact ih  h9 th v10 _ _ ls w  (lv_sub hl [1, 0] rfl) e11
set_option maxRecDepth 20000 in
set_option maxHeartbeats 4000000 in
theorem k_M_undo (l : Launch) (D : va_G) (cy : cyT) (z : Nat) (N : Nat) (h : hS) (th : Nat) (r : Int32) (g : hS) (hE : f_M_undo N h th = some (r, g)) : ct l yX12_undo (Cond.code yX12_undo cX12_undo 2 ((some .int)) :: GW) { frames := 0, cells := 0, slots := 0, locals := 0 } D cy z h [.ref th] (rI r) g := by
  refine Met.ofW (cc := cX12_undo) (maxL := 2) (ret := (some .int)) (by decide) rfl ?_
  intro p e s m args below meth c s₁ B hml hv
  obtain ⟨rfl, hw⟩ := hv
  have C : MX p s m ([.ref th] : List Value).toArray meth c cX12_undo 2 ((some .int)) RX12 (Cond.code yX12_undo cX12_undo 2 ((some .int)) :: GW) := ⟨B.exec, B.bytes, B.returns, hml, findClass_of_methodNamed B.named, atoms_spec (ws := Cond.code yX12_undo cX12_undo 2 ((some .int)) :: GW) B.pre, B.notSynchronized⟩
  obtain ⟨hx, hb, hr, hml, hown, hts, hlk⟩ := id C
  have w := wd_of hw
  obtain ⟨ls, hen, hl⟩ : ∃ ls : Array Slot, entryFrame m ([.ref th] : List Value).toArray 2 = F0 m 0 ls [] ∧ lv_has ls 2 [(0, .ref th)] := by
    exact ⟨_, lg_entry_eq _ _ _, lv_entry _ (Nat.le_of_ble_eq_true rfl)⟩
  rw [hen]
  unfold f_M_undo at hE
  refine lv_aload_n hx hb dX12_undo_0 rfl (lv_at hl 0 rfl) ?_
  refine lv_iconst (v := 0) hx hb dX12_undo_1 (by decide) ?_
  refine w_pI (r := some th) (ci := 0) (k := 1) C w rfl (by decide) (by unfold roK; omega) (GF_wsX120 _) tyX12 tyX12_ok nmX12 (by decide) rfl (List.mem_cons_of_mem _ gw_8_18) rfl rfl (tyX12_ok 1 (by decide)) dX12_undo_2 hE (fun h1 H locs w hsh1 e1 => ?_)
  refine lv_aload_n hx hb dX12_undo_5 rfl (lv_at hl 0 rfl) ?_
  refine w_gI (r := some th) (ci := 0) (k := 41) C w rfl (by decide) (GF_wsX120 _) (by decide) rfl (List.mem_cons_of_mem _ gw_31_10) rfl dX12_undo_6 e1 (fun v2 e2 => ?_)
  refine w_if_ne (tgt := 14) C dX12_undo_9 (by decide) e2 (fun hc e3 => ?_) (fun hc e3 => ?_)
  · refine lv_aload_n hx hb dX12_undo_14 rfl (lv_at hl 0 rfl) ?_
    refine lv_dup hx hb dX12_undo_15 rfl ?_
    refine w_gI (r := some th) (ci := 0) (k := 41) C w rfl (by decide) (GF_wsX120 _) (by decide) rfl (List.mem_cons_of_mem _ gw_31_10) rfl dX12_undo_16 e3 (fun v3 e4 => ?_)
    refine lv_iconst (v := 1) hx hb dX12_undo_19 (by decide) ?_
    refine lv_isub hx hb dX12_undo_20 ?_
    refine w_pI (r := some th) (ci := 0) (k := 41) C w rfl (by decide) (by unfold roK; omega) (GF_wsX120 _) tyX12 tyX12_ok nmX12 (by decide) rfl (List.mem_cons_of_mem _ gw_31_10) rfl rfl (tyX12_ok 41 (by decide)) dX12_undo_21 e4 (fun h4 H locs w hsh4 e5 => ?_)
    refine lv_iconst (v := 0) hx hb dX12_undo_24 (by decide) ?_
    refine lv_istore_n (lv' := [(1, .int (0 : Int32)), (0, .ref th)]) hx hb dX12_undo_25 rfl hl (by decide) rfl (fun ls hl => ?_)
    exact b_M_undo_26 C N   N  h4 th (0 : Int32) _ _ ls w  (lv_sub hl [1, 0] rfl) e5
  · refine lv_iconst (v := -1) hx hb dX12_undo_12 (by decide) ?_
    exact w_iret C w e3 dX12_undo_13
set_option maxRecDepth 20000 in
set_option maxHeartbeats 4000000 in
theorem b_M_note_21 {p : Program} {l : Launch} {e : Env} {s : State} {m : MethodId} {args : Array Value} {below : List Frame} {meth : Method} {c : Code} {D : va_G} {cy : cyT} {z : Nat} (C : MX p s m args meth c cX12_note 4 ((some .int)) RX12 (Cond.code yX12_note cX12_note 4 ((some .int)) :: GW)) (N : Nat) {r : Int32} {g : hS}  : ∀  (h : hS) (th : Nat) (H : Heap) (locs : List Loc) (ls : Array Slot), wd D cy z s 0 h H locs → lv_has ls 4 [(0, .ref th)] → f_M_note_21 N   h th = some (r, g) → W p l e { frames := 2, cells := 0, slots := 0, locals := 45 } s m args below meth c H locs 0 0 (MQ below (eQ D cy z (rI r) g) args s 0 0 (fun q => z ≤ q)) (F0 m 21 ls []) := by
  obtain ⟨hx, hb, hr, hml, hown, hts, hlk⟩ := id C
  intro  h th H locs ls w  hl hE
  unfold f_M_note_21 at hE
  refine lv_aload_n hx hb dX12_note_21 rfl (lv_at hl 0 rfl) ?_
  refine lv_iconst (v := 2) hx hb dX12_note_22 (by decide) ?_
  refine w_VI GW_good (n := 1) (F := 0) (Lc := 0) (o := some th) (av := [.int (2 : Int32)]) (rest := []) C w rfl (by decide) (fun a r g hf => k_M_refuse l D cy z N h a (2 : Int32) r g hf) gw_57_23 gw_58_0 gw_58_1 gw_1_5 gw_58_2 (by decide +kernel) ⟨Nat.le_of_ble_eq_true rfl, Nat.le_of_ble_eq_true rfl⟩ rfl hl.1 rfl (Nat.le_of_ble_eq_true rfl) dX12_note_23 (fun a => (sh_M_refuse N h a (2 : Int32))) ⟨by decide, by decide⟩ hE (fun v1 h2 H locs w hsh2 e1 => ?_)
  exact w_iret C w e1 dX12_note_26
set_option maxRecDepth 20000 in
set_option maxHeartbeats 4000000 in
theorem k_M_note (l : Launch) (D : va_G) (cy : cyT) (z : Nat) (N : Nat) (h : hS) (th : Nat) (x1 : Int32) (x2 : Int64) (r : Int32) (g : hS) (hE : f_M_note N h th x1 x2 = some (r, g)) : ct l yX12_note (Cond.code yX12_note cX12_note 4 ((some .int)) :: GW) { frames := 2, cells := 0, slots := 0, locals := 45 } D cy z h [.ref th, .int x1, .long x2] (rI r) g := by
  refine Met.ofW (cc := cX12_note) (maxL := 4) (ret := (some .int)) (by decide) rfl ?_
  intro p e s m args below meth c s₁ B hml hv
  obtain ⟨rfl, hw⟩ := hv
  have C : MX p s m ([.ref th, .int x1, .long x2] : List Value).toArray meth c cX12_note 4 ((some .int)) RX12 (Cond.code yX12_note cX12_note 4 ((some .int)) :: GW) := ⟨B.exec, B.bytes, B.returns, hml, findClass_of_methodNamed B.named, atoms_spec (ws := Cond.code yX12_note cX12_note 4 ((some .int)) :: GW) B.pre, B.notSynchronized⟩
  obtain ⟨hx, hb, hr, hml, hown, hts, hlk⟩ := id C
  have w := wd_of hw
  obtain ⟨ls, hen, hl⟩ : ∃ ls : Array Slot, entryFrame m ([.ref th, .int x1, .long x2] : List Value).toArray 4 = F0 m 0 ls [] ∧ lv_has ls 4 [(0, .ref th), (1, .int x1), (2, .long x2)] := by
    exact ⟨_, lg_entry_eq _ _ _, lv_entry _ (Nat.le_of_ble_eq_true rfl)⟩
  rw [hen]
  unfold f_M_note at hE
  refine lv_aload_n hx hb dX12_note_0 rfl (lv_at hl 0 rfl) ?_
  refine lv_iconst (v := 0) hx hb dX12_note_1 (by decide) ?_
  refine w_pI (r := some th) (ci := 0) (k := 1) C w rfl (by decide) (by unfold roK; omega) (GF_wsX120 _) tyX12 tyX12_ok nmX12 (by decide) rfl (List.mem_cons_of_mem _ gw_8_18) rfl rfl (tyX12_ok 1 (by decide)) dX12_note_2 hE (fun h1 H locs w hsh1 e1 => ?_)
  refine lv_aload_n hx hb dX12_note_5 rfl (lv_at hl 0 rfl) ?_
  refine w_gI (r := some th) (ci := 0) (k := 43) C w rfl (by decide) (GF_wsX120 _) (by decide) rfl (List.mem_cons_of_mem _ gw_32_17) rfl dX12_note_6 e1 (fun v2 e2 => ?_)
  refine lv_bipush (v := 8) hx hb dX12_note_9 (by decide) ?_
  refine w_icmp_eq (tgt := 21) C dX12_note_11 (by decide) e2 (fun hc e3 => ?_) (fun hc e3 => ?_)
  · exact b_M_note_21 C N     h1 th _ _ ls w  (lv_sub hl [0] rfl) e3
  · refine lv_iload_n hx hb dX12_note_14 rfl (lv_at hl 1 rfl) ?_
    refine w_SI GW_good (n := 1) (F := 1) (Lc := 25) (av := [.int x1]) (rest := []) C w (fun r g hf => k_M_isX l D cy z N h1 x1 r g hf) gw_34_22 gw_34_23 gw_1_5 gw_35_0 (by decide +kernel) ⟨Nat.le_of_ble_eq_true rfl, Nat.le_of_ble_eq_true rfl⟩ rfl hl.1 rfl (Nat.le_of_ble_eq_true rfl) dX12_note_15 (sh_M_isX N h1 x1) ⟨by decide, by decide⟩ e3 (fun v3 h4 H locs w hsh4 e4 => ?_)
    refine w_if_ne (tgt := 27) C dX12_note_18 (by decide) e4 (fun hc e5 => ?_) (fun hc e5 => ?_)
    · refine lv_aload_n hx hb dX12_note_27 rfl (lv_at hl 0 rfl) ?_
      refine w_gR (r := some th) (ci := 0) (k := 44) C w rfl (by decide) (GF_wsX120 _) (by decide) rfl (List.mem_cons_of_mem _ gw_7_21) rfl dX12_note_28 e5 (fun v5 e6 => ?_)
      refine lv_aload_n hx hb dX12_note_31 rfl (lv_at hl 0 rfl) ?_
      refine w_gI (r := some th) (ci := 0) (k := 43) C w rfl (by decide) (GF_wsX120 _) (by decide) rfl (List.mem_cons_of_mem _ gw_32_17) rfl dX12_note_32 e6 (fun v6 e7 => ?_)
      refine lv_iload_n hx hb dX12_note_35 rfl (lv_at hl 1 rfl) ?_
      refine w_uI (r := v5) C w dX12_note_36 e7 (fun h7 H locs w hsh7 e8 => ?_)
      refine lv_aload_n hx hb dX12_note_37 rfl (lv_at hl 0 rfl) ?_
      refine w_gR (r := some th) (ci := 0) (k := 45) C w rfl (by decide) (GF_wsX120 _) (by decide) rfl (List.mem_cons_of_mem _ gw_7_22) rfl dX12_note_38 e8 (fun v8 e9 => ?_)
      refine lv_aload_n hx hb dX12_note_41 rfl (lv_at hl 0 rfl) ?_
      refine w_gI (r := some th) (ci := 0) (k := 43) C w rfl (by decide) (GF_wsX120 _) (by decide) rfl (List.mem_cons_of_mem _ gw_32_17) rfl dX12_note_42 e9 (fun v9 e10 => ?_)
      refine lv_lload_n hx hb dX12_note_45 rfl (lv_at hl 2 rfl) ?_
      refine w_uJ (r := v8) C w dX12_note_46 e10 (fun h10 H locs w hsh10 e11 => ?_)
      refine lv_aload_n hx hb dX12_note_47 rfl (lv_at hl 0 rfl) ?_
      refine lv_dup hx hb dX12_note_48 rfl ?_
      refine w_gI (r := some th) (ci := 0) (k := 43) C w rfl (by decide) (GF_wsX120 _) (by decide) rfl (List.mem_cons_of_mem _ gw_32_17) rfl dX12_note_49 e11 (fun v11 e12 => ?_)
      refine lv_iconst (v := 1) hx hb dX12_note_52 (by decide) ?_
      refine lv_iadd hx hb dX12_note_53 ?_
      refine w_pI (r := some th) (ci := 0) (k := 43) C w rfl (by decide) (by unfold roK; omega) (GF_wsX120 _) tyX12 tyX12_ok nmX12 (by decide) rfl (List.mem_cons_of_mem _ gw_32_17) rfl rfl (tyX12_ok 43 (by decide)) dX12_note_54 e12 (fun h12 H locs w hsh12 e13 => ?_)
      refine lv_aload_n hx hb dX12_note_57 rfl (lv_at hl 0 rfl) ?_
      refine w_gI (r := some th) (ci := 0) (k := 43) C w rfl (by decide) (GF_wsX120 _) (by decide) rfl (List.mem_cons_of_mem _ gw_32_17) rfl dX12_note_58 e13 (fun v13 e14 => ?_)
      exact w_iret C w e14 dX12_note_61
    · exact b_M_note_21 C N     h4 th _ _ ls w  (lv_sub hl [0] rfl) e5
set_option maxRecDepth 20000 in
set_option maxHeartbeats 4000000 in
theorem k_M_forget (l : Launch) (D : va_G) (cy : cyT) (z : Nat) (N : Nat) (h : hS) (th : Nat) (r : Unit) (g : hS) (hE : f_M_forget N h th = some (r, g)) : ct l yX12_forget (Cond.code yX12_forget cX12_forget 1 (none) :: GW) { frames := 0, cells := 0, slots := 0, locals := 0 } D cy z h [.ref th] (rV r) g := by
  refine Met.ofW (cc := cX12_forget) (maxL := 1) (ret := none) (by decide) rfl ?_
  intro p e s m args below meth c s₁ B hml hv
  obtain ⟨rfl, hw⟩ := hv
  have C : MX p s m ([.ref th] : List Value).toArray meth c cX12_forget 1 (none) RX12 (Cond.code yX12_forget cX12_forget 1 (none) :: GW) := ⟨B.exec, B.bytes, B.returns, hml, findClass_of_methodNamed B.named, atoms_spec (ws := Cond.code yX12_forget cX12_forget 1 (none) :: GW) B.pre, B.notSynchronized⟩
  obtain ⟨hx, hb, hr, hml, hown, hts, hlk⟩ := id C
  have w := wd_of hw
  obtain ⟨ls, hen, hl⟩ : ∃ ls : Array Slot, entryFrame m ([.ref th] : List Value).toArray 1 = F0 m 0 ls [] ∧ lv_has ls 1 [(0, .ref th)] := by
    exact ⟨_, lg_entry_eq _ _ _, lv_entry _ (Nat.le_of_ble_eq_true rfl)⟩
  rw [hen]
  unfold f_M_forget at hE
  refine lv_aload_n hx hb dX12_forget_0 rfl (lv_at hl 0 rfl) ?_
  refine lv_iconst (v := 0) hx hb dX12_forget_1 (by decide) ?_
  refine w_pI (r := some th) (ci := 0) (k := 1) C w rfl (by decide) (by unfold roK; omega) (GF_wsX120 _) tyX12 tyX12_ok nmX12 (by decide) rfl (List.mem_cons_of_mem _ gw_8_18) rfl rfl (tyX12_ok 1 (by decide)) dX12_forget_2 hE (fun h1 H locs w hsh1 e1 => ?_)
  refine lv_aload_n hx hb dX12_forget_5 rfl (lv_at hl 0 rfl) ?_
  refine lv_iconst (v := 0) hx hb dX12_forget_6 (by decide) ?_
  refine w_pI (r := some th) (ci := 0) (k := 43) C w rfl (by decide) (by unfold roK; omega) (GF_wsX120 _) tyX12 tyX12_ok nmX12 (by decide) rfl (List.mem_cons_of_mem _ gw_32_17) rfl rfl (tyX12_ok 43 (by decide)) dX12_forget_7 e1 (fun h2 H locs w hsh2 e2 => ?_)
  exact w_vret C w e2 dX12_forget_10
set_option maxRecDepth 20000 in
set_option maxHeartbeats 4000000 in
theorem k_M_draw (l : Launch) (D : va_G) (cy : cyT) (z : Nat) (N : Nat) (h : hS) (th : Nat) (x1 : Int32) (r : Int32) (g : hS) (hE : f_M_draw N h th x1 = some (r, g)) : ct l yX12_draw (Cond.code yX12_draw cX12_draw 2 ((some .int)) :: GW) { frames := 0, cells := 0, slots := 0, locals := 0 } D cy z h [.ref th, .int x1] (rI r) g := by
  refine Met.ofW (cc := cX12_draw) (maxL := 2) (ret := (some .int)) (by decide) rfl ?_
  intro p e s m args below meth c s₁ B hml hv
  obtain ⟨rfl, hw⟩ := hv
  have C : MX p s m ([.ref th, .int x1] : List Value).toArray meth c cX12_draw 2 ((some .int)) RX12 (Cond.code yX12_draw cX12_draw 2 ((some .int)) :: GW) := ⟨B.exec, B.bytes, B.returns, hml, findClass_of_methodNamed B.named, atoms_spec (ws := Cond.code yX12_draw cX12_draw 2 ((some .int)) :: GW) B.pre, B.notSynchronized⟩
  obtain ⟨hx, hb, hr, hml, hown, hts, hlk⟩ := id C
  have w := wd_of hw
  obtain ⟨ls, hen, hl⟩ : ∃ ls : Array Slot, entryFrame m ([.ref th, .int x1] : List Value).toArray 2 = F0 m 0 ls [] ∧ lv_has ls 2 [(0, .ref th), (1, .int x1)] := by
    exact ⟨_, lg_entry_eq _ _ _, lv_entry _ (Nat.le_of_ble_eq_true rfl)⟩
  rw [hen]
  unfold f_M_draw at hE
  refine lv_aload_n hx hb dX12_draw_0 rfl (lv_at hl 0 rfl) ?_
  refine lv_aload_n hx hb dX12_draw_1 rfl (lv_at hl 0 rfl) ?_
  refine w_gI (r := some th) (ci := 0) (k := 48) C w rfl (by decide) (GF_wsX120 _) (by decide) rfl (List.mem_cons_of_mem _ gw_64_3) rfl dX12_draw_2 hE (fun v1 e1 => ?_)
  refine lv_ldcw hx hb hown (hts _ (List.mem_cons_of_mem _ gw_64_12)) dX12_draw_5 ?_
  refine lv_imul hx hb dX12_draw_8 ?_
  refine lv_sipush (v := 12345) hx hb dX12_draw_9 (by decide) ?_
  refine lv_iadd hx hb dX12_draw_12 ?_
  refine w_pI (r := some th) (ci := 0) (k := 48) C w rfl (by decide) (by unfold roK; omega) (GF_wsX120 _) tyX12 tyX12_ok nmX12 (by decide) rfl (List.mem_cons_of_mem _ gw_64_3) rfl rfl (tyX12_ok 48 (by decide)) dX12_draw_13 e1 (fun h2 H locs w hsh2 e2 => ?_)
  refine lv_aload_n hx hb dX12_draw_16 rfl (lv_at hl 0 rfl) ?_
  refine w_gI (r := some th) (ci := 0) (k := 48) C w rfl (by decide) (GF_wsX120 _) (by decide) rfl (List.mem_cons_of_mem _ gw_64_3) rfl dX12_draw_17 e2 (fun v3 e3 => ?_)
  refine lv_bipush (v := 16) hx hb dX12_draw_20 (by decide) ?_
  refine lv_ishr hx hb dX12_draw_22 ?_
  refine lv_sipush (v := 32767) hx hb dX12_draw_23 (by decide) ?_
  refine lv_iand hx hb dX12_draw_26 ?_
  refine lv_iload_n hx hb dX12_draw_27 rfl (lv_at hl 1 rfl) ?_
  refine w_irem C dX12_draw_28 e3 (fun e4 => ?_)
  exact w_iret C w e4 dX12_draw_29
set_option maxRecDepth 20000 in
set_option maxHeartbeats 4000000 in
theorem b_M_image_61 {p : Program} {l : Launch} {e : Env} {s : State} {m : MethodId} {args : Array Value} {below : List Frame} {meth : Method} {c : Code} {D : va_G} {cy : cyT} {z : Nat} (C : MX p s m args meth c cX12_image 2 (none) RX12 (Cond.code yX12_image cX12_image 2 (none) :: GW)) (N : Nat) {r : Unit} {g : hS}  : ∀ (n : Nat) (h : hS) (th : Nat) (x1 : Int32) (H : Heap) (locs : List Loc) (ls : Array Slot), wd D cy z s 0 h H locs → lv_has ls 2 [(0, .ref th), (1, .int x1)] → f_M_image_61 N  n h th x1 = some (r, g) → W p l e { frames := 1, cells := 0, slots := 0, locals := 22 } s m args below meth c H locs 0 0 (MQ below (eQ D cy z (rV r) g) args s 0 0 (fun q => z ≤ q)) (F0 m 61 ls []) := by
  obtain ⟨hx, hb, hr, hml, hown, hts, hlk⟩ := id C
  intro n
  induction n with
  | zero =>
    intro  h th x1 H locs ls w  hl hE
    cases hE
  | succ n ih =>
    intro  h th x1 H locs ls w  hl hE
    unfold f_M_image_61 at hE
    refine lv_iload_n hx hb dX12_image_61 rfl (lv_at hl 1 rfl) ?_
    refine lv_bipush (v := 8) hx hb dX12_image_62 (by decide) ?_
    refine w_icmp_ge (tgt := 85) C dX12_image_64 (by decide) hE (fun hc e1 => ?_) (fun hc e1 => ?_)
    · refine lv_aload_n hx hb dX12_image_85 rfl (lv_at hl 0 rfl) ?_
      refine w_gR (r := some th) (ci := 0) (k := 55) C w rfl (by decide) (GF_wsX120 _) (by decide) rfl (List.mem_cons_of_mem _ gw_8_4) rfl dX12_image_86 e1 (fun v1 e2 => ?_)
      refine lv_aload_n hx hb dX12_image_89 rfl (lv_at hl 0 rfl) ?_
      refine w_gR (r := some th) (ci := 0) (k := 3) C w rfl (by decide) (GF_wsX120 _) (by decide) rfl (List.mem_cons_of_mem _ gw_6_22) rfl dX12_image_90 e2 (fun v2 e3 => ?_)
      obtain ⟨q3, eq3, e4⟩ := nn_some e3
      subst eq3
      obtain ⟨q4, eq4, e5⟩ := nn_some e4
      subst eq4
      refine w_SV GW_good (n := 2) (F := 0) (Lc := 0) (av := [.ref q3, .ref q4]) (rest := []) C w (fun r g hf => k_M_copyTo l D cy z N h q3 q4 r g hf) gw_30_4 gw_30_5 gw_1_5 gw_30_6 (by decide +kernel) ⟨Nat.le_of_ble_eq_true rfl, Nat.le_of_ble_eq_true rfl⟩ rfl hl.1 rfl (Nat.le_of_ble_eq_true rfl) dX12_image_93 (sh_M_copyTo N h q3 q4) ⟨by decide, by decide⟩ e5 (fun v5 h6 H locs w hsh6 e6 => ?_)
      exact w_vret C w e6 dX12_image_96
    · refine lv_aload_n hx hb dX12_image_67 rfl (lv_at hl 0 rfl) ?_
      refine w_gR (r := some th) (ci := 0) (k := 56) C w rfl (by decide) (GF_wsX120 _) (by decide) rfl (List.mem_cons_of_mem _ gw_8_5) rfl dX12_image_68 e1 (fun v7 e7 => ?_)
      refine lv_iload_n hx hb dX12_image_71 rfl (lv_at hl 1 rfl) ?_
      refine lv_aload_n hx hb dX12_image_72 rfl (lv_at hl 0 rfl) ?_
      refine w_gR (r := some th) (ci := 0) (k := 45) C w rfl (by decide) (GF_wsX120 _) (by decide) rfl (List.mem_cons_of_mem _ gw_7_22) rfl dX12_image_73 e7 (fun v8 e8 => ?_)
      refine lv_iload_n hx hb dX12_image_76 rfl (lv_at hl 1 rfl) ?_
      refine w_aJ (r := v8) C w dX12_image_77 e8 (fun v9 e9 => ?_)
      refine w_uJ (r := v7) C w dX12_image_78 e9 (fun h10 H locs w hsh10 e10 => ?_)
      obtain ⟨v11, ev11, e11⟩ := bn_some e10
      refine lv_iinc (v := v11) (lv' := [(1, .int v11), (0, .ref th)]) hx hb dX12_image_79 hl (k := 1) rfl (by rw [ev11]; rfl) (by decide) rfl (fun ls hl => ?_)
      refine lv_goto (tgt := 61) hx hb dX12_image_82 (by decide) ?_
      exact ih  h10 th v11 _ _ ls w  (lv_sub hl [1, 0] rfl) e11
set_option maxRecDepth 20000 in
set_option maxHeartbeats 4000000 in
theorem k_M_image (l : Launch) (D : va_G) (cy : cyT) (z : Nat) (N : Nat) (h : hS) (th : Nat) (r : Unit) (g : hS) (hE : f_M_image N h th = some (r, g)) : ct l yX12_image (Cond.code yX12_image cX12_image 2 (none) :: GW) { frames := 1, cells := 0, slots := 0, locals := 22 } D cy z h [.ref th] (rV r) g := by
  refine Met.ofW (cc := cX12_image) (maxL := 2) (ret := none) (by decide) rfl ?_
  intro p e s m args below meth c s₁ B hml hv
  obtain ⟨rfl, hw⟩ := hv
  have C : MX p s m ([.ref th] : List Value).toArray meth c cX12_image 2 (none) RX12 (Cond.code yX12_image cX12_image 2 (none) :: GW) := ⟨B.exec, B.bytes, B.returns, hml, findClass_of_methodNamed B.named, atoms_spec (ws := Cond.code yX12_image cX12_image 2 (none) :: GW) B.pre, B.notSynchronized⟩
  obtain ⟨hx, hb, hr, hml, hown, hts, hlk⟩ := id C
  have w := wd_of hw
  obtain ⟨ls, hen, hl⟩ : ∃ ls : Array Slot, entryFrame m ([.ref th] : List Value).toArray 2 = F0 m 0 ls [] ∧ lv_has ls 2 [(0, .ref th)] := by
    exact ⟨_, lg_entry_eq _ _ _, lv_entry _ (Nat.le_of_ble_eq_true rfl)⟩
  rw [hen]
  unfold f_M_image at hE
  refine lv_aload_n hx hb dX12_image_0 rfl (lv_at hl 0 rfl) ?_
  refine lv_iconst (v := 0) hx hb dX12_image_1 (by decide) ?_
  refine w_pI (r := some th) (ci := 0) (k := 1) C w rfl (by decide) (by unfold roK; omega) (GF_wsX120 _) tyX12 tyX12_ok nmX12 (by decide) rfl (List.mem_cons_of_mem _ gw_8_18) rfl rfl (tyX12_ok 1 (by decide)) dX12_image_2 hE (fun h1 H locs w hsh1 e1 => ?_)
  refine lv_aload_n hx hb dX12_image_5 rfl (lv_at hl 0 rfl) ?_
  refine lv_iconst (v := 1) hx hb dX12_image_6 (by decide) ?_
  refine w_pZ (r := some th) (ci := 0) (k := 49) C w rfl (by decide) (by unfold roK; omega) (GF_wsX120 _) tyX12 tyX12_ok nmX12 (by decide) rfl (List.mem_cons_of_mem _ gw_65_1) rfl rfl (tyX12_ok 49 (by decide)) dX12_image_7 e1 (fun h2 H locs w hsh2 e2 => ?_)
  refine lv_aload_n hx hb dX12_image_10 rfl (lv_at hl 0 rfl) ?_
  refine lv_aload_n hx hb dX12_image_11 rfl (lv_at hl 0 rfl) ?_
  refine w_gI (r := some th) (ci := 0) (k := 41) C w rfl (by decide) (GF_wsX120 _) (by decide) rfl (List.mem_cons_of_mem _ gw_31_10) rfl dX12_image_12 e2 (fun v3 e3 => ?_)
  refine w_pI (r := some th) (ci := 0) (k := 50) C w rfl (by decide) (by unfold roK; omega) (GF_wsX120 _) tyX12 tyX12_ok nmX12 (by decide) rfl (List.mem_cons_of_mem _ gw_65_2) rfl rfl (tyX12_ok 50 (by decide)) dX12_image_15 e3 (fun h4 H locs w hsh4 e4 => ?_)
  refine lv_aload_n hx hb dX12_image_18 rfl (lv_at hl 0 rfl) ?_
  refine lv_aload_n hx hb dX12_image_19 rfl (lv_at hl 0 rfl) ?_
  refine w_gI (r := some th) (ci := 0) (k := 43) C w rfl (by decide) (GF_wsX120 _) (by decide) rfl (List.mem_cons_of_mem _ gw_32_17) rfl dX12_image_20 e4 (fun v5 e5 => ?_)
  refine w_pI (r := some th) (ci := 0) (k := 51) C w rfl (by decide) (by unfold roK; omega) (GF_wsX120 _) tyX12 tyX12_ok nmX12 (by decide) rfl (List.mem_cons_of_mem _ gw_65_3) rfl rfl (tyX12_ok 51 (by decide)) dX12_image_23 e5 (fun h6 H locs w hsh6 e6 => ?_)
  refine lv_aload_n hx hb dX12_image_26 rfl (lv_at hl 0 rfl) ?_
  refine w_gR (r := some th) (ci := 0) (k := 52) C w rfl (by decide) (GF_wsX120 _) (by decide) rfl (List.mem_cons_of_mem _ gw_8_1) rfl dX12_image_27 e6 (fun v7 e7 => ?_)
  refine lv_aload_n hx hb dX12_image_30 rfl (lv_at hl 0 rfl) ?_
  refine w_gR (r := some th) (ci := 0) (k := 2) C w rfl (by decide) (GF_wsX120 _) (by decide) rfl (List.mem_cons_of_mem _ gw_6_21) rfl dX12_image_31 e7 (fun v8 e8 => ?_)
  obtain ⟨q9, eq9, e9⟩ := nn_some e8
  subst eq9
  obtain ⟨q10, eq10, e10⟩ := nn_some e9
  subst eq10
  refine w_SV GW_good (n := 2) (F := 0) (Lc := 0) (av := [.ref q9, .ref q10]) (rest := []) C w (fun r g hf => k_M_copyTo l D cy z N h6 q9 q10 r g hf) gw_30_4 gw_30_5 gw_1_5 gw_30_6 (by decide +kernel) ⟨Nat.le_of_ble_eq_true rfl, Nat.le_of_ble_eq_true rfl⟩ rfl hl.1 rfl (Nat.le_of_ble_eq_true rfl) dX12_image_34 (sh_M_copyTo N h6 q9 q10) ⟨by decide, by decide⟩ e10 (fun v11 h12 H locs w hsh12 e11 => ?_)
  refine lv_aload_n hx hb dX12_image_37 rfl (lv_at hl 0 rfl) ?_
  refine w_gR (r := some th) (ci := 0) (k := 53) C w rfl (by decide) (GF_wsX120 _) (by decide) rfl (List.mem_cons_of_mem _ gw_8_2) rfl dX12_image_38 e11 (fun v13 e12 => ?_)
  refine lv_aload_n hx hb dX12_image_41 rfl (lv_at hl 0 rfl) ?_
  refine w_gR (r := some th) (ci := 0) (k := 42) C w rfl (by decide) (GF_wsX120 _) (by decide) rfl (List.mem_cons_of_mem _ gw_7_20) rfl dX12_image_42 e12 (fun v14 e13 => ?_)
  obtain ⟨q15, eq15, e14⟩ := nn_some e13
  subst eq15
  obtain ⟨q16, eq16, e15⟩ := nn_some e14
  subst eq16
  refine w_SV GW_good (n := 2) (F := 0) (Lc := 0) (av := [.ref q15, .ref q16]) (rest := []) C w (fun r g hf => k_M_copyTo l D cy z N h12 q15 q16 r g hf) gw_30_4 gw_30_5 gw_1_5 gw_30_6 (by decide +kernel) ⟨Nat.le_of_ble_eq_true rfl, Nat.le_of_ble_eq_true rfl⟩ rfl hl.1 rfl (Nat.le_of_ble_eq_true rfl) dX12_image_45 (sh_M_copyTo N h12 q15 q16) ⟨by decide, by decide⟩ e15 (fun v17 h18 H locs w hsh18 e16 => ?_)
  refine lv_aload_n hx hb dX12_image_48 rfl (lv_at hl 0 rfl) ?_
  refine w_gR (r := some th) (ci := 0) (k := 54) C w rfl (by decide) (GF_wsX120 _) (by decide) rfl (List.mem_cons_of_mem _ gw_8_3) rfl dX12_image_49 e16 (fun v19 e17 => ?_)
  refine lv_aload_n hx hb dX12_image_52 rfl (lv_at hl 0 rfl) ?_
  refine w_gR (r := some th) (ci := 0) (k := 44) C w rfl (by decide) (GF_wsX120 _) (by decide) rfl (List.mem_cons_of_mem _ gw_7_21) rfl dX12_image_53 e17 (fun v20 e18 => ?_)
  obtain ⟨q21, eq21, e19⟩ := nn_some e18
  subst eq21
  obtain ⟨q22, eq22, e20⟩ := nn_some e19
  subst eq22
  refine w_SV GW_good (n := 2) (F := 0) (Lc := 0) (av := [.ref q21, .ref q22]) (rest := []) C w (fun r g hf => k_M_copyTo l D cy z N h18 q21 q22 r g hf) gw_30_4 gw_30_5 gw_1_5 gw_30_6 (by decide +kernel) ⟨Nat.le_of_ble_eq_true rfl, Nat.le_of_ble_eq_true rfl⟩ rfl hl.1 rfl (Nat.le_of_ble_eq_true rfl) dX12_image_56 (sh_M_copyTo N h18 q21 q22) ⟨by decide, by decide⟩ e20 (fun v23 h24 H locs w hsh24 e21 => ?_)
  refine lv_iconst (v := 0) hx hb dX12_image_59 (by decide) ?_
  refine lv_istore_n (lv' := [(1, .int (0 : Int32)), (0, .ref th)]) hx hb dX12_image_60 rfl hl (by decide) rfl (fun ls hl => ?_)
  exact b_M_image_61 C N   N  h24 th (0 : Int32) _ _ ls w  (lv_sub hl [1, 0] rfl) e21
set_option maxRecDepth 20000 in
set_option maxHeartbeats 4000000 in
theorem b_M_restore_65 {p : Program} {l : Launch} {e : Env} {s : State} {m : MethodId} {args : Array Value} {below : List Frame} {meth : Method} {c : Code} {D : va_G} {cy : cyT} {z : Nat} (C : MX p s m args meth c cX12_restore 2 ((some .boolean)) RX12 (Cond.code yX12_restore cX12_restore 2 ((some .boolean)) :: GW)) (N : Nat) {r : Int32} {g : hS}  : ∀ (n : Nat) (h : hS) (th : Nat) (x1 : Int32) (H : Heap) (locs : List Loc) (ls : Array Slot), wd D cy z s 0 h H locs → lv_has ls 2 [(0, .ref th), (1, .int x1)] → f_M_restore_65 N  n h th x1 = some (r, g) → W p l e { frames := 1, cells := 0, slots := 0, locals := 22 } s m args below meth c H locs 0 0 (MQ below (eQ D cy z (rI r) g) args s 0 0 (fun q => z ≤ q)) (F0 m 65 ls []) := by
  obtain ⟨hx, hb, hr, hml, hown, hts, hlk⟩ := id C
  intro n
  induction n with
  | zero =>
    intro  h th x1 H locs ls w  hl hE
    cases hE
  | succ n ih =>
    intro  h th x1 H locs ls w  hl hE
    unfold f_M_restore_65 at hE
    refine lv_iload_n hx hb dX12_restore_65 rfl (lv_at hl 1 rfl) ?_
    refine lv_bipush (v := 8) hx hb dX12_restore_66 (by decide) ?_
    refine w_icmp_ge (tgt := 89) C dX12_restore_68 (by decide) hE (fun hc e1 => ?_) (fun hc e1 => ?_)
    · refine lv_aload_n hx hb dX12_restore_89 rfl (lv_at hl 0 rfl) ?_
      refine w_gR (r := some th) (ci := 0) (k := 3) C w rfl (by decide) (GF_wsX120 _) (by decide) rfl (List.mem_cons_of_mem _ gw_6_22) rfl dX12_restore_90 e1 (fun v1 e2 => ?_)
      refine lv_aload_n hx hb dX12_restore_93 rfl (lv_at hl 0 rfl) ?_
      refine w_gR (r := some th) (ci := 0) (k := 55) C w rfl (by decide) (GF_wsX120 _) (by decide) rfl (List.mem_cons_of_mem _ gw_8_4) rfl dX12_restore_94 e2 (fun v2 e3 => ?_)
      obtain ⟨q3, eq3, e4⟩ := nn_some e3
      subst eq3
      obtain ⟨q4, eq4, e5⟩ := nn_some e4
      subst eq4
      refine w_SV GW_good (n := 2) (F := 0) (Lc := 0) (av := [.ref q3, .ref q4]) (rest := []) C w (fun r g hf => k_M_copyTo l D cy z N h q3 q4 r g hf) gw_30_4 gw_30_5 gw_1_5 gw_30_6 (by decide +kernel) ⟨Nat.le_of_ble_eq_true rfl, Nat.le_of_ble_eq_true rfl⟩ rfl hl.1 rfl (Nat.le_of_ble_eq_true rfl) dX12_restore_97 (sh_M_copyTo N h q3 q4) ⟨by decide, by decide⟩ e5 (fun v5 h6 H locs w hsh6 e6 => ?_)
      refine lv_iconst (v := 1) hx hb dX12_restore_100 (by decide) ?_
      exact w_zret C w e6 dX12_restore_101
    · refine lv_aload_n hx hb dX12_restore_71 rfl (lv_at hl 0 rfl) ?_
      refine w_gR (r := some th) (ci := 0) (k := 45) C w rfl (by decide) (GF_wsX120 _) (by decide) rfl (List.mem_cons_of_mem _ gw_7_22) rfl dX12_restore_72 e1 (fun v7 e7 => ?_)
      refine lv_iload_n hx hb dX12_restore_75 rfl (lv_at hl 1 rfl) ?_
      refine lv_aload_n hx hb dX12_restore_76 rfl (lv_at hl 0 rfl) ?_
      refine w_gR (r := some th) (ci := 0) (k := 56) C w rfl (by decide) (GF_wsX120 _) (by decide) rfl (List.mem_cons_of_mem _ gw_8_5) rfl dX12_restore_77 e7 (fun v8 e8 => ?_)
      refine lv_iload_n hx hb dX12_restore_80 rfl (lv_at hl 1 rfl) ?_
      refine w_aJ (r := v8) C w dX12_restore_81 e8 (fun v9 e9 => ?_)
      refine w_uJ (r := v7) C w dX12_restore_82 e9 (fun h10 H locs w hsh10 e10 => ?_)
      obtain ⟨v11, ev11, e11⟩ := bn_some e10
      refine lv_iinc (v := v11) (lv' := [(1, .int v11), (0, .ref th)]) hx hb dX12_restore_83 hl (k := 1) rfl (by rw [ev11]; rfl) (by decide) rfl (fun ls hl => ?_)
      refine lv_goto (tgt := 65) hx hb dX12_restore_86 (by decide) ?_
      exact ih  h10 th v11 _ _ ls w  (lv_sub hl [1, 0] rfl) e11
set_option maxRecDepth 20000 in
set_option maxHeartbeats 4000000 in
theorem k_M_restore (l : Launch) (D : va_G) (cy : cyT) (z : Nat) (N : Nat) (h : hS) (th : Nat) (r : Int32) (g : hS) (hE : f_M_restore N h th = some (r, g)) : ct l yX12_restore (Cond.code yX12_restore cX12_restore 2 ((some .boolean)) :: GW) { frames := 1, cells := 0, slots := 0, locals := 22 } D cy z h [.ref th] (rI r) g := by
  refine Met.ofW (cc := cX12_restore) (maxL := 2) (ret := (some .boolean)) (by decide) rfl ?_
  intro p e s m args below meth c s₁ B hml hv
  obtain ⟨rfl, hw⟩ := hv
  have C : MX p s m ([.ref th] : List Value).toArray meth c cX12_restore 2 ((some .boolean)) RX12 (Cond.code yX12_restore cX12_restore 2 ((some .boolean)) :: GW) := ⟨B.exec, B.bytes, B.returns, hml, findClass_of_methodNamed B.named, atoms_spec (ws := Cond.code yX12_restore cX12_restore 2 ((some .boolean)) :: GW) B.pre, B.notSynchronized⟩
  obtain ⟨hx, hb, hr, hml, hown, hts, hlk⟩ := id C
  have w := wd_of hw
  obtain ⟨ls, hen, hl⟩ : ∃ ls : Array Slot, entryFrame m ([.ref th] : List Value).toArray 2 = F0 m 0 ls [] ∧ lv_has ls 2 [(0, .ref th)] := by
    exact ⟨_, lg_entry_eq _ _ _, lv_entry _ (Nat.le_of_ble_eq_true rfl)⟩
  rw [hen]
  unfold f_M_restore at hE
  refine lv_aload_n hx hb dX12_restore_0 rfl (lv_at hl 0 rfl) ?_
  refine lv_iconst (v := 0) hx hb dX12_restore_1 (by decide) ?_
  refine w_pI (r := some th) (ci := 0) (k := 1) C w rfl (by decide) (by unfold roK; omega) (GF_wsX120 _) tyX12 tyX12_ok nmX12 (by decide) rfl (List.mem_cons_of_mem _ gw_8_18) rfl rfl (tyX12_ok 1 (by decide)) dX12_restore_2 hE (fun h1 H locs w hsh1 e1 => ?_)
  refine lv_aload_n hx hb dX12_restore_5 rfl (lv_at hl 0 rfl) ?_
  refine w_gI (r := some th) (ci := 0) (k := 49) C w rfl (by decide) (GF_wsX120 _) (by decide) rfl (List.mem_cons_of_mem _ gw_65_1) rfl dX12_restore_6 e1 (fun v2 e2 => ?_)
  refine w_if_ne (tgt := 14) C dX12_restore_9 (by decide) e2 (fun hc e3 => ?_) (fun hc e3 => ?_)
  · refine lv_aload_n hx hb dX12_restore_14 rfl (lv_at hl 0 rfl) ?_
    refine lv_aload_n hx hb dX12_restore_15 rfl (lv_at hl 0 rfl) ?_
    refine w_gI (r := some th) (ci := 0) (k := 50) C w rfl (by decide) (GF_wsX120 _) (by decide) rfl (List.mem_cons_of_mem _ gw_65_2) rfl dX12_restore_16 e3 (fun v3 e4 => ?_)
    refine w_pI (r := some th) (ci := 0) (k := 41) C w rfl (by decide) (by unfold roK; omega) (GF_wsX120 _) tyX12 tyX12_ok nmX12 (by decide) rfl (List.mem_cons_of_mem _ gw_31_10) rfl rfl (tyX12_ok 41 (by decide)) dX12_restore_19 e4 (fun h4 H locs w hsh4 e5 => ?_)
    refine lv_aload_n hx hb dX12_restore_22 rfl (lv_at hl 0 rfl) ?_
    refine lv_aload_n hx hb dX12_restore_23 rfl (lv_at hl 0 rfl) ?_
    refine w_gI (r := some th) (ci := 0) (k := 51) C w rfl (by decide) (GF_wsX120 _) (by decide) rfl (List.mem_cons_of_mem _ gw_65_3) rfl dX12_restore_24 e5 (fun v5 e6 => ?_)
    refine w_pI (r := some th) (ci := 0) (k := 43) C w rfl (by decide) (by unfold roK; omega) (GF_wsX120 _) tyX12 tyX12_ok nmX12 (by decide) rfl (List.mem_cons_of_mem _ gw_32_17) rfl rfl (tyX12_ok 43 (by decide)) dX12_restore_27 e6 (fun h6 H locs w hsh6 e7 => ?_)
    refine lv_aload_n hx hb dX12_restore_30 rfl (lv_at hl 0 rfl) ?_
    refine w_gR (r := some th) (ci := 0) (k := 2) C w rfl (by decide) (GF_wsX120 _) (by decide) rfl (List.mem_cons_of_mem _ gw_6_21) rfl dX12_restore_31 e7 (fun v7 e8 => ?_)
    refine lv_aload_n hx hb dX12_restore_34 rfl (lv_at hl 0 rfl) ?_
    refine w_gR (r := some th) (ci := 0) (k := 52) C w rfl (by decide) (GF_wsX120 _) (by decide) rfl (List.mem_cons_of_mem _ gw_8_1) rfl dX12_restore_35 e8 (fun v8 e9 => ?_)
    obtain ⟨q9, eq9, e10⟩ := nn_some e9
    subst eq9
    obtain ⟨q10, eq10, e11⟩ := nn_some e10
    subst eq10
    refine w_SV GW_good (n := 2) (F := 0) (Lc := 0) (av := [.ref q9, .ref q10]) (rest := []) C w (fun r g hf => k_M_copyTo l D cy z N h6 q9 q10 r g hf) gw_30_4 gw_30_5 gw_1_5 gw_30_6 (by decide +kernel) ⟨Nat.le_of_ble_eq_true rfl, Nat.le_of_ble_eq_true rfl⟩ rfl hl.1 rfl (Nat.le_of_ble_eq_true rfl) dX12_restore_38 (sh_M_copyTo N h6 q9 q10) ⟨by decide, by decide⟩ e11 (fun v11 h12 H locs w hsh12 e12 => ?_)
    refine lv_aload_n hx hb dX12_restore_41 rfl (lv_at hl 0 rfl) ?_
    refine w_gR (r := some th) (ci := 0) (k := 42) C w rfl (by decide) (GF_wsX120 _) (by decide) rfl (List.mem_cons_of_mem _ gw_7_20) rfl dX12_restore_42 e12 (fun v13 e13 => ?_)
    refine lv_aload_n hx hb dX12_restore_45 rfl (lv_at hl 0 rfl) ?_
    refine w_gR (r := some th) (ci := 0) (k := 53) C w rfl (by decide) (GF_wsX120 _) (by decide) rfl (List.mem_cons_of_mem _ gw_8_2) rfl dX12_restore_46 e13 (fun v14 e14 => ?_)
    obtain ⟨q15, eq15, e15⟩ := nn_some e14
    subst eq15
    obtain ⟨q16, eq16, e16⟩ := nn_some e15
    subst eq16
    refine w_SV GW_good (n := 2) (F := 0) (Lc := 0) (av := [.ref q15, .ref q16]) (rest := []) C w (fun r g hf => k_M_copyTo l D cy z N h12 q15 q16 r g hf) gw_30_4 gw_30_5 gw_1_5 gw_30_6 (by decide +kernel) ⟨Nat.le_of_ble_eq_true rfl, Nat.le_of_ble_eq_true rfl⟩ rfl hl.1 rfl (Nat.le_of_ble_eq_true rfl) dX12_restore_49 (sh_M_copyTo N h12 q15 q16) ⟨by decide, by decide⟩ e16 (fun v17 h18 H locs w hsh18 e17 => ?_)
    refine lv_aload_n hx hb dX12_restore_52 rfl (lv_at hl 0 rfl) ?_
    refine w_gR (r := some th) (ci := 0) (k := 44) C w rfl (by decide) (GF_wsX120 _) (by decide) rfl (List.mem_cons_of_mem _ gw_7_21) rfl dX12_restore_53 e17 (fun v19 e18 => ?_)
    refine lv_aload_n hx hb dX12_restore_56 rfl (lv_at hl 0 rfl) ?_
    refine w_gR (r := some th) (ci := 0) (k := 54) C w rfl (by decide) (GF_wsX120 _) (by decide) rfl (List.mem_cons_of_mem _ gw_8_3) rfl dX12_restore_57 e18 (fun v20 e19 => ?_)
    obtain ⟨q21, eq21, e20⟩ := nn_some e19
    subst eq21
    obtain ⟨q22, eq22, e21⟩ := nn_some e20
    subst eq22
    refine w_SV GW_good (n := 2) (F := 0) (Lc := 0) (av := [.ref q21, .ref q22]) (rest := []) C w (fun r g hf => k_M_copyTo l D cy z N h18 q21 q22 r g hf) gw_30_4 gw_30_5 gw_1_5 gw_30_6 (by decide +kernel) ⟨Nat.le_of_ble_eq_true rfl, Nat.le_of_ble_eq_true rfl⟩ rfl hl.1 rfl (Nat.le_of_ble_eq_true rfl) dX12_restore_60 (sh_M_copyTo N h18 q21 q22) ⟨by decide, by decide⟩ e21 (fun v23 h24 H locs w hsh24 e22 => ?_)
    refine lv_iconst (v := 0) hx hb dX12_restore_63 (by decide) ?_
    refine lv_istore_n (lv' := [(1, .int (0 : Int32)), (0, .ref th)]) hx hb dX12_restore_64 rfl hl (by decide) rfl (fun ls hl => ?_)
    exact b_M_restore_65 C N   N  h24 th (0 : Int32) _ _ ls w  (lv_sub hl [1, 0] rfl) e22
  · refine lv_iconst (v := 0) hx hb dX12_restore_12 (by decide) ?_
    exact w_zret C w e3 dX12_restore_13
set_option maxRecDepth 20000 in
set_option maxHeartbeats 4000000 in
theorem b_M_names_59 {p : Program} {l : Launch} {e : Env} {s : State} {m : MethodId} {args : Array Value} {below : List Frame} {meth : Method} {c : Code} {D : va_G} {cy : cyT} {z : Nat} (C : MX p s m args meth c cX12_names 5 (none) RX12 (Cond.code yX12_names cX12_names 5 (none) :: GW)) (N : Nat) {r : Unit} {g : hS} {rc2 : hS → Nat → Nat → Int32 → Option (Unit × hS)}  (hrc2 : ∀ (h : hS) (th : Nat) (a1 : Nat) (x2 : Int32) (H : Heap) (locs : List Loc) (ls : Array Slot), wd D cy z s 0 h H locs → lv_has ls 5 [(0, .ref th), (1, .ref a1), (2, .int x2)] → rc2 h th a1 x2 = some (r, g) → W p l e { frames := 0, cells := 0, slots := 0, locals := 0 } s m args below meth c H locs 0 0 (MQ below (eQ D cy z (rV r) g) args s 0 0 (fun q => z ≤ q)) (F0 m 2 ls [])) {rc14 : hS → Nat → Nat → Int32 → Int32 → Option (Unit × hS)}  (hrc14 : ∀ (h : hS) (th : Nat) (a1 : Nat) (x2 : Int32) (x3 : Int32) (H : Heap) (locs : List Loc) (ls : Array Slot), wd D cy z s 0 h H locs → lv_has ls 5 [(0, .ref th), (1, .ref a1), (2, .int x2), (3, .int x3)] → rc14 h th a1 x2 x3 = some (r, g) → W p l e { frames := 0, cells := 0, slots := 0, locals := 0 } s m args below meth c H locs 0 0 (MQ below (eQ D cy z (rV r) g) args s 0 0 (fun q => z ≤ q)) (F0 m 14 ls [])) : ∀  (h : hS) (th : Nat) (a1 : Nat) (x2 : Int32) (x3 : Int32) (H : Heap) (locs : List Loc) (ls : Array Slot), wd D cy z s 0 h H locs → lv_has ls 5 [(0, .ref th), (1, .ref a1), (2, .int x2), (3, .int x3)] → f_M_names_59 N rc2 rc14  h th a1 x2 x3 = some (r, g) → W p l e { frames := 0, cells := 0, slots := 0, locals := 0 } s m args below meth c H locs 0 0 (MQ below (eQ D cy z (rV r) g) args s 0 0 (fun q => z ≤ q)) (F0 m 59 ls []) := by
  obtain ⟨hx, hb, hr, hml, hown, hts, hlk⟩ := id C
  intro  h th a1 x2 x3 H locs ls w  hl hE
  unfold f_M_names_59 at hE
  obtain ⟨v1, ev1, e1⟩ := bn_some hE
  refine lv_iinc (v := v1) (lv' := [(3, .int v1), (0, .ref th), (1, .ref a1), (2, .int x2)]) hx hb dX12_names_59 hl (k := 3) rfl (by rw [ev1]; rfl) (by decide) rfl (fun ls hl => ?_)
  refine lv_goto (tgt := 14) hx hb dX12_names_62 (by decide) ?_
  exact hrc14  h th a1 x2 v1 _ _ ls w  (lv_sub hl [1, 2, 3, 0] rfl) e1
set_option maxRecDepth 20000 in
set_option maxHeartbeats 4000000 in
theorem b_M_names_14 {p : Program} {l : Launch} {e : Env} {s : State} {m : MethodId} {args : Array Value} {below : List Frame} {meth : Method} {c : Code} {D : va_G} {cy : cyT} {z : Nat} (C : MX p s m args meth c cX12_names 5 (none) RX12 (Cond.code yX12_names cX12_names 5 (none) :: GW)) (N : Nat) {r : Unit} {g : hS} {rc2 : hS → Nat → Nat → Int32 → Option (Unit × hS)}  (hrc2 : ∀ (h : hS) (th : Nat) (a1 : Nat) (x2 : Int32) (H : Heap) (locs : List Loc) (ls : Array Slot), wd D cy z s 0 h H locs → lv_has ls 5 [(0, .ref th), (1, .ref a1), (2, .int x2)] → rc2 h th a1 x2 = some (r, g) → W p l e { frames := 0, cells := 0, slots := 0, locals := 0 } s m args below meth c H locs 0 0 (MQ below (eQ D cy z (rV r) g) args s 0 0 (fun q => z ≤ q)) (F0 m 2 ls [])) : ∀ (n : Nat) (h : hS) (th : Nat) (a1 : Nat) (x2 : Int32) (x3 : Int32) (H : Heap) (locs : List Loc) (ls : Array Slot), wd D cy z s 0 h H locs → lv_has ls 5 [(0, .ref th), (1, .ref a1), (2, .int x2), (3, .int x3)] → f_M_names_14 N rc2 n h th a1 x2 x3 = some (r, g) → W p l e { frames := 0, cells := 0, slots := 0, locals := 0 } s m args below meth c H locs 0 0 (MQ below (eQ D cy z (rV r) g) args s 0 0 (fun q => z ≤ q)) (F0 m 14 ls []) := by
  obtain ⟨hx, hb, hr, hml, hown, hts, hlk⟩ := id C
  intro n
  induction n with
  | zero =>
    intro  h th a1 x2 x3 H locs ls w  hl hE
    cases hE
  | succ n ih =>
    intro  h th a1 x2 x3 H locs ls w  hl hE
    unfold f_M_names_14 at hE
    refine lv_iload_n hx hb dX12_names_14 rfl (lv_at hl 3 rfl) ?_
    refine lv_aload_n hx hb dX12_names_15 rfl (lv_at hl 1 rfl) ?_
    refine lv_sipush (v := 161) hx hb dX12_names_16 (by decide) ?_
    refine lv_iload_n hx hb dX12_names_19 rfl (lv_at hl 2 rfl) ?_
    refine lv_imul hx hb dX12_names_20 ?_
    refine w_aI (r := some a1) C w dX12_names_21 hE (fun v1 e1 => ?_)
    refine w_icmp_ge (tgt := 65) C dX12_names_22 (by decide) e1 (fun hc e2 => ?_) (fun hc e2 => ?_)
    · obtain ⟨v2, ev2, e3⟩ := bn_some e2
      refine lv_iinc (v := v2) (lv' := [(2, .int v2), (0, .ref th), (1, .ref a1), (3, .int x3)]) hx hb dX12_names_65 hl (k := 2) rfl (by rw [ev2]; rfl) (by decide) rfl (fun ls hl => ?_)
      refine lv_goto (tgt := 2) hx hb dX12_names_68 (by decide) ?_
      exact hrc2  h th a1 v2 _ _ ls w  (lv_sub hl [1, 2, 0] rfl) e3
    · refine lv_sipush (v := 161) hx hb dX12_names_25 (by decide) ?_
      refine lv_iload_n hx hb dX12_names_28 rfl (lv_at hl 2 rfl) ?_
      refine lv_imul hx hb dX12_names_29 ?_
      refine lv_iconst (v := 1) hx hb dX12_names_30 (by decide) ?_
      refine lv_iadd hx hb dX12_names_31 ?_
      refine lv_iconst (v := 4) hx hb dX12_names_32 (by decide) ?_
      refine lv_iload_n hx hb dX12_names_33 rfl (lv_at hl 3 rfl) ?_
      refine lv_imul hx hb dX12_names_34 ?_
      refine lv_iadd hx hb dX12_names_35 ?_
      refine w_bnI e2 (fun v3 e4 => ?_)
      refine lv_istore (lv' := [(4, .int v3), (0, .ref th), (1, .ref a1), (2, .int x2), (3, .int x3)]) hx hb dX12_names_36 hl (by decide) rfl (fun ls hl => ?_)
      refine lv_aload_n hx hb dX12_names_38 rfl (lv_at hl 2 rfl) ?_
      refine lv_iload hx hb dX12_names_39 (lv_at hl 0 rfl) ?_
      refine w_aI (r := some a1) C w dX12_names_41 e4 (fun v4 e5 => ?_)
      refine lv_bipush (v := 8) hx hb dX12_names_42 (by decide) ?_
      refine w_icmp_ne (tgt := 59) C dX12_names_44 (by decide) e5 (fun hc e6 => ?_) (fun hc e6 => ?_)
      · exact b_M_names_59 C N  hrc2 ih   h th a1 x2 x3 _ _ ls w  (lv_sub hl [1, 2, 3, 4] rfl) e6
      · refine lv_aload_n hx hb dX12_names_47 rfl (lv_at hl 1 rfl) ?_
        refine w_gR (r := some th) (ci := 0) (k := 8) C w rfl (by decide) (GF_wsX120 _) (by decide) rfl (List.mem_cons_of_mem _ gw_7_5) rfl dX12_names_48 e6 (fun v5 e7 => ?_)
        refine lv_aload_n hx hb dX12_names_51 rfl (lv_at hl 2 rfl) ?_
        refine lv_iload hx hb dX12_names_52 (lv_at hl 0 rfl) ?_
        refine lv_iconst (v := 3) hx hb dX12_names_54 (by decide) ?_
        refine lv_iadd hx hb dX12_names_55 ?_
        refine w_aI (r := some a1) C w dX12_names_56 e7 (fun v6 e8 => ?_)
        refine lv_iconst (v := 1) hx hb dX12_names_57 (by decide) ?_
        refine w_uZ (r := v5) C w dX12_names_58 e8 (fun h7 H locs w hsh7 e9 => ?_)
        exact b_M_names_59 C N  hrc2 ih   h7 th a1 x2 x3 _ _ ls w  (lv_sub hl [1, 2, 3, 4] rfl) e9
set_option maxRecDepth 20000 in
set_option maxHeartbeats 4000000 in
theorem b_M_names_2 {p : Program} {l : Launch} {e : Env} {s : State} {m : MethodId} {args : Array Value} {below : List Frame} {meth : Method} {c : Code} {D : va_G} {cy : cyT} {z : Nat} (C : MX p s m args meth c cX12_names 5 (none) RX12 (Cond.code yX12_names cX12_names 5 (none) :: GW)) (N : Nat) {r : Unit} {g : hS}  : ∀ (n : Nat) (h : hS) (th : Nat) (a1 : Nat) (x2 : Int32) (H : Heap) (locs : List Loc) (ls : Array Slot), wd D cy z s 0 h H locs → lv_has ls 5 [(0, .ref th), (1, .ref a1), (2, .int x2)] → f_M_names_2 N  n h th a1 x2 = some (r, g) → W p l e { frames := 0, cells := 0, slots := 0, locals := 0 } s m args below meth c H locs 0 0 (MQ below (eQ D cy z (rV r) g) args s 0 0 (fun q => z ≤ q)) (F0 m 2 ls []) := by
  obtain ⟨hx, hb, hr, hml, hown, hts, hlk⟩ := id C
  intro n
  induction n with
  | zero =>
    intro  h th a1 x2 H locs ls w  hl hE
    cases hE
  | succ n ih =>
    intro  h th a1 x2 H locs ls w  hl hE
    unfold f_M_names_2 at hE
    refine lv_iload_n hx hb dX12_names_2 rfl (lv_at hl 2 rfl) ?_
    refine lv_aload_n hx hb dX12_names_3 rfl (lv_at hl 1 rfl) ?_
    refine w_lenI (r := some a1) C w dX12_names_4 hE (fun v1 e1 => ?_)
    refine lv_sipush (v := 161) hx hb dX12_names_5 (by decide) ?_
    refine w_idiv C dX12_names_8 e1 (fun e2 => ?_)
    refine w_icmp_ge (tgt := 71) C dX12_names_9 (by decide) e2 (fun hc e3 => ?_) (fun hc e3 => ?_)
    · exact w_vret C w e3 dX12_names_71
    · refine lv_iconst (v := 0) hx hb dX12_names_12 (by decide) ?_
      refine lv_istore_n (lv' := [(3, .int (0 : Int32)), (0, .ref th), (1, .ref a1), (2, .int x2)]) hx hb dX12_names_13 rfl hl (by decide) rfl (fun ls hl => ?_)
      exact b_M_names_14 C N  ih N  h th a1 x2 (0 : Int32) _ _ ls w  (lv_sub hl [1, 2, 3, 0] rfl) e3
set_option maxRecDepth 20000 in
set_option maxHeartbeats 4000000 in
theorem k_M_names (l : Launch) (D : va_G) (cy : cyT) (z : Nat) (N : Nat) (h : hS) (th : Nat) (a1 : Nat) (r : Unit) (g : hS) (hE : f_M_names N h th a1 = some (r, g)) : ct l yX12_names (Cond.code yX12_names cX12_names 5 (none) :: GW) { frames := 0, cells := 0, slots := 0, locals := 0 } D cy z h [.ref th, .ref a1] (rV r) g := by
  refine Met.ofW (cc := cX12_names) (maxL := 5) (ret := none) (by decide) rfl ?_
  intro p e s m args below meth c s₁ B hml hv
  obtain ⟨rfl, hw⟩ := hv
  have C : MX p s m ([.ref th, .ref a1] : List Value).toArray meth c cX12_names 5 (none) RX12 (Cond.code yX12_names cX12_names 5 (none) :: GW) := ⟨B.exec, B.bytes, B.returns, hml, findClass_of_methodNamed B.named, atoms_spec (ws := Cond.code yX12_names cX12_names 5 (none) :: GW) B.pre, B.notSynchronized⟩
  obtain ⟨hx, hb, hr, hml, hown, hts, hlk⟩ := id C
  have w := wd_of hw
  obtain ⟨ls, hen, hl⟩ : ∃ ls : Array Slot, entryFrame m ([.ref th, .ref a1] : List Value).toArray 5 = F0 m 0 ls [] ∧ lv_has ls 5 [(0, .ref th), (1, .ref a1)] := by
    exact ⟨_, lg_entry_eq _ _ _, lv_entry _ (Nat.le_of_ble_eq_true rfl)⟩
  rw [hen]
  unfold f_M_names at hE
  refine lv_iconst (v := 0) hx hb dX12_names_0 (by decide) ?_
  refine lv_istore_n (lv' := [(2, .int (0 : Int32)), (0, .ref th), (1, .ref a1)]) hx hb dX12_names_1 rfl hl (by decide) rfl (fun ls hl => ?_)
  exact b_M_names_2 C N   N  h th a1 (0 : Int32) _ _ ls w  (lv_sub hl [1, 2, 0] rfl) hE
set_option maxRecDepth 20000 in
set_option maxHeartbeats 4000000 in
theorem b_M_tellByte_16 {p : Program} {l : Launch} {e : Env} {s : State} {m : MethodId} {args : Array Value} {below : List Frame} {meth : Method} {c : Code} {D : va_G} {cy : cyT} {z : Nat} (C : MX p s m args meth c cX12_tellByte 2 (none) RX12 (Cond.code yX12_tellByte cX12_tellByte 2 (none) :: GW)) (N : Nat) {r : Unit} {g : hS}  : ∀  (h : hS) (th : Nat) (H : Heap) (locs : List Loc) (ls : Array Slot), wd D cy z s 0 h H locs → lv_has ls 2 [(0, .ref th)] → f_M_tellByte_16 N   h th = some (r, g) → W p l e { frames := 0, cells := 0, slots := 0, locals := 0 } s m args below meth c H locs 0 0 (MQ below (eQ D cy z (rV r) g) args s 0 0 (fun q => z ≤ q)) (F0 m 16 ls []) := by
  obtain ⟨hx, hb, hr, hml, hown, hts, hlk⟩ := id C
  intro  h th H locs ls w  hl hE
  unfold f_M_tellByte_16 at hE
  refine lv_aload_n hx hb dX12_tellByte_16 rfl (lv_at hl 0 rfl) ?_
  refine lv_dup hx hb dX12_tellByte_17 rfl ?_
  refine w_gI (r := some th) (ci := 0) (k := 39) C w rfl (by decide) (GF_wsX120 _) (by decide) rfl (List.mem_cons_of_mem _ gw_55_16) rfl dX12_tellByte_18 hE (fun v1 e1 => ?_)
  refine lv_iconst (v := 1) hx hb dX12_tellByte_21 (by decide) ?_
  refine lv_iadd hx hb dX12_tellByte_22 ?_
  refine w_pI (r := some th) (ci := 0) (k := 39) C w rfl (by decide) (by unfold roK; omega) (GF_wsX120 _) tyX12 tyX12_ok nmX12 (by decide) rfl (List.mem_cons_of_mem _ gw_55_16) rfl rfl (tyX12_ok 39 (by decide)) dX12_tellByte_23 e1 (fun h2 H locs w hsh2 e2 => ?_)
  exact w_vret C w e2 dX12_tellByte_26
set_option maxRecDepth 20000 in
set_option maxHeartbeats 4000000 in
theorem k_M_tellByte (l : Launch) (D : va_G) (cy : cyT) (z : Nat) (N : Nat) (h : hS) (th : Nat) (x1 : Int32) (r : Unit) (g : hS) (hE : f_M_tellByte N h th x1 = some (r, g)) : ct l yX12_tellByte (Cond.code yX12_tellByte cX12_tellByte 2 (none) :: GW) { frames := 0, cells := 0, slots := 0, locals := 0 } D cy z h [.ref th, .int x1] (rV r) g := by
  refine Met.ofW (cc := cX12_tellByte) (maxL := 2) (ret := none) (by decide) rfl ?_
  intro p e s m args below meth c s₁ B hml hv
  obtain ⟨rfl, hw⟩ := hv
  have C : MX p s m ([.ref th, .int x1] : List Value).toArray meth c cX12_tellByte 2 (none) RX12 (Cond.code yX12_tellByte cX12_tellByte 2 (none) :: GW) := ⟨B.exec, B.bytes, B.returns, hml, findClass_of_methodNamed B.named, atoms_spec (ws := Cond.code yX12_tellByte cX12_tellByte 2 (none) :: GW) B.pre, B.notSynchronized⟩
  obtain ⟨hx, hb, hr, hml, hown, hts, hlk⟩ := id C
  have w := wd_of hw
  obtain ⟨ls, hen, hl⟩ : ∃ ls : Array Slot, entryFrame m ([.ref th, .int x1] : List Value).toArray 2 = F0 m 0 ls [] ∧ lv_has ls 2 [(0, .ref th), (1, .int x1)] := by
    exact ⟨_, lg_entry_eq _ _ _, lv_entry _ (Nat.le_of_ble_eq_true rfl)⟩
  rw [hen]
  unfold f_M_tellByte at hE
  refine lv_aload_n hx hb dX12_tellByte_0 rfl (lv_at hl 0 rfl) ?_
  refine w_gI (r := some th) (ci := 0) (k := 39) C w rfl (by decide) (GF_wsX120 _) (by decide) rfl (List.mem_cons_of_mem _ gw_55_16) rfl dX12_tellByte_1 hE (fun v1 e1 => ?_)
  refine lv_aload_n hx hb dX12_tellByte_4 rfl (lv_at hl 0 rfl) ?_
  refine w_gI (r := some th) (ci := 0) (k := 38) C w rfl (by decide) (GF_wsX120 _) (by decide) rfl (List.mem_cons_of_mem _ gw_55_14) rfl dX12_tellByte_5 e1 (fun v2 e2 => ?_)
  refine w_icmp_ne (tgt := 16) C dX12_tellByte_8 (by decide) e2 (fun hc e3 => ?_) (fun hc e3 => ?_)
  · exact b_M_tellByte_16 C N     h th _ _ ls w  (lv_sub hl [0] rfl) e3
  · refine lv_aload_n hx hb dX12_tellByte_11 rfl (lv_at hl 0 rfl) ?_
    refine lv_iload_n hx hb dX12_tellByte_12 rfl (lv_at hl 1 rfl) ?_
    refine w_pI (r := some th) (ci := 0) (k := 40) C w rfl (by decide) (by unfold roK; omega) (GF_wsX120 _) tyX12 tyX12_ok nmX12 (by decide) rfl (List.mem_cons_of_mem _ gw_55_15) rfl rfl (tyX12_ok 40 (by decide)) dX12_tellByte_13 e3 (fun h3 H locs w hsh3 e4 => ?_)
    exact b_M_tellByte_16 C N     h3 th _ _ ls w  (lv_sub hl [0] rfl) e4
set_option maxRecDepth 20000 in
set_option maxHeartbeats 4000000 in
theorem k_M_thrown (l : Launch) (D : va_G) (cy : cyT) (z : Nat) (N : Nat) (h : hS) (th : Nat) (r : Int32) (g : hS) (hE : f_M_thrown N h th = some (r, g)) : ct l yX12_thrown (Cond.code yX12_thrown cX12_thrown 1 ((some .int)) :: GW) { frames := 0, cells := 0, slots := 0, locals := 0 } D cy z h [.ref th] (rI r) g := by
  refine Met.ofW (cc := cX12_thrown) (maxL := 1) (ret := (some .int)) (by decide) rfl ?_
  intro p e s m args below meth c s₁ B hml hv
  obtain ⟨rfl, hw⟩ := hv
  have C : MX p s m ([.ref th] : List Value).toArray meth c cX12_thrown 1 ((some .int)) RX12 (Cond.code yX12_thrown cX12_thrown 1 ((some .int)) :: GW) := ⟨B.exec, B.bytes, B.returns, hml, findClass_of_methodNamed B.named, atoms_spec (ws := Cond.code yX12_thrown cX12_thrown 1 ((some .int)) :: GW) B.pre, B.notSynchronized⟩
  obtain ⟨hx, hb, hr, hml, hown, hts, hlk⟩ := id C
  have w := wd_of hw
  obtain ⟨ls, hen, hl⟩ : ∃ ls : Array Slot, entryFrame m ([.ref th] : List Value).toArray 1 = F0 m 0 ls [] ∧ lv_has ls 1 [(0, .ref th)] := by
    exact ⟨_, lg_entry_eq _ _ _, lv_entry _ (Nat.le_of_ble_eq_true rfl)⟩
  rw [hen]
  unfold f_M_thrown at hE
  refine lv_aload_n hx hb dX12_thrown_0 rfl (lv_at hl 0 rfl) ?_
  refine w_gI (r := some th) (ci := 0) (k := 1) C w rfl (by decide) (GF_wsX120 _) (by decide) rfl (List.mem_cons_of_mem _ gw_8_18) rfl dX12_thrown_1 hE (fun v1 e1 => ?_)
  exact w_iret C w e1 dX12_thrown_4
set_option maxRecDepth 20000 in
set_option maxHeartbeats 4000000 in
theorem b_M_unlike_99 {p : Program} {l : Launch} {e : Env} {s : State} {m : MethodId} {args : Array Value} {below : List Frame} {meth : Method} {c : Code} {D : va_G} {cy : cyT} {z : Nat} (C : MX p s m args meth c cX12_unlike 6 ((some .int)) RX12 (Cond.code yX12_unlike cX12_unlike 6 ((some .int)) :: GW)) (N : Nat) {r : Int32} {g : hS} {rc4 : hS → Nat → Int32 → Int32 → Int32 → Option (Int32 × hS)}  (hrc4 : ∀ (h : hS) (th : Nat) (x1 : Int32) (x2 : Int32) (x3 : Int32) (H : Heap) (locs : List Loc) (ls : Array Slot), wd D cy z s 0 h H locs → lv_has ls 6 [(0, .ref th), (1, .int x1), (2, .int x2), (3, .int x3)] → rc4 h th x1 x2 x3 = some (r, g) → W p l e { frames := 0, cells := 0, slots := 0, locals := 0 } s m args below meth c H locs 0 0 (MQ below (eQ D cy z (rI r) g) args s 0 0 (fun q => z ≤ q)) (F0 m 4 ls [])) : ∀  (h : hS) (th : Nat) (x1 : Int32) (x3 : Int32) (y0 : Int32) (y1 : Int32) (H : Heap) (locs : List Loc) (ls : Array Slot), wd D cy z s 0 h H locs → lv_has ls 6 [(0, .ref th), (1, .int x1), (3, .int x3)] → f_M_unlike_99 N rc4  h th x1 x3 y0 y1 = some (r, g) → W p l e { frames := 0, cells := 0, slots := 0, locals := 0 } s m args below meth c H locs 0 0 (MQ below (eQ D cy z (rI r) g) args s 0 0 (fun q => z ≤ q)) (F0 m 99 ls [.int y1, .int y0]) := by
  obtain ⟨hx, hb, hr, hml, hown, hts, hlk⟩ := id C
  intro  h th x1 x3 y0 y1 H locs ls w  hl hE
  unfold f_M_unlike_99 at hE
  refine lv_iadd hx hb dX12_unlike_99 ?_
  refine w_bnI hE (fun v1 e1 => ?_)
  refine lv_istore_n (lv' := [(2, .int v1), (0, .ref th), (1, .int x1), (3, .int x3)]) hx hb dX12_unlike_100 rfl hl (by decide) rfl (fun ls hl => ?_)
  obtain ⟨v2, ev2, e2⟩ := bn_some e1
  refine lv_iinc (v := v2) (lv' := [(3, .int v2), (2, .int v1), (0, .ref th), (1, .int x1)]) hx hb dX12_unlike_101 hl (k := 3) rfl (by rw [ev2]; rfl) (by decide) rfl (fun ls hl => ?_)
  refine lv_goto (tgt := 4) hx hb dX12_unlike_104 (by decide) ?_
  exact hrc4  h th x1 v1 v2 _ _ ls w  (lv_sub hl [2, 3, 1, 0] rfl) e2
set_option maxRecDepth 20000 in
set_option maxHeartbeats 4000000 in
theorem b_M_unlike_88 {p : Program} {l : Launch} {e : Env} {s : State} {m : MethodId} {args : Array Value} {below : List Frame} {meth : Method} {c : Code} {D : va_G} {cy : cyT} {z : Nat} (C : MX p s m args meth c cX12_unlike 6 ((some .int)) RX12 (Cond.code yX12_unlike cX12_unlike 6 ((some .int)) :: GW)) (N : Nat) {r : Int32} {g : hS} {rc4 : hS → Nat → Int32 → Int32 → Int32 → Option (Int32 × hS)}  (hrc4 : ∀ (h : hS) (th : Nat) (x1 : Int32) (x2 : Int32) (x3 : Int32) (H : Heap) (locs : List Loc) (ls : Array Slot), wd D cy z s 0 h H locs → lv_has ls 6 [(0, .ref th), (1, .int x1), (2, .int x2), (3, .int x3)] → rc4 h th x1 x2 x3 = some (r, g) → W p l e { frames := 0, cells := 0, slots := 0, locals := 0 } s m args below meth c H locs 0 0 (MQ below (eQ D cy z (rI r) g) args s 0 0 (fun q => z ≤ q)) (F0 m 4 ls [])) : ∀  (h : hS) (th : Nat) (x1 : Int32) (x2 : Int32) (x3 : Int32) (x4 : Int32) (H : Heap) (locs : List Loc) (ls : Array Slot), wd D cy z s 0 h H locs → lv_has ls 6 [(0, .ref th), (1, .int x1), (2, .int x2), (3, .int x3), (4, .int x4)] → f_M_unlike_88 N rc4  h th x1 x2 x3 x4 = some (r, g) → W p l e { frames := 0, cells := 0, slots := 0, locals := 0 } s m args below meth c H locs 0 0 (MQ below (eQ D cy z (rI r) g) args s 0 0 (fun q => z ≤ q)) (F0 m 88 ls []) := by
  obtain ⟨hx, hb, hr, hml, hown, hts, hlk⟩ := id C
  intro  h th x1 x2 x3 x4 H locs ls w  hl hE
  unfold f_M_unlike_88 at hE
  refine lv_iload_n hx hb dX12_unlike_88 rfl (lv_at hl 2 rfl) ?_
  refine lv_iload hx hb dX12_unlike_89 (lv_at hl 4 rfl) ?_
  refine w_if_eq (tgt := 98) C dX12_unlike_91 (by decide) hE (fun hc e1 => ?_) (fun hc e1 => ?_)
  · refine lv_iconst (v := 0) hx hb dX12_unlike_98 (by decide) ?_
    exact b_M_unlike_99 C N  hrc4   h th x1 x3 x2 (0 : Int32) _ _ ls w  (lv_sub hl [0, 1, 3] rfl) e1
  · refine lv_iconst (v := 1) hx hb dX12_unlike_94 (by decide) ?_
    refine lv_goto (tgt := 99) hx hb dX12_unlike_95 (by decide) ?_
    exact b_M_unlike_99 C N  hrc4   h th x1 x3 x2 (1 : Int32) _ _ ls w  (lv_sub hl [0, 1, 3] rfl) e1
set_option maxRecDepth 20000 in
set_option maxHeartbeats 4000000 in
theorem b_M_unlike_80 {p : Program} {l : Launch} {e : Env} {s : State} {m : MethodId} {args : Array Value} {below : List Frame} {meth : Method} {c : Code} {D : va_G} {cy : cyT} {z : Nat} (C : MX p s m args meth c cX12_unlike 6 ((some .int)) RX12 (Cond.code yX12_unlike cX12_unlike 6 ((some .int)) :: GW)) (N : Nat) {r : Int32} {g : hS} {rc4 : hS → Nat → Int32 → Int32 → Int32 → Option (Int32 × hS)}  (hrc4 : ∀ (h : hS) (th : Nat) (x1 : Int32) (x2 : Int32) (x3 : Int32) (H : Heap) (locs : List Loc) (ls : Array Slot), wd D cy z s 0 h H locs → lv_has ls 6 [(0, .ref th), (1, .int x1), (2, .int x2), (3, .int x3)] → rc4 h th x1 x2 x3 = some (r, g) → W p l e { frames := 0, cells := 0, slots := 0, locals := 0 } s m args below meth c H locs 0 0 (MQ below (eQ D cy z (rI r) g) args s 0 0 (fun q => z ≤ q)) (F0 m 4 ls [])) {rc21 : hS → Nat → Int32 → Int32 → Int32 → Int32 → Int32 → Option (Int32 × hS)}  (hrc21 : ∀ (h : hS) (th : Nat) (x1 : Int32) (x2 : Int32) (x3 : Int32) (x4 : Int32) (x5 : Int32) (H : Heap) (locs : List Loc) (ls : Array Slot), wd D cy z s 0 h H locs → lv_has ls 6 [(0, .ref th), (1, .int x1), (2, .int x2), (3, .int x3), (4, .int x4), (5, .int x5)] → rc21 h th x1 x2 x3 x4 x5 = some (r, g) → W p l e { frames := 0, cells := 0, slots := 0, locals := 0 } s m args below meth c H locs 0 0 (MQ below (eQ D cy z (rI r) g) args s 0 0 (fun q => z ≤ q)) (F0 m 21 ls [])) : ∀  (h : hS) (th : Nat) (x1 : Int32) (x2 : Int32) (x3 : Int32) (x5 : Int32) (y0 : Int32) (H : Heap) (locs : List Loc) (ls : Array Slot), wd D cy z s 0 h H locs → lv_has ls 6 [(0, .ref th), (1, .int x1), (2, .int x2), (3, .int x3), (5, .int x5)] → f_M_unlike_80 N rc4 rc21  h th x1 x2 x3 x5 y0 = some (r, g) → W p l e { frames := 0, cells := 0, slots := 0, locals := 0 } s m args below meth c H locs 0 0 (MQ below (eQ D cy z (rI r) g) args s 0 0 (fun q => z ≤ q)) (F0 m 80 ls [.int y0]) := by
  obtain ⟨hx, hb, hr, hml, hown, hts, hlk⟩ := id C
  intro  h th x1 x2 x3 x5 y0 H locs ls w  hl hE
  unfold f_M_unlike_80 at hE
  refine lv_istore (lv' := [(4, .int y0), (0, .ref th), (1, .int x1), (2, .int x2), (3, .int x3), (5, .int x5)]) hx hb dX12_unlike_80 hl (by decide) rfl (fun ls hl => ?_)
  obtain ⟨v1, ev1, e1⟩ := bn_some hE
  refine lv_iinc (v := v1) (lv' := [(5, .int v1), (4, .int y0), (0, .ref th), (1, .int x1), (2, .int x2), (3, .int x3)]) hx hb dX12_unlike_82 hl (k := 5) rfl (by rw [ev1]; rfl) (by decide) rfl (fun ls hl => ?_)
  refine lv_goto (tgt := 21) hx hb dX12_unlike_85 (by decide) ?_
  exact hrc21  h th x1 x2 x3 y0 v1 _ _ ls w  (lv_sub hl [2, 3, 4, 5, 1, 0] rfl) e1
set_option maxRecDepth 20000 in
set_option maxHeartbeats 4000000 in
theorem b_M_unlike_75 {p : Program} {l : Launch} {e : Env} {s : State} {m : MethodId} {args : Array Value} {below : List Frame} {meth : Method} {c : Code} {D : va_G} {cy : cyT} {z : Nat} (C : MX p s m args meth c cX12_unlike 6 ((some .int)) RX12 (Cond.code yX12_unlike cX12_unlike 6 ((some .int)) :: GW)) (N : Nat) {r : Int32} {g : hS} {rc4 : hS → Nat → Int32 → Int32 → Int32 → Option (Int32 × hS)}  (hrc4 : ∀ (h : hS) (th : Nat) (x1 : Int32) (x2 : Int32) (x3 : Int32) (H : Heap) (locs : List Loc) (ls : Array Slot), wd D cy z s 0 h H locs → lv_has ls 6 [(0, .ref th), (1, .int x1), (2, .int x2), (3, .int x3)] → rc4 h th x1 x2 x3 = some (r, g) → W p l e { frames := 0, cells := 0, slots := 0, locals := 0 } s m args below meth c H locs 0 0 (MQ below (eQ D cy z (rI r) g) args s 0 0 (fun q => z ≤ q)) (F0 m 4 ls [])) {rc21 : hS → Nat → Int32 → Int32 → Int32 → Int32 → Int32 → Option (Int32 × hS)}  (hrc21 : ∀ (h : hS) (th : Nat) (x1 : Int32) (x2 : Int32) (x3 : Int32) (x4 : Int32) (x5 : Int32) (H : Heap) (locs : List Loc) (ls : Array Slot), wd D cy z s 0 h H locs → lv_has ls 6 [(0, .ref th), (1, .int x1), (2, .int x2), (3, .int x3), (4, .int x4), (5, .int x5)] → rc21 h th x1 x2 x3 x4 x5 = some (r, g) → W p l e { frames := 0, cells := 0, slots := 0, locals := 0 } s m args below meth c H locs 0 0 (MQ below (eQ D cy z (rI r) g) args s 0 0 (fun q => z ≤ q)) (F0 m 21 ls [])) : ∀  (h : hS) (th : Nat) (x1 : Int32) (x2 : Int32) (x3 : Int32) (x5 : Int32) (H : Heap) (locs : List Loc) (ls : Array Slot), wd D cy z s 0 h H locs → lv_has ls 6 [(0, .ref th), (1, .int x1), (2, .int x2), (3, .int x3), (5, .int x5)] → f_M_unlike_75 N rc4 rc21  h th x1 x2 x3 x5 = some (r, g) → W p l e { frames := 0, cells := 0, slots := 0, locals := 0 } s m args below meth c H locs 0 0 (MQ below (eQ D cy z (rI r) g) args s 0 0 (fun q => z ≤ q)) (F0 m 75 ls []) := by
  obtain ⟨hx, hb, hr, hml, hown, hts, hlk⟩ := id C
  intro  h th x1 x2 x3 x5 H locs ls w  hl hE
  unfold f_M_unlike_75 at hE
  refine lv_iconst (v := 1) hx hb dX12_unlike_75 (by decide) ?_
  refine lv_goto (tgt := 80) hx hb dX12_unlike_76 (by decide) ?_
  exact b_M_unlike_80 C N  hrc4 hrc21   h th x1 x2 x3 x5 (1 : Int32) _ _ ls w  (lv_sub hl [0, 1, 2, 3, 4] rfl) hE
set_option maxRecDepth 20000 in
set_option maxHeartbeats 4000000 in
theorem b_M_unlike_21 {p : Program} {l : Launch} {e : Env} {s : State} {m : MethodId} {args : Array Value} {below : List Frame} {meth : Method} {c : Code} {D : va_G} {cy : cyT} {z : Nat} (C : MX p s m args meth c cX12_unlike 6 ((some .int)) RX12 (Cond.code yX12_unlike cX12_unlike 6 ((some .int)) :: GW)) (N : Nat) {r : Int32} {g : hS} {rc4 : hS → Nat → Int32 → Int32 → Int32 → Option (Int32 × hS)}  (hrc4 : ∀ (h : hS) (th : Nat) (x1 : Int32) (x2 : Int32) (x3 : Int32) (H : Heap) (locs : List Loc) (ls : Array Slot), wd D cy z s 0 h H locs → lv_has ls 6 [(0, .ref th), (1, .int x1), (2, .int x2), (3, .int x3)] → rc4 h th x1 x2 x3 = some (r, g) → W p l e { frames := 0, cells := 0, slots := 0, locals := 0 } s m args below meth c H locs 0 0 (MQ below (eQ D cy z (rI r) g) args s 0 0 (fun q => z ≤ q)) (F0 m 4 ls [])) : ∀ (n : Nat) (h : hS) (th : Nat) (x1 : Int32) (x2 : Int32) (x3 : Int32) (x4 : Int32) (x5 : Int32) (H : Heap) (locs : List Loc) (ls : Array Slot), wd D cy z s 0 h H locs → lv_has ls 6 [(0, .ref th), (1, .int x1), (2, .int x2), (3, .int x3), (4, .int x4), (5, .int x5)] → f_M_unlike_21 N rc4 n h th x1 x2 x3 x4 x5 = some (r, g) → W p l e { frames := 0, cells := 0, slots := 0, locals := 0 } s m args below meth c H locs 0 0 (MQ below (eQ D cy z (rI r) g) args s 0 0 (fun q => z ≤ q)) (F0 m 21 ls []) := by
  obtain ⟨hx, hb, hr, hml, hown, hts, hlk⟩ := id C
  intro n
  induction n with
  | zero =>
    intro  h th x1 x2 x3 x4 x5 H locs ls w  hl hE
    cases hE
  | succ n ih =>
    intro  h th x1 x2 x3 x4 x5 H locs ls w  hl hE
    unfold f_M_unlike_21 at hE
    refine lv_iload hx hb dX12_unlike_21 (lv_at hl 5 rfl) ?_
    refine lv_iload_n hx hb dX12_unlike_23 rfl (lv_at hl 3 rfl) ?_
    refine w_icmp_ge (tgt := 88) C dX12_unlike_24 (by decide) hE (fun hc e1 => ?_) (fun hc e1 => ?_)
    · exact b_M_unlike_88 C N  hrc4   h th x1 x2 x3 x4 _ _ ls w  (lv_sub hl [0, 1, 2, 3, 4] rfl) e1
    · refine lv_iload hx hb dX12_unlike_27 (lv_at hl 4 rfl) ?_
      refine w_if_eq (tgt := 88) C dX12_unlike_29 (by decide) e1 (fun hc e2 => ?_) (fun hc e2 => ?_)
      · exact b_M_unlike_88 C N  hrc4   h th x1 x2 x3 x4 _ _ ls w  (lv_sub hl [0, 1, 2, 3, 4] rfl) e2
      · refine lv_aload_n hx hb dX12_unlike_32 rfl (lv_at hl 0 rfl) ?_
        refine w_gR (r := some th) (ci := 0) (k := 46) C w rfl (by decide) (GF_wsX120 _) (by decide) rfl (List.mem_cons_of_mem _ gw_7_23) rfl dX12_unlike_33 e2 (fun v1 e3 => ?_)
        refine lv_iload hx hb dX12_unlike_36 (lv_at hl 5 rfl) ?_
        refine w_aZ (r := v1) C w dX12_unlike_38 e3 (fun v2 e4 => ?_)
        refine w_if_eq (tgt := 75) C dX12_unlike_39 (by decide) e4 (fun hc e5 => ?_) (fun hc e5 => ?_)
        · exact b_M_unlike_75 C N  hrc4 ih   h th x1 x2 x3 x5 _ _ ls w  (lv_sub hl [0, 1, 2, 3, 5] rfl) e5
        · refine lv_aload_n hx hb dX12_unlike_42 rfl (lv_at hl 0 rfl) ?_
          refine w_gR (r := some th) (ci := 0) (k := 47) C w rfl (by decide) (GF_wsX120 _) (by decide) rfl (List.mem_cons_of_mem _ gw_8_0) rfl dX12_unlike_43 e5 (fun v3 e6 => ?_)
          refine lv_bipush (v := 41) hx hb dX12_unlike_46 (by decide) ?_
          refine lv_iload hx hb dX12_unlike_48 (lv_at hl 5 rfl) ?_
          refine lv_imul hx hb dX12_unlike_50 ?_
          refine lv_iload_n hx hb dX12_unlike_51 rfl (lv_at hl 1 rfl) ?_
          refine lv_iadd hx hb dX12_unlike_52 ?_
          refine lv_bipush (v := 20) hx hb dX12_unlike_53 (by decide) ?_
          refine lv_iadd hx hb dX12_unlike_55 ?_
          refine w_aJ (r := v3) C w dX12_unlike_56 e6 (fun v4 e7 => ?_)
          refine lv_aload_n hx hb dX12_unlike_57 rfl (lv_at hl 0 rfl) ?_
          refine w_gR (r := some th) (ci := 0) (k := 47) C w rfl (by decide) (GF_wsX120 _) (by decide) rfl (List.mem_cons_of_mem _ gw_8_0) rfl dX12_unlike_58 e7 (fun v5 e8 => ?_)
          refine lv_bipush (v := 41) hx hb dX12_unlike_61 (by decide) ?_
          refine lv_iload_n hx hb dX12_unlike_63 rfl (lv_at hl 3 rfl) ?_
          refine lv_imul hx hb dX12_unlike_64 ?_
          refine lv_iload_n hx hb dX12_unlike_65 rfl (lv_at hl 1 rfl) ?_
          refine lv_iadd hx hb dX12_unlike_66 ?_
          refine lv_bipush (v := 20) hx hb dX12_unlike_67 (by decide) ?_
          refine lv_iadd hx hb dX12_unlike_69 ?_
          refine w_aJ (r := v5) C w dX12_unlike_70 e8 (fun v6 e9 => ?_)
          refine W.lcmp hx hb dX12_unlike_71 ?_
          refine w_if_eq (tgt := 79) C dX12_unlike_72 (by decide) e9 (fun hc e10 => ?_) (fun hc e10 => ?_)
          · refine lv_iconst (v := 0) hx hb dX12_unlike_79 (by decide) ?_
            exact b_M_unlike_80 C N  hrc4 ih   h th x1 x2 x3 x5 (0 : Int32) _ _ ls w  (lv_sub hl [0, 1, 2, 3, 5] rfl) e10
          · exact b_M_unlike_75 C N  hrc4 ih   h th x1 x2 x3 x5 _ _ ls w  (lv_sub hl [0, 1, 2, 3, 5] rfl) e10
set_option maxRecDepth 20000 in
set_option maxHeartbeats 4000000 in
theorem b_M_unlike_4 {p : Program} {l : Launch} {e : Env} {s : State} {m : MethodId} {args : Array Value} {below : List Frame} {meth : Method} {c : Code} {D : va_G} {cy : cyT} {z : Nat} (C : MX p s m args meth c cX12_unlike 6 ((some .int)) RX12 (Cond.code yX12_unlike cX12_unlike 6 ((some .int)) :: GW)) (N : Nat) {r : Int32} {g : hS}  : ∀ (n : Nat) (h : hS) (th : Nat) (x1 : Int32) (x2 : Int32) (x3 : Int32) (H : Heap) (locs : List Loc) (ls : Array Slot), wd D cy z s 0 h H locs → lv_has ls 6 [(0, .ref th), (1, .int x1), (2, .int x2), (3, .int x3)] → f_M_unlike_4 N  n h th x1 x2 x3 = some (r, g) → W p l e { frames := 0, cells := 0, slots := 0, locals := 0 } s m args below meth c H locs 0 0 (MQ below (eQ D cy z (rI r) g) args s 0 0 (fun q => z ≤ q)) (F0 m 4 ls []) := by
  obtain ⟨hx, hb, hr, hml, hown, hts, hlk⟩ := id C
  intro n
  induction n with
  | zero =>
    intro  h th x1 x2 x3 H locs ls w  hl hE
    cases hE
  | succ n ih =>
    intro  h th x1 x2 x3 H locs ls w  hl hE
    unfold f_M_unlike_4 at hE
    refine lv_iload_n hx hb dX12_unlike_4 rfl (lv_at hl 3 rfl) ?_
    refine lv_bipush (v := 40) hx hb dX12_unlike_5 (by decide) ?_
    refine w_icmp_gt (tgt := 107) C dX12_unlike_7 (by decide) hE (fun hc e1 => ?_) (fun hc e1 => ?_)
    · refine lv_iload_n hx hb dX12_unlike_107 rfl (lv_at hl 2 rfl) ?_
      exact w_iret C w e1 dX12_unlike_108
    · refine lv_aload_n hx hb dX12_unlike_10 rfl (lv_at hl 0 rfl) ?_
      refine w_gR (r := some th) (ci := 0) (k := 46) C w rfl (by decide) (GF_wsX120 _) (by decide) rfl (List.mem_cons_of_mem _ gw_7_23) rfl dX12_unlike_11 e1 (fun v1 e2 => ?_)
      refine lv_iload_n hx hb dX12_unlike_14 rfl (lv_at hl 3 rfl) ?_
      refine w_aZ (r := v1) C w dX12_unlike_15 e2 (fun v2 e3 => ?_)
      refine lv_istore (lv' := [(4, .int v2), (0, .ref th), (1, .int x1), (2, .int x2), (3, .int x3)]) hx hb dX12_unlike_16 hl (by decide) rfl (fun ls hl => ?_)
      refine lv_iconst (v := 0) hx hb dX12_unlike_18 (by decide) ?_
      refine lv_istore (lv' := [(5, .int (0 : Int32)), (4, .int v2), (0, .ref th), (1, .int x1), (2, .int x2), (3, .int x3)]) hx hb dX12_unlike_19 hl (by decide) rfl (fun ls hl => ?_)
      exact b_M_unlike_21 C N  ih N  h th x1 x2 x3 v2 (0 : Int32) _ _ ls w  (lv_sub hl [2, 3, 4, 5, 1, 0] rfl) e3
set_option maxRecDepth 20000 in
set_option maxHeartbeats 4000000 in
theorem k_M_unlike (l : Launch) (D : va_G) (cy : cyT) (z : Nat) (N : Nat) (h : hS) (th : Nat) (x1 : Int32) (r : Int32) (g : hS) (hE : f_M_unlike N h th x1 = some (r, g)) : ct l yX12_unlike (Cond.code yX12_unlike cX12_unlike 6 ((some .int)) :: GW) { frames := 0, cells := 0, slots := 0, locals := 0 } D cy z h [.ref th, .int x1] (rI r) g := by
  refine Met.ofW (cc := cX12_unlike) (maxL := 6) (ret := (some .int)) (by decide) rfl ?_
  intro p e s m args below meth c s₁ B hml hv
  obtain ⟨rfl, hw⟩ := hv
  have C : MX p s m ([.ref th, .int x1] : List Value).toArray meth c cX12_unlike 6 ((some .int)) RX12 (Cond.code yX12_unlike cX12_unlike 6 ((some .int)) :: GW) := ⟨B.exec, B.bytes, B.returns, hml, findClass_of_methodNamed B.named, atoms_spec (ws := Cond.code yX12_unlike cX12_unlike 6 ((some .int)) :: GW) B.pre, B.notSynchronized⟩
  obtain ⟨hx, hb, hr, hml, hown, hts, hlk⟩ := id C
  have w := wd_of hw
  obtain ⟨ls, hen, hl⟩ : ∃ ls : Array Slot, entryFrame m ([.ref th, .int x1] : List Value).toArray 6 = F0 m 0 ls [] ∧ lv_has ls 6 [(0, .ref th), (1, .int x1)] := by
    exact ⟨_, lg_entry_eq _ _ _, lv_entry _ (Nat.le_of_ble_eq_true rfl)⟩
  rw [hen]
  unfold f_M_unlike at hE
  refine lv_iconst (v := 0) hx hb dX12_unlike_0 (by decide) ?_
  refine lv_istore_n (lv' := [(2, .int (0 : Int32)), (0, .ref th), (1, .int x1)]) hx hb dX12_unlike_1 rfl hl (by decide) rfl (fun ls hl => ?_)
  refine lv_iconst (v := 0) hx hb dX12_unlike_2 (by decide) ?_
  refine lv_istore_n (lv' := [(3, .int (0 : Int32)), (2, .int (0 : Int32)), (0, .ref th), (1, .int x1)]) hx hb dX12_unlike_3 rfl hl (by decide) rfl (fun ls hl => ?_)
  exact b_M_unlike_4 C N   N  h th x1 (0 : Int32) (0 : Int32) _ _ ls w  (lv_sub hl [2, 3, 1, 0] rfl) hE
