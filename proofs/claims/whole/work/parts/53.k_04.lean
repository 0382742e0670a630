def f_Trail_lay_75 (N : Nat)  (h : hS)  : Option (Unit × hS) := some ((), h)
def f_Trail_lay_68 (N : Nat) (rc11 : hS → Nat → Option Nat → Int32 → Option (Unit × hS)) (h : hS) (th : Nat) (a2 : Option Nat) (x3 : Int32) (y0 : Int32) : Option (Unit × hS) := bn (x3 + (1 : Int32)) fun v1 => rc11 h th a2 v1
def f_Trail_lay_11 (N : Nat)  : Nat → hS → Nat → Option Nat → Int32 → Option (Unit × hS)
  | 0 => fun _ _ _ _ => none
  | n + 1 => fun h th a2 x3 => gR h (some th) 10 0 fun v1 => gI h v1 2 1 fun v2 => if v2 ≤ x3 then (f_Trail_lay_75 N   h ) else (if (40 : Int32) ≤ x3 then (f_Trail_lay_75 N   h ) else (gR h (some th) 10 1 fun v3 => gR h a2 1 0 fun v4 => cv h v4 3 (fun a => f_Curve_lowEnd N h a (0 : Int32)) fun v5 h6 => uI h6 v3 x3 v5 fun h7 => gR h7 (some th) 10 2 fun v8 => gR h7 a2 1 0 fun v9 => cv h7 v9 3 (fun a => f_Curve_highEnd N h7 a (0 : Int32)) fun v10 h11 => uI h11 v8 x3 v10 fun h12 => gR h12 (some th) 10 0 fun v13 => cv h12 v13 2 (fun a => f_Chain_stepAt N h12 a x3) fun v14 h15 => cv h15 a2 1 (fun a => f_Bench_applyStep N h15 a v14) fun v16 h17 => f_Trail_lay_68 N (f_Trail_lay_11 N  n)  h17 th a2 x3 v16))
def f_Trail_lay_9 (N : Nat)  (h : hS) (th : Nat) (a2 : Option Nat) : Option (Unit × hS) := f_Trail_lay_11 N  N h th a2 (0 : Int32)
def f_Trail_lay (N : Nat) (h : hS) (th : Nat) (a1 : Option Nat) (a2 : Option Nat) : Option (Unit × hS) := pR h (some th) 10 0 a1 fun h1 => cv h1 a2 1 (fun a => f_Bench_startAnew N h1 a ) fun _ h3 => f_Trail_lay_9 N   h3 th a2
def f_Trail_placeAhead_23 (N : Nat)  (h : hS) (x2 : Int32) : Option (Int32 × hS) := some (x2, h)
def f_Trail_placeAhead (N : Nat) (h : hS) (th : Nat) (x1 : Int32) (x2 : Int32) : Option (Int32 × hS) := gR h (some th) 10 0 fun v1 => cv h v1 2 (fun a => f_Chain_stepAt N h a x1) fun v2 h3 => if v2 = none then (f_Trail_placeAhead_23 N   h3 x2) else (if x1 < (0 : Int32) then (f_Trail_placeAhead_23 N   h3 x2) else (if x1 < (40 : Int32) then (gI h3 v2 8 0 fun v4 => if v4 = (3 : Int32) then (gI h3 v2 8 1 fun v5 => some ((x2 - v5), h3)) else (if v4 = (4 : Int32) then (gR h3 (some th) 10 1 fun v6 => aI h3 50 v6 x1 fun v7 => gR h3 (some th) 10 2 fun v8 => aI h3 50 v8 x1 fun v9 => cl (f_K_clamp N h3 x2 v7 v9) fun v10 h11 => gI h11 v2 8 2 fun v12 => gI h11 v2 8 1 fun v13 => cl (f_K_clamp N h11 v10 (x2 - v12) (x2 + v13)) fun v14 h15 => some (v14, h15)) else (if v4 = (5 : Int32) then (gR h3 (some th) 10 2 fun v16 => aI h3 50 v16 x1 fun v17 => some ((jmn x2 v17), h3)) else (if v4 = (6 : Int32) then (gR h3 (some th) 10 1 fun v18 => aI h3 50 v18 x1 fun v19 => some ((jmx x2 v19), h3)) else (some (x2, h3)))))) else (f_Trail_placeAhead_23 N   h3 x2)))
def f_Trail_placeBehind_38 (N : Nat)  (h : hS) (x3 : Int32) : Option (Int32 × hS) := some (x3, h)
def f_Trail_placeBehind_13 (N : Nat)  : Nat → hS → Nat → Int32 → Int32 → Int32 → Option (Int32 × hS)
  | 0 => fun _ _ _ _ _ => none
  | n + 1 => fun h th x1 x3 x4 => if x4 < (0 : Int32) then (f_Trail_placeBehind_38 N   h x3) else (if x4 < x1 then (f_Trail_placeBehind_38 N   h x3) else (cv h (some th) 10 (fun a => f_Trail_placeAhead N h a x4 x3) fun v1 h2 => bn (x4 + (-1 : Int32)) fun v3 => f_Trail_placeBehind_13 N  n h2 th x1 v1 v3))
def f_Trail_placeBehind (N : Nat) (h : hS) (th : Nat) (x1 : Int32) (x2 : Int32) : Option (Int32 × hS) := gR h (some th) 10 0 fun v1 => gI h v1 2 1 fun v2 => bn ((v2 - (1 : Int32))) fun v3 => f_Trail_placeBehind_13 N  N h th x1 x2 v3
def f_Trail_wayTo_15 (N : Nat)  : Nat → hS → Nat → Int32 → Int32 → Int32 → Option (Int32 × hS)
  | 0 => fun _ _ _ _ _ => none
  | n + 1 => fun h th x2 x3 x4 => if x4 < (0 : Int32) then (some (x2, h)) else (cv h (some th) 10 (fun a => f_Trail_placeAhead N h a x4 x3) fun v1 h2 => bn ((x2 + (jab (x3 - v1)))) fun v3 => bn (x4 + (-1 : Int32)) fun v4 => f_Trail_wayTo_15 N  n h2 th v3 v1 v4)
def f_Trail_wayTo (N : Nat) (h : hS) (th : Nat) (x1 : Int32) : Option (Int32 × hS) := gR h (some th) 10 0 fun v1 => gI h v1 2 1 fun v2 => bn ((v2 - (1 : Int32))) fun v3 => f_Trail_wayTo_15 N  N h th (0 : Int32) x1 v3
def f_Walk_init (N : Nat) (h : hS) (th : Nat) (a1 : Option Nat) : Option (Unit × hS) := pR h (some th) 11 0 a1 fun h1 => some ((), h1)
def f_Walk_startAt (N : Nat) (h : hS) (th : Nat) (a1 : Option Nat) (x2 : Int32) : Option (Unit × hS) := pR h (some th) 11 0 a1 fun h1 => pI h1 (some th) 11 1 x2 fun h2 => gR h2 (some th) 11 0 fun v3 => gI h2 (some th) 11 1 fun v4 => cv h2 v3 3 (fun a => f_Curve_slopeBehind N h2 a v4) fun v5 h6 => pI h6 (some th) 11 2 v5 fun h7 => gR h7 (some th) 11 0 fun v8 => gI h7 (some th) 11 1 fun v9 => cv h7 v8 3 (fun a => f_Curve_kinksUpTo N h7 a v9) fun v10 h11 => pI h11 (some th) 11 3 v10 fun h12 => gR h12 (some th) 11 0 fun v13 => gI h12 (some th) 11 1 fun v14 => cv h12 v13 3 (fun a => f_Curve_valueAt N h12 a v14) fun v15 h16 => pJ h16 (some th) 11 4 v15 fun h17 => some ((), h17)
def f_Walk_goOn_86 (N : Nat)  (h : hS)  : Option (Unit × hS) := some ((), h)
def f_Walk_goOn (N : Nat) (h : hS) (th : Nat) : Option (Unit × hS) := gJ h (some th) 11 4 fun v1 => gI h (some th) 11 2 fun v2 => pJ h (some th) 11 4 (v1 + v2.toInt64) fun h3 => gI h3 (some th) 11 1 fun v4 => pI h3 (some th) 11 1 (v4 + (1 : Int32)) fun h5 => gI h5 (some th) 11 3 fun v6 => gR h5 (some th) 11 0 fun v7 => gI h5 v7 3 0 fun v8 => if v8 ≤ v6 then (f_Walk_goOn_86 N   h5 ) else (gR h5 (some th) 11 0 fun v9 => gI h5 (some th) 11 3 fun v10 => cv h5 v9 3 (fun a => f_Curve_placeOf N h5 a v10) fun v11 h12 => gI h12 (some th) 11 1 fun v13 => if v11 = v13 then (gI h12 (some th) 11 2 fun v14 => gR h12 (some th) 11 0 fun v15 => gI h12 (some th) 11 3 fun v16 => cv h12 v15 3 (fun a => f_Curve_weightOf N h12 a v16) fun v17 h18 => pI h18 (some th) 11 2 (v14 + v17) fun h19 => gI h19 (some th) 11 3 fun v20 => pI h19 (some th) 11 3 (v20 + (1 : Int32)) fun h21 => f_Walk_goOn_86 N   h21 ) else (f_Walk_goOn_86 N   h12 ))
def f_K_init_204 (N : Nat)  (h : hS) (th : Nat) (y0 : Option Nat) (y1 : Option Nat) : Option (Unit × hS) := pR h y0 12 16 y1 fun h1 => pR h1 (some th) 12 17 none fun h2 => some ((), h2)
def f_K_init_200 (N : Nat)  (h : hS) (th : Nat) (y0 : Option Nat) (y1 : Option Nat) : Option (Unit × hS) := nn y1 fun q3 => cl (f_State_init N h q3 ) fun _ h2 => f_K_init_204 N   h2 th y0 (some q3)
def f_K_init_193 (N : Nat)  (h : hS) (th : Nat) (y0 : Option Nat) (y1 : Option Nat) : Option (Unit × hS) := pR h y0 12 15 y1 fun h1 => nwO h1 7 8 fun q2 h3 => f_K_init_200 N   h3 th (some th) (some q2)
def f_K_init_189 (N : Nat)  (h : hS) (th : Nat) (y0 : Option Nat) (y1 : Option Nat) : Option (Unit × hS) := nn y1 fun q3 => cl (f_Chain_init N h q3 ) fun _ h2 => f_K_init_193 N   h2 th y0 (some q3)
def f_K_init_172 (N : Nat)  (h : hS) (th : Nat) (y0 : Option Nat) (y1 : Option Nat) : Option (Unit × hS) := gR h (some th) 12 13 fun v1 => aR h 63 v1 (0 : Int32) fun v2 => nn y1 fun q5 => cl (f_Walk_init N h q5 v2) fun _ h4 => pR h4 y0 12 10 (some q5) fun h6 => nwO h6 2 2 fun q7 h8 => f_K_init_189 N   h8 th (some th) (some q7)
def f_K_init_155 (N : Nat)  (h : hS) (th : Nat) (y0 : Option Nat) (y1 : Option Nat) : Option (Unit × hS) := gR h (some th) 12 13 fun v1 => aR h 63 v1 (0 : Int32) fun v2 => nn y1 fun q5 => cl (f_Walk_init N h q5 v2) fun _ h4 => pR h4 y0 12 9 (some q5) fun h6 => nwO h6 11 5 fun q7 h8 => f_K_init_172 N   h8 th (some th) (some q7)
def f_K_init_132 (N : Nat) (rc115 : hS → Nat → Int32 → Option (Unit × hS)) (h : hS) (th : Nat) (x1 : Int32) (y0 : Option Nat) (y1 : Int32) (y2 : Option Nat) : Option (Unit × hS) := uR h 63 3 y0 y1 y2 fun h1 => gR h1 (some th) 12 14 fun v2 => gR h1 (some th) 12 13 fun v3 => aR h1 63 v3 x1 fun v4 => uR h1 63 3 v2 x1 v4 fun h5 => bn (x1 + (1 : Int32)) fun v6 => rc115 h5 th v6
def f_K_init_128 (N : Nat) (rc115 : hS → Nat → Int32 → Option (Unit × hS)) (h : hS) (th : Nat) (x1 : Int32) (y0 : Option Nat) (y1 : Int32) (y2 : Option Nat) : Option (Unit × hS) := nn y2 fun q3 => cl (f_Curve_init N h q3 ) fun _ h2 => f_K_init_132 N rc115  h2 th x1 y0 y1 (some q3)
def f_K_init_115 (N : Nat)  : Nat → hS → Nat → Int32 → Option (Unit × hS)
  | 0 => fun _ _ _ => none
  | n + 1 => fun h th x1 => if (4 : Int32) ≤ x1 then (nwO h 11 5 fun q1 h2 => f_K_init_155 N   h2 th (some th) (some q1)) else (gR h (some th) 12 13 fun v3 => nwO h 3 5 fun q4 h5 => f_K_init_128 N (f_K_init_115 N  n)  h5 th x1 v3 x1 (some q4))
def f_K_init_110 (N : Nat)  (h : hS) (th : Nat) (y0 : Option Nat) (y1 : Option Nat) : Option (Unit × hS) := pR h y0 12 14 y1 fun h1 => f_K_init_115 N  N h1 th (0 : Int32)
def f_K_init_102 (N : Nat)  (h : hS) (th : Nat) (y0 : Option Nat) (y1 : Option Nat) : Option (Unit × hS) := pR h y0 12 13 y1 fun h1 => nwA h1 63 (4 : Int32) fun q2 h3 => f_K_init_110 N   h3 th (some th) (some q2)
def f_K_init_94 (N : Nat)  (h : hS) (th : Nat) (y0 : Option Nat) (y1 : Option Nat) : Option (Unit × hS) := pR h y0 12 12 y1 fun h1 => nwA h1 63 (4 : Int32) fun q2 h3 => f_K_init_102 N   h3 th (some th) (some q2)
def f_K_init_86 (N : Nat)  (h : hS) (th : Nat) (y0 : Option Nat) (y1 : Option Nat) : Option (Unit × hS) := pR h y0 12 11 y1 fun h1 => nwA h1 50 (41 : Int32) fun q2 h3 => f_K_init_94 N   h3 th (some th) (some q2)
def f_K_init_69 (N : Nat)  (h : hS) (th : Nat) (y0 : Option Nat) (y1 : Option Nat) : Option (Unit × hS) := nn y1 fun q3 => cl (f_Teller_init N h q3 ) fun _ h2 => pR h2 y0 12 7 (some q3) fun h4 => pI h4 (some th) 12 8 (0 : Int32) fun h5 => nwA h5 51 (41 : Int32) fun q6 h7 => f_K_init_86 N   h7 th (some th) (some q6)
def f_K_init_62 (N : Nat)  (h : hS) (th : Nat) (y0 : Option Nat) (y1 : Option Nat) : Option (Unit × hS) := pR h y0 12 6 y1 fun h1 => nwO h1 9 3 fun q2 h3 => f_K_init_69 N   h3 th (some th) (some q2)
def f_K_init_58 (N : Nat)  (h : hS) (th : Nat) (y0 : Option Nat) (y1 : Option Nat) : Option (Unit × hS) := nn y1 fun q3 => cl (f_Trail_init N h q3 ) fun _ h2 => f_K_init_62 N   h2 th y0 (some q3)
def f_K_init_51 (N : Nat)  (h : hS) (th : Nat) (y0 : Option Nat) (y1 : Option Nat) : Option (Unit × hS) := pR h y0 12 5 y1 fun h1 => nwO h1 10 3 fun q2 h3 => f_K_init_58 N   h3 th (some th) (some q2)
def f_K_init_47 (N : Nat)  (h : hS) (th : Nat) (y0 : Option Nat) (y1 : Option Nat) : Option (Unit × hS) := nn y1 fun q3 => cl (f_Shelf_init N h q3 ) fun _ h2 => f_K_init_51 N   h2 th y0 (some q3)
def f_K_init_40 (N : Nat)  (h : hS) (th : Nat) (y0 : Option Nat) (y1 : Option Nat) : Option (Unit × hS) := pR h y0 12 4 y1 fun h1 => nwO h1 6 3 fun q2 h3 => f_K_init_47 N   h3 th (some th) (some q2)
def f_K_init_36 (N : Nat)  (h : hS) (th : Nat) (y0 : Option Nat) (y1 : Option Nat) : Option (Unit × hS) := nn y1 fun q3 => cl (f_Bench_init N h q3 ) fun _ h2 => f_K_init_40 N   h2 th y0 (some q3)
def f_K_init_29 (N : Nat)  (h : hS) (th : Nat) (y0 : Option Nat) (y1 : Option Nat) : Option (Unit × hS) := pR h y0 12 3 y1 fun h1 => nwO h1 1 5 fun q2 h3 => f_K_init_36 N   h3 th (some th) (some q2)
def f_K_init_25 (N : Nat)  (h : hS) (th : Nat) (y0 : Option Nat) (y1 : Option Nat) : Option (Unit × hS) := nn y1 fun q3 => cl (f_Reader_init N h q3 ) fun _ h2 => f_K_init_29 N   h2 th y0 (some q3)
def f_K_init_8 (N : Nat)  (h : hS) (th : Nat) (y0 : Option Nat) (y1 : Option Nat) : Option (Unit × hS) := pR h y0 12 0 y1 fun h1 => pI h1 (some th) 12 1 (0 : Int32) fun h2 => pI h2 (some th) 12 2 (-1 : Int32) fun h3 => nwO h3 5 13 fun q4 h5 => f_K_init_25 N   h5 th (some th) (some q4)
def f_K_init (N : Nat) (h : hS) (th : Nat) : Option (Unit × hS) := nwA h 52 (0 : Int32) fun q1 h2 => f_K_init_8 N   h2 th (some th) (some q1)
def f_K_feedFour_42 (N : Nat) (rc3 : hS → Nat → Int32 → Int32 → Option (Unit × hS)) (h : hS) (th : Nat) (x1 : Int32) (x2 : Int32) : Option (Unit × hS) := bn (x2 + (-8 : Int32)) fun v1 => rc3 h th x1 v1
def f_K_feedFour_3 (N : Nat)  : Nat → hS → Nat → Int32 → Int32 → Option (Unit × hS)
  | 0 => fun _ _ _ _ => none
  | n + 1 => fun h th x1 x2 => if x2 < (0 : Int32) then (some ((), h)) else (gI h (some th) 12 1 fun v1 => gR h (some th) 12 0 fun v2 => lnB h v2 fun v3 => if v3 ≤ v1 then (f_K_feedFour_42 N (f_K_feedFour_3 N  n)  h th x1 x2) else (gR h (some th) 12 0 fun v4 => gI h (some th) 12 1 fun v5 => uB h v4 v5 (((x1.toUInt32 >>> (x2.toUInt32 &&& Int32.toUInt32 31)).toInt32).toInt8.toInt32) fun h6 => gI h6 (some th) 12 1 fun v7 => pI h6 (some th) 12 1 (v7 + (1 : Int32)) fun h8 => f_K_feedFour_42 N (f_K_feedFour_3 N  n)  h8 th x1 x2))
def f_K_feedFour (N : Nat) (h : hS) (th : Nat) (x1 : Int32) : Option (Unit × hS) := f_K_feedFour_3 N  N h th x1 (24 : Int32)
def f_K_feed_35 (N : Nat)  (h : hS) (th : Nat) (x1 : Int32) (x2 : Int32) (x3 : Int32) (x4 : Int32) (x5 : Int32) : Option (Int32 × hS) := cv h (some th) 12 (fun a => f_K_feedFour N h a x1) fun _ h2 => cv h2 (some th) 12 (fun a => f_K_feedFour N h2 a x2) fun _ h4 => cv h4 (some th) 12 (fun a => f_K_feedFour N h4 a x3) fun _ h6 => cv h6 (some th) 12 (fun a => f_K_feedFour N h6 a x4) fun _ h8 => cv h8 (some th) 12 (fun a => f_K_feedFour N h8 a x5) fun _ h10 => gI h10 (some th) 12 1 fun v11 => some (v11, h10)
def f_K_feed_32 (N : Nat)  (h : hS) (th : Nat) (x1 : Int32) (x2 : Int32) (x3 : Int32) (x4 : Int32) (x5 : Int32) (y0 : Option Nat) (y1 : Option Nat) : Option (Int32 × hS) := pR h y0 12 0 y1 fun h1 => f_K_feed_35 N   h1 th x1 x2 x3 x4 x5
def f_K_feed (N : Nat) (h : hS) (th : Nat) (x1 : Int32) (x2 : Int32) (x3 : Int32) (x4 : Int32) (x5 : Int32) : Option (Int32 × hS) := gI h (some th) 12 1 fun v1 => if (v1 + (20 : Int32)) ≤ (600 : Int32) then (gR h (some th) 12 0 fun v2 => lnB h v2 fun v3 => if (600 : Int32) ≤ v3 then (f_K_feed_35 N   h th x1 x2 x3 x4 x5) else (nwA h 52 (600 : Int32) fun q4 h5 => f_K_feed_32 N   h5 th x1 x2 x3 x4 x5 (some th) (some q4))) else (some ((-1 : Int32), h))
def f_K_needSuch (N : Nat) (h : hS) (x0 : Int32) : Option ((Unit ⊕ Nat) × hS) := if x0 = (0 : Int32) then (thr 1 h) else (some ((Sum.inl ()), h))
def f_K_needCost_7 (N : Nat)  (h : hS)  : Option ((Unit ⊕ Nat) × hS) := some ((Sum.inl ()), h)
def f_K_needCost (N : Nat) (h : hS) (x0 : Int32) : Option ((Unit ⊕ Nat) × hS) := cl (f_K_isCost N h x0) fun v1 h2 => clT (f_K_needSuch N h2 v1) fun _ h4 => f_K_needCost_7 N   h4 
def f_K_needFit (N : Nat) (h : hS) (x0 : Int32) : Option ((Unit ⊕ Nat) × hS) := if x0 = (0 : Int32) then (thr 2 h) else (some ((Sum.inl ()), h))
def f_K_refuseText (N : Nat) (h : hS) (th : Nat) (x1 : Int32) (x2 : Int32) : Option (Int32 × hS) := pI h (some th) 12 2 x2 fun h1 => gR h1 (some th) 12 16 fun v2 => gR h1 v2 7 7 fun v3 => aI h1 50 v3 (0 : Int32) fun v4 => uI h1 v3 (0 : Int32) (v4 + (1 : Int32)) fun h5 => some (x1, h5)
def f_K_curveOf_4 (N : Nat)  (h : hS) (th : Nat) (x1 : Int32) : Option ((Option Nat ⊕ Nat) × hS) := gR h (some th) 12 13 fun v1 => aR h 63 v1 x1 fun v2 => some ((Sum.inl v2), h)
def f_K_curveOf (N : Nat) (h : hS) (th : Nat) (x1 : Int32) : Option ((Option Nat ⊕ Nat) × hS) := clT (f_K_needCost N h x1) fun _ h2 => f_K_curveOf_4 N   h2 th x1
def f_K_newStep_62 (N : Nat)  (h : hS) (y0 : Option Nat) (y1 : Option Nat) (y2 : Int32) (y3 : Int32) (y4 : Int32) (y5 : Option Nat) : Option (Option Nat × hS) := nn y1 fun q3 => cl (f_Step_init N h q3 y2 y3 y4 y5) fun _ h2 => some (y0, h2)
def f_K_newStep_58 (N : Nat)  (h : hS) (y0 : Option Nat) (y1 : Option Nat) (y2 : Int32) (y3 : Int32) (y4 : Int32) (y5 : Option Nat) : Option (Option Nat × hS) := f_K_newStep_62 N   h y0 y1 y2 y3 y4 y5
def f_K_newStep_55 (N : Nat)  (h : hS) (y0 : Option Nat) (y1 : Option Nat) (y2 : Int32) (y3 : Int32) (y4 : Int32) (y5 : Option Nat) (y6 : Option Nat) : Option (Option Nat × hS) := cv h y5 6 (fun a => f_Shelf_keep N h a y6) fun v1 h2 => f_K_newStep_58 N   h2 y0 y1 y2 y3 y4 v1
def f_K_newStep_33 (N : Nat)  (h : hS) (th : Nat) (x1 : Int32) (x4 : Int32) (x5 : Int32) (y0 : Option Nat) : Option (Option Nat × hS) := if x1 = (8 : Int32) then (gR h (some th) 12 5 fun v1 => cv h (some th) 12 (fun a => fN (f_K_curveOf N h a x4)) fun v2 h3 => f_K_newStep_55 N   h3 y0 y0 x1 x4 x5 v1 v2) else (f_K_newStep_62 N   h y0 y0 x1 x4 x5 none)
def f_K_newStep_28 (N : Nat)  (h : hS) (th : Nat) (x1 : Int32) (x4 : Int32) (y0 : Int32) : Option (Option Nat × hS) := nwO h 8 4 fun q1 h2 => f_K_newStep_33 N   h2 th x1 x4 y0 (some q1)
def f_K_newStep_13 (N : Nat)  (h : hS) (th : Nat) (x1 : Int32) (x3 : Int32) (y0 : Int32) : Option (Option Nat × hS) := cl (f_K_numbersOf N h x1) fun v1 h2 => if v1 = (2 : Int32) then (f_K_newStep_28 N   h2 th x1 y0 x3) else (f_K_newStep_28 N   h2 th x1 y0 (0 : Int32))
def f_K_newStep (N : Nat) (h : hS) (th : Nat) (x1 : Int32) (x2 : Int32) (x3 : Int32) : Option (Option Nat × hS) := cl (f_K_numbersOf N h x1) fun v1 h2 => if v1 < (1 : Int32) then (f_K_newStep_13 N   h2 th x1 x3 (0 : Int32)) else (f_K_newStep_13 N   h2 th x1 x3 x2)
def f_K_draftReadSteps_71 (N : Nat)  (h : hS)  : Option (Unit × hS) := some ((), h)
def f_K_draftReadSteps_65 (N : Nat) (rc9 : hS → Nat → Int32 → Option (Unit × hS)) (h : hS) (th : Nat) (x1 : Int32) : Option (Unit × hS) := bn (x1 + (1 : Int32)) fun v1 => rc9 h th v1
def f_K_draftReadSteps_62 (N : Nat) (rc9 : hS → Nat → Int32 → Option (Unit × hS)) (h : hS) (th : Nat) (x1 : Int32) (y0 : Option Nat) (y1 : Int32) (y2 : Option Nat) : Option (Unit × hS) := cv h y0 2 (fun a => f_Chain_insert N h a y1 y2) fun _ h2 => f_K_draftReadSteps_65 N rc9  h2 th x1
def f_K_draftReadSteps_9 (N : Nat)  : Nat → hS → Nat → Int32 → Option (Unit × hS)
  | 0 => fun _ _ _ => none
  | n + 1 => fun h th x1 => gR h (some th) 12 3 fun v1 => gI h v1 5 4 fun v2 => if v2 ≤ x1 then (f_K_draftReadSteps_71 N   h ) else (if (40 : Int32) ≤ x1 then (f_K_draftReadSteps_71 N   h ) else (gR h (some th) 12 15 fun v3 => gR h (some th) 12 3 fun v4 => gR h v4 5 0 fun v5 => aI h 50 v5 x1 fun v6 => gR h (some th) 12 3 fun v7 => gR h v7 5 1 fun v8 => aI h 50 v8 x1 fun v9 => gR h (some th) 12 3 fun v10 => gR h v10 5 2 fun v11 => aI h 50 v11 x1 fun v12 => cv h (some th) 12 (fun a => f_K_newStep N h a v6 v9 v12) fun v13 h14 => f_K_draftReadSteps_62 N (f_K_draftReadSteps_9 N  n)  h14 th x1 v3 x1 v13))
def f_K_draftReadSteps (N : Nat) (h : hS) (th : Nat) : Option (Unit × hS) := gR h (some th) 12 15 fun v1 => cv h v1 2 (fun a => f_Chain_clear N h a ) fun _ h3 => f_K_draftReadSteps_9 N  N h3 th (0 : Int32)
def f_K_become_27 (N : Nat)  (h : hS) (th : Nat) : Option (Int32 × hS) := gR h (some th) 12 15 fun v1 => gI h v1 2 1 fun v2 => some (v2, h)
def f_K_become_17 (N : Nat)  (h : hS) (th : Nat) (y0 : Option Nat) : Option (Int32 × hS) := gR h (some th) 12 4 fun v1 => gR h v1 1 0 fun v2 => cv h y0 3 (fun a => f_Curve_take N h a v2) fun _ h4 => f_K_become_27 N   h4 th
def f_K_become_12 (N : Nat)  (h : hS) (th : Nat) (x1 : Int32) : Option (Int32 × hS) := cv h (some th) 12 (fun a => fN (f_K_curveOf N h a x1)) fun v1 h2 => f_K_become_17 N   h2 th v1
def f_K_become (N : Nat) (h : hS) (th : Nat) (x1 : Int32) : Option (Int32 × hS) := gR h (some th) 12 16 fun v1 => gR h (some th) 12 15 fun v2 => cv h v1 7 (fun a => f_State_act N h a x1 v2) fun _ h4 => f_K_become_12 N   h4 th x1
def f_K_text_119 (N : Nat)  (h : hS) (y0 : Int32) : Option ((Int32 ⊕ Nat) × hS) := some ((Sum.inl (0 : Int32)), h)
def f_K_text_86 (N : Nat)  (h : hS) (th : Nat) (x1 : Int32) (y0 : Int32) : Option ((Int32 ⊕ Nat) × hS) := if y0 = (0 : Int32) then (gR h (some th) 12 3 fun v4 => gR h (some th) 12 4 fun v5 => gI h v5 1 4 fun v6 => cv h v4 5 (fun a => f_Reader_wordPlace N h a v6) fun v7 h8 => cv h8 (some th) 12 (fun a => f_K_refuseText N h8 a (4 : Int32) v7) fun v9 h10 => some ((Sum.inl v9), h10)) else (pI h (some th) 12 2 (-1 : Int32) fun h1 => cv h1 (some th) 12 (fun a => f_K_become N h1 a x1) fun v2 h3 => f_K_text_119 N   h3 v2)
def f_K_text_75 (N : Nat)  (h : hS) (th : Nat) (x1 : Int32) : Option ((Int32 ⊕ Nat) × hS) := gR h (some th) 12 4 fun v1 => gR h (some th) 12 15 fun v2 => cv h v1 1 (fun a => f_Bench_build N h a v2) fun v3 h4 => f_K_text_86 N   h4 th x1 v3
def f_K_text_24 (N : Nat)  (h : hS) (th : Nat) (x1 : Int32) (x2 : Int32) : Option ((Int32 ⊕ Nat) × hS) := pI h (some th) 12 1 (0 : Int32) fun h1 => gR h1 (some th) 12 3 fun v2 => gR h1 (some th) 12 0 fun v3 => cv h1 v2 5 (fun a => f_Reader_read N h1 a v3 x2 x1) fun _ h5 => gR h5 (some th) 12 3 fun v6 => gI h5 v6 5 5 fun v7 => if v7 = (0 : Int32) then (cv h5 (some th) 12 (fun a => f_K_draftReadSteps N h5 a ) fun _ h9 => f_K_text_75 N   h9 th x1) else (gR h5 (some th) 12 3 fun v10 => gI h5 v10 5 5 fun v11 => gR h5 (some th) 12 3 fun v12 => gI h5 v12 5 6 fun v13 => cv h5 (some th) 12 (fun a => f_K_refuseText N h5 a v11 v13) fun v14 h15 => some ((Sum.inl v14), h15))
def f_K_text_21 (N : Nat)  (h : hS) (th : Nat) (x1 : Int32) (x2 : Int32) (y0 : Int32) : Option ((Int32 ⊕ Nat) × hS) := clT (f_K_needFit N h y0) fun _ h2 => f_K_text_24 N   h2 th x1 x2
def f_K_text_20 (N : Nat)  (h : hS) (th : Nat) (x1 : Int32) (x2 : Int32) : Option ((Int32 ⊕ Nat) × hS) := f_K_text_21 N   h th x1 x2 (0 : Int32)
def f_K_text_4 (N : Nat)  (h : hS) (th : Nat) (x1 : Int32) (x2 : Int32) : Option ((Int32 ⊕ Nat) × hS) := if x2 < (0 : Int32) then (f_K_text_20 N   h th x1 x2) else (gI h (some th) 12 1 fun v1 => if v1 < x2 then (f_K_text_20 N   h th x1 x2) else (f_K_text_21 N   h th x1 x2 (1 : Int32)))
def f_K_text (N : Nat) (h : hS) (th : Nat) (x1 : Int32) (x2 : Int32) : Option ((Int32 ⊕ Nat) × hS) := clT (f_K_needCost N h x1) fun _ h2 => f_K_text_4 N   h2 th x1 x2
def f_K_fault (N : Nat) (h : hS) (th : Nat) : Option (Int32 × hS) := gI h (some th) 12 2 fun v1 => some (v1, h)
def f_K_chainOf_4 (N : Nat)  (h : hS) (th : Nat) (x1 : Int32) : Option ((Option Nat ⊕ Nat) × hS) := gR h (some th) 12 16 fun v1 => gR h v1 7 0 fun v2 => aR h 62 v2 x1 fun v3 => some ((Sum.inl v3), h)
def f_K_chainOf (N : Nat) (h : hS) (th : Nat) (x1 : Int32) : Option ((Option Nat ⊕ Nat) × hS) := clT (f_K_needCost N h x1) fun _ h2 => f_K_chainOf_4 N   h2 th x1
theorem mo_Trail_lay_75 (N : Nat)  : ∀  (h : hS) , Mo h (f_Trail_lay_75 N   h ) := by
  intro h 
  unfold f_Trail_lay_75
  exact Mo_some
theorem mo_Trail_lay_68 (N : Nat) {rc11 : hS → Nat → Option Nat → Int32 → Option (Unit × hS)} (hsh11 : ∀ (h : hS) (th : Nat) (a2 : Option Nat) (x3 : Int32), Mo h (rc11 h th a2 x3)) : ∀  (h : hS) (th : Nat) (a2 : Option Nat) (x3 : Int32) (y0 : Int32), Mo h (f_Trail_lay_68 N rc11  h th a2 x3 y0) := by
  intro h th a2 x3 y0
  unfold f_Trail_lay_68
  refine Mo_bn (fun v1 => ?_)
  exact hsh11 h th a2 v1
theorem mo_Trail_lay_11 (N : Nat)  : ∀ (n : Nat) (h : hS) (th : Nat) (a2 : Option Nat) (x3 : Int32), Mo h (f_Trail_lay_11 N  n h th a2 x3) := by
  intro n
  induction n with
  | zero =>
    intro h th a2 x3
    exact Mo_none
  | succ n ih =>
    intro h th a2 x3
    unfold f_Trail_lay_11
    refine Mo_gR (fun v1 => ?_)
    refine Mo_gI (fun v2 => ?_)
    refine Mo_ite ?_ ?_
    · exact mo_Trail_lay_75 N   h 
    · refine Mo_ite ?_ ?_
      · exact mo_Trail_lay_75 N   h 
      · refine Mo_gR (fun v3 => ?_)
        refine Mo_gR (fun v4 => ?_)
        refine Mo_cv (fun a => (Sh.mo (sh_Curve_lowEnd N h a (0 : Int32)))) (fun v5 h6 => ?_)
        refine Mo_uI (fun h7 => ?_)
        refine Mo_gR (fun v8 => ?_)
        refine Mo_gR (fun v9 => ?_)
        refine Mo_cv (fun a => (Sh.mo (sh_Curve_highEnd N h7 a (0 : Int32)))) (fun v10 h11 => ?_)
        refine Mo_uI (fun h12 => ?_)
        refine Mo_gR (fun v13 => ?_)
        refine Mo_cv (fun a => (Sh.mo (sh_Chain_stepAt N h12 a x3))) (fun v14 h15 => ?_)
        refine Mo_cv (fun a => (mo_Bench_applyStep N h15 a v14)) (fun v16 h17 => ?_)
        exact mo_Trail_lay_68 N ih  h17 th a2 x3 v16
theorem mo_Trail_lay_9 (N : Nat)  : ∀  (h : hS) (th : Nat) (a2 : Option Nat), Mo h (f_Trail_lay_9 N   h th a2) := by
  intro h th a2
  unfold f_Trail_lay_9
  exact mo_Trail_lay_11 N  N h th a2 (0 : Int32)
theorem mo_Trail_lay (N : Nat) (h : hS) (th : Nat) (a1 : Option Nat) (a2 : Option Nat) : Mo h (f_Trail_lay N h th a1 a2) := by
  unfold f_Trail_lay
  refine Mo_pR (fun h1 => ?_)
  refine Mo_cv (fun a => (mo_Bench_startAnew N h1 a )) (fun v2 h3 => ?_)
  exact mo_Trail_lay_9 N   h3 th a2
theorem sh_Trail_placeAhead_23 (N : Nat)  : ∀  (h : hS) (x2 : Int32), Sh h (f_Trail_placeAhead_23 N   h x2) := by
  intro h x2
  unfold f_Trail_placeAhead_23
  exact Sh_some
theorem sh_Trail_placeAhead (N : Nat) (h : hS) (th : Nat) (x1 : Int32) (x2 : Int32) : Sh h (f_Trail_placeAhead N h th x1 x2) := by
  unfold f_Trail_placeAhead
  refine Sh_gR (fun v1 => ?_)
  refine Sh_cv (fun a => (sh_Chain_stepAt N h a x1)) (fun v2 h3 => ?_)
  refine Sh_ite ?_ ?_
  · exact sh_Trail_placeAhead_23 N   h3 x2
  · refine Sh_ite ?_ ?_
    · exact sh_Trail_placeAhead_23 N   h3 x2
    · refine Sh_ite ?_ ?_
      · refine Sh_gI (fun v4 => ?_)
        refine Sh_ite ?_ ?_
        ·
          refine Sh_gI (fun v5 => ?_)
          exact Sh_some
        ·
          refine Sh_ite ?_ ?_
          ·
            refine Sh_gR (fun v6 => ?_)
            refine Sh_aI (fun v7 => ?_)
            refine Sh_gR (fun v8 => ?_)
            refine Sh_aI (fun v9 => ?_)
            refine Sh_cl (sh_K_clamp N h3 x2 v7 v9) (fun v10 h11 => ?_)
            refine Sh_gI (fun v12 => ?_)
            refine Sh_gI (fun v13 => ?_)
            refine Sh_cl (sh_K_clamp N h11 v10 (x2 - v12) (x2 + v13)) (fun v14 h15 => ?_)
            exact Sh_some
          ·
            refine Sh_ite ?_ ?_
            ·
              refine Sh_gR (fun v16 => ?_)
              refine Sh_aI (fun v17 => ?_)
              exact Sh_some
            ·
              refine Sh_ite ?_ ?_
              ·
                refine Sh_gR (fun v18 => ?_)
                refine Sh_aI (fun v19 => ?_)
                exact Sh_some
              ·
                exact Sh_some
      · exact sh_Trail_placeAhead_23 N   h3 x2
theorem sh_Trail_placeBehind_38 (N : Nat)  : ∀  (h : hS) (x3 : Int32), Sh h (f_Trail_placeBehind_38 N   h x3) := by
  intro h x3
  unfold f_Trail_placeBehind_38
  exact Sh_some
theorem sh_Trail_placeBehind_13 (N : Nat)  : ∀ (n : Nat) (h : hS) (th : Nat) (x1 : Int32) (x3 : Int32) (x4 : Int32), Sh h (f_Trail_placeBehind_13 N  n h th x1 x3 x4) := by
  intro n
  induction n with
  | zero =>
    intro h th x1 x3 x4
    exact Sh_none
  | succ n ih =>
    intro h th x1 x3 x4
    unfold f_Trail_placeBehind_13
    refine Sh_ite ?_ ?_
    · exact sh_Trail_placeBehind_38 N   h x3
    · refine Sh_ite ?_ ?_
      · exact sh_Trail_placeBehind_38 N   h x3
      · refine Sh_cv (fun a => (sh_Trail_placeAhead N h a x4 x3)) (fun v1 h2 => ?_)
        refine Sh_bn (fun v3 => ?_)
        exact ih h2 th x1 v1 v3
theorem sh_Trail_placeBehind (N : Nat) (h : hS) (th : Nat) (x1 : Int32) (x2 : Int32) : Sh h (f_Trail_placeBehind N h th x1 x2) := by
  unfold f_Trail_placeBehind
  refine Sh_gR (fun v1 => ?_)
  refine Sh_gI (fun v2 => ?_)
  refine Sh_bn (fun v3 => ?_)
  exact sh_Trail_placeBehind_13 N  N h th x1 x2 v3
theorem sh_Trail_wayTo_15 (N : Nat)  : ∀ (n : Nat) (h : hS) (th : Nat) (x2 : Int32) (x3 : Int32) (x4 : Int32), Sh h (f_Trail_wayTo_15 N  n h th x2 x3 x4) := by
  intro n
  induction n with
  | zero =>
    intro h th x2 x3 x4
    exact Sh_none
  | succ n ih =>
    intro h th x2 x3 x4
    unfold f_Trail_wayTo_15
    refine Sh_ite ?_ ?_
    · exact Sh_some
    · refine Sh_cv (fun a => (sh_Trail_placeAhead N h a x4 x3)) (fun v1 h2 => ?_)
      refine Sh_bn (fun v3 => ?_)
      refine Sh_bn (fun v4 => ?_)
      exact ih h2 th v3 v1 v4
theorem sh_Trail_wayTo (N : Nat) (h : hS) (th : Nat) (x1 : Int32) : Sh h (f_Trail_wayTo N h th x1) := by
  unfold f_Trail_wayTo
  refine Sh_gR (fun v1 => ?_)
  refine Sh_gI (fun v2 => ?_)
  refine Sh_bn (fun v3 => ?_)
  exact sh_Trail_wayTo_15 N  N h th (0 : Int32) x1 v3
theorem sh_Walk_init (N : Nat) (h : hS) (th : Nat) (a1 : Option Nat) : Sh h (f_Walk_init N h th a1) := by
  unfold f_Walk_init
  refine Sh_pR (fun h1 => ?_)
  exact Sh_some
theorem sh_Walk_startAt (N : Nat) (h : hS) (th : Nat) (a1 : Option Nat) (x2 : Int32) : Sh h (f_Walk_startAt N h th a1 x2) := by
  unfold f_Walk_startAt
  refine Sh_pR (fun h1 => ?_)
  refine Sh_pI (fun h2 => ?_)
  refine Sh_gR (fun v3 => ?_)
  refine Sh_gI (fun v4 => ?_)
  refine Sh_cv (fun a => (sh_Curve_slopeBehind N h2 a v4)) (fun v5 h6 => ?_)
  refine Sh_pI (fun h7 => ?_)
  refine Sh_gR (fun v8 => ?_)
  refine Sh_gI (fun v9 => ?_)
  refine Sh_cv (fun a => (sh_Curve_kinksUpTo N h7 a v9)) (fun v10 h11 => ?_)
  refine Sh_pI (fun h12 => ?_)
  refine Sh_gR (fun v13 => ?_)
  refine Sh_gI (fun v14 => ?_)
  refine Sh_cv (fun a => (sh_Curve_valueAt N h12 a v14)) (fun v15 h16 => ?_)
  refine Sh_pJ (fun h17 => ?_)
  exact Sh_some
theorem sh_Walk_goOn_86 (N : Nat)  : ∀  (h : hS) , Sh h (f_Walk_goOn_86 N   h ) := by
  intro h 
  unfold f_Walk_goOn_86
  exact Sh_some
theorem sh_Walk_goOn (N : Nat) (h : hS) (th : Nat) : Sh h (f_Walk_goOn N h th) := by
  unfold f_Walk_goOn
  refine Sh_gJ (fun v1 => ?_)
  refine Sh_gI (fun v2 => ?_)
  refine Sh_pJ (fun h3 => ?_)
  refine Sh_gI (fun v4 => ?_)
  refine Sh_pI (fun h5 => ?_)
  refine Sh_gI (fun v6 => ?_)
  refine Sh_gR (fun v7 => ?_)
  refine Sh_gI (fun v8 => ?_)
  refine Sh_ite ?_ ?_
  · exact sh_Walk_goOn_86 N   h5 
  · refine Sh_gR (fun v9 => ?_)
    refine Sh_gI (fun v10 => ?_)
    refine Sh_cv (fun a => (sh_Curve_placeOf N h5 a v10)) (fun v11 h12 => ?_)
    refine Sh_gI (fun v13 => ?_)
    refine Sh_ite ?_ ?_
    · refine Sh_gI (fun v14 => ?_)
      refine Sh_gR (fun v15 => ?_)
      refine Sh_gI (fun v16 => ?_)
      refine Sh_cv (fun a => (sh_Curve_weightOf N h12 a v16)) (fun v17 h18 => ?_)
      refine Sh_pI (fun h19 => ?_)
      refine Sh_gI (fun v20 => ?_)
      refine Sh_pI (fun h21 => ?_)
      exact sh_Walk_goOn_86 N   h21 
    · exact sh_Walk_goOn_86 N   h12 
theorem mo_K_init_204 (N : Nat)  : ∀  (h : hS) (th : Nat) (y0 : Option Nat) (y1 : Option Nat), Mo h (f_K_init_204 N   h th y0 y1) := by
  intro h th y0 y1
  unfold f_K_init_204
  refine Mo_pR (fun h1 => ?_)
  refine Mo_pR (fun h2 => ?_)
  exact Mo_some
theorem mo_K_init_200 (N : Nat)  : ∀  (h : hS) (th : Nat) (y0 : Option Nat) (y1 : Option Nat), Mo h (f_K_init_200 N   h th y0 y1) := by
  intro h th y0 y1
  unfold f_K_init_200
  refine Mo_nn (fun q3 => ?_)
  refine Mo_cl (mo_State_init N h q3 ) (fun v1 h2 => ?_)
  exact mo_K_init_204 N   h2 th y0 (some q3)
theorem mo_K_init_193 (N : Nat)  : ∀  (h : hS) (th : Nat) (y0 : Option Nat) (y1 : Option Nat), Mo h (f_K_init_193 N   h th y0 y1) := by
  intro h th y0 y1
  unfold f_K_init_193
  refine Mo_pR (fun h1 => ?_)
  refine Mo_nwO (fun q2 h3 => ?_)
  exact mo_K_init_200 N   h3 th (some th) (some q2)
theorem mo_K_init_189 (N : Nat)  : ∀  (h : hS) (th : Nat) (y0 : Option Nat) (y1 : Option Nat), Mo h (f_K_init_189 N   h th y0 y1) := by
  intro h th y0 y1
  unfold f_K_init_189
  refine Mo_nn (fun q3 => ?_)
  refine Mo_cl (mo_Chain_init N h q3 ) (fun v1 h2 => ?_)
  exact mo_K_init_193 N   h2 th y0 (some q3)
theorem mo_K_init_172 (N : Nat)  : ∀  (h : hS) (th : Nat) (y0 : Option Nat) (y1 : Option Nat), Mo h (f_K_init_172 N   h th y0 y1) := by
  intro h th y0 y1
  unfold f_K_init_172
  refine Mo_gR (fun v1 => ?_)
  refine Mo_aR (fun v2 => ?_)
  refine Mo_nn (fun q5 => ?_)
  refine Mo_cl (Sh.mo (sh_Walk_init N h q5 v2)) (fun v3 h4 => ?_)
  refine Mo_pR (fun h6 => ?_)
  refine Mo_nwO (fun q7 h8 => ?_)
  exact mo_K_init_189 N   h8 th (some th) (some q7)
theorem mo_K_init_155 (N : Nat)  : ∀  (h : hS) (th : Nat) (y0 : Option Nat) (y1 : Option Nat), Mo h (f_K_init_155 N   h th y0 y1) := by
  intro h th y0 y1
  unfold f_K_init_155
  refine Mo_gR (fun v1 => ?_)
  refine Mo_aR (fun v2 => ?_)
  refine Mo_nn (fun q5 => ?_)
  refine Mo_cl (Sh.mo (sh_Walk_init N h q5 v2)) (fun v3 h4 => ?_)
  refine Mo_pR (fun h6 => ?_)
  refine Mo_nwO (fun q7 h8 => ?_)
  exact mo_K_init_172 N   h8 th (some th) (some q7)
theorem mo_K_init_132 (N : Nat) {rc115 : hS → Nat → Int32 → Option (Unit × hS)} (hsh115 : ∀ (h : hS) (th : Nat) (x1 : Int32), Mo h (rc115 h th x1)) : ∀  (h : hS) (th : Nat) (x1 : Int32) (y0 : Option Nat) (y1 : Int32) (y2 : Option Nat), Mo h (f_K_init_132 N rc115  h th x1 y0 y1 y2) := by
  intro h th x1 y0 y1 y2
  unfold f_K_init_132
  refine Mo_uR (fun h1 => ?_)
  refine Mo_gR (fun v2 => ?_)
  refine Mo_gR (fun v3 => ?_)
  refine Mo_aR (fun v4 => ?_)
  refine Mo_uR (fun h5 => ?_)
  refine Mo_bn (fun v6 => ?_)
  exact hsh115 h5 th v6
theorem mo_K_init_128 (N : Nat) {rc115 : hS → Nat → Int32 → Option (Unit × hS)} (hsh115 : ∀ (h : hS) (th : Nat) (x1 : Int32), Mo h (rc115 h th x1)) : ∀  (h : hS) (th : Nat) (x1 : Int32) (y0 : Option Nat) (y1 : Int32) (y2 : Option Nat), Mo h (f_K_init_128 N rc115  h th x1 y0 y1 y2) := by
  intro h th x1 y0 y1 y2
  unfold f_K_init_128
  refine Mo_nn (fun q3 => ?_)
  refine Mo_cl (mo_Curve_init N h q3 ) (fun v1 h2 => ?_)
  exact mo_K_init_132 N hsh115  h2 th x1 y0 y1 (some q3)
theorem mo_K_init_115 (N : Nat)  : ∀ (n : Nat) (h : hS) (th : Nat) (x1 : Int32), Mo h (f_K_init_115 N  n h th x1) := by
  intro n
  induction n with
  | zero =>
    intro h th x1
    exact Mo_none
  | succ n ih =>
    intro h th x1
    unfold f_K_init_115
    refine Mo_ite ?_ ?_
    · refine Mo_nwO (fun q1 h2 => ?_)
      exact mo_K_init_155 N   h2 th (some th) (some q1)
    · refine Mo_gR (fun v3 => ?_)
      refine Mo_nwO (fun q4 h5 => ?_)
      exact mo_K_init_128 N ih  h5 th x1 v3 x1 (some q4)
theorem mo_K_init_110 (N : Nat)  : ∀  (h : hS) (th : Nat) (y0 : Option Nat) (y1 : Option Nat), Mo h (f_K_init_110 N   h th y0 y1) := by
  intro h th y0 y1
  unfold f_K_init_110
  refine Mo_pR (fun h1 => ?_)
  exact mo_K_init_115 N  N h1 th (0 : Int32)
theorem mo_K_init_102 (N : Nat)  : ∀  (h : hS) (th : Nat) (y0 : Option Nat) (y1 : Option Nat), Mo h (f_K_init_102 N   h th y0 y1) := by
  intro h th y0 y1
  unfold f_K_init_102
  refine Mo_pR (fun h1 => ?_)
  refine Mo_nwA (fun q2 h3 => ?_)
  exact mo_K_init_110 N   h3 th (some th) (some q2)
theorem mo_K_init_94 (N : Nat)  : ∀  (h : hS) (th : Nat) (y0 : Option Nat) (y1 : Option Nat), Mo h (f_K_init_94 N   h th y0 y1) := by
  intro h th y0 y1
  unfold f_K_init_94
  refine Mo_pR (fun h1 => ?_)
  refine Mo_nwA (fun q2 h3 => ?_)
  exact mo_K_init_102 N   h3 th (some th) (some q2)
theorem mo_K_init_86 (N : Nat)  : ∀  (h : hS) (th : Nat) (y0 : Option Nat) (y1 : Option Nat), Mo h (f_K_init_86 N   h th y0 y1) := by
  intro h th y0 y1
  unfold f_K_init_86
  refine Mo_pR (fun h1 => ?_)
  refine Mo_nwA (fun q2 h3 => ?_)
  exact mo_K_init_94 N   h3 th (some th) (some q2)
theorem mo_K_init_69 (N : Nat)  : ∀  (h : hS) (th : Nat) (y0 : Option Nat) (y1 : Option Nat), Mo h (f_K_init_69 N   h th y0 y1) := by
  intro h th y0 y1
  unfold f_K_init_69
  refine Mo_nn (fun q3 => ?_)
  refine Mo_cl (Sh.mo (sh_Teller_init N h q3 )) (fun v1 h2 => ?_)
  refine Mo_pR (fun h4 => ?_)
  refine Mo_pI (fun h5 => ?_)
  refine Mo_nwA (fun q6 h7 => ?_)
  exact mo_K_init_86 N   h7 th (some th) (some q6)
theorem mo_K_init_62 (N : Nat)  : ∀  (h : hS) (th : Nat) (y0 : Option Nat) (y1 : Option Nat), Mo h (f_K_init_62 N   h th y0 y1) := by
  intro h th y0 y1
  unfold f_K_init_62
  refine Mo_pR (fun h1 => ?_)
  refine Mo_nwO (fun q2 h3 => ?_)
  exact mo_K_init_69 N   h3 th (some th) (some q2)
theorem mo_K_init_58 (N : Nat)  : ∀  (h : hS) (th : Nat) (y0 : Option Nat) (y1 : Option Nat), Mo h (f_K_init_58 N   h th y0 y1) := by
  intro h th y0 y1
  unfold f_K_init_58
  refine Mo_nn (fun q3 => ?_)
  refine Mo_cl (mo_Trail_init N h q3 ) (fun v1 h2 => ?_)
  exact mo_K_init_62 N   h2 th y0 (some q3)
theorem mo_K_init_51 (N : Nat)  : ∀  (h : hS) (th : Nat) (y0 : Option Nat) (y1 : Option Nat), Mo h (f_K_init_51 N   h th y0 y1) := by
  intro h th y0 y1
  unfold f_K_init_51
  refine Mo_pR (fun h1 => ?_)
  refine Mo_nwO (fun q2 h3 => ?_)
  exact mo_K_init_58 N   h3 th (some th) (some q2)
theorem mo_K_init_47 (N : Nat)  : ∀  (h : hS) (th : Nat) (y0 : Option Nat) (y1 : Option Nat), Mo h (f_K_init_47 N   h th y0 y1) := by
  intro h th y0 y1
  unfold f_K_init_47
  refine Mo_nn (fun q3 => ?_)
  refine Mo_cl (mo_Shelf_init N h q3 ) (fun v1 h2 => ?_)
  exact mo_K_init_51 N   h2 th y0 (some q3)
theorem mo_K_init_40 (N : Nat)  : ∀  (h : hS) (th : Nat) (y0 : Option Nat) (y1 : Option Nat), Mo h (f_K_init_40 N   h th y0 y1) := by
  intro h th y0 y1
  unfold f_K_init_40
  refine Mo_pR (fun h1 => ?_)
  refine Mo_nwO (fun q2 h3 => ?_)
  exact mo_K_init_47 N   h3 th (some th) (some q2)
theorem mo_K_init_36 (N : Nat)  : ∀  (h : hS) (th : Nat) (y0 : Option Nat) (y1 : Option Nat), Mo h (f_K_init_36 N   h th y0 y1) := by
  intro h th y0 y1
  unfold f_K_init_36
  refine Mo_nn (fun q3 => ?_)
  refine Mo_cl (mo_Bench_init N h q3 ) (fun v1 h2 => ?_)
  exact mo_K_init_40 N   h2 th y0 (some q3)
theorem mo_K_init_29 (N : Nat)  : ∀  (h : hS) (th : Nat) (y0 : Option Nat) (y1 : Option Nat), Mo h (f_K_init_29 N   h th y0 y1) := by
  intro h th y0 y1
  unfold f_K_init_29
  refine Mo_pR (fun h1 => ?_)
  refine Mo_nwO (fun q2 h3 => ?_)
  exact mo_K_init_36 N   h3 th (some th) (some q2)
theorem mo_K_init_25 (N : Nat)  : ∀  (h : hS) (th : Nat) (y0 : Option Nat) (y1 : Option Nat), Mo h (f_K_init_25 N   h th y0 y1) := by
  intro h th y0 y1
  unfold f_K_init_25
  refine Mo_nn (fun q3 => ?_)
  refine Mo_cl (mo_Reader_init N h q3 ) (fun v1 h2 => ?_)
  exact mo_K_init_29 N   h2 th y0 (some q3)
theorem mo_K_init_8 (N : Nat)  : ∀  (h : hS) (th : Nat) (y0 : Option Nat) (y1 : Option Nat), Mo h (f_K_init_8 N   h th y0 y1) := by
  intro h th y0 y1
  unfold f_K_init_8
  refine Mo_pR (fun h1 => ?_)
  refine Mo_pI (fun h2 => ?_)
  refine Mo_pI (fun h3 => ?_)
  refine Mo_nwO (fun q4 h5 => ?_)
  exact mo_K_init_25 N   h5 th (some th) (some q4)
theorem mo_K_init (N : Nat) (h : hS) (th : Nat) : Mo h (f_K_init N h th) := by
  unfold f_K_init
  refine Mo_nwA (fun q1 h2 => ?_)
  exact mo_K_init_8 N   h2 th (some th) (some q1)
theorem sh_K_feedFour_42 (N : Nat) {rc3 : hS → Nat → Int32 → Int32 → Option (Unit × hS)} (hsh3 : ∀ (h : hS) (th : Nat) (x1 : Int32) (x2 : Int32), Sh h (rc3 h th x1 x2)) : ∀  (h : hS) (th : Nat) (x1 : Int32) (x2 : Int32), Sh h (f_K_feedFour_42 N rc3  h th x1 x2) := by
  intro h th x1 x2
  unfold f_K_feedFour_42
  refine Sh_bn (fun v1 => ?_)
  exact hsh3 h th x1 v1
theorem sh_K_feedFour_3 (N : Nat)  : ∀ (n : Nat) (h : hS) (th : Nat) (x1 : Int32) (x2 : Int32), Sh h (f_K_feedFour_3 N  n h th x1 x2) := by
  intro n
  induction n with
  | zero =>
    intro h th x1 x2
    exact Sh_none
  | succ n ih =>
    intro h th x1 x2
    unfold f_K_feedFour_3
    refine Sh_ite ?_ ?_
    · exact Sh_some
    · refine Sh_gI (fun v1 => ?_)
      refine Sh_gR (fun v2 => ?_)
      refine Sh_lnB (fun v3 => ?_)
      refine Sh_ite ?_ ?_
      · exact sh_K_feedFour_42 N ih  h th x1 x2
      · refine Sh_gR (fun v4 => ?_)
        refine Sh_gI (fun v5 => ?_)
        refine Sh_uB (fun h6 => ?_)
        refine Sh_gI (fun v7 => ?_)
        refine Sh_pI (fun h8 => ?_)
        exact sh_K_feedFour_42 N ih  h8 th x1 x2
theorem sh_K_feedFour (N : Nat) (h : hS) (th : Nat) (x1 : Int32) : Sh h (f_K_feedFour N h th x1) := by
  unfold f_K_feedFour
  exact sh_K_feedFour_3 N  N h th x1 (24 : Int32)
theorem mo_K_feed_35 (N : Nat)  : ∀  (h : hS) (th : Nat) (x1 : Int32) (x2 : Int32) (x3 : Int32) (x4 : Int32) (x5 : Int32), Mo h (f_K_feed_35 N   h th x1 x2 x3 x4 x5) := by
  intro h th x1 x2 x3 x4 x5
  unfold f_K_feed_35
  refine Mo_cv (fun a => (Sh.mo (sh_K_feedFour N h a x1))) (fun v1 h2 => ?_)
  refine Mo_cv (fun a => (Sh.mo (sh_K_feedFour N h2 a x2))) (fun v3 h4 => ?_)
  refine Mo_cv (fun a => (Sh.mo (sh_K_feedFour N h4 a x3))) (fun v5 h6 => ?_)
  refine Mo_cv (fun a => (Sh.mo (sh_K_feedFour N h6 a x4))) (fun v7 h8 => ?_)
  refine Mo_cv (fun a => (Sh.mo (sh_K_feedFour N h8 a x5))) (fun v9 h10 => ?_)
  refine Mo_gI (fun v11 => ?_)
  exact Mo_some
theorem mo_K_feed_32 (N : Nat)  : ∀  (h : hS) (th : Nat) (x1 : Int32) (x2 : Int32) (x3 : Int32) (x4 : Int32) (x5 : Int32) (y0 : Option Nat) (y1 : Option Nat), Mo h (f_K_feed_32 N   h th x1 x2 x3 x4 x5 y0 y1) := by
  intro h th x1 x2 x3 x4 x5 y0 y1
  unfold f_K_feed_32
  refine Mo_pR (fun h1 => ?_)
  exact mo_K_feed_35 N   h1 th x1 x2 x3 x4 x5
theorem mo_K_feed (N : Nat) (h : hS) (th : Nat) (x1 : Int32) (x2 : Int32) (x3 : Int32) (x4 : Int32) (x5 : Int32) : Mo h (f_K_feed N h th x1 x2 x3 x4 x5) := by
  unfold f_K_feed
  refine Mo_gI (fun v1 => ?_)
  refine Mo_ite ?_ ?_
  · refine Mo_gR (fun v2 => ?_)
    refine Mo_lnB (fun v3 => ?_)
    refine Mo_ite ?_ ?_
    · exact mo_K_feed_35 N   h th x1 x2 x3 x4 x5
    · refine Mo_nwA (fun q4 h5 => ?_)
      exact mo_K_feed_32 N   h5 th x1 x2 x3 x4 x5 (some th) (some q4)
  · exact Mo_some
theorem mo_K_needSuch (N : Nat) (h : hS) (x0 : Int32) : Mo h (f_K_needSuch N h x0) := by
  unfold f_K_needSuch
  refine Mo_ite ?_ ?_
  · exact Mo_thr
  · exact Mo_some
theorem mo_K_needCost_7 (N : Nat)  : ∀  (h : hS) , Mo h (f_K_needCost_7 N   h ) := by
  intro h 
  unfold f_K_needCost_7
  exact Mo_some
theorem mo_K_needCost (N : Nat) (h : hS) (x0 : Int32) : Mo h (f_K_needCost N h x0) := by
  unfold f_K_needCost
  refine Mo_cl (Sh.mo (sh_K_isCost N h x0)) (fun v1 h2 => ?_)
  refine Mo_clT (mo_K_needSuch N h2 v1) (fun v3 h4 => ?_)
  exact mo_K_needCost_7 N   h4 
theorem mo_K_needFit (N : Nat) (h : hS) (x0 : Int32) : Mo h (f_K_needFit N h x0) := by
  unfold f_K_needFit
  refine Mo_ite ?_ ?_
  · exact Mo_thr
  · exact Mo_some
theorem sh_K_refuseText (N : Nat) (h : hS) (th : Nat) (x1 : Int32) (x2 : Int32) : Sh h (f_K_refuseText N h th x1 x2) := by
  unfold f_K_refuseText
  refine Sh_pI (fun h1 => ?_)
  refine Sh_gR (fun v2 => ?_)
  refine Sh_gR (fun v3 => ?_)
  refine Sh_aI (fun v4 => ?_)
  refine Sh_uI (fun h5 => ?_)
  exact Sh_some
theorem mo_K_curveOf_4 (N : Nat)  : ∀  (h : hS) (th : Nat) (x1 : Int32), Mo h (f_K_curveOf_4 N   h th x1) := by
  intro h th x1
  unfold f_K_curveOf_4
  refine Mo_gR (fun v1 => ?_)
  refine Mo_aR (fun v2 => ?_)
  exact Mo_some
theorem mo_K_curveOf (N : Nat) (h : hS) (th : Nat) (x1 : Int32) : Mo h (f_K_curveOf N h th x1) := by
  unfold f_K_curveOf
  refine Mo_clT (mo_K_needCost N h x1) (fun v1 h2 => ?_)
  exact mo_K_curveOf_4 N   h2 th x1
theorem mo_K_newStep_62 (N : Nat)  : ∀  (h : hS) (y0 : Option Nat) (y1 : Option Nat) (y2 : Int32) (y3 : Int32) (y4 : Int32) (y5 : Option Nat), Mo h (f_K_newStep_62 N   h y0 y1 y2 y3 y4 y5) := by
  intro h y0 y1 y2 y3 y4 y5
  unfold f_K_newStep_62
  refine Mo_nn (fun q3 => ?_)
  refine Mo_cl (Sh.mo (sh_Step_init N h q3 y2 y3 y4 y5)) (fun v1 h2 => ?_)
  exact Mo_some
theorem mo_K_newStep_58 (N : Nat)  : ∀  (h : hS) (y0 : Option Nat) (y1 : Option Nat) (y2 : Int32) (y3 : Int32) (y4 : Int32) (y5 : Option Nat), Mo h (f_K_newStep_58 N   h y0 y1 y2 y3 y4 y5) := by
  intro h y0 y1 y2 y3 y4 y5
  unfold f_K_newStep_58
  exact mo_K_newStep_62 N   h y0 y1 y2 y3 y4 y5
theorem mo_K_newStep_55 (N : Nat)  : ∀  (h : hS) (y0 : Option Nat) (y1 : Option Nat) (y2 : Int32) (y3 : Int32) (y4 : Int32) (y5 : Option Nat) (y6 : Option Nat), Mo h (f_K_newStep_55 N   h y0 y1 y2 y3 y4 y5 y6) := by
  intro h y0 y1 y2 y3 y4 y5 y6
  unfold f_K_newStep_55
  refine Mo_cv (fun a => (mo_Shelf_keep N h a y6)) (fun v1 h2 => ?_)
  exact mo_K_newStep_58 N   h2 y0 y1 y2 y3 y4 v1
theorem mo_K_newStep_33 (N : Nat)  : ∀  (h : hS) (th : Nat) (x1 : Int32) (x4 : Int32) (x5 : Int32) (y0 : Option Nat), Mo h (f_K_newStep_33 N   h th x1 x4 x5 y0) := by
  intro h th x1 x4 x5 y0
  unfold f_K_newStep_33
  refine Mo_ite ?_ ?_
  · refine Mo_gR (fun v1 => ?_)
    refine Mo_cv (fun a => (Mo_fN (mo_K_curveOf N h a x4))) (fun v2 h3 => ?_)
    exact mo_K_newStep_55 N   h3 y0 y0 x1 x4 x5 v1 v2
  · exact mo_K_newStep_62 N   h y0 y0 x1 x4 x5 none
theorem mo_K_newStep_28 (N : Nat)  : ∀  (h : hS) (th : Nat) (x1 : Int32) (x4 : Int32) (y0 : Int32), Mo h (f_K_newStep_28 N   h th x1 x4 y0) := by
  intro h th x1 x4 y0
  unfold f_K_newStep_28
  refine Mo_nwO (fun q1 h2 => ?_)
  exact mo_K_newStep_33 N   h2 th x1 x4 y0 (some q1)
theorem mo_K_newStep_13 (N : Nat)  : ∀  (h : hS) (th : Nat) (x1 : Int32) (x3 : Int32) (y0 : Int32), Mo h (f_K_newStep_13 N   h th x1 x3 y0) := by
  intro h th x1 x3 y0
  unfold f_K_newStep_13
  refine Mo_cl (Sh.mo (sh_K_numbersOf N h x1)) (fun v1 h2 => ?_)
  refine Mo_ite ?_ ?_
  · exact mo_K_newStep_28 N   h2 th x1 y0 x3
  · exact mo_K_newStep_28 N   h2 th x1 y0 (0 : Int32)
theorem mo_K_newStep (N : Nat) (h : hS) (th : Nat) (x1 : Int32) (x2 : Int32) (x3 : Int32) : Mo h (f_K_newStep N h th x1 x2 x3) := by
  unfold f_K_newStep
  refine Mo_cl (Sh.mo (sh_K_numbersOf N h x1)) (fun v1 h2 => ?_)
  refine Mo_ite ?_ ?_
  · exact mo_K_newStep_13 N   h2 th x1 x3 (0 : Int32)
  · exact mo_K_newStep_13 N   h2 th x1 x3 x2
theorem mo_K_draftReadSteps_71 (N : Nat)  : ∀  (h : hS) , Mo h (f_K_draftReadSteps_71 N   h ) := by
  intro h 
  unfold f_K_draftReadSteps_71
  exact Mo_some
theorem mo_K_draftReadSteps_65 (N : Nat) {rc9 : hS → Nat → Int32 → Option (Unit × hS)} (hsh9 : ∀ (h : hS) (th : Nat) (x1 : Int32), Mo h (rc9 h th x1)) : ∀  (h : hS) (th : Nat) (x1 : Int32), Mo h (f_K_draftReadSteps_65 N rc9  h th x1) := by
  intro h th x1
  unfold f_K_draftReadSteps_65
  refine Mo_bn (fun v1 => ?_)
  exact hsh9 h th v1
theorem mo_K_draftReadSteps_62 (N : Nat) {rc9 : hS → Nat → Int32 → Option (Unit × hS)} (hsh9 : ∀ (h : hS) (th : Nat) (x1 : Int32), Mo h (rc9 h th x1)) : ∀  (h : hS) (th : Nat) (x1 : Int32) (y0 : Option Nat) (y1 : Int32) (y2 : Option Nat), Mo h (f_K_draftReadSteps_62 N rc9  h th x1 y0 y1 y2) := by
  intro h th x1 y0 y1 y2
  unfold f_K_draftReadSteps_62
  refine Mo_cv (fun a => (mo_Chain_insert N h a y1 y2)) (fun v1 h2 => ?_)
  exact mo_K_draftReadSteps_65 N hsh9  h2 th x1
theorem mo_K_draftReadSteps_9 (N : Nat)  : ∀ (n : Nat) (h : hS) (th : Nat) (x1 : Int32), Mo h (f_K_draftReadSteps_9 N  n h th x1) := by
  intro n
  induction n with
  | zero =>
    intro h th x1
    exact Mo_none
  | succ n ih =>
    intro h th x1
    unfold f_K_draftReadSteps_9
    refine Mo_gR (fun v1 => ?_)
    refine Mo_gI (fun v2 => ?_)
    refine Mo_ite ?_ ?_
    · exact mo_K_draftReadSteps_71 N   h 
    · refine Mo_ite ?_ ?_
      · exact mo_K_draftReadSteps_71 N   h 
      · refine Mo_gR (fun v3 => ?_)
        refine Mo_gR (fun v4 => ?_)
        refine Mo_gR (fun v5 => ?_)
        refine Mo_aI (fun v6 => ?_)
        refine Mo_gR (fun v7 => ?_)
        refine Mo_gR (fun v8 => ?_)
        refine Mo_aI (fun v9 => ?_)
        refine Mo_gR (fun v10 => ?_)
        refine Mo_gR (fun v11 => ?_)
        refine Mo_aI (fun v12 => ?_)
        refine Mo_cv (fun a => (mo_K_newStep N h a v6 v9 v12)) (fun v13 h14 => ?_)
        exact mo_K_draftReadSteps_62 N ih  h14 th x1 v3 x1 v13
theorem mo_K_draftReadSteps (N : Nat) (h : hS) (th : Nat) : Mo h (f_K_draftReadSteps N h th) := by
  unfold f_K_draftReadSteps
  refine Mo_gR (fun v1 => ?_)
  refine Mo_cv (fun a => (Sh.mo (sh_Chain_clear N h a ))) (fun v2 h3 => ?_)
  exact mo_K_draftReadSteps_9 N  N h3 th (0 : Int32)
theorem mo_K_become_27 (N : Nat)  : ∀  (h : hS) (th : Nat), Mo h (f_K_become_27 N   h th) := by
  intro h th
  unfold f_K_become_27
  refine Mo_gR (fun v1 => ?_)
  refine Mo_gI (fun v2 => ?_)
  exact Mo_some
theorem mo_K_become_17 (N : Nat)  : ∀  (h : hS) (th : Nat) (y0 : Option Nat), Mo h (f_K_become_17 N   h th y0) := by
  intro h th y0
  unfold f_K_become_17
  refine Mo_gR (fun v1 => ?_)
  refine Mo_gR (fun v2 => ?_)
  refine Mo_cv (fun a => (mo_Curve_take N h a v2)) (fun v3 h4 => ?_)
  exact mo_K_become_27 N   h4 th
theorem mo_K_become_12 (N : Nat)  : ∀  (h : hS) (th : Nat) (x1 : Int32), Mo h (f_K_become_12 N   h th x1) := by
  intro h th x1
  unfold f_K_become_12
  refine Mo_cv (fun a => (Mo_fN (mo_K_curveOf N h a x1))) (fun v1 h2 => ?_)
  exact mo_K_become_17 N   h2 th v1
theorem mo_K_become (N : Nat) (h : hS) (th : Nat) (x1 : Int32) : Mo h (f_K_become N h th x1) := by
  unfold f_K_become
  refine Mo_gR (fun v1 => ?_)
  refine Mo_gR (fun v2 => ?_)
  refine Mo_cv (fun a => (mo_State_act N h a x1 v2)) (fun v3 h4 => ?_)
  exact mo_K_become_12 N   h4 th x1
theorem mo_K_text_119 (N : Nat)  : ∀  (h : hS) (y0 : Int32), Mo h (f_K_text_119 N   h y0) := by
  intro h y0
  unfold f_K_text_119
  exact Mo_some
theorem mo_K_text_86 (N : Nat)  : ∀  (h : hS) (th : Nat) (x1 : Int32) (y0 : Int32), Mo h (f_K_text_86 N   h th x1 y0) := by
  intro h th x1 y0
  unfold f_K_text_86
  refine Mo_ite ?_ ?_
  · refine Mo_gR (fun v4 => ?_)
    refine Mo_gR (fun v5 => ?_)
    refine Mo_gI (fun v6 => ?_)
    refine Mo_cv (fun a => (Sh.mo (sh_Reader_wordPlace N h a v6))) (fun v7 h8 => ?_)
    refine Mo_cv (fun a => (Sh.mo (sh_K_refuseText N h8 a (4 : Int32) v7))) (fun v9 h10 => ?_)
    exact Mo_some
  · refine Mo_pI (fun h1 => ?_)
    refine Mo_cv (fun a => (mo_K_become N h1 a x1)) (fun v2 h3 => ?_)
    exact mo_K_text_119 N   h3 v2
theorem mo_K_text_75 (N : Nat)  : ∀  (h : hS) (th : Nat) (x1 : Int32), Mo h (f_K_text_75 N   h th x1) := by
  intro h th x1
  unfold f_K_text_75
  refine Mo_gR (fun v1 => ?_)
  refine Mo_gR (fun v2 => ?_)
  refine Mo_cv (fun a => (mo_Bench_build N h a v2)) (fun v3 h4 => ?_)
  exact mo_K_text_86 N   h4 th x1 v3
theorem mo_K_text_24 (N : Nat)  : ∀  (h : hS) (th : Nat) (x1 : Int32) (x2 : Int32), Mo h (f_K_text_24 N   h th x1 x2) := by
  intro h th x1 x2
  unfold f_K_text_24
  refine Mo_pI (fun h1 => ?_)
  refine Mo_gR (fun v2 => ?_)
  refine Mo_gR (fun v3 => ?_)
  refine Mo_cv (fun a => (Sh.mo (sh_Reader_read N h1 a v3 x2 x1))) (fun v4 h5 => ?_)
  refine Mo_gR (fun v6 => ?_)
  refine Mo_gI (fun v7 => ?_)
  refine Mo_ite ?_ ?_
  · refine Mo_cv (fun a => (mo_K_draftReadSteps N h5 a )) (fun v8 h9 => ?_)
    exact mo_K_text_75 N   h9 th x1
  · refine Mo_gR (fun v10 => ?_)
    refine Mo_gI (fun v11 => ?_)
    refine Mo_gR (fun v12 => ?_)
    refine Mo_gI (fun v13 => ?_)
    refine Mo_cv (fun a => (Sh.mo (sh_K_refuseText N h5 a v11 v13))) (fun v14 h15 => ?_)
    exact Mo_some
theorem mo_K_text_21 (N : Nat)  : ∀  (h : hS) (th : Nat) (x1 : Int32) (x2 : Int32) (y0 : Int32), Mo h (f_K_text_21 N   h th x1 x2 y0) := by
  intro h th x1 x2 y0
  unfold f_K_text_21
  refine Mo_clT (mo_K_needFit N h y0) (fun v1 h2 => ?_)
  exact mo_K_text_24 N   h2 th x1 x2
theorem mo_K_text_20 (N : Nat)  : ∀  (h : hS) (th : Nat) (x1 : Int32) (x2 : Int32), Mo h (f_K_text_20 N   h th x1 x2) := by
  intro h th x1 x2
  unfold f_K_text_20
  exact mo_K_text_21 N   h th x1 x2 (0 : Int32)
theorem mo_K_text_4 (N : Nat)  : ∀  (h : hS) (th : Nat) (x1 : Int32) (x2 : Int32), Mo h (f_K_text_4 N   h th x1 x2) := by
  intro h th x1 x2
  unfold f_K_text_4
  refine Mo_ite ?_ ?_
  · exact mo_K_text_20 N   h th x1 x2
  · refine Mo_gI (fun v1 => ?_)
    refine Mo_ite ?_ ?_
    · exact mo_K_text_20 N   h th x1 x2
    · exact mo_K_text_21 N   h th x1 x2 (1 : Int32)
theorem mo_K_text (N : Nat) (h : hS) (th : Nat) (x1 : Int32) (x2 : Int32) : Mo h (f_K_text N h th x1 x2) := by
  unfold f_K_text
  refine Mo_clT (mo_K_needCost N h x1) (fun v1 h2 => ?_)
  exact mo_K_text_4 N   h2 th x1 x2
theorem sh_K_fault (N : Nat) (h : hS) (th : Nat) : Sh h (f_K_fault N h th) := by
  unfold f_K_fault
  refine Sh_gI (fun v1 => ?_)
  exact Sh_some
theorem mo_K_chainOf_4 (N : Nat)  : ∀  (h : hS) (th : Nat) (x1 : Int32), Mo h (f_K_chainOf_4 N   h th x1) := by
  intro h th x1
  unfold f_K_chainOf_4
  refine Mo_gR (fun v1 => ?_)
  refine Mo_gR (fun v2 => ?_)
  refine Mo_aR (fun v3 => ?_)
  exact Mo_some
theorem mo_K_chainOf (N : Nat) (h : hS) (th : Nat) (x1 : Int32) : Mo h (f_K_chainOf N h th x1) := by
  unfold f_K_chainOf
  refine Mo_clT (mo_K_needCost N h x1) (fun v1 h2 => ?_)
  exact mo_K_chainOf_4 N   h2 th x1
set_option maxRecDepth 20000 in
set_option maxHeartbeats 4000000 in
theorem b_Trail_lay_75 {p : Program} {l : Launch} {e : Env} {s : State} {m : MethodId} {args : Array Value} {below : List Frame} {meth : Method} {c : Code} {D : va_G} {cy : cyT} {z : Nat} (C : MX p s m args meth c cX9_lay 4 (none) RX9 (Cond.code yX9_lay cX9_lay 4 (none) :: GW)) (N : Nat) (n0 s0 : Nat) (hn0 : s.heap.size = n0) {r : Unit} {g : hS}  : ∀  (cells slots : Nat) (h : hS)  (H : Heap) (locs : List Loc) (ls : Array Slot), wd D cy z s cells h H locs → h_s h = s0 + slots → lv_has ls 4 [] → f_Trail_lay_75 N   h  = some (r, g) → W p l e { frames := 5, cells := h_x g - n0, slots := h_s g - s0, locals := 142 } s m args below meth c H locs cells slots (MQ below (eQ D cy z (rV r) g) args s (h_x g - n0) (h_s g - s0) (fun q => z ≤ q)) (F0 m 75 ls []) := by
  obtain ⟨hx, hb, hr, hml, hown, hts, hlk⟩ := id C
  intro cells slots h  H locs ls w hsl hl hE
  have hcc : cells ≤ h_x g - n0 ∧ slots ≤ h_s g - s0 := by
    have q1 := mo_Trail_lay_75 N  h  _ _ hE
    have q2 := wd_x w
    have q3 := q1.1
    have q4 := q1.2.1
    omega
  unfold f_Trail_lay_75 at hE
  refine W.widen (k := h_x g - n0) (n := h_s g - s0) hcc.1 hcc.2 ?_
  exact w_vret C w hE dX9_lay_75
set_option maxRecDepth 20000 in
set_option maxHeartbeats 4000000 in
theorem b_Trail_lay_68 {p : Program} {l : Launch} {e : Env} {s : State} {m : MethodId} {args : Array Value} {below : List Frame} {meth : Method} {c : Code} {D : va_G} {cy : cyT} {z : Nat} (C : MX p s m args meth c cX9_lay 4 (none) RX9 (Cond.code yX9_lay cX9_lay 4 (none) :: GW)) (N : Nat) (n0 s0 : Nat) (hn0 : s.heap.size = n0) {r : Unit} {g : hS} {rc11 : hS → Nat → Option Nat → Int32 → Option (Unit × hS)} (hsh11 : ∀ (h : hS) (th : Nat) (a2 : Option Nat) (x3 : Int32), Mo h (rc11 h th a2 x3)) (hrc11 : ∀ (cells slots : Nat) (h : hS) (th : Nat) (a2 : Option Nat) (x3 : Int32) (H : Heap) (locs : List Loc) (ls : Array Slot), wd D cy z s cells h H locs → h_s h = s0 + slots → lv_has ls 4 [(0, .ref th), (2, va_rf a2), (3, .int x3)] → rc11 h th a2 x3 = some (r, g) → W p l e { frames := 5, cells := h_x g - n0, slots := h_s g - s0, locals := 142 } s m args below meth c H locs cells slots (MQ below (eQ D cy z (rV r) g) args s (h_x g - n0) (h_s g - s0) (fun q => z ≤ q)) (F0 m 11 ls [])) : ∀  (cells slots : Nat) (h : hS) (th : Nat) (a2 : Option Nat) (x3 : Int32) (y0 : Int32) (H : Heap) (locs : List Loc) (ls : Array Slot), wd D cy z s cells h H locs → h_s h = s0 + slots → lv_has ls 4 [(0, .ref th), (2, va_rf a2), (3, .int x3)] → f_Trail_lay_68 N rc11  h th a2 x3 y0 = some (r, g) → W p l e { frames := 5, cells := h_x g - n0, slots := h_s g - s0, locals := 142 } s m args below meth c H locs cells slots (MQ below (eQ D cy z (rV r) g) args s (h_x g - n0) (h_s g - s0) (fun q => z ≤ q)) (F0 m 68 ls [.int y0]) := by
  obtain ⟨hx, hb, hr, hml, hown, hts, hlk⟩ := id C
  intro cells slots h th a2 x3 y0 H locs ls w hsl hl hE
  have hcc : cells ≤ h_x g - n0 ∧ slots ≤ h_s g - s0 := by
    have q1 := mo_Trail_lay_68 N hsh11 h th a2 x3 y0 _ _ hE
    have q2 := wd_x w
    have q3 := q1.1
    have q4 := q1.2.1
    omega
  unfold f_Trail_lay_68 at hE
  refine lv_pop hx hb dX9_lay_68 rfl ?_
  obtain ⟨v1, ev1, e1⟩ := bn_some hE
  refine lv_iinc (v := v1) (lv' := [(3, .int v1), (0, .ref th), (2, va_rf a2)]) hx hb dX9_lay_69 hl (k := 2) rfl (by rw [ev1]; rfl) (by decide) (by cases a2 <;> rfl) (fun ls hl => ?_)
  refine lv_goto (tgt := 11) hx hb dX9_lay_72 (by decide) ?_
  exact hrc11 _ _ h th a2 v1 _ _ ls w hsl (lv_sub hl [1, 2, 0] rfl) e1
set_option maxRecDepth 20000 in
set_option maxHeartbeats 4000000 in
theorem b_Trail_lay_11 {p : Program} {l : Launch} {e : Env} {s : State} {m : MethodId} {args : Array Value} {below : List Frame} {meth : Method} {c : Code} {D : va_G} {cy : cyT} {z : Nat} (C : MX p s m args meth c cX9_lay 4 (none) RX9 (Cond.code yX9_lay cX9_lay 4 (none) :: GW)) (N : Nat) (n0 s0 : Nat) (hn0 : s.heap.size = n0) {r : Unit} {g : hS}  : ∀ (n : Nat) (cells slots : Nat) (h : hS) (th : Nat) (a2 : Option Nat) (x3 : Int32) (H : Heap) (locs : List Loc) (ls : Array Slot), wd D cy z s cells h H locs → h_s h = s0 + slots → lv_has ls 4 [(0, .ref th), (2, va_rf a2), (3, .int x3)] → f_Trail_lay_11 N  n h th a2 x3 = some (r, g) → W p l e { frames := 5, cells := h_x g - n0, slots := h_s g - s0, locals := 142 } s m args below meth c H locs cells slots (MQ below (eQ D cy z (rV r) g) args s (h_x g - n0) (h_s g - s0) (fun q => z ≤ q)) (F0 m 11 ls []) := by
  obtain ⟨hx, hb, hr, hml, hown, hts, hlk⟩ := id C
  intro n
  induction n with
  | zero =>
    intro cells slots h th a2 x3 H locs ls w hsl hl hE
    cases hE
  | succ n ih =>
    intro cells slots h th a2 x3 H locs ls w hsl hl hE
    have hcc : cells ≤ h_x g - n0 ∧ slots ≤ h_s g - s0 := by
      have q1 := mo_Trail_lay_11 N  (n + 1) h th a2 x3 _ _ hE
      have q2 := wd_x w
      have q3 := q1.1
      have q4 := q1.2.1
      omega
    unfold f_Trail_lay_11 at hE
    refine lv_iload_n hx hb dX9_lay_11 rfl (lv_at hl 2 rfl) ?_
    refine lv_aload_n hx hb dX9_lay_12 rfl (lv_at hl 0 rfl) ?_
    refine w_gR (r := some th) (ci := 10) (k := 0) C w rfl (by decide) (GF_wsX90 _) (by decide) rfl (List.mem_cons_of_mem _ gw_5_5) rfl dX9_lay_13 hE (fun v1 e1 => ?_)
    refine w_gI (r := v1) (ci := 2) (k := 1) C w rfl (by decide) (GF_wsX10 _) (by decide) rfl (List.mem_cons_of_mem _ gw_39_14) rfl dX9_lay_16 e1 (fun v2 e2 => ?_)
    refine w_icmp_ge (tgt := 75) C dX9_lay_19 (by decide) e2 (fun hc e3 => ?_) (fun hc e3 => ?_)
    · exact b_Trail_lay_75 C N n0 s0 hn0   _ _ h  _ _ ls w hsl (lv_sub hl [] rfl) e3
    · refine lv_iload_n hx hb dX9_lay_22 rfl (lv_at hl 2 rfl) ?_
      refine lv_bipush (v := 40) hx hb dX9_lay_23 (by decide) ?_
      refine w_icmp_ge (tgt := 75) C dX9_lay_25 (by decide) e3 (fun hc e4 => ?_) (fun hc e4 => ?_)
      · exact b_Trail_lay_75 C N n0 s0 hn0   _ _ h  _ _ ls w hsl (lv_sub hl [] rfl) e4
      · refine lv_aload_n hx hb dX9_lay_28 rfl (lv_at hl 0 rfl) ?_
        refine w_gR (r := some th) (ci := 10) (k := 1) C w rfl (by decide) (GF_wsX90 _) (by decide) rfl (List.mem_cons_of_mem _ gw_5_6) rfl dX9_lay_29 e4 (fun v3 e5 => ?_)
        refine lv_iload_n hx hb dX9_lay_32 rfl (lv_at hl 2 rfl) ?_
        refine w_aload_n C dX9_lay_33 rfl (lv_at hl 1 rfl) ?_
        refine w_gR (r := a2) (ci := 1) (k := 0) C w rfl (by decide) (GF_wsX00 _) (by decide) rfl (List.mem_cons_of_mem _ gw_39_15) rfl dX9_lay_34 e5 (fun v4 e6 => ?_)
        refine lv_iconst (v := 0) hx hb dX9_lay_37 (by decide) ?_
        refine w_VI GW_good (n := 1) (F := 2) (Lc := 44) (o := v4) (av := [.int (0 : Int32)]) (rest := [.int x3, va_rf v3]) C w rfl (by decide) (fun a r g hf => k_Curve_lowEnd l D cy z N h a (0 : Int32) r g hf) gw_39_17 gw_36_1 gw_36_2 gw_2_22 gw_36_3 (by decide +kernel) ⟨Nat.le_of_ble_eq_true rfl, Nat.le_of_ble_eq_true rfl⟩ rfl hl.1 rfl (cat_le (Nat.le_of_ble_eq_true rfl)) dX9_lay_38 (fun a => (sh_Curve_lowEnd N h a (0 : Int32))) ⟨hcc.1, hcc.2⟩ e6 (fun v5 h6 H locs w hsh6 e7 => ?_)
        have hsl := hsh6.2.2.2.trans hsl
        refine w_uI (r := v3) C w dX9_lay_41 e7 (fun h7 H locs w hsh7 e8 => ?_)
        have hsl := hsh7.2.2.2.trans hsl
        refine lv_aload_n hx hb dX9_lay_42 rfl (lv_at hl 0 rfl) ?_
        refine w_gR (r := some th) (ci := 10) (k := 2) C w rfl (by decide) (GF_wsX90 _) (by decide) rfl (List.mem_cons_of_mem _ gw_5_7) rfl dX9_lay_43 e8 (fun v8 e9 => ?_)
        refine lv_iload_n hx hb dX9_lay_46 rfl (lv_at hl 2 rfl) ?_
        refine w_aload_n C dX9_lay_47 rfl (lv_at hl 1 rfl) ?_
        refine w_gR (r := a2) (ci := 1) (k := 0) C w rfl (by decide) (GF_wsX00 _) (by decide) rfl (List.mem_cons_of_mem _ gw_39_15) rfl dX9_lay_48 e9 (fun v9 e10 => ?_)
        refine lv_iconst (v := 0) hx hb dX9_lay_51 (by decide) ?_
        refine w_VI GW_good (n := 1) (F := 2) (Lc := 44) (o := v9) (av := [.int (0 : Int32)]) (rest := [.int x3, va_rf v8]) C w rfl (by decide) (fun a r g hf => k_Curve_highEnd l D cy z N h7 a (0 : Int32) r g hf) gw_39_18 gw_36_20 gw_36_21 gw_2_22 gw_36_22 (by decide +kernel) ⟨Nat.le_of_ble_eq_true rfl, Nat.le_of_ble_eq_true rfl⟩ rfl hl.1 rfl (cat_le (Nat.le_of_ble_eq_true rfl)) dX9_lay_52 (fun a => (sh_Curve_highEnd N h7 a (0 : Int32))) ⟨hcc.1, hcc.2⟩ e10 (fun v10 h11 H locs w hsh11 e11 => ?_)
        have hsl := hsh11.2.2.2.trans hsl
        refine w_uI (r := v8) C w dX9_lay_55 e11 (fun h12 H locs w hsh12 e12 => ?_)
        have hsl := hsh12.2.2.2.trans hsl
        refine w_aload_n C dX9_lay_56 rfl (lv_at hl 1 rfl) ?_
        refine lv_aload_n hx hb dX9_lay_57 rfl (lv_at hl 0 rfl) ?_
        refine w_gR (r := some th) (ci := 10) (k := 0) C w rfl (by decide) (GF_wsX90 _) (by decide) rfl (List.mem_cons_of_mem _ gw_5_5) rfl dX9_lay_58 e12 (fun v13 e13 => ?_)
        refine lv_iload_n hx hb dX9_lay_61 rfl (lv_at hl 2 rfl) ?_
        refine w_VR GW_good (n := 1) (F := 0) (Lc := 0) (o := v13) (av := [.int x3]) (rest := [va_rf a2]) C w rfl (by decide) (fun a r g hf => k_Chain_stepAt l D cy z N h12 a x3 r g hf) gw_39_19 gw_20_7 gw_20_8 gw_3_6 gw_20_9 (by decide +kernel) ⟨Nat.le_of_ble_eq_true rfl, Nat.le_of_ble_eq_true rfl⟩ rfl hl.1 rfl (cat_le (Nat.le_of_ble_eq_true rfl)) dX9_lay_62 (fun a => (sh_Chain_stepAt N h12 a x3)) ⟨hcc.1, hcc.2⟩ e13 (fun v14 h15 H locs w hsh15 e14 => ?_)
        have hsl := hsh15.2.2.2.trans hsl
        refine w_VAI GW_good (n := 1) (F := 4) (Lc := 121) (o := a2) (av := [va_rf v14]) (rest := []) C w rfl (by decide) (fun a r g hf => k_Bench_applyStep l D cy z N h15 a v14 r g hf) gw_39_20 gw_20_11 gw_20_12 gw_2_0 gw_20_13 (by decide +kernel) ⟨Nat.le_of_ble_eq_true rfl, Nat.le_of_ble_eq_true rfl⟩ rfl hl.1 rfl (Nat.le_of_ble_eq_true rfl) dX9_lay_65 (fun a => (mo_Bench_applyStep N h15 a v14)) (fun a v16 h17 q1 q2 => by have u1 := (mo_Bench_applyStep N h15 a v14) _ _ q1; have u2 := mo_Trail_lay_68 N (mo_Trail_lay_11 N  n)  h17 th a2 x3 v16 _ _ q2; have u3 := wd_x w; have u4 := u1.1; have u5 := u1.2.1; have u6 := u2.1; have u7 := u2.2.1; show cells + _ ≤ h_x g - n0 ∧ slots + _ ≤ h_s g - s0; omega) e14 (fun v16 h17 H locs w hsh17 e15 => ?_)
        exact b_Trail_lay_68 C N n0 s0 hn0 (mo_Trail_lay_11 N  n) ih  _ _ h17 th a2 x3 v16 _ _ ls w (by have u5 := hsh17.2.1; have u8 := hsl; omega) (lv_sub hl [0, 1, 2] rfl) e15
set_option maxRecDepth 20000 in
set_option maxHeartbeats 4000000 in
theorem b_Trail_lay_9 {p : Program} {l : Launch} {e : Env} {s : State} {m : MethodId} {args : Array Value} {below : List Frame} {meth : Method} {c : Code} {D : va_G} {cy : cyT} {z : Nat} (C : MX p s m args meth c cX9_lay 4 (none) RX9 (Cond.code yX9_lay cX9_lay 4 (none) :: GW)) (N : Nat) (n0 s0 : Nat) (hn0 : s.heap.size = n0) {r : Unit} {g : hS}  : ∀  (cells slots : Nat) (h : hS) (th : Nat) (a2 : Option Nat) (H : Heap) (locs : List Loc) (ls : Array Slot), wd D cy z s cells h H locs → h_s h = s0 + slots → lv_has ls 4 [(0, .ref th), (2, va_rf a2)] → f_Trail_lay_9 N   h th a2 = some (r, g) → W p l e { frames := 5, cells := h_x g - n0, slots := h_s g - s0, locals := 142 } s m args below meth c H locs cells slots (MQ below (eQ D cy z (rV r) g) args s (h_x g - n0) (h_s g - s0) (fun q => z ≤ q)) (F0 m 9 ls []) := by
  obtain ⟨hx, hb, hr, hml, hown, hts, hlk⟩ := id C
  intro cells slots h th a2 H locs ls w hsl hl hE
  have hcc : cells ≤ h_x g - n0 ∧ slots ≤ h_s g - s0 := by
    have q1 := mo_Trail_lay_9 N  h th a2 _ _ hE
    have q2 := wd_x w
    have q3 := q1.1
    have q4 := q1.2.1
    omega
  unfold f_Trail_lay_9 at hE
  refine lv_iconst (v := 0) hx hb dX9_lay_9 (by decide) ?_
  refine lv_istore_n (lv' := [(3, .int (0 : Int32)), (0, .ref th), (2, va_rf a2)]) hx hb dX9_lay_10 rfl hl (by decide) (by cases a2 <;> rfl) (fun ls hl => ?_)
  exact b_Trail_lay_11 C N n0 s0 hn0  N _ _ h th a2 (0 : Int32) _ _ ls w hsl (lv_sub hl [1, 2, 0] rfl) hE
set_option maxRecDepth 20000 in
set_option maxHeartbeats 4000000 in
theorem k_Trail_lay (l : Launch) (D : va_G) (cy : cyT) (z : Nat) (N : Nat) (h : hS) (th : Nat) (a1 : Option Nat) (a2 : Option Nat) (r : Unit) (g : hS) (hE : f_Trail_lay N h th a1 a2 = some (r, g)) : ct l yX9_lay (Cond.code yX9_lay cX9_lay 4 (none) :: GW) { frames := 5, cells := h_x g - h_x h, slots := h_s g - h_s h, locals := 142 } D cy z h [.ref th, va_rf a1, va_rf a2] (rV r) g := by
  refine Met.ofW (cc := cX9_lay) (maxL := 4) (ret := none) (by decide) rfl ?_
  intro p e s m args below meth c s₁ B hml hv
  obtain ⟨rfl, hw⟩ := hv
  have C : MX p s m ([.ref th, va_rf a1, va_rf a2] : List Value).toArray meth c cX9_lay 4 (none) RX9 (Cond.code yX9_lay cX9_lay 4 (none) :: GW) := ⟨B.exec, B.bytes, B.returns, hml, findClass_of_methodNamed B.named, atoms_spec (ws := Cond.code yX9_lay cX9_lay 4 (none) :: GW) B.pre, B.notSynchronized⟩
  obtain ⟨hx, hb, hr, hml, hown, hts, hlk⟩ := id C
  have w := wd_of hw
  have hsl : h_s h = h_s h + 0 := rfl
  have hn0 : s.heap.size = h_x h := (wd_x w).1
  obtain ⟨ls, hen, hl⟩ : ∃ ls : Array Slot, entryFrame m ([.ref th, va_rf a1, va_rf a2] : List Value).toArray 4 = F0 m 0 ls [] ∧ lv_has ls 4 [(0, .ref th), (1, va_rf a1), (2, va_rf a2)] := by
    cases a1 <;> cases a2 <;> exact ⟨_, lg_entry_eq _ _ _, lv_entry _ (Nat.le_of_ble_eq_true rfl)⟩
  rw [hen]
  have hcc : 0 ≤ h_x g - h_x h ∧ 0 ≤ h_s g - h_s h := ⟨Nat.zero_le _, Nat.zero_le _⟩
  unfold f_Trail_lay at hE
  refine lv_aload_n hx hb dX9_lay_0 rfl (lv_at hl 0 rfl) ?_
  refine w_aload_n C dX9_lay_1 rfl (lv_at hl 1 rfl) ?_
  refine w_pR (r := some th) (ci := 10) (k := 0) (v := a1) (Or.inl ⟨_, rfl⟩) C w rfl (by decide) (by unfold roK; omega) (GF_wsX90 _) tyX9 tyX9_ok nmX9 (by decide) rfl (List.mem_cons_of_mem _ gw_5_5) rfl rfl (tyX9_ok 0 (by decide)) dX9_lay_2 hE (fun h1 H locs w hsh1 e1 => ?_)
  have hsl := hsh1.2.2.2.trans hsl
  refine w_aload_n C dX9_lay_5 rfl (lv_at hl 2 rfl) ?_
  refine w_VAV GW_good (n := 0) (F := 1) (Lc := 22) (o := a2) (av := []) (rest := []) C w rfl (by decide) (fun a r g hf => k_Bench_startAnew l D cy z N h1 a  r g hf) gw_39_16 gw_19_23 gw_20_0 gw_2_0 gw_20_1 (by decide +kernel) ⟨Nat.le_of_ble_eq_true rfl, Nat.le_of_ble_eq_true rfl⟩ rfl hl.1 rfl (Nat.le_of_ble_eq_true rfl) dX9_lay_6 (fun a => (mo_Bench_startAnew N h1 a )) (fun a v2 h3 q1 q2 => by have u1 := (mo_Bench_startAnew N h1 a ) _ _ q1; have u2 := mo_Trail_lay_9 N   h3 th a2 _ _ q2; have u3 := wd_x w; have u4 := u1.1; have u5 := u1.2.1; have u6 := u2.1; have u7 := u2.2.1; show 0 + _ ≤ h_x g - (h_x h) ∧ 0 + _ ≤ h_s g - (h_s h); omega) e1 (fun v2 h3 H locs w hsh3 e2 => ?_)
  exact b_Trail_lay_9 C N (h_x h) (h_s h) hn0   _ _ h3 th a2 _ _ ls w (by have u5 := hsh3.2.1; have u8 := hsl; omega) (lv_sub hl [0, 2] rfl) e2
set_option maxRecDepth 20000 in
set_option maxHeartbeats 4000000 in
theorem b_Trail_placeAhead_23 {p : Program} {l : Launch} {e : Env} {s : State} {m : MethodId} {args : Array Value} {below : List Frame} {meth : Method} {c : Code} {D : va_G} {cy : cyT} {z : Nat} (C : MX p s m args meth c cX9_placeAhead 4 ((some .int)) RX9 (Cond.code yX9_placeAhead cX9_placeAhead 4 ((some .int)) :: GW)) (N : Nat) {r : Int32} {g : hS}  : ∀  (h : hS) (x2 : Int32) (H : Heap) (locs : List Loc) (ls : Array Slot), wd D cy z s 0 h H locs → lv_has ls 4 [(2, .int x2)] → f_Trail_placeAhead_23 N   h x2 = some (r, g) → W p l e { frames := 2, cells := 0, slots := 0, locals := 66 } s m args below meth c H locs 0 0 (MQ below (eQ D cy z (rI r) g) args s 0 0 (fun q => z ≤ q)) (F0 m 23 ls []) := by
  obtain ⟨hx, hb, hr, hml, hown, hts, hlk⟩ := id C
  intro  h x2 H locs ls w  hl hE
  unfold f_Trail_placeAhead_23 at hE
  refine lv_iload_n hx hb dX9_placeAhead_23 rfl (lv_at hl 0 rfl) ?_
  exact w_iret C w hE dX9_placeAhead_24
set_option maxRecDepth 20000 in
set_option maxHeartbeats 4000000 in
theorem k_Trail_placeAhead (l : Launch) (D : va_G) (cy : cyT) (z : Nat) (N : Nat) (h : hS) (th : Nat) (x1 : Int32) (x2 : Int32) (r : Int32) (g : hS) (hE : f_Trail_placeAhead N h th x1 x2 = some (r, g)) : ct l yX9_placeAhead (Cond.code yX9_placeAhead cX9_placeAhead 4 ((some .int)) :: GW) { frames := 2, cells := 0, slots := 0, locals := 66 } D cy z h [.ref th, .int x1, .int x2] (rI r) g := by
  refine Met.ofW (cc := cX9_placeAhead) (maxL := 4) (ret := (some .int)) (by decide) rfl ?_
  intro p e s m args below meth c s₁ B hml hv
  obtain ⟨rfl, hw⟩ := hv
  have C : MX p s m ([.ref th, .int x1, .int x2] : List Value).toArray meth c cX9_placeAhead 4 ((some .int)) RX9 (Cond.code yX9_placeAhead cX9_placeAhead 4 ((some .int)) :: GW) := ⟨B.exec, B.bytes, B.returns, hml, findClass_of_methodNamed B.named, atoms_spec (ws := Cond.code yX9_placeAhead cX9_placeAhead 4 ((some .int)) :: GW) B.pre, B.notSynchronized⟩
  obtain ⟨hx, hb, hr, hml, hown, hts, hlk⟩ := id C
  have w := wd_of hw
  obtain ⟨ls, hen, hl⟩ : ∃ ls : Array Slot, entryFrame m ([.ref th, .int x1, .int x2] : List Value).toArray 4 = F0 m 0 ls [] ∧ lv_has ls 4 [(0, .ref th), (1, .int x1), (2, .int x2)] := by
    exact ⟨_, lg_entry_eq _ _ _, lv_entry _ (Nat.le_of_ble_eq_true rfl)⟩
  rw [hen]
  unfold f_Trail_placeAhead at hE
  refine lv_aload_n hx hb dX9_placeAhead_0 rfl (lv_at hl 0 rfl) ?_
  refine w_gR (r := some th) (ci := 10) (k := 0) C w rfl (by decide) (GF_wsX90 _) (by decide) rfl (List.mem_cons_of_mem _ gw_5_5) rfl dX9_placeAhead_1 hE (fun v1 e1 => ?_)
  refine lv_iload_n hx hb dX9_placeAhead_4 rfl (lv_at hl 1 rfl) ?_
  refine w_VR GW_good (n := 1) (F := 0) (Lc := 0) (o := v1) (av := [.int x1]) (rest := []) C w rfl (by decide) (fun a r g hf => k_Chain_stepAt l D cy z N h a x1 r g hf) gw_39_19 gw_20_7 gw_20_8 gw_3_6 gw_20_9 (by decide +kernel) ⟨Nat.le_of_ble_eq_true rfl, Nat.le_of_ble_eq_true rfl⟩ rfl hl.1 rfl (Nat.le_of_ble_eq_true rfl) dX9_placeAhead_5 (fun a => (sh_Chain_stepAt N h a x1)) ⟨by decide, by decide⟩ e1 (fun v2 h3 H locs w hsh3 e2 => ?_)
  refine w_astore_n (r := v2) (lv' := [(3, va_rf v2), (0, .ref th), (1, .int x1), (2, .int x2)]) C dX9_placeAhead_8 rfl hl (by decide) rfl (fun ls hl => ?_)
  refine w_aload_n C dX9_placeAhead_9 rfl (lv_at hl 0 rfl) ?_
  refine w_null (r := v2) (tgt := 23) C dX9_placeAhead_10 (by decide) e2 (fun hc e3 => ?_) (fun hc e3 => ?_)
  · exact b_Trail_placeAhead_23 C N     h3 x2 _ _ ls w  (lv_sub hl [3] rfl) e3
  · refine lv_iload_n hx hb dX9_placeAhead_13 rfl (lv_at hl 2 rfl) ?_
    refine w_if_lt (tgt := 23) C dX9_placeAhead_14 (by decide) e3 (fun hc e4 => ?_) (fun hc e4 => ?_)
    · exact b_Trail_placeAhead_23 C N     h3 x2 _ _ ls w  (lv_sub hl [3] rfl) e4
    · refine lv_iload_n hx hb dX9_placeAhead_17 rfl (lv_at hl 2 rfl) ?_
      refine lv_bipush (v := 40) hx hb dX9_placeAhead_18 (by decide) ?_
      refine w_icmp_lt (tgt := 25) C dX9_placeAhead_20 (by decide) e4 (fun hc e5 => ?_) (fun hc e5 => ?_)
      · refine w_aload_n C dX9_placeAhead_25 rfl (lv_at hl 0 rfl) ?_
        refine w_gI (r := v2) (ci := 8) (k := 0) C w rfl (by decide) (GF_wsX70 _) (by decide) rfl (List.mem_cons_of_mem _ gw_40_5) rfl dX9_placeAhead_26 e5 (fun v4 e6 => ?_)
        refine w_case e6 (fun hc e7 => ?_) (fun nc29_3 e7 => ?_)
        · refine w_tin (tgt := 60) C hc dX9_placeAhead_29 (by decide) (by decide) rfl (by decide) ?_
          refine lv_iload_n hx hb dX9_placeAhead_60 rfl (lv_at hl 3 rfl) ?_
          refine w_aload_n C dX9_placeAhead_61 rfl (lv_at hl 0 rfl) ?_
          refine w_gI (r := v2) (ci := 8) (k := 1) C w rfl (by decide) (GF_wsX70 _) (by decide) rfl (List.mem_cons_of_mem _ gw_40_6) rfl dX9_placeAhead_62 e7 (fun v5 e8 => ?_)
          refine lv_isub hx hb dX9_placeAhead_65 ?_
          exact w_iret C w e8 dX9_placeAhead_66
        ·
          refine w_case e7 (fun hc e9 => ?_) (fun nc29_4 e9 => ?_)
          · refine w_tin (tgt := 67) C hc dX9_placeAhead_29 (by decide) (by decide) rfl (by decide) ?_
            refine lv_iload_n hx hb dX9_placeAhead_67 rfl (lv_at hl 3 rfl) ?_
            refine lv_aload_n hx hb dX9_placeAhead_68 rfl (lv_at hl 1 rfl) ?_
            refine w_gR (r := some th) (ci := 10) (k := 1) C w rfl (by decide) (GF_wsX90 _) (by decide) rfl (List.mem_cons_of_mem _ gw_5_6) rfl dX9_placeAhead_69 e9 (fun v6 e10 => ?_)
            refine lv_iload_n hx hb dX9_placeAhead_72 rfl (lv_at hl 2 rfl) ?_
            refine w_aI (r := v6) C w dX9_placeAhead_73 e10 (fun v7 e11 => ?_)
            refine lv_aload_n hx hb dX9_placeAhead_74 rfl (lv_at hl 1 rfl) ?_
            refine w_gR (r := some th) (ci := 10) (k := 2) C w rfl (by decide) (GF_wsX90 _) (by decide) rfl (List.mem_cons_of_mem _ gw_5_7) rfl dX9_placeAhead_75 e11 (fun v8 e12 => ?_)
            refine lv_iload_n hx hb dX9_placeAhead_78 rfl (lv_at hl 2 rfl) ?_
            refine w_aI (r := v8) C w dX9_placeAhead_79 e12 (fun v9 e13 => ?_)
            refine w_SNI GW_good (n := 3) (F := 1) (Lc := 44) (av := [.int x2, .int v7, .int v9]) (rest := []) C w (fun r g hf => k_K_clamp l D cy z N h3 x2 v7 v9 r g hf) (List.mem_of_getElem? (i := 7) rfl) gw_37_5 gw_1_2 gw_37_6 (by decide +kernel) ⟨Nat.le_of_ble_eq_true rfl, Nat.le_of_ble_eq_true rfl⟩ rfl hl.1 rfl (Nat.le_of_ble_eq_true rfl) dX9_placeAhead_80 (sh_K_clamp N h3 x2 v7 v9) ⟨by decide, by decide⟩ e13 (fun v10 h11 H locs w hsh11 e14 => ?_)
            refine lv_iload_n hx hb dX9_placeAhead_83 rfl (lv_at hl 3 rfl) ?_
            refine w_aload_n C dX9_placeAhead_84 rfl (lv_at hl 0 rfl) ?_
            refine w_gI (r := v2) (ci := 8) (k := 2) C w rfl (by decide) (GF_wsX70 _) (by decide) rfl (List.mem_cons_of_mem _ gw_40_7) rfl dX9_placeAhead_85 e14 (fun v12 e15 => ?_)
            refine lv_isub hx hb dX9_placeAhead_88 ?_
            refine lv_iload_n hx hb dX9_placeAhead_89 rfl (lv_at hl 3 rfl) ?_
            refine w_aload_n C dX9_placeAhead_90 rfl (lv_at hl 0 rfl) ?_
            refine w_gI (r := v2) (ci := 8) (k := 1) C w rfl (by decide) (GF_wsX70 _) (by decide) rfl (List.mem_cons_of_mem _ gw_40_6) rfl dX9_placeAhead_91 e15 (fun v13 e16 => ?_)
            refine lv_iadd hx hb dX9_placeAhead_94 ?_
            refine w_SNI GW_good (n := 3) (F := 1) (Lc := 44) (av := [.int v10, .int (x2 - v12), .int (x2 + v13)]) (rest := []) C w (fun r g hf => k_K_clamp l D cy z N h11 v10 (x2 - v12) (x2 + v13) r g hf) (List.mem_of_getElem? (i := 7) rfl) gw_37_5 gw_1_2 gw_37_6 (by decide +kernel) ⟨Nat.le_of_ble_eq_true rfl, Nat.le_of_ble_eq_true rfl⟩ rfl hl.1 rfl (Nat.le_of_ble_eq_true rfl) dX9_placeAhead_95 (sh_K_clamp N h11 v10 (x2 - v12) (x2 + v13)) ⟨by decide, by decide⟩ e16 (fun v14 h15 H locs w hsh15 e17 => ?_)
            exact w_iret C w e17 dX9_placeAhead_98
          ·
            refine w_case e9 (fun hc e18 => ?_) (fun nc29_5 e18 => ?_)
            · refine w_tin (tgt := 99) C hc dX9_placeAhead_29 (by decide) (by decide) rfl (by decide) ?_
              refine lv_iload_n hx hb dX9_placeAhead_99 rfl (lv_at hl 3 rfl) ?_
              refine lv_aload_n hx hb dX9_placeAhead_100 rfl (lv_at hl 1 rfl) ?_
              refine w_gR (r := some th) (ci := 10) (k := 2) C w rfl (by decide) (GF_wsX90 _) (by decide) rfl (List.mem_cons_of_mem _ gw_5_7) rfl dX9_placeAhead_101 e18 (fun v16 e19 => ?_)
              refine lv_iload_n hx hb dX9_placeAhead_104 rfl (lv_at hl 2 rfl) ?_
              refine w_aI (r := v16) C w dX9_placeAhead_105 e19 (fun v17 e20 => ?_)
              refine w_mmin C hl.1 (List.mem_cons_of_mem _ gw_40_8) (List.mem_cons_of_mem _ gw_10_6) (List.mem_cons_of_mem _ gw_10_7) (List.mem_cons_of_mem _ gw_10_8) (Nat.le_of_ble_eq_true rfl) (Nat.le_of_ble_eq_true rfl) (by decide) (by decide) dX9_placeAhead_106 ?_
              exact w_iret C w e20 dX9_placeAhead_109
            ·
              refine w_case e18 (fun hc e21 => ?_) (fun nc29_6 e21 => ?_)
              · refine w_tin (tgt := 110) C hc dX9_placeAhead_29 (by decide) (by decide) rfl (by decide) ?_
                refine lv_iload_n hx hb dX9_placeAhead_110 rfl (lv_at hl 3 rfl) ?_
                refine lv_aload_n hx hb dX9_placeAhead_111 rfl (lv_at hl 1 rfl) ?_
                refine w_gR (r := some th) (ci := 10) (k := 1) C w rfl (by decide) (GF_wsX90 _) (by decide) rfl (List.mem_cons_of_mem _ gw_5_6) rfl dX9_placeAhead_112 e21 (fun v18 e22 => ?_)
                refine lv_iload_n hx hb dX9_placeAhead_115 rfl (lv_at hl 2 rfl) ?_
                refine w_aI (r := v18) C w dX9_placeAhead_116 e22 (fun v19 e23 => ?_)
                refine w_mmax C hl.1 (List.mem_cons_of_mem _ gw_40_9) (List.mem_cons_of_mem _ gw_30_15) (List.mem_cons_of_mem _ gw_10_7) (List.mem_cons_of_mem _ gw_30_16) (Nat.le_of_ble_eq_true rfl) (Nat.le_of_ble_eq_true rfl) (by decide) (by decide) dX9_placeAhead_117 ?_
                exact w_iret C w e23 dX9_placeAhead_120
              ·
                refine w_tout (tgt := 121) 3 4 C (by decide) (by intro k hk; rcases (show k = 0 ∨ k = 1 ∨ k = 2 ∨ k = 3 by omega) with rfl | rfl | rfl | rfl; all_goals assumption) rfl rfl dX9_placeAhead_29 (by decide) ?_
                refine lv_iload_n hx hb dX9_placeAhead_121 rfl (lv_at hl 3 rfl) ?_
                exact w_iret C w e21 dX9_placeAhead_122
      · exact b_Trail_placeAhead_23 C N     h3 x2 _ _ ls w  (lv_sub hl [3] rfl) e5
set_option maxRecDepth 20000 in
set_option maxHeartbeats 4000000 in
theorem b_Trail_placeBehind_38 {p : Program} {l : Launch} {e : Env} {s : State} {m : MethodId} {args : Array Value} {below : List Frame} {meth : Method} {c : Code} {D : va_G} {cy : cyT} {z : Nat} (C : MX p s m args meth c cX9_placeBehind 5 ((some .int)) RX9 (Cond.code yX9_placeBehind cX9_placeBehind 5 ((some .int)) :: GW)) (N : Nat) {r : Int32} {g : hS}  : ∀  (h : hS) (x3 : Int32) (H : Heap) (locs : List Loc) (ls : Array Slot), wd D cy z s 0 h H locs → lv_has ls 5 [(3, .int x3)] → f_Trail_placeBehind_38 N   h x3 = some (r, g) → W p l e { frames := 3, cells := 0, slots := 0, locals := 89 } s m args below meth c H locs 0 0 (MQ below (eQ D cy z (rI r) g) args s 0 0 (fun q => z ≤ q)) (F0 m 38 ls []) := by
  obtain ⟨hx, hb, hr, hml, hown, hts, hlk⟩ := id C
  intro  h x3 H locs ls w  hl hE
  unfold f_Trail_placeBehind_38 at hE
  refine lv_iload_n hx hb dX9_placeBehind_38 rfl (lv_at hl 0 rfl) ?_
  exact w_iret C w hE dX9_placeBehind_39
set_option maxRecDepth 20000 in
set_option maxHeartbeats 4000000 in
theorem b_Trail_placeBehind_13 {p : Program} {l : Launch} {e : Env} {s : State} {m : MethodId} {args : Array Value} {below : List Frame} {meth : Method} {c : Code} {D : va_G} {cy : cyT} {z : Nat} (C : MX p s m args meth c cX9_placeBehind 5 ((some .int)) RX9 (Cond.code yX9_placeBehind cX9_placeBehind 5 ((some .int)) :: GW)) (N : Nat) {r : Int32} {g : hS}  : ∀ (n : Nat) (h : hS) (th : Nat) (x1 : Int32) (x3 : Int32) (x4 : Int32) (H : Heap) (locs : List Loc) (ls : Array Slot), wd D cy z s 0 h H locs → lv_has ls 5 [(0, .ref th), (1, .int x1), (3, .int x3), (4, .int x4)] → f_Trail_placeBehind_13 N  n h th x1 x3 x4 = some (r, g) → W p l e { frames := 3, cells := 0, slots := 0, locals := 89 } s m args below meth c H locs 0 0 (MQ below (eQ D cy z (rI r) g) args s 0 0 (fun q => z ≤ q)) (F0 m 13 ls []) := by
  obtain ⟨hx, hb, hr, hml, hown, hts, hlk⟩ := id C
  intro n
  induction n with
  | zero =>
    intro  h th x1 x3 x4 H locs ls w  hl hE
    cases hE
  | succ n ih =>
    intro  h th x1 x3 x4 H locs ls w  hl hE
    unfold f_Trail_placeBehind_13 at hE
    refine lv_iload hx hb dX9_placeBehind_13 (lv_at hl 3 rfl) ?_
    refine w_if_lt (tgt := 38) C dX9_placeBehind_15 (by decide) hE (fun hc e1 => ?_) (fun hc e1 => ?_)
    · exact b_Trail_placeBehind_38 C N     h x3 _ _ ls w  (lv_sub hl [2] rfl) e1
    · refine lv_iload hx hb dX9_placeBehind_18 (lv_at hl 3 rfl) ?_
      refine lv_iload_n hx hb dX9_placeBehind_20 rfl (lv_at hl 1 rfl) ?_
      refine w_icmp_lt (tgt := 38) C dX9_placeBehind_21 (by decide) e1 (fun hc e2 => ?_) (fun hc e2 => ?_)
      · exact b_Trail_placeBehind_38 C N     h x3 _ _ ls w  (lv_sub hl [2] rfl) e2
      · refine lv_aload_n hx hb dX9_placeBehind_24 rfl (lv_at hl 0 rfl) ?_
        refine lv_iload hx hb dX9_placeBehind_25 (lv_at hl 3 rfl) ?_
        refine lv_iload_n hx hb dX9_placeBehind_27 rfl (lv_at hl 2 rfl) ?_
        refine w_VI GW_good (n := 2) (F := 2) (Lc := 66) (o := some th) (av := [.int x4, .int x3]) (rest := []) C w rfl (by decide) (fun a r g hf => k_Trail_placeAhead l D cy z N h a x4 x3 r g hf) gw_40_1 gw_40_2 gw_40_3 gw_2_8 gw_40_4 (by decide +kernel) ⟨Nat.le_of_ble_eq_true rfl, Nat.le_of_ble_eq_true rfl⟩ rfl hl.1 rfl (Nat.le_of_ble_eq_true rfl) dX9_placeBehind_28 (fun a => (sh_Trail_placeAhead N h a x4 x3)) ⟨by decide, by decide⟩ e2 (fun v1 h2 H locs w hsh2 e3 => ?_)
        refine lv_istore_n (lv' := [(3, .int v1), (0, .ref th), (1, .int x1), (4, .int x4)]) hx hb dX9_placeBehind_31 rfl hl (by decide) rfl (fun ls hl => ?_)
        obtain ⟨v3, ev3, e4⟩ := bn_some e3
        refine lv_iinc (v := v3) (lv' := [(4, .int v3), (3, .int v1), (0, .ref th), (1, .int x1)]) hx hb dX9_placeBehind_32 hl (k := 3) rfl (by rw [ev3]; rfl) (by decide) rfl (fun ls hl => ?_)
        refine lv_goto (tgt := 13) hx hb dX9_placeBehind_35 (by decide) ?_
        exact ih  h2 th x1 v1 v3 _ _ ls w  (lv_sub hl [2, 3, 1, 0] rfl) e4
set_option maxRecDepth 20000 in
set_option maxHeartbeats 4000000 in
theorem k_Trail_placeBehind (l : Launch) (D : va_G) (cy : cyT) (z : Nat) (N : Nat) (h : hS) (th : Nat) (x1 : Int32) (x2 : Int32) (r : Int32) (g : hS) (hE : f_Trail_placeBehind N h th x1 x2 = some (r, g)) : ct l yX9_placeBehind (Cond.code yX9_placeBehind cX9_placeBehind 5 ((some .int)) :: GW) { frames := 3, cells := 0, slots := 0, locals := 89 } D cy z h [.ref th, .int x1, .int x2] (rI r) g := by
  refine Met.ofW (cc := cX9_placeBehind) (maxL := 5) (ret := (some .int)) (by decide) rfl ?_
  intro p e s m args below meth c s₁ B hml hv
  obtain ⟨rfl, hw⟩ := hv
  have C : MX p s m ([.ref th, .int x1, .int x2] : List Value).toArray meth c cX9_placeBehind 5 ((some .int)) RX9 (Cond.code yX9_placeBehind cX9_placeBehind 5 ((some .int)) :: GW) := ⟨B.exec, B.bytes, B.returns, hml, findClass_of_methodNamed B.named, atoms_spec (ws := Cond.code yX9_placeBehind cX9_placeBehind 5 ((some .int)) :: GW) B.pre, B.notSynchronized⟩
  obtain ⟨hx, hb, hr, hml, hown, hts, hlk⟩ := id C
  have w := wd_of hw
  obtain ⟨ls, hen, hl⟩ : ∃ ls : Array Slot, entryFrame m ([.ref th, .int x1, .int x2] : List Value).toArray 5 = F0 m 0 ls [] ∧ lv_has ls 5 [(0, .ref th), (1, .int x1), (2, .int x2)] := by
    exact ⟨_, lg_entry_eq _ _ _, lv_entry _ (Nat.le_of_ble_eq_true rfl)⟩
  rw [hen]
  unfold f_Trail_placeBehind at hE
  refine lv_iload_n hx hb dX9_placeBehind_0 rfl (lv_at hl 2 rfl) ?_
  refine lv_istore_n (lv' := [(3, .int x2), (0, .ref th), (1, .int x1), (2, .int x2)]) hx hb dX9_placeBehind_1 rfl hl (by decide) rfl (fun ls hl => ?_)
  refine lv_aload_n hx hb dX9_placeBehind_2 rfl (lv_at hl 1 rfl) ?_
  refine w_gR (r := some th) (ci := 10) (k := 0) C w rfl (by decide) (GF_wsX90 _) (by decide) rfl (List.mem_cons_of_mem _ gw_5_5) rfl dX9_placeBehind_3 hE (fun v1 e1 => ?_)
  refine w_gI (r := v1) (ci := 2) (k := 1) C w rfl (by decide) (GF_wsX10 _) (by decide) rfl (List.mem_cons_of_mem _ gw_39_14) rfl dX9_placeBehind_6 e1 (fun v2 e2 => ?_)
  refine lv_iconst (v := 1) hx hb dX9_placeBehind_9 (by decide) ?_
  refine lv_isub hx hb dX9_placeBehind_10 ?_
  refine w_bnI e2 (fun v3 e3 => ?_)
  refine lv_istore (lv' := [(4, .int v3), (3, .int x2), (0, .ref th), (1, .int x1), (2, .int x2)]) hx hb dX9_placeBehind_11 hl (by decide) rfl (fun ls hl => ?_)
  exact b_Trail_placeBehind_13 C N   N  h th x1 x2 v3 _ _ ls w  (lv_sub hl [2, 3, 1, 0] rfl) e3
set_option maxRecDepth 20000 in
set_option maxHeartbeats 4000000 in
theorem b_Trail_wayTo_15 {p : Program} {l : Launch} {e : Env} {s : State} {m : MethodId} {args : Array Value} {below : List Frame} {meth : Method} {c : Code} {D : va_G} {cy : cyT} {z : Nat} (C : MX p s m args meth c cX9_wayTo 6 ((some .int)) RX9 (Cond.code yX9_wayTo cX9_wayTo 6 ((some .int)) :: GW)) (N : Nat) {r : Int32} {g : hS}  : ∀ (n : Nat) (h : hS) (th : Nat) (x2 : Int32) (x3 : Int32) (x4 : Int32) (H : Heap) (locs : List Loc) (ls : Array Slot), wd D cy z s 0 h H locs → lv_has ls 6 [(0, .ref th), (2, .int x2), (3, .int x3), (4, .int x4)] → f_Trail_wayTo_15 N  n h th x2 x3 x4 = some (r, g) → W p l e { frames := 3, cells := 0, slots := 0, locals := 89 } s m args below meth c H locs 0 0 (MQ below (eQ D cy z (rI r) g) args s 0 0 (fun q => z ≤ q)) (F0 m 15 ls []) := by
  obtain ⟨hx, hb, hr, hml, hown, hts, hlk⟩ := id C
  intro n
  induction n with
  | zero =>
    intro  h th x2 x3 x4 H locs ls w  hl hE
    cases hE
  | succ n ih =>
    intro  h th x2 x3 x4 H locs ls w  hl hE
    unfold f_Trail_wayTo_15 at hE
    refine lv_iload hx hb dX9_wayTo_15 (lv_at hl 3 rfl) ?_
    refine w_if_lt (tgt := 48) C dX9_wayTo_17 (by decide) hE (fun hc e1 => ?_) (fun hc e1 => ?_)
    · refine lv_iload_n hx hb dX9_wayTo_48 rfl (lv_at hl 1 rfl) ?_
      exact w_iret C w e1 dX9_wayTo_49
    · refine lv_aload_n hx hb dX9_wayTo_20 rfl (lv_at hl 0 rfl) ?_
      refine lv_iload hx hb dX9_wayTo_21 (lv_at hl 3 rfl) ?_
      refine lv_iload_n hx hb dX9_wayTo_23 rfl (lv_at hl 2 rfl) ?_
      refine w_VI GW_good (n := 2) (F := 2) (Lc := 66) (o := some th) (av := [.int x4, .int x3]) (rest := []) C w rfl (by decide) (fun a r g hf => k_Trail_placeAhead l D cy z N h a x4 x3 r g hf) gw_40_1 gw_40_2 gw_40_3 gw_2_8 gw_40_4 (by decide +kernel) ⟨Nat.le_of_ble_eq_true rfl, Nat.le_of_ble_eq_true rfl⟩ rfl hl.1 rfl (Nat.le_of_ble_eq_true rfl) dX9_wayTo_24 (fun a => (sh_Trail_placeAhead N h a x4 x3)) ⟨by decide, by decide⟩ e1 (fun v1 h2 H locs w hsh2 e2 => ?_)
      refine lv_istore (lv' := [(5, .int v1), (0, .ref th), (2, .int x2), (3, .int x3), (4, .int x4)]) hx hb dX9_wayTo_27 hl (by decide) rfl (fun ls hl => ?_)
      refine lv_iload_n hx hb dX9_wayTo_29 rfl (lv_at hl 2 rfl) ?_
      refine lv_iload_n hx hb dX9_wayTo_30 rfl (lv_at hl 3 rfl) ?_
      refine lv_iload hx hb dX9_wayTo_31 (lv_at hl 0 rfl) ?_
      refine lv_isub hx hb dX9_wayTo_33 ?_
      refine w_mabs C hl.1 (List.mem_cons_of_mem _ gw_46_12) (List.mem_cons_of_mem _ gw_41_6) (List.mem_cons_of_mem _ gw_10_7) (List.mem_cons_of_mem _ gw_41_7) (Nat.le_of_ble_eq_true rfl) (Nat.le_of_ble_eq_true rfl) (by decide) (by decide) dX9_wayTo_34 ?_
      refine lv_iadd hx hb dX9_wayTo_37 ?_
      refine w_bnI e2 (fun v3 e3 => ?_)
      refine lv_istore_n (lv' := [(2, .int v3), (5, .int v1), (0, .ref th), (3, .int x3), (4, .int x4)]) hx hb dX9_wayTo_38 rfl hl (by decide) rfl (fun ls hl => ?_)
      refine lv_iload hx hb dX9_wayTo_39 (lv_at hl 1 rfl) ?_
      refine lv_istore_n (lv' := [(3, .int v1), (2, .int v3), (5, .int v1), (0, .ref th), (4, .int x4)]) hx hb dX9_wayTo_41 rfl hl (by decide) rfl (fun ls hl => ?_)
      obtain ⟨v4, ev4, e4⟩ := bn_some e3
      refine lv_iinc (v := v4) (lv' := [(4, .int v4), (3, .int v1), (2, .int v3), (5, .int v1), (0, .ref th)]) hx hb dX9_wayTo_42 hl (k := 4) rfl (by rw [ev4]; rfl) (by decide) rfl (fun ls hl => ?_)
      refine lv_goto (tgt := 15) hx hb dX9_wayTo_45 (by decide) ?_
      exact ih  h2 th v3 v1 v4 _ _ ls w  (lv_sub hl [4, 2, 1, 0] rfl) e4
set_option maxRecDepth 20000 in
set_option maxHeartbeats 4000000 in
theorem k_Trail_wayTo (l : Launch) (D : va_G) (cy : cyT) (z : Nat) (N : Nat) (h : hS) (th : Nat) (x1 : Int32) (r : Int32) (g : hS) (hE : f_Trail_wayTo N h th x1 = some (r, g)) : ct l yX9_wayTo (Cond.code yX9_wayTo cX9_wayTo 6 ((some .int)) :: GW) { frames := 3, cells := 0, slots := 0, locals := 89 } D cy z h [.ref th, .int x1] (rI r) g := by
  refine Met.ofW (cc := cX9_wayTo) (maxL := 6) (ret := (some .int)) (by decide) rfl ?_
  intro p e s m args below meth c s₁ B hml hv
  obtain ⟨rfl, hw⟩ := hv
  have C : MX p s m ([.ref th, .int x1] : List Value).toArray meth c cX9_wayTo 6 ((some .int)) RX9 (Cond.code yX9_wayTo cX9_wayTo 6 ((some .int)) :: GW) := ⟨B.exec, B.bytes, B.returns, hml, findClass_of_methodNamed B.named, atoms_spec (ws := Cond.code yX9_wayTo cX9_wayTo 6 ((some .int)) :: GW) B.pre, B.notSynchronized⟩
  obtain ⟨hx, hb, hr, hml, hown, hts, hlk⟩ := id C
  have w := wd_of hw
  obtain ⟨ls, hen, hl⟩ : ∃ ls : Array Slot, entryFrame m ([.ref th, .int x1] : List Value).toArray 6 = F0 m 0 ls [] ∧ lv_has ls 6 [(0, .ref th), (1, .int x1)] := by
    exact ⟨_, lg_entry_eq _ _ _, lv_entry _ (Nat.le_of_ble_eq_true rfl)⟩
  rw [hen]
  unfold f_Trail_wayTo at hE
  refine lv_iconst (v := 0) hx hb dX9_wayTo_0 (by decide) ?_
  refine lv_istore_n (lv' := [(2, .int (0 : Int32)), (0, .ref th), (1, .int x1)]) hx hb dX9_wayTo_1 rfl hl (by decide) rfl (fun ls hl => ?_)
  refine lv_iload_n hx hb dX9_wayTo_2 rfl (lv_at hl 2 rfl) ?_
  refine lv_istore_n (lv' := [(3, .int x1), (2, .int (0 : Int32)), (0, .ref th), (1, .int x1)]) hx hb dX9_wayTo_3 rfl hl (by decide) rfl (fun ls hl => ?_)
  refine lv_aload_n hx hb dX9_wayTo_4 rfl (lv_at hl 2 rfl) ?_
  refine w_gR (r := some th) (ci := 10) (k := 0) C w rfl (by decide) (GF_wsX90 _) (by decide) rfl (List.mem_cons_of_mem _ gw_5_5) rfl dX9_wayTo_5 hE (fun v1 e1 => ?_)
  refine w_gI (r := v1) (ci := 2) (k := 1) C w rfl (by decide) (GF_wsX10 _) (by decide) rfl (List.mem_cons_of_mem _ gw_39_14) rfl dX9_wayTo_8 e1 (fun v2 e2 => ?_)
  refine lv_iconst (v := 1) hx hb dX9_wayTo_11 (by decide) ?_
  refine lv_isub hx hb dX9_wayTo_12 ?_
  refine w_bnI e2 (fun v3 e3 => ?_)
  refine lv_istore (lv' := [(4, .int v3), (3, .int x1), (2, .int (0 : Int32)), (0, .ref th), (1, .int x1)]) hx hb dX9_wayTo_13 hl (by decide) rfl (fun ls hl => ?_)
  exact b_Trail_wayTo_15 C N   N  h th (0 : Int32) x1 v3 _ _ ls w  (lv_sub hl [3, 2, 1, 0] rfl) e3
set_option maxRecDepth 20000 in
set_option maxHeartbeats 4000000 in
theorem k_Walk_init (l : Launch) (D : va_G) (cy : cyT) (z : Nat) (N : Nat) (h : hS) (th : Nat) (a1 : Option Nat) (r : Unit) (g : hS) (hE : f_Walk_init N h th a1 = some (r, g)) : ct l yX10_init (Cond.code yX10_init cX10_init 2 (none) :: GW) { frames := 1, cells := 0, slots := 0, locals := 44 } D cy z h [.ref th, va_rf a1] (rV r) g := by
  refine Met.ofW (cc := cX10_init) (maxL := 2) (ret := none) (by decide) rfl ?_
  intro p e s m args below meth c s₁ B hml hv
  obtain ⟨rfl, hw⟩ := hv
  have hni : meth.name = "<init>" := (name_of_methodNamed B.named B.method).1
  have C : MX p s m ([.ref th, va_rf a1] : List Value).toArray meth c cX10_init 2 (none) RX10 (Cond.code yX10_init cX10_init 2 (none) :: GW) := ⟨B.exec, B.bytes, B.returns, hml, findClass_of_methodNamed B.named, atoms_spec (ws := Cond.code yX10_init cX10_init 2 (none) :: GW) B.pre, B.notSynchronized⟩
  obtain ⟨hx, hb, hr, hml, hown, hts, hlk⟩ := id C
  have w := wd_of hw
  obtain ⟨ls, hen, hl⟩ : ∃ ls : Array Slot, entryFrame m ([.ref th, va_rf a1] : List Value).toArray 2 = F0 m 0 ls [] ∧ lv_has ls 2 [(0, .ref th), (1, va_rf a1)] := by
    cases a1 <;> exact ⟨_, lg_entry_eq _ _ _, lv_entry _ (Nat.le_of_ble_eq_true rfl)⟩
  rw [hen]
  unfold f_Walk_init at hE
  refine lv_aload_n hx hb dX10_init_0 rfl (lv_at hl 0 rfl) ?_
  refine w_oinit (a := th) C hl.1 (List.mem_cons_of_mem _ gw_5_22) (List.mem_cons_of_mem _ gw_1_12) (List.mem_cons_of_mem _ gw_1_13) (Nat.le_of_ble_eq_true rfl) (Nat.le_of_ble_eq_true rfl) dX10_init_1 ?_
  refine lv_aload_n hx hb dX10_init_4 rfl (lv_at hl 0 rfl) ?_
  refine w_aload_n C dX10_init_5 rfl (lv_at hl 1 rfl) ?_
  refine w_pR (r := some th) (ci := 11) (k := 0) (v := a1) (Or.inl ⟨_, rfl⟩) C w rfl (by decide) (by unfold roK; omega) (GF_wsX100 _) tyX10 tyX10_ok nmX10 (by decide) rfl (List.mem_cons_of_mem _ gw_5_23) rfl rfl (tyX10_ok 0 (by decide)) dX10_init_6 hE (fun h1 H locs w hsh1 e1 => ?_)
  exact w_vret C w e1 dX10_init_9
set_option maxRecDepth 20000 in
set_option maxHeartbeats 4000000 in
theorem k_Walk_startAt (l : Launch) (D : va_G) (cy : cyT) (z : Nat) (N : Nat) (h : hS) (th : Nat) (a1 : Option Nat) (x2 : Int32) (r : Unit) (g : hS) (hE : f_Walk_startAt N h th a1 x2 = some (r, g)) : ct l yX10_startAt (Cond.code yX10_startAt cX10_startAt 3 (none) :: GW) { frames := 2, cells := 0, slots := 0, locals := 73 } D cy z h [.ref th, va_rf a1, .int x2] (rV r) g := by
  refine Met.ofW (cc := cX10_startAt) (maxL := 3) (ret := none) (by decide) rfl ?_
  intro p e s m args below meth c s₁ B hml hv
  obtain ⟨rfl, hw⟩ := hv
  have C : MX p s m ([.ref th, va_rf a1, .int x2] : List Value).toArray meth c cX10_startAt 3 (none) RX10 (Cond.code yX10_startAt cX10_startAt 3 (none) :: GW) := ⟨B.exec, B.bytes, B.returns, hml, findClass_of_methodNamed B.named, atoms_spec (ws := Cond.code yX10_startAt cX10_startAt 3 (none) :: GW) B.pre, B.notSynchronized⟩
  obtain ⟨hx, hb, hr, hml, hown, hts, hlk⟩ := id C
  have w := wd_of hw
  obtain ⟨ls, hen, hl⟩ : ∃ ls : Array Slot, entryFrame m ([.ref th, va_rf a1, .int x2] : List Value).toArray 3 = F0 m 0 ls [] ∧ lv_has ls 3 [(0, .ref th), (1, va_rf a1), (2, .int x2)] := by
    cases a1 <;> exact ⟨_, lg_entry_eq _ _ _, lv_entry _ (Nat.le_of_ble_eq_true rfl)⟩
  rw [hen]
  unfold f_Walk_startAt at hE
  refine lv_aload_n hx hb dX10_startAt_0 rfl (lv_at hl 0 rfl) ?_
  refine w_aload_n C dX10_startAt_1 rfl (lv_at hl 1 rfl) ?_
  refine w_pR (r := some th) (ci := 11) (k := 0) (v := a1) (Or.inl ⟨_, rfl⟩) C w rfl (by decide) (by unfold roK; omega) (GF_wsX100 _) tyX10 tyX10_ok nmX10 (by decide) rfl (List.mem_cons_of_mem _ gw_5_23) rfl rfl (tyX10_ok 0 (by decide)) dX10_startAt_2 hE (fun h1 H locs w hsh1 e1 => ?_)
  refine lv_aload_n hx hb dX10_startAt_5 rfl (lv_at hl 0 rfl) ?_
  refine lv_iload_n hx hb dX10_startAt_6 rfl (lv_at hl 2 rfl) ?_
  refine w_pI (r := some th) (ci := 11) (k := 1) C w rfl (by decide) (by unfold roK; omega) (GF_wsX100 _) tyX10 tyX10_ok nmX10 (by decide) rfl (List.mem_cons_of_mem _ gw_47_5) rfl rfl (tyX10_ok 1 (by decide)) dX10_startAt_7 e1 (fun h2 H locs w hsh2 e2 => ?_)
  refine lv_aload_n hx hb dX10_startAt_10 rfl (lv_at hl 0 rfl) ?_
  refine lv_aload_n hx hb dX10_startAt_11 rfl (lv_at hl 0 rfl) ?_
  refine w_gR (r := some th) (ci := 11) (k := 0) C w rfl (by decide) (GF_wsX100 _) (by decide) rfl (List.mem_cons_of_mem _ gw_5_23) rfl dX10_startAt_12 e2 (fun v3 e3 => ?_)
  refine lv_aload_n hx hb dX10_startAt_15 rfl (lv_at hl 0 rfl) ?_
  refine w_gI (r := some th) (ci := 11) (k := 1) C w rfl (by decide) (GF_wsX100 _) (by decide) rfl (List.mem_cons_of_mem _ gw_47_5) rfl dX10_startAt_16 e3 (fun v4 e4 => ?_)
  refine w_VI GW_good (n := 1) (F := 1) (Lc := 21) (o := v3) (av := [.int v4]) (rest := [.ref th]) C w rfl (by decide) (fun a r g hf => k_Curve_slopeBehind l D cy z N h2 a v4 r g hf) gw_47_9 gw_38_20 gw_38_21 gw_2_22 gw_38_22 (by decide +kernel) ⟨Nat.le_of_ble_eq_true rfl, Nat.le_of_ble_eq_true rfl⟩ rfl hl.1 rfl (Nat.le_of_ble_eq_true rfl) dX10_startAt_19 (fun a => (sh_Curve_slopeBehind N h2 a v4)) ⟨by decide, by decide⟩ e4 (fun v5 h6 H locs w hsh6 e5 => ?_)
  refine w_pI (r := some th) (ci := 11) (k := 2) C w rfl (by decide) (by unfold roK; omega) (GF_wsX100 _) tyX10 tyX10_ok nmX10 (by decide) rfl (List.mem_cons_of_mem _ gw_47_6) rfl rfl (tyX10_ok 2 (by decide)) dX10_startAt_22 e5 (fun h7 H locs w hsh7 e6 => ?_)
  refine lv_aload_n hx hb dX10_startAt_25 rfl (lv_at hl 0 rfl) ?_
  refine lv_aload_n hx hb dX10_startAt_26 rfl (lv_at hl 0 rfl) ?_
  refine w_gR (r := some th) (ci := 11) (k := 0) C w rfl (by decide) (GF_wsX100 _) (by decide) rfl (List.mem_cons_of_mem _ gw_5_23) rfl dX10_startAt_27 e6 (fun v8 e7 => ?_)
  refine lv_aload_n hx hb dX10_startAt_30 rfl (lv_at hl 0 rfl) ?_
  refine w_gI (r := some th) (ci := 11) (k := 1) C w rfl (by decide) (GF_wsX100 _) (by decide) rfl (List.mem_cons_of_mem _ gw_47_5) rfl dX10_startAt_31 e7 (fun v9 e8 => ?_)
  refine w_VI GW_good (n := 1) (F := 1) (Lc := 21) (o := v8) (av := [.int v9]) (rest := [.ref th]) C w rfl (by decide) (fun a r g hf => k_Curve_kinksUpTo l D cy z N h7 a v9 r g hf) gw_47_10 gw_47_11 gw_47_12 gw_2_22 gw_47_13 (by decide +kernel) ⟨Nat.le_of_ble_eq_true rfl, Nat.le_of_ble_eq_true rfl⟩ rfl hl.1 rfl (Nat.le_of_ble_eq_true rfl) dX10_startAt_34 (fun a => (sh_Curve_kinksUpTo N h7 a v9)) ⟨by decide, by decide⟩ e8 (fun v10 h11 H locs w hsh11 e9 => ?_)
  refine w_pI (r := some th) (ci := 11) (k := 3) C w rfl (by decide) (by unfold roK; omega) (GF_wsX100 _) tyX10 tyX10_ok nmX10 (by decide) rfl (List.mem_cons_of_mem _ gw_47_7) rfl rfl (tyX10_ok 3 (by decide)) dX10_startAt_37 e9 (fun h12 H locs w hsh12 e10 => ?_)
  refine lv_aload_n hx hb dX10_startAt_40 rfl (lv_at hl 0 rfl) ?_
  refine lv_aload_n hx hb dX10_startAt_41 rfl (lv_at hl 0 rfl) ?_
  refine w_gR (r := some th) (ci := 11) (k := 0) C w rfl (by decide) (GF_wsX100 _) (by decide) rfl (List.mem_cons_of_mem _ gw_5_23) rfl dX10_startAt_42 e10 (fun v13 e11 => ?_)
  refine lv_aload_n hx hb dX10_startAt_45 rfl (lv_at hl 0 rfl) ?_
  refine w_gI (r := some th) (ci := 11) (k := 1) C w rfl (by decide) (GF_wsX100 _) (by decide) rfl (List.mem_cons_of_mem _ gw_47_5) rfl dX10_startAt_46 e11 (fun v14 e12 => ?_)
  refine w_VJ GW_good (n := 1) (F := 1) (Lc := 44) (o := v13) (av := [.int v14]) (rest := [.ref th]) C w rfl (by decide) (fun a r g hf => k_Curve_valueAt l D cy z N h12 a v14 r g hf) gw_47_14 gw_22_1 gw_22_2 gw_2_22 gw_22_3 (by decide +kernel) ⟨Nat.le_of_ble_eq_true rfl, Nat.le_of_ble_eq_true rfl⟩ rfl hl.1 rfl (Nat.le_of_ble_eq_true rfl) dX10_startAt_49 (fun a => (sh_Curve_valueAt N h12 a v14)) ⟨by decide, by decide⟩ e12 (fun v15 h16 H locs w hsh16 e13 => ?_)
  refine w_pJ (r := some th) (ci := 11) (k := 4) C w rfl (by decide) (by unfold roK; omega) (GF_wsX100 _) tyX10 tyX10_ok nmX10 (by decide) rfl (List.mem_cons_of_mem _ gw_47_8) rfl rfl (tyX10_ok 4 (by decide)) dX10_startAt_52 e13 (fun h17 H locs w hsh17 e14 => ?_)
  exact w_vret C w e14 dX10_startAt_55
set_option maxRecDepth 20000 in
set_option maxHeartbeats 4000000 in
theorem b_Walk_goOn_86 {p : Program} {l : Launch} {e : Env} {s : State} {m : MethodId} {args : Array Value} {below : List Frame} {meth : Method} {c : Code} {D : va_G} {cy : cyT} {z : Nat} (C : MX p s m args meth c cX10_goOn 1 (none) RX10 (Cond.code yX10_goOn cX10_goOn 1 (none) :: GW)) (N : Nat) {r : Unit} {g : hS}  : ∀  (h : hS)  (H : Heap) (locs : List Loc) (ls : Array Slot), wd D cy z s 0 h H locs → lv_has ls 1 [] → f_Walk_goOn_86 N   h  = some (r, g) → W p l e { frames := 1, cells := 0, slots := 0, locals := 21 } s m args below meth c H locs 0 0 (MQ below (eQ D cy z (rV r) g) args s 0 0 (fun q => z ≤ q)) (F0 m 86 ls []) := by
  obtain ⟨hx, hb, hr, hml, hown, hts, hlk⟩ := id C
  intro  h  H locs ls w  hl hE
  unfold f_Walk_goOn_86 at hE
  exact w_vret C w hE dX10_goOn_86
set_option maxRecDepth 20000 in
set_option maxHeartbeats 4000000 in
theorem k_Walk_goOn (l : Launch) (D : va_G) (cy : cyT) (z : Nat) (N : Nat) (h : hS) (th : Nat) (r : Unit) (g : hS) (hE : f_Walk_goOn N h th = some (r, g)) : ct l yX10_goOn (Cond.code yX10_goOn cX10_goOn 1 (none) :: GW) { frames := 1, cells := 0, slots := 0, locals := 21 } D cy z h [.ref th] (rV r) g := by
  refine Met.ofW (cc := cX10_goOn) (maxL := 1) (ret := none) (by decide) rfl ?_
  intro p e s m args below meth c s₁ B hml hv
  obtain ⟨rfl, hw⟩ := hv
  have C : MX p s m ([.ref th] : List Value).toArray meth c cX10_goOn 1 (none) RX10 (Cond.code yX10_goOn cX10_goOn 1 (none) :: GW) := ⟨B.exec, B.bytes, B.returns, hml, findClass_of_methodNamed B.named, atoms_spec (ws := Cond.code yX10_goOn cX10_goOn 1 (none) :: GW) B.pre, B.notSynchronized⟩
  obtain ⟨hx, hb, hr, hml, hown, hts, hlk⟩ := id C
  have w := wd_of hw
  obtain ⟨ls, hen, hl⟩ : ∃ ls : Array Slot, entryFrame m ([.ref th] : List Value).toArray 1 = F0 m 0 ls [] ∧ lv_has ls 1 [(0, .ref th)] := by
    exact ⟨_, lg_entry_eq _ _ _, lv_entry _ (Nat.le_of_ble_eq_true rfl)⟩
  rw [hen]
  unfold f_Walk_goOn at hE
  refine lv_aload_n hx hb dX10_goOn_0 rfl (lv_at hl 0 rfl) ?_
  refine lv_dup hx hb dX10_goOn_1 rfl ?_
  refine w_gJ (r := some th) (ci := 11) (k := 4) C w rfl (by decide) (GF_wsX100 _) (by decide) rfl (List.mem_cons_of_mem _ gw_47_8) rfl dX10_goOn_2 hE (fun v1 e1 => ?_)
  refine lv_aload_n hx hb dX10_goOn_5 rfl (lv_at hl 0 rfl) ?_
  refine w_gI (r := some th) (ci := 11) (k := 2) C w rfl (by decide) (GF_wsX100 _) (by decide) rfl (List.mem_cons_of_mem _ gw_47_6) rfl dX10_goOn_6 e1 (fun v2 e2 => ?_)
  refine lv_i2l hx hb dX10_goOn_9 rfl ?_
  refine lv_ladd hx hb dX10_goOn_10 ?_
  refine w_pJ (r := some th) (ci := 11) (k := 4) C w rfl (by decide) (by unfold roK; omega) (GF_wsX100 _) tyX10 tyX10_ok nmX10 (by decide) rfl (List.mem_cons_of_mem _ gw_47_8) rfl rfl (tyX10_ok 4 (by decide)) dX10_goOn_11 e2 (fun h3 H locs w hsh3 e3 => ?_)
  refine lv_aload_n hx hb dX10_goOn_14 rfl (lv_at hl 0 rfl) ?_
  refine lv_dup hx hb dX10_goOn_15 rfl ?_
  refine w_gI (r := some th) (ci := 11) (k := 1) C w rfl (by decide) (GF_wsX100 _) (by decide) rfl (List.mem_cons_of_mem _ gw_47_5) rfl dX10_goOn_16 e3 (fun v4 e4 => ?_)
  refine lv_iconst (v := 1) hx hb dX10_goOn_19 (by decide) ?_
  refine lv_iadd hx hb dX10_goOn_20 ?_
  refine w_pI (r := some th) (ci := 11) (k := 1) C w rfl (by decide) (by unfold roK; omega) (GF_wsX100 _) tyX10 tyX10_ok nmX10 (by decide) rfl (List.mem_cons_of_mem _ gw_47_5) rfl rfl (tyX10_ok 1 (by decide)) dX10_goOn_21 e4 (fun h5 H locs w hsh5 e5 => ?_)
  refine lv_aload_n hx hb dX10_goOn_24 rfl (lv_at hl 0 rfl) ?_
  refine w_gI (r := some th) (ci := 11) (k := 3) C w rfl (by decide) (GF_wsX100 _) (by decide) rfl (List.mem_cons_of_mem _ gw_47_7) rfl dX10_goOn_25 e5 (fun v6 e6 => ?_)
  refine lv_aload_n hx hb dX10_goOn_28 rfl (lv_at hl 0 rfl) ?_
  refine w_gR (r := some th) (ci := 11) (k := 0) C w rfl (by decide) (GF_wsX100 _) (by decide) rfl (List.mem_cons_of_mem _ gw_5_23) rfl dX10_goOn_29 e6 (fun v7 e7 => ?_)
  refine w_gI (r := v7) (ci := 3) (k := 0) C w rfl (by decide) (GF_wsX20 _) (by decide) rfl (List.mem_cons_of_mem _ gw_47_19) rfl dX10_goOn_32 e7 (fun v8 e8 => ?_)
  refine w_icmp_ge (tgt := 86) C dX10_goOn_35 (by decide) e8 (fun hc e9 => ?_) (fun hc e9 => ?_)
  · exact b_Walk_goOn_86 C N     h5  _ _ ls w  (lv_sub hl [] rfl) e9
  · refine lv_aload_n hx hb dX10_goOn_38 rfl (lv_at hl 0 rfl) ?_
    refine w_gR (r := some th) (ci := 11) (k := 0) C w rfl (by decide) (GF_wsX100 _) (by decide) rfl (List.mem_cons_of_mem _ gw_5_23) rfl dX10_goOn_39 e9 (fun v9 e10 => ?_)
    refine lv_aload_n hx hb dX10_goOn_42 rfl (lv_at hl 0 rfl) ?_
    refine w_gI (r := some th) (ci := 11) (k := 3) C w rfl (by decide) (GF_wsX100 _) (by decide) rfl (List.mem_cons_of_mem _ gw_47_7) rfl dX10_goOn_43 e10 (fun v10 e11 => ?_)
    refine w_VI GW_good (n := 1) (F := 0) (Lc := 0) (o := v9) (av := [.int v10]) (rest := []) C w rfl (by decide) (fun a r g hf => k_Curve_placeOf l D cy z N h5 a v10 r g hf) gw_47_20 gw_17_2 gw_17_3 gw_2_22 gw_17_4 (by decide +kernel) ⟨Nat.le_of_ble_eq_true rfl, Nat.le_of_ble_eq_true rfl⟩ rfl hl.1 rfl (Nat.le_of_ble_eq_true rfl) dX10_goOn_46 (fun a => (sh_Curve_placeOf N h5 a v10)) ⟨by decide, by decide⟩ e11 (fun v11 h12 H locs w hsh12 e12 => ?_)
    refine lv_aload_n hx hb dX10_goOn_49 rfl (lv_at hl 0 rfl) ?_
    refine w_gI (r := some th) (ci := 11) (k := 1) C w rfl (by decide) (GF_wsX100 _) (by decide) rfl (List.mem_cons_of_mem _ gw_47_5) rfl dX10_goOn_50 e12 (fun v13 e13 => ?_)
    refine w_icmp_ne (tgt := 86) C dX10_goOn_53 (by decide) e13 (fun hc e14 => ?_) (fun hc e14 => ?_)
    · exact b_Walk_goOn_86 C N     h12  _ _ ls w  (lv_sub hl [] rfl) e14
    · refine lv_aload_n hx hb dX10_goOn_56 rfl (lv_at hl 0 rfl) ?_
      refine lv_dup hx hb dX10_goOn_57 rfl ?_
      refine w_gI (r := some th) (ci := 11) (k := 2) C w rfl (by decide) (GF_wsX100 _) (by decide) rfl (List.mem_cons_of_mem _ gw_47_6) rfl dX10_goOn_58 e14 (fun v14 e15 => ?_)
      refine lv_aload_n hx hb dX10_goOn_61 rfl (lv_at hl 0 rfl) ?_
      refine w_gR (r := some th) (ci := 11) (k := 0) C w rfl (by decide) (GF_wsX100 _) (by decide) rfl (List.mem_cons_of_mem _ gw_5_23) rfl dX10_goOn_62 e15 (fun v15 e16 => ?_)
      refine lv_aload_n hx hb dX10_goOn_65 rfl (lv_at hl 0 rfl) ?_
      refine w_gI (r := some th) (ci := 11) (k := 3) C w rfl (by decide) (GF_wsX100 _) (by decide) rfl (List.mem_cons_of_mem _ gw_47_7) rfl dX10_goOn_66 e16 (fun v16 e17 => ?_)
      refine w_VI GW_good (n := 1) (F := 0) (Lc := 0) (o := v15) (av := [.int v16]) (rest := [.int v14, .ref th]) C w rfl (by decide) (fun a r g hf => k_Curve_weightOf l D cy z N h12 a v16 r g hf) gw_47_21 gw_17_6 gw_17_7 gw_2_22 gw_17_8 (by decide +kernel) ⟨Nat.le_of_ble_eq_true rfl, Nat.le_of_ble_eq_true rfl⟩ rfl hl.1 rfl (Nat.le_of_ble_eq_true rfl) dX10_goOn_69 (fun a => (sh_Curve_weightOf N h12 a v16)) ⟨by decide, by decide⟩ e17 (fun v17 h18 H locs w hsh18 e18 => ?_)
      refine lv_iadd hx hb dX10_goOn_72 ?_
      refine w_pI (r := some th) (ci := 11) (k := 2) C w rfl (by decide) (by unfold roK; omega) (GF_wsX100 _) tyX10 tyX10_ok nmX10 (by decide) rfl (List.mem_cons_of_mem _ gw_47_6) rfl rfl (tyX10_ok 2 (by decide)) dX10_goOn_73 e18 (fun h19 H locs w hsh19 e19 => ?_)
      refine lv_aload_n hx hb dX10_goOn_76 rfl (lv_at hl 0 rfl) ?_
      refine lv_dup hx hb dX10_goOn_77 rfl ?_
      refine w_gI (r := some th) (ci := 11) (k := 3) C w rfl (by decide) (GF_wsX100 _) (by decide) rfl (List.mem_cons_of_mem _ gw_47_7) rfl dX10_goOn_78 e19 (fun v20 e20 => ?_)
      refine lv_iconst (v := 1) hx hb dX10_goOn_81 (by decide) ?_
      refine lv_iadd hx hb dX10_goOn_82 ?_
      refine w_pI (r := some th) (ci := 11) (k := 3) C w rfl (by decide) (by unfold roK; omega) (GF_wsX100 _) tyX10 tyX10_ok nmX10 (by decide) rfl (List.mem_cons_of_mem _ gw_47_7) rfl rfl (tyX10_ok 3 (by decide)) dX10_goOn_83 e20 (fun h21 H locs w hsh21 e21 => ?_)
      exact b_Walk_goOn_86 C N     h21  _ _ ls w  (lv_sub hl [] rfl) e21
set_option maxRecDepth 20000 in
set_option maxHeartbeats 4000000 in
theorem b_K_init_204 {p : Program} {l : Launch} {e : Env} {s : State} {m : MethodId} {args : Array Value} {below : List Frame} {meth : Method} {c : Code} {D : va_G} {cy : cyT} {z : Nat} (C : MX p s m args meth c cX11_init 2 (none) RX11 (Cond.code yX11_init cX11_init 2 (none) :: GW)) (hni : meth.name = "<init>") (N : Nat) (n0 s0 : Nat) (hn0 : s.heap.size = n0) {r : Unit} {g : hS}  : ∀  (cells slots : Nat) (h : hS) (th : Nat) (y0 : Option Nat) (y1 : Option Nat) (H : Heap) (locs : List Loc) (ls : Array Slot), wd D cy z s cells h H locs → h_s h = s0 + slots → lv_has ls 2 [(0, .ref th)] → f_K_init_204 N   h th y0 y1 = some (r, g) → W p l e { frames := 3, cells := h_x g - n0, slots := h_s g - s0, locals := 85 } s m args below meth c H locs cells slots (MQ below (eQ D cy z (rV r) g) args s (h_x g - n0) (h_s g - s0) (fun q => z ≤ q)) (F0 m 204 ls [va_rf y1, va_rf y0]) := by
  obtain ⟨hx, hb, hr, hml, hown, hts, hlk⟩ := id C
  intro cells slots h th y0 y1 H locs ls w hsl hl hE
  have hcc : cells ≤ h_x g - n0 ∧ slots ≤ h_s g - s0 := by
    have q1 := mo_K_init_204 N  h th y0 y1 _ _ hE
    have q2 := wd_x w
    have q3 := q1.1
    have q4 := q1.2.1
    omega
  unfold f_K_init_204 at hE
  refine w_pRF (r := y0) (ci := 12) (k := 16) (v := y1) (Or.inl ⟨_, rfl⟩) C w rfl (by decide) (by unfold roK; omega) (GF_wsX110 _) tyX11 tyX11_ok nmX11 (by decide) rfl (List.mem_cons_of_mem _ gw_3_11) rfl rfl hni rfl (tyX11_ok 16 (by decide)) dX11_init_204 hE (fun h1 H locs w hsh1 e1 => ?_)
  have hsl := hsh1.2.2.2.trans hsl
  refine lv_aload_n hx hb dX11_init_207 rfl (lv_at hl 0 rfl) ?_
  refine lv_null hx hb dX11_init_208 ?_
  refine w_pR (r := some th) (ci := 12) (k := 17) (v := none) (Or.inl ⟨_, rfl⟩) C w rfl (by decide) (by unfold roK; omega) (GF_wsX110 _) tyX11 tyX11_ok nmX11 (by decide) rfl (List.mem_cons_of_mem _ gw_3_12) rfl rfl (tyX11_ok 17 (by decide)) dX11_init_209 e1 (fun h2 H locs w hsh2 e2 => ?_)
  have hsl := hsh2.2.2.2.trans hsl
  refine W.widen (k := h_x g - n0) (n := h_s g - s0) hcc.1 hcc.2 ?_
  exact w_vret C w e2 dX11_init_212
set_option maxRecDepth 20000 in
set_option maxHeartbeats 4000000 in
theorem b_K_init_200 {p : Program} {l : Launch} {e : Env} {s : State} {m : MethodId} {args : Array Value} {below : List Frame} {meth : Method} {c : Code} {D : va_G} {cy : cyT} {z : Nat} (C : MX p s m args meth c cX11_init 2 (none) RX11 (Cond.code yX11_init cX11_init 2 (none) :: GW)) (hni : meth.name = "<init>") (N : Nat) (n0 s0 : Nat) (hn0 : s.heap.size = n0) {r : Unit} {g : hS}  : ∀  (cells slots : Nat) (h : hS) (th : Nat) (y0 : Option Nat) (y1 : Option Nat) (H : Heap) (locs : List Loc) (ls : Array Slot), wd D cy z s cells h H locs → h_s h = s0 + slots → lv_has ls 2 [(0, .ref th)] → f_K_init_200 N   h th y0 y1 = some (r, g) → W p l e { frames := 3, cells := h_x g - n0, slots := h_s g - s0, locals := 85 } s m args below meth c H locs cells slots (MQ below (eQ D cy z (rV r) g) args s (h_x g - n0) (h_s g - s0) (fun q => z ≤ q)) (F0 m 200 ls [va_rf y1, va_rf y0]) := by
  obtain ⟨hx, hb, hr, hml, hown, hts, hlk⟩ := id C
  intro cells slots h th y0 y1 H locs ls w hsl hl hE
  have hcc : cells ≤ h_x g - n0 ∧ slots ≤ h_s g - s0 := by
    have q1 := mo_K_init_200 N  h th y0 y1 _ _ hE
    have q2 := wd_x w
    have q3 := q1.1
    have q4 := q1.2.1
    omega
  unfold f_K_init_200 at hE
  refine lv_dup hx hb dX11_init_200 (va_rf_cat _) ?_
  obtain ⟨q3, eq3, e1⟩ := nn_some hE
  subst eq3
  refine w_IAV GW_good (b := q3) (n := 0) (F := 2) (Lc := 64) (av := []) (rest := [.ref q3, va_rf y0]) C w (fun r g hf => k_State_init l D cy z N h q3  r g hf) gw_6_1 gw_6_2 gw_3_10 gw_6_3 rfl (by decide +kernel) ⟨Nat.le_of_ble_eq_true rfl, Nat.le_of_ble_eq_true rfl⟩ rfl hl.1 rfl (cat_le (Nat.le_of_ble_eq_true rfl)) dX11_init_201 (mo_State_init N h q3 ) (fun v1 h2 q1 q2 => by have u1 := (mo_State_init N h q3 ) _ _ q1; have u2 := mo_K_init_204 N   h2 th y0 (some q3) _ _ q2; have u3 := wd_x w; have u4 := u1.1; have u5 := u1.2.1; have u6 := u2.1; have u7 := u2.2.1; show cells + _ ≤ h_x g - n0 ∧ slots + _ ≤ h_s g - s0; omega) e1 (fun v1 h2 H locs w hsh2 e2 => ?_)
  exact b_K_init_204 C hni N n0 s0 hn0   _ _ h2 th y0 (some q3) _ _ ls w (by have u5 := hsh2.2.1; have u8 := hsl; omega) (lv_sub hl [0] rfl) e2
set_option maxRecDepth 20000 in
set_option maxHeartbeats 4000000 in
theorem b_K_init_193 {p : Program} {l : Launch} {e : Env} {s : State} {m : MethodId} {args : Array Value} {below : List Frame} {meth : Method} {c : Code} {D : va_G} {cy : cyT} {z : Nat} (C : MX p s m args meth c cX11_init 2 (none) RX11 (Cond.code yX11_init cX11_init 2 (none) :: GW)) (hni : meth.name = "<init>") (N : Nat) (n0 s0 : Nat) (hn0 : s.heap.size = n0) {r : Unit} {g : hS}  : ∀  (cells slots : Nat) (h : hS) (th : Nat) (y0 : Option Nat) (y1 : Option Nat) (H : Heap) (locs : List Loc) (ls : Array Slot), wd D cy z s cells h H locs → h_s h = s0 + slots → lv_has ls 2 [(0, .ref th)] → f_K_init_193 N   h th y0 y1 = some (r, g) → W p l e { frames := 3, cells := h_x g - n0, slots := h_s g - s0, locals := 85 } s m args below meth c H locs cells slots (MQ below (eQ D cy z (rV r) g) args s (h_x g - n0) (h_s g - s0) (fun q => z ≤ q)) (F0 m 193 ls [va_rf y1, va_rf y0]) := by
  obtain ⟨hx, hb, hr, hml, hown, hts, hlk⟩ := id C
  intro cells slots h th y0 y1 H locs ls w hsl hl hE
  have hcc : cells ≤ h_x g - n0 ∧ slots ≤ h_s g - s0 := by
    have q1 := mo_K_init_193 N  h th y0 y1 _ _ hE
    have q2 := wd_x w
    have q3 := q1.1
    have q4 := q1.2.1
    omega
  unfold f_K_init_193 at hE
  refine w_pRF (r := y0) (ci := 12) (k := 15) (v := y1) (Or.inl ⟨_, rfl⟩) C w rfl (by decide) (by unfold roK; omega) (GF_wsX110 _) tyX11 tyX11_ok nmX11 (by decide) rfl (List.mem_cons_of_mem _ gw_3_7) rfl rfl hni rfl (tyX11_ok 15 (by decide)) dX11_init_193 hE (fun h1 H locs w hsh1 e1 => ?_)
  have hsl := hsh1.2.2.2.trans hsl
  refine lv_aload_n hx hb dX11_init_196 rfl (lv_at hl 0 rfl) ?_
  have hm := mo_K_init_200 N   (nw h1 8 0 8) th (some th) (some (h_x h1)) _ _ e1
  have hm1 := hm.1
  have hm2 := hm.2.1
  rw [h_x_nw] at hm1
  rw [h_s_nw] at hm2
  have hwx := wd_x w
  refine w_newO (ci := 7) C w rfl (by decide) (GF_wsX60 _) tyX6 tyX6_ok (List.mem_cons_of_mem _ gw_3_8) (List.mem_cons_of_mem _ gw_3_9) (List.mem_cons_of_mem _ gw_3_10) (fun j hj => by rcases (show j = 0 ∨ j = 1 ∨ j = 2 ∨ j = 3 ∨ j = 4 ∨ j = 5 ∨ j = 6 ∨ j = 7 by omega) with rfl | rfl | rfl | rfl | rfl | rfl | rfl | rfl <;> rfl) dX11_init_197 e1 (by show cells + 1 ≤ h_x g - n0; omega) (by show slots + _ ≤ h_s g - s0; omega) (fun H w e2 => ?_)
  exact b_K_init_200 C hni N n0 s0 hn0   (cells + 1) (slots + 8) (nw h1 8 0 8) th (some th) (some (h_x h1)) _ _ ls w (by first | (rw [h_s_nw, hsl]; done) | (rw [h_s_nw, hsl]; omega)) (lv_sub hl [0] rfl) e2
set_option maxRecDepth 20000 in
set_option maxHeartbeats 4000000 in
theorem b_K_init_189 {p : Program} {l : Launch} {e : Env} {s : State} {m : MethodId} {args : Array Value} {below : List Frame} {meth : Method} {c : Code} {D : va_G} {cy : cyT} {z : Nat} (C : MX p s m args meth c cX11_init 2 (none) RX11 (Cond.code yX11_init cX11_init 2 (none) :: GW)) (hni : meth.name = "<init>") (N : Nat) (n0 s0 : Nat) (hn0 : s.heap.size = n0) {r : Unit} {g : hS}  : ∀  (cells slots : Nat) (h : hS) (th : Nat) (y0 : Option Nat) (y1 : Option Nat) (H : Heap) (locs : List Loc) (ls : Array Slot), wd D cy z s cells h H locs → h_s h = s0 + slots → lv_has ls 2 [(0, .ref th)] → f_K_init_189 N   h th y0 y1 = some (r, g) → W p l e { frames := 3, cells := h_x g - n0, slots := h_s g - s0, locals := 85 } s m args below meth c H locs cells slots (MQ below (eQ D cy z (rV r) g) args s (h_x g - n0) (h_s g - s0) (fun q => z ≤ q)) (F0 m 189 ls [va_rf y1, va_rf y0]) := by
  obtain ⟨hx, hb, hr, hml, hown, hts, hlk⟩ := id C
  intro cells slots h th y0 y1 H locs ls w hsl hl hE
  have hcc : cells ≤ h_x g - n0 ∧ slots ≤ h_s g - s0 := by
    have q1 := mo_K_init_189 N  h th y0 y1 _ _ hE
    have q2 := wd_x w
    have q3 := q1.1
    have q4 := q1.2.1
    omega
  unfold f_K_init_189 at hE
  refine lv_dup hx hb dX11_init_189 (va_rf_cat _) ?_
  obtain ⟨q3, eq3, e1⟩ := nn_some hE
  subst eq3
  refine w_IAV GW_good (b := q3) (n := 0) (F := 1) (Lc := 44) (av := []) (rest := [.ref q3, va_rf y0]) C w (fun r g hf => k_Chain_init l D cy z N h q3  r g hf) gw_6_0 gw_5_9 gw_3_6 gw_5_10 rfl (by decide +kernel) ⟨Nat.le_of_ble_eq_true rfl, Nat.le_of_ble_eq_true rfl⟩ rfl hl.1 rfl (cat_le (Nat.le_of_ble_eq_true rfl)) dX11_init_190 (mo_Chain_init N h q3 ) (fun v1 h2 q1 q2 => by have u1 := (mo_Chain_init N h q3 ) _ _ q1; have u2 := mo_K_init_193 N   h2 th y0 (some q3) _ _ q2; have u3 := wd_x w; have u4 := u1.1; have u5 := u1.2.1; have u6 := u2.1; have u7 := u2.2.1; show cells + _ ≤ h_x g - n0 ∧ slots + _ ≤ h_s g - s0; omega) e1 (fun v1 h2 H locs w hsh2 e2 => ?_)
  exact b_K_init_193 C hni N n0 s0 hn0   _ _ h2 th y0 (some q3) _ _ ls w (by have u5 := hsh2.2.1; have u8 := hsl; omega) (lv_sub hl [0] rfl) e2
set_option maxRecDepth 20000 in
set_option maxHeartbeats 4000000 in
theorem b_K_init_172 {p : Program} {l : Launch} {e : Env} {s : State} {m : MethodId} {args : Array Value} {below : List Frame} {meth : Method} {c : Code} {D : va_G} {cy : cyT} {z : Nat} (C : MX p s m args meth c cX11_init 2 (none) RX11 (Cond.code yX11_init cX11_init 2 (none) :: GW)) (hni : meth.name = "<init>") (N : Nat) (n0 s0 : Nat) (hn0 : s.heap.size = n0) {r : Unit} {g : hS}  : ∀  (cells slots : Nat) (h : hS) (th : Nat) (y0 : Option Nat) (y1 : Option Nat) (H : Heap) (locs : List Loc) (ls : Array Slot), wd D cy z s cells h H locs → h_s h = s0 + slots → lv_has ls 2 [(0, .ref th)] → f_K_init_172 N   h th y0 y1 = some (r, g) → W p l e { frames := 3, cells := h_x g - n0, slots := h_s g - s0, locals := 85 } s m args below meth c H locs cells slots (MQ below (eQ D cy z (rV r) g) args s (h_x g - n0) (h_s g - s0) (fun q => z ≤ q)) (F0 m 172 ls [va_rf y1, va_rf y0]) := by
  obtain ⟨hx, hb, hr, hml, hown, hts, hlk⟩ := id C
  intro cells slots h th y0 y1 H locs ls w hsl hl hE
  have hcc : cells ≤ h_x g - n0 ∧ slots ≤ h_s g - s0 := by
    have q1 := mo_K_init_172 N  h th y0 y1 _ _ hE
    have q2 := wd_x w
    have q3 := q1.1
    have q4 := q1.2.1
    omega
  unfold f_K_init_172 at hE
  refine lv_dup hx hb dX11_init_172 (va_rf_cat _) ?_
  refine lv_aload_n hx hb dX11_init_173 rfl (lv_at hl 0 rfl) ?_
  refine w_gR (r := some th) (ci := 12) (k := 13) C w rfl (by decide) (GF_wsX110 _) (by decide) rfl (List.mem_cons_of_mem _ gw_2_19) rfl dX11_init_174 hE (fun v1 e1 => ?_)
  refine lv_iconst (v := 0) hx hb dX11_init_177 (by decide) ?_
  refine w_aRq (kd := 63) (t0 := 7) (r := v1) C w rfl (by decide) dX11_init_178 e1 (fun v2 e2 => ?_)
  obtain ⟨q5, eq5, e3⟩ := nn_some e2
  subst eq5
  refine w_IV GW_good (b := q5) (n := 1) (F := 1) (Lc := 44) (av := [va_rf v2]) (rest := [.ref q5, va_rf y0]) C w (fun r g hf => k_Walk_init l D cy z N h q5 v2 r g hf) gw_5_19 gw_5_20 gw_3_1 gw_5_21 rfl (by decide +kernel) ⟨Nat.le_of_ble_eq_true rfl, Nat.le_of_ble_eq_true rfl⟩ rfl hl.1 rfl (cat_le (Nat.le_of_ble_eq_true rfl)) dX11_init_179 (sh_Walk_init N h q5 v2) ⟨hcc.1, hcc.2⟩ e3 (fun v3 h4 H locs w hsh4 e4 => ?_)
  have hsl := hsh4.2.2.2.trans hsl
  refine w_pRF (r := y0) (ci := 12) (k := 10) (v := some q5) (Or.inl ⟨_, rfl⟩) C w rfl (by decide) (by unfold roK; omega) (GF_wsX110 _) tyX11 tyX11_ok nmX11 (by decide) rfl (List.mem_cons_of_mem _ gw_3_3) rfl rfl hni rfl (tyX11_ok 10 (by decide)) dX11_init_182 e4 (fun h6 H locs w hsh6 e5 => ?_)
  have hsl := hsh6.2.2.2.trans hsl
  refine lv_aload_n hx hb dX11_init_185 rfl (lv_at hl 0 rfl) ?_
  have hm := mo_K_init_189 N   (nw h6 3 0 2) th (some th) (some (h_x h6)) _ _ e5
  have hm1 := hm.1
  have hm2 := hm.2.1
  rw [h_x_nw] at hm1
  rw [h_s_nw] at hm2
  have hwx := wd_x w
  refine w_newO (ci := 2) C w rfl (by decide) (GF_wsX10 _) tyX1 tyX1_ok (List.mem_cons_of_mem _ gw_3_4) (List.mem_cons_of_mem _ gw_3_5) (List.mem_cons_of_mem _ gw_3_6) (fun j hj => by rcases (show j = 0 ∨ j = 1 by omega) with rfl | rfl <;> rfl) dX11_init_186 e5 (by show cells + 1 ≤ h_x g - n0; omega) (by show slots + _ ≤ h_s g - s0; omega) (fun H w e6 => ?_)
  exact b_K_init_189 C hni N n0 s0 hn0   (cells + 1) (slots + 2) (nw h6 3 0 2) th (some th) (some (h_x h6)) _ _ ls w (by first | (rw [h_s_nw, hsl]; done) | (rw [h_s_nw, hsl]; omega)) (lv_sub hl [0] rfl) e6
set_option maxRecDepth 20000 in
set_option maxHeartbeats 4000000 in
theorem b_K_init_155 {p : Program} {l : Launch} {e : Env} {s : State} {m : MethodId} {args : Array Value} {below : List Frame} {meth : Method} {c : Code} {D : va_G} {cy : cyT} {z : Nat} (C : MX p s m args meth c cX11_init 2 (none) RX11 (Cond.code yX11_init cX11_init 2 (none) :: GW)) (hni : meth.name = "<init>") (N : Nat) (n0 s0 : Nat) (hn0 : s.heap.size = n0) {r : Unit} {g : hS}  : ∀  (cells slots : Nat) (h : hS) (th : Nat) (y0 : Option Nat) (y1 : Option Nat) (H : Heap) (locs : List Loc) (ls : Array Slot), wd D cy z s cells h H locs → h_s h = s0 + slots → lv_has ls 2 [(0, .ref th)] → f_K_init_155 N   h th y0 y1 = some (r, g) → W p l e { frames := 3, cells := h_x g - n0, slots := h_s g - s0, locals := 85 } s m args below meth c H locs cells slots (MQ below (eQ D cy z (rV r) g) args s (h_x g - n0) (h_s g - s0) (fun q => z ≤ q)) (F0 m 155 ls [va_rf y1, va_rf y0]) := by
  obtain ⟨hx, hb, hr, hml, hown, hts, hlk⟩ := id C
  intro cells slots h th y0 y1 H locs ls w hsl hl hE
  have hcc : cells ≤ h_x g - n0 ∧ slots ≤ h_s g - s0 := by
    have q1 := mo_K_init_155 N  h th y0 y1 _ _ hE
    have q2 := wd_x w
    have q3 := q1.1
    have q4 := q1.2.1
    omega
  unfold f_K_init_155 at hE
  refine lv_dup hx hb dX11_init_155 (va_rf_cat _) ?_
  refine lv_aload_n hx hb dX11_init_156 rfl (lv_at hl 0 rfl) ?_
  refine w_gR (r := some th) (ci := 12) (k := 13) C w rfl (by decide) (GF_wsX110 _) (by decide) rfl (List.mem_cons_of_mem _ gw_2_19) rfl dX11_init_157 hE (fun v1 e1 => ?_)
  refine lv_iconst (v := 0) hx hb dX11_init_160 (by decide) ?_
  refine w_aRq (kd := 63) (t0 := 7) (r := v1) C w rfl (by decide) dX11_init_161 e1 (fun v2 e2 => ?_)
  obtain ⟨q5, eq5, e3⟩ := nn_some e2
  subst eq5
  refine w_IV GW_good (b := q5) (n := 1) (F := 1) (Lc := 44) (av := [va_rf v2]) (rest := [.ref q5, va_rf y0]) C w (fun r g hf => k_Walk_init l D cy z N h q5 v2 r g hf) gw_5_19 gw_5_20 gw_3_1 gw_5_21 rfl (by decide +kernel) ⟨Nat.le_of_ble_eq_true rfl, Nat.le_of_ble_eq_true rfl⟩ rfl hl.1 rfl (cat_le (Nat.le_of_ble_eq_true rfl)) dX11_init_162 (sh_Walk_init N h q5 v2) ⟨hcc.1, hcc.2⟩ e3 (fun v3 h4 H locs w hsh4 e4 => ?_)
  have hsl := hsh4.2.2.2.trans hsl
  refine w_pRF (r := y0) (ci := 12) (k := 9) (v := some q5) (Or.inl ⟨_, rfl⟩) C w rfl (by decide) (by unfold roK; omega) (GF_wsX110 _) tyX11 tyX11_ok nmX11 (by decide) rfl (List.mem_cons_of_mem _ gw_3_2) rfl rfl hni rfl (tyX11_ok 9 (by decide)) dX11_init_165 e4 (fun h6 H locs w hsh6 e5 => ?_)
  have hsl := hsh6.2.2.2.trans hsl
  refine lv_aload_n hx hb dX11_init_168 rfl (lv_at hl 0 rfl) ?_
  have hm := mo_K_init_172 N   (nw h6 12 0 5) th (some th) (some (h_x h6)) _ _ e5
  have hm1 := hm.1
  have hm2 := hm.2.1
  rw [h_x_nw] at hm1
  rw [h_s_nw] at hm2
  have hwx := wd_x w
  refine w_newO (ci := 11) C w rfl (by decide) (GF_wsX100 _) tyX10 tyX10_ok (List.mem_cons_of_mem _ gw_2_23) (List.mem_cons_of_mem _ gw_3_0) (List.mem_cons_of_mem _ gw_3_1) (fun j hj => by rcases (show j = 0 ∨ j = 1 ∨ j = 2 ∨ j = 3 ∨ j = 4 by omega) with rfl | rfl | rfl | rfl | rfl <;> rfl) dX11_init_169 e5 (by show cells + 1 ≤ h_x g - n0; omega) (by show slots + _ ≤ h_s g - s0; omega) (fun H w e6 => ?_)
  exact b_K_init_172 C hni N n0 s0 hn0   (cells + 1) (slots + 5) (nw h6 12 0 5) th (some th) (some (h_x h6)) _ _ ls w (by first | (rw [h_s_nw, hsl]; done) | (rw [h_s_nw, hsl]; omega)) (lv_sub hl [0] rfl) e6
set_option maxRecDepth 20000 in
set_option maxHeartbeats 4000000 in
theorem b_K_init_132 {p : Program} {l : Launch} {e : Env} {s : State} {m : MethodId} {args : Array Value} {below : List Frame} {meth : Method} {c : Code} {D : va_G} {cy : cyT} {z : Nat} (C : MX p s m args meth c cX11_init 2 (none) RX11 (Cond.code yX11_init cX11_init 2 (none) :: GW)) (hni : meth.name = "<init>") (N : Nat) (n0 s0 : Nat) (hn0 : s.heap.size = n0) {r : Unit} {g : hS} {rc115 : hS → Nat → Int32 → Option (Unit × hS)} (hsh115 : ∀ (h : hS) (th : Nat) (x1 : Int32), Mo h (rc115 h th x1)) (hrc115 : ∀ (cells slots : Nat) (h : hS) (th : Nat) (x1 : Int32) (H : Heap) (locs : List Loc) (ls : Array Slot), wd D cy z s cells h H locs → h_s h = s0 + slots → lv_has ls 2 [(0, .ref th), (1, .int x1)] → rc115 h th x1 = some (r, g) → W p l e { frames := 3, cells := h_x g - n0, slots := h_s g - s0, locals := 85 } s m args below meth c H locs cells slots (MQ below (eQ D cy z (rV r) g) args s (h_x g - n0) (h_s g - s0) (fun q => z ≤ q)) (F0 m 115 ls [])) : ∀  (cells slots : Nat) (h : hS) (th : Nat) (x1 : Int32) (y0 : Option Nat) (y1 : Int32) (y2 : Option Nat) (H : Heap) (locs : List Loc) (ls : Array Slot), wd D cy z s cells h H locs → h_s h = s0 + slots → lv_has ls 2 [(0, .ref th), (1, .int x1)] → f_K_init_132 N rc115  h th x1 y0 y1 y2 = some (r, g) → W p l e { frames := 3, cells := h_x g - n0, slots := h_s g - s0, locals := 85 } s m args below meth c H locs cells slots (MQ below (eQ D cy z (rV r) g) args s (h_x g - n0) (h_s g - s0) (fun q => z ≤ q)) (F0 m 132 ls [va_rf y2, .int y1, va_rf y0]) := by
  obtain ⟨hx, hb, hr, hml, hown, hts, hlk⟩ := id C
  intro cells slots h th x1 y0 y1 y2 H locs ls w hsl hl hE
  have hcc : cells ≤ h_x g - n0 ∧ slots ≤ h_s g - s0 := by
    have q1 := mo_K_init_132 N hsh115 h th x1 y0 y1 y2 _ _ hE
    have q2 := wd_x w
    have q3 := q1.1
    have q4 := q1.2.1
    omega
  unfold f_K_init_132 at hE
  refine w_uR (kd := 63) (t0 := 7) (ci := 3) (r := y0) (v := y2) C w rfl (by decide) rfl (by decide) dX11_init_132 hE (fun h1 H locs w hsh1 e1 => ?_)
  have hsl := hsh1.2.2.2.trans hsl
  refine lv_aload_n hx hb dX11_init_133 rfl (lv_at hl 0 rfl) ?_
  refine w_gR (r := some th) (ci := 12) (k := 14) C w rfl (by decide) (GF_wsX110 _) (by decide) rfl (List.mem_cons_of_mem _ gw_2_20) rfl dX11_init_134 e1 (fun v2 e2 => ?_)
  refine lv_iload_n hx hb dX11_init_137 rfl (lv_at hl 1 rfl) ?_
  refine lv_aload_n hx hb dX11_init_138 rfl (lv_at hl 0 rfl) ?_
  refine w_gR (r := some th) (ci := 12) (k := 13) C w rfl (by decide) (GF_wsX110 _) (by decide) rfl (List.mem_cons_of_mem _ gw_2_19) rfl dX11_init_139 e2 (fun v3 e3 => ?_)
  refine lv_iload_n hx hb dX11_init_142 rfl (lv_at hl 1 rfl) ?_
  refine w_aRq (kd := 63) (t0 := 7) (r := v3) C w rfl (by decide) dX11_init_143 e3 (fun v4 e4 => ?_)
  refine w_uR (kd := 63) (t0 := 7) (ci := 3) (r := v2) (v := v4) C w rfl (by decide) rfl (by decide) dX11_init_144 e4 (fun h5 H locs w hsh5 e5 => ?_)
  have hsl := hsh5.2.2.2.trans hsl
  obtain ⟨v6, ev6, e6⟩ := bn_some e5
  refine lv_iinc (v := v6) (lv' := [(1, .int v6), (0, .ref th)]) hx hb dX11_init_145 hl (k := 1) rfl (by rw [ev6]; rfl) (by decide) rfl (fun ls hl => ?_)
  refine lv_goto (tgt := 115) hx hb dX11_init_148 (by decide) ?_
  exact hrc115 _ _ h5 th v6 _ _ ls w hsl (lv_sub hl [1, 0] rfl) e6
set_option maxRecDepth 20000 in
set_option maxHeartbeats 4000000 in
theorem b_K_init_128 {p : Program} {l : Launch} {e : Env} {s : State} {m : MethodId} {args : Array Value} {below : List Frame} {meth : Method} {c : Code} {D : va_G} {cy : cyT} {z : Nat} (C : MX p s m args meth c cX11_init 2 (none) RX11 (Cond.code yX11_init cX11_init 2 (none) :: GW)) (hni : meth.name = "<init>") (N : Nat) (n0 s0 : Nat) (hn0 : s.heap.size = n0) {r : Unit} {g : hS} {rc115 : hS → Nat → Int32 → Option (Unit × hS)} (hsh115 : ∀ (h : hS) (th : Nat) (x1 : Int32), Mo h (rc115 h th x1)) (hrc115 : ∀ (cells slots : Nat) (h : hS) (th : Nat) (x1 : Int32) (H : Heap) (locs : List Loc) (ls : Array Slot), wd D cy z s cells h H locs → h_s h = s0 + slots → lv_has ls 2 [(0, .ref th), (1, .int x1)] → rc115 h th x1 = some (r, g) → W p l e { frames := 3, cells := h_x g - n0, slots := h_s g - s0, locals := 85 } s m args below meth c H locs cells slots (MQ below (eQ D cy z (rV r) g) args s (h_x g - n0) (h_s g - s0) (fun q => z ≤ q)) (F0 m 115 ls [])) : ∀  (cells slots : Nat) (h : hS) (th : Nat) (x1 : Int32) (y0 : Option Nat) (y1 : Int32) (y2 : Option Nat) (H : Heap) (locs : List Loc) (ls : Array Slot), wd D cy z s cells h H locs → h_s h = s0 + slots → lv_has ls 2 [(0, .ref th), (1, .int x1)] → f_K_init_128 N rc115  h th x1 y0 y1 y2 = some (r, g) → W p l e { frames := 3, cells := h_x g - n0, slots := h_s g - s0, locals := 85 } s m args below meth c H locs cells slots (MQ below (eQ D cy z (rV r) g) args s (h_x g - n0) (h_s g - s0) (fun q => z ≤ q)) (F0 m 128 ls [va_rf y2, .int y1, va_rf y0]) := by
  obtain ⟨hx, hb, hr, hml, hown, hts, hlk⟩ := id C
  intro cells slots h th x1 y0 y1 y2 H locs ls w hsl hl hE
  have hcc : cells ≤ h_x g - n0 ∧ slots ≤ h_s g - s0 := by
    have q1 := mo_K_init_128 N hsh115 h th x1 y0 y1 y2 _ _ hE
    have q2 := wd_x w
    have q3 := q1.1
    have q4 := q1.2.1
    omega
  unfold f_K_init_128 at hE
  refine lv_dup hx hb dX11_init_128 (va_rf_cat _) ?_
  obtain ⟨q3, eq3, e1⟩ := nn_some hE
  subst eq3
  refine w_IAV GW_good (b := q3) (n := 0) (F := 1) (Lc := 44) (av := []) (rest := [.ref q3, .int y1, va_rf y0]) C w (fun r g hf => k_Curve_init l D cy z N h q3  r g hf) gw_5_18 gw_4_9 gw_2_22 gw_4_10 rfl (by decide +kernel) ⟨Nat.le_of_ble_eq_true rfl, Nat.le_of_ble_eq_true rfl⟩ rfl hl.1 rfl (cat_le (Nat.le_of_ble_eq_true rfl)) dX11_init_129 (mo_Curve_init N h q3 ) (fun v1 h2 q1 q2 => by have u1 := (mo_Curve_init N h q3 ) _ _ q1; have u2 := mo_K_init_132 N hsh115  h2 th x1 y0 y1 (some q3) _ _ q2; have u3 := wd_x w; have u4 := u1.1; have u5 := u1.2.1; have u6 := u2.1; have u7 := u2.2.1; show cells + _ ≤ h_x g - n0 ∧ slots + _ ≤ h_s g - s0; omega) e1 (fun v1 h2 H locs w hsh2 e2 => ?_)
  exact b_K_init_132 C hni N n0 s0 hn0 hsh115 hrc115  _ _ h2 th x1 y0 y1 (some q3) _ _ ls w (by have u5 := hsh2.2.1; have u8 := hsl; omega) (lv_sub hl [0, 1] rfl) e2
set_option maxRecDepth 20000 in
set_option maxHeartbeats 4000000 in
theorem b_K_init_115 {p : Program} {l : Launch} {e : Env} {s : State} {m : MethodId} {args : Array Value} {below : List Frame} {meth : Method} {c : Code} {D : va_G} {cy : cyT} {z : Nat} (C : MX p s m args meth c cX11_init 2 (none) RX11 (Cond.code yX11_init cX11_init 2 (none) :: GW)) (hni : meth.name = "<init>") (N : Nat) (n0 s0 : Nat) (hn0 : s.heap.size = n0) {r : Unit} {g : hS}  : ∀ (n : Nat) (cells slots : Nat) (h : hS) (th : Nat) (x1 : Int32) (H : Heap) (locs : List Loc) (ls : Array Slot), wd D cy z s cells h H locs → h_s h = s0 + slots → lv_has ls 2 [(0, .ref th), (1, .int x1)] → f_K_init_115 N  n h th x1 = some (r, g) → W p l e { frames := 3, cells := h_x g - n0, slots := h_s g - s0, locals := 85 } s m args below meth c H locs cells slots (MQ below (eQ D cy z (rV r) g) args s (h_x g - n0) (h_s g - s0) (fun q => z ≤ q)) (F0 m 115 ls []) := by
  obtain ⟨hx, hb, hr, hml, hown, hts, hlk⟩ := id C
  intro n
  induction n with
  | zero =>
    intro cells slots h th x1 H locs ls w hsl hl hE
    cases hE
  | succ n ih =>
    intro cells slots h th x1 H locs ls w hsl hl hE
    have hcc : cells ≤ h_x g - n0 ∧ slots ≤ h_s g - s0 := by
      have q1 := mo_K_init_115 N  (n + 1) h th x1 _ _ hE
      have q2 := wd_x w
      have q3 := q1.1
      have q4 := q1.2.1
      omega
    unfold f_K_init_115 at hE
    refine lv_iload_n hx hb dX11_init_115 rfl (lv_at hl 1 rfl) ?_
    refine lv_iconst (v := 4) hx hb dX11_init_116 (by decide) ?_
    refine w_icmp_ge (tgt := 151) C dX11_init_117 (by decide) hE (fun hc e1 => ?_) (fun hc e1 => ?_)
    · refine lv_aload_n hx hb dX11_init_151 rfl (lv_at hl 0 rfl) ?_
      have hm := mo_K_init_155 N   (nw h 12 0 5) th (some th) (some (h_x h)) _ _ e1
      have hm1 := hm.1
      have hm2 := hm.2.1
      rw [h_x_nw] at hm1
      rw [h_s_nw] at hm2
      have hwx := wd_x w
      refine w_newO (ci := 11) C w rfl (by decide) (GF_wsX100 _) tyX10 tyX10_ok (List.mem_cons_of_mem _ gw_2_23) (List.mem_cons_of_mem _ gw_3_0) (List.mem_cons_of_mem _ gw_3_1) (fun j hj => by rcases (show j = 0 ∨ j = 1 ∨ j = 2 ∨ j = 3 ∨ j = 4 by omega) with rfl | rfl | rfl | rfl | rfl <;> rfl) dX11_init_152 e1 (by show cells + 1 ≤ h_x g - n0; omega) (by show slots + _ ≤ h_s g - s0; omega) (fun H w e2 => ?_)
      exact b_K_init_155 C hni N n0 s0 hn0   (cells + 1) (slots + 5) (nw h 12 0 5) th (some th) (some (h_x h)) _ _ ls w (by first | (rw [h_s_nw, hsl]; done) | (rw [h_s_nw, hsl]; omega)) (lv_sub hl [0] rfl) e2
    · refine lv_aload_n hx hb dX11_init_120 rfl (lv_at hl 0 rfl) ?_
      refine w_gR (r := some th) (ci := 12) (k := 13) C w rfl (by decide) (GF_wsX110 _) (by decide) rfl (List.mem_cons_of_mem _ gw_2_19) rfl dX11_init_121 e1 (fun v3 e3 => ?_)
      refine lv_iload_n hx hb dX11_init_124 rfl (lv_at hl 1 rfl) ?_
      have hm := mo_K_init_128 N (mo_K_init_115 N  n)  (nw h 4 0 5) th x1 v3 x1 (some (h_x h)) _ _ e3
      have hm1 := hm.1
      have hm2 := hm.2.1
      rw [h_x_nw] at hm1
      rw [h_s_nw] at hm2
      have hwx := wd_x w
      refine w_newO (ci := 3) C w rfl (by decide) (GF_wsX20 _) tyX2 tyX2_ok (List.mem_cons_of_mem _ gw_2_18) (List.mem_cons_of_mem _ gw_2_21) (List.mem_cons_of_mem _ gw_2_22) (fun j hj => by rcases (show j = 0 ∨ j = 1 ∨ j = 2 ∨ j = 3 ∨ j = 4 by omega) with rfl | rfl | rfl | rfl | rfl <;> rfl) dX11_init_125 e3 (by show cells + 1 ≤ h_x g - n0; omega) (by show slots + _ ≤ h_s g - s0; omega) (fun H w e4 => ?_)
      exact b_K_init_128 C hni N n0 s0 hn0 (mo_K_init_115 N  n) ih  (cells + 1) (slots + 5) (nw h 4 0 5) th x1 v3 x1 (some (h_x h)) _ _ ls w (by first | (rw [h_s_nw, hsl]; done) | (rw [h_s_nw, hsl]; omega)) (lv_sub hl [0, 1] rfl) e4
set_option maxRecDepth 20000 in
set_option maxHeartbeats 4000000 in
theorem b_K_init_110 {p : Program} {l : Launch} {e : Env} {s : State} {m : MethodId} {args : Array Value} {below : List Frame} {meth : Method} {c : Code} {D : va_G} {cy : cyT} {z : Nat} (C : MX p s m args meth c cX11_init 2 (none) RX11 (Cond.code yX11_init cX11_init 2 (none) :: GW)) (hni : meth.name = "<init>") (N : Nat) (n0 s0 : Nat) (hn0 : s.heap.size = n0) {r : Unit} {g : hS}  : ∀  (cells slots : Nat) (h : hS) (th : Nat) (y0 : Option Nat) (y1 : Option Nat) (H : Heap) (locs : List Loc) (ls : Array Slot), wd D cy z s cells h H locs → h_s h = s0 + slots → lv_has ls 2 [(0, .ref th)] → f_K_init_110 N   h th y0 y1 = some (r, g) → W p l e { frames := 3, cells := h_x g - n0, slots := h_s g - s0, locals := 85 } s m args below meth c H locs cells slots (MQ below (eQ D cy z (rV r) g) args s (h_x g - n0) (h_s g - s0) (fun q => z ≤ q)) (F0 m 110 ls [va_rf y1, va_rf y0]) := by
  obtain ⟨hx, hb, hr, hml, hown, hts, hlk⟩ := id C
  intro cells slots h th y0 y1 H locs ls w hsl hl hE
  have hcc : cells ≤ h_x g - n0 ∧ slots ≤ h_s g - s0 := by
    have q1 := mo_K_init_110 N  h th y0 y1 _ _ hE
    have q2 := wd_x w
    have q3 := q1.1
    have q4 := q1.2.1
    omega
  unfold f_K_init_110 at hE
  refine w_pRF (r := y0) (ci := 12) (k := 14) (v := y1) (Or.inr ⟨_, rfl⟩) C w rfl (by decide) (by unfold roK; omega) (GF_wsX110 _) tyX11 tyX11_ok nmX11 (by decide) rfl (List.mem_cons_of_mem _ gw_2_20) rfl rfl hni rfl (tyX11_ok 14 (by decide)) dX11_init_110 hE (fun h1 H locs w hsh1 e1 => ?_)
  have hsl := hsh1.2.2.2.trans hsl
  refine lv_iconst (v := 0) hx hb dX11_init_113 (by decide) ?_
  refine lv_istore_n (lv' := [(1, .int (0 : Int32)), (0, .ref th)]) hx hb dX11_init_114 rfl hl (by decide) rfl (fun ls hl => ?_)
  exact b_K_init_115 C hni N n0 s0 hn0  N _ _ h1 th (0 : Int32) _ _ ls w hsl (lv_sub hl [1, 0] rfl) e1
set_option maxRecDepth 20000 in
set_option maxHeartbeats 4000000 in
theorem b_K_init_102 {p : Program} {l : Launch} {e : Env} {s : State} {m : MethodId} {args : Array Value} {below : List Frame} {meth : Method} {c : Code} {D : va_G} {cy : cyT} {z : Nat} (C : MX p s m args meth c cX11_init 2 (none) RX11 (Cond.code yX11_init cX11_init 2 (none) :: GW)) (hni : meth.name = "<init>") (N : Nat) (n0 s0 : Nat) (hn0 : s.heap.size = n0) {r : Unit} {g : hS}  : ∀  (cells slots : Nat) (h : hS) (th : Nat) (y0 : Option Nat) (y1 : Option Nat) (H : Heap) (locs : List Loc) (ls : Array Slot), wd D cy z s cells h H locs → h_s h = s0 + slots → lv_has ls 2 [(0, .ref th)] → f_K_init_102 N   h th y0 y1 = some (r, g) → W p l e { frames := 3, cells := h_x g - n0, slots := h_s g - s0, locals := 85 } s m args below meth c H locs cells slots (MQ below (eQ D cy z (rV r) g) args s (h_x g - n0) (h_s g - s0) (fun q => z ≤ q)) (F0 m 102 ls [va_rf y1, va_rf y0]) := by
  obtain ⟨hx, hb, hr, hml, hown, hts, hlk⟩ := id C
  intro cells slots h th y0 y1 H locs ls w hsl hl hE
  have hcc : cells ≤ h_x g - n0 ∧ slots ≤ h_s g - s0 := by
    have q1 := mo_K_init_102 N  h th y0 y1 _ _ hE
    have q2 := wd_x w
    have q3 := q1.1
    have q4 := q1.2.1
    omega
  unfold f_K_init_102 at hE
  refine w_pRF (r := y0) (ci := 12) (k := 13) (v := y1) (Or.inr ⟨_, rfl⟩) C w rfl (by decide) (by unfold roK; omega) (GF_wsX110 _) tyX11 tyX11_ok nmX11 (by decide) rfl (List.mem_cons_of_mem _ gw_2_19) rfl rfl hni rfl (tyX11_ok 13 (by decide)) dX11_init_102 hE (fun h1 H locs w hsh1 e1 => ?_)
  have hsl := hsh1.2.2.2.trans hsl
  refine lv_aload_n hx hb dX11_init_105 rfl (lv_at hl 0 rfl) ?_
  refine lv_iconst (v := 4) hx hb dX11_init_106 (by decide) ?_
  have hm := mo_K_init_110 N   (nw h1 63 (4 : Int32).toNatClampNeg (4 : Int32).toNatClampNeg) th (some th) (some (h_x h1)) _ _ (nwA_some e1).2
  have hm1 := hm.1
  have hm2 := hm.2.1
  rw [h_x_nw] at hm1
  rw [h_s_nw] at hm2
  have hwx := wd_x w
  refine w_anw (kd := 63) (t0 := 7) C w (List.mem_cons_of_mem _ gw_2_18) (List.mem_of_getElem? (i := 1) rfl) rfl (by decide) dX11_init_107 e1 (by show cells + 1 ≤ h_x g - n0; omega) (by show slots + _ ≤ h_s g - s0; omega) (fun H w e2 => ?_)
  exact b_K_init_110 C hni N n0 s0 hn0   (cells + 1) (slots + (4 : Int32).toNatClampNeg) (nw h1 63 (4 : Int32).toNatClampNeg (4 : Int32).toNatClampNeg) th (some th) (some (h_x h1)) _ _ ls w (by first | (rw [h_s_nw, hsl]; done) | (rw [h_s_nw, hsl]; omega)) (lv_sub hl [0] rfl) e2
set_option maxRecDepth 20000 in
set_option maxHeartbeats 4000000 in
theorem b_K_init_94 {p : Program} {l : Launch} {e : Env} {s : State} {m : MethodId} {args : Array Value} {below : List Frame} {meth : Method} {c : Code} {D : va_G} {cy : cyT} {z : Nat} (C : MX p s m args meth c cX11_init 2 (none) RX11 (Cond.code yX11_init cX11_init 2 (none) :: GW)) (hni : meth.name = "<init>") (N : Nat) (n0 s0 : Nat) (hn0 : s.heap.size = n0) {r : Unit} {g : hS}  : ∀  (cells slots : Nat) (h : hS) (th : Nat) (y0 : Option Nat) (y1 : Option Nat) (H : Heap) (locs : List Loc) (ls : Array Slot), wd D cy z s cells h H locs → h_s h = s0 + slots → lv_has ls 2 [(0, .ref th)] → f_K_init_94 N   h th y0 y1 = some (r, g) → W p l e { frames := 3, cells := h_x g - n0, slots := h_s g - s0, locals := 85 } s m args below meth c H locs cells slots (MQ below (eQ D cy z (rV r) g) args s (h_x g - n0) (h_s g - s0) (fun q => z ≤ q)) (F0 m 94 ls [va_rf y1, va_rf y0]) := by
  obtain ⟨hx, hb, hr, hml, hown, hts, hlk⟩ := id C
  intro cells slots h th y0 y1 H locs ls w hsl hl hE
  have hcc : cells ≤ h_x g - n0 ∧ slots ≤ h_s g - s0 := by
    have q1 := mo_K_init_94 N  h th y0 y1 _ _ hE
    have q2 := wd_x w
    have q3 := q1.1
    have q4 := q1.2.1
    omega
  unfold f_K_init_94 at hE
  refine w_pRF (r := y0) (ci := 12) (k := 12) (v := y1) (Or.inr ⟨_, rfl⟩) C w rfl (by decide) (by unfold roK; omega) (GF_wsX110 _) tyX11 tyX11_ok nmX11 (by decide) rfl (List.mem_cons_of_mem _ gw_2_17) rfl rfl hni rfl (tyX11_ok 12 (by decide)) dX11_init_94 hE (fun h1 H locs w hsh1 e1 => ?_)
  have hsl := hsh1.2.2.2.trans hsl
  refine lv_aload_n hx hb dX11_init_97 rfl (lv_at hl 0 rfl) ?_
  refine lv_iconst (v := 4) hx hb dX11_init_98 (by decide) ?_
  have hm := mo_K_init_102 N   (nw h1 63 (4 : Int32).toNatClampNeg (4 : Int32).toNatClampNeg) th (some th) (some (h_x h1)) _ _ (nwA_some e1).2
  have hm1 := hm.1
  have hm2 := hm.2.1
  rw [h_x_nw] at hm1
  rw [h_s_nw] at hm2
  have hwx := wd_x w
  refine w_anw (kd := 63) (t0 := 7) C w (List.mem_cons_of_mem _ gw_2_18) (List.mem_of_getElem? (i := 1) rfl) rfl (by decide) dX11_init_99 e1 (by show cells + 1 ≤ h_x g - n0; omega) (by show slots + _ ≤ h_s g - s0; omega) (fun H w e2 => ?_)
  exact b_K_init_102 C hni N n0 s0 hn0   (cells + 1) (slots + (4 : Int32).toNatClampNeg) (nw h1 63 (4 : Int32).toNatClampNeg (4 : Int32).toNatClampNeg) th (some th) (some (h_x h1)) _ _ ls w (by first | (rw [h_s_nw, hsl]; done) | (rw [h_s_nw, hsl]; omega)) (lv_sub hl [0] rfl) e2
set_option maxRecDepth 20000 in
set_option maxHeartbeats 4000000 in
theorem b_K_init_86 {p : Program} {l : Launch} {e : Env} {s : State} {m : MethodId} {args : Array Value} {below : List Frame} {meth : Method} {c : Code} {D : va_G} {cy : cyT} {z : Nat} (C : MX p s m args meth c cX11_init 2 (none) RX11 (Cond.code yX11_init cX11_init 2 (none) :: GW)) (hni : meth.name = "<init>") (N : Nat) (n0 s0 : Nat) (hn0 : s.heap.size = n0) {r : Unit} {g : hS}  : ∀  (cells slots : Nat) (h : hS) (th : Nat) (y0 : Option Nat) (y1 : Option Nat) (H : Heap) (locs : List Loc) (ls : Array Slot), wd D cy z s cells h H locs → h_s h = s0 + slots → lv_has ls 2 [(0, .ref th)] → f_K_init_86 N   h th y0 y1 = some (r, g) → W p l e { frames := 3, cells := h_x g - n0, slots := h_s g - s0, locals := 85 } s m args below meth c H locs cells slots (MQ below (eQ D cy z (rV r) g) args s (h_x g - n0) (h_s g - s0) (fun q => z ≤ q)) (F0 m 86 ls [va_rf y1, va_rf y0]) := by
  obtain ⟨hx, hb, hr, hml, hown, hts, hlk⟩ := id C
  intro cells slots h th y0 y1 H locs ls w hsl hl hE
  have hcc : cells ≤ h_x g - n0 ∧ slots ≤ h_s g - s0 := by
    have q1 := mo_K_init_86 N  h th y0 y1 _ _ hE
    have q2 := wd_x w
    have q3 := q1.1
    have q4 := q1.2.1
    omega
  unfold f_K_init_86 at hE
  refine w_pRF (r := y0) (ci := 12) (k := 11) (v := y1) (Or.inr ⟨_, rfl⟩) C w rfl (by decide) (by unfold roK; omega) (GF_wsX110 _) tyX11 tyX11_ok nmX11 (by decide) rfl (List.mem_cons_of_mem _ gw_2_15) rfl rfl hni rfl (tyX11_ok 11 (by decide)) dX11_init_86 hE (fun h1 H locs w hsh1 e1 => ?_)
  have hsl := hsh1.2.2.2.trans hsl
  refine lv_aload_n hx hb dX11_init_89 rfl (lv_at hl 0 rfl) ?_
  refine lv_bipush (v := 41) hx hb dX11_init_90 (by decide) ?_
  have hm := mo_K_init_94 N   (nw h1 50 (41 : Int32).toNatClampNeg (41 : Int32).toNatClampNeg) th (some th) (some (h_x h1)) _ _ (nwA_some e1).2
  have hm1 := hm.1
  have hm2 := hm.2.1
  rw [h_x_nw] at hm1
  rw [h_s_nw] at hm2
  have hwx := wd_x w
  refine w_nwI C w (List.mem_cons_of_mem _ gw_2_16) dX11_init_92 e1 (by show cells + 1 ≤ h_x g - n0; omega) (by show slots + _ ≤ h_s g - s0; omega) (fun H w e2 => ?_)
  exact b_K_init_94 C hni N n0 s0 hn0   (cells + 1) (slots + (41 : Int32).toNatClampNeg) (nw h1 50 (41 : Int32).toNatClampNeg (41 : Int32).toNatClampNeg) th (some th) (some (h_x h1)) _ _ ls w (by first | (rw [h_s_nw, hsl]; done) | (rw [h_s_nw, hsl]; omega)) (lv_sub hl [0] rfl) e2
set_option maxRecDepth 20000 in
set_option maxHeartbeats 4000000 in
theorem b_K_init_69 {p : Program} {l : Launch} {e : Env} {s : State} {m : MethodId} {args : Array Value} {below : List Frame} {meth : Method} {c : Code} {D : va_G} {cy : cyT} {z : Nat} (C : MX p s m args meth c cX11_init 2 (none) RX11 (Cond.code yX11_init cX11_init 2 (none) :: GW)) (hni : meth.name = "<init>") (N : Nat) (n0 s0 : Nat) (hn0 : s.heap.size = n0) {r : Unit} {g : hS}  : ∀  (cells slots : Nat) (h : hS) (th : Nat) (y0 : Option Nat) (y1 : Option Nat) (H : Heap) (locs : List Loc) (ls : Array Slot), wd D cy z s cells h H locs → h_s h = s0 + slots → lv_has ls 2 [(0, .ref th)] → f_K_init_69 N   h th y0 y1 = some (r, g) → W p l e { frames := 3, cells := h_x g - n0, slots := h_s g - s0, locals := 85 } s m args below meth c H locs cells slots (MQ below (eQ D cy z (rV r) g) args s (h_x g - n0) (h_s g - s0) (fun q => z ≤ q)) (F0 m 69 ls [va_rf y1, va_rf y0]) := by
  obtain ⟨hx, hb, hr, hml, hown, hts, hlk⟩ := id C
  intro cells slots h th y0 y1 H locs ls w hsl hl hE
  have hcc : cells ≤ h_x g - n0 ∧ slots ≤ h_s g - s0 := by
    have q1 := mo_K_init_69 N  h th y0 y1 _ _ hE
    have q2 := wd_x w
    have q3 := q1.1
    have q4 := q1.2.1
    omega
  unfold f_K_init_69 at hE
  refine lv_dup hx hb dX11_init_69 (va_rf_cat _) ?_
  obtain ⟨q3, eq3, e1⟩ := nn_some hE
  subst eq3
  refine w_INV GW_good (b := q3) (n := 0) (F := 1) (Lc := 44) (av := []) (rest := [.ref q3, va_rf y0]) C w (fun r g hf => k_Teller_init l D cy z N h q3  r g hf) (List.mem_of_getElem? (i := 0) rfl) gw_5_15 gw_2_12 gw_5_16 rfl (by decide +kernel) ⟨Nat.le_of_ble_eq_true rfl, Nat.le_of_ble_eq_true rfl⟩ rfl hl.1 rfl (cat_le (Nat.le_of_ble_eq_true rfl)) dX11_init_70 (sh_Teller_init N h q3 ) ⟨hcc.1, hcc.2⟩ e1 (fun v1 h2 H locs w hsh2 e2 => ?_)
  have hsl := hsh2.2.2.2.trans hsl
  refine w_pRF (r := y0) (ci := 12) (k := 7) (v := some q3) (Or.inl ⟨_, rfl⟩) C w rfl (by decide) (by unfold roK; omega) (GF_wsX110 _) tyX11 tyX11_ok nmX11 (by decide) rfl (List.mem_cons_of_mem _ gw_2_13) rfl rfl hni rfl (tyX11_ok 7 (by decide)) dX11_init_73 e2 (fun h4 H locs w hsh4 e3 => ?_)
  have hsl := hsh4.2.2.2.trans hsl
  refine lv_aload_n hx hb dX11_init_76 rfl (lv_at hl 0 rfl) ?_
  refine lv_iconst (v := 0) hx hb dX11_init_77 (by decide) ?_
  refine w_pI (r := some th) (ci := 12) (k := 8) C w rfl (by decide) (by unfold roK; omega) (GF_wsX110 _) tyX11 tyX11_ok nmX11 (by decide) rfl (List.mem_cons_of_mem _ gw_2_14) rfl rfl (tyX11_ok 8 (by decide)) dX11_init_78 e3 (fun h5 H locs w hsh5 e4 => ?_)
  have hsl := hsh5.2.2.2.trans hsl
  refine lv_aload_n hx hb dX11_init_81 rfl (lv_at hl 0 rfl) ?_
  refine lv_bipush (v := 41) hx hb dX11_init_82 (by decide) ?_
  have hm := mo_K_init_86 N   (nw h5 51 (41 : Int32).toNatClampNeg (41 : Int32).toNatClampNeg) th (some th) (some (h_x h5)) _ _ (nwA_some e4).2
  have hm1 := hm.1
  have hm2 := hm.2.1
  rw [h_x_nw] at hm1
  rw [h_s_nw] at hm2
  have hwx := wd_x w
  refine w_nwJ C w (List.mem_cons_of_mem _ gw_1_6) dX11_init_84 e4 (by show cells + 1 ≤ h_x g - n0; omega) (by show slots + _ ≤ h_s g - s0; omega) (fun H w e5 => ?_)
  exact b_K_init_86 C hni N n0 s0 hn0   (cells + 1) (slots + (41 : Int32).toNatClampNeg) (nw h5 51 (41 : Int32).toNatClampNeg (41 : Int32).toNatClampNeg) th (some th) (some (h_x h5)) _ _ ls w (by first | (rw [h_s_nw, hsl]; done) | (rw [h_s_nw, hsl]; omega)) (lv_sub hl [0] rfl) e5
set_option maxRecDepth 20000 in
set_option maxHeartbeats 4000000 in
theorem b_K_init_62 {p : Program} {l : Launch} {e : Env} {s : State} {m : MethodId} {args : Array Value} {below : List Frame} {meth : Method} {c : Code} {D : va_G} {cy : cyT} {z : Nat} (C : MX p s m args meth c cX11_init 2 (none) RX11 (Cond.code yX11_init cX11_init 2 (none) :: GW)) (hni : meth.name = "<init>") (N : Nat) (n0 s0 : Nat) (hn0 : s.heap.size = n0) {r : Unit} {g : hS}  : ∀  (cells slots : Nat) (h : hS) (th : Nat) (y0 : Option Nat) (y1 : Option Nat) (H : Heap) (locs : List Loc) (ls : Array Slot), wd D cy z s cells h H locs → h_s h = s0 + slots → lv_has ls 2 [(0, .ref th)] → f_K_init_62 N   h th y0 y1 = some (r, g) → W p l e { frames := 3, cells := h_x g - n0, slots := h_s g - s0, locals := 85 } s m args below meth c H locs cells slots (MQ below (eQ D cy z (rV r) g) args s (h_x g - n0) (h_s g - s0) (fun q => z ≤ q)) (F0 m 62 ls [va_rf y1, va_rf y0]) := by
  obtain ⟨hx, hb, hr, hml, hown, hts, hlk⟩ := id C
  intro cells slots h th y0 y1 H locs ls w hsl hl hE
  have hcc : cells ≤ h_x g - n0 ∧ slots ≤ h_s g - s0 := by
    have q1 := mo_K_init_62 N  h th y0 y1 _ _ hE
    have q2 := wd_x w
    have q3 := q1.1
    have q4 := q1.2.1
    omega
  unfold f_K_init_62 at hE
  refine w_pRF (r := y0) (ci := 12) (k := 6) (v := y1) (Or.inl ⟨_, rfl⟩) C w rfl (by decide) (by unfold roK; omega) (GF_wsX110 _) tyX11 tyX11_ok nmX11 (by decide) rfl (List.mem_cons_of_mem _ gw_2_9) rfl rfl hni rfl (tyX11_ok 6 (by decide)) dX11_init_62 hE (fun h1 H locs w hsh1 e1 => ?_)
  have hsl := hsh1.2.2.2.trans hsl
  refine lv_aload_n hx hb dX11_init_65 rfl (lv_at hl 0 rfl) ?_
  have hm := mo_K_init_69 N   (nw h1 10 0 3) th (some th) (some (h_x h1)) _ _ e1
  have hm1 := hm.1
  have hm2 := hm.2.1
  rw [h_x_nw] at hm1
  rw [h_s_nw] at hm2
  have hwx := wd_x w
  refine w_newO (ci := 9) C w rfl (by decide) (GF_wsX80 _) tyX8 tyX8_ok (List.mem_cons_of_mem _ gw_2_10) (List.mem_cons_of_mem _ gw_2_11) (List.mem_cons_of_mem _ gw_2_12) (fun j hj => by rcases (show j = 0 ∨ j = 1 ∨ j = 2 by omega) with rfl | rfl | rfl <;> rfl) dX11_init_66 e1 (by show cells + 1 ≤ h_x g - n0; omega) (by show slots + _ ≤ h_s g - s0; omega) (fun H w e2 => ?_)
  exact b_K_init_69 C hni N n0 s0 hn0   (cells + 1) (slots + 3) (nw h1 10 0 3) th (some th) (some (h_x h1)) _ _ ls w (by first | (rw [h_s_nw, hsl]; done) | (rw [h_s_nw, hsl]; omega)) (lv_sub hl [0] rfl) e2
set_option maxRecDepth 20000 in
set_option maxHeartbeats 4000000 in
theorem b_K_init_58 {p : Program} {l : Launch} {e : Env} {s : State} {m : MethodId} {args : Array Value} {below : List Frame} {meth : Method} {c : Code} {D : va_G} {cy : cyT} {z : Nat} (C : MX p s m args meth c cX11_init 2 (none) RX11 (Cond.code yX11_init cX11_init 2 (none) :: GW)) (hni : meth.name = "<init>") (N : Nat) (n0 s0 : Nat) (hn0 : s.heap.size = n0) {r : Unit} {g : hS}  : ∀  (cells slots : Nat) (h : hS) (th : Nat) (y0 : Option Nat) (y1 : Option Nat) (H : Heap) (locs : List Loc) (ls : Array Slot), wd D cy z s cells h H locs → h_s h = s0 + slots → lv_has ls 2 [(0, .ref th)] → f_K_init_58 N   h th y0 y1 = some (r, g) → W p l e { frames := 3, cells := h_x g - n0, slots := h_s g - s0, locals := 85 } s m args below meth c H locs cells slots (MQ below (eQ D cy z (rV r) g) args s (h_x g - n0) (h_s g - s0) (fun q => z ≤ q)) (F0 m 58 ls [va_rf y1, va_rf y0]) := by
  obtain ⟨hx, hb, hr, hml, hown, hts, hlk⟩ := id C
  intro cells slots h th y0 y1 H locs ls w hsl hl hE
  have hcc : cells ≤ h_x g - n0 ∧ slots ≤ h_s g - s0 := by
    have q1 := mo_K_init_58 N  h th y0 y1 _ _ hE
    have q2 := wd_x w
    have q3 := q1.1
    have q4 := q1.2.1
    omega
  unfold f_K_init_58 at hE
  refine lv_dup hx hb dX11_init_58 (va_rf_cat _) ?_
  obtain ⟨q3, eq3, e1⟩ := nn_some hE
  subst eq3
  refine w_IAV GW_good (b := q3) (n := 0) (F := 2) (Lc := 64) (av := []) (rest := [.ref q3, va_rf y0]) C w (fun r g hf => k_Trail_init l D cy z N h q3  r g hf) gw_5_0 gw_5_1 gw_2_8 gw_5_2 rfl (by decide +kernel) ⟨Nat.le_of_ble_eq_true rfl, Nat.le_of_ble_eq_true rfl⟩ rfl hl.1 rfl (cat_le (Nat.le_of_ble_eq_true rfl)) dX11_init_59 (mo_Trail_init N h q3 ) (fun v1 h2 q1 q2 => by have u1 := (mo_Trail_init N h q3 ) _ _ q1; have u2 := mo_K_init_62 N   h2 th y0 (some q3) _ _ q2; have u3 := wd_x w; have u4 := u1.1; have u5 := u1.2.1; have u6 := u2.1; have u7 := u2.2.1; show cells + _ ≤ h_x g - n0 ∧ slots + _ ≤ h_s g - s0; omega) e1 (fun v1 h2 H locs w hsh2 e2 => ?_)
  exact b_K_init_62 C hni N n0 s0 hn0   _ _ h2 th y0 (some q3) _ _ ls w (by have u5 := hsh2.2.1; have u8 := hsl; omega) (lv_sub hl [0] rfl) e2
set_option maxRecDepth 20000 in
set_option maxHeartbeats 4000000 in
theorem b_K_init_51 {p : Program} {l : Launch} {e : Env} {s : State} {m : MethodId} {args : Array Value} {below : List Frame} {meth : Method} {c : Code} {D : va_G} {cy : cyT} {z : Nat} (C : MX p s m args meth c cX11_init 2 (none) RX11 (Cond.code yX11_init cX11_init 2 (none) :: GW)) (hni : meth.name = "<init>") (N : Nat) (n0 s0 : Nat) (hn0 : s.heap.size = n0) {r : Unit} {g : hS}  : ∀  (cells slots : Nat) (h : hS) (th : Nat) (y0 : Option Nat) (y1 : Option Nat) (H : Heap) (locs : List Loc) (ls : Array Slot), wd D cy z s cells h H locs → h_s h = s0 + slots → lv_has ls 2 [(0, .ref th)] → f_K_init_51 N   h th y0 y1 = some (r, g) → W p l e { frames := 3, cells := h_x g - n0, slots := h_s g - s0, locals := 85 } s m args below meth c H locs cells slots (MQ below (eQ D cy z (rV r) g) args s (h_x g - n0) (h_s g - s0) (fun q => z ≤ q)) (F0 m 51 ls [va_rf y1, va_rf y0]) := by
  obtain ⟨hx, hb, hr, hml, hown, hts, hlk⟩ := id C
  intro cells slots h th y0 y1 H locs ls w hsl hl hE
  have hcc : cells ≤ h_x g - n0 ∧ slots ≤ h_s g - s0 := by
    have q1 := mo_K_init_51 N  h th y0 y1 _ _ hE
    have q2 := wd_x w
    have q3 := q1.1
    have q4 := q1.2.1
    omega
  unfold f_K_init_51 at hE
  refine w_pRF (r := y0) (ci := 12) (k := 5) (v := y1) (Or.inl ⟨_, rfl⟩) C w rfl (by decide) (by unfold roK; omega) (GF_wsX110 _) tyX11 tyX11_ok nmX11 (by decide) rfl (List.mem_cons_of_mem _ gw_2_5) rfl rfl hni rfl (tyX11_ok 5 (by decide)) dX11_init_51 hE (fun h1 H locs w hsh1 e1 => ?_)
  have hsl := hsh1.2.2.2.trans hsl
  refine lv_aload_n hx hb dX11_init_54 rfl (lv_at hl 0 rfl) ?_
  have hm := mo_K_init_58 N   (nw h1 11 0 3) th (some th) (some (h_x h1)) _ _ e1
  have hm1 := hm.1
  have hm2 := hm.2.1
  rw [h_x_nw] at hm1
  rw [h_s_nw] at hm2
  have hwx := wd_x w
  refine w_newO (ci := 10) C w rfl (by decide) (GF_wsX90 _) tyX9 tyX9_ok (List.mem_cons_of_mem _ gw_2_6) (List.mem_cons_of_mem _ gw_2_7) (List.mem_cons_of_mem _ gw_2_8) (fun j hj => by rcases (show j = 0 ∨ j = 1 ∨ j = 2 by omega) with rfl | rfl | rfl <;> rfl) dX11_init_55 e1 (by show cells + 1 ≤ h_x g - n0; omega) (by show slots + _ ≤ h_s g - s0; omega) (fun H w e2 => ?_)
  exact b_K_init_58 C hni N n0 s0 hn0   (cells + 1) (slots + 3) (nw h1 11 0 3) th (some th) (some (h_x h1)) _ _ ls w (by first | (rw [h_s_nw, hsl]; done) | (rw [h_s_nw, hsl]; omega)) (lv_sub hl [0] rfl) e2
set_option maxRecDepth 20000 in
set_option maxHeartbeats 4000000 in
theorem b_K_init_47 {p : Program} {l : Launch} {e : Env} {s : State} {m : MethodId} {args : Array Value} {below : List Frame} {meth : Method} {c : Code} {D : va_G} {cy : cyT} {z : Nat} (C : MX p s m args meth c cX11_init 2 (none) RX11 (Cond.code yX11_init cX11_init 2 (none) :: GW)) (hni : meth.name = "<init>") (N : Nat) (n0 s0 : Nat) (hn0 : s.heap.size = n0) {r : Unit} {g : hS}  : ∀  (cells slots : Nat) (h : hS) (th : Nat) (y0 : Option Nat) (y1 : Option Nat) (H : Heap) (locs : List Loc) (ls : Array Slot), wd D cy z s cells h H locs → h_s h = s0 + slots → lv_has ls 2 [(0, .ref th)] → f_K_init_47 N   h th y0 y1 = some (r, g) → W p l e { frames := 3, cells := h_x g - n0, slots := h_s g - s0, locals := 85 } s m args below meth c H locs cells slots (MQ below (eQ D cy z (rV r) g) args s (h_x g - n0) (h_s g - s0) (fun q => z ≤ q)) (F0 m 47 ls [va_rf y1, va_rf y0]) := by
  obtain ⟨hx, hb, hr, hml, hown, hts, hlk⟩ := id C
  intro cells slots h th y0 y1 H locs ls w hsl hl hE
  have hcc : cells ≤ h_x g - n0 ∧ slots ≤ h_s g - s0 := by
    have q1 := mo_K_init_47 N  h th y0 y1 _ _ hE
    have q2 := wd_x w
    have q3 := q1.1
    have q4 := q1.2.1
    omega
  unfold f_K_init_47 at hE
  refine lv_dup hx hb dX11_init_47 (va_rf_cat _) ?_
  obtain ⟨q3, eq3, e1⟩ := nn_some hE
  subst eq3
  refine w_IAV GW_good (b := q3) (n := 0) (F := 1) (Lc := 44) (av := []) (rest := [.ref q3, va_rf y0]) C w (fun r g hf => k_Shelf_init l D cy z N h q3  r g hf) gw_4_17 gw_4_18 gw_2_4 gw_4_19 rfl (by decide +kernel) ⟨Nat.le_of_ble_eq_true rfl, Nat.le_of_ble_eq_true rfl⟩ rfl hl.1 rfl (cat_le (Nat.le_of_ble_eq_true rfl)) dX11_init_48 (mo_Shelf_init N h q3 ) (fun v1 h2 q1 q2 => by have u1 := (mo_Shelf_init N h q3 ) _ _ q1; have u2 := mo_K_init_51 N   h2 th y0 (some q3) _ _ q2; have u3 := wd_x w; have u4 := u1.1; have u5 := u1.2.1; have u6 := u2.1; have u7 := u2.2.1; show cells + _ ≤ h_x g - n0 ∧ slots + _ ≤ h_s g - s0; omega) e1 (fun v1 h2 H locs w hsh2 e2 => ?_)
  exact b_K_init_51 C hni N n0 s0 hn0   _ _ h2 th y0 (some q3) _ _ ls w (by have u5 := hsh2.2.1; have u8 := hsl; omega) (lv_sub hl [0] rfl) e2
set_option maxRecDepth 20000 in
set_option maxHeartbeats 4000000 in
theorem b_K_init_40 {p : Program} {l : Launch} {e : Env} {s : State} {m : MethodId} {args : Array Value} {below : List Frame} {meth : Method} {c : Code} {D : va_G} {cy : cyT} {z : Nat} (C : MX p s m args meth c cX11_init 2 (none) RX11 (Cond.code yX11_init cX11_init 2 (none) :: GW)) (hni : meth.name = "<init>") (N : Nat) (n0 s0 : Nat) (hn0 : s.heap.size = n0) {r : Unit} {g : hS}  : ∀  (cells slots : Nat) (h : hS) (th : Nat) (y0 : Option Nat) (y1 : Option Nat) (H : Heap) (locs : List Loc) (ls : Array Slot), wd D cy z s cells h H locs → h_s h = s0 + slots → lv_has ls 2 [(0, .ref th)] → f_K_init_40 N   h th y0 y1 = some (r, g) → W p l e { frames := 3, cells := h_x g - n0, slots := h_s g - s0, locals := 85 } s m args below meth c H locs cells slots (MQ below (eQ D cy z (rV r) g) args s (h_x g - n0) (h_s g - s0) (fun q => z ≤ q)) (F0 m 40 ls [va_rf y1, va_rf y0]) := by
  obtain ⟨hx, hb, hr, hml, hown, hts, hlk⟩ := id C
  intro cells slots h th y0 y1 H locs ls w hsl hl hE
  have hcc : cells ≤ h_x g - n0 ∧ slots ≤ h_s g - s0 := by
    have q1 := mo_K_init_40 N  h th y0 y1 _ _ hE
    have q2 := wd_x w
    have q3 := q1.1
    have q4 := q1.2.1
    omega
  unfold f_K_init_40 at hE
  refine w_pRF (r := y0) (ci := 12) (k := 4) (v := y1) (Or.inl ⟨_, rfl⟩) C w rfl (by decide) (by unfold roK; omega) (GF_wsX110 _) tyX11 tyX11_ok nmX11 (by decide) rfl (List.mem_cons_of_mem _ gw_2_1) rfl rfl hni rfl (tyX11_ok 4 (by decide)) dX11_init_40 hE (fun h1 H locs w hsh1 e1 => ?_)
  have hsl := hsh1.2.2.2.trans hsl
  refine lv_aload_n hx hb dX11_init_43 rfl (lv_at hl 0 rfl) ?_
  have hm := mo_K_init_47 N   (nw h1 7 0 3) th (some th) (some (h_x h1)) _ _ e1
  have hm1 := hm.1
  have hm2 := hm.2.1
  rw [h_x_nw] at hm1
  rw [h_s_nw] at hm2
  have hwx := wd_x w
  refine w_newO (ci := 6) C w rfl (by decide) (GF_wsX50 _) tyX5 tyX5_ok (List.mem_cons_of_mem _ gw_2_2) (List.mem_cons_of_mem _ gw_2_3) (List.mem_cons_of_mem _ gw_2_4) (fun j hj => by rcases (show j = 0 ∨ j = 1 ∨ j = 2 by omega) with rfl | rfl | rfl <;> rfl) dX11_init_44 e1 (by show cells + 1 ≤ h_x g - n0; omega) (by show slots + _ ≤ h_s g - s0; omega) (fun H w e2 => ?_)
  exact b_K_init_47 C hni N n0 s0 hn0   (cells + 1) (slots + 3) (nw h1 7 0 3) th (some th) (some (h_x h1)) _ _ ls w (by first | (rw [h_s_nw, hsl]; done) | (rw [h_s_nw, hsl]; omega)) (lv_sub hl [0] rfl) e2
set_option maxRecDepth 20000 in
set_option maxHeartbeats 4000000 in
theorem b_K_init_36 {p : Program} {l : Launch} {e : Env} {s : State} {m : MethodId} {args : Array Value} {below : List Frame} {meth : Method} {c : Code} {D : va_G} {cy : cyT} {z : Nat} (C : MX p s m args meth c cX11_init 2 (none) RX11 (Cond.code yX11_init cX11_init 2 (none) :: GW)) (hni : meth.name = "<init>") (N : Nat) (n0 s0 : Nat) (hn0 : s.heap.size = n0) {r : Unit} {g : hS}  : ∀  (cells slots : Nat) (h : hS) (th : Nat) (y0 : Option Nat) (y1 : Option Nat) (H : Heap) (locs : List Loc) (ls : Array Slot), wd D cy z s cells h H locs → h_s h = s0 + slots → lv_has ls 2 [(0, .ref th)] → f_K_init_36 N   h th y0 y1 = some (r, g) → W p l e { frames := 3, cells := h_x g - n0, slots := h_s g - s0, locals := 85 } s m args below meth c H locs cells slots (MQ below (eQ D cy z (rV r) g) args s (h_x g - n0) (h_s g - s0) (fun q => z ≤ q)) (F0 m 36 ls [va_rf y1, va_rf y0]) := by
  obtain ⟨hx, hb, hr, hml, hown, hts, hlk⟩ := id C
  intro cells slots h th y0 y1 H locs ls w hsl hl hE
  have hcc : cells ≤ h_x g - n0 ∧ slots ≤ h_s g - s0 := by
    have q1 := mo_K_init_36 N  h th y0 y1 _ _ hE
    have q2 := wd_x w
    have q3 := q1.1
    have q4 := q1.2.1
    omega
  unfold f_K_init_36 at hE
  refine lv_dup hx hb dX11_init_36 (va_rf_cat _) ?_
  obtain ⟨q3, eq3, e1⟩ := nn_some hE
  subst eq3
  refine w_IAV GW_good (b := q3) (n := 0) (F := 2) (Lc := 64) (av := []) (rest := [.ref q3, va_rf y0]) C w (fun r g hf => k_Bench_init l D cy z N h q3  r g hf) gw_3_22 gw_3_23 gw_2_0 gw_4_0 rfl (by decide +kernel) ⟨Nat.le_of_ble_eq_true rfl, Nat.le_of_ble_eq_true rfl⟩ rfl hl.1 rfl (cat_le (Nat.le_of_ble_eq_true rfl)) dX11_init_37 (mo_Bench_init N h q3 ) (fun v1 h2 q1 q2 => by have u1 := (mo_Bench_init N h q3 ) _ _ q1; have u2 := mo_K_init_40 N   h2 th y0 (some q3) _ _ q2; have u3 := wd_x w; have u4 := u1.1; have u5 := u1.2.1; have u6 := u2.1; have u7 := u2.2.1; show cells + _ ≤ h_x g - n0 ∧ slots + _ ≤ h_s g - s0; omega) e1 (fun v1 h2 H locs w hsh2 e2 => ?_)
  exact b_K_init_40 C hni N n0 s0 hn0   _ _ h2 th y0 (some q3) _ _ ls w (by have u5 := hsh2.2.1; have u8 := hsl; omega) (lv_sub hl [0] rfl) e2
set_option maxRecDepth 20000 in
set_option maxHeartbeats 4000000 in
theorem b_K_init_29 {p : Program} {l : Launch} {e : Env} {s : State} {m : MethodId} {args : Array Value} {below : List Frame} {meth : Method} {c : Code} {D : va_G} {cy : cyT} {z : Nat} (C : MX p s m args meth c cX11_init 2 (none) RX11 (Cond.code yX11_init cX11_init 2 (none) :: GW)) (hni : meth.name = "<init>") (N : Nat) (n0 s0 : Nat) (hn0 : s.heap.size = n0) {r : Unit} {g : hS}  : ∀  (cells slots : Nat) (h : hS) (th : Nat) (y0 : Option Nat) (y1 : Option Nat) (H : Heap) (locs : List Loc) (ls : Array Slot), wd D cy z s cells h H locs → h_s h = s0 + slots → lv_has ls 2 [(0, .ref th)] → f_K_init_29 N   h th y0 y1 = some (r, g) → W p l e { frames := 3, cells := h_x g - n0, slots := h_s g - s0, locals := 85 } s m args below meth c H locs cells slots (MQ below (eQ D cy z (rV r) g) args s (h_x g - n0) (h_s g - s0) (fun q => z ≤ q)) (F0 m 29 ls [va_rf y1, va_rf y0]) := by
  obtain ⟨hx, hb, hr, hml, hown, hts, hlk⟩ := id C
  intro cells slots h th y0 y1 H locs ls w hsl hl hE
  have hcc : cells ≤ h_x g - n0 ∧ slots ≤ h_s g - s0 := by
    have q1 := mo_K_init_29 N  h th y0 y1 _ _ hE
    have q2 := wd_x w
    have q3 := q1.1
    have q4 := q1.2.1
    omega
  unfold f_K_init_29 at hE
  refine w_pRF (r := y0) (ci := 12) (k := 3) (v := y1) (Or.inl ⟨_, rfl⟩) C w rfl (by decide) (by unfold roK; omega) (GF_wsX110 _) tyX11 tyX11_ok nmX11 (by decide) rfl (List.mem_cons_of_mem _ gw_1_21) rfl rfl hni rfl (tyX11_ok 3 (by decide)) dX11_init_29 hE (fun h1 H locs w hsh1 e1 => ?_)
  have hsl := hsh1.2.2.2.trans hsl
  refine lv_aload_n hx hb dX11_init_32 rfl (lv_at hl 0 rfl) ?_
  have hm := mo_K_init_36 N   (nw h1 2 0 5) th (some th) (some (h_x h1)) _ _ e1
  have hm1 := hm.1
  have hm2 := hm.2.1
  rw [h_x_nw] at hm1
  rw [h_s_nw] at hm2
  have hwx := wd_x w
  refine w_newO (ci := 1) C w rfl (by decide) (GF_wsX00 _) tyX0 tyX0_ok (List.mem_cons_of_mem _ gw_1_22) (List.mem_cons_of_mem _ gw_1_23) (List.mem_cons_of_mem _ gw_2_0) (fun j hj => by rcases (show j = 0 ∨ j = 1 ∨ j = 2 ∨ j = 3 ∨ j = 4 by omega) with rfl | rfl | rfl | rfl | rfl <;> rfl) dX11_init_33 e1 (by show cells + 1 ≤ h_x g - n0; omega) (by show slots + _ ≤ h_s g - s0; omega) (fun H w e2 => ?_)
  exact b_K_init_36 C hni N n0 s0 hn0   (cells + 1) (slots + 5) (nw h1 2 0 5) th (some th) (some (h_x h1)) _ _ ls w (by first | (rw [h_s_nw, hsl]; done) | (rw [h_s_nw, hsl]; omega)) (lv_sub hl [0] rfl) e2
set_option maxRecDepth 20000 in
set_option maxHeartbeats 4000000 in
theorem b_K_init_25 {p : Program} {l : Launch} {e : Env} {s : State} {m : MethodId} {args : Array Value} {below : List Frame} {meth : Method} {c : Code} {D : va_G} {cy : cyT} {z : Nat} (C : MX p s m args meth c cX11_init 2 (none) RX11 (Cond.code yX11_init cX11_init 2 (none) :: GW)) (hni : meth.name = "<init>") (N : Nat) (n0 s0 : Nat) (hn0 : s.heap.size = n0) {r : Unit} {g : hS}  : ∀  (cells slots : Nat) (h : hS) (th : Nat) (y0 : Option Nat) (y1 : Option Nat) (H : Heap) (locs : List Loc) (ls : Array Slot), wd D cy z s cells h H locs → h_s h = s0 + slots → lv_has ls 2 [(0, .ref th)] → f_K_init_25 N   h th y0 y1 = some (r, g) → W p l e { frames := 3, cells := h_x g - n0, slots := h_s g - s0, locals := 85 } s m args below meth c H locs cells slots (MQ below (eQ D cy z (rV r) g) args s (h_x g - n0) (h_s g - s0) (fun q => z ≤ q)) (F0 m 25 ls [va_rf y1, va_rf y0]) := by
  obtain ⟨hx, hb, hr, hml, hown, hts, hlk⟩ := id C
  intro cells slots h th y0 y1 H locs ls w hsl hl hE
  have hcc : cells ≤ h_x g - n0 ∧ slots ≤ h_s g - s0 := by
    have q1 := mo_K_init_25 N  h th y0 y1 _ _ hE
    have q2 := wd_x w
    have q3 := q1.1
    have q4 := q1.2.1
    omega
  unfold f_K_init_25 at hE
  refine lv_dup hx hb dX11_init_25 (va_rf_cat _) ?_
  obtain ⟨q3, eq3, e1⟩ := nn_some hE
  subst eq3
  refine w_IAV GW_good (b := q3) (n := 0) (F := 1) (Lc := 44) (av := []) (rest := [.ref q3, va_rf y0]) C w (fun r g hf => k_Reader_init l D cy z N h q3  r g hf) gw_3_13 gw_3_14 gw_1_20 gw_3_15 rfl (by decide +kernel) ⟨Nat.le_of_ble_eq_true rfl, Nat.le_of_ble_eq_true rfl⟩ rfl hl.1 rfl (cat_le (Nat.le_of_ble_eq_true rfl)) dX11_init_26 (mo_Reader_init N h q3 ) (fun v1 h2 q1 q2 => by have u1 := (mo_Reader_init N h q3 ) _ _ q1; have u2 := mo_K_init_29 N   h2 th y0 (some q3) _ _ q2; have u3 := wd_x w; have u4 := u1.1; have u5 := u1.2.1; have u6 := u2.1; have u7 := u2.2.1; show cells + _ ≤ h_x g - n0 ∧ slots + _ ≤ h_s g - s0; omega) e1 (fun v1 h2 H locs w hsh2 e2 => ?_)
  exact b_K_init_29 C hni N n0 s0 hn0   _ _ h2 th y0 (some q3) _ _ ls w (by have u5 := hsh2.2.1; have u8 := hsl; omega) (lv_sub hl [0] rfl) e2
set_option maxRecDepth 20000 in
set_option maxHeartbeats 4000000 in
theorem b_K_init_8 {p : Program} {l : Launch} {e : Env} {s : State} {m : MethodId} {args : Array Value} {below : List Frame} {meth : Method} {c : Code} {D : va_G} {cy : cyT} {z : Nat} (C : MX p s m args meth c cX11_init 2 (none) RX11 (Cond.code yX11_init cX11_init 2 (none) :: GW)) (hni : meth.name = "<init>") (N : Nat) (n0 s0 : Nat) (hn0 : s.heap.size = n0) {r : Unit} {g : hS}  : ∀  (cells slots : Nat) (h : hS) (th : Nat) (y0 : Option Nat) (y1 : Option Nat) (H : Heap) (locs : List Loc) (ls : Array Slot), wd D cy z s cells h H locs → h_s h = s0 + slots → lv_has ls 2 [(0, .ref th)] → f_K_init_8 N   h th y0 y1 = some (r, g) → W p l e { frames := 3, cells := h_x g - n0, slots := h_s g - s0, locals := 85 } s m args below meth c H locs cells slots (MQ below (eQ D cy z (rV r) g) args s (h_x g - n0) (h_s g - s0) (fun q => z ≤ q)) (F0 m 8 ls [va_rf y1, va_rf y0]) := by
  obtain ⟨hx, hb, hr, hml, hown, hts, hlk⟩ := id C
  intro cells slots h th y0 y1 H locs ls w hsl hl hE
  have hcc : cells ≤ h_x g - n0 ∧ slots ≤ h_s g - s0 := by
    have q1 := mo_K_init_8 N  h th y0 y1 _ _ hE
    have q2 := wd_x w
    have q3 := q1.1
    have q4 := q1.2.1
    omega
  unfold f_K_init_8 at hE
  refine w_pR (r := y0) (ci := 12) (k := 0) (v := y1) (Or.inr ⟨_, rfl⟩) C w rfl (by decide) (by unfold roK; omega) (GF_wsX110 _) tyX11 tyX11_ok nmX11 (by decide) rfl (List.mem_cons_of_mem _ gw_1_15) rfl rfl (tyX11_ok 0 (by decide)) dX11_init_8 hE (fun h1 H locs w hsh1 e1 => ?_)
  have hsl := hsh1.2.2.2.trans hsl
  refine lv_aload_n hx hb dX11_init_11 rfl (lv_at hl 0 rfl) ?_
  refine lv_iconst (v := 0) hx hb dX11_init_12 (by decide) ?_
  refine w_pI (r := some th) (ci := 12) (k := 1) C w rfl (by decide) (by unfold roK; omega) (GF_wsX110 _) tyX11 tyX11_ok nmX11 (by decide) rfl (List.mem_cons_of_mem _ gw_1_16) rfl rfl (tyX11_ok 1 (by decide)) dX11_init_13 e1 (fun h2 H locs w hsh2 e2 => ?_)
  have hsl := hsh2.2.2.2.trans hsl
  refine lv_aload_n hx hb dX11_init_16 rfl (lv_at hl 0 rfl) ?_
  refine lv_iconst (v := -1) hx hb dX11_init_17 (by decide) ?_
  refine w_pI (r := some th) (ci := 12) (k := 2) C w rfl (by decide) (by unfold roK; omega) (GF_wsX110 _) tyX11 tyX11_ok nmX11 (by decide) rfl (List.mem_cons_of_mem _ gw_1_17) rfl rfl (tyX11_ok 2 (by decide)) dX11_init_18 e2 (fun h3 H locs w hsh3 e3 => ?_)
  have hsl := hsh3.2.2.2.trans hsl
  refine lv_aload_n hx hb dX11_init_21 rfl (lv_at hl 0 rfl) ?_
  have hm := mo_K_init_25 N   (nw h3 6 0 13) th (some th) (some (h_x h3)) _ _ e3
  have hm1 := hm.1
  have hm2 := hm.2.1
  rw [h_x_nw] at hm1
  rw [h_s_nw] at hm2
  have hwx := wd_x w
  refine w_newO (ci := 5) C w rfl (by decide) (GF_wsX40 _) tyX4 tyX4_ok (List.mem_cons_of_mem _ gw_1_18) (List.mem_cons_of_mem _ gw_1_19) (List.mem_cons_of_mem _ gw_1_20) (fun j hj => by rcases (show j = 0 ∨ j = 1 ∨ j = 2 ∨ j = 3 ∨ j = 4 ∨ j = 5 ∨ j = 6 ∨ j = 7 ∨ j = 8 ∨ j = 9 ∨ j = 10 ∨ j = 11 ∨ j = 12 by omega) with rfl | rfl | rfl | rfl | rfl | rfl | rfl | rfl | rfl | rfl | rfl | rfl | rfl <;> rfl) dX11_init_22 e3 (by show cells + 1 ≤ h_x g - n0; omega) (by show slots + _ ≤ h_s g - s0; omega) (fun H w e4 => ?_)
  exact b_K_init_25 C hni N n0 s0 hn0   (cells + 1) (slots + 13) (nw h3 6 0 13) th (some th) (some (h_x h3)) _ _ ls w (by first | (rw [h_s_nw, hsl]; done) | (rw [h_s_nw, hsl]; omega)) (lv_sub hl [0] rfl) e4
set_option maxRecDepth 20000 in
set_option maxHeartbeats 4000000 in
theorem k_K_init (l : Launch) (D : va_G) (cy : cyT) (z : Nat) (N : Nat) (h : hS) (th : Nat) (r : Unit) (g : hS) (hE : f_K_init N h th = some (r, g)) : ct l yX11_init (Cond.code yX11_init cX11_init 2 (none) :: GW) { frames := 3, cells := h_x g - h_x h, slots := h_s g - h_s h, locals := 85 } D cy z h [.ref th] (rV r) g := by
  refine Met.ofW (cc := cX11_init) (maxL := 2) (ret := none) (by decide) rfl ?_
  intro p e s m args below meth c s₁ B hml hv
  obtain ⟨rfl, hw⟩ := hv
  have hni : meth.name = "<init>" := (name_of_methodNamed B.named B.method).1
  have C : MX p s m ([.ref th] : List Value).toArray meth c cX11_init 2 (none) RX11 (Cond.code yX11_init cX11_init 2 (none) :: GW) := ⟨B.exec, B.bytes, B.returns, hml, findClass_of_methodNamed B.named, atoms_spec (ws := Cond.code yX11_init cX11_init 2 (none) :: GW) B.pre, B.notSynchronized⟩
  obtain ⟨hx, hb, hr, hml, hown, hts, hlk⟩ := id C
  have w := wd_of hw
  have hsl : h_s h = h_s h + 0 := rfl
  have hn0 : s.heap.size = h_x h := (wd_x w).1
  obtain ⟨ls, hen, hl⟩ : ∃ ls : Array Slot, entryFrame m ([.ref th] : List Value).toArray 2 = F0 m 0 ls [] ∧ lv_has ls 2 [(0, .ref th)] := by
    exact ⟨_, lg_entry_eq _ _ _, lv_entry _ (Nat.le_of_ble_eq_true rfl)⟩
  rw [hen]
  have hcc : 0 ≤ h_x g - h_x h ∧ 0 ≤ h_s g - h_s h := ⟨Nat.zero_le _, Nat.zero_le _⟩
  unfold f_K_init at hE
  refine lv_aload_n hx hb dX11_init_0 rfl (lv_at hl 0 rfl) ?_
  refine w_oinit (a := th) C hl.1 (List.mem_cons_of_mem _ gw_1_11) (List.mem_cons_of_mem _ gw_1_12) (List.mem_cons_of_mem _ gw_1_13) (Nat.le_of_ble_eq_true rfl) (Nat.le_of_ble_eq_true rfl) dX11_init_1 ?_
  refine lv_aload_n hx hb dX11_init_4 rfl (lv_at hl 0 rfl) ?_
  refine lv_iconst (v := 0) hx hb dX11_init_5 (by decide) ?_
  have hm := mo_K_init_8 N   (nw h 52 (0 : Int32).toNatClampNeg (0 : Int32).toNatClampNeg) th (some th) (some (h_x h)) _ _ (nwA_some hE).2
  have hm1 := hm.1
  have hm2 := hm.2.1
  rw [h_x_nw] at hm1
  rw [h_s_nw] at hm2
  have hwx := wd_x w
  refine w_nwB C w (List.mem_cons_of_mem _ gw_1_14) dX11_init_6 hE (by show 0 + 1 ≤ h_x g - (h_x h); omega) (by show 0 + _ ≤ h_s g - (h_s h); omega) (fun H w e1 => ?_)
  exact b_K_init_8 C hni N (h_x h) (h_s h) hn0   (0 + 1) (0 + (0 : Int32).toNatClampNeg) (nw h 52 (0 : Int32).toNatClampNeg (0 : Int32).toNatClampNeg) th (some th) (some (h_x h)) _ _ ls w (by first | (rw [h_s_nw, hsl]; done) | (rw [h_s_nw, hsl]; omega)) (lv_sub hl [0] rfl) e1
set_option maxRecDepth 20000 in
set_option maxHeartbeats 4000000 in
theorem b_K_feedFour_42 {p : Program} {l : Launch} {e : Env} {s : State} {m : MethodId} {args : Array Value} {below : List Frame} {meth : Method} {c : Code} {D : va_G} {cy : cyT} {z : Nat} (C : MX p s m args meth c cX11_feedFour 3 (none) RX11 (Cond.code yX11_feedFour cX11_feedFour 3 (none) :: GW)) (N : Nat) {r : Unit} {g : hS} {rc3 : hS → Nat → Int32 → Int32 → Option (Unit × hS)}  (hrc3 : ∀ (h : hS) (th : Nat) (x1 : Int32) (x2 : Int32) (H : Heap) (locs : List Loc) (ls : Array Slot), wd D cy z s 0 h H locs → lv_has ls 3 [(0, .ref th), (1, .int x1), (2, .int x2)] → rc3 h th x1 x2 = some (r, g) → W p l e { frames := 0, cells := 0, slots := 0, locals := 0 } s m args below meth c H locs 0 0 (MQ below (eQ D cy z (rV r) g) args s 0 0 (fun q => z ≤ q)) (F0 m 3 ls [])) : ∀  (h : hS) (th : Nat) (x1 : Int32) (x2 : Int32) (H : Heap) (locs : List Loc) (ls : Array Slot), wd D cy z s 0 h H locs → lv_has ls 3 [(0, .ref th), (1, .int x1), (2, .int x2)] → f_K_feedFour_42 N rc3  h th x1 x2 = some (r, g) → W p l e { frames := 0, cells := 0, slots := 0, locals := 0 } s m args below meth c H locs 0 0 (MQ below (eQ D cy z (rV r) g) args s 0 0 (fun q => z ≤ q)) (F0 m 42 ls []) := by
  obtain ⟨hx, hb, hr, hml, hown, hts, hlk⟩ := id C
  intro  h th x1 x2 H locs ls w  hl hE
  unfold f_K_feedFour_42 at hE
  obtain ⟨v1, ev1, e1⟩ := bn_some hE
  refine lv_iinc (v := v1) (lv' := [(2, .int v1), (0, .ref th), (1, .int x1)]) hx hb dX11_feedFour_42 hl (k := 2) rfl (by rw [ev1]; rfl) (by decide) rfl (fun ls hl => ?_)
  refine lv_goto (tgt := 3) hx hb dX11_feedFour_45 (by decide) ?_
  exact hrc3  h th x1 v1 _ _ ls w  (lv_sub hl [1, 2, 0] rfl) e1
set_option maxRecDepth 20000 in
set_option maxHeartbeats 4000000 in
theorem b_K_feedFour_3 {p : Program} {l : Launch} {e : Env} {s : State} {m : MethodId} {args : Array Value} {below : List Frame} {meth : Method} {c : Code} {D : va_G} {cy : cyT} {z : Nat} (C : MX p s m args meth c cX11_feedFour 3 (none) RX11 (Cond.code yX11_feedFour cX11_feedFour 3 (none) :: GW)) (N : Nat) {r : Unit} {g : hS}  : ∀ (n : Nat) (h : hS) (th : Nat) (x1 : Int32) (x2 : Int32) (H : Heap) (locs : List Loc) (ls : Array Slot), wd D cy z s 0 h H locs → lv_has ls 3 [(0, .ref th), (1, .int x1), (2, .int x2)] → f_K_feedFour_3 N  n h th x1 x2 = some (r, g) → W p l e { frames := 0, cells := 0, slots := 0, locals := 0 } s m args below meth c H locs 0 0 (MQ below (eQ D cy z (rV r) g) args s 0 0 (fun q => z ≤ q)) (F0 m 3 ls []) := by
  obtain ⟨hx, hb, hr, hml, hown, hts, hlk⟩ := id C
  intro n
  induction n with
  | zero =>
    intro  h th x1 x2 H locs ls w  hl hE
    cases hE
  | succ n ih =>
    intro  h th x1 x2 H locs ls w  hl hE
    unfold f_K_feedFour_3 at hE
    refine lv_iload_n hx hb dX11_feedFour_3 rfl (lv_at hl 2 rfl) ?_
    refine w_if_lt (tgt := 48) C dX11_feedFour_4 (by decide) hE (fun hc e1 => ?_) (fun hc e1 => ?_)
    · exact w_vret C w e1 dX11_feedFour_48
    · refine lv_aload_n hx hb dX11_feedFour_7 rfl (lv_at hl 0 rfl) ?_
      refine w_gI (r := some th) (ci := 12) (k := 1) C w rfl (by decide) (GF_wsX110 _) (by decide) rfl (List.mem_cons_of_mem _ gw_1_16) rfl dX11_feedFour_8 e1 (fun v1 e2 => ?_)
      refine lv_aload_n hx hb dX11_feedFour_11 rfl (lv_at hl 0 rfl) ?_
      refine w_gR (r := some th) (ci := 12) (k := 0) C w rfl (by decide) (GF_wsX110 _) (by decide) rfl (List.mem_cons_of_mem _ gw_1_15) rfl dX11_feedFour_12 e2 (fun v2 e3 => ?_)
      refine w_lenBB (r := v2) C w dX11_feedFour_15 e3 (fun v3 e4 => ?_)
      refine w_icmp_ge (tgt := 42) C dX11_feedFour_16 (by decide) e4 (fun hc e5 => ?_) (fun hc e5 => ?_)
      · exact b_K_feedFour_42 C N  ih   h th x1 x2 _ _ ls w  (lv_sub hl [0, 1, 2] rfl) e5
      · refine lv_aload_n hx hb dX11_feedFour_19 rfl (lv_at hl 0 rfl) ?_
        refine w_gR (r := some th) (ci := 12) (k := 0) C w rfl (by decide) (GF_wsX110 _) (by decide) rfl (List.mem_cons_of_mem _ gw_1_15) rfl dX11_feedFour_20 e5 (fun v4 e6 => ?_)
        refine lv_aload_n hx hb dX11_feedFour_23 rfl (lv_at hl 0 rfl) ?_
        refine w_gI (r := some th) (ci := 12) (k := 1) C w rfl (by decide) (GF_wsX110 _) (by decide) rfl (List.mem_cons_of_mem _ gw_1_16) rfl dX11_feedFour_24 e6 (fun v5 e7 => ?_)
        refine lv_iload_n hx hb dX11_feedFour_27 rfl (lv_at hl 1 rfl) ?_
        refine lv_iload_n hx hb dX11_feedFour_28 rfl (lv_at hl 2 rfl) ?_
        refine lv_iushr hx hb dX11_feedFour_29 rfl ?_
        refine lv_i2b hx hb dX11_feedFour_30 rfl ?_
        refine w_uB (r := v4) C w dX11_feedFour_31 e7 (fun h6 H locs w hsh6 e8 => ?_)
        refine lv_aload_n hx hb dX11_feedFour_32 rfl (lv_at hl 0 rfl) ?_
        refine lv_dup hx hb dX11_feedFour_33 rfl ?_
        refine w_gI (r := some th) (ci := 12) (k := 1) C w rfl (by decide) (GF_wsX110 _) (by decide) rfl (List.mem_cons_of_mem _ gw_1_16) rfl dX11_feedFour_34 e8 (fun v7 e9 => ?_)
        refine lv_iconst (v := 1) hx hb dX11_feedFour_37 (by decide) ?_
        refine lv_iadd hx hb dX11_feedFour_38 ?_
        refine w_pI (r := some th) (ci := 12) (k := 1) C w rfl (by decide) (by unfold roK; omega) (GF_wsX110 _) tyX11 tyX11_ok nmX11 (by decide) rfl (List.mem_cons_of_mem _ gw_1_16) rfl rfl (tyX11_ok 1 (by decide)) dX11_feedFour_39 e9 (fun h8 H locs w hsh8 e10 => ?_)
        exact b_K_feedFour_42 C N  ih   h8 th x1 x2 _ _ ls w  (lv_sub hl [0, 1, 2] rfl) e10
set_option maxRecDepth 20000 in
set_option maxHeartbeats 4000000 in
theorem k_K_feedFour (l : Launch) (D : va_G) (cy : cyT) (z : Nat) (N : Nat) (h : hS) (th : Nat) (x1 : Int32) (r : Unit) (g : hS) (hE : f_K_feedFour N h th x1 = some (r, g)) : ct l yX11_feedFour (Cond.code yX11_feedFour cX11_feedFour 3 (none) :: GW) { frames := 0, cells := 0, slots := 0, locals := 0 } D cy z h [.ref th, .int x1] (rV r) g := by
  refine Met.ofW (cc := cX11_feedFour) (maxL := 3) (ret := none) (by decide) rfl ?_
  intro p e s m args below meth c s₁ B hml hv
  obtain ⟨rfl, hw⟩ := hv
  have C : MX p s m ([.ref th, .int x1] : List Value).toArray meth c cX11_feedFour 3 (none) RX11 (Cond.code yX11_feedFour cX11_feedFour 3 (none) :: GW) := ⟨B.exec, B.bytes, B.returns, hml, findClass_of_methodNamed B.named, atoms_spec (ws := Cond.code yX11_feedFour cX11_feedFour 3 (none) :: GW) B.pre, B.notSynchronized⟩
  obtain ⟨hx, hb, hr, hml, hown, hts, hlk⟩ := id C
  have w := wd_of hw
  obtain ⟨ls, hen, hl⟩ : ∃ ls : Array Slot, entryFrame m ([.ref th, .int x1] : List Value).toArray 3 = F0 m 0 ls [] ∧ lv_has ls 3 [(0, .ref th), (1, .int x1)] := by
    exact ⟨_, lg_entry_eq _ _ _, lv_entry _ (Nat.le_of_ble_eq_true rfl)⟩
  rw [hen]
  unfold f_K_feedFour at hE
  refine lv_bipush (v := 24) hx hb dX11_feedFour_0 (by decide) ?_
  refine lv_istore_n (lv' := [(2, .int (24 : Int32)), (0, .ref th), (1, .int x1)]) hx hb dX11_feedFour_2 rfl hl (by decide) rfl (fun ls hl => ?_)
  exact b_K_feedFour_3 C N   N  h th x1 (24 : Int32) _ _ ls w  (lv_sub hl [1, 2, 0] rfl) hE
set_option maxRecDepth 20000 in
set_option maxHeartbeats 4000000 in
theorem b_K_feed_35 {p : Program} {l : Launch} {e : Env} {s : State} {m : MethodId} {args : Array Value} {below : List Frame} {meth : Method} {c : Code} {D : va_G} {cy : cyT} {z : Nat} (C : MX p s m args meth c cX11_feed 6 ((some .int)) RX11 (Cond.code yX11_feed cX11_feed 6 ((some .int)) :: GW)) (N : Nat) (n0 s0 : Nat) (hn0 : s.heap.size = n0) {r : Int32} {g : hS}  : ∀  (cells slots : Nat) (h : hS) (th : Nat) (x1 : Int32) (x2 : Int32) (x3 : Int32) (x4 : Int32) (x5 : Int32) (H : Heap) (locs : List Loc) (ls : Array Slot), wd D cy z s cells h H locs → h_s h = s0 + slots → lv_has ls 6 [(0, .ref th), (1, .int x1), (2, .int x2), (3, .int x3), (4, .int x4), (5, .int x5)] → f_K_feed_35 N   h th x1 x2 x3 x4 x5 = some (r, g) → W p l e { frames := 1, cells := h_x g - n0, slots := h_s g - s0, locals := 22 } s m args below meth c H locs cells slots (MQ below (eQ D cy z (rI r) g) args s (h_x g - n0) (h_s g - s0) (fun q => z ≤ q)) (F0 m 35 ls []) := by
  obtain ⟨hx, hb, hr, hml, hown, hts, hlk⟩ := id C
  intro cells slots h th x1 x2 x3 x4 x5 H locs ls w hsl hl hE
  have hcc : cells ≤ h_x g - n0 ∧ slots ≤ h_s g - s0 := by
    have q1 := mo_K_feed_35 N  h th x1 x2 x3 x4 x5 _ _ hE
    have q2 := wd_x w
    have q3 := q1.1
    have q4 := q1.2.1
    omega
  unfold f_K_feed_35 at hE
  refine lv_aload_n hx hb dX11_feed_35 rfl (lv_at hl 0 rfl) ?_
  refine lv_iload_n hx hb dX11_feed_36 rfl (lv_at hl 1 rfl) ?_
  refine w_VV GW_good (n := 1) (F := 0) (Lc := 0) (o := some th) (av := [.int x1]) (rest := []) C w rfl (by decide) (fun a r g hf => k_K_feedFour l D cy z N h a x1 r g hf) gw_8_10 gw_8_11 gw_8_12 gw_1_2 gw_8_13 (by decide +kernel) ⟨Nat.le_of_ble_eq_true rfl, Nat.le_of_ble_eq_true rfl⟩ rfl hl.1 rfl (Nat.le_of_ble_eq_true rfl) dX11_feed_37 (fun a => (sh_K_feedFour N h a x1)) ⟨hcc.1, hcc.2⟩ hE (fun v1 h2 H locs w hsh2 e1 => ?_)
  have hsl := hsh2.2.2.2.trans hsl
  refine lv_aload_n hx hb dX11_feed_40 rfl (lv_at hl 0 rfl) ?_
  refine lv_iload_n hx hb dX11_feed_41 rfl (lv_at hl 2 rfl) ?_
  refine w_VV GW_good (n := 1) (F := 0) (Lc := 0) (o := some th) (av := [.int x2]) (rest := []) C w rfl (by decide) (fun a r g hf => k_K_feedFour l D cy z N h2 a x2 r g hf) gw_8_10 gw_8_11 gw_8_12 gw_1_2 gw_8_13 (by decide +kernel) ⟨Nat.le_of_ble_eq_true rfl, Nat.le_of_ble_eq_true rfl⟩ rfl hl.1 rfl (Nat.le_of_ble_eq_true rfl) dX11_feed_42 (fun a => (sh_K_feedFour N h2 a x2)) ⟨hcc.1, hcc.2⟩ e1 (fun v3 h4 H locs w hsh4 e2 => ?_)
  have hsl := hsh4.2.2.2.trans hsl
  refine lv_aload_n hx hb dX11_feed_45 rfl (lv_at hl 0 rfl) ?_
  refine lv_iload_n hx hb dX11_feed_46 rfl (lv_at hl 3 rfl) ?_
  refine w_VV GW_good (n := 1) (F := 0) (Lc := 0) (o := some th) (av := [.int x3]) (rest := []) C w rfl (by decide) (fun a r g hf => k_K_feedFour l D cy z N h4 a x3 r g hf) gw_8_10 gw_8_11 gw_8_12 gw_1_2 gw_8_13 (by decide +kernel) ⟨Nat.le_of_ble_eq_true rfl, Nat.le_of_ble_eq_true rfl⟩ rfl hl.1 rfl (Nat.le_of_ble_eq_true rfl) dX11_feed_47 (fun a => (sh_K_feedFour N h4 a x3)) ⟨hcc.1, hcc.2⟩ e2 (fun v5 h6 H locs w hsh6 e3 => ?_)
  have hsl := hsh6.2.2.2.trans hsl
  refine lv_aload_n hx hb dX11_feed_50 rfl (lv_at hl 0 rfl) ?_
  refine lv_iload hx hb dX11_feed_51 (lv_at hl 4 rfl) ?_
  refine w_VV GW_good (n := 1) (F := 0) (Lc := 0) (o := some th) (av := [.int x4]) (rest := []) C w rfl (by decide) (fun a r g hf => k_K_feedFour l D cy z N h6 a x4 r g hf) gw_8_10 gw_8_11 gw_8_12 gw_1_2 gw_8_13 (by decide +kernel) ⟨Nat.le_of_ble_eq_true rfl, Nat.le_of_ble_eq_true rfl⟩ rfl hl.1 rfl (Nat.le_of_ble_eq_true rfl) dX11_feed_53 (fun a => (sh_K_feedFour N h6 a x4)) ⟨hcc.1, hcc.2⟩ e3 (fun v7 h8 H locs w hsh8 e4 => ?_)
  have hsl := hsh8.2.2.2.trans hsl
  refine lv_aload_n hx hb dX11_feed_56 rfl (lv_at hl 0 rfl) ?_
  refine lv_iload hx hb dX11_feed_57 (lv_at hl 5 rfl) ?_
  refine w_VV GW_good (n := 1) (F := 0) (Lc := 0) (o := some th) (av := [.int x5]) (rest := []) C w rfl (by decide) (fun a r g hf => k_K_feedFour l D cy z N h8 a x5 r g hf) gw_8_10 gw_8_11 gw_8_12 gw_1_2 gw_8_13 (by decide +kernel) ⟨Nat.le_of_ble_eq_true rfl, Nat.le_of_ble_eq_true rfl⟩ rfl hl.1 rfl (Nat.le_of_ble_eq_true rfl) dX11_feed_59 (fun a => (sh_K_feedFour N h8 a x5)) ⟨hcc.1, hcc.2⟩ e4 (fun v9 h10 H locs w hsh10 e5 => ?_)
  have hsl := hsh10.2.2.2.trans hsl
  refine lv_aload_n hx hb dX11_feed_62 rfl (lv_at hl 0 rfl) ?_
  refine w_gI (r := some th) (ci := 12) (k := 1) C w rfl (by decide) (GF_wsX110 _) (by decide) rfl (List.mem_cons_of_mem _ gw_1_16) rfl dX11_feed_63 e5 (fun v11 e6 => ?_)
  refine W.widen (k := h_x g - n0) (n := h_s g - s0) hcc.1 hcc.2 ?_
  exact w_iret C w e6 dX11_feed_66
set_option maxRecDepth 20000 in
set_option maxHeartbeats 4000000 in
theorem b_K_feed_32 {p : Program} {l : Launch} {e : Env} {s : State} {m : MethodId} {args : Array Value} {below : List Frame} {meth : Method} {c : Code} {D : va_G} {cy : cyT} {z : Nat} (C : MX p s m args meth c cX11_feed 6 ((some .int)) RX11 (Cond.code yX11_feed cX11_feed 6 ((some .int)) :: GW)) (N : Nat) (n0 s0 : Nat) (hn0 : s.heap.size = n0) {r : Int32} {g : hS}  : ∀  (cells slots : Nat) (h : hS) (th : Nat) (x1 : Int32) (x2 : Int32) (x3 : Int32) (x4 : Int32) (x5 : Int32) (y0 : Option Nat) (y1 : Option Nat) (H : Heap) (locs : List Loc) (ls : Array Slot), wd D cy z s cells h H locs → h_s h = s0 + slots → lv_has ls 6 [(0, .ref th), (1, .int x1), (2, .int x2), (3, .int x3), (4, .int x4), (5, .int x5)] → f_K_feed_32 N   h th x1 x2 x3 x4 x5 y0 y1 = some (r, g) → W p l e { frames := 1, cells := h_x g - n0, slots := h_s g - s0, locals := 22 } s m args below meth c H locs cells slots (MQ below (eQ D cy z (rI r) g) args s (h_x g - n0) (h_s g - s0) (fun q => z ≤ q)) (F0 m 32 ls [va_rf y1, va_rf y0]) := by
  obtain ⟨hx, hb, hr, hml, hown, hts, hlk⟩ := id C
  intro cells slots h th x1 x2 x3 x4 x5 y0 y1 H locs ls w hsl hl hE
  have hcc : cells ≤ h_x g - n0 ∧ slots ≤ h_s g - s0 := by
    have q1 := mo_K_feed_32 N  h th x1 x2 x3 x4 x5 y0 y1 _ _ hE
    have q2 := wd_x w
    have q3 := q1.1
    have q4 := q1.2.1
    omega
  unfold f_K_feed_32 at hE
  refine w_pR (r := y0) (ci := 12) (k := 0) (v := y1) (Or.inr ⟨_, rfl⟩) C w rfl (by decide) (by unfold roK; omega) (GF_wsX110 _) tyX11 tyX11_ok nmX11 (by decide) rfl (List.mem_cons_of_mem _ gw_1_15) rfl rfl (tyX11_ok 0 (by decide)) dX11_feed_32 hE (fun h1 H locs w hsh1 e1 => ?_)
  have hsl := hsh1.2.2.2.trans hsl
  exact b_K_feed_35 C N n0 s0 hn0   _ _ h1 th x1 x2 x3 x4 x5 _ _ ls w hsl (lv_sub hl [0, 1, 2, 3, 4, 5] rfl) e1
set_option maxRecDepth 20000 in
set_option maxHeartbeats 4000000 in
theorem k_K_feed (l : Launch) (D : va_G) (cy : cyT) (z : Nat) (N : Nat) (h : hS) (th : Nat) (x1 : Int32) (x2 : Int32) (x3 : Int32) (x4 : Int32) (x5 : Int32) (r : Int32) (g : hS) (hE : f_K_feed N h th x1 x2 x3 x4 x5 = some (r, g)) : ct l yX11_feed (Cond.code yX11_feed cX11_feed 6 ((some .int)) :: GW) { frames := 1, cells := h_x g - h_x h, slots := h_s g - h_s h, locals := 22 } D cy z h [.ref th, .int x1, .int x2, .int x3, .int x4, .int x5] (rI r) g := by
  refine Met.ofW (cc := cX11_feed) (maxL := 6) (ret := (some .int)) (by decide) rfl ?_
  intro p e s m args below meth c s₁ B hml hv
  obtain ⟨rfl, hw⟩ := hv
  have C : MX p s m ([.ref th, .int x1, .int x2, .int x3, .int x4, .int x5] : List Value).toArray meth c cX11_feed 6 ((some .int)) RX11 (Cond.code yX11_feed cX11_feed 6 ((some .int)) :: GW) := ⟨B.exec, B.bytes, B.returns, hml, findClass_of_methodNamed B.named, atoms_spec (ws := Cond.code yX11_feed cX11_feed 6 ((some .int)) :: GW) B.pre, B.notSynchronized⟩
  obtain ⟨hx, hb, hr, hml, hown, hts, hlk⟩ := id C
  have w := wd_of hw
  have hsl : h_s h = h_s h + 0 := rfl
  have hn0 : s.heap.size = h_x h := (wd_x w).1
  obtain ⟨ls, hen, hl⟩ : ∃ ls : Array Slot, entryFrame m ([.ref th, .int x1, .int x2, .int x3, .int x4, .int x5] : List Value).toArray 6 = F0 m 0 ls [] ∧ lv_has ls 6 [(0, .ref th), (1, .int x1), (2, .int x2), (3, .int x3), (4, .int x4), (5, .int x5)] := by
    exact ⟨_, lg_entry_eq _ _ _, lv_entry _ (Nat.le_of_ble_eq_true rfl)⟩
  rw [hen]
  have hcc : 0 ≤ h_x g - h_x h ∧ 0 ≤ h_s g - h_s h := ⟨Nat.zero_le _, Nat.zero_le _⟩
  unfold f_K_feed at hE
  refine lv_aload_n hx hb dX11_feed_0 rfl (lv_at hl 0 rfl) ?_
  refine w_gI (r := some th) (ci := 12) (k := 1) C w rfl (by decide) (GF_wsX110 _) (by decide) rfl (List.mem_cons_of_mem _ gw_1_16) rfl dX11_feed_1 hE (fun v1 e1 => ?_)
  refine lv_bipush (v := 20) hx hb dX11_feed_4 (by decide) ?_
  refine lv_iadd hx hb dX11_feed_6 ?_
  refine lv_sipush (v := 600) hx hb dX11_feed_7 (by decide) ?_
  refine w_icmp_le (tgt := 15) C dX11_feed_10 (by decide) e1 (fun hc e2 => ?_) (fun hc e2 => ?_)
  · refine lv_aload_n hx hb dX11_feed_15 rfl (lv_at hl 0 rfl) ?_
    refine w_gR (r := some th) (ci := 12) (k := 0) C w rfl (by decide) (GF_wsX110 _) (by decide) rfl (List.mem_cons_of_mem _ gw_1_15) rfl dX11_feed_16 e2 (fun v2 e3 => ?_)
    refine w_lenBB (r := v2) C w dX11_feed_19 e3 (fun v3 e4 => ?_)
    refine lv_sipush (v := 600) hx hb dX11_feed_20 (by decide) ?_
    refine w_icmp_ge (tgt := 35) C dX11_feed_23 (by decide) e4 (fun hc e5 => ?_) (fun hc e5 => ?_)
    · exact b_K_feed_35 C N (h_x h) (h_s h) hn0   _ _ h th x1 x2 x3 x4 x5 _ _ ls w hsl (lv_sub hl [0, 1, 2, 3, 4, 5] rfl) e5
    · refine lv_aload_n hx hb dX11_feed_26 rfl (lv_at hl 0 rfl) ?_
      refine lv_sipush (v := 600) hx hb dX11_feed_27 (by decide) ?_
      have hm := mo_K_feed_32 N   (nw h 52 (600 : Int32).toNatClampNeg (600 : Int32).toNatClampNeg) th x1 x2 x3 x4 x5 (some th) (some (h_x h)) _ _ (nwA_some e5).2
      have hm1 := hm.1
      have hm2 := hm.2.1
      rw [h_x_nw] at hm1
      rw [h_s_nw] at hm2
      have hwx := wd_x w
      refine w_nwB C w (List.mem_cons_of_mem _ gw_1_14) dX11_feed_30 e5 (by show 0 + 1 ≤ h_x g - (h_x h); omega) (by show 0 + _ ≤ h_s g - (h_s h); omega) (fun H w e6 => ?_)
      exact b_K_feed_32 C N (h_x h) (h_s h) hn0   (0 + 1) (0 + (600 : Int32).toNatClampNeg) (nw h 52 (600 : Int32).toNatClampNeg (600 : Int32).toNatClampNeg) th x1 x2 x3 x4 x5 (some th) (some (h_x h)) _ _ ls w (by first | (rw [h_s_nw, hsl]; done) | (rw [h_s_nw, hsl]; omega)) (lv_sub hl [0, 1, 2, 3, 4, 5] rfl) e6
  · refine lv_iconst (v := -1) hx hb dX11_feed_13 (by decide) ?_
    refine W.widen (k := h_x g - (h_x h)) (n := h_s g - (h_s h)) hcc.1 hcc.2 ?_
    exact w_iret C w e2 dX11_feed_14
set_option maxRecDepth 20000 in
set_option maxHeartbeats 4000000 in
theorem k_K_needSuch (l : Launch) (hst : l.stackTraces = false) (D : va_G) (cy : cyT) (z : Nat) (N : Nat) (h : hS) (x0 : Int32) (r : (Unit ⊕ Nat)) (g : hS) (hE : f_K_needSuch N h x0 = some (r, g)) : ctT l yX11_needSuch (Cond.code yX11_needSuch cX11_needSuch 1 (none) :: GW) { frames := 6, cells := h_x g - h_x h, slots := h_s g - h_s h, locals := 82 } D cy z h [.int x0] rV r g := by
  refine ctT_of (cc := cX11_needSuch) (maxL := 1) (ret := none) (by decide) ?_
  intro p e s m args below meth c s₁ B hml hxt hv
  obtain ⟨rfl, hw⟩ := hv
  have C : MX p s m ([.int x0] : List Value).toArray meth c cX11_needSuch 1 (none) RX11 (Cond.code yX11_needSuch cX11_needSuch 1 (none) :: GW) := ⟨B.exec, B.bytes, B.returns, hml, findClass_of_methodNamed B.named, atoms_spec (ws := Cond.code yX11_needSuch cX11_needSuch 1 (none) :: GW) B.pre, B.notSynchronized⟩
  obtain ⟨hx, hb, hr, hml, hown, hts, hlk⟩ := id C
  have w := wd_of hw
  have hsl : h_s h = h_s h + 0 := rfl
  have hn0 : s.heap.size = h_x h := (wd_x w).1
  obtain ⟨ls, hen, hl⟩ : ∃ ls : Array Slot, entryFrame m ([.int x0] : List Value).toArray 1 = F0 m 0 ls [] ∧ lv_has ls 1 [(0, .int x0)] := by
    exact ⟨_, lg_entry_eq _ _ _, lv_entry _ (Nat.le_of_ble_eq_true rfl)⟩
  rw [hen]
  have hcc : 0 ≤ h_x g - h_x h ∧ 0 ≤ h_s g - h_s h := ⟨Nat.zero_le _, Nat.zero_le _⟩
  unfold f_K_needSuch at hE
  refine lv_iload_n hx hb dX11_needSuch_0 rfl (lv_at hl 0 rfl) ?_
  refine w_if_ne (tgt := 15) C dX11_needSuch_1 (by decide) hE (fun hc e1 => ?_) (fun hc e1 => ?_)
  · refine W.widen (k := h_x g - (h_x h)) (n := h_s g - (h_s h)) hcc.1 hcc.2 ?_
    exact w_vretT C w e1 dX11_needSuch_15
  · exact w_thrNW (is := 463) (tx := "there is none such") (pl := 6) hst hxt C w hn0 hsl hl.1 (List.mem_of_getElem? (i := 2) rfl) gw_9_18 gw_9_19 dX11_needSuch_4 dX11_needSuch_7 dX11_needSuch_8 dX11_needSuch_11 dX11_needSuch_14 (Nat.le_of_ble_eq_true rfl) (Nat.le_of_ble_eq_true rfl) e1
set_option maxRecDepth 20000 in
set_option maxHeartbeats 4000000 in
theorem b_K_needCost_7 {p : Program} {l : Launch} {e : Env} {s : State} {m : MethodId} {args : Array Value} {below : List Frame} {meth : Method} {c : Code} {D : va_G} {cy : cyT} {z : Nat} (C : MX p s m args meth c cX11_needCost 1 (none) RX11 (Cond.code yX11_needCost cX11_needCost 1 (none) :: GW)) (hst : l.stackTraces = false) (hxt : ∀ x ∈ c.exceptionTable.toList, False) (N : Nat) (n0 s0 : Nat) (hn0 : s.heap.size = n0) {r : (Unit ⊕ Nat)} {g : hS}  : ∀  (cells slots : Nat) (h : hS)  (H : Heap) (locs : List Loc) (ls : Array Slot), wd D cy z s cells h H locs → h_s h = s0 + slots → lv_has ls 1 [] → f_K_needCost_7 N   h  = some (r, g) → W p l e { frames := 7, cells := h_x g - n0, slots := h_s g - s0, locals := 102 } s m args below meth c H locs cells slots (eT D cy z rV r g below args s (h_x g - n0) (h_s g - s0)) (F0 m 7 ls []) := by
  obtain ⟨hx, hb, hr, hml, hown, hts, hlk⟩ := id C
  intro cells slots h  H locs ls w hsl hl hE
  have hcc : cells ≤ h_x g - n0 ∧ slots ≤ h_s g - s0 := by
    have q1 := mo_K_needCost_7 N  h  _ _ hE
    have q2 := wd_x w
    have q3 := q1.1
    have q4 := q1.2.1
    omega
  unfold f_K_needCost_7 at hE
  refine W.widen (k := h_x g - n0) (n := h_s g - s0) hcc.1 hcc.2 ?_
  exact w_vretT C w hE dX11_needCost_7
set_option maxRecDepth 20000 in
set_option maxHeartbeats 4000000 in
theorem k_K_needCost (l : Launch) (hst : l.stackTraces = false) (D : va_G) (cy : cyT) (z : Nat) (N : Nat) (h : hS) (x0 : Int32) (r : (Unit ⊕ Nat)) (g : hS) (hE : f_K_needCost N h x0 = some (r, g)) : ctT l yX11_needCost (Cond.code yX11_needCost cX11_needCost 1 (none) :: GW) { frames := 7, cells := h_x g - h_x h, slots := h_s g - h_s h, locals := 102 } D cy z h [.int x0] rV r g := by
  refine ctT_of (cc := cX11_needCost) (maxL := 1) (ret := none) (by decide) ?_
  intro p e s m args below meth c s₁ B hml hxt hv
  obtain ⟨rfl, hw⟩ := hv
  have C : MX p s m ([.int x0] : List Value).toArray meth c cX11_needCost 1 (none) RX11 (Cond.code yX11_needCost cX11_needCost 1 (none) :: GW) := ⟨B.exec, B.bytes, B.returns, hml, findClass_of_methodNamed B.named, atoms_spec (ws := Cond.code yX11_needCost cX11_needCost 1 (none) :: GW) B.pre, B.notSynchronized⟩
  obtain ⟨hx, hb, hr, hml, hown, hts, hlk⟩ := id C
  have w := wd_of hw
  have hsl : h_s h = h_s h + 0 := rfl
  have hn0 : s.heap.size = h_x h := (wd_x w).1
  obtain ⟨ls, hen, hl⟩ : ∃ ls : Array Slot, entryFrame m ([.int x0] : List Value).toArray 1 = F0 m 0 ls [] ∧ lv_has ls 1 [(0, .int x0)] := by
    exact ⟨_, lg_entry_eq _ _ _, lv_entry _ (Nat.le_of_ble_eq_true rfl)⟩
  rw [hen]
  have hcc : 0 ≤ h_x g - h_x h ∧ 0 ≤ h_s g - h_s h := ⟨Nat.zero_le _, Nat.zero_le _⟩
  unfold f_K_needCost at hE
  refine lv_iload_n hx hb dX11_needCost_0 rfl (lv_at hl 0 rfl) ?_
  refine w_SI GW_good (n := 1) (F := 0) (Lc := 0) (av := [.int x0]) (rest := []) C w (fun r g hf => k_K_isCost l D cy z N h x0 r g hf) gw_9_12 gw_9_13 gw_1_2 gw_9_14 (by decide +kernel) ⟨Nat.le_of_ble_eq_true rfl, Nat.le_of_ble_eq_true rfl⟩ rfl hl.1 rfl (Nat.le_of_ble_eq_true rfl) dX11_needCost_1 (sh_K_isCost N h x0) ⟨hcc.1, hcc.2⟩ hE (fun v1 h2 H locs w hsh2 e1 => ?_)
  have hsl := hsh2.2.2.2.trans hsl
  refine w_STV GW_good (n := 1) (F := 6) (Lc := 82) (av := [.int v1]) (rest := []) hxt hn0 hsl C w (fun r g hf => k_K_needSuch l hst D cy z N h2 v1 r g hf) gw_9_15 gw_9_16 gw_1_2 gw_9_17 (by decide +kernel) ⟨Nat.le_of_ble_eq_true rfl, Nat.le_of_ble_eq_true rfl⟩ rfl hl.1 rfl (Nat.le_of_ble_eq_true rfl) dX11_needCost_4 (mo_K_needSuch N h2 v1) (fun v3 h4 => mo_K_needCost_7 N   h4 ) e1 (fun v3 h4 H locs w hsh4 e2 => ?_)
  exact b_K_needCost_7 C hst hxt N (h_x h) (h_s h) hn0   _ _ h4  _ _ ls w (by have u5 := hsh4.2.1; have u8 := hsl; omega) (lv_sub hl [] rfl) e2
set_option maxRecDepth 20000 in
set_option maxHeartbeats 4000000 in
theorem k_K_needFit (l : Launch) (hst : l.stackTraces = false) (D : va_G) (cy : cyT) (z : Nat) (N : Nat) (h : hS) (x0 : Int32) (r : (Unit ⊕ Nat)) (g : hS) (hE : f_K_needFit N h x0 = some (r, g)) : ctT l yX11_needFit (Cond.code yX11_needFit cX11_needFit 1 (none) :: GW) { frames := 6, cells := h_x g - h_x h, slots := h_s g - h_s h, locals := 82 } D cy z h [.int x0] rV r g := by
  refine ctT_of (cc := cX11_needFit) (maxL := 1) (ret := none) (by decide) ?_
  intro p e s m args below meth c s₁ B hml hxt hv
  obtain ⟨rfl, hw⟩ := hv
  have C : MX p s m ([.int x0] : List Value).toArray meth c cX11_needFit 1 (none) RX11 (Cond.code yX11_needFit cX11_needFit 1 (none) :: GW) := ⟨B.exec, B.bytes, B.returns, hml, findClass_of_methodNamed B.named, atoms_spec (ws := Cond.code yX11_needFit cX11_needFit 1 (none) :: GW) B.pre, B.notSynchronized⟩
  obtain ⟨hx, hb, hr, hml, hown, hts, hlk⟩ := id C
  have w := wd_of hw
  have hsl : h_s h = h_s h + 0 := rfl
  have hn0 : s.heap.size = h_x h := (wd_x w).1
  obtain ⟨ls, hen, hl⟩ : ∃ ls : Array Slot, entryFrame m ([.int x0] : List Value).toArray 1 = F0 m 0 ls [] ∧ lv_has ls 1 [(0, .int x0)] := by
    exact ⟨_, lg_entry_eq _ _ _, lv_entry _ (Nat.le_of_ble_eq_true rfl)⟩
  rw [hen]
  have hcc : 0 ≤ h_x g - h_x h ∧ 0 ≤ h_s g - h_s h := ⟨Nat.zero_le _, Nat.zero_le _⟩
  unfold f_K_needFit at hE
  refine lv_iload_n hx hb dX11_needFit_0 rfl (lv_at hl 0 rfl) ?_
  refine w_if_ne (tgt := 15) C dX11_needFit_1 (by decide) hE (fun hc e1 => ?_) (fun hc e1 => ?_)
  · refine W.widen (k := h_x g - (h_x h)) (n := h_s g - (h_s h)) hcc.1 hcc.2 ?_
    exact w_vretT C w e1 dX11_needFit_15
  · exact w_thrIW (is := 467) (tx := "the number is not as the document wants it") (pl := 7) hst hxt C w hn0 hsl hl.1 (List.mem_of_getElem? (i := 3) rfl) gw_9_23 gw_10_0 dX11_needFit_4 dX11_needFit_7 dX11_needFit_8 dX11_needFit_11 dX11_needFit_14 (Nat.le_of_ble_eq_true rfl) (Nat.le_of_ble_eq_true rfl) e1
set_option maxRecDepth 20000 in
set_option maxHeartbeats 4000000 in
theorem k_K_refuseText (l : Launch) (D : va_G) (cy : cyT) (z : Nat) (N : Nat) (h : hS) (th : Nat) (x1 : Int32) (x2 : Int32) (r : Int32) (g : hS) (hE : f_K_refuseText N h th x1 x2 = some (r, g)) : ct l yX11_refuseText (Cond.code yX11_refuseText cX11_refuseText 3 ((some .int)) :: GW) { frames := 0, cells := 0, slots := 0, locals := 0 } D cy z h [.ref th, .int x1, .int x2] (rI r) g := by
  refine Met.ofW (cc := cX11_refuseText) (maxL := 3) (ret := (some .int)) (by decide) rfl ?_
  intro p e s m args below meth c s₁ B hml hv
  obtain ⟨rfl, hw⟩ := hv
  have C : MX p s m ([.ref th, .int x1, .int x2] : List Value).toArray meth c cX11_refuseText 3 ((some .int)) RX11 (Cond.code yX11_refuseText cX11_refuseText 3 ((some .int)) :: GW) := ⟨B.exec, B.bytes, B.returns, hml, findClass_of_methodNamed B.named, atoms_spec (ws := Cond.code yX11_refuseText cX11_refuseText 3 ((some .int)) :: GW) B.pre, B.notSynchronized⟩
  obtain ⟨hx, hb, hr, hml, hown, hts, hlk⟩ := id C
  have w := wd_of hw
  obtain ⟨ls, hen, hl⟩ : ∃ ls : Array Slot, entryFrame m ([.ref th, .int x1, .int x2] : List Value).toArray 3 = F0 m 0 ls [] ∧ lv_has ls 3 [(0, .ref th), (1, .int x1), (2, .int x2)] := by
    exact ⟨_, lg_entry_eq _ _ _, lv_entry _ (Nat.le_of_ble_eq_true rfl)⟩
  rw [hen]
  unfold f_K_refuseText at hE
  refine lv_aload_n hx hb dX11_refuseText_0 rfl (lv_at hl 0 rfl) ?_
  refine lv_iload_n hx hb dX11_refuseText_1 rfl (lv_at hl 2 rfl) ?_
  refine w_pI (r := some th) (ci := 12) (k := 2) C w rfl (by decide) (by unfold roK; omega) (GF_wsX110 _) tyX11 tyX11_ok nmX11 (by decide) rfl (List.mem_cons_of_mem _ gw_1_17) rfl rfl (tyX11_ok 2 (by decide)) dX11_refuseText_2 hE (fun h1 H locs w hsh1 e1 => ?_)
  refine lv_aload_n hx hb dX11_refuseText_5 rfl (lv_at hl 0 rfl) ?_
  refine w_gR (r := some th) (ci := 12) (k := 16) C w rfl (by decide) (GF_wsX110 _) (by decide) rfl (List.mem_cons_of_mem _ gw_3_11) rfl dX11_refuseText_6 e1 (fun v2 e2 => ?_)
  refine w_gR (r := v2) (ci := 7) (k := 7) C w rfl (by decide) (GF_wsX60 _) (by decide) rfl (List.mem_cons_of_mem _ gw_15_5) rfl dX11_refuseText_9 e2 (fun v3 e3 => ?_)
  refine lv_iconst (v := 0) hx hb dX11_refuseText_12 (by decide) ?_
  refine lv_dup2_11 hx hb dX11_refuseText_13 rfl (va_rf_cat _) ?_
  refine w_aI (r := v3) C w dX11_refuseText_14 e3 (fun v4 e4 => ?_)
  refine lv_iconst (v := 1) hx hb dX11_refuseText_15 (by decide) ?_
  refine lv_iadd hx hb dX11_refuseText_16 ?_
  refine w_uI (r := v3) C w dX11_refuseText_17 e4 (fun h5 H locs w hsh5 e5 => ?_)
  refine lv_iload_n hx hb dX11_refuseText_18 rfl (lv_at hl 1 rfl) ?_
  exact w_iret C w e5 dX11_refuseText_19
set_option maxRecDepth 20000 in
set_option maxHeartbeats 4000000 in
theorem b_K_curveOf_4 {p : Program} {l : Launch} {e : Env} {s : State} {m : MethodId} {args : Array Value} {below : List Frame} {meth : Method} {c : Code} {D : va_G} {cy : cyT} {z : Nat} (C : MX p s m args meth c cX11_curveOf 2 ((some (.object "SlopeKeeper$Curve"))) RX11 (Cond.code yX11_curveOf cX11_curveOf 2 ((some (.object "SlopeKeeper$Curve"))) :: GW)) (hst : l.stackTraces = false) (hxt : ∀ x ∈ c.exceptionTable.toList, False) (N : Nat) (n0 s0 : Nat) (hn0 : s.heap.size = n0) {r : (Option Nat ⊕ Nat)} {g : hS}  : ∀  (cells slots : Nat) (h : hS) (th : Nat) (x1 : Int32) (H : Heap) (locs : List Loc) (ls : Array Slot), wd D cy z s cells h H locs → h_s h = s0 + slots → lv_has ls 2 [(0, .ref th), (1, .int x1)] → f_K_curveOf_4 N   h th x1 = some (r, g) → W p l e { frames := 8, cells := h_x g - n0, slots := h_s g - s0, locals := 122 } s m args below meth c H locs cells slots (eT D cy z rR r g below args s (h_x g - n0) (h_s g - s0)) (F0 m 4 ls []) := by
  obtain ⟨hx, hb, hr, hml, hown, hts, hlk⟩ := id C
  intro cells slots h th x1 H locs ls w hsl hl hE
  have hcc : cells ≤ h_x g - n0 ∧ slots ≤ h_s g - s0 := by
    have q1 := mo_K_curveOf_4 N  h th x1 _ _ hE
    have q2 := wd_x w
    have q3 := q1.1
    have q4 := q1.2.1
    omega
  unfold f_K_curveOf_4 at hE
  refine lv_aload_n hx hb dX11_curveOf_4 rfl (lv_at hl 0 rfl) ?_
  refine w_gR (r := some th) (ci := 12) (k := 13) C w rfl (by decide) (GF_wsX110 _) (by decide) rfl (List.mem_cons_of_mem _ gw_2_19) rfl dX11_curveOf_5 hE (fun v1 e1 => ?_)
  refine lv_iload_n hx hb dX11_curveOf_8 rfl (lv_at hl 1 rfl) ?_
  refine w_aRq (kd := 63) (t0 := 7) (r := v1) C w rfl (by decide) dX11_curveOf_9 e1 (fun v2 e2 => ?_)
  refine W.widen (k := h_x g - n0) (n := h_s g - s0) hcc.1 hcc.2 ?_
  exact w_aretT (v := v2) (Or.inl ⟨_, rfl⟩) C w e2 dX11_curveOf_10
set_option maxRecDepth 20000 in
set_option maxHeartbeats 4000000 in
theorem k_K_curveOf (l : Launch) (hst : l.stackTraces = false) (D : va_G) (cy : cyT) (z : Nat) (N : Nat) (h : hS) (th : Nat) (x1 : Int32) (r : (Option Nat ⊕ Nat)) (g : hS) (hE : f_K_curveOf N h th x1 = some (r, g)) : ctT l yX11_curveOf (Cond.code yX11_curveOf cX11_curveOf 2 ((some (.object "SlopeKeeper$Curve"))) :: GW) { frames := 8, cells := h_x g - h_x h, slots := h_s g - h_s h, locals := 122 } D cy z h [.ref th, .int x1] rR r g := by
  refine ctT_of (cc := cX11_curveOf) (maxL := 2) (ret := (some (.object "SlopeKeeper$Curve"))) (by decide) ?_
  intro p e s m args below meth c s₁ B hml hxt hv
  obtain ⟨rfl, hw⟩ := hv
  have C : MX p s m ([.ref th, .int x1] : List Value).toArray meth c cX11_curveOf 2 ((some (.object "SlopeKeeper$Curve"))) RX11 (Cond.code yX11_curveOf cX11_curveOf 2 ((some (.object "SlopeKeeper$Curve"))) :: GW) := ⟨B.exec, B.bytes, B.returns, hml, findClass_of_methodNamed B.named, atoms_spec (ws := Cond.code yX11_curveOf cX11_curveOf 2 ((some (.object "SlopeKeeper$Curve"))) :: GW) B.pre, B.notSynchronized⟩
  obtain ⟨hx, hb, hr, hml, hown, hts, hlk⟩ := id C
  have w := wd_of hw
  have hsl : h_s h = h_s h + 0 := rfl
  have hn0 : s.heap.size = h_x h := (wd_x w).1
  obtain ⟨ls, hen, hl⟩ : ∃ ls : Array Slot, entryFrame m ([.ref th, .int x1] : List Value).toArray 2 = F0 m 0 ls [] ∧ lv_has ls 2 [(0, .ref th), (1, .int x1)] := by
    exact ⟨_, lg_entry_eq _ _ _, lv_entry _ (Nat.le_of_ble_eq_true rfl)⟩
  rw [hen]
  have hcc : 0 ≤ h_x g - h_x h ∧ 0 ≤ h_s g - h_s h := ⟨Nat.zero_le _, Nat.zero_le _⟩
  unfold f_K_curveOf at hE
  refine lv_iload_n hx hb dX11_curveOf_0 rfl (lv_at hl 1 rfl) ?_
  refine w_STV GW_good (n := 1) (F := 7) (Lc := 102) (av := [.int x1]) (rest := []) hxt hn0 hsl C w (fun r g hf => k_K_needCost l hst D cy z N h x1 r g hf) gw_9_9 gw_9_10 gw_1_2 gw_9_11 (by decide +kernel) ⟨Nat.le_of_ble_eq_true rfl, Nat.le_of_ble_eq_true rfl⟩ rfl hl.1 rfl (Nat.le_of_ble_eq_true rfl) dX11_curveOf_1 (mo_K_needCost N h x1) (fun v1 h2 => mo_K_curveOf_4 N   h2 th x1) hE (fun v1 h2 H locs w hsh2 e1 => ?_)
  exact b_K_curveOf_4 C hst hxt N (h_x h) (h_s h) hn0   _ _ h2 th x1 _ _ ls w (by have u5 := hsh2.2.1; have u8 := hsl; omega) (lv_sub hl [0, 1] rfl) e1
set_option maxRecDepth 20000 in
set_option maxHeartbeats 4000000 in
theorem b_K_newStep_62 {p : Program} {l : Launch} {e : Env} {s : State} {m : MethodId} {args : Array Value} {below : List Frame} {meth : Method} {c : Code} {D : va_G} {cy : cyT} {z : Nat} (C : MX p s m args meth c cX11_newStep 6 ((some (.object "SlopeKeeper$Step"))) RX11 (Cond.code yX11_newStep cX11_newStep 6 ((some (.object "SlopeKeeper$Step"))) :: GW)) (hst : l.stackTraces = false) (N : Nat) (n0 s0 : Nat) (hn0 : s.heap.size = n0) {r : Option Nat} {g : hS}  : ∀  (cells slots : Nat) (h : hS) (y0 : Option Nat) (y1 : Option Nat) (y2 : Int32) (y3 : Int32) (y4 : Int32) (y5 : Option Nat) (H : Heap) (locs : List Loc) (ls : Array Slot), wd D cy z s cells h H locs → h_s h = s0 + slots → lv_has ls 6 [] → f_K_newStep_62 N   h y0 y1 y2 y3 y4 y5 = some (r, g) → W p l e { frames := 9, cells := h_x g - n0, slots := h_s g - s0, locals := 143 } s m args below meth c H locs cells slots (MQ below (eQ D cy z (rR r) g) args s (h_x g - n0) (h_s g - s0) (fun q => z ≤ q)) (F0 m 62 ls [va_rf y5, .int y4, .int y3, .int y2, va_rf y1, va_rf y0]) := by
  obtain ⟨hx, hb, hr, hml, hown, hts, hlk⟩ := id C
  intro cells slots h y0 y1 y2 y3 y4 y5 H locs ls w hsl hl hE
  have hcc : cells ≤ h_x g - n0 ∧ slots ≤ h_s g - s0 := by
    have q1 := mo_K_newStep_62 N  h y0 y1 y2 y3 y4 y5 _ _ hE
    have q2 := wd_x w
    have q3 := q1.1
    have q4 := q1.2.1
    omega
  unfold f_K_newStep_62 at hE
  obtain ⟨q3, eq3, e1⟩ := nn_some hE
  subst eq3
  refine w_IV GW_good (b := q3) (n := 4) (F := 1) (Lc := 44) (av := [.int y2, .int y3, .int y4, va_rf y5]) (rest := [va_rf y0]) C w (fun r g hf => k_Step_init l D cy z N h q3 y2 y3 y4 y5 r g hf) gw_19_1 gw_19_2 gw_16_0 gw_19_3 rfl (by decide +kernel) ⟨Nat.le_of_ble_eq_true rfl, Nat.le_of_ble_eq_true rfl⟩ rfl hl.1 rfl (cat_le (Nat.le_of_ble_eq_true rfl)) dX11_newStep_62 (sh_Step_init N h q3 y2 y3 y4 y5) ⟨hcc.1, hcc.2⟩ e1 (fun v1 h2 H locs w hsh2 e2 => ?_)
  have hsl := hsh2.2.2.2.trans hsl
  refine W.widen (k := h_x g - n0) (n := h_s g - s0) hcc.1 hcc.2 ?_
  exact w_aret (v := y0) (Or.inl ⟨_, rfl⟩) C w e2 dX11_newStep_65
set_option maxRecDepth 20000 in
set_option maxHeartbeats 4000000 in
theorem b_K_newStep_58 {p : Program} {l : Launch} {e : Env} {s : State} {m : MethodId} {args : Array Value} {below : List Frame} {meth : Method} {c : Code} {D : va_G} {cy : cyT} {z : Nat} (C : MX p s m args meth c cX11_newStep 6 ((some (.object "SlopeKeeper$Step"))) RX11 (Cond.code yX11_newStep cX11_newStep 6 ((some (.object "SlopeKeeper$Step"))) :: GW)) (hst : l.stackTraces = false) (N : Nat) (n0 s0 : Nat) (hn0 : s.heap.size = n0) {r : Option Nat} {g : hS}  : ∀  (cells slots : Nat) (h : hS) (y0 : Option Nat) (y1 : Option Nat) (y2 : Int32) (y3 : Int32) (y4 : Int32) (y5 : Option Nat) (H : Heap) (locs : List Loc) (ls : Array Slot), wd D cy z s cells h H locs → h_s h = s0 + slots → lv_has ls 6 [] → f_K_newStep_58 N   h y0 y1 y2 y3 y4 y5 = some (r, g) → W p l e { frames := 9, cells := h_x g - n0, slots := h_s g - s0, locals := 143 } s m args below meth c H locs cells slots (MQ below (eQ D cy z (rR r) g) args s (h_x g - n0) (h_s g - s0) (fun q => z ≤ q)) (F0 m 58 ls [va_rf y5, .int y4, .int y3, .int y2, va_rf y1, va_rf y0]) := by
  obtain ⟨hx, hb, hr, hml, hown, hts, hlk⟩ := id C
  intro cells slots h y0 y1 y2 y3 y4 y5 H locs ls w hsl hl hE
  have hcc : cells ≤ h_x g - n0 ∧ slots ≤ h_s g - s0 := by
    have q1 := mo_K_newStep_58 N  h y0 y1 y2 y3 y4 y5 _ _ hE
    have q2 := wd_x w
    have q3 := q1.1
    have q4 := q1.2.1
    omega
  unfold f_K_newStep_58 at hE
  refine lv_goto (tgt := 62) hx hb dX11_newStep_58 (by decide) ?_
  exact b_K_newStep_62 C hst N n0 s0 hn0   _ _ h y0 y1 y2 y3 y4 y5 _ _ ls w hsl (lv_sub hl [] rfl) hE
set_option maxRecDepth 20000 in
set_option maxHeartbeats 4000000 in
theorem b_K_newStep_55 {p : Program} {l : Launch} {e : Env} {s : State} {m : MethodId} {args : Array Value} {below : List Frame} {meth : Method} {c : Code} {D : va_G} {cy : cyT} {z : Nat} (C : MX p s m args meth c cX11_newStep 6 ((some (.object "SlopeKeeper$Step"))) RX11 (Cond.code yX11_newStep cX11_newStep 6 ((some (.object "SlopeKeeper$Step"))) :: GW)) (hst : l.stackTraces = false) (N : Nat) (n0 s0 : Nat) (hn0 : s.heap.size = n0) {r : Option Nat} {g : hS}  : ∀  (cells slots : Nat) (h : hS) (y0 : Option Nat) (y1 : Option Nat) (y2 : Int32) (y3 : Int32) (y4 : Int32) (y5 : Option Nat) (y6 : Option Nat) (H : Heap) (locs : List Loc) (ls : Array Slot), wd D cy z s cells h H locs → h_s h = s0 + slots → lv_has ls 6 [] → f_K_newStep_55 N   h y0 y1 y2 y3 y4 y5 y6 = some (r, g) → W p l e { frames := 9, cells := h_x g - n0, slots := h_s g - s0, locals := 143 } s m args below meth c H locs cells slots (MQ below (eQ D cy z (rR r) g) args s (h_x g - n0) (h_s g - s0) (fun q => z ≤ q)) (F0 m 55 ls [va_rf y6, va_rf y5, .int y4, .int y3, .int y2, va_rf y1, va_rf y0]) := by
  obtain ⟨hx, hb, hr, hml, hown, hts, hlk⟩ := id C
  intro cells slots h y0 y1 y2 y3 y4 y5 y6 H locs ls w hsl hl hE
  have hcc : cells ≤ h_x g - n0 ∧ slots ≤ h_s g - s0 := by
    have q1 := mo_K_newStep_55 N  h y0 y1 y2 y3 y4 y5 y6 _ _ hE
    have q2 := wd_x w
    have q3 := q1.1
    have q4 := q1.2.1
    omega
  unfold f_K_newStep_55 at hE
  refine w_VAR GW_good (n := 1) (F := 2) (Lc := 82) (o := y5) (av := [va_rf y6]) (rest := [.int y4, .int y3, .int y2, va_rf y1, va_rf y0]) C w rfl (by decide) (fun a r g hf => k_Shelf_keep l D cy z N h a y6 r g hf) gw_16_6 gw_16_7 gw_16_8 gw_2_4 gw_16_9 (by decide +kernel) ⟨Nat.le_of_ble_eq_true rfl, Nat.le_of_ble_eq_true rfl⟩ rfl hl.1 rfl (cat_up (cat_c1 rfl (cat_c1 rfl (cat_c1 rfl (cat_c1 (va_rf_cat _) (cat_c1 (va_rf_cat _) cat_n))))) (Nat.le_of_ble_eq_true rfl)) dX11_newStep_55 (fun a => (mo_Shelf_keep N h a y6)) (fun a v1 h2 q1 q2 => by have u1 := (mo_Shelf_keep N h a y6) _ _ q1; have u2 := mo_K_newStep_58 N   h2 y0 y1 y2 y3 y4 v1 _ _ q2; have u3 := wd_x w; have u4 := u1.1; have u5 := u1.2.1; have u6 := u2.1; have u7 := u2.2.1; show cells + _ ≤ h_x g - n0 ∧ slots + _ ≤ h_s g - s0; omega) hE (fun v1 h2 H locs w hsh2 e1 => ?_)
  exact b_K_newStep_58 C hst N n0 s0 hn0   _ _ h2 y0 y1 y2 y3 y4 v1 _ _ ls w (by have u5 := hsh2.2.1; have u8 := hsl; omega) (lv_sub hl [] rfl) e1
set_option maxRecDepth 20000 in
set_option maxHeartbeats 4000000 in
theorem b_K_newStep_33 {p : Program} {l : Launch} {e : Env} {s : State} {m : MethodId} {args : Array Value} {below : List Frame} {meth : Method} {c : Code} {D : va_G} {cy : cyT} {z : Nat} (C : MX p s m args meth c cX11_newStep 6 ((some (.object "SlopeKeeper$Step"))) RX11 (Cond.code yX11_newStep cX11_newStep 6 ((some (.object "SlopeKeeper$Step"))) :: GW)) (hst : l.stackTraces = false) (N : Nat) (n0 s0 : Nat) (hn0 : s.heap.size = n0) {r : Option Nat} {g : hS}  : ∀  (cells slots : Nat) (h : hS) (th : Nat) (x1 : Int32) (x4 : Int32) (x5 : Int32) (y0 : Option Nat) (H : Heap) (locs : List Loc) (ls : Array Slot), wd D cy z s cells h H locs → h_s h = s0 + slots → lv_has ls 6 [(0, .ref th), (1, .int x1), (4, .int x4), (5, .int x5)] → f_K_newStep_33 N   h th x1 x4 x5 y0 = some (r, g) → W p l e { frames := 9, cells := h_x g - n0, slots := h_s g - s0, locals := 143 } s m args below meth c H locs cells slots (MQ below (eQ D cy z (rR r) g) args s (h_x g - n0) (h_s g - s0) (fun q => z ≤ q)) (F0 m 33 ls [va_rf y0]) := by
  obtain ⟨hx, hb, hr, hml, hown, hts, hlk⟩ := id C
  intro cells slots h th x1 x4 x5 y0 H locs ls w hsl hl hE
  have hcc : cells ≤ h_x g - n0 ∧ slots ≤ h_s g - s0 := by
    have q1 := mo_K_newStep_33 N  h th x1 x4 x5 y0 _ _ hE
    have q2 := wd_x w
    have q3 := q1.1
    have q4 := q1.2.1
    omega
  unfold f_K_newStep_33 at hE
  refine lv_dup hx hb dX11_newStep_33 (va_rf_cat _) ?_
  refine lv_iload_n hx hb dX11_newStep_34 rfl (lv_at hl 1 rfl) ?_
  refine lv_iload hx hb dX11_newStep_35 (lv_at hl 2 rfl) ?_
  refine lv_iload hx hb dX11_newStep_37 (lv_at hl 3 rfl) ?_
  refine lv_iload_n hx hb dX11_newStep_39 rfl (lv_at hl 1 rfl) ?_
  refine lv_bipush (v := 8) hx hb dX11_newStep_40 (by decide) ?_
  refine w_icmp_ne (tgt := 61) C dX11_newStep_42 (by decide) hE (fun hc e1 => ?_) (fun hc e1 => ?_)
  · refine lv_null hx hb dX11_newStep_61 ?_
    exact b_K_newStep_62 C hst N n0 s0 hn0   _ _ h y0 y0 x1 x4 x5 none _ _ ls w hsl (lv_sub hl [] rfl) e1
  · refine lv_aload_n hx hb dX11_newStep_45 rfl (lv_at hl 0 rfl) ?_
    refine w_gR (r := some th) (ci := 12) (k := 5) C w rfl (by decide) (GF_wsX110 _) (by decide) rfl (List.mem_cons_of_mem _ gw_2_5) rfl dX11_newStep_46 e1 (fun v1 e2 => ?_)
    refine lv_aload_n hx hb dX11_newStep_49 rfl (lv_at hl 0 rfl) ?_
    refine lv_iload hx hb dX11_newStep_50 (lv_at hl 2 rfl) ?_
    refine w_VAR GW_good (n := 1) (F := 8) (Lc := 122) (o := some th) (av := [.int x4]) (rest := [va_rf v1, .int x5, .int x4, .int x1, va_rf y0, va_rf y0]) C w rfl (by decide) (fun a r g hf => k_K_curveOf l hst D cy z N h a x4 (Sum.inl r) g (fN_some hf)) gw_16_2 gw_16_3 gw_16_4 gw_1_2 gw_16_5 (by decide +kernel) ⟨Nat.le_of_ble_eq_true rfl, Nat.le_of_ble_eq_true rfl⟩ rfl hl.1 rfl (cat_up (cat_c1 (va_rf_cat _) (cat_c1 rfl (cat_c1 rfl (cat_c1 rfl (cat_c1 (va_rf_cat _) (cat_c1 (va_rf_cat _) cat_n)))))) (Nat.le_of_ble_eq_true rfl)) dX11_newStep_52 (fun a => (Mo_fN (mo_K_curveOf N h a x4))) (fun a v2 h3 q1 q2 => by have u1 := (Mo_fN (mo_K_curveOf N h a x4)) _ _ q1; have u2 := mo_K_newStep_55 N   h3 y0 y0 x1 x4 x5 v1 v2 _ _ q2; have u3 := wd_x w; have u4 := u1.1; have u5 := u1.2.1; have u6 := u2.1; have u7 := u2.2.1; show cells + _ ≤ h_x g - n0 ∧ slots + _ ≤ h_s g - s0; omega) e2 (fun v2 h3 H locs w hsh3 e3 => ?_)
    exact b_K_newStep_55 C hst N n0 s0 hn0   _ _ h3 y0 y0 x1 x4 x5 v1 v2 _ _ ls w (by have u5 := hsh3.2.1; have u8 := hsl; omega) (lv_sub hl [] rfl) e3
set_option maxRecDepth 20000 in
set_option maxHeartbeats 4000000 in
theorem b_K_newStep_28 {p : Program} {l : Launch} {e : Env} {s : State} {m : MethodId} {args : Array Value} {below : List Frame} {meth : Method} {c : Code} {D : va_G} {cy : cyT} {z : Nat} (C : MX p s m args meth c cX11_newStep 6 ((some (.object "SlopeKeeper$Step"))) RX11 (Cond.code yX11_newStep cX11_newStep 6 ((some (.object "SlopeKeeper$Step"))) :: GW)) (hst : l.stackTraces = false) (N : Nat) (n0 s0 : Nat) (hn0 : s.heap.size = n0) {r : Option Nat} {g : hS}  : ∀  (cells slots : Nat) (h : hS) (th : Nat) (x1 : Int32) (x4 : Int32) (y0 : Int32) (H : Heap) (locs : List Loc) (ls : Array Slot), wd D cy z s cells h H locs → h_s h = s0 + slots → lv_has ls 6 [(0, .ref th), (1, .int x1), (4, .int x4)] → f_K_newStep_28 N   h th x1 x4 y0 = some (r, g) → W p l e { frames := 9, cells := h_x g - n0, slots := h_s g - s0, locals := 143 } s m args below meth c H locs cells slots (MQ below (eQ D cy z (rR r) g) args s (h_x g - n0) (h_s g - s0) (fun q => z ≤ q)) (F0 m 28 ls [.int y0]) := by
  obtain ⟨hx, hb, hr, hml, hown, hts, hlk⟩ := id C
  intro cells slots h th x1 x4 y0 H locs ls w hsl hl hE
  have hcc : cells ≤ h_x g - n0 ∧ slots ≤ h_s g - s0 := by
    have q1 := mo_K_newStep_28 N  h th x1 x4 y0 _ _ hE
    have q2 := wd_x w
    have q3 := q1.1
    have q4 := q1.2.1
    omega
  unfold f_K_newStep_28 at hE
  refine lv_istore (lv' := [(5, .int y0), (0, .ref th), (1, .int x1), (4, .int x4)]) hx hb dX11_newStep_28 hl (by decide) rfl (fun ls hl => ?_)
  have hm := mo_K_newStep_33 N   (nw h 9 0 4) th x1 x4 y0 (some (h_x h)) _ _ hE
  have hm1 := hm.1
  have hm2 := hm.2.1
  rw [h_x_nw] at hm1
  rw [h_s_nw] at hm2
  have hwx := wd_x w
  refine w_newO (ci := 8) C w rfl (by decide) (GF_wsX70 _) tyX7 tyX7_ok (List.mem_cons_of_mem _ gw_15_22) (List.mem_cons_of_mem _ gw_15_23) (List.mem_cons_of_mem _ gw_16_0) (fun j hj => by rcases (show j = 0 ∨ j = 1 ∨ j = 2 ∨ j = 3 by omega) with rfl | rfl | rfl | rfl <;> rfl) dX11_newStep_30 hE (by show cells + 1 ≤ h_x g - n0; omega) (by show slots + _ ≤ h_s g - s0; omega) (fun H w e1 => ?_)
  exact b_K_newStep_33 C hst N n0 s0 hn0   (cells + 1) (slots + 4) (nw h 9 0 4) th x1 x4 y0 (some (h_x h)) _ _ ls w (by first | (rw [h_s_nw, hsl]; done) | (rw [h_s_nw, hsl]; omega)) (lv_sub hl [1, 2, 3, 0] rfl) e1
set_option maxRecDepth 20000 in
set_option maxHeartbeats 4000000 in
theorem b_K_newStep_13 {p : Program} {l : Launch} {e : Env} {s : State} {m : MethodId} {args : Array Value} {below : List Frame} {meth : Method} {c : Code} {D : va_G} {cy : cyT} {z : Nat} (C : MX p s m args meth c cX11_newStep 6 ((some (.object "SlopeKeeper$Step"))) RX11 (Cond.code yX11_newStep cX11_newStep 6 ((some (.object "SlopeKeeper$Step"))) :: GW)) (hst : l.stackTraces = false) (N : Nat) (n0 s0 : Nat) (hn0 : s.heap.size = n0) {r : Option Nat} {g : hS}  : ∀  (cells slots : Nat) (h : hS) (th : Nat) (x1 : Int32) (x3 : Int32) (y0 : Int32) (H : Heap) (locs : List Loc) (ls : Array Slot), wd D cy z s cells h H locs → h_s h = s0 + slots → lv_has ls 6 [(0, .ref th), (1, .int x1), (3, .int x3)] → f_K_newStep_13 N   h th x1 x3 y0 = some (r, g) → W p l e { frames := 9, cells := h_x g - n0, slots := h_s g - s0, locals := 143 } s m args below meth c H locs cells slots (MQ below (eQ D cy z (rR r) g) args s (h_x g - n0) (h_s g - s0) (fun q => z ≤ q)) (F0 m 13 ls [.int y0]) := by
  obtain ⟨hx, hb, hr, hml, hown, hts, hlk⟩ := id C
  intro cells slots h th x1 x3 y0 H locs ls w hsl hl hE
  have hcc : cells ≤ h_x g - n0 ∧ slots ≤ h_s g - s0 := by
    have q1 := mo_K_newStep_13 N  h th x1 x3 y0 _ _ hE
    have q2 := wd_x w
    have q3 := q1.1
    have q4 := q1.2.1
    omega
  unfold f_K_newStep_13 at hE
  refine lv_istore (lv' := [(4, .int y0), (0, .ref th), (1, .int x1), (3, .int x3)]) hx hb dX11_newStep_13 hl (by decide) rfl (fun ls hl => ?_)
  refine lv_iload_n hx hb dX11_newStep_15 rfl (lv_at hl 2 rfl) ?_
  refine w_SI GW_good (n := 1) (F := 1) (Lc := 20) (av := [.int x1]) (rest := []) C w (fun r g hf => k_K_numbersOf l D cy z N h x1 r g hf) gw_16_1 gw_14_6 gw_1_2 gw_14_7 (by decide +kernel) ⟨Nat.le_of_ble_eq_true rfl, Nat.le_of_ble_eq_true rfl⟩ rfl hl.1 rfl (Nat.le_of_ble_eq_true rfl) dX11_newStep_16 (sh_K_numbersOf N h x1) ⟨hcc.1, hcc.2⟩ hE (fun v1 h2 H locs w hsh2 e1 => ?_)
  have hsl := hsh2.2.2.2.trans hsl
  refine lv_iconst (v := 2) hx hb dX11_newStep_19 (by decide) ?_
  refine w_icmp_ne (tgt := 27) C dX11_newStep_20 (by decide) e1 (fun hc e2 => ?_) (fun hc e2 => ?_)
  · refine lv_iconst (v := 0) hx hb dX11_newStep_27 (by decide) ?_
    exact b_K_newStep_28 C hst N n0 s0 hn0   _ _ h2 th x1 y0 (0 : Int32) _ _ ls w hsl (lv_sub hl [1, 2, 0] rfl) e2
  · refine lv_iload_n hx hb dX11_newStep_23 rfl (lv_at hl 3 rfl) ?_
    refine lv_goto (tgt := 28) hx hb dX11_newStep_24 (by decide) ?_
    exact b_K_newStep_28 C hst N n0 s0 hn0   _ _ h2 th x1 y0 x3 _ _ ls w hsl (lv_sub hl [1, 2, 0] rfl) e2
set_option maxRecDepth 20000 in
set_option maxHeartbeats 4000000 in
theorem k_K_newStep (l : Launch) (hst : l.stackTraces = false) (D : va_G) (cy : cyT) (z : Nat) (N : Nat) (h : hS) (th : Nat) (x1 : Int32) (x2 : Int32) (x3 : Int32) (r : Option Nat) (g : hS) (hE : f_K_newStep N h th x1 x2 x3 = some (r, g)) : ct l yX11_newStep (Cond.code yX11_newStep cX11_newStep 6 ((some (.object "SlopeKeeper$Step"))) :: GW) { frames := 9, cells := h_x g - h_x h, slots := h_s g - h_s h, locals := 143 } D cy z h [.ref th, .int x1, .int x2, .int x3] (rR r) g := by
  refine Met.ofW (cc := cX11_newStep) (maxL := 6) (ret := (some (.object "SlopeKeeper$Step"))) (by decide) rfl ?_
  intro p e s m args below meth c s₁ B hml hv
  obtain ⟨rfl, hw⟩ := hv
  have C : MX p s m ([.ref th, .int x1, .int x2, .int x3] : List Value).toArray meth c cX11_newStep 6 ((some (.object "SlopeKeeper$Step"))) RX11 (Cond.code yX11_newStep cX11_newStep 6 ((some (.object "SlopeKeeper$Step"))) :: GW) := ⟨B.exec, B.bytes, B.returns, hml, findClass_of_methodNamed B.named, atoms_spec (ws := Cond.code yX11_newStep cX11_newStep 6 ((some (.object "SlopeKeeper$Step"))) :: GW) B.pre, B.notSynchronized⟩
  obtain ⟨hx, hb, hr, hml, hown, hts, hlk⟩ := id C
  have w := wd_of hw
  have hsl : h_s h = h_s h + 0 := rfl
  have hn0 : s.heap.size = h_x h := (wd_x w).1
  obtain ⟨ls, hen, hl⟩ : ∃ ls : Array Slot, entryFrame m ([.ref th, .int x1, .int x2, .int x3] : List Value).toArray 6 = F0 m 0 ls [] ∧ lv_has ls 6 [(0, .ref th), (1, .int x1), (2, .int x2), (3, .int x3)] := by
    exact ⟨_, lg_entry_eq _ _ _, lv_entry _ (Nat.le_of_ble_eq_true rfl)⟩
  rw [hen]
  have hcc : 0 ≤ h_x g - h_x h ∧ 0 ≤ h_s g - h_s h := ⟨Nat.zero_le _, Nat.zero_le _⟩
  unfold f_K_newStep at hE
  refine lv_iload_n hx hb dX11_newStep_0 rfl (lv_at hl 1 rfl) ?_
  refine w_SI GW_good (n := 1) (F := 1) (Lc := 20) (av := [.int x1]) (rest := []) C w (fun r g hf => k_K_numbersOf l D cy z N h x1 r g hf) gw_16_1 gw_14_6 gw_1_2 gw_14_7 (by decide +kernel) ⟨Nat.le_of_ble_eq_true rfl, Nat.le_of_ble_eq_true rfl⟩ rfl hl.1 rfl (Nat.le_of_ble_eq_true rfl) dX11_newStep_1 (sh_K_numbersOf N h x1) ⟨hcc.1, hcc.2⟩ hE (fun v1 h2 H locs w hsh2 e1 => ?_)
  have hsl := hsh2.2.2.2.trans hsl
  refine lv_iconst (v := 1) hx hb dX11_newStep_4 (by decide) ?_
  refine w_icmp_lt (tgt := 12) C dX11_newStep_5 (by decide) e1 (fun hc e2 => ?_) (fun hc e2 => ?_)
  · refine lv_iconst (v := 0) hx hb dX11_newStep_12 (by decide) ?_
    exact b_K_newStep_13 C hst N (h_x h) (h_s h) hn0   _ _ h2 th x1 x3 (0 : Int32) _ _ ls w hsl (lv_sub hl [0, 1, 3] rfl) e2
  · refine lv_iload_n hx hb dX11_newStep_8 rfl (lv_at hl 2 rfl) ?_
    refine lv_goto (tgt := 13) hx hb dX11_newStep_9 (by decide) ?_
    exact b_K_newStep_13 C hst N (h_x h) (h_s h) hn0   _ _ h2 th x1 x3 x2 _ _ ls w hsl (lv_sub hl [0, 1, 3] rfl) e2
set_option maxRecDepth 20000 in
set_option maxHeartbeats 4000000 in
theorem b_K_draftReadSteps_71 {p : Program} {l : Launch} {e : Env} {s : State} {m : MethodId} {args : Array Value} {below : List Frame} {meth : Method} {c : Code} {D : va_G} {cy : cyT} {z : Nat} (C : MX p s m args meth c cX11_draftReadSteps 2 (none) RX11 (Cond.code yX11_draftReadSteps cX11_draftReadSteps 2 (none) :: GW)) (hst : l.stackTraces = false) (N : Nat) (n0 s0 : Nat) (hn0 : s.heap.size = n0) {r : Unit} {g : hS}  : ∀  (cells slots : Nat) (h : hS)  (H : Heap) (locs : List Loc) (ls : Array Slot), wd D cy z s cells h H locs → h_s h = s0 + slots → lv_has ls 2 [] → f_K_draftReadSteps_71 N   h  = some (r, g) → W p l e { frames := 10, cells := h_x g - n0, slots := h_s g - s0, locals := 168 } s m args below meth c H locs cells slots (MQ below (eQ D cy z (rV r) g) args s (h_x g - n0) (h_s g - s0) (fun q => z ≤ q)) (F0 m 71 ls []) := by
  obtain ⟨hx, hb, hr, hml, hown, hts, hlk⟩ := id C
  intro cells slots h  H locs ls w hsl hl hE
  have hcc : cells ≤ h_x g - n0 ∧ slots ≤ h_s g - s0 := by
    have q1 := mo_K_draftReadSteps_71 N  h  _ _ hE
    have q2 := wd_x w
    have q3 := q1.1
    have q4 := q1.2.1
    omega
  unfold f_K_draftReadSteps_71 at hE
  refine W.widen (k := h_x g - n0) (n := h_s g - s0) hcc.1 hcc.2 ?_
  exact w_vret C w hE dX11_draftReadSteps_71
set_option maxRecDepth 20000 in
set_option maxHeartbeats 4000000 in
theorem b_K_draftReadSteps_65 {p : Program} {l : Launch} {e : Env} {s : State} {m : MethodId} {args : Array Value} {below : List Frame} {meth : Method} {c : Code} {D : va_G} {cy : cyT} {z : Nat} (C : MX p s m args meth c cX11_draftReadSteps 2 (none) RX11 (Cond.code yX11_draftReadSteps cX11_draftReadSteps 2 (none) :: GW)) (hst : l.stackTraces = false) (N : Nat) (n0 s0 : Nat) (hn0 : s.heap.size = n0) {r : Unit} {g : hS} {rc9 : hS → Nat → Int32 → Option (Unit × hS)} (hsh9 : ∀ (h : hS) (th : Nat) (x1 : Int32), Mo h (rc9 h th x1)) (hrc9 : ∀ (cells slots : Nat) (h : hS) (th : Nat) (x1 : Int32) (H : Heap) (locs : List Loc) (ls : Array Slot), wd D cy z s cells h H locs → h_s h = s0 + slots → lv_has ls 2 [(0, .ref th), (1, .int x1)] → rc9 h th x1 = some (r, g) → W p l e { frames := 10, cells := h_x g - n0, slots := h_s g - s0, locals := 168 } s m args below meth c H locs cells slots (MQ below (eQ D cy z (rV r) g) args s (h_x g - n0) (h_s g - s0) (fun q => z ≤ q)) (F0 m 9 ls [])) : ∀  (cells slots : Nat) (h : hS) (th : Nat) (x1 : Int32) (H : Heap) (locs : List Loc) (ls : Array Slot), wd D cy z s cells h H locs → h_s h = s0 + slots → lv_has ls 2 [(0, .ref th), (1, .int x1)] → f_K_draftReadSteps_65 N rc9  h th x1 = some (r, g) → W p l e { frames := 10, cells := h_x g - n0, slots := h_s g - s0, locals := 168 } s m args below meth c H locs cells slots (MQ below (eQ D cy z (rV r) g) args s (h_x g - n0) (h_s g - s0) (fun q => z ≤ q)) (F0 m 65 ls []) := by
  obtain ⟨hx, hb, hr, hml, hown, hts, hlk⟩ := id C
  intro cells slots h th x1 H locs ls w hsl hl hE
  have hcc : cells ≤ h_x g - n0 ∧ slots ≤ h_s g - s0 := by
    have q1 := mo_K_draftReadSteps_65 N hsh9 h th x1 _ _ hE
    have q2 := wd_x w
    have q3 := q1.1
    have q4 := q1.2.1
    omega
  unfold f_K_draftReadSteps_65 at hE
  obtain ⟨v1, ev1, e1⟩ := bn_some hE
  refine lv_iinc (v := v1) (lv' := [(1, .int v1), (0, .ref th)]) hx hb dX11_draftReadSteps_65 hl (k := 1) rfl (by rw [ev1]; rfl) (by decide) rfl (fun ls hl => ?_)
  refine lv_goto (tgt := 9) hx hb dX11_draftReadSteps_68 (by decide) ?_
  exact hrc9 _ _ h th v1 _ _ ls w hsl (lv_sub hl [1, 0] rfl) e1
set_option maxRecDepth 20000 in
set_option maxHeartbeats 4000000 in
theorem b_K_draftReadSteps_62 {p : Program} {l : Launch} {e : Env} {s : State} {m : MethodId} {args : Array Value} {below : List Frame} {meth : Method} {c : Code} {D : va_G} {cy : cyT} {z : Nat} (C : MX p s m args meth c cX11_draftReadSteps 2 (none) RX11 (Cond.code yX11_draftReadSteps cX11_draftReadSteps 2 (none) :: GW)) (hst : l.stackTraces = false) (N : Nat) (n0 s0 : Nat) (hn0 : s.heap.size = n0) {r : Unit} {g : hS} {rc9 : hS → Nat → Int32 → Option (Unit × hS)} (hsh9 : ∀ (h : hS) (th : Nat) (x1 : Int32), Mo h (rc9 h th x1)) (hrc9 : ∀ (cells slots : Nat) (h : hS) (th : Nat) (x1 : Int32) (H : Heap) (locs : List Loc) (ls : Array Slot), wd D cy z s cells h H locs → h_s h = s0 + slots → lv_has ls 2 [(0, .ref th), (1, .int x1)] → rc9 h th x1 = some (r, g) → W p l e { frames := 10, cells := h_x g - n0, slots := h_s g - s0, locals := 168 } s m args below meth c H locs cells slots (MQ below (eQ D cy z (rV r) g) args s (h_x g - n0) (h_s g - s0) (fun q => z ≤ q)) (F0 m 9 ls [])) : ∀  (cells slots : Nat) (h : hS) (th : Nat) (x1 : Int32) (y0 : Option Nat) (y1 : Int32) (y2 : Option Nat) (H : Heap) (locs : List Loc) (ls : Array Slot), wd D cy z s cells h H locs → h_s h = s0 + slots → lv_has ls 2 [(0, .ref th), (1, .int x1)] → f_K_draftReadSteps_62 N rc9  h th x1 y0 y1 y2 = some (r, g) → W p l e { frames := 10, cells := h_x g - n0, slots := h_s g - s0, locals := 168 } s m args below meth c H locs cells slots (MQ below (eQ D cy z (rV r) g) args s (h_x g - n0) (h_s g - s0) (fun q => z ≤ q)) (F0 m 62 ls [va_rf y2, .int y1, va_rf y0]) := by
  obtain ⟨hx, hb, hr, hml, hown, hts, hlk⟩ := id C
  intro cells slots h th x1 y0 y1 y2 H locs ls w hsl hl hE
  have hcc : cells ≤ h_x g - n0 ∧ slots ≤ h_s g - s0 := by
    have q1 := mo_K_draftReadSteps_62 N hsh9 h th x1 y0 y1 y2 _ _ hE
    have q2 := wd_x w
    have q3 := q1.1
    have q4 := q1.2.1
    omega
  unfold f_K_draftReadSteps_62 at hE
  refine w_VAV GW_good (n := 2) (F := 1) (Lc := 23) (o := y0) (av := [.int y1, va_rf y2]) (rest := []) C w rfl (by decide) (fun a r g hf => k_Chain_insert l D cy z N h a y1 y2 r g hf) gw_19_9 gw_19_10 gw_19_11 gw_3_6 gw_19_12 (by decide +kernel) ⟨Nat.le_of_ble_eq_true rfl, Nat.le_of_ble_eq_true rfl⟩ rfl hl.1 rfl (Nat.le_of_ble_eq_true rfl) dX11_draftReadSteps_62 (fun a => (mo_Chain_insert N h a y1 y2)) (fun a v1 h2 q1 q2 => by have u1 := (mo_Chain_insert N h a y1 y2) _ _ q1; have u2 := mo_K_draftReadSteps_65 N hsh9  h2 th x1 _ _ q2; have u3 := wd_x w; have u4 := u1.1; have u5 := u1.2.1; have u6 := u2.1; have u7 := u2.2.1; show cells + _ ≤ h_x g - n0 ∧ slots + _ ≤ h_s g - s0; omega) hE (fun v1 h2 H locs w hsh2 e1 => ?_)
  exact b_K_draftReadSteps_65 C hst N n0 s0 hn0 hsh9 hrc9  _ _ h2 th x1 _ _ ls w (by have u5 := hsh2.2.1; have u8 := hsl; omega) (lv_sub hl [0, 1] rfl) e1
set_option maxRecDepth 20000 in
set_option maxHeartbeats 4000000 in
theorem b_K_draftReadSteps_9 {p : Program} {l : Launch} {e : Env} {s : State} {m : MethodId} {args : Array Value} {below : List Frame} {meth : Method} {c : Code} {D : va_G} {cy : cyT} {z : Nat} (C : MX p s m args meth c cX11_draftReadSteps 2 (none) RX11 (Cond.code yX11_draftReadSteps cX11_draftReadSteps 2 (none) :: GW)) (hst : l.stackTraces = false) (N : Nat) (n0 s0 : Nat) (hn0 : s.heap.size = n0) {r : Unit} {g : hS}  : ∀ (n : Nat) (cells slots : Nat) (h : hS) (th : Nat) (x1 : Int32) (H : Heap) (locs : List Loc) (ls : Array Slot), wd D cy z s cells h H locs → h_s h = s0 + slots → lv_has ls 2 [(0, .ref th), (1, .int x1)] → f_K_draftReadSteps_9 N  n h th x1 = some (r, g) → W p l e { frames := 10, cells := h_x g - n0, slots := h_s g - s0, locals := 168 } s m args below meth c H locs cells slots (MQ below (eQ D cy z (rV r) g) args s (h_x g - n0) (h_s g - s0) (fun q => z ≤ q)) (F0 m 9 ls []) := by
  obtain ⟨hx, hb, hr, hml, hown, hts, hlk⟩ := id C
  intro n
  induction n with
  | zero =>
    intro cells slots h th x1 H locs ls w hsl hl hE
    cases hE
  | succ n ih =>
    intro cells slots h th x1 H locs ls w hsl hl hE
    have hcc : cells ≤ h_x g - n0 ∧ slots ≤ h_s g - s0 := by
      have q1 := mo_K_draftReadSteps_9 N  (n + 1) h th x1 _ _ hE
      have q2 := wd_x w
      have q3 := q1.1
      have q4 := q1.2.1
      omega
    unfold f_K_draftReadSteps_9 at hE
    refine lv_iload_n hx hb dX11_draftReadSteps_9 rfl (lv_at hl 1 rfl) ?_
    refine lv_aload_n hx hb dX11_draftReadSteps_10 rfl (lv_at hl 0 rfl) ?_
    refine w_gR (r := some th) (ci := 12) (k := 3) C w rfl (by decide) (GF_wsX110 _) (by decide) rfl (List.mem_cons_of_mem _ gw_1_21) rfl dX11_draftReadSteps_11 hE (fun v1 e1 => ?_)
    refine w_gI (r := v1) (ci := 5) (k := 4) C w rfl (by decide) (GF_wsX40 _) (by decide) rfl (List.mem_cons_of_mem _ gw_15_10) rfl dX11_draftReadSteps_14 e1 (fun v2 e2 => ?_)
    refine w_icmp_ge (tgt := 71) C dX11_draftReadSteps_17 (by decide) e2 (fun hc e3 => ?_) (fun hc e3 => ?_)
    · exact b_K_draftReadSteps_71 C hst N n0 s0 hn0   _ _ h  _ _ ls w hsl (lv_sub hl [] rfl) e3
    · refine lv_iload_n hx hb dX11_draftReadSteps_20 rfl (lv_at hl 1 rfl) ?_
      refine lv_bipush (v := 40) hx hb dX11_draftReadSteps_21 (by decide) ?_
      refine w_icmp_ge (tgt := 71) C dX11_draftReadSteps_23 (by decide) e3 (fun hc e4 => ?_) (fun hc e4 => ?_)
      · exact b_K_draftReadSteps_71 C hst N n0 s0 hn0   _ _ h  _ _ ls w hsl (lv_sub hl [] rfl) e4
      · refine lv_aload_n hx hb dX11_draftReadSteps_26 rfl (lv_at hl 0 rfl) ?_
        refine w_gR (r := some th) (ci := 12) (k := 15) C w rfl (by decide) (GF_wsX110 _) (by decide) rfl (List.mem_cons_of_mem _ gw_3_7) rfl dX11_draftReadSteps_27 e4 (fun v3 e5 => ?_)
        refine lv_iload_n hx hb dX11_draftReadSteps_30 rfl (lv_at hl 1 rfl) ?_
        refine lv_aload_n hx hb dX11_draftReadSteps_31 rfl (lv_at hl 0 rfl) ?_
        refine lv_aload_n hx hb dX11_draftReadSteps_32 rfl (lv_at hl 0 rfl) ?_
        refine w_gR (r := some th) (ci := 12) (k := 3) C w rfl (by decide) (GF_wsX110 _) (by decide) rfl (List.mem_cons_of_mem _ gw_1_21) rfl dX11_draftReadSteps_33 e5 (fun v4 e6 => ?_)
        refine w_gR (r := v4) (ci := 5) (k := 0) C w rfl (by decide) (GF_wsX40 _) (by decide) rfl (List.mem_cons_of_mem _ gw_15_11) rfl dX11_draftReadSteps_36 e6 (fun v5 e7 => ?_)
        refine lv_iload_n hx hb dX11_draftReadSteps_39 rfl (lv_at hl 1 rfl) ?_
        refine w_aI (r := v5) C w dX11_draftReadSteps_40 e7 (fun v6 e8 => ?_)
        refine lv_aload_n hx hb dX11_draftReadSteps_41 rfl (lv_at hl 0 rfl) ?_
        refine w_gR (r := some th) (ci := 12) (k := 3) C w rfl (by decide) (GF_wsX110 _) (by decide) rfl (List.mem_cons_of_mem _ gw_1_21) rfl dX11_draftReadSteps_42 e8 (fun v7 e9 => ?_)
        refine w_gR (r := v7) (ci := 5) (k := 1) C w rfl (by decide) (GF_wsX40 _) (by decide) rfl (List.mem_cons_of_mem _ gw_15_12) rfl dX11_draftReadSteps_45 e9 (fun v8 e10 => ?_)
        refine lv_iload_n hx hb dX11_draftReadSteps_48 rfl (lv_at hl 1 rfl) ?_
        refine w_aI (r := v8) C w dX11_draftReadSteps_49 e10 (fun v9 e11 => ?_)
        refine lv_aload_n hx hb dX11_draftReadSteps_50 rfl (lv_at hl 0 rfl) ?_
        refine w_gR (r := some th) (ci := 12) (k := 3) C w rfl (by decide) (GF_wsX110 _) (by decide) rfl (List.mem_cons_of_mem _ gw_1_21) rfl dX11_draftReadSteps_51 e11 (fun v10 e12 => ?_)
        refine w_gR (r := v10) (ci := 5) (k := 2) C w rfl (by decide) (GF_wsX40 _) (by decide) rfl (List.mem_cons_of_mem _ gw_15_13) rfl dX11_draftReadSteps_54 e12 (fun v11 e13 => ?_)
        refine lv_iload_n hx hb dX11_draftReadSteps_57 rfl (lv_at hl 1 rfl) ?_
        refine w_aI (r := v11) C w dX11_draftReadSteps_58 e13 (fun v12 e14 => ?_)
        refine w_VAR GW_good (n := 3) (F := 9) (Lc := 143) (o := some th) (av := [.int v6, .int v9, .int v12]) (rest := [.int x1, va_rf v3]) C w rfl (by decide) (fun a r g hf => k_K_newStep l hst D cy z N h a v6 v9 v12 r g hf) gw_15_18 gw_15_19 gw_15_20 gw_1_2 gw_15_21 (by decide +kernel) ⟨Nat.le_of_ble_eq_true rfl, Nat.le_of_ble_eq_true rfl⟩ rfl hl.1 rfl (cat_le (Nat.le_of_ble_eq_true rfl)) dX11_draftReadSteps_59 (fun a => (mo_K_newStep N h a v6 v9 v12)) (fun a v13 h14 q1 q2 => by have u1 := (mo_K_newStep N h a v6 v9 v12) _ _ q1; have u2 := mo_K_draftReadSteps_62 N (mo_K_draftReadSteps_9 N  n)  h14 th x1 v3 x1 v13 _ _ q2; have u3 := wd_x w; have u4 := u1.1; have u5 := u1.2.1; have u6 := u2.1; have u7 := u2.2.1; show cells + _ ≤ h_x g - n0 ∧ slots + _ ≤ h_s g - s0; omega) e14 (fun v13 h14 H locs w hsh14 e15 => ?_)
        exact b_K_draftReadSteps_62 C hst N n0 s0 hn0 (mo_K_draftReadSteps_9 N  n) ih  _ _ h14 th x1 v3 x1 v13 _ _ ls w (by have u5 := hsh14.2.1; have u8 := hsl; omega) (lv_sub hl [0, 1] rfl) e15
set_option maxRecDepth 20000 in
set_option maxHeartbeats 4000000 in
theorem k_K_draftReadSteps (l : Launch) (hst : l.stackTraces = false) (D : va_G) (cy : cyT) (z : Nat) (N : Nat) (h : hS) (th : Nat) (r : Unit) (g : hS) (hE : f_K_draftReadSteps N h th = some (r, g)) : ct l yX11_draftReadSteps (Cond.code yX11_draftReadSteps cX11_draftReadSteps 2 (none) :: GW) { frames := 10, cells := h_x g - h_x h, slots := h_s g - h_s h, locals := 168 } D cy z h [.ref th] (rV r) g := by
  refine Met.ofW (cc := cX11_draftReadSteps) (maxL := 2) (ret := none) (by decide) rfl ?_
  intro p e s m args below meth c s₁ B hml hv
  obtain ⟨rfl, hw⟩ := hv
  have C : MX p s m ([.ref th] : List Value).toArray meth c cX11_draftReadSteps 2 (none) RX11 (Cond.code yX11_draftReadSteps cX11_draftReadSteps 2 (none) :: GW) := ⟨B.exec, B.bytes, B.returns, hml, findClass_of_methodNamed B.named, atoms_spec (ws := Cond.code yX11_draftReadSteps cX11_draftReadSteps 2 (none) :: GW) B.pre, B.notSynchronized⟩
  obtain ⟨hx, hb, hr, hml, hown, hts, hlk⟩ := id C
  have w := wd_of hw
  have hsl : h_s h = h_s h + 0 := rfl
  have hn0 : s.heap.size = h_x h := (wd_x w).1
  obtain ⟨ls, hen, hl⟩ : ∃ ls : Array Slot, entryFrame m ([.ref th] : List Value).toArray 2 = F0 m 0 ls [] ∧ lv_has ls 2 [(0, .ref th)] := by
    exact ⟨_, lg_entry_eq _ _ _, lv_entry _ (Nat.le_of_ble_eq_true rfl)⟩
  rw [hen]
  have hcc : 0 ≤ h_x g - h_x h ∧ 0 ≤ h_s g - h_s h := ⟨Nat.zero_le _, Nat.zero_le _⟩
  unfold f_K_draftReadSteps at hE
  refine lv_aload_n hx hb dX11_draftReadSteps_0 rfl (lv_at hl 0 rfl) ?_
  refine w_gR (r := some th) (ci := 12) (k := 15) C w rfl (by decide) (GF_wsX110 _) (by decide) rfl (List.mem_cons_of_mem _ gw_3_7) rfl dX11_draftReadSteps_1 hE (fun v1 e1 => ?_)
  refine w_VV GW_good (n := 0) (F := 0) (Lc := 0) (o := v1) (av := []) (rest := []) C w rfl (by decide) (fun a r g hf => k_Chain_clear l D cy z N h a  r g hf) gw_15_14 gw_15_15 gw_15_16 gw_3_6 gw_15_17 (by decide +kernel) ⟨Nat.le_of_ble_eq_true rfl, Nat.le_of_ble_eq_true rfl⟩ rfl hl.1 rfl (Nat.le_of_ble_eq_true rfl) dX11_draftReadSteps_4 (fun a => (sh_Chain_clear N h a )) ⟨hcc.1, hcc.2⟩ e1 (fun v2 h3 H locs w hsh3 e2 => ?_)
  have hsl := hsh3.2.2.2.trans hsl
  refine lv_iconst (v := 0) hx hb dX11_draftReadSteps_7 (by decide) ?_
  refine lv_istore_n (lv' := [(1, .int (0 : Int32)), (0, .ref th)]) hx hb dX11_draftReadSteps_8 rfl hl (by decide) rfl (fun ls hl => ?_)
  exact b_K_draftReadSteps_9 C hst N (h_x h) (h_s h) hn0  N _ _ h3 th (0 : Int32) _ _ ls w hsl (lv_sub hl [1, 0] rfl) e2
set_option maxRecDepth 20000 in
set_option maxHeartbeats 4000000 in
theorem b_K_become_27 {p : Program} {l : Launch} {e : Env} {s : State} {m : MethodId} {args : Array Value} {below : List Frame} {meth : Method} {c : Code} {D : va_G} {cy : cyT} {z : Nat} (C : MX p s m args meth c cX11_become 2 ((some .int)) RX11 (Cond.code yX11_become cX11_become 2 ((some .int)) :: GW)) (hst : l.stackTraces = false) (N : Nat) (n0 s0 : Nat) (hn0 : s.heap.size = n0) {r : Int32} {g : hS}  : ∀  (cells slots : Nat) (h : hS) (th : Nat) (H : Heap) (locs : List Loc) (ls : Array Slot), wd D cy z s cells h H locs → h_s h = s0 + slots → lv_has ls 2 [(0, .ref th)] → f_K_become_27 N   h th = some (r, g) → W p l e { frames := 9, cells := h_x g - n0, slots := h_s g - s0, locals := 143 } s m args below meth c H locs cells slots (MQ below (eQ D cy z (rI r) g) args s (h_x g - n0) (h_s g - s0) (fun q => z ≤ q)) (F0 m 27 ls []) := by
  obtain ⟨hx, hb, hr, hml, hown, hts, hlk⟩ := id C
  intro cells slots h th H locs ls w hsl hl hE
  have hcc : cells ≤ h_x g - n0 ∧ slots ≤ h_s g - s0 := by
    have q1 := mo_K_become_27 N  h th _ _ hE
    have q2 := wd_x w
    have q3 := q1.1
    have q4 := q1.2.1
    omega
  unfold f_K_become_27 at hE
  refine lv_aload_n hx hb dX11_become_27 rfl (lv_at hl 0 rfl) ?_
  refine w_gR (r := some th) (ci := 12) (k := 15) C w rfl (by decide) (GF_wsX110 _) (by decide) rfl (List.mem_cons_of_mem _ gw_3_7) rfl dX11_become_28 hE (fun v1 e1 => ?_)
  refine w_gI (r := v1) (ci := 2) (k := 1) C w rfl (by decide) (GF_wsX10 _) (by decide) rfl (List.mem_cons_of_mem _ gw_23_10) rfl dX11_become_31 e1 (fun v2 e2 => ?_)
  refine W.widen (k := h_x g - n0) (n := h_s g - s0) hcc.1 hcc.2 ?_
  exact w_iret C w e2 dX11_become_34
set_option maxRecDepth 20000 in
set_option maxHeartbeats 4000000 in
theorem b_K_become_17 {p : Program} {l : Launch} {e : Env} {s : State} {m : MethodId} {args : Array Value} {below : List Frame} {meth : Method} {c : Code} {D : va_G} {cy : cyT} {z : Nat} (C : MX p s m args meth c cX11_become 2 ((some .int)) RX11 (Cond.code yX11_become cX11_become 2 ((some .int)) :: GW)) (hst : l.stackTraces = false) (N : Nat) (n0 s0 : Nat) (hn0 : s.heap.size = n0) {r : Int32} {g : hS}  : ∀  (cells slots : Nat) (h : hS) (th : Nat) (y0 : Option Nat) (H : Heap) (locs : List Loc) (ls : Array Slot), wd D cy z s cells h H locs → h_s h = s0 + slots → lv_has ls 2 [(0, .ref th)] → f_K_become_17 N   h th y0 = some (r, g) → W p l e { frames := 9, cells := h_x g - n0, slots := h_s g - s0, locals := 143 } s m args below meth c H locs cells slots (MQ below (eQ D cy z (rI r) g) args s (h_x g - n0) (h_s g - s0) (fun q => z ≤ q)) (F0 m 17 ls [va_rf y0]) := by
  obtain ⟨hx, hb, hr, hml, hown, hts, hlk⟩ := id C
  intro cells slots h th y0 H locs ls w hsl hl hE
  have hcc : cells ≤ h_x g - n0 ∧ slots ≤ h_s g - s0 := by
    have q1 := mo_K_become_17 N  h th y0 _ _ hE
    have q2 := wd_x w
    have q3 := q1.1
    have q4 := q1.2.1
    omega
  unfold f_K_become_17 at hE
  refine lv_aload_n hx hb dX11_become_17 rfl (lv_at hl 0 rfl) ?_
  refine w_gR (r := some th) (ci := 12) (k := 4) C w rfl (by decide) (GF_wsX110 _) (by decide) rfl (List.mem_cons_of_mem _ gw_2_1) rfl dX11_become_18 hE (fun v1 e1 => ?_)
  refine w_gR (r := v1) (ci := 1) (k := 0) C w rfl (by decide) (GF_wsX00 _) (by decide) rfl (List.mem_cons_of_mem _ gw_23_9) rfl dX11_become_21 e1 (fun v2 e2 => ?_)
  refine w_VAV GW_good (n := 1) (F := 1) (Lc := 60) (o := y0) (av := [va_rf v2]) (rest := []) C w rfl (by decide) (fun a r g hf => k_Curve_take l D cy z N h a v2 r g hf) gw_24_5 gw_24_6 gw_24_7 gw_2_22 gw_24_8 (by decide +kernel) ⟨Nat.le_of_ble_eq_true rfl, Nat.le_of_ble_eq_true rfl⟩ rfl hl.1 rfl (Nat.le_of_ble_eq_true rfl) dX11_become_24 (fun a => (mo_Curve_take N h a v2)) (fun a v3 h4 q1 q2 => by have u1 := (mo_Curve_take N h a v2) _ _ q1; have u2 := mo_K_become_27 N   h4 th _ _ q2; have u3 := wd_x w; have u4 := u1.1; have u5 := u1.2.1; have u6 := u2.1; have u7 := u2.2.1; show cells + _ ≤ h_x g - n0 ∧ slots + _ ≤ h_s g - s0; omega) e2 (fun v3 h4 H locs w hsh4 e3 => ?_)
  exact b_K_become_27 C hst N n0 s0 hn0   _ _ h4 th _ _ ls w (by have u5 := hsh4.2.1; have u8 := hsl; omega) (lv_sub hl [0] rfl) e3
set_option maxRecDepth 20000 in
set_option maxHeartbeats 4000000 in
theorem b_K_become_12 {p : Program} {l : Launch} {e : Env} {s : State} {m : MethodId} {args : Array Value} {below : List Frame} {meth : Method} {c : Code} {D : va_G} {cy : cyT} {z : Nat} (C : MX p s m args meth c cX11_become 2 ((some .int)) RX11 (Cond.code yX11_become cX11_become 2 ((some .int)) :: GW)) (hst : l.stackTraces = false) (N : Nat) (n0 s0 : Nat) (hn0 : s.heap.size = n0) {r : Int32} {g : hS}  : ∀  (cells slots : Nat) (h : hS) (th : Nat) (x1 : Int32) (H : Heap) (locs : List Loc) (ls : Array Slot), wd D cy z s cells h H locs → h_s h = s0 + slots → lv_has ls 2 [(0, .ref th), (1, .int x1)] → f_K_become_12 N   h th x1 = some (r, g) → W p l e { frames := 9, cells := h_x g - n0, slots := h_s g - s0, locals := 143 } s m args below meth c H locs cells slots (MQ below (eQ D cy z (rI r) g) args s (h_x g - n0) (h_s g - s0) (fun q => z ≤ q)) (F0 m 12 ls []) := by
  obtain ⟨hx, hb, hr, hml, hown, hts, hlk⟩ := id C
  intro cells slots h th x1 H locs ls w hsl hl hE
  have hcc : cells ≤ h_x g - n0 ∧ slots ≤ h_s g - s0 := by
    have q1 := mo_K_become_12 N  h th x1 _ _ hE
    have q2 := wd_x w
    have q3 := q1.1
    have q4 := q1.2.1
    omega
  unfold f_K_become_12 at hE
  refine lv_aload_n hx hb dX11_become_12 rfl (lv_at hl 0 rfl) ?_
  refine lv_iload_n hx hb dX11_become_13 rfl (lv_at hl 1 rfl) ?_
  refine w_VAR GW_good (n := 1) (F := 8) (Lc := 122) (o := some th) (av := [.int x1]) (rest := []) C w rfl (by decide) (fun a r g hf => k_K_curveOf l hst D cy z N h a x1 (Sum.inl r) g (fN_some hf)) gw_16_2 gw_16_3 gw_16_4 gw_1_2 gw_16_5 (by decide +kernel) ⟨Nat.le_of_ble_eq_true rfl, Nat.le_of_ble_eq_true rfl⟩ rfl hl.1 rfl (Nat.le_of_ble_eq_true rfl) dX11_become_14 (fun a => (Mo_fN (mo_K_curveOf N h a x1))) (fun a v1 h2 q1 q2 => by have u1 := (Mo_fN (mo_K_curveOf N h a x1)) _ _ q1; have u2 := mo_K_become_17 N   h2 th v1 _ _ q2; have u3 := wd_x w; have u4 := u1.1; have u5 := u1.2.1; have u6 := u2.1; have u7 := u2.2.1; show cells + _ ≤ h_x g - n0 ∧ slots + _ ≤ h_s g - s0; omega) hE (fun v1 h2 H locs w hsh2 e1 => ?_)
  exact b_K_become_17 C hst N n0 s0 hn0   _ _ h2 th v1 _ _ ls w (by have u5 := hsh2.2.1; have u8 := hsl; omega) (lv_sub hl [0] rfl) e1
set_option maxRecDepth 20000 in
set_option maxHeartbeats 4000000 in
theorem k_K_become (l : Launch) (hst : l.stackTraces = false) (D : va_G) (cy : cyT) (z : Nat) (N : Nat) (h : hS) (th : Nat) (x1 : Int32) (r : Int32) (g : hS) (hE : f_K_become N h th x1 = some (r, g)) : ct l yX11_become (Cond.code yX11_become cX11_become 2 ((some .int)) :: GW) { frames := 9, cells := h_x g - h_x h, slots := h_s g - h_s h, locals := 143 } D cy z h [.ref th, .int x1] (rI r) g := by
  refine Met.ofW (cc := cX11_become) (maxL := 2) (ret := (some .int)) (by decide) rfl ?_
  intro p e s m args below meth c s₁ B hml hv
  obtain ⟨rfl, hw⟩ := hv
  have C : MX p s m ([.ref th, .int x1] : List Value).toArray meth c cX11_become 2 ((some .int)) RX11 (Cond.code yX11_become cX11_become 2 ((some .int)) :: GW) := ⟨B.exec, B.bytes, B.returns, hml, findClass_of_methodNamed B.named, atoms_spec (ws := Cond.code yX11_become cX11_become 2 ((some .int)) :: GW) B.pre, B.notSynchronized⟩
  obtain ⟨hx, hb, hr, hml, hown, hts, hlk⟩ := id C
  have w := wd_of hw
  have hsl : h_s h = h_s h + 0 := rfl
  have hn0 : s.heap.size = h_x h := (wd_x w).1
  obtain ⟨ls, hen, hl⟩ : ∃ ls : Array Slot, entryFrame m ([.ref th, .int x1] : List Value).toArray 2 = F0 m 0 ls [] ∧ lv_has ls 2 [(0, .ref th), (1, .int x1)] := by
    exact ⟨_, lg_entry_eq _ _ _, lv_entry _ (Nat.le_of_ble_eq_true rfl)⟩
  rw [hen]
  have hcc : 0 ≤ h_x g - h_x h ∧ 0 ≤ h_s g - h_s h := ⟨Nat.zero_le _, Nat.zero_le _⟩
  unfold f_K_become at hE
  refine lv_aload_n hx hb dX11_become_0 rfl (lv_at hl 0 rfl) ?_
  refine w_gR (r := some th) (ci := 12) (k := 16) C w rfl (by decide) (GF_wsX110 _) (by decide) rfl (List.mem_cons_of_mem _ gw_3_11) rfl dX11_become_1 hE (fun v1 e1 => ?_)
  refine lv_iload_n hx hb dX11_become_4 rfl (lv_at hl 1 rfl) ?_
  refine lv_aload_n hx hb dX11_become_5 rfl (lv_at hl 0 rfl) ?_
  refine w_gR (r := some th) (ci := 12) (k := 15) C w rfl (by decide) (GF_wsX110 _) (by decide) rfl (List.mem_cons_of_mem _ gw_3_7) rfl dX11_become_6 e1 (fun v2 e2 => ?_)
  refine w_VAV GW_good (n := 2) (F := 4) (Lc := 107) (o := v1) (av := [.int x1, va_rf v2]) (rest := []) C w rfl (by decide) (fun a r g hf => k_State_act l D cy z N h a x1 v2 r g hf) gw_23_11 gw_23_12 gw_23_13 gw_3_10 gw_23_14 (by decide +kernel) ⟨Nat.le_of_ble_eq_true rfl, Nat.le_of_ble_eq_true rfl⟩ rfl hl.1 rfl (Nat.le_of_ble_eq_true rfl) dX11_become_9 (fun a => (mo_State_act N h a x1 v2)) (fun a v3 h4 q1 q2 => by have u1 := (mo_State_act N h a x1 v2) _ _ q1; have u2 := mo_K_become_12 N   h4 th x1 _ _ q2; have u3 := wd_x w; have u4 := u1.1; have u5 := u1.2.1; have u6 := u2.1; have u7 := u2.2.1; show 0 + _ ≤ h_x g - (h_x h) ∧ 0 + _ ≤ h_s g - (h_s h); omega) e2 (fun v3 h4 H locs w hsh4 e3 => ?_)
  exact b_K_become_12 C hst N (h_x h) (h_s h) hn0   _ _ h4 th x1 _ _ ls w (by have u5 := hsh4.2.1; have u8 := hsl; omega) (lv_sub hl [0, 1] rfl) e3
set_option maxRecDepth 20000 in
set_option maxHeartbeats 4000000 in
theorem b_K_text_119 {p : Program} {l : Launch} {e : Env} {s : State} {m : MethodId} {args : Array Value} {below : List Frame} {meth : Method} {c : Code} {D : va_G} {cy : cyT} {z : Nat} (C : MX p s m args meth c cX11_text 3 ((some .int)) RX11 (Cond.code yX11_text cX11_text 3 ((some .int)) :: GW)) (hst : l.stackTraces = false) (hxt : ∀ x ∈ c.exceptionTable.toList, False) (N : Nat) (n0 s0 : Nat) (hn0 : s.heap.size = n0) {r : (Int32 ⊕ Nat)} {g : hS}  : ∀  (cells slots : Nat) (h : hS) (y0 : Int32) (H : Heap) (locs : List Loc) (ls : Array Slot), wd D cy z s cells h H locs → h_s h = s0 + slots → lv_has ls 3 [] → f_K_text_119 N   h y0 = some (r, g) → W p l e { frames := 11, cells := h_x g - n0, slots := h_s g - s0, locals := 189 } s m args below meth c H locs cells slots (eT D cy z rI r g below args s (h_x g - n0) (h_s g - s0)) (F0 m 119 ls [.int y0]) := by
  obtain ⟨hx, hb, hr, hml, hown, hts, hlk⟩ := id C
  intro cells slots h y0 H locs ls w hsl hl hE
  have hcc : cells ≤ h_x g - n0 ∧ slots ≤ h_s g - s0 := by
    have q1 := mo_K_text_119 N  h y0 _ _ hE
    have q2 := wd_x w
    have q3 := q1.1
    have q4 := q1.2.1
    omega
  unfold f_K_text_119 at hE
  refine lv_pop hx hb dX11_text_119 rfl ?_
  refine lv_iconst (v := 0) hx hb dX11_text_120 (by decide) ?_
  refine W.widen (k := h_x g - n0) (n := h_s g - s0) hcc.1 hcc.2 ?_
  exact w_iretT C w hE dX11_text_121
set_option maxRecDepth 20000 in
set_option maxHeartbeats 4000000 in
theorem b_K_text_86 {p : Program} {l : Launch} {e : Env} {s : State} {m : MethodId} {args : Array Value} {below : List Frame} {meth : Method} {c : Code} {D : va_G} {cy : cyT} {z : Nat} (C : MX p s m args meth c cX11_text 3 ((some .int)) RX11 (Cond.code yX11_text cX11_text 3 ((some .int)) :: GW)) (hst : l.stackTraces = false) (hxt : ∀ x ∈ c.exceptionTable.toList, False) (N : Nat) (n0 s0 : Nat) (hn0 : s.heap.size = n0) {r : (Int32 ⊕ Nat)} {g : hS}  : ∀  (cells slots : Nat) (h : hS) (th : Nat) (x1 : Int32) (y0 : Int32) (H : Heap) (locs : List Loc) (ls : Array Slot), wd D cy z s cells h H locs → h_s h = s0 + slots → lv_has ls 3 [(0, .ref th), (1, .int x1)] → f_K_text_86 N   h th x1 y0 = some (r, g) → W p l e { frames := 11, cells := h_x g - n0, slots := h_s g - s0, locals := 189 } s m args below meth c H locs cells slots (eT D cy z rI r g below args s (h_x g - n0) (h_s g - s0)) (F0 m 86 ls [.int y0]) := by
  obtain ⟨hx, hb, hr, hml, hown, hts, hlk⟩ := id C
  intro cells slots h th x1 y0 H locs ls w hsl hl hE
  have hcc : cells ≤ h_x g - n0 ∧ slots ≤ h_s g - s0 := by
    have q1 := mo_K_text_86 N  h th x1 y0 _ _ hE
    have q2 := wd_x w
    have q3 := q1.1
    have q4 := q1.2.1
    omega
  unfold f_K_text_86 at hE
  refine w_if_ne (tgt := 109) C dX11_text_86 (by decide) hE (fun hc e1 => ?_) (fun hc e1 => ?_)
  · refine lv_aload_n hx hb dX11_text_109 rfl (lv_at hl 0 rfl) ?_
    refine lv_iconst (v := -1) hx hb dX11_text_110 (by decide) ?_
    refine w_pI (r := some th) (ci := 12) (k := 2) C w rfl (by decide) (by unfold roK; omega) (GF_wsX110 _) tyX11 tyX11_ok nmX11 (by decide) rfl (List.mem_cons_of_mem _ gw_1_17) rfl rfl (tyX11_ok 2 (by decide)) dX11_text_111 e1 (fun h1 H locs w hsh1 e2 => ?_)
    have hsl := hsh1.2.2.2.trans hsl
    refine lv_aload_n hx hb dX11_text_114 rfl (lv_at hl 0 rfl) ?_
    refine lv_iload_n hx hb dX11_text_115 rfl (lv_at hl 1 rfl) ?_
    refine w_VAI GW_good (n := 1) (F := 9) (Lc := 143) (o := some th) (av := [.int x1]) (rest := []) C w rfl (by decide) (fun a r g hf => k_K_become l hst D cy z N h1 a x1 r g hf) gw_23_5 gw_23_6 gw_23_7 gw_1_2 gw_23_8 (by decide +kernel) ⟨Nat.le_of_ble_eq_true rfl, Nat.le_of_ble_eq_true rfl⟩ rfl hl.1 rfl (Nat.le_of_ble_eq_true rfl) dX11_text_116 (fun a => (mo_K_become N h1 a x1)) (fun a v2 h3 q1 q2 => by have u1 := (mo_K_become N h1 a x1) _ _ q1; have u2 := mo_K_text_119 N   h3 v2 _ _ q2; have u3 := wd_x w; have u4 := u1.1; have u5 := u1.2.1; have u6 := u2.1; have u7 := u2.2.1; show cells + _ ≤ h_x g - n0 ∧ slots + _ ≤ h_s g - s0; omega) e2 (fun v2 h3 H locs w hsh3 e3 => ?_)
    exact b_K_text_119 C hst hxt N n0 s0 hn0   _ _ h3 v2 _ _ ls w (by have u5 := hsh3.2.1; have u8 := hsl; omega) (lv_sub hl [] rfl) e3
  · refine lv_aload_n hx hb dX11_text_89 rfl (lv_at hl 0 rfl) ?_
    refine lv_iconst (v := 4) hx hb dX11_text_90 (by decide) ?_
    refine lv_aload_n hx hb dX11_text_91 rfl (lv_at hl 0 rfl) ?_
    refine w_gR (r := some th) (ci := 12) (k := 3) C w rfl (by decide) (GF_wsX110 _) (by decide) rfl (List.mem_cons_of_mem _ gw_1_21) rfl dX11_text_92 e1 (fun v4 e4 => ?_)
    refine lv_aload_n hx hb dX11_text_95 rfl (lv_at hl 0 rfl) ?_
    refine w_gR (r := some th) (ci := 12) (k := 4) C w rfl (by decide) (GF_wsX110 _) (by decide) rfl (List.mem_cons_of_mem _ gw_2_1) rfl dX11_text_96 e4 (fun v5 e5 => ?_)
    refine w_gI (r := v5) (ci := 1) (k := 4) C w rfl (by decide) (GF_wsX00 _) (by decide) rfl (List.mem_cons_of_mem _ gw_9_8) rfl dX11_text_99 e5 (fun v6 e6 => ?_)
    refine w_VI GW_good (n := 1) (F := 0) (Lc := 0) (o := v4) (av := [.int v6]) (rest := [.int (4 : Int32), .ref th]) C w rfl (by decide) (fun a r g hf => k_Reader_wordPlace l D cy z N h a v6 r g hf) gw_23_1 gw_23_2 gw_23_3 gw_1_20 gw_23_4 (by decide +kernel) ⟨Nat.le_of_ble_eq_true rfl, Nat.le_of_ble_eq_true rfl⟩ rfl hl.1 rfl (Nat.le_of_ble_eq_true rfl) dX11_text_102 (fun a => (sh_Reader_wordPlace N h a v6)) ⟨hcc.1, hcc.2⟩ e6 (fun v7 h8 H locs w hsh8 e7 => ?_)
    have hsl := hsh8.2.2.2.trans hsl
    refine w_VI GW_good (n := 2) (F := 0) (Lc := 0) (o := some th) (av := [.int (4 : Int32), .int v7]) (rest := []) C w rfl (by decide) (fun a r g hf => k_K_refuseText l D cy z N h8 a (4 : Int32) v7 r g hf) gw_15_1 gw_15_2 gw_15_3 gw_1_2 gw_15_4 (by decide +kernel) ⟨Nat.le_of_ble_eq_true rfl, Nat.le_of_ble_eq_true rfl⟩ rfl hl.1 rfl (Nat.le_of_ble_eq_true rfl) dX11_text_105 (fun a => (sh_K_refuseText N h8 a (4 : Int32) v7)) ⟨hcc.1, hcc.2⟩ e7 (fun v9 h10 H locs w hsh10 e8 => ?_)
    have hsl := hsh10.2.2.2.trans hsl
    refine W.widen (k := h_x g - n0) (n := h_s g - s0) hcc.1 hcc.2 ?_
    exact w_iretT C w e8 dX11_text_108
set_option maxRecDepth 20000 in
set_option maxHeartbeats 4000000 in
theorem b_K_text_75 {p : Program} {l : Launch} {e : Env} {s : State} {m : MethodId} {args : Array Value} {below : List Frame} {meth : Method} {c : Code} {D : va_G} {cy : cyT} {z : Nat} (C : MX p s m args meth c cX11_text 3 ((some .int)) RX11 (Cond.code yX11_text cX11_text 3 ((some .int)) :: GW)) (hst : l.stackTraces = false) (hxt : ∀ x ∈ c.exceptionTable.toList, False) (N : Nat) (n0 s0 : Nat) (hn0 : s.heap.size = n0) {r : (Int32 ⊕ Nat)} {g : hS}  : ∀  (cells slots : Nat) (h : hS) (th : Nat) (x1 : Int32) (H : Heap) (locs : List Loc) (ls : Array Slot), wd D cy z s cells h H locs → h_s h = s0 + slots → lv_has ls 3 [(0, .ref th), (1, .int x1)] → f_K_text_75 N   h th x1 = some (r, g) → W p l e { frames := 11, cells := h_x g - n0, slots := h_s g - s0, locals := 189 } s m args below meth c H locs cells slots (eT D cy z rI r g below args s (h_x g - n0) (h_s g - s0)) (F0 m 75 ls []) := by
  obtain ⟨hx, hb, hr, hml, hown, hts, hlk⟩ := id C
  intro cells slots h th x1 H locs ls w hsl hl hE
  have hcc : cells ≤ h_x g - n0 ∧ slots ≤ h_s g - s0 := by
    have q1 := mo_K_text_75 N  h th x1 _ _ hE
    have q2 := wd_x w
    have q3 := q1.1
    have q4 := q1.2.1
    omega
  unfold f_K_text_75 at hE
  refine lv_aload_n hx hb dX11_text_75 rfl (lv_at hl 0 rfl) ?_
  refine w_gR (r := some th) (ci := 12) (k := 4) C w rfl (by decide) (GF_wsX110 _) (by decide) rfl (List.mem_cons_of_mem _ gw_2_1) rfl dX11_text_76 hE (fun v1 e1 => ?_)
  refine lv_aload_n hx hb dX11_text_79 rfl (lv_at hl 0 rfl) ?_
  refine w_gR (r := some th) (ci := 12) (k := 15) C w rfl (by decide) (GF_wsX110 _) (by decide) rfl (List.mem_cons_of_mem _ gw_3_7) rfl dX11_text_80 e1 (fun v2 e2 => ?_)
  refine w_VAI GW_good (n := 1) (F := 5) (Lc := 142) (o := v1) (av := [va_rf v2]) (rest := []) C w rfl (by decide) (fun a r g hf => k_Bench_build l D cy z N h a v2 r g hf) gw_19_17 gw_19_18 gw_19_19 gw_2_0 gw_19_20 (by decide +kernel) ⟨Nat.le_of_ble_eq_true rfl, Nat.le_of_ble_eq_true rfl⟩ rfl hl.1 rfl (Nat.le_of_ble_eq_true rfl) dX11_text_83 (fun a => (mo_Bench_build N h a v2)) (fun a v3 h4 q1 q2 => by have u1 := (mo_Bench_build N h a v2) _ _ q1; have u2 := mo_K_text_86 N   h4 th x1 v3 _ _ q2; have u3 := wd_x w; have u4 := u1.1; have u5 := u1.2.1; have u6 := u2.1; have u7 := u2.2.1; show cells + _ ≤ h_x g - n0 ∧ slots + _ ≤ h_s g - s0; omega) e2 (fun v3 h4 H locs w hsh4 e3 => ?_)
  exact b_K_text_86 C hst hxt N n0 s0 hn0   _ _ h4 th x1 v3 _ _ ls w (by have u5 := hsh4.2.1; have u8 := hsl; omega) (lv_sub hl [0, 1] rfl) e3
set_option maxRecDepth 20000 in
set_option maxHeartbeats 4000000 in
theorem b_K_text_24 {p : Program} {l : Launch} {e : Env} {s : State} {m : MethodId} {args : Array Value} {below : List Frame} {meth : Method} {c : Code} {D : va_G} {cy : cyT} {z : Nat} (C : MX p s m args meth c cX11_text 3 ((some .int)) RX11 (Cond.code yX11_text cX11_text 3 ((some .int)) :: GW)) (hst : l.stackTraces = false) (hxt : ∀ x ∈ c.exceptionTable.toList, False) (N : Nat) (n0 s0 : Nat) (hn0 : s.heap.size = n0) {r : (Int32 ⊕ Nat)} {g : hS}  : ∀  (cells slots : Nat) (h : hS) (th : Nat) (x1 : Int32) (x2 : Int32) (H : Heap) (locs : List Loc) (ls : Array Slot), wd D cy z s cells h H locs → h_s h = s0 + slots → lv_has ls 3 [(0, .ref th), (1, .int x1), (2, .int x2)] → f_K_text_24 N   h th x1 x2 = some (r, g) → W p l e { frames := 11, cells := h_x g - n0, slots := h_s g - s0, locals := 189 } s m args below meth c H locs cells slots (eT D cy z rI r g below args s (h_x g - n0) (h_s g - s0)) (F0 m 24 ls []) := by
  obtain ⟨hx, hb, hr, hml, hown, hts, hlk⟩ := id C
  intro cells slots h th x1 x2 H locs ls w hsl hl hE
  have hcc : cells ≤ h_x g - n0 ∧ slots ≤ h_s g - s0 := by
    have q1 := mo_K_text_24 N  h th x1 x2 _ _ hE
    have q2 := wd_x w
    have q3 := q1.1
    have q4 := q1.2.1
    omega
  unfold f_K_text_24 at hE
  refine lv_aload_n hx hb dX11_text_24 rfl (lv_at hl 0 rfl) ?_
  refine lv_iconst (v := 0) hx hb dX11_text_25 (by decide) ?_
  refine w_pI (r := some th) (ci := 12) (k := 1) C w rfl (by decide) (by unfold roK; omega) (GF_wsX110 _) tyX11 tyX11_ok nmX11 (by decide) rfl (List.mem_cons_of_mem _ gw_1_16) rfl rfl (tyX11_ok 1 (by decide)) dX11_text_26 hE (fun h1 H locs w hsh1 e1 => ?_)
  have hsl := hsh1.2.2.2.trans hsl
  refine lv_aload_n hx hb dX11_text_29 rfl (lv_at hl 0 rfl) ?_
  refine w_gR (r := some th) (ci := 12) (k := 3) C w rfl (by decide) (GF_wsX110 _) (by decide) rfl (List.mem_cons_of_mem _ gw_1_21) rfl dX11_text_30 e1 (fun v2 e2 => ?_)
  refine lv_aload_n hx hb dX11_text_33 rfl (lv_at hl 0 rfl) ?_
  refine w_gR (r := some th) (ci := 12) (k := 0) C w rfl (by decide) (GF_wsX110 _) (by decide) rfl (List.mem_cons_of_mem _ gw_1_15) rfl dX11_text_34 e2 (fun v3 e3 => ?_)
  refine lv_iload_n hx hb dX11_text_37 rfl (lv_at hl 2 rfl) ?_
  refine lv_iload_n hx hb dX11_text_38 rfl (lv_at hl 1 rfl) ?_
  refine w_VV GW_good (n := 3) (F := 7) (Lc := 149) (o := v2) (av := [va_rf v3, .int x2, .int x1]) (rest := []) C w rfl (by decide) (fun a r g hf => k_Reader_read l D cy z N h1 a v3 x2 x1 r g hf) gw_10_1 gw_10_2 gw_10_3 gw_1_20 gw_10_4 (by decide +kernel) ⟨Nat.le_of_ble_eq_true rfl, Nat.le_of_ble_eq_true rfl⟩ rfl hl.1 rfl (Nat.le_of_ble_eq_true rfl) dX11_text_39 (fun a => (sh_Reader_read N h1 a v3 x2 x1)) ⟨hcc.1, hcc.2⟩ e3 (fun v4 h5 H locs w hsh5 e4 => ?_)
  have hsl := hsh5.2.2.2.trans hsl
  refine lv_aload_n hx hb dX11_text_42 rfl (lv_at hl 0 rfl) ?_
  refine w_gR (r := some th) (ci := 12) (k := 3) C w rfl (by decide) (GF_wsX110 _) (by decide) rfl (List.mem_cons_of_mem _ gw_1_21) rfl dX11_text_43 e4 (fun v6 e5 => ?_)
  refine w_gI (r := v6) (ci := 5) (k := 5) C w rfl (by decide) (GF_wsX40 _) (by decide) rfl (List.mem_cons_of_mem _ gw_9_6) rfl dX11_text_46 e5 (fun v7 e6 => ?_)
  refine w_if_eq (tgt := 71) C dX11_text_49 (by decide) e6 (fun hc e7 => ?_) (fun hc e7 => ?_)
  · refine lv_aload_n hx hb dX11_text_71 rfl (lv_at hl 0 rfl) ?_
    refine w_VAV GW_good (n := 0) (F := 10) (Lc := 168) (o := some th) (av := []) (rest := []) C w rfl (by decide) (fun a r g hf => k_K_draftReadSteps l hst D cy z N h5 a  r g hf) gw_15_6 gw_15_7 gw_15_8 gw_1_2 gw_15_9 (by decide +kernel) ⟨Nat.le_of_ble_eq_true rfl, Nat.le_of_ble_eq_true rfl⟩ rfl hl.1 rfl (Nat.le_of_ble_eq_true rfl) dX11_text_72 (fun a => (mo_K_draftReadSteps N h5 a )) (fun a v8 h9 q1 q2 => by have u1 := (mo_K_draftReadSteps N h5 a ) _ _ q1; have u2 := mo_K_text_75 N   h9 th x1 _ _ q2; have u3 := wd_x w; have u4 := u1.1; have u5 := u1.2.1; have u6 := u2.1; have u7 := u2.2.1; show cells + _ ≤ h_x g - n0 ∧ slots + _ ≤ h_s g - s0; omega) e7 (fun v8 h9 H locs w hsh9 e8 => ?_)
    exact b_K_text_75 C hst hxt N n0 s0 hn0   _ _ h9 th x1 _ _ ls w (by have u5 := hsh9.2.1; have u8 := hsl; omega) (lv_sub hl [0, 1] rfl) e8
  · refine lv_aload_n hx hb dX11_text_52 rfl (lv_at hl 0 rfl) ?_
    refine lv_aload_n hx hb dX11_text_53 rfl (lv_at hl 0 rfl) ?_
    refine w_gR (r := some th) (ci := 12) (k := 3) C w rfl (by decide) (GF_wsX110 _) (by decide) rfl (List.mem_cons_of_mem _ gw_1_21) rfl dX11_text_54 e7 (fun v10 e9 => ?_)
    refine w_gI (r := v10) (ci := 5) (k := 5) C w rfl (by decide) (GF_wsX40 _) (by decide) rfl (List.mem_cons_of_mem _ gw_9_6) rfl dX11_text_57 e9 (fun v11 e10 => ?_)
    refine lv_aload_n hx hb dX11_text_60 rfl (lv_at hl 0 rfl) ?_
    refine w_gR (r := some th) (ci := 12) (k := 3) C w rfl (by decide) (GF_wsX110 _) (by decide) rfl (List.mem_cons_of_mem _ gw_1_21) rfl dX11_text_61 e10 (fun v12 e11 => ?_)
    refine w_gI (r := v12) (ci := 5) (k := 6) C w rfl (by decide) (GF_wsX40 _) (by decide) rfl (List.mem_cons_of_mem _ gw_9_7) rfl dX11_text_64 e11 (fun v13 e12 => ?_)
    refine w_VI GW_good (n := 2) (F := 0) (Lc := 0) (o := some th) (av := [.int v11, .int v13]) (rest := []) C w rfl (by decide) (fun a r g hf => k_K_refuseText l D cy z N h5 a v11 v13 r g hf) gw_15_1 gw_15_2 gw_15_3 gw_1_2 gw_15_4 (by decide +kernel) ⟨Nat.le_of_ble_eq_true rfl, Nat.le_of_ble_eq_true rfl⟩ rfl hl.1 rfl (Nat.le_of_ble_eq_true rfl) dX11_text_67 (fun a => (sh_K_refuseText N h5 a v11 v13)) ⟨hcc.1, hcc.2⟩ e12 (fun v14 h15 H locs w hsh15 e13 => ?_)
    have hsl := hsh15.2.2.2.trans hsl
    refine W.widen (k := h_x g - n0) (n := h_s g - s0) hcc.1 hcc.2 ?_
    exact w_iretT C w e13 dX11_text_70
set_option maxRecDepth 20000 in
set_option maxHeartbeats 4000000 in
theorem b_K_text_21 {p : Program} {l : Launch} {e : Env} {s : State} {m : MethodId} {args : Array Value} {below : List Frame} {meth : Method} {c : Code} {D : va_G} {cy : cyT} {z : Nat} (C : MX p s m args meth c cX11_text 3 ((some .int)) RX11 (Cond.code yX11_text cX11_text 3 ((some .int)) :: GW)) (hst : l.stackTraces = false) (hxt : ∀ x ∈ c.exceptionTable.toList, False) (N : Nat) (n0 s0 : Nat) (hn0 : s.heap.size = n0) {r : (Int32 ⊕ Nat)} {g : hS}  : ∀  (cells slots : Nat) (h : hS) (th : Nat) (x1 : Int32) (x2 : Int32) (y0 : Int32) (H : Heap) (locs : List Loc) (ls : Array Slot), wd D cy z s cells h H locs → h_s h = s0 + slots → lv_has ls 3 [(0, .ref th), (1, .int x1), (2, .int x2)] → f_K_text_21 N   h th x1 x2 y0 = some (r, g) → W p l e { frames := 11, cells := h_x g - n0, slots := h_s g - s0, locals := 189 } s m args below meth c H locs cells slots (eT D cy z rI r g below args s (h_x g - n0) (h_s g - s0)) (F0 m 21 ls [.int y0]) := by
  obtain ⟨hx, hb, hr, hml, hown, hts, hlk⟩ := id C
  intro cells slots h th x1 x2 y0 H locs ls w hsl hl hE
  have hcc : cells ≤ h_x g - n0 ∧ slots ≤ h_s g - s0 := by
    have q1 := mo_K_text_21 N  h th x1 x2 y0 _ _ hE
    have q2 := wd_x w
    have q3 := q1.1
    have q4 := q1.2.1
    omega
  unfold f_K_text_21 at hE
  refine w_STV GW_good (n := 1) (F := 6) (Lc := 82) (av := [.int y0]) (rest := []) hxt hn0 hsl C w (fun r g hf => k_K_needFit l hst D cy z N h y0 r g hf) gw_9_20 gw_9_21 gw_1_2 gw_9_22 (by decide +kernel) ⟨Nat.le_of_ble_eq_true rfl, Nat.le_of_ble_eq_true rfl⟩ rfl hl.1 rfl (Nat.le_of_ble_eq_true rfl) dX11_text_21 (mo_K_needFit N h y0) (fun v1 h2 => mo_K_text_24 N   h2 th x1 x2) hE (fun v1 h2 H locs w hsh2 e1 => ?_)
  exact b_K_text_24 C hst hxt N n0 s0 hn0   _ _ h2 th x1 x2 _ _ ls w (by have u5 := hsh2.2.1; have u8 := hsl; omega) (lv_sub hl [0, 1, 2] rfl) e1
set_option maxRecDepth 20000 in
set_option maxHeartbeats 4000000 in
theorem b_K_text_20 {p : Program} {l : Launch} {e : Env} {s : State} {m : MethodId} {args : Array Value} {below : List Frame} {meth : Method} {c : Code} {D : va_G} {cy : cyT} {z : Nat} (C : MX p s m args meth c cX11_text 3 ((some .int)) RX11 (Cond.code yX11_text cX11_text 3 ((some .int)) :: GW)) (hst : l.stackTraces = false) (hxt : ∀ x ∈ c.exceptionTable.toList, False) (N : Nat) (n0 s0 : Nat) (hn0 : s.heap.size = n0) {r : (Int32 ⊕ Nat)} {g : hS}  : ∀  (cells slots : Nat) (h : hS) (th : Nat) (x1 : Int32) (x2 : Int32) (H : Heap) (locs : List Loc) (ls : Array Slot), wd D cy z s cells h H locs → h_s h = s0 + slots → lv_has ls 3 [(0, .ref th), (1, .int x1), (2, .int x2)] → f_K_text_20 N   h th x1 x2 = some (r, g) → W p l e { frames := 11, cells := h_x g - n0, slots := h_s g - s0, locals := 189 } s m args below meth c H locs cells slots (eT D cy z rI r g below args s (h_x g - n0) (h_s g - s0)) (F0 m 20 ls []) := by
  obtain ⟨hx, hb, hr, hml, hown, hts, hlk⟩ := id C
  intro cells slots h th x1 x2 H locs ls w hsl hl hE
  have hcc : cells ≤ h_x g - n0 ∧ slots ≤ h_s g - s0 := by
    have q1 := mo_K_text_20 N  h th x1 x2 _ _ hE
    have q2 := wd_x w
    have q3 := q1.1
    have q4 := q1.2.1
    omega
  unfold f_K_text_20 at hE
  refine lv_iconst (v := 0) hx hb dX11_text_20 (by decide) ?_
  exact b_K_text_21 C hst hxt N n0 s0 hn0   _ _ h th x1 x2 (0 : Int32) _ _ ls w hsl (lv_sub hl [0, 1, 2] rfl) hE
set_option maxRecDepth 20000 in
set_option maxHeartbeats 4000000 in
theorem b_K_text_4 {p : Program} {l : Launch} {e : Env} {s : State} {m : MethodId} {args : Array Value} {below : List Frame} {meth : Method} {c : Code} {D : va_G} {cy : cyT} {z : Nat} (C : MX p s m args meth c cX11_text 3 ((some .int)) RX11 (Cond.code yX11_text cX11_text 3 ((some .int)) :: GW)) (hst : l.stackTraces = false) (hxt : ∀ x ∈ c.exceptionTable.toList, False) (N : Nat) (n0 s0 : Nat) (hn0 : s.heap.size = n0) {r : (Int32 ⊕ Nat)} {g : hS}  : ∀  (cells slots : Nat) (h : hS) (th : Nat) (x1 : Int32) (x2 : Int32) (H : Heap) (locs : List Loc) (ls : Array Slot), wd D cy z s cells h H locs → h_s h = s0 + slots → lv_has ls 3 [(0, .ref th), (1, .int x1), (2, .int x2)] → f_K_text_4 N   h th x1 x2 = some (r, g) → W p l e { frames := 11, cells := h_x g - n0, slots := h_s g - s0, locals := 189 } s m args below meth c H locs cells slots (eT D cy z rI r g below args s (h_x g - n0) (h_s g - s0)) (F0 m 4 ls []) := by
  obtain ⟨hx, hb, hr, hml, hown, hts, hlk⟩ := id C
  intro cells slots h th x1 x2 H locs ls w hsl hl hE
  have hcc : cells ≤ h_x g - n0 ∧ slots ≤ h_s g - s0 := by
    have q1 := mo_K_text_4 N  h th x1 x2 _ _ hE
    have q2 := wd_x w
    have q3 := q1.1
    have q4 := q1.2.1
    omega
  unfold f_K_text_4 at hE
  refine lv_iload_n hx hb dX11_text_4 rfl (lv_at hl 2 rfl) ?_
  refine w_if_lt (tgt := 20) C dX11_text_5 (by decide) hE (fun hc e1 => ?_) (fun hc e1 => ?_)
  · exact b_K_text_20 C hst hxt N n0 s0 hn0   _ _ h th x1 x2 _ _ ls w hsl (lv_sub hl [0, 1, 2] rfl) e1
  · refine lv_iload_n hx hb dX11_text_8 rfl (lv_at hl 2 rfl) ?_
    refine lv_aload_n hx hb dX11_text_9 rfl (lv_at hl 0 rfl) ?_
    refine w_gI (r := some th) (ci := 12) (k := 1) C w rfl (by decide) (GF_wsX110 _) (by decide) rfl (List.mem_cons_of_mem _ gw_1_16) rfl dX11_text_10 e1 (fun v1 e2 => ?_)
    refine w_icmp_gt (tgt := 20) C dX11_text_13 (by decide) e2 (fun hc e3 => ?_) (fun hc e3 => ?_)
    · exact b_K_text_20 C hst hxt N n0 s0 hn0   _ _ h th x1 x2 _ _ ls w hsl (lv_sub hl [0, 1, 2] rfl) e3
    · refine lv_iconst (v := 1) hx hb dX11_text_16 (by decide) ?_
      refine lv_goto (tgt := 21) hx hb dX11_text_17 (by decide) ?_
      exact b_K_text_21 C hst hxt N n0 s0 hn0   _ _ h th x1 x2 (1 : Int32) _ _ ls w hsl (lv_sub hl [0, 1, 2] rfl) e3
set_option maxRecDepth 20000 in
set_option maxHeartbeats 4000000 in
theorem k_K_text (l : Launch) (hst : l.stackTraces = false) (D : va_G) (cy : cyT) (z : Nat) (N : Nat) (h : hS) (th : Nat) (x1 : Int32) (x2 : Int32) (r : (Int32 ⊕ Nat)) (g : hS) (hE : f_K_text N h th x1 x2 = some (r, g)) : ctT l yX11_text (Cond.code yX11_text cX11_text 3 ((some .int)) :: GW) { frames := 11, cells := h_x g - h_x h, slots := h_s g - h_s h, locals := 189 } D cy z h [.ref th, .int x1, .int x2] rI r g := by
  refine ctT_of (cc := cX11_text) (maxL := 3) (ret := (some .int)) (by decide) ?_
  intro p e s m args below meth c s₁ B hml hxt hv
  obtain ⟨rfl, hw⟩ := hv
  have C : MX p s m ([.ref th, .int x1, .int x2] : List Value).toArray meth c cX11_text 3 ((some .int)) RX11 (Cond.code yX11_text cX11_text 3 ((some .int)) :: GW) := ⟨B.exec, B.bytes, B.returns, hml, findClass_of_methodNamed B.named, atoms_spec (ws := Cond.code yX11_text cX11_text 3 ((some .int)) :: GW) B.pre, B.notSynchronized⟩
  obtain ⟨hx, hb, hr, hml, hown, hts, hlk⟩ := id C
  have w := wd_of hw
  have hsl : h_s h = h_s h + 0 := rfl
  have hn0 : s.heap.size = h_x h := (wd_x w).1
  obtain ⟨ls, hen, hl⟩ : ∃ ls : Array Slot, entryFrame m ([.ref th, .int x1, .int x2] : List Value).toArray 3 = F0 m 0 ls [] ∧ lv_has ls 3 [(0, .ref th), (1, .int x1), (2, .int x2)] := by
    exact ⟨_, lg_entry_eq _ _ _, lv_entry _ (Nat.le_of_ble_eq_true rfl)⟩
  rw [hen]
  have hcc : 0 ≤ h_x g - h_x h ∧ 0 ≤ h_s g - h_s h := ⟨Nat.zero_le _, Nat.zero_le _⟩
  unfold f_K_text at hE
  refine lv_iload_n hx hb dX11_text_0 rfl (lv_at hl 1 rfl) ?_
  refine w_STV GW_good (n := 1) (F := 7) (Lc := 102) (av := [.int x1]) (rest := []) hxt hn0 hsl C w (fun r g hf => k_K_needCost l hst D cy z N h x1 r g hf) gw_9_9 gw_9_10 gw_1_2 gw_9_11 (by decide +kernel) ⟨Nat.le_of_ble_eq_true rfl, Nat.le_of_ble_eq_true rfl⟩ rfl hl.1 rfl (Nat.le_of_ble_eq_true rfl) dX11_text_1 (mo_K_needCost N h x1) (fun v1 h2 => mo_K_text_4 N   h2 th x1 x2) hE (fun v1 h2 H locs w hsh2 e1 => ?_)
  exact b_K_text_4 C hst hxt N (h_x h) (h_s h) hn0   _ _ h2 th x1 x2 _ _ ls w (by have u5 := hsh2.2.1; have u8 := hsl; omega) (lv_sub hl [0, 1, 2] rfl) e1
set_option maxRecDepth 20000 in
set_option maxHeartbeats 4000000 in
theorem k_K_fault (l : Launch) (D : va_G) (cy : cyT) (z : Nat) (N : Nat) (h : hS) (th : Nat) (r : Int32) (g : hS) (hE : f_K_fault N h th = some (r, g)) : ct l yX11_fault (Cond.code yX11_fault cX11_fault 1 ((some .int)) :: GW) { frames := 0, cells := 0, slots := 0, locals := 0 } D cy z h [.ref th] (rI r) g := by
  refine Met.ofW (cc := cX11_fault) (maxL := 1) (ret := (some .int)) (by decide) rfl ?_
  intro p e s m args below meth c s₁ B hml hv
  obtain ⟨rfl, hw⟩ := hv
  have C : MX p s m ([.ref th] : List Value).toArray meth c cX11_fault 1 ((some .int)) RX11 (Cond.code yX11_fault cX11_fault 1 ((some .int)) :: GW) := ⟨B.exec, B.bytes, B.returns, hml, findClass_of_methodNamed B.named, atoms_spec (ws := Cond.code yX11_fault cX11_fault 1 ((some .int)) :: GW) B.pre, B.notSynchronized⟩
  obtain ⟨hx, hb, hr, hml, hown, hts, hlk⟩ := id C
  have w := wd_of hw
  obtain ⟨ls, hen, hl⟩ : ∃ ls : Array Slot, entryFrame m ([.ref th] : List Value).toArray 1 = F0 m 0 ls [] ∧ lv_has ls 1 [(0, .ref th)] := by
    exact ⟨_, lg_entry_eq _ _ _, lv_entry _ (Nat.le_of_ble_eq_true rfl)⟩
  rw [hen]
  unfold f_K_fault at hE
  refine lv_aload_n hx hb dX11_fault_0 rfl (lv_at hl 0 rfl) ?_
  refine w_gI (r := some th) (ci := 12) (k := 2) C w rfl (by decide) (GF_wsX110 _) (by decide) rfl (List.mem_cons_of_mem _ gw_1_17) rfl dX11_fault_1 hE (fun v1 e1 => ?_)
  exact w_iret C w e1 dX11_fault_4
set_option maxRecDepth 20000 in
set_option maxHeartbeats 4000000 in
theorem b_K_chainOf_4 {p : Program} {l : Launch} {e : Env} {s : State} {m : MethodId} {args : Array Value} {below : List Frame} {meth : Method} {c : Code} {D : va_G} {cy : cyT} {z : Nat} (C : MX p s m args meth c cX11_chainOf 2 ((some (.object "SlopeKeeper$Chain"))) RX11 (Cond.code yX11_chainOf cX11_chainOf 2 ((some (.object "SlopeKeeper$Chain"))) :: GW)) (hst : l.stackTraces = false) (hxt : ∀ x ∈ c.exceptionTable.toList, False) (N : Nat) (n0 s0 : Nat) (hn0 : s.heap.size = n0) {r : (Option Nat ⊕ Nat)} {g : hS}  : ∀  (cells slots : Nat) (h : hS) (th : Nat) (x1 : Int32) (H : Heap) (locs : List Loc) (ls : Array Slot), wd D cy z s cells h H locs → h_s h = s0 + slots → lv_has ls 2 [(0, .ref th), (1, .int x1)] → f_K_chainOf_4 N   h th x1 = some (r, g) → W p l e { frames := 8, cells := h_x g - n0, slots := h_s g - s0, locals := 122 } s m args below meth c H locs cells slots (eT D cy z rR r g below args s (h_x g - n0) (h_s g - s0)) (F0 m 4 ls []) := by
  obtain ⟨hx, hb, hr, hml, hown, hts, hlk⟩ := id C
  intro cells slots h th x1 H locs ls w hsl hl hE
  have hcc : cells ≤ h_x g - n0 ∧ slots ≤ h_s g - s0 := by
    have q1 := mo_K_chainOf_4 N  h th x1 _ _ hE
    have q2 := wd_x w
    have q3 := q1.1
    have q4 := q1.2.1
    omega
  unfold f_K_chainOf_4 at hE
  refine lv_aload_n hx hb dX11_chainOf_4 rfl (lv_at hl 0 rfl) ?_
  refine w_gR (r := some th) (ci := 12) (k := 16) C w rfl (by decide) (GF_wsX110 _) (by decide) rfl (List.mem_cons_of_mem _ gw_3_11) rfl dX11_chainOf_5 hE (fun v1 e1 => ?_)
  refine w_gR (r := v1) (ci := 7) (k := 0) C w rfl (by decide) (GF_wsX60 _) (by decide) rfl (List.mem_cons_of_mem _ gw_32_12) rfl dX11_chainOf_8 e1 (fun v2 e2 => ?_)
  refine lv_iload_n hx hb dX11_chainOf_11 rfl (lv_at hl 1 rfl) ?_
  refine w_aRq (kd := 62) (t0 := 6) (r := v2) C w rfl (by decide) dX11_chainOf_12 e2 (fun v3 e3 => ?_)
  refine W.widen (k := h_x g - n0) (n := h_s g - s0) hcc.1 hcc.2 ?_
  exact w_aretT (v := v3) (Or.inl ⟨_, rfl⟩) C w e3 dX11_chainOf_13
set_option maxRecDepth 20000 in
set_option maxHeartbeats 4000000 in
theorem k_K_chainOf (l : Launch) (hst : l.stackTraces = false) (D : va_G) (cy : cyT) (z : Nat) (N : Nat) (h : hS) (th : Nat) (x1 : Int32) (r : (Option Nat ⊕ Nat)) (g : hS) (hE : f_K_chainOf N h th x1 = some (r, g)) : ctT l yX11_chainOf (Cond.code yX11_chainOf cX11_chainOf 2 ((some (.object "SlopeKeeper$Chain"))) :: GW) { frames := 8, cells := h_x g - h_x h, slots := h_s g - h_s h, locals := 122 } D cy z h [.ref th, .int x1] rR r g := by
  refine ctT_of (cc := cX11_chainOf) (maxL := 2) (ret := (some (.object "SlopeKeeper$Chain"))) (by decide) ?_
  intro p e s m args below meth c s₁ B hml hxt hv
  obtain ⟨rfl, hw⟩ := hv
  have C : MX p s m ([.ref th, .int x1] : List Value).toArray meth c cX11_chainOf 2 ((some (.object "SlopeKeeper$Chain"))) RX11 (Cond.code yX11_chainOf cX11_chainOf 2 ((some (.object "SlopeKeeper$Chain"))) :: GW) := ⟨B.exec, B.bytes, B.returns, hml, findClass_of_methodNamed B.named, atoms_spec (ws := Cond.code yX11_chainOf cX11_chainOf 2 ((some (.object "SlopeKeeper$Chain"))) :: GW) B.pre, B.notSynchronized⟩
  obtain ⟨hx, hb, hr, hml, hown, hts, hlk⟩ := id C
  have w := wd_of hw
  have hsl : h_s h = h_s h + 0 := rfl
  have hn0 : s.heap.size = h_x h := (wd_x w).1
  obtain ⟨ls, hen, hl⟩ : ∃ ls : Array Slot, entryFrame m ([.ref th, .int x1] : List Value).toArray 2 = F0 m 0 ls [] ∧ lv_has ls 2 [(0, .ref th), (1, .int x1)] := by
    exact ⟨_, lg_entry_eq _ _ _, lv_entry _ (Nat.le_of_ble_eq_true rfl)⟩
  rw [hen]
  have hcc : 0 ≤ h_x g - h_x h ∧ 0 ≤ h_s g - h_s h := ⟨Nat.zero_le _, Nat.zero_le _⟩
  unfold f_K_chainOf at hE
  refine lv_iload_n hx hb dX11_chainOf_0 rfl (lv_at hl 1 rfl) ?_
  refine w_STV GW_good (n := 1) (F := 7) (Lc := 102) (av := [.int x1]) (rest := []) hxt hn0 hsl C w (fun r g hf => k_K_needCost l hst D cy z N h x1 r g hf) gw_9_9 gw_9_10 gw_1_2 gw_9_11 (by decide +kernel) ⟨Nat.le_of_ble_eq_true rfl, Nat.le_of_ble_eq_true rfl⟩ rfl hl.1 rfl (Nat.le_of_ble_eq_true rfl) dX11_chainOf_1 (mo_K_needCost N h x1) (fun v1 h2 => mo_K_chainOf_4 N   h2 th x1) hE (fun v1 h2 H locs w hsh2 e1 => ?_)
  exact b_K_chainOf_4 C hst hxt N (h_x h) (h_s h) hn0   _ _ h2 th x1 _ _ ls w (by have u5 := hsh2.2.1; have u8 := hsl; omega) (lv_sub hl [0, 1] rfl) e1
