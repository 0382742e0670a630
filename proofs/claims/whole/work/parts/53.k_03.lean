def f_Shelf_write_62 (N : Nat) (rc32 : hS → Nat → Option Nat → Int32 → Int32 → Option (Unit × hS)) (h : hS) (th : Nat) (a1 : Option Nat) (x3 : Int32) (y0 : Int32) (y1 : Int32) : Option (Unit × hS) := bn ((y0 + y1)) fun v1 => cv h a1 3 (fun a => f_Curve_weightOf N h a x3) fun v2 h3 => cv h3 (some th) 6 (fun a => f_Shelf_writeUnits N h3 a v1 v2) fun _ h5 => cv h5 a1 3 (fun a => f_Curve_weightOf N h5 a x3) fun v6 h7 => bn ((v1 + v6)) fun v8 => bn (x3 + (1 : Int32)) fun v9 => rc32 h7 th a1 v8 v9
def f_Shelf_write_32 (N : Nat)  : Nat → hS → Nat → Option Nat → Int32 → Int32 → Option (Unit × hS)
  | 0 => fun _ _ _ _ _ => none
  | n + 1 => fun h th a1 x2 x3 => gI h a1 3 0 fun v1 => if v1 ≤ x3 then (dv (64 : Int32) (gR h (some th) 6 0 fun v2 => lnA h 51 v2 fun v3 => pI h (some th) 6 1 (jmn (((x2 + (64 : Int32)) - (1 : Int32)) / (64 : Int32)) v3) fun h4 => some ((), h4))) else (if x3 = (0 : Int32) then (f_Shelf_write_62 N (f_Shelf_write_32 N  n)  h th a1 x3 x2 (0 : Int32)) else (cv h a1 3 (fun a => f_Curve_placeOf N h a x3) fun v5 h6 => cv h6 a1 3 (fun a => f_Curve_placeOf N h6 a (x3 - (1 : Int32))) fun v7 h8 => f_Shelf_write_62 N (f_Shelf_write_32 N  n)  h8 th a1 x3 x2 (v5 - v7)))
def f_Shelf_write_20 (N : Nat)  (h : hS) (th : Nat) (a1 : Option Nat) : Option (Unit × hS) := gR h (some th) 6 0 fun v1 => cl (f_Arr_fill_d0a16 N h v1 (0 : Int64)) fun _ h3 => f_Shelf_write_32 N  N h3 th a1 (0 : Int32) (0 : Int32)
def f_Shelf_write_17 (N : Nat)  (h : hS) (th : Nat) (a1 : Option Nat) (y0 : Option Nat) (y1 : Option Nat) : Option (Unit × hS) := pR h y0 6 0 y1 fun h1 => f_Shelf_write_20 N   h1 th a1
def f_Shelf_write (N : Nat) (h : hS) (th : Nat) (a1 : Option Nat) : Option (Unit × hS) := gR h (some th) 6 0 fun v1 => lnA h 51 v1 fun v2 => if (235 : Int32) ≤ v2 then (f_Shelf_write_20 N   h th a1) else (nwA h 51 (235 : Int32) fun q3 h4 => f_Shelf_write_17 N   h4 th a1 (some th) (some q3))
def f_Shelf_isWritten_13 (N : Nat)  : Nat → hS → Nat → Option Nat → Int32 → Option (Int32 × hS)
  | 0 => fun _ _ _ _ => none
  | n + 1 => fun h th a1 x2 => gI h (some th) 6 1 fun v1 => if v1 ≤ x2 then (bz (1 : Int32) (some ((1 : Int32), h))) else (aJ h a1 x2 fun v2 => gR h (some th) 6 0 fun v3 => aJ h v3 x2 fun v4 => if (lg_cmp v2 v4) = (0 : Int32) then (bn (x2 + (1 : Int32)) fun v5 => f_Shelf_isWritten_13 N  n h th a1 v5) else (bz (0 : Int32) (some ((0 : Int32), h))))
def f_Shelf_isWritten (N : Nat) (h : hS) (th : Nat) (a1 : Option Nat) : Option (Int32 × hS) := lnA h 51 a1 fun v1 => gI h (some th) 6 1 fun v2 => if v1 = v2 then (f_Shelf_isWritten_13 N  N h th a1 (0 : Int32)) else (bz (0 : Int32) (some ((0 : Int32), h)))
def f_Arr_copyOf_c38d5_17 (N : Nat)  (h : hS) (a0 : Option Nat) (x1 : Int32) (y0 : Option Nat) : Option (Option Nat × hS) := lnA h 51 a0 fun v1 => cpJ h a0 (0 : Int32) y0 (0 : Int32) (jmn v1 x1) fun h2 => some (y0, h2)
def f_Arr_copyOf_c38d5_10 (N : Nat)  (h : hS) (y0 : Option Nat) : Option (Option Nat × hS) := ckJ h y0 (some (y0, h))
def f_Arr_copyOf_c38d5 (N : Nat) (h : hS) (a0 : Option Nat) (x1 : Int32) : Option (Option Nat × hS) := lnA h 51 a0 fun v1 => if x1 = v1 then (clJ h a0 fun q4 h5 => f_Arr_copyOf_c38d5_10 N   h5 (some q4)) else (nwA h 51 x1 fun q2 h3 => f_Arr_copyOf_c38d5_17 N   h3 a0 x1 (some q2))
def f_Shelf_keep_75 (N : Nat)  (h : hS) (th : Nat) (y0 : Option Nat) (y1 : Option Nat) (y2 : Option Nat) (y3 : Option Nat) (y4 : Option Nat) : Option (Option Nat × hS) := gR h (some th) 6 2 fun v1 => nn y2 fun q4 => cl (f_Keepsake_init N h q4 y3 y4 v1) fun _ h3 => pR h3 y0 6 2 y1 fun h5 => gR h5 (some th) 6 2 fun v6 => some (v6, h5)
def f_Shelf_keep_71 (N : Nat)  (h : hS) (th : Nat) (y0 : Option Nat) (y1 : Option Nat) (y2 : Option Nat) (y3 : Option Nat) (y4 : Option Nat) : Option (Option Nat × hS) := f_Shelf_keep_75 N   h th y0 y1 y2 y3 y4
def f_Shelf_keep_54 (N : Nat)  (h : hS) (th : Nat) (a1 : Option Nat) (a2 : Option Nat) (y0 : Option Nat) (y1 : Option Nat) : Option (Option Nat × hS) := if a2 = none then (gR h (some th) 6 0 fun v1 => gI h (some th) 6 1 fun v2 => cl (f_Arr_copyOf_c38d5 N h v1 v2) fun v3 h4 => f_Shelf_keep_71 N   h4 th y0 y1 y1 a1 v3) else (f_Shelf_keep_75 N   h th y0 y1 y1 a1 a2)
def f_Shelf_keep_42 (N : Nat) (rc12 : hS → Nat → Option Nat → Option Nat → Option Nat → Option (Option Nat × hS)) (h : hS) (th : Nat) (a1 : Option Nat) (a2 : Option Nat) (a3 : Option Nat) : Option (Option Nat × hS) := gR h a3 4 5 fun v1 => rc12 h th a1 a2 v1
def f_Shelf_keep_12 (N : Nat)  : Nat → hS → Nat → Option Nat → Option Nat → Option Nat → Option (Option Nat × hS)
  | 0 => fun _ _ _ _ _ => none
  | n + 1 => fun h th a1 a2 a3 => if a3 = none then (nwO h 4 6 fun q1 h2 => f_Shelf_keep_54 N   h2 th a1 a2 (some th) (some q1)) else (gR h a3 4 4 fun v3 => cv h (some th) 6 (fun a => f_Shelf_isWritten N h a v3) fun v4 h5 => if v4 = (0 : Int32) then (f_Shelf_keep_42 N (f_Shelf_keep_12 N  n)  h5 th a1 a2 a3) else (cv h5 a3 4 (fun a => f_Keepsake_isBeside N h5 a a1) fun v6 h7 => if v6 = (0 : Int32) then (gR h7 a3 4 4 fun v8 => f_Shelf_keep_42 N (f_Shelf_keep_12 N  n)  h7 th a1 v8 a3) else (some (a3, h7))))
def f_Shelf_keep_5 (N : Nat)  (h : hS) (th : Nat) (a1 : Option Nat) : Option (Option Nat × hS) := gR h (some th) 6 2 fun v1 => f_Shelf_keep_12 N  N h th a1 none v1
def f_Shelf_keep (N : Nat) (h : hS) (th : Nat) (a1 : Option Nat) : Option (Option Nat × hS) := cv h (some th) 6 (fun a => f_Shelf_write N h a a1) fun _ h2 => f_Shelf_keep_5 N   h2 th a1
def f_State_init_85 (N : Nat)  (h : hS) (y0 : Option Nat) (y1 : Option Nat) : Option (Unit × hS) := pR h y0 7 7 y1 fun h1 => some ((), h1)
def f_State_init_73 (N : Nat)  (h : hS) (th : Nat) (y0 : Option Nat) (y1 : Option Nat) : Option (Unit × hS) := pR h y0 7 5 y1 fun h1 => pI h1 (some th) 7 6 (0 : Int32) fun h2 => nwA h2 50 (3 : Int32) fun q3 h4 => f_State_init_85 N   h4 (some th) (some q3)
def f_State_init_65 (N : Nat)  (h : hS) (th : Nat) (y0 : Option Nat) (y1 : Option Nat) : Option (Unit × hS) := pR h y0 7 4 y1 fun h1 => nwA h1 51 (8 : Int32) fun q2 h3 => f_State_init_73 N   h3 th (some th) (some q2)
def f_State_init_52 (N : Nat)  (h : hS) (th : Nat) (y0 : Option Nat) (y1 : Option Nat) : Option (Unit × hS) := pR h y0 7 2 y1 fun h1 => pI h1 (some th) 7 3 (0 : Int32) fun h2 => nwA h2 50 (8 : Int32) fun q3 h4 => f_State_init_65 N   h4 th (some th) (some q3)
def f_State_init_43 (N : Nat)  (h : hS) (th : Nat) (y0 : Option Nat) (y1 : Option Nat) : Option (Unit × hS) := pR h y0 7 1 y1 fun h1 => nwA h1 62 (40 : Int32) fun q2 h3 => f_State_init_52 N   h3 th (some th) (some q2)
def f_State_init_31 (N : Nat) (rc14 : hS → Nat → Int32 → Option (Unit × hS)) (h : hS) (th : Nat) (x1 : Int32) (y0 : Option Nat) (y1 : Int32) (y2 : Option Nat) : Option (Unit × hS) := uR h 62 2 y0 y1 y2 fun h1 => bn (x1 + (1 : Int32)) fun v2 => rc14 h1 th v2
def f_State_init_27 (N : Nat) (rc14 : hS → Nat → Int32 → Option (Unit × hS)) (h : hS) (th : Nat) (x1 : Int32) (y0 : Option Nat) (y1 : Int32) (y2 : Option Nat) : Option (Unit × hS) := nn y2 fun q3 => cl (f_Chain_init N h q3 ) fun _ h2 => f_State_init_31 N rc14  h2 th x1 y0 y1 (some q3)
def f_State_init_14 (N : Nat)  : Nat → hS → Nat → Int32 → Option (Unit × hS)
  | 0 => fun _ _ _ => none
  | n + 1 => fun h th x1 => if (4 : Int32) ≤ x1 then (nwA h 50 (40 : Int32) fun q1 h2 => f_State_init_43 N   h2 th (some th) (some q1)) else (gR h (some th) 7 0 fun v3 => nwO h 2 2 fun q4 h5 => f_State_init_27 N (f_State_init_14 N  n)  h5 th x1 v3 x1 (some q4))
def f_State_init_9 (N : Nat)  (h : hS) (th : Nat) (y0 : Option Nat) (y1 : Option Nat) : Option (Unit × hS) := pR h y0 7 0 y1 fun h1 => f_State_init_14 N  N h1 th (0 : Int32)
def f_State_init (N : Nat) (h : hS) (th : Nat) : Option (Unit × hS) := nwA h 62 (4 : Int32) fun q1 h2 => f_State_init_9 N   h2 th (some th) (some q1)
def f_K_isCost_14 (N : Nat)  (h : hS) (y0 : Int32) : Option (Int32 × hS) := bz y0 (some (y0, h))
def f_K_isCost_13 (N : Nat)  (h : hS)  : Option (Int32 × hS) := f_K_isCost_14 N   h (0 : Int32)
def f_K_isCost (N : Nat) (h : hS) (x0 : Int32) : Option (Int32 × hS) := if x0 < (0 : Int32) then (f_K_isCost_13 N   h ) else (if (4 : Int32) ≤ x0 then (f_K_isCost_13 N   h ) else (f_K_isCost_14 N   h (1 : Int32)))
def f_State_actChain_22 (N : Nat)  (h : hS) (th : Nat) (x1 : Int32) : Option (Option Nat × hS) := gR h (some th) 7 2 fun v1 => aR h 62 v1 x1 fun v2 => some (v2, h)
def f_State_actChain_21 (N : Nat)  (h : hS) (th : Nat) (x1 : Int32) (y0 : Option Nat) (y1 : Int32) (y2 : Option Nat) : Option (Option Nat × hS) := uR h 62 2 y0 y1 y2 fun h1 => f_State_actChain_22 N   h1 th x1
def f_State_actChain_17 (N : Nat)  (h : hS) (th : Nat) (x1 : Int32) (y0 : Option Nat) (y1 : Int32) (y2 : Option Nat) : Option (Option Nat × hS) := nn y2 fun q3 => cl (f_Chain_init N h q3 ) fun _ h2 => f_State_actChain_21 N   h2 th x1 y0 y1 (some q3)
def f_State_actChain (N : Nat) (h : hS) (th : Nat) (x1 : Int32) : Option (Option Nat × hS) := gR h (some th) 7 2 fun v1 => aR h 62 v1 x1 fun v2 => if v2 = none then (gR h (some th) 7 2 fun v3 => nwO h 2 2 fun q4 h5 => f_State_actChain_17 N   h5 th x1 v3 x1 (some q4)) else (f_State_actChain_22 N   h th x1)
def f_State_dropOldestAct_8 (N : Nat)  : Nat → hS → Nat → Option Nat → Int32 → Option (Unit × hS)
  | 0 => fun _ _ _ _ => none
  | n + 1 => fun h th a1 x2 => if (40 : Int32) ≤ x2 then (gR h (some th) 7 2 fun v1 => uR h 62 2 v1 (39 : Int32) a1 fun h2 => pI h2 (some th) 7 3 (39 : Int32) fun h3 => some ((), h3)) else (gR h (some th) 7 1 fun v4 => gR h (some th) 7 1 fun v5 => aI h 50 v5 x2 fun v6 => uI h v4 (x2 - (1 : Int32)) v6 fun h7 => gR h7 (some th) 7 2 fun v8 => gR h7 (some th) 7 2 fun v9 => aR h7 62 v9 x2 fun v10 => uR h7 62 2 v8 (x2 - (1 : Int32)) v10 fun h11 => bn (x2 + (1 : Int32)) fun v12 => f_State_dropOldestAct_8 N  n h11 th a1 v12)
def f_State_dropOldestAct_5 (N : Nat)  (h : hS) (th : Nat) (y0 : Option Nat) : Option (Unit × hS) := f_State_dropOldestAct_8 N  N h th y0 (1 : Int32)
def f_State_dropOldestAct (N : Nat) (h : hS) (th : Nat) : Option (Unit × hS) := cv h (some th) 7 (fun a => f_State_actChain N h a (0 : Int32)) fun v1 h2 => f_State_dropOldestAct_5 N   h2 th v1
def f_State_act_68 (N : Nat)  (h : hS)  : Option (Unit × hS) := some ((), h)
def f_State_act_48 (N : Nat)  (h : hS) (th : Nat) (x1 : Int32) (a2 : Option Nat) : Option (Unit × hS) := gI h (some th) 7 3 fun v1 => pI h (some th) 7 3 (v1 + (1 : Int32)) fun h2 => gR h2 (some th) 7 0 fun v3 => aR h2 62 v3 x1 fun v4 => cv h2 v4 2 (fun a => f_Chain_take N h2 a a2) fun _ h6 => f_State_act_68 N   h6 
def f_State_act_39 (N : Nat)  (h : hS) (th : Nat) (x1 : Int32) (a2 : Option Nat) (y0 : Option Nat) : Option (Unit × hS) := gR h (some th) 7 0 fun v1 => aR h 62 v1 x1 fun v2 => cv h y0 2 (fun a => f_Chain_take N h a v2) fun _ h4 => f_State_act_48 N   h4 th x1 a2
def f_State_act_21 (N : Nat)  (h : hS) (th : Nat) (x1 : Int32) (a2 : Option Nat) : Option (Unit × hS) := gR h (some th) 7 1 fun v1 => gI h (some th) 7 3 fun v2 => uI h v1 v2 x1 fun h3 => gI h3 (some th) 7 3 fun v4 => cv h3 (some th) 7 (fun a => f_State_actChain N h3 a v4) fun v5 h6 => f_State_act_39 N   h6 th x1 a2 v5
def f_State_act (N : Nat) (h : hS) (th : Nat) (x1 : Int32) (a2 : Option Nat) : Option (Unit × hS) := cl (f_K_isCost N h x1) fun v1 h2 => if v1 = (0 : Int32) then (some ((), h2)) else (gI h2 (some th) 7 3 fun v3 => if v3 < (40 : Int32) then (f_State_act_21 N   h2 th x1 a2) else (cv h2 (some th) 7 (fun a => f_State_dropOldestAct N h2 a ) fun _ h5 => f_State_act_21 N   h5 th x1 a2))
def f_State_takeBack_33 (N : Nat)  (h : hS)  : Option (Int32 × hS) := some ((-1 : Int32), h)
def f_State_takeBack_72 (N : Nat)  (h : hS) (x1 : Int32) : Option (Int32 × hS) := some (x1, h)
def f_State_takeBack_69 (N : Nat)  (h : hS) (x1 : Int32) (y0 : Option Nat) (y1 : Option Nat) : Option (Int32 × hS) := cv h y0 2 (fun a => f_Chain_take N h a y1) fun _ h2 => f_State_takeBack_72 N   h2 x1
def f_State_takeBack (N : Nat) (h : hS) (th : Nat) : Option (Int32 × hS) := gI h (some th) 7 3 fun v1 => if v1 ≤ (0 : Int32) then (f_State_takeBack_33 N   h ) else (gI h (some th) 7 3 fun v2 => if (40 : Int32) < v2 then (f_State_takeBack_33 N   h ) else (gR h (some th) 7 1 fun v3 => gI h (some th) 7 3 fun v4 => aI h 50 v3 (v4 - (1 : Int32)) fun v5 => cl (f_K_isCost N h v5) fun v6 h7 => if v6 = (0 : Int32) then (f_State_takeBack_33 N   h7 ) else (gI h7 (some th) 7 3 fun v8 => pI h7 (some th) 7 3 (v8 - (1 : Int32)) fun h9 => gR h9 (some th) 7 1 fun v10 => gI h9 (some th) 7 3 fun v11 => aI h9 50 v10 v11 fun v12 => gR h9 (some th) 7 0 fun v13 => aR h9 62 v13 v12 fun v14 => gI h9 (some th) 7 3 fun v15 => cv h9 (some th) 7 (fun a => f_State_actChain N h9 a v15) fun v16 h17 => f_State_takeBack_69 N   h17 v12 v14 v16)))
def f_State_holdsNotes_44 (N : Nat)  (h : hS)  : Option (Int32 × hS) := bz (1 : Int32) (some ((1 : Int32), h))
def f_State_holdsNotes_2 (N : Nat)  : Nat → hS → Nat → Option Nat → Int32 → Option (Int32 × hS)
  | 0 => fun _ _ _ _ => none
  | n + 1 => fun h th a1 x2 => gI h (some th) 7 6 fun v1 => if v1 ≤ x2 then (f_State_holdsNotes_44 N   h ) else (if (8 : Int32) ≤ x2 then (f_State_holdsNotes_44 N   h ) else (gR h (some th) 7 4 fun v2 => aI h 50 v2 x2 fun v3 => cv h a1 3 (fun a => f_Curve_valueAt N h a v3) fun v4 h5 => gR h5 (some th) 7 5 fun v6 => aJ h5 v6 x2 fun v7 => if (lg_cmp v4 v7) = (0 : Int32) then (bn (x2 + (1 : Int32)) fun v8 => f_State_holdsNotes_2 N  n h5 th a1 v8) else (bz (0 : Int32) (some ((0 : Int32), h5)))))
def f_State_holdsNotes (N : Nat) (h : hS) (th : Nat) (a1 : Option Nat) : Option (Int32 × hS) := f_State_holdsNotes_2 N  N h th a1 (0 : Int32)
def f_State_take_131 (N : Nat)  : Nat → hS → Nat → Option Nat → Int32 → Option (Unit × hS)
  | 0 => fun _ _ _ _ => none
  | n + 1 => fun h th a1 x2 => gR h (some th) 7 7 fun v1 => lnA h 50 v1 fun v2 => if v2 ≤ x2 then (some ((), h)) else (gR h (some th) 7 7 fun v3 => gR h a1 7 7 fun v4 => aI h 50 v4 x2 fun v5 => uI h v3 x2 v5 fun h6 => bn (x2 + (1 : Int32)) fun v7 => f_State_take_131 N  n h6 th a1 v7)
def f_State_take_85 (N : Nat)  : Nat → hS → Nat → Option Nat → Int32 → Option (Unit × hS)
  | 0 => fun _ _ _ _ => none
  | n + 1 => fun h th a1 x2 => if (8 : Int32) ≤ x2 then (gI h a1 7 6 fun v1 => pI h (some th) 7 6 v1 fun h2 => f_State_take_131 N  N h2 th a1 (0 : Int32)) else (gR h (some th) 7 4 fun v3 => gR h a1 7 4 fun v4 => aI h 50 v4 x2 fun v5 => uI h v3 x2 v5 fun h6 => gR h6 (some th) 7 5 fun v7 => gR h6 a1 7 5 fun v8 => aJ h6 v8 x2 fun v9 => uJ h6 v7 x2 v9 fun h10 => bn (x2 + (1 : Int32)) fun v11 => f_State_take_85 N  n h10 th a1 v11)
def f_State_take_75 (N : Nat)  (h : hS) (th : Nat) (a1 : Option Nat) : Option (Unit × hS) := gI h a1 7 3 fun v1 => pI h (some th) 7 3 v1 fun h2 => f_State_take_85 N  N h2 th a1 (0 : Int32)
def f_State_take_69 (N : Nat) (rc30 : hS → Nat → Option Nat → Int32 → Option (Unit × hS)) (h : hS) (th : Nat) (a1 : Option Nat) (x2 : Int32) : Option (Unit × hS) := bn (x2 + (1 : Int32)) fun v1 => rc30 h th a1 v1
def f_State_take_66 (N : Nat) (rc30 : hS → Nat → Option Nat → Int32 → Option (Unit × hS)) (h : hS) (th : Nat) (a1 : Option Nat) (x2 : Int32) (y0 : Option Nat) (y1 : Option Nat) : Option (Unit × hS) := cv h y0 2 (fun a => f_Chain_take N h a y1) fun _ h2 => f_State_take_69 N rc30  h2 th a1 x2
def f_State_take_61 (N : Nat) (rc30 : hS → Nat → Option Nat → Int32 → Option (Unit × hS)) (h : hS) (th : Nat) (a1 : Option Nat) (x2 : Int32) (y0 : Option Nat) : Option (Unit × hS) := cv h a1 7 (fun a => f_State_actChain N h a x2) fun v1 h2 => f_State_take_66 N rc30  h2 th a1 x2 y0 v1
def f_State_take_30 (N : Nat)  : Nat → hS → Nat → Option Nat → Int32 → Option (Unit × hS)
  | 0 => fun _ _ _ _ => none
  | n + 1 => fun h th a1 x2 => gI h a1 7 3 fun v1 => if v1 ≤ x2 then (f_State_take_75 N   h th a1) else (if (40 : Int32) ≤ x2 then (f_State_take_75 N   h th a1) else (gR h (some th) 7 1 fun v2 => gR h a1 7 1 fun v3 => aI h 50 v3 x2 fun v4 => uI h v2 x2 v4 fun h5 => cv h5 (some th) 7 (fun a => f_State_actChain N h5 a x2) fun v6 h7 => f_State_take_61 N (f_State_take_30 N  n)  h7 th a1 x2 v6))
def f_State_take_22 (N : Nat) (rc2 : hS → Nat → Option Nat → Int32 → Option (Unit × hS)) (h : hS) (th : Nat) (a1 : Option Nat) (x2 : Int32) : Option (Unit × hS) := bn (x2 + (1 : Int32)) fun v1 => rc2 h th a1 v1
def f_State_take_2 (N : Nat)  : Nat → hS → Nat → Option Nat → Int32 → Option (Unit × hS)
  | 0 => fun _ _ _ _ => none
  | n + 1 => fun h th a1 x2 => if (4 : Int32) ≤ x2 then (f_State_take_30 N  N h th a1 (0 : Int32)) else (gR h (some th) 7 0 fun v1 => aR h 62 v1 x2 fun v2 => gR h a1 7 0 fun v3 => aR h 62 v3 x2 fun v4 => cv h v2 2 (fun a => f_Chain_take N h a v4) fun _ h6 => f_State_take_22 N (f_State_take_2 N  n)  h6 th a1 x2)
def f_State_take (N : Nat) (h : hS) (th : Nat) (a1 : Option Nat) : Option (Unit × hS) := f_State_take_2 N  N h th a1 (0 : Int32)
def f_Step_init (N : Nat) (h : hS) (th : Nat) (x1 : Int32) (x2 : Int32) (x3 : Int32) (a4 : Option Nat) : Option (Unit × hS) := pI h (some th) 8 0 x1 fun h1 => pI h1 (some th) 8 1 x2 fun h2 => pI h2 (some th) 8 2 x3 fun h3 => pR h3 (some th) 8 3 a4 fun h4 => some ((), h4)
def f_Teller_init (N : Nat) (h : hS) (th : Nat) : Option (Unit × hS) := some ((), h)
def f_Teller_listenFor (N : Nat) (h : hS) (th : Nat) (x1 : Int32) : Option (Unit × hS) := pI h (some th) 9 0 x1 fun h1 => pI h1 (some th) 9 1 (0 : Int32) fun h2 => pI h2 (some th) 9 2 (0 : Int32) fun h3 => some ((), h3)
def f_Teller_put_16 (N : Nat)  (h : hS) (th : Nat) : Option (Unit × hS) := gI h (some th) 9 1 fun v1 => pI h (some th) 9 1 (v1 + (1 : Int32)) fun h2 => some ((), h2)
def f_Teller_put (N : Nat) (h : hS) (th : Nat) (x1 : Int32) : Option (Unit × hS) := gI h (some th) 9 1 fun v1 => gI h (some th) 9 0 fun v2 => if v1 = v2 then (pI h (some th) 9 2 x1 fun h3 => f_Teller_put_16 N   h3 th) else (f_Teller_put_16 N   h th)
def f_Teller_putNumber_58 (N : Nat)  (h : hS) (th : Nat) (x2 : Int32) : Option (Unit × hS) := dv (10 : Int32) (cv h (some th) 9 (fun a => f_Teller_put N h a ((48 : Int32) + (x2 - x2 / (10 : Int32) * (10 : Int32)))) fun _ h2 => some ((), h2))
def f_Teller_putNumber_38 (N : Nat)  (h : hS) (th : Nat) (x2 : Int32) : Option (Unit × hS) := if x2 < (10 : Int32) then (f_Teller_putNumber_58 N   h th x2) else (dv (10 : Int32) (dv (10 : Int32) (cv h (some th) 9 (fun a => f_Teller_put N h a ((48 : Int32) + ((x2 / (10 : Int32)) - (x2 / (10 : Int32)) / (10 : Int32) * (10 : Int32)))) fun _ h2 => f_Teller_putNumber_58 N   h2 th x2)))
def f_Teller_putNumber_16 (N : Nat)  (h : hS) (th : Nat) (x1 : Int32) : Option (Unit × hS) := bn ((jab x1)) fun v1 => if v1 < (100 : Int32) then (f_Teller_putNumber_38 N   h th v1) else (dv (100 : Int32) (cv h (some th) 9 (fun a => f_Teller_put N h a ((48 : Int32) + (v1 / (100 : Int32)))) fun _ h3 => f_Teller_putNumber_38 N   h3 th v1))
def f_Teller_putNumber (N : Nat) (h : hS) (th : Nat) (x1 : Int32) : Option (Unit × hS) := cv h (some th) 9 (fun a => f_Teller_put N h a (32 : Int32)) fun _ h2 => if (0 : Int32) ≤ x1 then (f_Teller_putNumber_16 N   h2 th x1) else (cv h2 (some th) 9 (fun a => f_Teller_put N h2 a (45 : Int32)) fun _ h4 => f_Teller_putNumber_16 N   h4 th x1)
def f_Teller_putStep_76 (N : Nat)  (h : hS) (th : Nat) : Option (Unit × hS) := cv h (some th) 9 (fun a => f_Teller_put N h a (59 : Int32)) fun _ h2 => some ((), h2)
def f_Teller_putStep_57 (N : Nat)  (h : hS) (th : Nat) (a1 : Option Nat) : Option (Unit × hS) := gI h a1 8 0 fun v1 => cl (f_K_numbersOf N h v1) fun v2 h3 => if v2 = (2 : Int32) then (gI h3 a1 8 2 fun v4 => cv h3 (some th) 9 (fun a => f_Teller_putNumber N h3 a v4) fun _ h6 => f_Teller_putStep_76 N   h6 th) else (f_Teller_putStep_76 N   h3 th)
def f_Teller_putStep_15 (N : Nat)  : Nat → hS → Nat → Option Nat → Option Nat → Int32 → Option (Unit × hS)
  | 0 => fun _ _ _ _ _ => none
  | n + 1 => fun h th a1 a2 x3 => cv h a2 56 (fun a => f_Str_length_8abf5 N h a ) fun v1 h2 => if v1 ≤ x3 then (gI h2 a1 8 0 fun v3 => cl (f_K_numbersOf N h2 v3) fun v4 h5 => if v4 < (1 : Int32) then (f_Teller_putStep_57 N   h5 th a1) else (gI h5 a1 8 1 fun v6 => cv h5 (some th) 9 (fun a => f_Teller_putNumber N h5 a v6) fun _ h8 => f_Teller_putStep_57 N   h8 th a1)) else (cv h2 a2 56 (fun a => f_Str_charAt_5068e N h2 a x3) fun v9 h10 => cv h10 (some th) 9 (fun a => f_Teller_put N h10 a v9) fun _ h12 => bn (x3 + (1 : Int32)) fun v13 => f_Teller_putStep_15 N  n h12 th a1 a2 v13)
def f_Teller_putStep (N : Nat) (h : hS) (th : Nat) (a1 : Option Nat) : Option (Unit × hS) := if a1 = none then (some ((), h)) else (gI h a1 8 0 fun v1 => cl (f_K_wordOf N h v1) fun v2 h3 => f_Teller_putStep_15 N  N h3 th a1 v2 (0 : Int32))
def f_Trail_init_28 (N : Nat)  (h : hS) (y0 : Option Nat) (y1 : Option Nat) : Option (Unit × hS) := pR h y0 10 2 y1 fun h1 => some ((), h1)
def f_Trail_init_20 (N : Nat)  (h : hS) (th : Nat) (y0 : Option Nat) (y1 : Option Nat) : Option (Unit × hS) := pR h y0 10 1 y1 fun h1 => nwA h1 50 (40 : Int32) fun q2 h3 => f_Trail_init_28 N   h3 (some th) (some q2)
def f_Trail_init_12 (N : Nat)  (h : hS) (th : Nat) (y0 : Option Nat) (y1 : Option Nat) : Option (Unit × hS) := pR h y0 10 0 y1 fun h1 => nwA h1 50 (40 : Int32) fun q2 h3 => f_Trail_init_20 N   h3 th (some th) (some q2)
def f_Trail_init_8 (N : Nat)  (h : hS) (th : Nat) (y0 : Option Nat) (y1 : Option Nat) : Option (Unit × hS) := nn y1 fun q3 => cl (f_Chain_init N h q3 ) fun _ h2 => f_Trail_init_12 N   h2 th y0 (some q3)
def f_Trail_init (N : Nat) (h : hS) (th : Nat) : Option (Unit × hS) := nwO h 2 2 fun q1 h2 => f_Trail_init_8 N   h2 th (some th) (some q1)
theorem mo_Shelf_write_62 (N : Nat) {rc32 : hS → Nat → Option Nat → Int32 → Int32 → Option (Unit × hS)} (hsh32 : ∀ (h : hS) (th : Nat) (a1 : Option Nat) (x2 : Int32) (x3 : Int32), Mo h (rc32 h th a1 x2 x3)) : ∀  (h : hS) (th : Nat) (a1 : Option Nat) (x3 : Int32) (y0 : Int32) (y1 : Int32), Mo h (f_Shelf_write_62 N rc32  h th a1 x3 y0 y1) := by
  intro h th a1 x3 y0 y1
  unfold f_Shelf_write_62
  refine Mo_bn (fun v1 => ?_)
  refine Mo_cv (fun a => (Sh.mo (sh_Curve_weightOf N h a x3))) (fun v2 h3 => ?_)
  refine Mo_cv (fun a => (Sh.mo (sh_Shelf_writeUnits N h3 a v1 v2))) (fun v4 h5 => ?_)
  refine Mo_cv (fun a => (Sh.mo (sh_Curve_weightOf N h5 a x3))) (fun v6 h7 => ?_)
  refine Mo_bn (fun v8 => ?_)
  refine Mo_bn (fun v9 => ?_)
  exact hsh32 h7 th a1 v8 v9
theorem mo_Shelf_write_32 (N : Nat)  : ∀ (n : Nat) (h : hS) (th : Nat) (a1 : Option Nat) (x2 : Int32) (x3 : Int32), Mo h (f_Shelf_write_32 N  n h th a1 x2 x3) := by
  intro n
  induction n with
  | zero =>
    intro h th a1 x2 x3
    exact Mo_none
  | succ n ih =>
    intro h th a1 x2 x3
    unfold f_Shelf_write_32
    refine Mo_gI (fun v1 => ?_)
    refine Mo_ite ?_ ?_
    · refine Mo_dv ?_
      refine Mo_gR (fun v2 => ?_)
      refine Mo_lnA (fun v3 => ?_)
      refine Mo_pI (fun h4 => ?_)
      exact Mo_some
    · refine Mo_ite ?_ ?_
      · exact mo_Shelf_write_62 N ih  h th a1 x3 x2 (0 : Int32)
      · refine Mo_cv (fun a => (Sh.mo (sh_Curve_placeOf N h a x3))) (fun v5 h6 => ?_)
        refine Mo_cv (fun a => (Sh.mo (sh_Curve_placeOf N h6 a (x3 - (1 : Int32))))) (fun v7 h8 => ?_)
        exact mo_Shelf_write_62 N ih  h8 th a1 x3 x2 (v5 - v7)
theorem mo_Shelf_write_20 (N : Nat)  : ∀  (h : hS) (th : Nat) (a1 : Option Nat), Mo h (f_Shelf_write_20 N   h th a1) := by
  intro h th a1
  unfold f_Shelf_write_20
  refine Mo_gR (fun v1 => ?_)
  refine Mo_cl (Sh.mo (sh_Arr_fill_d0a16 N h v1 (0 : Int64))) (fun v2 h3 => ?_)
  exact mo_Shelf_write_32 N  N h3 th a1 (0 : Int32) (0 : Int32)
theorem mo_Shelf_write_17 (N : Nat)  : ∀  (h : hS) (th : Nat) (a1 : Option Nat) (y0 : Option Nat) (y1 : Option Nat), Mo h (f_Shelf_write_17 N   h th a1 y0 y1) := by
  intro h th a1 y0 y1
  unfold f_Shelf_write_17
  refine Mo_pR (fun h1 => ?_)
  exact mo_Shelf_write_20 N   h1 th a1
theorem mo_Shelf_write (N : Nat) (h : hS) (th : Nat) (a1 : Option Nat) : Mo h (f_Shelf_write N h th a1) := by
  unfold f_Shelf_write
  refine Mo_gR (fun v1 => ?_)
  refine Mo_lnA (fun v2 => ?_)
  refine Mo_ite ?_ ?_
  · exact mo_Shelf_write_20 N   h th a1
  · refine Mo_nwA (fun q3 h4 => ?_)
    exact mo_Shelf_write_17 N   h4 th a1 (some th) (some q3)
theorem sh_Shelf_isWritten_13 (N : Nat)  : ∀ (n : Nat) (h : hS) (th : Nat) (a1 : Option Nat) (x2 : Int32), Sh h (f_Shelf_isWritten_13 N  n h th a1 x2) := by
  intro n
  induction n with
  | zero =>
    intro h th a1 x2
    exact Sh_none
  | succ n ih =>
    intro h th a1 x2
    unfold f_Shelf_isWritten_13
    refine Sh_gI (fun v1 => ?_)
    refine Sh_ite ?_ ?_
    · exact Sh_bz Sh_some
    · refine Sh_aJ (kd := 0) (fun v2 => ?_)
      refine Sh_gR (fun v3 => ?_)
      refine Sh_aJ (kd := 0) (fun v4 => ?_)
      refine Sh_ite ?_ ?_
      · refine Sh_bn (fun v5 => ?_)
        exact ih h th a1 v5
      · exact Sh_bz Sh_some
theorem sh_Shelf_isWritten (N : Nat) (h : hS) (th : Nat) (a1 : Option Nat) : Sh h (f_Shelf_isWritten N h th a1) := by
  unfold f_Shelf_isWritten
  refine Sh_lnA (fun v1 => ?_)
  refine Sh_gI (fun v2 => ?_)
  refine Sh_ite ?_ ?_
  · exact sh_Shelf_isWritten_13 N  N h th a1 (0 : Int32)
  · exact Sh_bz Sh_some
theorem mo_Arr_copyOf_c38d5_17 (N : Nat)  : ∀  (h : hS) (a0 : Option Nat) (x1 : Int32) (y0 : Option Nat), Mo h (f_Arr_copyOf_c38d5_17 N   h a0 x1 y0) := by
  intro h a0 x1 y0
  unfold f_Arr_copyOf_c38d5_17
  refine Mo_lnA (fun v1 => ?_)
  refine Mo_cpJ (fun h2 => ?_)
  exact Mo_some
theorem mo_Arr_copyOf_c38d5_10 (N : Nat)  : ∀  (h : hS) (y0 : Option Nat), Mo h (f_Arr_copyOf_c38d5_10 N   h y0) := by
  intro h y0
  unfold f_Arr_copyOf_c38d5_10
  refine Mo_ckJ ?_
  exact Mo_some
theorem mo_Arr_copyOf_c38d5 (N : Nat) (h : hS) (a0 : Option Nat) (x1 : Int32) : Mo h (f_Arr_copyOf_c38d5 N h a0 x1) := by
  unfold f_Arr_copyOf_c38d5
  refine Mo_lnA (fun v1 => ?_)
  refine Mo_ite ?_ ?_
  · refine Mo_clJ (fun q4 h5 => ?_)
    exact mo_Arr_copyOf_c38d5_10 N   h5 (some q4)
  · refine Mo_nwA (fun q2 h3 => ?_)
    exact mo_Arr_copyOf_c38d5_17 N   h3 a0 x1 (some q2)
theorem mo_Shelf_keep_75 (N : Nat)  : ∀  (h : hS) (th : Nat) (y0 : Option Nat) (y1 : Option Nat) (y2 : Option Nat) (y3 : Option Nat) (y4 : Option Nat), Mo h (f_Shelf_keep_75 N   h th y0 y1 y2 y3 y4) := by
  intro h th y0 y1 y2 y3 y4
  unfold f_Shelf_keep_75
  refine Mo_gR (fun v1 => ?_)
  refine Mo_nn (fun q4 => ?_)
  refine Mo_cl (Sh.mo (sh_Keepsake_init N h q4 y3 y4 v1)) (fun v2 h3 => ?_)
  refine Mo_pR (fun h5 => ?_)
  refine Mo_gR (fun v6 => ?_)
  exact Mo_some
theorem mo_Shelf_keep_71 (N : Nat)  : ∀  (h : hS) (th : Nat) (y0 : Option Nat) (y1 : Option Nat) (y2 : Option Nat) (y3 : Option Nat) (y4 : Option Nat), Mo h (f_Shelf_keep_71 N   h th y0 y1 y2 y3 y4) := by
  intro h th y0 y1 y2 y3 y4
  unfold f_Shelf_keep_71
  exact mo_Shelf_keep_75 N   h th y0 y1 y2 y3 y4
theorem mo_Shelf_keep_54 (N : Nat)  : ∀  (h : hS) (th : Nat) (a1 : Option Nat) (a2 : Option Nat) (y0 : Option Nat) (y1 : Option Nat), Mo h (f_Shelf_keep_54 N   h th a1 a2 y0 y1) := by
  intro h th a1 a2 y0 y1
  unfold f_Shelf_keep_54
  refine Mo_ite ?_ ?_
  · refine Mo_gR (fun v1 => ?_)
    refine Mo_gI (fun v2 => ?_)
    refine Mo_cl (mo_Arr_copyOf_c38d5 N h v1 v2) (fun v3 h4 => ?_)
    exact mo_Shelf_keep_71 N   h4 th y0 y1 y1 a1 v3
  · exact mo_Shelf_keep_75 N   h th y0 y1 y1 a1 a2
theorem mo_Shelf_keep_42 (N : Nat) {rc12 : hS → Nat → Option Nat → Option Nat → Option Nat → Option (Option Nat × hS)} (hsh12 : ∀ (h : hS) (th : Nat) (a1 : Option Nat) (a2 : Option Nat) (a3 : Option Nat), Mo h (rc12 h th a1 a2 a3)) : ∀  (h : hS) (th : Nat) (a1 : Option Nat) (a2 : Option Nat) (a3 : Option Nat), Mo h (f_Shelf_keep_42 N rc12  h th a1 a2 a3) := by
  intro h th a1 a2 a3
  unfold f_Shelf_keep_42
  refine Mo_gR (fun v1 => ?_)
  exact hsh12 h th a1 a2 v1
theorem mo_Shelf_keep_12 (N : Nat)  : ∀ (n : Nat) (h : hS) (th : Nat) (a1 : Option Nat) (a2 : Option Nat) (a3 : Option Nat), Mo h (f_Shelf_keep_12 N  n h th a1 a2 a3) := by
  intro n
  induction n with
  | zero =>
    intro h th a1 a2 a3
    exact Mo_none
  | succ n ih =>
    intro h th a1 a2 a3
    unfold f_Shelf_keep_12
    refine Mo_ite ?_ ?_
    · refine Mo_nwO (fun q1 h2 => ?_)
      exact mo_Shelf_keep_54 N   h2 th a1 a2 (some th) (some q1)
    · refine Mo_gR (fun v3 => ?_)
      refine Mo_cv (fun a => (Sh.mo (sh_Shelf_isWritten N h a v3))) (fun v4 h5 => ?_)
      refine Mo_ite ?_ ?_
      · exact mo_Shelf_keep_42 N ih  h5 th a1 a2 a3
      · refine Mo_cv (fun a => (Sh.mo (sh_Keepsake_isBeside N h5 a a1))) (fun v6 h7 => ?_)
        refine Mo_ite ?_ ?_
        · refine Mo_gR (fun v8 => ?_)
          exact mo_Shelf_keep_42 N ih  h7 th a1 v8 a3
        · exact Mo_some
theorem mo_Shelf_keep_5 (N : Nat)  : ∀  (h : hS) (th : Nat) (a1 : Option Nat), Mo h (f_Shelf_keep_5 N   h th a1) := by
  intro h th a1
  unfold f_Shelf_keep_5
  refine Mo_gR (fun v1 => ?_)
  exact mo_Shelf_keep_12 N  N h th a1 none v1
theorem mo_Shelf_keep (N : Nat) (h : hS) (th : Nat) (a1 : Option Nat) : Mo h (f_Shelf_keep N h th a1) := by
  unfold f_Shelf_keep
  refine Mo_cv (fun a => (mo_Shelf_write N h a a1)) (fun v1 h2 => ?_)
  exact mo_Shelf_keep_5 N   h2 th a1
theorem mo_State_init_85 (N : Nat)  : ∀  (h : hS) (y0 : Option Nat) (y1 : Option Nat), Mo h (f_State_init_85 N   h y0 y1) := by
  intro h y0 y1
  unfold f_State_init_85
  refine Mo_pR (fun h1 => ?_)
  exact Mo_some
theorem mo_State_init_73 (N : Nat)  : ∀  (h : hS) (th : Nat) (y0 : Option Nat) (y1 : Option Nat), Mo h (f_State_init_73 N   h th y0 y1) := by
  intro h th y0 y1
  unfold f_State_init_73
  refine Mo_pR (fun h1 => ?_)
  refine Mo_pI (fun h2 => ?_)
  refine Mo_nwA (fun q3 h4 => ?_)
  exact mo_State_init_85 N   h4 (some th) (some q3)
theorem mo_State_init_65 (N : Nat)  : ∀  (h : hS) (th : Nat) (y0 : Option Nat) (y1 : Option Nat), Mo h (f_State_init_65 N   h th y0 y1) := by
  intro h th y0 y1
  unfold f_State_init_65
  refine Mo_pR (fun h1 => ?_)
  refine Mo_nwA (fun q2 h3 => ?_)
  exact mo_State_init_73 N   h3 th (some th) (some q2)
theorem mo_State_init_52 (N : Nat)  : ∀  (h : hS) (th : Nat) (y0 : Option Nat) (y1 : Option Nat), Mo h (f_State_init_52 N   h th y0 y1) := by
  intro h th y0 y1
  unfold f_State_init_52
  refine Mo_pR (fun h1 => ?_)
  refine Mo_pI (fun h2 => ?_)
  refine Mo_nwA (fun q3 h4 => ?_)
  exact mo_State_init_65 N   h4 th (some th) (some q3)
theorem mo_State_init_43 (N : Nat)  : ∀  (h : hS) (th : Nat) (y0 : Option Nat) (y1 : Option Nat), Mo h (f_State_init_43 N   h th y0 y1) := by
  intro h th y0 y1
  unfold f_State_init_43
  refine Mo_pR (fun h1 => ?_)
  refine Mo_nwA (fun q2 h3 => ?_)
  exact mo_State_init_52 N   h3 th (some th) (some q2)
theorem mo_State_init_31 (N : Nat) {rc14 : hS → Nat → Int32 → Option (Unit × hS)} (hsh14 : ∀ (h : hS) (th : Nat) (x1 : Int32), Mo h (rc14 h th x1)) : ∀  (h : hS) (th : Nat) (x1 : Int32) (y0 : Option Nat) (y1 : Int32) (y2 : Option Nat), Mo h (f_State_init_31 N rc14  h th x1 y0 y1 y2) := by
  intro h th x1 y0 y1 y2
  unfold f_State_init_31
  refine Mo_uR (fun h1 => ?_)
  refine Mo_bn (fun v2 => ?_)
  exact hsh14 h1 th v2
theorem mo_State_init_27 (N : Nat) {rc14 : hS → Nat → Int32 → Option (Unit × hS)} (hsh14 : ∀ (h : hS) (th : Nat) (x1 : Int32), Mo h (rc14 h th x1)) : ∀  (h : hS) (th : Nat) (x1 : Int32) (y0 : Option Nat) (y1 : Int32) (y2 : Option Nat), Mo h (f_State_init_27 N rc14  h th x1 y0 y1 y2) := by
  intro h th x1 y0 y1 y2
  unfold f_State_init_27
  refine Mo_nn (fun q3 => ?_)
  refine Mo_cl (mo_Chain_init N h q3 ) (fun v1 h2 => ?_)
  exact mo_State_init_31 N hsh14  h2 th x1 y0 y1 (some q3)
theorem mo_State_init_14 (N : Nat)  : ∀ (n : Nat) (h : hS) (th : Nat) (x1 : Int32), Mo h (f_State_init_14 N  n h th x1) := by
  intro n
  induction n with
  | zero =>
    intro h th x1
    exact Mo_none
  | succ n ih =>
    intro h th x1
    unfold f_State_init_14
    refine Mo_ite ?_ ?_
    · refine Mo_nwA (fun q1 h2 => ?_)
      exact mo_State_init_43 N   h2 th (some th) (some q1)
    · refine Mo_gR (fun v3 => ?_)
      refine Mo_nwO (fun q4 h5 => ?_)
      exact mo_State_init_27 N ih  h5 th x1 v3 x1 (some q4)
theorem mo_State_init_9 (N : Nat)  : ∀  (h : hS) (th : Nat) (y0 : Option Nat) (y1 : Option Nat), Mo h (f_State_init_9 N   h th y0 y1) := by
  intro h th y0 y1
  unfold f_State_init_9
  refine Mo_pR (fun h1 => ?_)
  exact mo_State_init_14 N  N h1 th (0 : Int32)
theorem mo_State_init (N : Nat) (h : hS) (th : Nat) : Mo h (f_State_init N h th) := by
  unfold f_State_init
  refine Mo_nwA (fun q1 h2 => ?_)
  exact mo_State_init_9 N   h2 th (some th) (some q1)
theorem sh_K_isCost_14 (N : Nat)  : ∀  (h : hS) (y0 : Int32), Sh h (f_K_isCost_14 N   h y0) := by
  intro h y0
  unfold f_K_isCost_14
  exact Sh_bz Sh_some
theorem sh_K_isCost_13 (N : Nat)  : ∀  (h : hS) , Sh h (f_K_isCost_13 N   h ) := by
  intro h 
  unfold f_K_isCost_13
  exact sh_K_isCost_14 N   h (0 : Int32)
theorem sh_K_isCost (N : Nat) (h : hS) (x0 : Int32) : Sh h (f_K_isCost N h x0) := by
  unfold f_K_isCost
  refine Sh_ite ?_ ?_
  · exact sh_K_isCost_13 N   h 
  · refine Sh_ite ?_ ?_
    · exact sh_K_isCost_13 N   h 
    · exact sh_K_isCost_14 N   h (1 : Int32)
theorem mo_State_actChain_22 (N : Nat)  : ∀  (h : hS) (th : Nat) (x1 : Int32), Mo h (f_State_actChain_22 N   h th x1) := by
  intro h th x1
  unfold f_State_actChain_22
  refine Mo_gR (fun v1 => ?_)
  refine Mo_aR (fun v2 => ?_)
  exact Mo_some
theorem mo_State_actChain_21 (N : Nat)  : ∀  (h : hS) (th : Nat) (x1 : Int32) (y0 : Option Nat) (y1 : Int32) (y2 : Option Nat), Mo h (f_State_actChain_21 N   h th x1 y0 y1 y2) := by
  intro h th x1 y0 y1 y2
  unfold f_State_actChain_21
  refine Mo_uR (fun h1 => ?_)
  exact mo_State_actChain_22 N   h1 th x1
theorem mo_State_actChain_17 (N : Nat)  : ∀  (h : hS) (th : Nat) (x1 : Int32) (y0 : Option Nat) (y1 : Int32) (y2 : Option Nat), Mo h (f_State_actChain_17 N   h th x1 y0 y1 y2) := by
  intro h th x1 y0 y1 y2
  unfold f_State_actChain_17
  refine Mo_nn (fun q3 => ?_)
  refine Mo_cl (mo_Chain_init N h q3 ) (fun v1 h2 => ?_)
  exact mo_State_actChain_21 N   h2 th x1 y0 y1 (some q3)
theorem mo_State_actChain (N : Nat) (h : hS) (th : Nat) (x1 : Int32) : Mo h (f_State_actChain N h th x1) := by
  unfold f_State_actChain
  refine Mo_gR (fun v1 => ?_)
  refine Mo_aR (fun v2 => ?_)
  refine Mo_ite ?_ ?_
  · refine Mo_gR (fun v3 => ?_)
    refine Mo_nwO (fun q4 h5 => ?_)
    exact mo_State_actChain_17 N   h5 th x1 v3 x1 (some q4)
  · exact mo_State_actChain_22 N   h th x1
theorem mo_State_dropOldestAct_8 (N : Nat)  : ∀ (n : Nat) (h : hS) (th : Nat) (a1 : Option Nat) (x2 : Int32), Mo h (f_State_dropOldestAct_8 N  n h th a1 x2) := by
  intro n
  induction n with
  | zero =>
    intro h th a1 x2
    exact Mo_none
  | succ n ih =>
    intro h th a1 x2
    unfold f_State_dropOldestAct_8
    refine Mo_ite ?_ ?_
    · refine Mo_gR (fun v1 => ?_)
      refine Mo_uR (fun h2 => ?_)
      refine Mo_pI (fun h3 => ?_)
      exact Mo_some
    · refine Mo_gR (fun v4 => ?_)
      refine Mo_gR (fun v5 => ?_)
      refine Mo_aI (fun v6 => ?_)
      refine Mo_uI (fun h7 => ?_)
      refine Mo_gR (fun v8 => ?_)
      refine Mo_gR (fun v9 => ?_)
      refine Mo_aR (fun v10 => ?_)
      refine Mo_uR (fun h11 => ?_)
      refine Mo_bn (fun v12 => ?_)
      exact ih h11 th a1 v12
theorem mo_State_dropOldestAct_5 (N : Nat)  : ∀  (h : hS) (th : Nat) (y0 : Option Nat), Mo h (f_State_dropOldestAct_5 N   h th y0) := by
  intro h th y0
  unfold f_State_dropOldestAct_5
  exact mo_State_dropOldestAct_8 N  N h th y0 (1 : Int32)
theorem mo_State_dropOldestAct (N : Nat) (h : hS) (th : Nat) : Mo h (f_State_dropOldestAct N h th) := by
  unfold f_State_dropOldestAct
  refine Mo_cv (fun a => (mo_State_actChain N h a (0 : Int32))) (fun v1 h2 => ?_)
  exact mo_State_dropOldestAct_5 N   h2 th v1
theorem mo_State_act_68 (N : Nat)  : ∀  (h : hS) , Mo h (f_State_act_68 N   h ) := by
  intro h 
  unfold f_State_act_68
  exact Mo_some
theorem mo_State_act_48 (N : Nat)  : ∀  (h : hS) (th : Nat) (x1 : Int32) (a2 : Option Nat), Mo h (f_State_act_48 N   h th x1 a2) := by
  intro h th x1 a2
  unfold f_State_act_48
  refine Mo_gI (fun v1 => ?_)
  refine Mo_pI (fun h2 => ?_)
  refine Mo_gR (fun v3 => ?_)
  refine Mo_aR (fun v4 => ?_)
  refine Mo_cv (fun a => (mo_Chain_take N h2 a a2)) (fun v5 h6 => ?_)
  exact mo_State_act_68 N   h6 
theorem mo_State_act_39 (N : Nat)  : ∀  (h : hS) (th : Nat) (x1 : Int32) (a2 : Option Nat) (y0 : Option Nat), Mo h (f_State_act_39 N   h th x1 a2 y0) := by
  intro h th x1 a2 y0
  unfold f_State_act_39
  refine Mo_gR (fun v1 => ?_)
  refine Mo_aR (fun v2 => ?_)
  refine Mo_cv (fun a => (mo_Chain_take N h a v2)) (fun v3 h4 => ?_)
  exact mo_State_act_48 N   h4 th x1 a2
theorem mo_State_act_21 (N : Nat)  : ∀  (h : hS) (th : Nat) (x1 : Int32) (a2 : Option Nat), Mo h (f_State_act_21 N   h th x1 a2) := by
  intro h th x1 a2
  unfold f_State_act_21
  refine Mo_gR (fun v1 => ?_)
  refine Mo_gI (fun v2 => ?_)
  refine Mo_uI (fun h3 => ?_)
  refine Mo_gI (fun v4 => ?_)
  refine Mo_cv (fun a => (mo_State_actChain N h3 a v4)) (fun v5 h6 => ?_)
  exact mo_State_act_39 N   h6 th x1 a2 v5
theorem mo_State_act (N : Nat) (h : hS) (th : Nat) (x1 : Int32) (a2 : Option Nat) : Mo h (f_State_act N h th x1 a2) := by
  unfold f_State_act
  refine Mo_cl (Sh.mo (sh_K_isCost N h x1)) (fun v1 h2 => ?_)
  refine Mo_ite ?_ ?_
  · exact Mo_some
  · refine Mo_gI (fun v3 => ?_)
    refine Mo_ite ?_ ?_
    · exact mo_State_act_21 N   h2 th x1 a2
    · refine Mo_cv (fun a => (mo_State_dropOldestAct N h2 a )) (fun v4 h5 => ?_)
      exact mo_State_act_21 N   h5 th x1 a2
theorem mo_State_takeBack_33 (N : Nat)  : ∀  (h : hS) , Mo h (f_State_takeBack_33 N   h ) := by
  intro h 
  unfold f_State_takeBack_33
  exact Mo_some
theorem mo_State_takeBack_72 (N : Nat)  : ∀  (h : hS) (x1 : Int32), Mo h (f_State_takeBack_72 N   h x1) := by
  intro h x1
  unfold f_State_takeBack_72
  exact Mo_some
theorem mo_State_takeBack_69 (N : Nat)  : ∀  (h : hS) (x1 : Int32) (y0 : Option Nat) (y1 : Option Nat), Mo h (f_State_takeBack_69 N   h x1 y0 y1) := by
  intro h x1 y0 y1
  unfold f_State_takeBack_69
  refine Mo_cv (fun a => (mo_Chain_take N h a y1)) (fun v1 h2 => ?_)
  exact mo_State_takeBack_72 N   h2 x1
theorem mo_State_takeBack (N : Nat) (h : hS) (th : Nat) : Mo h (f_State_takeBack N h th) := by
  unfold f_State_takeBack
  refine Mo_gI (fun v1 => ?_)
  refine Mo_ite ?_ ?_
  · exact mo_State_takeBack_33 N   h 
  · refine Mo_gI (fun v2 => ?_)
    refine Mo_ite ?_ ?_
    · exact mo_State_takeBack_33 N   h 
    · refine Mo_gR (fun v3 => ?_)
      refine Mo_gI (fun v4 => ?_)
      refine Mo_aI (fun v5 => ?_)
      refine Mo_cl (Sh.mo (sh_K_isCost N h v5)) (fun v6 h7 => ?_)
      refine Mo_ite ?_ ?_
      · exact mo_State_takeBack_33 N   h7 
      · refine Mo_gI (fun v8 => ?_)
        refine Mo_pI (fun h9 => ?_)
        refine Mo_gR (fun v10 => ?_)
        refine Mo_gI (fun v11 => ?_)
        refine Mo_aI (fun v12 => ?_)
        refine Mo_gR (fun v13 => ?_)
        refine Mo_aR (fun v14 => ?_)
        refine Mo_gI (fun v15 => ?_)
        refine Mo_cv (fun a => (mo_State_actChain N h9 a v15)) (fun v16 h17 => ?_)
        exact mo_State_takeBack_69 N   h17 v12 v14 v16
theorem sh_State_holdsNotes_44 (N : Nat)  : ∀  (h : hS) , Sh h (f_State_holdsNotes_44 N   h ) := by
  intro h 
  unfold f_State_holdsNotes_44
  exact Sh_bz Sh_some
theorem sh_State_holdsNotes_2 (N : Nat)  : ∀ (n : Nat) (h : hS) (th : Nat) (a1 : Option Nat) (x2 : Int32), Sh h (f_State_holdsNotes_2 N  n h th a1 x2) := by
  intro n
  induction n with
  | zero =>
    intro h th a1 x2
    exact Sh_none
  | succ n ih =>
    intro h th a1 x2
    unfold f_State_holdsNotes_2
    refine Sh_gI (fun v1 => ?_)
    refine Sh_ite ?_ ?_
    · exact sh_State_holdsNotes_44 N   h 
    · refine Sh_ite ?_ ?_
      · exact sh_State_holdsNotes_44 N   h 
      · refine Sh_gR (fun v2 => ?_)
        refine Sh_aI (fun v3 => ?_)
        refine Sh_cv (fun a => (sh_Curve_valueAt N h a v3)) (fun v4 h5 => ?_)
        refine Sh_gR (fun v6 => ?_)
        refine Sh_aJ (kd := 0) (fun v7 => ?_)
        refine Sh_ite ?_ ?_
        · refine Sh_bn (fun v8 => ?_)
          exact ih h5 th a1 v8
        · exact Sh_bz Sh_some
theorem sh_State_holdsNotes (N : Nat) (h : hS) (th : Nat) (a1 : Option Nat) : Sh h (f_State_holdsNotes N h th a1) := by
  unfold f_State_holdsNotes
  exact sh_State_holdsNotes_2 N  N h th a1 (0 : Int32)
theorem mo_State_take_131 (N : Nat)  : ∀ (n : Nat) (h : hS) (th : Nat) (a1 : Option Nat) (x2 : Int32), Mo h (f_State_take_131 N  n h th a1 x2) := by
  intro n
  induction n with
  | zero =>
    intro h th a1 x2
    exact Mo_none
  | succ n ih =>
    intro h th a1 x2
    unfold f_State_take_131
    refine Mo_gR (fun v1 => ?_)
    refine Mo_lnA (fun v2 => ?_)
    refine Mo_ite ?_ ?_
    · exact Mo_some
    · refine Mo_gR (fun v3 => ?_)
      refine Mo_gR (fun v4 => ?_)
      refine Mo_aI (fun v5 => ?_)
      refine Mo_uI (fun h6 => ?_)
      refine Mo_bn (fun v7 => ?_)
      exact ih h6 th a1 v7
theorem mo_State_take_85 (N : Nat)  : ∀ (n : Nat) (h : hS) (th : Nat) (a1 : Option Nat) (x2 : Int32), Mo h (f_State_take_85 N  n h th a1 x2) := by
  intro n
  induction n with
  | zero =>
    intro h th a1 x2
    exact Mo_none
  | succ n ih =>
    intro h th a1 x2
    unfold f_State_take_85
    refine Mo_ite ?_ ?_
    · refine Mo_gI (fun v1 => ?_)
      refine Mo_pI (fun h2 => ?_)
      exact mo_State_take_131 N  N h2 th a1 (0 : Int32)
    · refine Mo_gR (fun v3 => ?_)
      refine Mo_gR (fun v4 => ?_)
      refine Mo_aI (fun v5 => ?_)
      refine Mo_uI (fun h6 => ?_)
      refine Mo_gR (fun v7 => ?_)
      refine Mo_gR (fun v8 => ?_)
      refine Mo_aJ (kd := 0) (fun v9 => ?_)
      refine Mo_uJ (fun h10 => ?_)
      refine Mo_bn (fun v11 => ?_)
      exact ih h10 th a1 v11
theorem mo_State_take_75 (N : Nat)  : ∀  (h : hS) (th : Nat) (a1 : Option Nat), Mo h (f_State_take_75 N   h th a1) := by
  intro h th a1
  unfold f_State_take_75
  refine Mo_gI (fun v1 => ?_)
  refine Mo_pI (fun h2 => ?_)
  exact mo_State_take_85 N  N h2 th a1 (0 : Int32)
theorem mo_State_take_69 (N : Nat) {rc30 : hS → Nat → Option Nat → Int32 → Option (Unit × hS)} (hsh30 : ∀ (h : hS) (th : Nat) (a1 : Option Nat) (x2 : Int32), Mo h (rc30 h th a1 x2)) : ∀  (h : hS) (th : Nat) (a1 : Option Nat) (x2 : Int32), Mo h (f_State_take_69 N rc30  h th a1 x2) := by
  intro h th a1 x2
  unfold f_State_take_69
  refine Mo_bn (fun v1 => ?_)
  exact hsh30 h th a1 v1
theorem mo_State_take_66 (N : Nat) {rc30 : hS → Nat → Option Nat → Int32 → Option (Unit × hS)} (hsh30 : ∀ (h : hS) (th : Nat) (a1 : Option Nat) (x2 : Int32), Mo h (rc30 h th a1 x2)) : ∀  (h : hS) (th : Nat) (a1 : Option Nat) (x2 : Int32) (y0 : Option Nat) (y1 : Option Nat), Mo h (f_State_take_66 N rc30  h th a1 x2 y0 y1) := by
  intro h th a1 x2 y0 y1
  unfold f_State_take_66
  refine Mo_cv (fun a => (mo_Chain_take N h a y1)) (fun v1 h2 => ?_)
  exact mo_State_take_69 N hsh30  h2 th a1 x2
theorem mo_State_take_61 (N : Nat) {rc30 : hS → Nat → Option Nat → Int32 → Option (Unit × hS)} (hsh30 : ∀ (h : hS) (th : Nat) (a1 : Option Nat) (x2 : Int32), Mo h (rc30 h th a1 x2)) : ∀  (h : hS) (th : Nat) (a1 : Option Nat) (x2 : Int32) (y0 : Option Nat), Mo h (f_State_take_61 N rc30  h th a1 x2 y0) := by
  intro h th a1 x2 y0
  unfold f_State_take_61
  refine Mo_cv (fun a => (mo_State_actChain N h a x2)) (fun v1 h2 => ?_)
  exact mo_State_take_66 N hsh30  h2 th a1 x2 y0 v1
theorem mo_State_take_30 (N : Nat)  : ∀ (n : Nat) (h : hS) (th : Nat) (a1 : Option Nat) (x2 : Int32), Mo h (f_State_take_30 N  n h th a1 x2) := by
  intro n
  induction n with
  | zero =>
    intro h th a1 x2
    exact Mo_none
  | succ n ih =>
    intro h th a1 x2
    unfold f_State_take_30
    refine Mo_gI (fun v1 => ?_)
    refine Mo_ite ?_ ?_
    · exact mo_State_take_75 N   h th a1
    · refine Mo_ite ?_ ?_
      · exact mo_State_take_75 N   h th a1
      · refine Mo_gR (fun v2 => ?_)
        refine Mo_gR (fun v3 => ?_)
        refine Mo_aI (fun v4 => ?_)
        refine Mo_uI (fun h5 => ?_)
        refine Mo_cv (fun a => (mo_State_actChain N h5 a x2)) (fun v6 h7 => ?_)
        exact mo_State_take_61 N ih  h7 th a1 x2 v6
theorem mo_State_take_22 (N : Nat) {rc2 : hS → Nat → Option Nat → Int32 → Option (Unit × hS)} (hsh2 : ∀ (h : hS) (th : Nat) (a1 : Option Nat) (x2 : Int32), Mo h (rc2 h th a1 x2)) : ∀  (h : hS) (th : Nat) (a1 : Option Nat) (x2 : Int32), Mo h (f_State_take_22 N rc2  h th a1 x2) := by
  intro h th a1 x2
  unfold f_State_take_22
  refine Mo_bn (fun v1 => ?_)
  exact hsh2 h th a1 v1
theorem mo_State_take_2 (N : Nat)  : ∀ (n : Nat) (h : hS) (th : Nat) (a1 : Option Nat) (x2 : Int32), Mo h (f_State_take_2 N  n h th a1 x2) := by
  intro n
  induction n with
  | zero =>
    intro h th a1 x2
    exact Mo_none
  | succ n ih =>
    intro h th a1 x2
    unfold f_State_take_2
    refine Mo_ite ?_ ?_
    · exact mo_State_take_30 N  N h th a1 (0 : Int32)
    · refine Mo_gR (fun v1 => ?_)
      refine Mo_aR (fun v2 => ?_)
      refine Mo_gR (fun v3 => ?_)
      refine Mo_aR (fun v4 => ?_)
      refine Mo_cv (fun a => (mo_Chain_take N h a v4)) (fun v5 h6 => ?_)
      exact mo_State_take_22 N ih  h6 th a1 x2
theorem mo_State_take (N : Nat) (h : hS) (th : Nat) (a1 : Option Nat) : Mo h (f_State_take N h th a1) := by
  unfold f_State_take
  exact mo_State_take_2 N  N h th a1 (0 : Int32)
theorem sh_Step_init (N : Nat) (h : hS) (th : Nat) (x1 : Int32) (x2 : Int32) (x3 : Int32) (a4 : Option Nat) : Sh h (f_Step_init N h th x1 x2 x3 a4) := by
  unfold f_Step_init
  refine Sh_pI (fun h1 => ?_)
  refine Sh_pI (fun h2 => ?_)
  refine Sh_pI (fun h3 => ?_)
  refine Sh_pR (fun h4 => ?_)
  exact Sh_some
theorem sh_Teller_init (N : Nat) (h : hS) (th : Nat) : Sh h (f_Teller_init N h th) := by
  unfold f_Teller_init
  exact Sh_some
theorem sh_Teller_listenFor (N : Nat) (h : hS) (th : Nat) (x1 : Int32) : Sh h (f_Teller_listenFor N h th x1) := by
  unfold f_Teller_listenFor
  refine Sh_pI (fun h1 => ?_)
  refine Sh_pI (fun h2 => ?_)
  refine Sh_pI (fun h3 => ?_)
  exact Sh_some
theorem sh_Teller_put_16 (N : Nat)  : ∀  (h : hS) (th : Nat), Sh h (f_Teller_put_16 N   h th) := by
  intro h th
  unfold f_Teller_put_16
  refine Sh_gI (fun v1 => ?_)
  refine Sh_pI (fun h2 => ?_)
  exact Sh_some
theorem sh_Teller_put (N : Nat) (h : hS) (th : Nat) (x1 : Int32) : Sh h (f_Teller_put N h th x1) := by
  unfold f_Teller_put
  refine Sh_gI (fun v1 => ?_)
  refine Sh_gI (fun v2 => ?_)
  refine Sh_ite ?_ ?_
  · refine Sh_pI (fun h3 => ?_)
    exact sh_Teller_put_16 N   h3 th
  · exact sh_Teller_put_16 N   h th
theorem sh_Teller_putNumber_58 (N : Nat)  : ∀  (h : hS) (th : Nat) (x2 : Int32), Sh h (f_Teller_putNumber_58 N   h th x2) := by
  intro h th x2
  unfold f_Teller_putNumber_58
  refine Sh_dv ?_
  refine Sh_cv (fun a => (sh_Teller_put N h a ((48 : Int32) + (x2 - x2 / (10 : Int32) * (10 : Int32))))) (fun v1 h2 => ?_)
  exact Sh_some
theorem sh_Teller_putNumber_38 (N : Nat)  : ∀  (h : hS) (th : Nat) (x2 : Int32), Sh h (f_Teller_putNumber_38 N   h th x2) := by
  intro h th x2
  unfold f_Teller_putNumber_38
  refine Sh_ite ?_ ?_
  · exact sh_Teller_putNumber_58 N   h th x2
  · refine Sh_dv ?_
    refine Sh_dv ?_
    refine Sh_cv (fun a => (sh_Teller_put N h a ((48 : Int32) + ((x2 / (10 : Int32)) - (x2 / (10 : Int32)) / (10 : Int32) * (10 : Int32))))) (fun v1 h2 => ?_)
    exact sh_Teller_putNumber_58 N   h2 th x2
theorem sh_Teller_putNumber_16 (N : Nat)  : ∀  (h : hS) (th : Nat) (x1 : Int32), Sh h (f_Teller_putNumber_16 N   h th x1) := by
  intro h th x1
  unfold f_Teller_putNumber_16
  refine Sh_bn (fun v1 => ?_)
  refine Sh_ite ?_ ?_
  · exact sh_Teller_putNumber_38 N   h th v1
  · refine Sh_dv ?_
    refine Sh_cv (fun a => (sh_Teller_put N h a ((48 : Int32) + (v1 / (100 : Int32))))) (fun v2 h3 => ?_)
    exact sh_Teller_putNumber_38 N   h3 th v1
theorem sh_Teller_putNumber (N : Nat) (h : hS) (th : Nat) (x1 : Int32) : Sh h (f_Teller_putNumber N h th x1) := by
  unfold f_Teller_putNumber
  refine Sh_cv (fun a => (sh_Teller_put N h a (32 : Int32))) (fun v1 h2 => ?_)
  refine Sh_ite ?_ ?_
  · exact sh_Teller_putNumber_16 N   h2 th x1
  · refine Sh_cv (fun a => (sh_Teller_put N h2 a (45 : Int32))) (fun v3 h4 => ?_)
    exact sh_Teller_putNumber_16 N   h4 th x1
theorem sh_Teller_putStep_76 (N : Nat)  : ∀  (h : hS) (th : Nat), Sh h (f_Teller_putStep_76 N   h th) := by
  intro h th
  unfold f_Teller_putStep_76
  refine Sh_cv (fun a => (sh_Teller_put N h a (59 : Int32))) (fun v1 h2 => ?_)
  exact Sh_some
theorem sh_Teller_putStep_57 (N : Nat)  : ∀  (h : hS) (th : Nat) (a1 : Option Nat), Sh h (f_Teller_putStep_57 N   h th a1) := by
  intro h th a1
  unfold f_Teller_putStep_57
  refine Sh_gI (fun v1 => ?_)
  refine Sh_cl (sh_K_numbersOf N h v1) (fun v2 h3 => ?_)
  refine Sh_ite ?_ ?_
  · refine Sh_gI (fun v4 => ?_)
    refine Sh_cv (fun a => (sh_Teller_putNumber N h3 a v4)) (fun v5 h6 => ?_)
    exact sh_Teller_putStep_76 N   h6 th
  · exact sh_Teller_putStep_76 N   h3 th
theorem sh_Teller_putStep_15 (N : Nat)  : ∀ (n : Nat) (h : hS) (th : Nat) (a1 : Option Nat) (a2 : Option Nat) (x3 : Int32), Sh h (f_Teller_putStep_15 N  n h th a1 a2 x3) := by
  intro n
  induction n with
  | zero =>
    intro h th a1 a2 x3
    exact Sh_none
  | succ n ih =>
    intro h th a1 a2 x3
    unfold f_Teller_putStep_15
    refine Sh_cv (fun a => (sh_Str_length_8abf5 N h a )) (fun v1 h2 => ?_)
    refine Sh_ite ?_ ?_
    · refine Sh_gI (fun v3 => ?_)
      refine Sh_cl (sh_K_numbersOf N h2 v3) (fun v4 h5 => ?_)
      refine Sh_ite ?_ ?_
      · exact sh_Teller_putStep_57 N   h5 th a1
      · refine Sh_gI (fun v6 => ?_)
        refine Sh_cv (fun a => (sh_Teller_putNumber N h5 a v6)) (fun v7 h8 => ?_)
        exact sh_Teller_putStep_57 N   h8 th a1
    · refine Sh_cv (fun a => (sh_Str_charAt_5068e N h2 a x3)) (fun v9 h10 => ?_)
      refine Sh_cv (fun a => (sh_Teller_put N h10 a v9)) (fun v11 h12 => ?_)
      refine Sh_bn (fun v13 => ?_)
      exact ih h12 th a1 a2 v13
theorem sh_Teller_putStep (N : Nat) (h : hS) (th : Nat) (a1 : Option Nat) : Sh h (f_Teller_putStep N h th a1) := by
  unfold f_Teller_putStep
  refine Sh_ite ?_ ?_
  · exact Sh_some
  · refine Sh_gI (fun v1 => ?_)
    refine Sh_cl (sh_K_wordOf N h v1) (fun v2 h3 => ?_)
    exact sh_Teller_putStep_15 N  N h3 th a1 v2 (0 : Int32)
theorem mo_Trail_init_28 (N : Nat)  : ∀  (h : hS) (y0 : Option Nat) (y1 : Option Nat), Mo h (f_Trail_init_28 N   h y0 y1) := by
  intro h y0 y1
  unfold f_Trail_init_28
  refine Mo_pR (fun h1 => ?_)
  exact Mo_some
theorem mo_Trail_init_20 (N : Nat)  : ∀  (h : hS) (th : Nat) (y0 : Option Nat) (y1 : Option Nat), Mo h (f_Trail_init_20 N   h th y0 y1) := by
  intro h th y0 y1
  unfold f_Trail_init_20
  refine Mo_pR (fun h1 => ?_)
  refine Mo_nwA (fun q2 h3 => ?_)
  exact mo_Trail_init_28 N   h3 (some th) (some q2)
theorem mo_Trail_init_12 (N : Nat)  : ∀  (h : hS) (th : Nat) (y0 : Option Nat) (y1 : Option Nat), Mo h (f_Trail_init_12 N   h th y0 y1) := by
  intro h th y0 y1
  unfold f_Trail_init_12
  refine Mo_pR (fun h1 => ?_)
  refine Mo_nwA (fun q2 h3 => ?_)
  exact mo_Trail_init_20 N   h3 th (some th) (some q2)
theorem mo_Trail_init_8 (N : Nat)  : ∀  (h : hS) (th : Nat) (y0 : Option Nat) (y1 : Option Nat), Mo h (f_Trail_init_8 N   h th y0 y1) := by
  intro h th y0 y1
  unfold f_Trail_init_8
  refine Mo_nn (fun q3 => ?_)
  refine Mo_cl (mo_Chain_init N h q3 ) (fun v1 h2 => ?_)
  exact mo_Trail_init_12 N   h2 th y0 (some q3)
theorem mo_Trail_init (N : Nat) (h : hS) (th : Nat) : Mo h (f_Trail_init N h th) := by
  unfold f_Trail_init
  refine Mo_nwO (fun q1 h2 => ?_)
  exact mo_Trail_init_8 N   h2 th (some th) (some q1)
set_option maxRecDepth 20000 in
set_option maxHeartbeats 4000000 in
theorem b_Shelf_write_62 {p : Program} {l : Launch} {e : Env} {s : State} {m : MethodId} {args : Array Value} {below : List Frame} {meth : Method} {c : Code} {D : va_G} {cy : cyT} {z : Nat} (C : MX p s m args meth c cX5_write 4 (none) RX5 (Cond.code yX5_write cX5_write 4 (none) :: GW)) (N : Nat) (n0 s0 : Nat) (hn0 : s.heap.size = n0) {r : Unit} {g : hS} {rc32 : hS → Nat → Option Nat → Int32 → Int32 → Option (Unit × hS)} (hsh32 : ∀ (h : hS) (th : Nat) (a1 : Option Nat) (x2 : Int32) (x3 : Int32), Mo h (rc32 h th a1 x2 x3)) (hrc32 : ∀ (cells slots : Nat) (h : hS) (th : Nat) (a1 : Option Nat) (x2 : Int32) (x3 : Int32) (H : Heap) (locs : List Loc) (ls : Array Slot), wd D cy z s cells h H locs → h_s h = s0 + slots → lv_has ls 4 [(0, .ref th), (1, va_rf a1), (2, .int x2), (3, .int x3)] → rc32 h th a1 x2 x3 = some (r, g) → W p l e { frames := 1, cells := h_x g - n0, slots := h_s g - s0, locals := 44 } s m args below meth c H locs cells slots (MQ below (eQ D cy z (rV r) g) args s (h_x g - n0) (h_s g - s0) (fun q => z ≤ q)) (F0 m 32 ls [])) : ∀  (cells slots : Nat) (h : hS) (th : Nat) (a1 : Option Nat) (x3 : Int32) (y0 : Int32) (y1 : Int32) (H : Heap) (locs : List Loc) (ls : Array Slot), wd D cy z s cells h H locs → h_s h = s0 + slots → lv_has ls 4 [(0, .ref th), (1, va_rf a1), (3, .int x3)] → f_Shelf_write_62 N rc32  h th a1 x3 y0 y1 = some (r, g) → W p l e { frames := 1, cells := h_x g - n0, slots := h_s g - s0, locals := 44 } s m args below meth c H locs cells slots (MQ below (eQ D cy z (rV r) g) args s (h_x g - n0) (h_s g - s0) (fun q => z ≤ q)) (F0 m 62 ls [.int y1, .int y0]) := by
  obtain ⟨hx, hb, hr, hml, hown, hts, hlk⟩ := id C
  intro cells slots h th a1 x3 y0 y1 H locs ls w hsl hl hE
  have hcc : cells ≤ h_x g - n0 ∧ slots ≤ h_s g - s0 := by
    have q1 := mo_Shelf_write_62 N hsh32 h th a1 x3 y0 y1 _ _ hE
    have q2 := wd_x w
    have q3 := q1.1
    have q4 := q1.2.1
    omega
  unfold f_Shelf_write_62 at hE
  refine lv_iadd hx hb dX5_write_62 ?_
  refine w_bnI hE (fun v1 e1 => ?_)
  refine lv_istore_n (lv' := [(2, .int v1), (0, .ref th), (1, va_rf a1), (3, .int x3)]) hx hb dX5_write_63 rfl hl (by decide) (by cases a1 <;> rfl) (fun ls hl => ?_)
  refine lv_aload_n hx hb dX5_write_64 rfl (lv_at hl 1 rfl) ?_
  refine lv_iload_n hx hb dX5_write_65 rfl (lv_at hl 0 rfl) ?_
  refine w_aload_n C dX5_write_66 rfl (lv_at hl 2 rfl) ?_
  refine lv_iload_n hx hb dX5_write_67 rfl (lv_at hl 3 rfl) ?_
  refine w_VI GW_good (n := 1) (F := 0) (Lc := 0) (o := a1) (av := [.int x3]) (rest := [.int v1, .ref th]) C w rfl (by decide) (fun a r g hf => k_Curve_weightOf l D cy z N h a x3 r g hf) gw_17_5 gw_17_6 gw_17_7 gw_2_22 gw_17_8 (by decide +kernel) ⟨Nat.le_of_ble_eq_true rfl, Nat.le_of_ble_eq_true rfl⟩ rfl hl.1 rfl (Nat.le_of_ble_eq_true rfl) dX5_write_68 (fun a => (sh_Curve_weightOf N h a x3)) ⟨hcc.1, hcc.2⟩ e1 (fun v2 h3 H locs w hsh3 e2 => ?_)
  have hsl := hsh3.2.2.2.trans hsl
  refine w_VV GW_good (n := 2) (F := 0) (Lc := 0) (o := some th) (av := [.int v1, .int v2]) (rest := []) C w rfl (by decide) (fun a r g hf => k_Shelf_writeUnits l D cy z N h3 a v1 v2 r g hf) gw_17_9 gw_17_10 gw_17_11 gw_2_4 gw_17_12 (by decide +kernel) ⟨Nat.le_of_ble_eq_true rfl, Nat.le_of_ble_eq_true rfl⟩ rfl hl.1 rfl (Nat.le_of_ble_eq_true rfl) dX5_write_71 (fun a => (sh_Shelf_writeUnits N h3 a v1 v2)) ⟨hcc.1, hcc.2⟩ e2 (fun v4 h5 H locs w hsh5 e3 => ?_)
  have hsl := hsh5.2.2.2.trans hsl
  refine lv_iload_n hx hb dX5_write_74 rfl (lv_at hl 0 rfl) ?_
  refine w_aload_n C dX5_write_75 rfl (lv_at hl 2 rfl) ?_
  refine lv_iload_n hx hb dX5_write_76 rfl (lv_at hl 3 rfl) ?_
  refine w_VI GW_good (n := 1) (F := 0) (Lc := 0) (o := a1) (av := [.int x3]) (rest := [.int v1]) C w rfl (by decide) (fun a r g hf => k_Curve_weightOf l D cy z N h5 a x3 r g hf) gw_17_5 gw_17_6 gw_17_7 gw_2_22 gw_17_8 (by decide +kernel) ⟨Nat.le_of_ble_eq_true rfl, Nat.le_of_ble_eq_true rfl⟩ rfl hl.1 rfl (Nat.le_of_ble_eq_true rfl) dX5_write_77 (fun a => (sh_Curve_weightOf N h5 a x3)) ⟨hcc.1, hcc.2⟩ e3 (fun v6 h7 H locs w hsh7 e4 => ?_)
  have hsl := hsh7.2.2.2.trans hsl
  refine lv_iadd hx hb dX5_write_80 ?_
  refine w_bnI e4 (fun v8 e5 => ?_)
  refine lv_istore_n (lv' := [(2, .int v8), (0, .ref th), (1, va_rf a1), (3, .int x3)]) hx hb dX5_write_81 rfl hl (by decide) (by cases a1 <;> rfl) (fun ls hl => ?_)
  obtain ⟨v9, ev9, e6⟩ := bn_some e5
  refine lv_iinc (v := v9) (lv' := [(3, .int v9), (2, .int v8), (0, .ref th), (1, va_rf a1)]) hx hb dX5_write_82 hl (k := 3) rfl (by rw [ev9]; rfl) (by decide) rfl (fun ls hl => ?_)
  refine lv_goto (tgt := 32) hx hb dX5_write_85 (by decide) ?_
  exact hrc32 _ _ h7 th a1 v8 v9 _ _ ls w hsl (lv_sub hl [2, 3, 1, 0] rfl) e6
set_option maxRecDepth 20000 in
set_option maxHeartbeats 4000000 in
theorem b_Shelf_write_32 {p : Program} {l : Launch} {e : Env} {s : State} {m : MethodId} {args : Array Value} {below : List Frame} {meth : Method} {c : Code} {D : va_G} {cy : cyT} {z : Nat} (C : MX p s m args meth c cX5_write 4 (none) RX5 (Cond.code yX5_write cX5_write 4 (none) :: GW)) (N : Nat) (n0 s0 : Nat) (hn0 : s.heap.size = n0) {r : Unit} {g : hS}  : ∀ (n : Nat) (cells slots : Nat) (h : hS) (th : Nat) (a1 : Option Nat) (x2 : Int32) (x3 : Int32) (H : Heap) (locs : List Loc) (ls : Array Slot), wd D cy z s cells h H locs → h_s h = s0 + slots → lv_has ls 4 [(0, .ref th), (1, va_rf a1), (2, .int x2), (3, .int x3)] → f_Shelf_write_32 N  n h th a1 x2 x3 = some (r, g) → W p l e { frames := 1, cells := h_x g - n0, slots := h_s g - s0, locals := 44 } s m args below meth c H locs cells slots (MQ below (eQ D cy z (rV r) g) args s (h_x g - n0) (h_s g - s0) (fun q => z ≤ q)) (F0 m 32 ls []) := by
  obtain ⟨hx, hb, hr, hml, hown, hts, hlk⟩ := id C
  intro n
  induction n with
  | zero =>
    intro cells slots h th a1 x2 x3 H locs ls w hsl hl hE
    cases hE
  | succ n ih =>
    intro cells slots h th a1 x2 x3 H locs ls w hsl hl hE
    have hcc : cells ≤ h_x g - n0 ∧ slots ≤ h_s g - s0 := by
      have q1 := mo_Shelf_write_32 N  (n + 1) h th a1 x2 x3 _ _ hE
      have q2 := wd_x w
      have q3 := q1.1
      have q4 := q1.2.1
      omega
    unfold f_Shelf_write_32 at hE
    refine lv_iload_n hx hb dX5_write_32 rfl (lv_at hl 3 rfl) ?_
    refine w_aload_n C dX5_write_33 rfl (lv_at hl 1 rfl) ?_
    refine w_gI (r := a1) (ci := 3) (k := 0) C w rfl (by decide) (GF_wsX20 _) (by decide) rfl (List.mem_cons_of_mem _ gw_16_19) rfl dX5_write_34 hE (fun v1 e1 => ?_)
    refine w_icmp_ge (tgt := 88) C dX5_write_37 (by decide) e1 (fun hc e2 => ?_) (fun hc e2 => ?_)
    · refine lv_aload_n hx hb dX5_write_88 rfl (lv_at hl 0 rfl) ?_
      refine lv_iload_n hx hb dX5_write_89 rfl (lv_at hl 2 rfl) ?_
      refine lv_bipush (v := 64) hx hb dX5_write_90 (by decide) ?_
      refine lv_iadd hx hb dX5_write_92 ?_
      refine lv_iconst (v := 1) hx hb dX5_write_93 (by decide) ?_
      refine lv_isub hx hb dX5_write_94 ?_
      refine lv_bipush (v := 64) hx hb dX5_write_95 (by decide) ?_
      refine w_idiv C dX5_write_97 e2 (fun e3 => ?_)
      refine lv_aload_n hx hb dX5_write_98 rfl (lv_at hl 0 rfl) ?_
      refine w_gR (r := some th) (ci := 6) (k := 0) C w rfl (by decide) (GF_wsX50 _) (by decide) rfl (List.mem_cons_of_mem _ gw_4_21) rfl dX5_write_99 e3 (fun v2 e4 => ?_)
      refine w_lenJ (r := v2) C w dX5_write_102 e4 (fun v3 e5 => ?_)
      refine w_mmin C hl.1 (List.mem_cons_of_mem _ gw_16_20) (List.mem_cons_of_mem _ gw_10_6) (List.mem_cons_of_mem _ gw_10_7) (List.mem_cons_of_mem _ gw_10_8) (Nat.le_of_ble_eq_true rfl) (Nat.le_of_ble_eq_true rfl) hcc.1 hcc.2 dX5_write_103 ?_
      refine w_pI (r := some th) (ci := 6) (k := 1) C w rfl (by decide) (by unfold roK; omega) (GF_wsX50 _) tyX5 tyX5_ok nmX5 (by decide) rfl (List.mem_cons_of_mem _ gw_4_22) rfl rfl (tyX5_ok 1 (by decide)) dX5_write_106 e5 (fun h4 H locs w hsh4 e6 => ?_)
      have hsl := hsh4.2.2.2.trans hsl
      refine W.widen (k := h_x g - n0) (n := h_s g - s0) hcc.1 hcc.2 ?_
      exact w_vret C w e6 dX5_write_109
    · refine lv_iload_n hx hb dX5_write_40 rfl (lv_at hl 2 rfl) ?_
      refine lv_iload_n hx hb dX5_write_41 rfl (lv_at hl 3 rfl) ?_
      refine w_if_ne (tgt := 49) C dX5_write_42 (by decide) e2 (fun hc e7 => ?_) (fun hc e7 => ?_)
      · refine w_aload_n C dX5_write_49 rfl (lv_at hl 1 rfl) ?_
        refine lv_iload_n hx hb dX5_write_50 rfl (lv_at hl 3 rfl) ?_
        refine w_VI GW_good (n := 1) (F := 0) (Lc := 0) (o := a1) (av := [.int x3]) (rest := [.int x2]) C w rfl (by decide) (fun a r g hf => k_Curve_placeOf l D cy z N h a x3 r g hf) gw_17_1 gw_17_2 gw_17_3 gw_2_22 gw_17_4 (by decide +kernel) ⟨Nat.le_of_ble_eq_true rfl, Nat.le_of_ble_eq_true rfl⟩ rfl hl.1 rfl (Nat.le_of_ble_eq_true rfl) dX5_write_51 (fun a => (sh_Curve_placeOf N h a x3)) ⟨hcc.1, hcc.2⟩ e7 (fun v5 h6 H locs w hsh6 e8 => ?_)
        have hsl := hsh6.2.2.2.trans hsl
        refine w_aload_n C dX5_write_54 rfl (lv_at hl 1 rfl) ?_
        refine lv_iload_n hx hb dX5_write_55 rfl (lv_at hl 3 rfl) ?_
        refine lv_iconst (v := 1) hx hb dX5_write_56 (by decide) ?_
        refine lv_isub hx hb dX5_write_57 ?_
        refine w_VI GW_good (n := 1) (F := 0) (Lc := 0) (o := a1) (av := [.int (x3 - (1 : Int32))]) (rest := [.int v5, .int x2]) C w rfl (by decide) (fun a r g hf => k_Curve_placeOf l D cy z N h6 a (x3 - (1 : Int32)) r g hf) gw_17_1 gw_17_2 gw_17_3 gw_2_22 gw_17_4 (by decide +kernel) ⟨Nat.le_of_ble_eq_true rfl, Nat.le_of_ble_eq_true rfl⟩ rfl hl.1 rfl (Nat.le_of_ble_eq_true rfl) dX5_write_58 (fun a => (sh_Curve_placeOf N h6 a (x3 - (1 : Int32)))) ⟨hcc.1, hcc.2⟩ e8 (fun v7 h8 H locs w hsh8 e9 => ?_)
        have hsl := hsh8.2.2.2.trans hsl
        refine lv_isub hx hb dX5_write_61 ?_
        exact b_Shelf_write_62 C N n0 s0 hn0 (mo_Shelf_write_32 N  n) ih  _ _ h8 th a1 x3 x2 (v5 - v7) _ _ ls w hsl (lv_sub hl [0, 1, 3] rfl) e9
      · refine lv_iconst (v := 0) hx hb dX5_write_45 (by decide) ?_
        refine lv_goto (tgt := 62) hx hb dX5_write_46 (by decide) ?_
        exact b_Shelf_write_62 C N n0 s0 hn0 (mo_Shelf_write_32 N  n) ih  _ _ h th a1 x3 x2 (0 : Int32) _ _ ls w hsl (lv_sub hl [0, 1, 3] rfl) e7
set_option maxRecDepth 20000 in
set_option maxHeartbeats 4000000 in
theorem b_Shelf_write_20 {p : Program} {l : Launch} {e : Env} {s : State} {m : MethodId} {args : Array Value} {below : List Frame} {meth : Method} {c : Code} {D : va_G} {cy : cyT} {z : Nat} (C : MX p s m args meth c cX5_write 4 (none) RX5 (Cond.code yX5_write cX5_write 4 (none) :: GW)) (N : Nat) (n0 s0 : Nat) (hn0 : s.heap.size = n0) {r : Unit} {g : hS}  : ∀  (cells slots : Nat) (h : hS) (th : Nat) (a1 : Option Nat) (H : Heap) (locs : List Loc) (ls : Array Slot), wd D cy z s cells h H locs → h_s h = s0 + slots → lv_has ls 4 [(0, .ref th), (1, va_rf a1)] → f_Shelf_write_20 N   h th a1 = some (r, g) → W p l e { frames := 1, cells := h_x g - n0, slots := h_s g - s0, locals := 44 } s m args below meth c H locs cells slots (MQ below (eQ D cy z (rV r) g) args s (h_x g - n0) (h_s g - s0) (fun q => z ≤ q)) (F0 m 20 ls []) := by
  obtain ⟨hx, hb, hr, hml, hown, hts, hlk⟩ := id C
  intro cells slots h th a1 H locs ls w hsl hl hE
  have hcc : cells ≤ h_x g - n0 ∧ slots ≤ h_s g - s0 := by
    have q1 := mo_Shelf_write_20 N  h th a1 _ _ hE
    have q2 := wd_x w
    have q3 := q1.1
    have q4 := q1.2.1
    omega
  unfold f_Shelf_write_20 at hE
  refine lv_aload_n hx hb dX5_write_20 rfl (lv_at hl 0 rfl) ?_
  refine w_gR (r := some th) (ci := 6) (k := 0) C w rfl (by decide) (GF_wsX50 _) (by decide) rfl (List.mem_cons_of_mem _ gw_4_21) rfl dX5_write_21 hE (fun v1 e1 => ?_)
  refine lv_lconst (v := 0) hx hb dX5_write_24 (by decide) ?_
  refine w_SV GW_good (n := 2) (F := 0) (Lc := 0) (av := [va_rf v1, .long (0 : Int64)]) (rest := []) C w (fun r g hf => k_Arr_fill_d0a16 l D cy z N h v1 (0 : Int64) r g hf) gw_16_21 gw_16_22 gw_16_23 gw_17_0 (by decide +kernel) ⟨Nat.le_of_ble_eq_true rfl, Nat.le_of_ble_eq_true rfl⟩ rfl hl.1 rfl (Nat.le_of_ble_eq_true rfl) dX5_write_25 (sh_Arr_fill_d0a16 N h v1 (0 : Int64)) ⟨hcc.1, hcc.2⟩ e1 (fun v2 h3 H locs w hsh3 e2 => ?_)
  have hsl := hsh3.2.2.2.trans hsl
  refine lv_iconst (v := 0) hx hb dX5_write_28 (by decide) ?_
  refine lv_istore_n (lv' := [(2, .int (0 : Int32)), (0, .ref th), (1, va_rf a1)]) hx hb dX5_write_29 rfl hl (by decide) (by cases a1 <;> rfl) (fun ls hl => ?_)
  refine lv_iconst (v := 0) hx hb dX5_write_30 (by decide) ?_
  refine lv_istore_n (lv' := [(3, .int (0 : Int32)), (2, .int (0 : Int32)), (0, .ref th), (1, va_rf a1)]) hx hb dX5_write_31 rfl hl (by decide) rfl (fun ls hl => ?_)
  exact b_Shelf_write_32 C N n0 s0 hn0  N _ _ h3 th a1 (0 : Int32) (0 : Int32) _ _ ls w hsl (lv_sub hl [2, 3, 1, 0] rfl) e2
set_option maxRecDepth 20000 in
set_option maxHeartbeats 4000000 in
theorem b_Shelf_write_17 {p : Program} {l : Launch} {e : Env} {s : State} {m : MethodId} {args : Array Value} {below : List Frame} {meth : Method} {c : Code} {D : va_G} {cy : cyT} {z : Nat} (C : MX p s m args meth c cX5_write 4 (none) RX5 (Cond.code yX5_write cX5_write 4 (none) :: GW)) (N : Nat) (n0 s0 : Nat) (hn0 : s.heap.size = n0) {r : Unit} {g : hS}  : ∀  (cells slots : Nat) (h : hS) (th : Nat) (a1 : Option Nat) (y0 : Option Nat) (y1 : Option Nat) (H : Heap) (locs : List Loc) (ls : Array Slot), wd D cy z s cells h H locs → h_s h = s0 + slots → lv_has ls 4 [(0, .ref th), (1, va_rf a1)] → f_Shelf_write_17 N   h th a1 y0 y1 = some (r, g) → W p l e { frames := 1, cells := h_x g - n0, slots := h_s g - s0, locals := 44 } s m args below meth c H locs cells slots (MQ below (eQ D cy z (rV r) g) args s (h_x g - n0) (h_s g - s0) (fun q => z ≤ q)) (F0 m 17 ls [va_rf y1, va_rf y0]) := by
  obtain ⟨hx, hb, hr, hml, hown, hts, hlk⟩ := id C
  intro cells slots h th a1 y0 y1 H locs ls w hsl hl hE
  have hcc : cells ≤ h_x g - n0 ∧ slots ≤ h_s g - s0 := by
    have q1 := mo_Shelf_write_17 N  h th a1 y0 y1 _ _ hE
    have q2 := wd_x w
    have q3 := q1.1
    have q4 := q1.2.1
    omega
  unfold f_Shelf_write_17 at hE
  refine w_pR (r := y0) (ci := 6) (k := 0) (v := y1) (Or.inr ⟨_, rfl⟩) C w rfl (by decide) (by unfold roK; omega) (GF_wsX50 _) tyX5 tyX5_ok nmX5 (by decide) rfl (List.mem_cons_of_mem _ gw_4_21) rfl rfl (tyX5_ok 0 (by decide)) dX5_write_17 hE (fun h1 H locs w hsh1 e1 => ?_)
  have hsl := hsh1.2.2.2.trans hsl
  exact b_Shelf_write_20 C N n0 s0 hn0   _ _ h1 th a1 _ _ ls w hsl (lv_sub hl [0, 1] rfl) e1
set_option maxRecDepth 20000 in
set_option maxHeartbeats 4000000 in
theorem k_Shelf_write (l : Launch) (D : va_G) (cy : cyT) (z : Nat) (N : Nat) (h : hS) (th : Nat) (a1 : Option Nat) (r : Unit) (g : hS) (hE : f_Shelf_write N h th a1 = some (r, g)) : ct l yX5_write (Cond.code yX5_write cX5_write 4 (none) :: GW) { frames := 1, cells := h_x g - h_x h, slots := h_s g - h_s h, locals := 44 } D cy z h [.ref th, va_rf a1] (rV r) g := by
  refine Met.ofW (cc := cX5_write) (maxL := 4) (ret := none) (by decide) rfl ?_
  intro p e s m args below meth c s₁ B hml hv
  obtain ⟨rfl, hw⟩ := hv
  have C : MX p s m ([.ref th, va_rf a1] : List Value).toArray meth c cX5_write 4 (none) RX5 (Cond.code yX5_write cX5_write 4 (none) :: GW) := ⟨B.exec, B.bytes, B.returns, hml, findClass_of_methodNamed B.named, atoms_spec (ws := Cond.code yX5_write cX5_write 4 (none) :: GW) B.pre, B.notSynchronized⟩
  obtain ⟨hx, hb, hr, hml, hown, hts, hlk⟩ := id C
  have w := wd_of hw
  have hsl : h_s h = h_s h + 0 := rfl
  have hn0 : s.heap.size = h_x h := (wd_x w).1
  obtain ⟨ls, hen, hl⟩ : ∃ ls : Array Slot, entryFrame m ([.ref th, va_rf a1] : List Value).toArray 4 = F0 m 0 ls [] ∧ lv_has ls 4 [(0, .ref th), (1, va_rf a1)] := by
    cases a1 <;> exact ⟨_, lg_entry_eq _ _ _, lv_entry _ (Nat.le_of_ble_eq_true rfl)⟩
  rw [hen]
  have hcc : 0 ≤ h_x g - h_x h ∧ 0 ≤ h_s g - h_s h := ⟨Nat.zero_le _, Nat.zero_le _⟩
  unfold f_Shelf_write at hE
  refine lv_aload_n hx hb dX5_write_0 rfl (lv_at hl 0 rfl) ?_
  refine w_gR (r := some th) (ci := 6) (k := 0) C w rfl (by decide) (GF_wsX50 _) (by decide) rfl (List.mem_cons_of_mem _ gw_4_21) rfl dX5_write_1 hE (fun v1 e1 => ?_)
  refine w_lenJ (r := v1) C w dX5_write_4 e1 (fun v2 e2 => ?_)
  refine lv_sipush (v := 235) hx hb dX5_write_5 (by decide) ?_
  refine w_icmp_ge (tgt := 20) C dX5_write_8 (by decide) e2 (fun hc e3 => ?_) (fun hc e3 => ?_)
  · exact b_Shelf_write_20 C N (h_x h) (h_s h) hn0   _ _ h th a1 _ _ ls w hsl (lv_sub hl [0, 1] rfl) e3
  · refine lv_aload_n hx hb dX5_write_11 rfl (lv_at hl 0 rfl) ?_
    refine lv_sipush (v := 235) hx hb dX5_write_12 (by decide) ?_
    have hm := mo_Shelf_write_17 N   (nw h 51 (235 : Int32).toNatClampNeg (235 : Int32).toNatClampNeg) th a1 (some th) (some (h_x h)) _ _ (nwA_some e3).2
    have hm1 := hm.1
    have hm2 := hm.2.1
    rw [h_x_nw] at hm1
    rw [h_s_nw] at hm2
    have hwx := wd_x w
    refine w_nwJ C w (List.mem_cons_of_mem _ gw_1_6) dX5_write_15 e3 (by show 0 + 1 ≤ h_x g - (h_x h); omega) (by show 0 + _ ≤ h_s g - (h_s h); omega) (fun H w e4 => ?_)
    exact b_Shelf_write_17 C N (h_x h) (h_s h) hn0   (0 + 1) (0 + (235 : Int32).toNatClampNeg) (nw h 51 (235 : Int32).toNatClampNeg (235 : Int32).toNatClampNeg) th a1 (some th) (some (h_x h)) _ _ ls w (by first | (rw [h_s_nw, hsl]; done) | (rw [h_s_nw, hsl]; omega)) (lv_sub hl [0, 1] rfl) e4
set_option maxRecDepth 20000 in
set_option maxHeartbeats 4000000 in
theorem b_Shelf_isWritten_13 {p : Program} {l : Launch} {e : Env} {s : State} {m : MethodId} {args : Array Value} {below : List Frame} {meth : Method} {c : Code} {D : va_G} {cy : cyT} {z : Nat} (C : MX p s m args meth c cX5_isWritten 3 ((some .boolean)) RX5 (Cond.code yX5_isWritten cX5_isWritten 3 ((some .boolean)) :: GW)) (N : Nat) {r : Int32} {g : hS}  : ∀ (n : Nat) (h : hS) (th : Nat) (a1 : Option Nat) (x2 : Int32) (H : Heap) (locs : List Loc) (ls : Array Slot), wd D cy z s 0 h H locs → lv_has ls 3 [(0, .ref th), (1, va_rf a1), (2, .int x2)] → f_Shelf_isWritten_13 N  n h th a1 x2 = some (r, g) → W p l e { frames := 0, cells := 0, slots := 0, locals := 0 } s m args below meth c H locs 0 0 (MQ below (eQ D cy z (rI r) g) args s 0 0 (fun q => z ≤ q)) (F0 m 13 ls []) := by
  obtain ⟨hx, hb, hr, hml, hown, hts, hlk⟩ := id C
  intro n
  induction n with
  | zero =>
    intro  h th a1 x2 H locs ls w  hl hE
    cases hE
  | succ n ih =>
    intro  h th a1 x2 H locs ls w  hl hE
    unfold f_Shelf_isWritten_13 at hE
    refine lv_iload_n hx hb dX5_isWritten_13 rfl (lv_at hl 2 rfl) ?_
    refine lv_aload_n hx hb dX5_isWritten_14 rfl (lv_at hl 0 rfl) ?_
    refine w_gI (r := some th) (ci := 6) (k := 1) C w rfl (by decide) (GF_wsX50 _) (by decide) rfl (List.mem_cons_of_mem _ gw_4_22) rfl dX5_isWritten_15 hE (fun v1 e1 => ?_)
    refine w_icmp_ge (tgt := 42) C dX5_isWritten_18 (by decide) e1 (fun hc e2 => ?_) (fun hc e2 => ?_)
    · refine lv_iconst (v := 1) hx hb dX5_isWritten_42 (by decide) ?_
      exact w_zret C w e2 dX5_isWritten_43
    · refine w_aload_n C dX5_isWritten_21 rfl (lv_at hl 1 rfl) ?_
      refine lv_iload_n hx hb dX5_isWritten_22 rfl (lv_at hl 2 rfl) ?_
      refine w_aJ (r := a1) C w dX5_isWritten_23 e2 (fun v2 e3 => ?_)
      refine lv_aload_n hx hb dX5_isWritten_24 rfl (lv_at hl 0 rfl) ?_
      refine w_gR (r := some th) (ci := 6) (k := 0) C w rfl (by decide) (GF_wsX50 _) (by decide) rfl (List.mem_cons_of_mem _ gw_4_21) rfl dX5_isWritten_25 e3 (fun v3 e4 => ?_)
      refine lv_iload_n hx hb dX5_isWritten_28 rfl (lv_at hl 2 rfl) ?_
      refine w_aJ (r := v3) C w dX5_isWritten_29 e4 (fun v4 e5 => ?_)
      refine W.lcmp hx hb dX5_isWritten_30 ?_
      refine w_if_eq (tgt := 36) C dX5_isWritten_31 (by decide) e5 (fun hc e6 => ?_) (fun hc e6 => ?_)
      · obtain ⟨v5, ev5, e7⟩ := bn_some e6
        refine lv_iinc (v := v5) (lv' := [(2, .int v5), (0, .ref th), (1, va_rf a1)]) hx hb dX5_isWritten_36 hl (k := 2) rfl (by rw [ev5]; rfl) (by decide) (by cases a1 <;> rfl) (fun ls hl => ?_)
        refine lv_goto (tgt := 13) hx hb dX5_isWritten_39 (by decide) ?_
        exact ih  h th a1 v5 _ _ ls w  (lv_sub hl [1, 2, 0] rfl) e7
      · refine lv_iconst (v := 0) hx hb dX5_isWritten_34 (by decide) ?_
        exact w_zret C w e6 dX5_isWritten_35
set_option maxRecDepth 20000 in
set_option maxHeartbeats 4000000 in
theorem k_Shelf_isWritten (l : Launch) (D : va_G) (cy : cyT) (z : Nat) (N : Nat) (h : hS) (th : Nat) (a1 : Option Nat) (r : Int32) (g : hS) (hE : f_Shelf_isWritten N h th a1 = some (r, g)) : ct l yX5_isWritten (Cond.code yX5_isWritten cX5_isWritten 3 ((some .boolean)) :: GW) { frames := 0, cells := 0, slots := 0, locals := 0 } D cy z h [.ref th, va_rf a1] (rI r) g := by
  refine Met.ofW (cc := cX5_isWritten) (maxL := 3) (ret := (some .boolean)) (by decide) rfl ?_
  intro p e s m args below meth c s₁ B hml hv
  obtain ⟨rfl, hw⟩ := hv
  have C : MX p s m ([.ref th, va_rf a1] : List Value).toArray meth c cX5_isWritten 3 ((some .boolean)) RX5 (Cond.code yX5_isWritten cX5_isWritten 3 ((some .boolean)) :: GW) := ⟨B.exec, B.bytes, B.returns, hml, findClass_of_methodNamed B.named, atoms_spec (ws := Cond.code yX5_isWritten cX5_isWritten 3 ((some .boolean)) :: GW) B.pre, B.notSynchronized⟩
  obtain ⟨hx, hb, hr, hml, hown, hts, hlk⟩ := id C
  have w := wd_of hw
  obtain ⟨ls, hen, hl⟩ : ∃ ls : Array Slot, entryFrame m ([.ref th, va_rf a1] : List Value).toArray 3 = F0 m 0 ls [] ∧ lv_has ls 3 [(0, .ref th), (1, va_rf a1)] := by
    cases a1 <;> exact ⟨_, lg_entry_eq _ _ _, lv_entry _ (Nat.le_of_ble_eq_true rfl)⟩
  rw [hen]
  unfold f_Shelf_isWritten at hE
  refine w_aload_n C dX5_isWritten_0 rfl (lv_at hl 1 rfl) ?_
  refine w_lenJ (r := a1) C w dX5_isWritten_1 hE (fun v1 e1 => ?_)
  refine lv_aload_n hx hb dX5_isWritten_2 rfl (lv_at hl 0 rfl) ?_
  refine w_gI (r := some th) (ci := 6) (k := 1) C w rfl (by decide) (GF_wsX50 _) (by decide) rfl (List.mem_cons_of_mem _ gw_4_22) rfl dX5_isWritten_3 e1 (fun v2 e2 => ?_)
  refine w_icmp_eq (tgt := 11) C dX5_isWritten_6 (by decide) e2 (fun hc e3 => ?_) (fun hc e3 => ?_)
  · refine lv_iconst (v := 0) hx hb dX5_isWritten_11 (by decide) ?_
    refine lv_istore_n (lv' := [(2, .int (0 : Int32)), (0, .ref th), (1, va_rf a1)]) hx hb dX5_isWritten_12 rfl hl (by decide) (by cases a1 <;> rfl) (fun ls hl => ?_)
    exact b_Shelf_isWritten_13 C N   N  h th a1 (0 : Int32) _ _ ls w  (lv_sub hl [1, 2, 0] rfl) e3
  · refine lv_iconst (v := 0) hx hb dX5_isWritten_9 (by decide) ?_
    exact w_zret C w e3 dX5_isWritten_10
set_option maxRecDepth 20000 in
set_option maxHeartbeats 4000000 in
theorem b_Arr_copyOf_c38d5_17 {p : Program} {l : Launch} {e : Env} {s : State} {m : MethodId} {args : Array Value} {below : List Frame} {meth : Method} {c : Code} {D : va_G} {cy : cyT} {z : Nat} (C : MX p s m args meth c cJ7_copyOf_c38d5 3 ((some (.array .long))) RJ7 (Cond.code yJ7_copyOf_c38d5 cJ7_copyOf_c38d5 3 ((some (.array .long))) :: GW)) (N : Nat) (n0 s0 : Nat) (hn0 : s.heap.size = n0) {r : Option Nat} {g : hS}  : ∀  (cells slots : Nat) (h : hS) (a0 : Option Nat) (x1 : Int32) (y0 : Option Nat) (H : Heap) (locs : List Loc) (ls : Array Slot), wd D cy z s cells h H locs → h_s h = s0 + slots → lv_has ls 3 [(0, va_rf a0), (1, .int x1)] → f_Arr_copyOf_c38d5_17 N   h a0 x1 y0 = some (r, g) → W p l e { frames := 1, cells := h_x g - n0, slots := h_s g - s0, locals := 60 } s m args below meth c H locs cells slots (MQ below (eQ D cy z (rR r) g) args s (h_x g - n0) (h_s g - s0) (fun q => z ≤ q)) (F0 m 17 ls [va_rf y0]) := by
  obtain ⟨hx, hb, hr, hml, hown, hts, hlk⟩ := id C
  intro cells slots h a0 x1 y0 H locs ls w hsl hl hE
  have hcc : cells ≤ h_x g - n0 ∧ slots ≤ h_s g - s0 := by
    have q1 := mo_Arr_copyOf_c38d5_17 N  h a0 x1 y0 _ _ hE
    have q2 := wd_x w
    have q3 := q1.1
    have q4 := q1.2.1
    omega
  unfold f_Arr_copyOf_c38d5_17 at hE
  refine w_astore_n (r := y0) (lv' := [(2, va_rf y0), (0, va_rf a0), (1, .int x1)]) C dJ7_copyOf_c38d5_17 rfl hl (by decide) rfl (fun ls hl => ?_)
  refine w_aload_n C dJ7_copyOf_c38d5_18 rfl (lv_at hl 1 rfl) ?_
  refine lv_iconst (v := 0) hx hb dJ7_copyOf_c38d5_19 (by decide) ?_
  refine w_aload_n C dJ7_copyOf_c38d5_20 rfl (lv_at hl 0 rfl) ?_
  refine lv_iconst (v := 0) hx hb dJ7_copyOf_c38d5_21 (by decide) ?_
  refine w_aload_n C dJ7_copyOf_c38d5_22 rfl (lv_at hl 1 rfl) ?_
  refine w_lenJ (r := a0) C w dJ7_copyOf_c38d5_23 hE (fun v1 e1 => ?_)
  refine lv_iload_n hx hb dJ7_copyOf_c38d5_24 rfl (lv_at hl 2 rfl) ?_
  refine w_mmin C hl.1 (List.mem_cons_of_mem _ gw_18_12) (List.mem_cons_of_mem _ gw_10_6) (List.mem_cons_of_mem _ gw_10_7) (List.mem_cons_of_mem _ gw_10_8) (Nat.le_of_ble_eq_true rfl) (cat_le13 (Nat.le_of_ble_eq_true rfl) (Nat.le_of_ble_eq_true rfl)) hcc.1 hcc.2 dJ7_copyOf_c38d5_25 ?_
  refine w_cpJ (src := a0) (dst := y0) C w hl.1 (List.mem_cons_of_mem _ gw_18_13) (List.mem_cons_of_mem _ gw_18_14) (List.mem_cons_of_mem _ gw_18_15) (List.mem_cons_of_mem _ gw_18_16) (Nat.le_of_ble_eq_true rfl) (Nat.le_of_ble_eq_true rfl) dJ7_copyOf_c38d5_28 e1 (fun h2 H locs w hsh2 e2 => ?_)
  have hsl := hsh2.2.2.2.trans hsl
  refine w_aload_n C dJ7_copyOf_c38d5_31 rfl (lv_at hl 0 rfl) ?_
  refine W.widen (k := h_x g - n0) (n := h_s g - s0) hcc.1 hcc.2 ?_
  exact w_aret (v := y0) (Or.inr ⟨_, rfl⟩) C w e2 dJ7_copyOf_c38d5_32
set_option maxRecDepth 20000 in
set_option maxHeartbeats 4000000 in
theorem b_Arr_copyOf_c38d5_10 {p : Program} {l : Launch} {e : Env} {s : State} {m : MethodId} {args : Array Value} {below : List Frame} {meth : Method} {c : Code} {D : va_G} {cy : cyT} {z : Nat} (C : MX p s m args meth c cJ7_copyOf_c38d5 3 ((some (.array .long))) RJ7 (Cond.code yJ7_copyOf_c38d5 cJ7_copyOf_c38d5 3 ((some (.array .long))) :: GW)) (N : Nat) (n0 s0 : Nat) (hn0 : s.heap.size = n0) {r : Option Nat} {g : hS}  : ∀  (cells slots : Nat) (h : hS) (y0 : Option Nat) (H : Heap) (locs : List Loc) (ls : Array Slot), wd D cy z s cells h H locs → h_s h = s0 + slots → lv_has ls 3 [] → f_Arr_copyOf_c38d5_10 N   h y0 = some (r, g) → W p l e { frames := 1, cells := h_x g - n0, slots := h_s g - s0, locals := 60 } s m args below meth c H locs cells slots (MQ below (eQ D cy z (rR r) g) args s (h_x g - n0) (h_s g - s0) (fun q => z ≤ q)) (F0 m 10 ls [va_rf y0]) := by
  obtain ⟨hx, hb, hr, hml, hown, hts, hlk⟩ := id C
  intro cells slots h y0 H locs ls w hsl hl hE
  have hcc : cells ≤ h_x g - n0 ∧ slots ≤ h_s g - s0 := by
    have q1 := mo_Arr_copyOf_c38d5_10 N  h y0 _ _ hE
    have q2 := wd_x w
    have q3 := q1.1
    have q4 := q1.2.1
    omega
  unfold f_Arr_copyOf_c38d5_10 at hE
  refine w_ckJ (r := y0) C w (List.mem_cons_of_mem _ gw_18_11) dJ7_copyOf_c38d5_10 hE (fun e1 => ?_)
  refine W.widen (k := h_x g - n0) (n := h_s g - s0) hcc.1 hcc.2 ?_
  exact w_aret (v := y0) (Or.inr ⟨_, rfl⟩) C w e1 dJ7_copyOf_c38d5_13
set_option maxRecDepth 20000 in
set_option maxHeartbeats 4000000 in
theorem k_Arr_copyOf_c38d5 (l : Launch) (D : va_G) (cy : cyT) (z : Nat) (N : Nat) (h : hS) (a0 : Option Nat) (x1 : Int32) (r : Option Nat) (g : hS) (hE : f_Arr_copyOf_c38d5 N h a0 x1 = some (r, g)) : ct l yJ7_copyOf_c38d5 (Cond.code yJ7_copyOf_c38d5 cJ7_copyOf_c38d5 3 ((some (.array .long))) :: GW) { frames := 1, cells := h_x g - h_x h, slots := h_s g - h_s h, locals := 60 } D cy z h [va_rf a0, .int x1] (rR r) g := by
  refine Met.ofW (cc := cJ7_copyOf_c38d5) (maxL := 3) (ret := (some (.array .long))) (by decide) rfl ?_
  intro p e s m args below meth c s₁ B hml hv
  obtain ⟨rfl, hw⟩ := hv
  have C : MX p s m ([va_rf a0, .int x1] : List Value).toArray meth c cJ7_copyOf_c38d5 3 ((some (.array .long))) RJ7 (Cond.code yJ7_copyOf_c38d5 cJ7_copyOf_c38d5 3 ((some (.array .long))) :: GW) := ⟨B.exec, B.bytes, B.returns, hml, findClass_of_methodNamed B.named, atoms_spec (ws := Cond.code yJ7_copyOf_c38d5 cJ7_copyOf_c38d5 3 ((some (.array .long))) :: GW) B.pre, B.notSynchronized⟩
  obtain ⟨hx, hb, hr, hml, hown, hts, hlk⟩ := id C
  have w := wd_of hw
  have hsl : h_s h = h_s h + 0 := rfl
  have hn0 : s.heap.size = h_x h := (wd_x w).1
  obtain ⟨ls, hen, hl⟩ : ∃ ls : Array Slot, entryFrame m ([va_rf a0, .int x1] : List Value).toArray 3 = F0 m 0 ls [] ∧ lv_has ls 3 [(0, va_rf a0), (1, .int x1)] := by
    cases a0 <;> exact ⟨_, lg_entry_eq _ _ _, lv_entry _ (Nat.le_of_ble_eq_true rfl)⟩
  rw [hen]
  have hcc : 0 ≤ h_x g - h_x h ∧ 0 ≤ h_s g - h_s h := ⟨Nat.zero_le _, Nat.zero_le _⟩
  unfold f_Arr_copyOf_c38d5 at hE
  refine lv_iload_n hx hb dJ7_copyOf_c38d5_0 rfl (lv_at hl 1 rfl) ?_
  refine w_aload_n C dJ7_copyOf_c38d5_1 rfl (lv_at hl 0 rfl) ?_
  refine w_lenJ (r := a0) C w dJ7_copyOf_c38d5_2 hE (fun v1 e1 => ?_)
  refine w_icmp_ne (tgt := 14) C dJ7_copyOf_c38d5_3 (by decide) e1 (fun hc e2 => ?_) (fun hc e2 => ?_)
  · refine lv_iload_n hx hb dJ7_copyOf_c38d5_14 rfl (lv_at hl 1 rfl) ?_
    have hm := mo_Arr_copyOf_c38d5_17 N   (nw h 51 x1.toNatClampNeg x1.toNatClampNeg) a0 x1 (some (h_x h)) _ _ (nwA_some e2).2
    have hm1 := hm.1
    have hm2 := hm.2.1
    rw [h_x_nw] at hm1
    rw [h_s_nw] at hm2
    have hwx := wd_x w
    refine w_nwJ C w (List.mem_cons_of_mem _ gw_1_6) dJ7_copyOf_c38d5_15 e2 (by show 0 + 1 ≤ h_x g - (h_x h); omega) (by show 0 + _ ≤ h_s g - (h_s h); omega) (fun H w e3 => ?_)
    exact b_Arr_copyOf_c38d5_17 C N (h_x h) (h_s h) hn0   (0 + 1) (0 + x1.toNatClampNeg) (nw h 51 x1.toNatClampNeg x1.toNatClampNeg) a0 x1 (some (h_x h)) _ _ ls w (by first | (rw [h_s_nw, hsl]; done) | (rw [h_s_nw, hsl]; omega)) (lv_sub hl [0, 1] rfl) e3
  · refine w_aload_n C dJ7_copyOf_c38d5_6 rfl (lv_at hl 0 rfl) ?_
    obtain ⟨a9, ea9, hE9⟩ := nn_some e2
    obtain ⟨hk9, hE9⟩ := if_some hE9
    have hm := mo_Arr_copyOf_c38d5_10 N   (nwJ h (h_n h a9) (h_j h a9)) (some (h_x h)) _ _ hE9
    have hm1 := hm.1
    have hm2 := hm.2.1
    have hwx := wd_x w
    have hm1 : h_x h + 1 ≤ _ := hm1
    have hm2 : h_s h + h_n h a9 ≤ _ := hm2
    refine w_clJ (r := a0) C w hl.1 (List.mem_cons_of_mem _ gw_18_6) (List.mem_cons_of_mem _ gw_18_7) (List.mem_cons_of_mem _ gw_18_8) (List.mem_cons_of_mem _ gw_18_9) (List.mem_cons_of_mem _ gw_18_10) (Nat.le_of_ble_eq_true rfl) (Nat.le_of_ble_eq_true rfl) dJ7_copyOf_c38d5_7 e2 (fun a ea => by rw [ea9] at ea; cases ea; exact ⟨by show 0 + 1 ≤ h_x g - (h_x h); omega, by show 0 + _ ≤ h_s g - (h_s h); omega⟩) (fun a H ea w e4 => ?_)
    rw [ea9] at ea
    cases ea
    exact b_Arr_copyOf_c38d5_10 C N (h_x h) (h_s h) hn0   (0 + 1) (0 + h_n h a9) (nwJ h (h_n h a9) (h_j h a9)) (some (h_x h)) _ _ ls w (by show h_s h + h_n h a9 = _; rw [hsl]; omega) (lv_sub hl [] rfl) e4
set_option maxRecDepth 20000 in
set_option maxHeartbeats 4000000 in
theorem b_Shelf_keep_75 {p : Program} {l : Launch} {e : Env} {s : State} {m : MethodId} {args : Array Value} {below : List Frame} {meth : Method} {c : Code} {D : va_G} {cy : cyT} {z : Nat} (C : MX p s m args meth c cX5_keep 4 ((some (.object "SlopeKeeper$Keepsake"))) RX5 (Cond.code yX5_keep cX5_keep 4 ((some (.object "SlopeKeeper$Keepsake"))) :: GW)) (N : Nat) (n0 s0 : Nat) (hn0 : s.heap.size = n0) {r : Option Nat} {g : hS}  : ∀  (cells slots : Nat) (h : hS) (th : Nat) (y0 : Option Nat) (y1 : Option Nat) (y2 : Option Nat) (y3 : Option Nat) (y4 : Option Nat) (H : Heap) (locs : List Loc) (ls : Array Slot), wd D cy z s cells h H locs → h_s h = s0 + slots → lv_has ls 4 [(0, .ref th)] → f_Shelf_keep_75 N   h th y0 y1 y2 y3 y4 = some (r, g) → W p l e { frames := 2, cells := h_x g - n0, slots := h_s g - s0, locals := 82 } s m args below meth c H locs cells slots (MQ below (eQ D cy z (rR r) g) args s (h_x g - n0) (h_s g - s0) (fun q => z ≤ q)) (F0 m 75 ls [va_rf y4, va_rf y3, va_rf y2, va_rf y1, va_rf y0]) := by
  obtain ⟨hx, hb, hr, hml, hown, hts, hlk⟩ := id C
  intro cells slots h th y0 y1 y2 y3 y4 H locs ls w hsl hl hE
  have hcc : cells ≤ h_x g - n0 ∧ slots ≤ h_s g - s0 := by
    have q1 := mo_Shelf_keep_75 N  h th y0 y1 y2 y3 y4 _ _ hE
    have q2 := wd_x w
    have q3 := q1.1
    have q4 := q1.2.1
    omega
  unfold f_Shelf_keep_75 at hE
  refine lv_aload_n hx hb dX5_keep_75 rfl (lv_at hl 0 rfl) ?_
  refine w_gR (r := some th) (ci := 6) (k := 2) C w rfl (by decide) (GF_wsX50 _) (by decide) rfl (List.mem_cons_of_mem _ gw_4_23) rfl dX5_keep_76 hE (fun v1 e1 => ?_)
  obtain ⟨q4, eq4, e2⟩ := nn_some e1
  subst eq4
  refine w_IV GW_good (b := q4) (n := 3) (F := 1) (Lc := 44) (av := [va_rf y3, va_rf y4, va_rf v1]) (rest := [va_rf y1, va_rf y0]) C w (fun r g hf => k_Keepsake_init l D cy z N h q4 y3 y4 v1 r g hf) gw_18_17 gw_18_18 gw_16_14 gw_18_19 rfl (by decide +kernel) ⟨Nat.le_of_ble_eq_true rfl, Nat.le_of_ble_eq_true rfl⟩ rfl hl.1 rfl (cat_le (Nat.le_of_ble_eq_true rfl)) dX5_keep_79 (sh_Keepsake_init N h q4 y3 y4 v1) ⟨hcc.1, hcc.2⟩ e2 (fun v2 h3 H locs w hsh3 e3 => ?_)
  have hsl := hsh3.2.2.2.trans hsl
  refine w_pR (r := y0) (ci := 6) (k := 2) (v := y1) (Or.inl ⟨_, rfl⟩) C w rfl (by decide) (by unfold roK; omega) (GF_wsX50 _) tyX5 tyX5_ok nmX5 (by decide) rfl (List.mem_cons_of_mem _ gw_4_23) rfl rfl (tyX5_ok 2 (by decide)) dX5_keep_82 e3 (fun h5 H locs w hsh5 e4 => ?_)
  have hsl := hsh5.2.2.2.trans hsl
  refine lv_aload_n hx hb dX5_keep_85 rfl (lv_at hl 0 rfl) ?_
  refine w_gR (r := some th) (ci := 6) (k := 2) C w rfl (by decide) (GF_wsX50 _) (by decide) rfl (List.mem_cons_of_mem _ gw_4_23) rfl dX5_keep_86 e4 (fun v6 e5 => ?_)
  refine W.widen (k := h_x g - n0) (n := h_s g - s0) hcc.1 hcc.2 ?_
  exact w_aret (v := v6) (Or.inl ⟨_, rfl⟩) C w e5 dX5_keep_89
set_option maxRecDepth 20000 in
set_option maxHeartbeats 4000000 in
theorem b_Shelf_keep_71 {p : Program} {l : Launch} {e : Env} {s : State} {m : MethodId} {args : Array Value} {below : List Frame} {meth : Method} {c : Code} {D : va_G} {cy : cyT} {z : Nat} (C : MX p s m args meth c cX5_keep 4 ((some (.object "SlopeKeeper$Keepsake"))) RX5 (Cond.code yX5_keep cX5_keep 4 ((some (.object "SlopeKeeper$Keepsake"))) :: GW)) (N : Nat) (n0 s0 : Nat) (hn0 : s.heap.size = n0) {r : Option Nat} {g : hS}  : ∀  (cells slots : Nat) (h : hS) (th : Nat) (y0 : Option Nat) (y1 : Option Nat) (y2 : Option Nat) (y3 : Option Nat) (y4 : Option Nat) (H : Heap) (locs : List Loc) (ls : Array Slot), wd D cy z s cells h H locs → h_s h = s0 + slots → lv_has ls 4 [(0, .ref th)] → f_Shelf_keep_71 N   h th y0 y1 y2 y3 y4 = some (r, g) → W p l e { frames := 2, cells := h_x g - n0, slots := h_s g - s0, locals := 82 } s m args below meth c H locs cells slots (MQ below (eQ D cy z (rR r) g) args s (h_x g - n0) (h_s g - s0) (fun q => z ≤ q)) (F0 m 71 ls [va_rf y4, va_rf y3, va_rf y2, va_rf y1, va_rf y0]) := by
  obtain ⟨hx, hb, hr, hml, hown, hts, hlk⟩ := id C
  intro cells slots h th y0 y1 y2 y3 y4 H locs ls w hsl hl hE
  have hcc : cells ≤ h_x g - n0 ∧ slots ≤ h_s g - s0 := by
    have q1 := mo_Shelf_keep_71 N  h th y0 y1 y2 y3 y4 _ _ hE
    have q2 := wd_x w
    have q3 := q1.1
    have q4 := q1.2.1
    omega
  unfold f_Shelf_keep_71 at hE
  refine lv_goto (tgt := 75) hx hb dX5_keep_71 (by decide) ?_
  exact b_Shelf_keep_75 C N n0 s0 hn0   _ _ h th y0 y1 y2 y3 y4 _ _ ls w hsl (lv_sub hl [0] rfl) hE
set_option maxRecDepth 20000 in
set_option maxHeartbeats 4000000 in
theorem b_Shelf_keep_54 {p : Program} {l : Launch} {e : Env} {s : State} {m : MethodId} {args : Array Value} {below : List Frame} {meth : Method} {c : Code} {D : va_G} {cy : cyT} {z : Nat} (C : MX p s m args meth c cX5_keep 4 ((some (.object "SlopeKeeper$Keepsake"))) RX5 (Cond.code yX5_keep cX5_keep 4 ((some (.object "SlopeKeeper$Keepsake"))) :: GW)) (N : Nat) (n0 s0 : Nat) (hn0 : s.heap.size = n0) {r : Option Nat} {g : hS}  : ∀  (cells slots : Nat) (h : hS) (th : Nat) (a1 : Option Nat) (a2 : Option Nat) (y0 : Option Nat) (y1 : Option Nat) (H : Heap) (locs : List Loc) (ls : Array Slot), wd D cy z s cells h H locs → h_s h = s0 + slots → lv_has ls 4 [(0, .ref th), (1, va_rf a1), (2, va_rf a2)] → f_Shelf_keep_54 N   h th a1 a2 y0 y1 = some (r, g) → W p l e { frames := 2, cells := h_x g - n0, slots := h_s g - s0, locals := 82 } s m args below meth c H locs cells slots (MQ below (eQ D cy z (rR r) g) args s (h_x g - n0) (h_s g - s0) (fun q => z ≤ q)) (F0 m 54 ls [va_rf y1, va_rf y0]) := by
  obtain ⟨hx, hb, hr, hml, hown, hts, hlk⟩ := id C
  intro cells slots h th a1 a2 y0 y1 H locs ls w hsl hl hE
  have hcc : cells ≤ h_x g - n0 ∧ slots ≤ h_s g - s0 := by
    have q1 := mo_Shelf_keep_54 N  h th a1 a2 y0 y1 _ _ hE
    have q2 := wd_x w
    have q3 := q1.1
    have q4 := q1.2.1
    omega
  unfold f_Shelf_keep_54 at hE
  refine lv_dup hx hb dX5_keep_54 (va_rf_cat _) ?_
  refine w_aload_n C dX5_keep_55 rfl (lv_at hl 1 rfl) ?_
  refine w_aload_n C dX5_keep_56 rfl (lv_at hl 2 rfl) ?_
  refine w_nonnull (r := a2) (tgt := 74) C dX5_keep_57 (by decide) hE (fun hc e1 => ?_) (fun hc e1 => ?_)
  · refine w_aload_n C dX5_keep_74 rfl (lv_at hl 2 rfl) ?_
    exact b_Shelf_keep_75 C N n0 s0 hn0   _ _ h th y0 y1 y1 a1 a2 _ _ ls w hsl (lv_sub hl [0] rfl) e1
  · refine lv_aload_n hx hb dX5_keep_60 rfl (lv_at hl 0 rfl) ?_
    refine w_gR (r := some th) (ci := 6) (k := 0) C w rfl (by decide) (GF_wsX50 _) (by decide) rfl (List.mem_cons_of_mem _ gw_4_21) rfl dX5_keep_61 e1 (fun v1 e2 => ?_)
    refine lv_aload_n hx hb dX5_keep_64 rfl (lv_at hl 0 rfl) ?_
    refine w_gI (r := some th) (ci := 6) (k := 1) C w rfl (by decide) (GF_wsX50 _) (by decide) rfl (List.mem_cons_of_mem _ gw_4_22) rfl dX5_keep_65 e2 (fun v2 e3 => ?_)
    refine w_SAR GW_good (n := 2) (F := 1) (Lc := 60) (av := [va_rf v1, .int v2]) (rest := [va_rf a1, va_rf y1, va_rf y1, va_rf y0]) C w (fun r g hf => k_Arr_copyOf_c38d5 l D cy z N h v1 v2 r g hf) gw_18_3 gw_18_4 gw_16_23 gw_18_5 (by decide +kernel) ⟨Nat.le_of_ble_eq_true rfl, Nat.le_of_ble_eq_true rfl⟩ rfl hl.1 rfl (cat_le (Nat.le_of_ble_eq_true rfl)) dX5_keep_68 (mo_Arr_copyOf_c38d5 N h v1 v2) (fun v3 h4 q1 q2 => by have u1 := (mo_Arr_copyOf_c38d5 N h v1 v2) _ _ q1; have u2 := mo_Shelf_keep_71 N   h4 th y0 y1 y1 a1 v3 _ _ q2; have u3 := wd_x w; have u4 := u1.1; have u5 := u1.2.1; have u6 := u2.1; have u7 := u2.2.1; show cells + _ ≤ h_x g - n0 ∧ slots + _ ≤ h_s g - s0; omega) e3 (fun v3 h4 H locs w hsh4 e4 => ?_)
    exact b_Shelf_keep_71 C N n0 s0 hn0   _ _ h4 th y0 y1 y1 a1 v3 _ _ ls w (by have u5 := hsh4.2.1; have u8 := hsl; omega) (lv_sub hl [0] rfl) e4
set_option maxRecDepth 20000 in
set_option maxHeartbeats 4000000 in
theorem b_Shelf_keep_42 {p : Program} {l : Launch} {e : Env} {s : State} {m : MethodId} {args : Array Value} {below : List Frame} {meth : Method} {c : Code} {D : va_G} {cy : cyT} {z : Nat} (C : MX p s m args meth c cX5_keep 4 ((some (.object "SlopeKeeper$Keepsake"))) RX5 (Cond.code yX5_keep cX5_keep 4 ((some (.object "SlopeKeeper$Keepsake"))) :: GW)) (N : Nat) (n0 s0 : Nat) (hn0 : s.heap.size = n0) {r : Option Nat} {g : hS} {rc12 : hS → Nat → Option Nat → Option Nat → Option Nat → Option (Option Nat × hS)} (hsh12 : ∀ (h : hS) (th : Nat) (a1 : Option Nat) (a2 : Option Nat) (a3 : Option Nat), Mo h (rc12 h th a1 a2 a3)) (hrc12 : ∀ (cells slots : Nat) (h : hS) (th : Nat) (a1 : Option Nat) (a2 : Option Nat) (a3 : Option Nat) (H : Heap) (locs : List Loc) (ls : Array Slot), wd D cy z s cells h H locs → h_s h = s0 + slots → lv_has ls 4 [(0, .ref th), (1, va_rf a1), (2, va_rf a2), (3, va_rf a3)] → rc12 h th a1 a2 a3 = some (r, g) → W p l e { frames := 2, cells := h_x g - n0, slots := h_s g - s0, locals := 82 } s m args below meth c H locs cells slots (MQ below (eQ D cy z (rR r) g) args s (h_x g - n0) (h_s g - s0) (fun q => z ≤ q)) (F0 m 12 ls [])) : ∀  (cells slots : Nat) (h : hS) (th : Nat) (a1 : Option Nat) (a2 : Option Nat) (a3 : Option Nat) (H : Heap) (locs : List Loc) (ls : Array Slot), wd D cy z s cells h H locs → h_s h = s0 + slots → lv_has ls 4 [(0, .ref th), (1, va_rf a1), (2, va_rf a2), (3, va_rf a3)] → f_Shelf_keep_42 N rc12  h th a1 a2 a3 = some (r, g) → W p l e { frames := 2, cells := h_x g - n0, slots := h_s g - s0, locals := 82 } s m args below meth c H locs cells slots (MQ below (eQ D cy z (rR r) g) args s (h_x g - n0) (h_s g - s0) (fun q => z ≤ q)) (F0 m 42 ls []) := by
  obtain ⟨hx, hb, hr, hml, hown, hts, hlk⟩ := id C
  intro cells slots h th a1 a2 a3 H locs ls w hsl hl hE
  have hcc : cells ≤ h_x g - n0 ∧ slots ≤ h_s g - s0 := by
    have q1 := mo_Shelf_keep_42 N hsh12 h th a1 a2 a3 _ _ hE
    have q2 := wd_x w
    have q3 := q1.1
    have q4 := q1.2.1
    omega
  unfold f_Shelf_keep_42 at hE
  refine w_aload_n C dX5_keep_42 rfl (lv_at hl 3 rfl) ?_
  refine w_gR (r := a3) (ci := 4) (k := 5) C w rfl (by decide) (GF_wsX30 _) (by decide) rfl (List.mem_cons_of_mem _ gw_16_11) rfl dX5_keep_43 hE (fun v1 e1 => ?_)
  refine w_astore_n (r := v1) (lv' := [(3, va_rf v1), (0, .ref th), (1, va_rf a1), (2, va_rf a2)]) C dX5_keep_46 rfl hl (by decide) (by cases a2 <;> rfl) (fun ls hl => ?_)
  refine lv_goto (tgt := 12) hx hb dX5_keep_47 (by decide) ?_
  exact hrc12 _ _ h th a1 a2 v1 _ _ ls w hsl (lv_sub hl [1, 2, 3, 0] rfl) e1
set_option maxRecDepth 20000 in
set_option maxHeartbeats 4000000 in
theorem b_Shelf_keep_12 {p : Program} {l : Launch} {e : Env} {s : State} {m : MethodId} {args : Array Value} {below : List Frame} {meth : Method} {c : Code} {D : va_G} {cy : cyT} {z : Nat} (C : MX p s m args meth c cX5_keep 4 ((some (.object "SlopeKeeper$Keepsake"))) RX5 (Cond.code yX5_keep cX5_keep 4 ((some (.object "SlopeKeeper$Keepsake"))) :: GW)) (N : Nat) (n0 s0 : Nat) (hn0 : s.heap.size = n0) {r : Option Nat} {g : hS}  : ∀ (n : Nat) (cells slots : Nat) (h : hS) (th : Nat) (a1 : Option Nat) (a2 : Option Nat) (a3 : Option Nat) (H : Heap) (locs : List Loc) (ls : Array Slot), wd D cy z s cells h H locs → h_s h = s0 + slots → lv_has ls 4 [(0, .ref th), (1, va_rf a1), (2, va_rf a2), (3, va_rf a3)] → f_Shelf_keep_12 N  n h th a1 a2 a3 = some (r, g) → W p l e { frames := 2, cells := h_x g - n0, slots := h_s g - s0, locals := 82 } s m args below meth c H locs cells slots (MQ below (eQ D cy z (rR r) g) args s (h_x g - n0) (h_s g - s0) (fun q => z ≤ q)) (F0 m 12 ls []) := by
  obtain ⟨hx, hb, hr, hml, hown, hts, hlk⟩ := id C
  intro n
  induction n with
  | zero =>
    intro cells slots h th a1 a2 a3 H locs ls w hsl hl hE
    cases hE
  | succ n ih =>
    intro cells slots h th a1 a2 a3 H locs ls w hsl hl hE
    have hcc : cells ≤ h_x g - n0 ∧ slots ≤ h_s g - s0 := by
      have q1 := mo_Shelf_keep_12 N  (n + 1) h th a1 a2 a3 _ _ hE
      have q2 := wd_x w
      have q3 := q1.1
      have q4 := q1.2.1
      omega
    unfold f_Shelf_keep_12 at hE
    refine w_aload_n C dX5_keep_12 rfl (lv_at hl 3 rfl) ?_
    refine w_null (r := a3) (tgt := 50) C dX5_keep_13 (by decide) hE (fun hc e1 => ?_) (fun hc e1 => ?_)
    · refine lv_aload_n hx hb dX5_keep_50 rfl (lv_at hl 0 rfl) ?_
      have hm := mo_Shelf_keep_54 N   (nw h 5 0 6) th a1 a2 (some th) (some (h_x h)) _ _ e1
      have hm1 := hm.1
      have hm2 := hm.2.1
      rw [h_x_nw] at hm1
      rw [h_s_nw] at hm2
      have hwx := wd_x w
      refine w_newO (ci := 4) C w rfl (by decide) (GF_wsX30 _) tyX3 tyX3_ok (List.mem_cons_of_mem _ gw_16_12) (List.mem_cons_of_mem _ gw_16_13) (List.mem_cons_of_mem _ gw_16_14) (fun j hj => by rcases (show j = 0 ∨ j = 1 ∨ j = 2 ∨ j = 3 ∨ j = 4 ∨ j = 5 by omega) with rfl | rfl | rfl | rfl | rfl | rfl <;> rfl) dX5_keep_51 e1 (by show cells + 1 ≤ h_x g - n0; omega) (by show slots + _ ≤ h_s g - s0; omega) (fun H w e2 => ?_)
      exact b_Shelf_keep_54 C N n0 s0 hn0   (cells + 1) (slots + 6) (nw h 5 0 6) th a1 a2 (some th) (some (h_x h)) _ _ ls w (by first | (rw [h_s_nw, hsl]; done) | (rw [h_s_nw, hsl]; omega)) (lv_sub hl [0, 1, 2] rfl) e2
    · refine lv_aload_n hx hb dX5_keep_16 rfl (lv_at hl 0 rfl) ?_
      refine w_aload_n C dX5_keep_17 rfl (lv_at hl 3 rfl) ?_
      refine w_gR (r := a3) (ci := 4) (k := 4) C w rfl (by decide) (GF_wsX30 _) (by decide) rfl (List.mem_cons_of_mem _ gw_16_10) rfl dX5_keep_18 e1 (fun v3 e3 => ?_)
      refine w_VI GW_good (n := 1) (F := 0) (Lc := 0) (o := some th) (av := [va_rf v3]) (rest := []) C w rfl (by decide) (fun a r g hf => k_Shelf_isWritten l D cy z N h a v3 r g hf) gw_17_13 gw_17_14 gw_17_15 gw_2_4 gw_17_16 (by decide +kernel) ⟨Nat.le_of_ble_eq_true rfl, Nat.le_of_ble_eq_true rfl⟩ rfl hl.1 rfl (Nat.le_of_ble_eq_true rfl) dX5_keep_21 (fun a => (sh_Shelf_isWritten N h a v3)) ⟨hcc.1, hcc.2⟩ e3 (fun v4 h5 H locs w hsh5 e4 => ?_)
      have hsl := hsh5.2.2.2.trans hsl
      refine w_if_eq (tgt := 42) C dX5_keep_24 (by decide) e4 (fun hc e5 => ?_) (fun hc e5 => ?_)
      · exact b_Shelf_keep_42 C N n0 s0 hn0 (mo_Shelf_keep_12 N  n) ih  _ _ h5 th a1 a2 a3 _ _ ls w hsl (lv_sub hl [0, 1, 2, 3] rfl) e5
      · refine w_aload_n C dX5_keep_27 rfl (lv_at hl 3 rfl) ?_
        refine w_aload_n C dX5_keep_28 rfl (lv_at hl 1 rfl) ?_
        refine w_VI GW_good (n := 1) (F := 1) (Lc := 21) (o := a3) (av := [va_rf a1]) (rest := []) C w rfl (by decide) (fun a r g hf => k_Keepsake_isBeside l D cy z N h5 a a1 r g hf) gw_17_17 gw_17_18 gw_17_19 gw_16_14 gw_17_20 (by decide +kernel) ⟨Nat.le_of_ble_eq_true rfl, Nat.le_of_ble_eq_true rfl⟩ rfl hl.1 rfl (Nat.le_of_ble_eq_true rfl) dX5_keep_29 (fun a => (sh_Keepsake_isBeside N h5 a a1)) ⟨hcc.1, hcc.2⟩ e5 (fun v6 h7 H locs w hsh7 e6 => ?_)
        have hsl := hsh7.2.2.2.trans hsl
        refine w_if_eq (tgt := 37) C dX5_keep_32 (by decide) e6 (fun hc e7 => ?_) (fun hc e7 => ?_)
        · refine w_aload_n C dX5_keep_37 rfl (lv_at hl 3 rfl) ?_
          refine w_gR (r := a3) (ci := 4) (k := 4) C w rfl (by decide) (GF_wsX30 _) (by decide) rfl (List.mem_cons_of_mem _ gw_16_10) rfl dX5_keep_38 e7 (fun v8 e8 => ?_)
          refine w_astore_n (r := v8) (lv' := [(2, va_rf v8), (0, .ref th), (1, va_rf a1), (3, va_rf a3)]) C dX5_keep_41 rfl hl (by decide) (by cases a1 <;> rfl) (fun ls hl => ?_)
          exact b_Shelf_keep_42 C N n0 s0 hn0 (mo_Shelf_keep_12 N  n) ih  _ _ h7 th a1 v8 a3 _ _ ls w hsl (lv_sub hl [1, 2, 0, 3] rfl) e8
        · refine w_aload_n C dX5_keep_35 rfl (lv_at hl 3 rfl) ?_
          refine W.widen (k := h_x g - n0) (n := h_s g - s0) hcc.1 hcc.2 ?_
          exact w_aret (v := a3) (Or.inl ⟨_, rfl⟩) C w e7 dX5_keep_36
set_option maxRecDepth 20000 in
set_option maxHeartbeats 4000000 in
theorem b_Shelf_keep_5 {p : Program} {l : Launch} {e : Env} {s : State} {m : MethodId} {args : Array Value} {below : List Frame} {meth : Method} {c : Code} {D : va_G} {cy : cyT} {z : Nat} (C : MX p s m args meth c cX5_keep 4 ((some (.object "SlopeKeeper$Keepsake"))) RX5 (Cond.code yX5_keep cX5_keep 4 ((some (.object "SlopeKeeper$Keepsake"))) :: GW)) (N : Nat) (n0 s0 : Nat) (hn0 : s.heap.size = n0) {r : Option Nat} {g : hS}  : ∀  (cells slots : Nat) (h : hS) (th : Nat) (a1 : Option Nat) (H : Heap) (locs : List Loc) (ls : Array Slot), wd D cy z s cells h H locs → h_s h = s0 + slots → lv_has ls 4 [(0, .ref th), (1, va_rf a1)] → f_Shelf_keep_5 N   h th a1 = some (r, g) → W p l e { frames := 2, cells := h_x g - n0, slots := h_s g - s0, locals := 82 } s m args below meth c H locs cells slots (MQ below (eQ D cy z (rR r) g) args s (h_x g - n0) (h_s g - s0) (fun q => z ≤ q)) (F0 m 5 ls []) := by
  obtain ⟨hx, hb, hr, hml, hown, hts, hlk⟩ := id C
  intro cells slots h th a1 H locs ls w hsl hl hE
  have hcc : cells ≤ h_x g - n0 ∧ slots ≤ h_s g - s0 := by
    have q1 := mo_Shelf_keep_5 N  h th a1 _ _ hE
    have q2 := wd_x w
    have q3 := q1.1
    have q4 := q1.2.1
    omega
  unfold f_Shelf_keep_5 at hE
  refine lv_null hx hb dX5_keep_5 ?_
  refine w_astore_n (r := none) (lv' := [(2, .null), (0, .ref th), (1, va_rf a1)]) C dX5_keep_6 rfl hl (by decide) (by cases a1 <;> rfl) (fun ls hl => ?_)
  refine lv_aload_n hx hb dX5_keep_7 rfl (lv_at hl 1 rfl) ?_
  refine w_gR (r := some th) (ci := 6) (k := 2) C w rfl (by decide) (GF_wsX50 _) (by decide) rfl (List.mem_cons_of_mem _ gw_4_23) rfl dX5_keep_8 hE (fun v1 e1 => ?_)
  refine w_astore_n (r := v1) (lv' := [(3, va_rf v1), (2, .null), (0, .ref th), (1, va_rf a1)]) C dX5_keep_11 rfl hl (by decide) rfl (fun ls hl => ?_)
  exact b_Shelf_keep_12 C N n0 s0 hn0  N _ _ h th a1 none v1 _ _ ls w hsl (lv_sub hl [2, 3, 1, 0] rfl) e1
set_option maxRecDepth 20000 in
set_option maxHeartbeats 4000000 in
theorem k_Shelf_keep (l : Launch) (D : va_G) (cy : cyT) (z : Nat) (N : Nat) (h : hS) (th : Nat) (a1 : Option Nat) (r : Option Nat) (g : hS) (hE : f_Shelf_keep N h th a1 = some (r, g)) : ct l yX5_keep (Cond.code yX5_keep cX5_keep 4 ((some (.object "SlopeKeeper$Keepsake"))) :: GW) { frames := 2, cells := h_x g - h_x h, slots := h_s g - h_s h, locals := 82 } D cy z h [.ref th, va_rf a1] (rR r) g := by
  refine Met.ofW (cc := cX5_keep) (maxL := 4) (ret := (some (.object "SlopeKeeper$Keepsake"))) (by decide) rfl ?_
  intro p e s m args below meth c s₁ B hml hv
  obtain ⟨rfl, hw⟩ := hv
  have C : MX p s m ([.ref th, va_rf a1] : List Value).toArray meth c cX5_keep 4 ((some (.object "SlopeKeeper$Keepsake"))) RX5 (Cond.code yX5_keep cX5_keep 4 ((some (.object "SlopeKeeper$Keepsake"))) :: GW) := ⟨B.exec, B.bytes, B.returns, hml, findClass_of_methodNamed B.named, atoms_spec (ws := Cond.code yX5_keep cX5_keep 4 ((some (.object "SlopeKeeper$Keepsake"))) :: GW) B.pre, B.notSynchronized⟩
  obtain ⟨hx, hb, hr, hml, hown, hts, hlk⟩ := id C
  have w := wd_of hw
  have hsl : h_s h = h_s h + 0 := rfl
  have hn0 : s.heap.size = h_x h := (wd_x w).1
  obtain ⟨ls, hen, hl⟩ : ∃ ls : Array Slot, entryFrame m ([.ref th, va_rf a1] : List Value).toArray 4 = F0 m 0 ls [] ∧ lv_has ls 4 [(0, .ref th), (1, va_rf a1)] := by
    cases a1 <;> exact ⟨_, lg_entry_eq _ _ _, lv_entry _ (Nat.le_of_ble_eq_true rfl)⟩
  rw [hen]
  have hcc : 0 ≤ h_x g - h_x h ∧ 0 ≤ h_s g - h_s h := ⟨Nat.zero_le _, Nat.zero_le _⟩
  unfold f_Shelf_keep at hE
  refine lv_aload_n hx hb dX5_keep_0 rfl (lv_at hl 0 rfl) ?_
  refine w_aload_n C dX5_keep_1 rfl (lv_at hl 1 rfl) ?_
  refine w_VAV GW_good (n := 1) (F := 1) (Lc := 44) (o := some th) (av := [va_rf a1]) (rest := []) C w rfl (by decide) (fun a r g hf => k_Shelf_write l D cy z N h a a1 r g hf) gw_16_15 gw_16_16 gw_16_17 gw_2_4 gw_16_18 (by decide +kernel) ⟨Nat.le_of_ble_eq_true rfl, Nat.le_of_ble_eq_true rfl⟩ rfl hl.1 rfl (Nat.le_of_ble_eq_true rfl) dX5_keep_2 (fun a => (mo_Shelf_write N h a a1)) (fun a v1 h2 q1 q2 => by have u1 := (mo_Shelf_write N h a a1) _ _ q1; have u2 := mo_Shelf_keep_5 N   h2 th a1 _ _ q2; have u3 := wd_x w; have u4 := u1.1; have u5 := u1.2.1; have u6 := u2.1; have u7 := u2.2.1; show 0 + _ ≤ h_x g - (h_x h) ∧ 0 + _ ≤ h_s g - (h_s h); omega) hE (fun v1 h2 H locs w hsh2 e1 => ?_)
  exact b_Shelf_keep_5 C N (h_x h) (h_s h) hn0   _ _ h2 th a1 _ _ ls w (by have u5 := hsh2.2.1; have u8 := hsl; omega) (lv_sub hl [0, 1] rfl) e1
set_option maxRecDepth 20000 in
set_option maxHeartbeats 4000000 in
theorem b_State_init_85 {p : Program} {l : Launch} {e : Env} {s : State} {m : MethodId} {args : Array Value} {below : List Frame} {meth : Method} {c : Code} {D : va_G} {cy : cyT} {z : Nat} (C : MX p s m args meth c cX6_init 2 (none) RX6 (Cond.code yX6_init cX6_init 2 (none) :: GW)) (hni : meth.name = "<init>") (N : Nat) (n0 s0 : Nat) (hn0 : s.heap.size = n0) {r : Unit} {g : hS}  : ∀  (cells slots : Nat) (h : hS) (y0 : Option Nat) (y1 : Option Nat) (H : Heap) (locs : List Loc) (ls : Array Slot), wd D cy z s cells h H locs → h_s h = s0 + slots → lv_has ls 2 [] → f_State_init_85 N   h y0 y1 = some (r, g) → W p l e { frames := 2, cells := h_x g - n0, slots := h_s g - s0, locals := 64 } s m args below meth c H locs cells slots (MQ below (eQ D cy z (rV r) g) args s (h_x g - n0) (h_s g - s0) (fun q => z ≤ q)) (F0 m 85 ls [va_rf y1, va_rf y0]) := by
  obtain ⟨hx, hb, hr, hml, hown, hts, hlk⟩ := id C
  intro cells slots h y0 y1 H locs ls w hsl hl hE
  have hcc : cells ≤ h_x g - n0 ∧ slots ≤ h_s g - s0 := by
    have q1 := mo_State_init_85 N  h y0 y1 _ _ hE
    have q2 := wd_x w
    have q3 := q1.1
    have q4 := q1.2.1
    omega
  unfold f_State_init_85 at hE
  refine w_pRF (r := y0) (ci := 7) (k := 7) (v := y1) (Or.inr ⟨_, rfl⟩) C w rfl (by decide) (by unfold roK; omega) (GF_wsX60 _) tyX6 tyX6_ok nmX6 (by decide) rfl (List.mem_cons_of_mem _ gw_6_13) rfl rfl hni rfl (tyX6_ok 7 (by decide)) dX6_init_85 hE (fun h1 H locs w hsh1 e1 => ?_)
  have hsl := hsh1.2.2.2.trans hsl
  refine W.widen (k := h_x g - n0) (n := h_s g - s0) hcc.1 hcc.2 ?_
  exact w_vret C w e1 dX6_init_88
set_option maxRecDepth 20000 in
set_option maxHeartbeats 4000000 in
theorem b_State_init_73 {p : Program} {l : Launch} {e : Env} {s : State} {m : MethodId} {args : Array Value} {below : List Frame} {meth : Method} {c : Code} {D : va_G} {cy : cyT} {z : Nat} (C : MX p s m args meth c cX6_init 2 (none) RX6 (Cond.code yX6_init cX6_init 2 (none) :: GW)) (hni : meth.name = "<init>") (N : Nat) (n0 s0 : Nat) (hn0 : s.heap.size = n0) {r : Unit} {g : hS}  : ∀  (cells slots : Nat) (h : hS) (th : Nat) (y0 : Option Nat) (y1 : Option Nat) (H : Heap) (locs : List Loc) (ls : Array Slot), wd D cy z s cells h H locs → h_s h = s0 + slots → lv_has ls 2 [(0, .ref th)] → f_State_init_73 N   h th y0 y1 = some (r, g) → W p l e { frames := 2, cells := h_x g - n0, slots := h_s g - s0, locals := 64 } s m args below meth c H locs cells slots (MQ below (eQ D cy z (rV r) g) args s (h_x g - n0) (h_s g - s0) (fun q => z ≤ q)) (F0 m 73 ls [va_rf y1, va_rf y0]) := by
  obtain ⟨hx, hb, hr, hml, hown, hts, hlk⟩ := id C
  intro cells slots h th y0 y1 H locs ls w hsl hl hE
  have hcc : cells ≤ h_x g - n0 ∧ slots ≤ h_s g - s0 := by
    have q1 := mo_State_init_73 N  h th y0 y1 _ _ hE
    have q2 := wd_x w
    have q3 := q1.1
    have q4 := q1.2.1
    omega
  unfold f_State_init_73 at hE
  refine w_pRF (r := y0) (ci := 7) (k := 5) (v := y1) (Or.inr ⟨_, rfl⟩) C w rfl (by decide) (by unfold roK; omega) (GF_wsX60 _) tyX6 tyX6_ok nmX6 (by decide) rfl (List.mem_cons_of_mem _ gw_6_11) rfl rfl hni rfl (tyX6_ok 5 (by decide)) dX6_init_73 hE (fun h1 H locs w hsh1 e1 => ?_)
  have hsl := hsh1.2.2.2.trans hsl
  refine lv_aload_n hx hb dX6_init_76 rfl (lv_at hl 0 rfl) ?_
  refine lv_iconst (v := 0) hx hb dX6_init_77 (by decide) ?_
  refine w_pI (r := some th) (ci := 7) (k := 6) C w rfl (by decide) (by unfold roK; omega) (GF_wsX60 _) tyX6 tyX6_ok nmX6 (by decide) rfl (List.mem_cons_of_mem _ gw_6_12) rfl rfl (tyX6_ok 6 (by decide)) dX6_init_78 e1 (fun h2 H locs w hsh2 e2 => ?_)
  have hsl := hsh2.2.2.2.trans hsl
  refine lv_aload_n hx hb dX6_init_81 rfl (lv_at hl 0 rfl) ?_
  refine lv_iconst (v := 3) hx hb dX6_init_82 (by decide) ?_
  have hm := mo_State_init_85 N   (nw h2 50 (3 : Int32).toNatClampNeg (3 : Int32).toNatClampNeg) (some th) (some (h_x h2)) _ _ (nwA_some e2).2
  have hm1 := hm.1
  have hm2 := hm.2.1
  rw [h_x_nw] at hm1
  rw [h_s_nw] at hm2
  have hwx := wd_x w
  refine w_nwI C w (List.mem_cons_of_mem _ gw_2_16) dX6_init_83 e2 (by show cells + 1 ≤ h_x g - n0; omega) (by show slots + _ ≤ h_s g - s0; omega) (fun H w e3 => ?_)
  exact b_State_init_85 C hni N n0 s0 hn0   (cells + 1) (slots + (3 : Int32).toNatClampNeg) (nw h2 50 (3 : Int32).toNatClampNeg (3 : Int32).toNatClampNeg) (some th) (some (h_x h2)) _ _ ls w (by first | (rw [h_s_nw, hsl]; done) | (rw [h_s_nw, hsl]; omega)) (lv_sub hl [] rfl) e3
set_option maxRecDepth 20000 in
set_option maxHeartbeats 4000000 in
theorem b_State_init_65 {p : Program} {l : Launch} {e : Env} {s : State} {m : MethodId} {args : Array Value} {below : List Frame} {meth : Method} {c : Code} {D : va_G} {cy : cyT} {z : Nat} (C : MX p s m args meth c cX6_init 2 (none) RX6 (Cond.code yX6_init cX6_init 2 (none) :: GW)) (hni : meth.name = "<init>") (N : Nat) (n0 s0 : Nat) (hn0 : s.heap.size = n0) {r : Unit} {g : hS}  : ∀  (cells slots : Nat) (h : hS) (th : Nat) (y0 : Option Nat) (y1 : Option Nat) (H : Heap) (locs : List Loc) (ls : Array Slot), wd D cy z s cells h H locs → h_s h = s0 + slots → lv_has ls 2 [(0, .ref th)] → f_State_init_65 N   h th y0 y1 = some (r, g) → W p l e { frames := 2, cells := h_x g - n0, slots := h_s g - s0, locals := 64 } s m args below meth c H locs cells slots (MQ below (eQ D cy z (rV r) g) args s (h_x g - n0) (h_s g - s0) (fun q => z ≤ q)) (F0 m 65 ls [va_rf y1, va_rf y0]) := by
  obtain ⟨hx, hb, hr, hml, hown, hts, hlk⟩ := id C
  intro cells slots h th y0 y1 H locs ls w hsl hl hE
  have hcc : cells ≤ h_x g - n0 ∧ slots ≤ h_s g - s0 := by
    have q1 := mo_State_init_65 N  h th y0 y1 _ _ hE
    have q2 := wd_x w
    have q3 := q1.1
    have q4 := q1.2.1
    omega
  unfold f_State_init_65 at hE
  refine w_pRF (r := y0) (ci := 7) (k := 4) (v := y1) (Or.inr ⟨_, rfl⟩) C w rfl (by decide) (by unfold roK; omega) (GF_wsX60 _) tyX6 tyX6_ok nmX6 (by decide) rfl (List.mem_cons_of_mem _ gw_6_10) rfl rfl hni rfl (tyX6_ok 4 (by decide)) dX6_init_65 hE (fun h1 H locs w hsh1 e1 => ?_)
  have hsl := hsh1.2.2.2.trans hsl
  refine lv_aload_n hx hb dX6_init_68 rfl (lv_at hl 0 rfl) ?_
  refine lv_bipush (v := 8) hx hb dX6_init_69 (by decide) ?_
  have hm := mo_State_init_73 N   (nw h1 51 (8 : Int32).toNatClampNeg (8 : Int32).toNatClampNeg) th (some th) (some (h_x h1)) _ _ (nwA_some e1).2
  have hm1 := hm.1
  have hm2 := hm.2.1
  rw [h_x_nw] at hm1
  rw [h_s_nw] at hm2
  have hwx := wd_x w
  refine w_nwJ C w (List.mem_cons_of_mem _ gw_1_6) dX6_init_71 e1 (by show cells + 1 ≤ h_x g - n0; omega) (by show slots + _ ≤ h_s g - s0; omega) (fun H w e2 => ?_)
  exact b_State_init_73 C hni N n0 s0 hn0   (cells + 1) (slots + (8 : Int32).toNatClampNeg) (nw h1 51 (8 : Int32).toNatClampNeg (8 : Int32).toNatClampNeg) th (some th) (some (h_x h1)) _ _ ls w (by first | (rw [h_s_nw, hsl]; done) | (rw [h_s_nw, hsl]; omega)) (lv_sub hl [0] rfl) e2
set_option maxRecDepth 20000 in
set_option maxHeartbeats 4000000 in
theorem b_State_init_52 {p : Program} {l : Launch} {e : Env} {s : State} {m : MethodId} {args : Array Value} {below : List Frame} {meth : Method} {c : Code} {D : va_G} {cy : cyT} {z : Nat} (C : MX p s m args meth c cX6_init 2 (none) RX6 (Cond.code yX6_init cX6_init 2 (none) :: GW)) (hni : meth.name = "<init>") (N : Nat) (n0 s0 : Nat) (hn0 : s.heap.size = n0) {r : Unit} {g : hS}  : ∀  (cells slots : Nat) (h : hS) (th : Nat) (y0 : Option Nat) (y1 : Option Nat) (H : Heap) (locs : List Loc) (ls : Array Slot), wd D cy z s cells h H locs → h_s h = s0 + slots → lv_has ls 2 [(0, .ref th)] → f_State_init_52 N   h th y0 y1 = some (r, g) → W p l e { frames := 2, cells := h_x g - n0, slots := h_s g - s0, locals := 64 } s m args below meth c H locs cells slots (MQ below (eQ D cy z (rV r) g) args s (h_x g - n0) (h_s g - s0) (fun q => z ≤ q)) (F0 m 52 ls [va_rf y1, va_rf y0]) := by
  obtain ⟨hx, hb, hr, hml, hown, hts, hlk⟩ := id C
  intro cells slots h th y0 y1 H locs ls w hsl hl hE
  have hcc : cells ≤ h_x g - n0 ∧ slots ≤ h_s g - s0 := by
    have q1 := mo_State_init_52 N  h th y0 y1 _ _ hE
    have q2 := wd_x w
    have q3 := q1.1
    have q4 := q1.2.1
    omega
  unfold f_State_init_52 at hE
  refine w_pRF (r := y0) (ci := 7) (k := 2) (v := y1) (Or.inr ⟨_, rfl⟩) C w rfl (by decide) (by unfold roK; omega) (GF_wsX60 _) tyX6 tyX6_ok nmX6 (by decide) rfl (List.mem_cons_of_mem _ gw_6_8) rfl rfl hni rfl (tyX6_ok 2 (by decide)) dX6_init_52 hE (fun h1 H locs w hsh1 e1 => ?_)
  have hsl := hsh1.2.2.2.trans hsl
  refine lv_aload_n hx hb dX6_init_55 rfl (lv_at hl 0 rfl) ?_
  refine lv_iconst (v := 0) hx hb dX6_init_56 (by decide) ?_
  refine w_pI (r := some th) (ci := 7) (k := 3) C w rfl (by decide) (by unfold roK; omega) (GF_wsX60 _) tyX6 tyX6_ok nmX6 (by decide) rfl (List.mem_cons_of_mem _ gw_6_9) rfl rfl (tyX6_ok 3 (by decide)) dX6_init_57 e1 (fun h2 H locs w hsh2 e2 => ?_)
  have hsl := hsh2.2.2.2.trans hsl
  refine lv_aload_n hx hb dX6_init_60 rfl (lv_at hl 0 rfl) ?_
  refine lv_bipush (v := 8) hx hb dX6_init_61 (by decide) ?_
  have hm := mo_State_init_65 N   (nw h2 50 (8 : Int32).toNatClampNeg (8 : Int32).toNatClampNeg) th (some th) (some (h_x h2)) _ _ (nwA_some e2).2
  have hm1 := hm.1
  have hm2 := hm.2.1
  rw [h_x_nw] at hm1
  rw [h_s_nw] at hm2
  have hwx := wd_x w
  refine w_nwI C w (List.mem_cons_of_mem _ gw_2_16) dX6_init_63 e2 (by show cells + 1 ≤ h_x g - n0; omega) (by show slots + _ ≤ h_s g - s0; omega) (fun H w e3 => ?_)
  exact b_State_init_65 C hni N n0 s0 hn0   (cells + 1) (slots + (8 : Int32).toNatClampNeg) (nw h2 50 (8 : Int32).toNatClampNeg (8 : Int32).toNatClampNeg) th (some th) (some (h_x h2)) _ _ ls w (by first | (rw [h_s_nw, hsl]; done) | (rw [h_s_nw, hsl]; omega)) (lv_sub hl [0] rfl) e3
set_option maxRecDepth 20000 in
set_option maxHeartbeats 4000000 in
theorem b_State_init_43 {p : Program} {l : Launch} {e : Env} {s : State} {m : MethodId} {args : Array Value} {below : List Frame} {meth : Method} {c : Code} {D : va_G} {cy : cyT} {z : Nat} (C : MX p s m args meth c cX6_init 2 (none) RX6 (Cond.code yX6_init cX6_init 2 (none) :: GW)) (hni : meth.name = "<init>") (N : Nat) (n0 s0 : Nat) (hn0 : s.heap.size = n0) {r : Unit} {g : hS}  : ∀  (cells slots : Nat) (h : hS) (th : Nat) (y0 : Option Nat) (y1 : Option Nat) (H : Heap) (locs : List Loc) (ls : Array Slot), wd D cy z s cells h H locs → h_s h = s0 + slots → lv_has ls 2 [(0, .ref th)] → f_State_init_43 N   h th y0 y1 = some (r, g) → W p l e { frames := 2, cells := h_x g - n0, slots := h_s g - s0, locals := 64 } s m args below meth c H locs cells slots (MQ below (eQ D cy z (rV r) g) args s (h_x g - n0) (h_s g - s0) (fun q => z ≤ q)) (F0 m 43 ls [va_rf y1, va_rf y0]) := by
  obtain ⟨hx, hb, hr, hml, hown, hts, hlk⟩ := id C
  intro cells slots h th y0 y1 H locs ls w hsl hl hE
  have hcc : cells ≤ h_x g - n0 ∧ slots ≤ h_s g - s0 := by
    have q1 := mo_State_init_43 N  h th y0 y1 _ _ hE
    have q2 := wd_x w
    have q3 := q1.1
    have q4 := q1.2.1
    omega
  unfold f_State_init_43 at hE
  refine w_pRF (r := y0) (ci := 7) (k := 1) (v := y1) (Or.inr ⟨_, rfl⟩) C w rfl (by decide) (by unfold roK; omega) (GF_wsX60 _) tyX6 tyX6_ok nmX6 (by decide) rfl (List.mem_cons_of_mem _ gw_6_7) rfl rfl hni rfl (tyX6_ok 1 (by decide)) dX6_init_43 hE (fun h1 H locs w hsh1 e1 => ?_)
  have hsl := hsh1.2.2.2.trans hsl
  refine lv_aload_n hx hb dX6_init_46 rfl (lv_at hl 0 rfl) ?_
  refine lv_bipush (v := 40) hx hb dX6_init_47 (by decide) ?_
  have hm := mo_State_init_52 N   (nw h1 62 (40 : Int32).toNatClampNeg (40 : Int32).toNatClampNeg) th (some th) (some (h_x h1)) _ _ (nwA_some e1).2
  have hm1 := hm.1
  have hm2 := hm.2.1
  rw [h_x_nw] at hm1
  rw [h_s_nw] at hm2
  have hwx := wd_x w
  refine w_anw (kd := 62) (t0 := 6) C w (List.mem_cons_of_mem _ gw_6_5) (List.mem_of_getElem? (i := 0) rfl) rfl (by decide) dX6_init_49 e1 (by show cells + 1 ≤ h_x g - n0; omega) (by show slots + _ ≤ h_s g - s0; omega) (fun H w e2 => ?_)
  exact b_State_init_52 C hni N n0 s0 hn0   (cells + 1) (slots + (40 : Int32).toNatClampNeg) (nw h1 62 (40 : Int32).toNatClampNeg (40 : Int32).toNatClampNeg) th (some th) (some (h_x h1)) _ _ ls w (by first | (rw [h_s_nw, hsl]; done) | (rw [h_s_nw, hsl]; omega)) (lv_sub hl [0] rfl) e2
set_option maxRecDepth 20000 in
set_option maxHeartbeats 4000000 in
theorem b_State_init_31 {p : Program} {l : Launch} {e : Env} {s : State} {m : MethodId} {args : Array Value} {below : List Frame} {meth : Method} {c : Code} {D : va_G} {cy : cyT} {z : Nat} (C : MX p s m args meth c cX6_init 2 (none) RX6 (Cond.code yX6_init cX6_init 2 (none) :: GW)) (hni : meth.name = "<init>") (N : Nat) (n0 s0 : Nat) (hn0 : s.heap.size = n0) {r : Unit} {g : hS} {rc14 : hS → Nat → Int32 → Option (Unit × hS)} (hsh14 : ∀ (h : hS) (th : Nat) (x1 : Int32), Mo h (rc14 h th x1)) (hrc14 : ∀ (cells slots : Nat) (h : hS) (th : Nat) (x1 : Int32) (H : Heap) (locs : List Loc) (ls : Array Slot), wd D cy z s cells h H locs → h_s h = s0 + slots → lv_has ls 2 [(0, .ref th), (1, .int x1)] → rc14 h th x1 = some (r, g) → W p l e { frames := 2, cells := h_x g - n0, slots := h_s g - s0, locals := 64 } s m args below meth c H locs cells slots (MQ below (eQ D cy z (rV r) g) args s (h_x g - n0) (h_s g - s0) (fun q => z ≤ q)) (F0 m 14 ls [])) : ∀  (cells slots : Nat) (h : hS) (th : Nat) (x1 : Int32) (y0 : Option Nat) (y1 : Int32) (y2 : Option Nat) (H : Heap) (locs : List Loc) (ls : Array Slot), wd D cy z s cells h H locs → h_s h = s0 + slots → lv_has ls 2 [(0, .ref th), (1, .int x1)] → f_State_init_31 N rc14  h th x1 y0 y1 y2 = some (r, g) → W p l e { frames := 2, cells := h_x g - n0, slots := h_s g - s0, locals := 64 } s m args below meth c H locs cells slots (MQ below (eQ D cy z (rV r) g) args s (h_x g - n0) (h_s g - s0) (fun q => z ≤ q)) (F0 m 31 ls [va_rf y2, .int y1, va_rf y0]) := by
  obtain ⟨hx, hb, hr, hml, hown, hts, hlk⟩ := id C
  intro cells slots h th x1 y0 y1 y2 H locs ls w hsl hl hE
  have hcc : cells ≤ h_x g - n0 ∧ slots ≤ h_s g - s0 := by
    have q1 := mo_State_init_31 N hsh14 h th x1 y0 y1 y2 _ _ hE
    have q2 := wd_x w
    have q3 := q1.1
    have q4 := q1.2.1
    omega
  unfold f_State_init_31 at hE
  refine w_uR (kd := 62) (t0 := 6) (ci := 2) (r := y0) (v := y2) C w rfl (by decide) rfl (by decide) dX6_init_31 hE (fun h1 H locs w hsh1 e1 => ?_)
  have hsl := hsh1.2.2.2.trans hsl
  obtain ⟨v2, ev2, e2⟩ := bn_some e1
  refine lv_iinc (v := v2) (lv' := [(1, .int v2), (0, .ref th)]) hx hb dX6_init_32 hl (k := 1) rfl (by rw [ev2]; rfl) (by decide) rfl (fun ls hl => ?_)
  refine lv_goto (tgt := 14) hx hb dX6_init_35 (by decide) ?_
  exact hrc14 _ _ h1 th v2 _ _ ls w hsl (lv_sub hl [1, 0] rfl) e2
set_option maxRecDepth 20000 in
set_option maxHeartbeats 4000000 in
theorem b_State_init_27 {p : Program} {l : Launch} {e : Env} {s : State} {m : MethodId} {args : Array Value} {below : List Frame} {meth : Method} {c : Code} {D : va_G} {cy : cyT} {z : Nat} (C : MX p s m args meth c cX6_init 2 (none) RX6 (Cond.code yX6_init cX6_init 2 (none) :: GW)) (hni : meth.name = "<init>") (N : Nat) (n0 s0 : Nat) (hn0 : s.heap.size = n0) {r : Unit} {g : hS} {rc14 : hS → Nat → Int32 → Option (Unit × hS)} (hsh14 : ∀ (h : hS) (th : Nat) (x1 : Int32), Mo h (rc14 h th x1)) (hrc14 : ∀ (cells slots : Nat) (h : hS) (th : Nat) (x1 : Int32) (H : Heap) (locs : List Loc) (ls : Array Slot), wd D cy z s cells h H locs → h_s h = s0 + slots → lv_has ls 2 [(0, .ref th), (1, .int x1)] → rc14 h th x1 = some (r, g) → W p l e { frames := 2, cells := h_x g - n0, slots := h_s g - s0, locals := 64 } s m args below meth c H locs cells slots (MQ below (eQ D cy z (rV r) g) args s (h_x g - n0) (h_s g - s0) (fun q => z ≤ q)) (F0 m 14 ls [])) : ∀  (cells slots : Nat) (h : hS) (th : Nat) (x1 : Int32) (y0 : Option Nat) (y1 : Int32) (y2 : Option Nat) (H : Heap) (locs : List Loc) (ls : Array Slot), wd D cy z s cells h H locs → h_s h = s0 + slots → lv_has ls 2 [(0, .ref th), (1, .int x1)] → f_State_init_27 N rc14  h th x1 y0 y1 y2 = some (r, g) → W p l e { frames := 2, cells := h_x g - n0, slots := h_s g - s0, locals := 64 } s m args below meth c H locs cells slots (MQ below (eQ D cy z (rV r) g) args s (h_x g - n0) (h_s g - s0) (fun q => z ≤ q)) (F0 m 27 ls [va_rf y2, .int y1, va_rf y0]) := by
  obtain ⟨hx, hb, hr, hml, hown, hts, hlk⟩ := id C
  intro cells slots h th x1 y0 y1 y2 H locs ls w hsl hl hE
  have hcc : cells ≤ h_x g - n0 ∧ slots ≤ h_s g - s0 := by
    have q1 := mo_State_init_27 N hsh14 h th x1 y0 y1 y2 _ _ hE
    have q2 := wd_x w
    have q3 := q1.1
    have q4 := q1.2.1
    omega
  unfold f_State_init_27 at hE
  refine lv_dup hx hb dX6_init_27 (va_rf_cat _) ?_
  obtain ⟨q3, eq3, e1⟩ := nn_some hE
  subst eq3
  refine w_IAV GW_good (b := q3) (n := 0) (F := 1) (Lc := 44) (av := []) (rest := [.ref q3, .int y1, va_rf y0]) C w (fun r g hf => k_Chain_init l D cy z N h q3  r g hf) gw_6_14 gw_5_9 gw_3_6 gw_5_10 rfl (by decide +kernel) ⟨Nat.le_of_ble_eq_true rfl, Nat.le_of_ble_eq_true rfl⟩ rfl hl.1 rfl (cat_le (Nat.le_of_ble_eq_true rfl)) dX6_init_28 (mo_Chain_init N h q3 ) (fun v1 h2 q1 q2 => by have u1 := (mo_Chain_init N h q3 ) _ _ q1; have u2 := mo_State_init_31 N hsh14  h2 th x1 y0 y1 (some q3) _ _ q2; have u3 := wd_x w; have u4 := u1.1; have u5 := u1.2.1; have u6 := u2.1; have u7 := u2.2.1; show cells + _ ≤ h_x g - n0 ∧ slots + _ ≤ h_s g - s0; omega) e1 (fun v1 h2 H locs w hsh2 e2 => ?_)
  exact b_State_init_31 C hni N n0 s0 hn0 hsh14 hrc14  _ _ h2 th x1 y0 y1 (some q3) _ _ ls w (by have u5 := hsh2.2.1; have u8 := hsl; omega) (lv_sub hl [0, 1] rfl) e2
set_option maxRecDepth 20000 in
set_option maxHeartbeats 4000000 in
theorem b_State_init_14 {p : Program} {l : Launch} {e : Env} {s : State} {m : MethodId} {args : Array Value} {below : List Frame} {meth : Method} {c : Code} {D : va_G} {cy : cyT} {z : Nat} (C : MX p s m args meth c cX6_init 2 (none) RX6 (Cond.code yX6_init cX6_init 2 (none) :: GW)) (hni : meth.name = "<init>") (N : Nat) (n0 s0 : Nat) (hn0 : s.heap.size = n0) {r : Unit} {g : hS}  : ∀ (n : Nat) (cells slots : Nat) (h : hS) (th : Nat) (x1 : Int32) (H : Heap) (locs : List Loc) (ls : Array Slot), wd D cy z s cells h H locs → h_s h = s0 + slots → lv_has ls 2 [(0, .ref th), (1, .int x1)] → f_State_init_14 N  n h th x1 = some (r, g) → W p l e { frames := 2, cells := h_x g - n0, slots := h_s g - s0, locals := 64 } s m args below meth c H locs cells slots (MQ below (eQ D cy z (rV r) g) args s (h_x g - n0) (h_s g - s0) (fun q => z ≤ q)) (F0 m 14 ls []) := by
  obtain ⟨hx, hb, hr, hml, hown, hts, hlk⟩ := id C
  intro n
  induction n with
  | zero =>
    intro cells slots h th x1 H locs ls w hsl hl hE
    cases hE
  | succ n ih =>
    intro cells slots h th x1 H locs ls w hsl hl hE
    have hcc : cells ≤ h_x g - n0 ∧ slots ≤ h_s g - s0 := by
      have q1 := mo_State_init_14 N  (n + 1) h th x1 _ _ hE
      have q2 := wd_x w
      have q3 := q1.1
      have q4 := q1.2.1
      omega
    unfold f_State_init_14 at hE
    refine lv_iload_n hx hb dX6_init_14 rfl (lv_at hl 1 rfl) ?_
    refine lv_iconst (v := 4) hx hb dX6_init_15 (by decide) ?_
    refine w_icmp_ge (tgt := 38) C dX6_init_16 (by decide) hE (fun hc e1 => ?_) (fun hc e1 => ?_)
    · refine lv_aload_n hx hb dX6_init_38 rfl (lv_at hl 0 rfl) ?_
      refine lv_bipush (v := 40) hx hb dX6_init_39 (by decide) ?_
      have hm := mo_State_init_43 N   (nw h 50 (40 : Int32).toNatClampNeg (40 : Int32).toNatClampNeg) th (some th) (some (h_x h)) _ _ (nwA_some e1).2
      have hm1 := hm.1
      have hm2 := hm.2.1
      rw [h_x_nw] at hm1
      rw [h_s_nw] at hm2
      have hwx := wd_x w
      refine w_nwI C w (List.mem_cons_of_mem _ gw_2_16) dX6_init_41 e1 (by show cells + 1 ≤ h_x g - n0; omega) (by show slots + _ ≤ h_s g - s0; omega) (fun H w e2 => ?_)
      exact b_State_init_43 C hni N n0 s0 hn0   (cells + 1) (slots + (40 : Int32).toNatClampNeg) (nw h 50 (40 : Int32).toNatClampNeg (40 : Int32).toNatClampNeg) th (some th) (some (h_x h)) _ _ ls w (by first | (rw [h_s_nw, hsl]; done) | (rw [h_s_nw, hsl]; omega)) (lv_sub hl [0] rfl) e2
    · refine lv_aload_n hx hb dX6_init_19 rfl (lv_at hl 0 rfl) ?_
      refine w_gR (r := some th) (ci := 7) (k := 0) C w rfl (by decide) (GF_wsX60 _) (by decide) rfl (List.mem_cons_of_mem _ gw_6_6) rfl dX6_init_20 e1 (fun v3 e3 => ?_)
      refine lv_iload_n hx hb dX6_init_23 rfl (lv_at hl 1 rfl) ?_
      have hm := mo_State_init_27 N (mo_State_init_14 N  n)  (nw h 3 0 2) th x1 v3 x1 (some (h_x h)) _ _ e3
      have hm1 := hm.1
      have hm2 := hm.2.1
      rw [h_x_nw] at hm1
      rw [h_s_nw] at hm2
      have hwx := wd_x w
      refine w_newO (ci := 2) C w rfl (by decide) (GF_wsX10 _) tyX1 tyX1_ok (List.mem_cons_of_mem _ gw_6_5) (List.mem_cons_of_mem _ gw_3_5) (List.mem_cons_of_mem _ gw_3_6) (fun j hj => by rcases (show j = 0 ∨ j = 1 by omega) with rfl | rfl <;> rfl) dX6_init_24 e3 (by show cells + 1 ≤ h_x g - n0; omega) (by show slots + _ ≤ h_s g - s0; omega) (fun H w e4 => ?_)
      exact b_State_init_27 C hni N n0 s0 hn0 (mo_State_init_14 N  n) ih  (cells + 1) (slots + 2) (nw h 3 0 2) th x1 v3 x1 (some (h_x h)) _ _ ls w (by first | (rw [h_s_nw, hsl]; done) | (rw [h_s_nw, hsl]; omega)) (lv_sub hl [0, 1] rfl) e4
set_option maxRecDepth 20000 in
set_option maxHeartbeats 4000000 in
theorem b_State_init_9 {p : Program} {l : Launch} {e : Env} {s : State} {m : MethodId} {args : Array Value} {below : List Frame} {meth : Method} {c : Code} {D : va_G} {cy : cyT} {z : Nat} (C : MX p s m args meth c cX6_init 2 (none) RX6 (Cond.code yX6_init cX6_init 2 (none) :: GW)) (hni : meth.name = "<init>") (N : Nat) (n0 s0 : Nat) (hn0 : s.heap.size = n0) {r : Unit} {g : hS}  : ∀  (cells slots : Nat) (h : hS) (th : Nat) (y0 : Option Nat) (y1 : Option Nat) (H : Heap) (locs : List Loc) (ls : Array Slot), wd D cy z s cells h H locs → h_s h = s0 + slots → lv_has ls 2 [(0, .ref th)] → f_State_init_9 N   h th y0 y1 = some (r, g) → W p l e { frames := 2, cells := h_x g - n0, slots := h_s g - s0, locals := 64 } s m args below meth c H locs cells slots (MQ below (eQ D cy z (rV r) g) args s (h_x g - n0) (h_s g - s0) (fun q => z ≤ q)) (F0 m 9 ls [va_rf y1, va_rf y0]) := by
  obtain ⟨hx, hb, hr, hml, hown, hts, hlk⟩ := id C
  intro cells slots h th y0 y1 H locs ls w hsl hl hE
  have hcc : cells ≤ h_x g - n0 ∧ slots ≤ h_s g - s0 := by
    have q1 := mo_State_init_9 N  h th y0 y1 _ _ hE
    have q2 := wd_x w
    have q3 := q1.1
    have q4 := q1.2.1
    omega
  unfold f_State_init_9 at hE
  refine w_pRF (r := y0) (ci := 7) (k := 0) (v := y1) (Or.inr ⟨_, rfl⟩) C w rfl (by decide) (by unfold roK; omega) (GF_wsX60 _) tyX6 tyX6_ok nmX6 (by decide) rfl (List.mem_cons_of_mem _ gw_6_6) rfl rfl hni rfl (tyX6_ok 0 (by decide)) dX6_init_9 hE (fun h1 H locs w hsh1 e1 => ?_)
  have hsl := hsh1.2.2.2.trans hsl
  refine lv_iconst (v := 0) hx hb dX6_init_12 (by decide) ?_
  refine lv_istore_n (lv' := [(1, .int (0 : Int32)), (0, .ref th)]) hx hb dX6_init_13 rfl hl (by decide) rfl (fun ls hl => ?_)
  exact b_State_init_14 C hni N n0 s0 hn0  N _ _ h1 th (0 : Int32) _ _ ls w hsl (lv_sub hl [1, 0] rfl) e1
set_option maxRecDepth 20000 in
set_option maxHeartbeats 4000000 in
theorem k_State_init (l : Launch) (D : va_G) (cy : cyT) (z : Nat) (N : Nat) (h : hS) (th : Nat) (r : Unit) (g : hS) (hE : f_State_init N h th = some (r, g)) : ct l yX6_init (Cond.code yX6_init cX6_init 2 (none) :: GW) { frames := 2, cells := h_x g - h_x h, slots := h_s g - h_s h, locals := 64 } D cy z h [.ref th] (rV r) g := by
  refine Met.ofW (cc := cX6_init) (maxL := 2) (ret := none) (by decide) rfl ?_
  intro p e s m args below meth c s₁ B hml hv
  obtain ⟨rfl, hw⟩ := hv
  have hni : meth.name = "<init>" := (name_of_methodNamed B.named B.method).1
  have C : MX p s m ([.ref th] : List Value).toArray meth c cX6_init 2 (none) RX6 (Cond.code yX6_init cX6_init 2 (none) :: GW) := ⟨B.exec, B.bytes, B.returns, hml, findClass_of_methodNamed B.named, atoms_spec (ws := Cond.code yX6_init cX6_init 2 (none) :: GW) B.pre, B.notSynchronized⟩
  obtain ⟨hx, hb, hr, hml, hown, hts, hlk⟩ := id C
  have w := wd_of hw
  have hsl : h_s h = h_s h + 0 := rfl
  have hn0 : s.heap.size = h_x h := (wd_x w).1
  obtain ⟨ls, hen, hl⟩ : ∃ ls : Array Slot, entryFrame m ([.ref th] : List Value).toArray 2 = F0 m 0 ls [] ∧ lv_has ls 2 [(0, .ref th)] := by
    exact ⟨_, lg_entry_eq _ _ _, lv_entry _ (Nat.le_of_ble_eq_true rfl)⟩
  rw [hen]
  have hcc : 0 ≤ h_x g - h_x h ∧ 0 ≤ h_s g - h_s h := ⟨Nat.zero_le _, Nat.zero_le _⟩
  unfold f_State_init at hE
  refine lv_aload_n hx hb dX6_init_0 rfl (lv_at hl 0 rfl) ?_
  refine w_oinit (a := th) C hl.1 (List.mem_cons_of_mem _ gw_6_4) (List.mem_cons_of_mem _ gw_1_12) (List.mem_cons_of_mem _ gw_1_13) (Nat.le_of_ble_eq_true rfl) (Nat.le_of_ble_eq_true rfl) dX6_init_1 ?_
  refine lv_aload_n hx hb dX6_init_4 rfl (lv_at hl 0 rfl) ?_
  refine lv_iconst (v := 4) hx hb dX6_init_5 (by decide) ?_
  have hm := mo_State_init_9 N   (nw h 62 (4 : Int32).toNatClampNeg (4 : Int32).toNatClampNeg) th (some th) (some (h_x h)) _ _ (nwA_some hE).2
  have hm1 := hm.1
  have hm2 := hm.2.1
  rw [h_x_nw] at hm1
  rw [h_s_nw] at hm2
  have hwx := wd_x w
  refine w_anw (kd := 62) (t0 := 6) C w (List.mem_cons_of_mem _ gw_6_5) (List.mem_of_getElem? (i := 0) rfl) rfl (by decide) dX6_init_6 hE (by show 0 + 1 ≤ h_x g - (h_x h); omega) (by show 0 + _ ≤ h_s g - (h_s h); omega) (fun H w e1 => ?_)
  exact b_State_init_9 C hni N (h_x h) (h_s h) hn0   (0 + 1) (0 + (4 : Int32).toNatClampNeg) (nw h 62 (4 : Int32).toNatClampNeg (4 : Int32).toNatClampNeg) th (some th) (some (h_x h)) _ _ ls w (by first | (rw [h_s_nw, hsl]; done) | (rw [h_s_nw, hsl]; omega)) (lv_sub hl [0] rfl) e1
set_option maxRecDepth 20000 in
set_option maxHeartbeats 4000000 in
theorem b_K_isCost_14 {p : Program} {l : Launch} {e : Env} {s : State} {m : MethodId} {args : Array Value} {below : List Frame} {meth : Method} {c : Code} {D : va_G} {cy : cyT} {z : Nat} (C : MX p s m args meth c cX11_isCost 1 ((some .boolean)) RX11 (Cond.code yX11_isCost cX11_isCost 1 ((some .boolean)) :: GW)) (N : Nat) {r : Int32} {g : hS}  : ∀  (h : hS) (y0 : Int32) (H : Heap) (locs : List Loc) (ls : Array Slot), wd D cy z s 0 h H locs → lv_has ls 1 [] → f_K_isCost_14 N   h y0 = some (r, g) → W p l e { frames := 0, cells := 0, slots := 0, locals := 0 } s m args below meth c H locs 0 0 (MQ below (eQ D cy z (rI r) g) args s 0 0 (fun q => z ≤ q)) (F0 m 14 ls [.int y0]) := by
  obtain ⟨hx, hb, hr, hml, hown, hts, hlk⟩ := id C
  intro  h y0 H locs ls w  hl hE
  unfold f_K_isCost_14 at hE
  exact w_zret C w hE dX11_isCost_14
set_option maxRecDepth 20000 in
set_option maxHeartbeats 4000000 in
theorem b_K_isCost_13 {p : Program} {l : Launch} {e : Env} {s : State} {m : MethodId} {args : Array Value} {below : List Frame} {meth : Method} {c : Code} {D : va_G} {cy : cyT} {z : Nat} (C : MX p s m args meth c cX11_isCost 1 ((some .boolean)) RX11 (Cond.code yX11_isCost cX11_isCost 1 ((some .boolean)) :: GW)) (N : Nat) {r : Int32} {g : hS}  : ∀  (h : hS)  (H : Heap) (locs : List Loc) (ls : Array Slot), wd D cy z s 0 h H locs → lv_has ls 1 [] → f_K_isCost_13 N   h  = some (r, g) → W p l e { frames := 0, cells := 0, slots := 0, locals := 0 } s m args below meth c H locs 0 0 (MQ below (eQ D cy z (rI r) g) args s 0 0 (fun q => z ≤ q)) (F0 m 13 ls []) := by
  obtain ⟨hx, hb, hr, hml, hown, hts, hlk⟩ := id C
  intro  h  H locs ls w  hl hE
  unfold f_K_isCost_13 at hE
  refine lv_iconst (v := 0) hx hb dX11_isCost_13 (by decide) ?_
  exact b_K_isCost_14 C N     h (0 : Int32) _ _ ls w  (lv_sub hl [] rfl) hE
set_option maxRecDepth 20000 in
set_option maxHeartbeats 4000000 in
theorem k_K_isCost (l : Launch) (D : va_G) (cy : cyT) (z : Nat) (N : Nat) (h : hS) (x0 : Int32) (r : Int32) (g : hS) (hE : f_K_isCost N h x0 = some (r, g)) : ct l yX11_isCost (Cond.code yX11_isCost cX11_isCost 1 ((some .boolean)) :: GW) { frames := 0, cells := 0, slots := 0, locals := 0 } D cy z h [.int x0] (rI r) g := by
  refine Met.ofW (cc := cX11_isCost) (maxL := 1) (ret := (some .boolean)) (by decide) rfl ?_
  intro p e s m args below meth c s₁ B hml hv
  obtain ⟨rfl, hw⟩ := hv
  have C : MX p s m ([.int x0] : List Value).toArray meth c cX11_isCost 1 ((some .boolean)) RX11 (Cond.code yX11_isCost cX11_isCost 1 ((some .boolean)) :: GW) := ⟨B.exec, B.bytes, B.returns, hml, findClass_of_methodNamed B.named, atoms_spec (ws := Cond.code yX11_isCost cX11_isCost 1 ((some .boolean)) :: GW) B.pre, B.notSynchronized⟩
  obtain ⟨hx, hb, hr, hml, hown, hts, hlk⟩ := id C
  have w := wd_of hw
  obtain ⟨ls, hen, hl⟩ : ∃ ls : Array Slot, entryFrame m ([.int x0] : List Value).toArray 1 = F0 m 0 ls [] ∧ lv_has ls 1 [(0, .int x0)] := by
    exact ⟨_, lg_entry_eq _ _ _, lv_entry _ (Nat.le_of_ble_eq_true rfl)⟩
  rw [hen]
  unfold f_K_isCost at hE
  refine lv_iload_n hx hb dX11_isCost_0 rfl (lv_at hl 0 rfl) ?_
  refine w_if_lt (tgt := 13) C dX11_isCost_1 (by decide) hE (fun hc e1 => ?_) (fun hc e1 => ?_)
  · exact b_K_isCost_13 C N     h  _ _ ls w  (lv_sub hl [] rfl) e1
  · refine lv_iload_n hx hb dX11_isCost_4 rfl (lv_at hl 0 rfl) ?_
    refine lv_iconst (v := 4) hx hb dX11_isCost_5 (by decide) ?_
    refine w_icmp_ge (tgt := 13) C dX11_isCost_6 (by decide) e1 (fun hc e2 => ?_) (fun hc e2 => ?_)
    · exact b_K_isCost_13 C N     h  _ _ ls w  (lv_sub hl [] rfl) e2
    · refine lv_iconst (v := 1) hx hb dX11_isCost_9 (by decide) ?_
      refine lv_goto (tgt := 14) hx hb dX11_isCost_10 (by decide) ?_
      exact b_K_isCost_14 C N     h (1 : Int32) _ _ ls w  (lv_sub hl [] rfl) e2
set_option maxRecDepth 20000 in
set_option maxHeartbeats 4000000 in
theorem b_State_actChain_22 {p : Program} {l : Launch} {e : Env} {s : State} {m : MethodId} {args : Array Value} {below : List Frame} {meth : Method} {c : Code} {D : va_G} {cy : cyT} {z : Nat} (C : MX p s m args meth c cX6_actChain 2 ((some (.object "SlopeKeeper$Chain"))) RX6 (Cond.code yX6_actChain cX6_actChain 2 ((some (.object "SlopeKeeper$Chain"))) :: GW)) (N : Nat) (n0 s0 : Nat) (hn0 : s.heap.size = n0) {r : Option Nat} {g : hS}  : ∀  (cells slots : Nat) (h : hS) (th : Nat) (x1 : Int32) (H : Heap) (locs : List Loc) (ls : Array Slot), wd D cy z s cells h H locs → h_s h = s0 + slots → lv_has ls 2 [(0, .ref th), (1, .int x1)] → f_State_actChain_22 N   h th x1 = some (r, g) → W p l e { frames := 2, cells := h_x g - n0, slots := h_s g - s0, locals := 64 } s m args below meth c H locs cells slots (MQ below (eQ D cy z (rR r) g) args s (h_x g - n0) (h_s g - s0) (fun q => z ≤ q)) (F0 m 22 ls []) := by
  obtain ⟨hx, hb, hr, hml, hown, hts, hlk⟩ := id C
  intro cells slots h th x1 H locs ls w hsl hl hE
  have hcc : cells ≤ h_x g - n0 ∧ slots ≤ h_s g - s0 := by
    have q1 := mo_State_actChain_22 N  h th x1 _ _ hE
    have q2 := wd_x w
    have q3 := q1.1
    have q4 := q1.2.1
    omega
  unfold f_State_actChain_22 at hE
  refine lv_aload_n hx hb dX6_actChain_22 rfl (lv_at hl 0 rfl) ?_
  refine w_gR (r := some th) (ci := 7) (k := 2) C w rfl (by decide) (GF_wsX60 _) (by decide) rfl (List.mem_cons_of_mem _ gw_6_8) rfl dX6_actChain_23 hE (fun v1 e1 => ?_)
  refine lv_iload_n hx hb dX6_actChain_26 rfl (lv_at hl 1 rfl) ?_
  refine w_aRq (kd := 62) (t0 := 6) (r := v1) C w rfl (by decide) dX6_actChain_27 e1 (fun v2 e2 => ?_)
  refine W.widen (k := h_x g - n0) (n := h_s g - s0) hcc.1 hcc.2 ?_
  exact w_aret (v := v2) (Or.inl ⟨_, rfl⟩) C w e2 dX6_actChain_28
set_option maxRecDepth 20000 in
set_option maxHeartbeats 4000000 in
theorem b_State_actChain_21 {p : Program} {l : Launch} {e : Env} {s : State} {m : MethodId} {args : Array Value} {below : List Frame} {meth : Method} {c : Code} {D : va_G} {cy : cyT} {z : Nat} (C : MX p s m args meth c cX6_actChain 2 ((some (.object "SlopeKeeper$Chain"))) RX6 (Cond.code yX6_actChain cX6_actChain 2 ((some (.object "SlopeKeeper$Chain"))) :: GW)) (N : Nat) (n0 s0 : Nat) (hn0 : s.heap.size = n0) {r : Option Nat} {g : hS}  : ∀  (cells slots : Nat) (h : hS) (th : Nat) (x1 : Int32) (y0 : Option Nat) (y1 : Int32) (y2 : Option Nat) (H : Heap) (locs : List Loc) (ls : Array Slot), wd D cy z s cells h H locs → h_s h = s0 + slots → lv_has ls 2 [(0, .ref th), (1, .int x1)] → f_State_actChain_21 N   h th x1 y0 y1 y2 = some (r, g) → W p l e { frames := 2, cells := h_x g - n0, slots := h_s g - s0, locals := 64 } s m args below meth c H locs cells slots (MQ below (eQ D cy z (rR r) g) args s (h_x g - n0) (h_s g - s0) (fun q => z ≤ q)) (F0 m 21 ls [va_rf y2, .int y1, va_rf y0]) := by
  obtain ⟨hx, hb, hr, hml, hown, hts, hlk⟩ := id C
  intro cells slots h th x1 y0 y1 y2 H locs ls w hsl hl hE
  have hcc : cells ≤ h_x g - n0 ∧ slots ≤ h_s g - s0 := by
    have q1 := mo_State_actChain_21 N  h th x1 y0 y1 y2 _ _ hE
    have q2 := wd_x w
    have q3 := q1.1
    have q4 := q1.2.1
    omega
  unfold f_State_actChain_21 at hE
  refine w_uR (kd := 62) (t0 := 6) (ci := 2) (r := y0) (v := y2) C w rfl (by decide) rfl (by decide) dX6_actChain_21 hE (fun h1 H locs w hsh1 e1 => ?_)
  have hsl := hsh1.2.2.2.trans hsl
  exact b_State_actChain_22 C N n0 s0 hn0   _ _ h1 th x1 _ _ ls w hsl (lv_sub hl [0, 1] rfl) e1
set_option maxRecDepth 20000 in
set_option maxHeartbeats 4000000 in
theorem b_State_actChain_17 {p : Program} {l : Launch} {e : Env} {s : State} {m : MethodId} {args : Array Value} {below : List Frame} {meth : Method} {c : Code} {D : va_G} {cy : cyT} {z : Nat} (C : MX p s m args meth c cX6_actChain 2 ((some (.object "SlopeKeeper$Chain"))) RX6 (Cond.code yX6_actChain cX6_actChain 2 ((some (.object "SlopeKeeper$Chain"))) :: GW)) (N : Nat) (n0 s0 : Nat) (hn0 : s.heap.size = n0) {r : Option Nat} {g : hS}  : ∀  (cells slots : Nat) (h : hS) (th : Nat) (x1 : Int32) (y0 : Option Nat) (y1 : Int32) (y2 : Option Nat) (H : Heap) (locs : List Loc) (ls : Array Slot), wd D cy z s cells h H locs → h_s h = s0 + slots → lv_has ls 2 [(0, .ref th), (1, .int x1)] → f_State_actChain_17 N   h th x1 y0 y1 y2 = some (r, g) → W p l e { frames := 2, cells := h_x g - n0, slots := h_s g - s0, locals := 64 } s m args below meth c H locs cells slots (MQ below (eQ D cy z (rR r) g) args s (h_x g - n0) (h_s g - s0) (fun q => z ≤ q)) (F0 m 17 ls [va_rf y2, .int y1, va_rf y0]) := by
  obtain ⟨hx, hb, hr, hml, hown, hts, hlk⟩ := id C
  intro cells slots h th x1 y0 y1 y2 H locs ls w hsl hl hE
  have hcc : cells ≤ h_x g - n0 ∧ slots ≤ h_s g - s0 := by
    have q1 := mo_State_actChain_17 N  h th x1 y0 y1 y2 _ _ hE
    have q2 := wd_x w
    have q3 := q1.1
    have q4 := q1.2.1
    omega
  unfold f_State_actChain_17 at hE
  refine lv_dup hx hb dX6_actChain_17 (va_rf_cat _) ?_
  obtain ⟨q3, eq3, e1⟩ := nn_some hE
  subst eq3
  refine w_IAV GW_good (b := q3) (n := 0) (F := 1) (Lc := 44) (av := []) (rest := [.ref q3, .int y1, va_rf y0]) C w (fun r g hf => k_Chain_init l D cy z N h q3  r g hf) gw_6_14 gw_5_9 gw_3_6 gw_5_10 rfl (by decide +kernel) ⟨Nat.le_of_ble_eq_true rfl, Nat.le_of_ble_eq_true rfl⟩ rfl hl.1 rfl (cat_le (Nat.le_of_ble_eq_true rfl)) dX6_actChain_18 (mo_Chain_init N h q3 ) (fun v1 h2 q1 q2 => by have u1 := (mo_Chain_init N h q3 ) _ _ q1; have u2 := mo_State_actChain_21 N   h2 th x1 y0 y1 (some q3) _ _ q2; have u3 := wd_x w; have u4 := u1.1; have u5 := u1.2.1; have u6 := u2.1; have u7 := u2.2.1; show cells + _ ≤ h_x g - n0 ∧ slots + _ ≤ h_s g - s0; omega) e1 (fun v1 h2 H locs w hsh2 e2 => ?_)
  exact b_State_actChain_21 C N n0 s0 hn0   _ _ h2 th x1 y0 y1 (some q3) _ _ ls w (by have u5 := hsh2.2.1; have u8 := hsl; omega) (lv_sub hl [0, 1] rfl) e2
set_option maxRecDepth 20000 in
set_option maxHeartbeats 4000000 in
theorem k_State_actChain (l : Launch) (D : va_G) (cy : cyT) (z : Nat) (N : Nat) (h : hS) (th : Nat) (x1 : Int32) (r : Option Nat) (g : hS) (hE : f_State_actChain N h th x1 = some (r, g)) : ct l yX6_actChain (Cond.code yX6_actChain cX6_actChain 2 ((some (.object "SlopeKeeper$Chain"))) :: GW) { frames := 2, cells := h_x g - h_x h, slots := h_s g - h_s h, locals := 64 } D cy z h [.ref th, .int x1] (rR r) g := by
  refine Met.ofW (cc := cX6_actChain) (maxL := 2) (ret := (some (.object "SlopeKeeper$Chain"))) (by decide) rfl ?_
  intro p e s m args below meth c s₁ B hml hv
  obtain ⟨rfl, hw⟩ := hv
  have C : MX p s m ([.ref th, .int x1] : List Value).toArray meth c cX6_actChain 2 ((some (.object "SlopeKeeper$Chain"))) RX6 (Cond.code yX6_actChain cX6_actChain 2 ((some (.object "SlopeKeeper$Chain"))) :: GW) := ⟨B.exec, B.bytes, B.returns, hml, findClass_of_methodNamed B.named, atoms_spec (ws := Cond.code yX6_actChain cX6_actChain 2 ((some (.object "SlopeKeeper$Chain"))) :: GW) B.pre, B.notSynchronized⟩
  obtain ⟨hx, hb, hr, hml, hown, hts, hlk⟩ := id C
  have w := wd_of hw
  have hsl : h_s h = h_s h + 0 := rfl
  have hn0 : s.heap.size = h_x h := (wd_x w).1
  obtain ⟨ls, hen, hl⟩ : ∃ ls : Array Slot, entryFrame m ([.ref th, .int x1] : List Value).toArray 2 = F0 m 0 ls [] ∧ lv_has ls 2 [(0, .ref th), (1, .int x1)] := by
    exact ⟨_, lg_entry_eq _ _ _, lv_entry _ (Nat.le_of_ble_eq_true rfl)⟩
  rw [hen]
  have hcc : 0 ≤ h_x g - h_x h ∧ 0 ≤ h_s g - h_s h := ⟨Nat.zero_le _, Nat.zero_le _⟩
  unfold f_State_actChain at hE
  refine lv_aload_n hx hb dX6_actChain_0 rfl (lv_at hl 0 rfl) ?_
  refine w_gR (r := some th) (ci := 7) (k := 2) C w rfl (by decide) (GF_wsX60 _) (by decide) rfl (List.mem_cons_of_mem _ gw_6_8) rfl dX6_actChain_1 hE (fun v1 e1 => ?_)
  refine lv_iload_n hx hb dX6_actChain_4 rfl (lv_at hl 1 rfl) ?_
  refine w_aRq (kd := 62) (t0 := 6) (r := v1) C w rfl (by decide) dX6_actChain_5 e1 (fun v2 e2 => ?_)
  refine w_nonnull (r := v2) (tgt := 22) C dX6_actChain_6 (by decide) e2 (fun hc e3 => ?_) (fun hc e3 => ?_)
  · exact b_State_actChain_22 C N (h_x h) (h_s h) hn0   _ _ h th x1 _ _ ls w hsl (lv_sub hl [0, 1] rfl) e3
  · refine lv_aload_n hx hb dX6_actChain_9 rfl (lv_at hl 0 rfl) ?_
    refine w_gR (r := some th) (ci := 7) (k := 2) C w rfl (by decide) (GF_wsX60 _) (by decide) rfl (List.mem_cons_of_mem _ gw_6_8) rfl dX6_actChain_10 e3 (fun v3 e4 => ?_)
    refine lv_iload_n hx hb dX6_actChain_13 rfl (lv_at hl 1 rfl) ?_
    have hm := mo_State_actChain_17 N   (nw h 3 0 2) th x1 v3 x1 (some (h_x h)) _ _ e4
    have hm1 := hm.1
    have hm2 := hm.2.1
    rw [h_x_nw] at hm1
    rw [h_s_nw] at hm2
    have hwx := wd_x w
    refine w_newO (ci := 2) C w rfl (by decide) (GF_wsX10 _) tyX1 tyX1_ok (List.mem_cons_of_mem _ gw_6_5) (List.mem_cons_of_mem _ gw_3_5) (List.mem_cons_of_mem _ gw_3_6) (fun j hj => by rcases (show j = 0 ∨ j = 1 by omega) with rfl | rfl <;> rfl) dX6_actChain_14 e4 (by show 0 + 1 ≤ h_x g - (h_x h); omega) (by show 0 + _ ≤ h_s g - (h_s h); omega) (fun H w e5 => ?_)
    exact b_State_actChain_17 C N (h_x h) (h_s h) hn0   (0 + 1) (0 + 2) (nw h 3 0 2) th x1 v3 x1 (some (h_x h)) _ _ ls w (by first | (rw [h_s_nw, hsl]; done) | (rw [h_s_nw, hsl]; omega)) (lv_sub hl [0, 1] rfl) e5
set_option maxRecDepth 20000 in
set_option maxHeartbeats 4000000 in
theorem b_State_dropOldestAct_8 {p : Program} {l : Launch} {e : Env} {s : State} {m : MethodId} {args : Array Value} {below : List Frame} {meth : Method} {c : Code} {D : va_G} {cy : cyT} {z : Nat} (C : MX p s m args meth c cX6_dropOldestAct 3 (none) RX6 (Cond.code yX6_dropOldestAct cX6_dropOldestAct 3 (none) :: GW)) (N : Nat) (n0 s0 : Nat) (hn0 : s.heap.size = n0) {r : Unit} {g : hS}  : ∀ (n : Nat) (cells slots : Nat) (h : hS) (th : Nat) (a1 : Option Nat) (x2 : Int32) (H : Heap) (locs : List Loc) (ls : Array Slot), wd D cy z s cells h H locs → h_s h = s0 + slots → lv_has ls 3 [(0, .ref th), (1, va_rf a1), (2, .int x2)] → f_State_dropOldestAct_8 N  n h th a1 x2 = some (r, g) → W p l e { frames := 3, cells := h_x g - n0, slots := h_s g - s0, locals := 85 } s m args below meth c H locs cells slots (MQ below (eQ D cy z (rV r) g) args s (h_x g - n0) (h_s g - s0) (fun q => z ≤ q)) (F0 m 8 ls []) := by
  obtain ⟨hx, hb, hr, hml, hown, hts, hlk⟩ := id C
  intro n
  induction n with
  | zero =>
    intro cells slots h th a1 x2 H locs ls w hsl hl hE
    cases hE
  | succ n ih =>
    intro cells slots h th a1 x2 H locs ls w hsl hl hE
    have hcc : cells ≤ h_x g - n0 ∧ slots ≤ h_s g - s0 := by
      have q1 := mo_State_dropOldestAct_8 N  (n + 1) h th a1 x2 _ _ hE
      have q2 := wd_x w
      have q3 := q1.1
      have q4 := q1.2.1
      omega
    unfold f_State_dropOldestAct_8 at hE
    refine lv_iload_n hx hb dX6_dropOldestAct_8 rfl (lv_at hl 2 rfl) ?_
    refine lv_bipush (v := 40) hx hb dX6_dropOldestAct_9 (by decide) ?_
    refine w_icmp_ge (tgt := 48) C dX6_dropOldestAct_11 (by decide) hE (fun hc e1 => ?_) (fun hc e1 => ?_)
    · refine lv_aload_n hx hb dX6_dropOldestAct_48 rfl (lv_at hl 0 rfl) ?_
      refine w_gR (r := some th) (ci := 7) (k := 2) C w rfl (by decide) (GF_wsX60 _) (by decide) rfl (List.mem_cons_of_mem _ gw_6_8) rfl dX6_dropOldestAct_49 e1 (fun v1 e2 => ?_)
      refine lv_bipush (v := 39) hx hb dX6_dropOldestAct_52 (by decide) ?_
      refine w_aload_n C dX6_dropOldestAct_54 rfl (lv_at hl 1 rfl) ?_
      refine w_uR (kd := 62) (t0 := 6) (ci := 2) (r := v1) (v := a1) C w rfl (by decide) rfl (by decide) dX6_dropOldestAct_55 e2 (fun h2 H locs w hsh2 e3 => ?_)
      have hsl := hsh2.2.2.2.trans hsl
      refine lv_aload_n hx hb dX6_dropOldestAct_56 rfl (lv_at hl 0 rfl) ?_
      refine lv_bipush (v := 39) hx hb dX6_dropOldestAct_57 (by decide) ?_
      refine w_pI (r := some th) (ci := 7) (k := 3) C w rfl (by decide) (by unfold roK; omega) (GF_wsX60 _) tyX6 tyX6_ok nmX6 (by decide) rfl (List.mem_cons_of_mem _ gw_6_9) rfl rfl (tyX6_ok 3 (by decide)) dX6_dropOldestAct_59 e3 (fun h3 H locs w hsh3 e4 => ?_)
      have hsl := hsh3.2.2.2.trans hsl
      refine W.widen (k := h_x g - n0) (n := h_s g - s0) hcc.1 hcc.2 ?_
      exact w_vret C w e4 dX6_dropOldestAct_62
    · refine lv_aload_n hx hb dX6_dropOldestAct_14 rfl (lv_at hl 0 rfl) ?_
      refine w_gR (r := some th) (ci := 7) (k := 1) C w rfl (by decide) (GF_wsX60 _) (by decide) rfl (List.mem_cons_of_mem _ gw_6_7) rfl dX6_dropOldestAct_15 e1 (fun v4 e5 => ?_)
      refine lv_iload_n hx hb dX6_dropOldestAct_18 rfl (lv_at hl 2 rfl) ?_
      refine lv_iconst (v := 1) hx hb dX6_dropOldestAct_19 (by decide) ?_
      refine lv_isub hx hb dX6_dropOldestAct_20 ?_
      refine lv_aload_n hx hb dX6_dropOldestAct_21 rfl (lv_at hl 0 rfl) ?_
      refine w_gR (r := some th) (ci := 7) (k := 1) C w rfl (by decide) (GF_wsX60 _) (by decide) rfl (List.mem_cons_of_mem _ gw_6_7) rfl dX6_dropOldestAct_22 e5 (fun v5 e6 => ?_)
      refine lv_iload_n hx hb dX6_dropOldestAct_25 rfl (lv_at hl 2 rfl) ?_
      refine w_aI (r := v5) C w dX6_dropOldestAct_26 e6 (fun v6 e7 => ?_)
      refine w_uI (r := v4) C w dX6_dropOldestAct_27 e7 (fun h7 H locs w hsh7 e8 => ?_)
      have hsl := hsh7.2.2.2.trans hsl
      refine lv_aload_n hx hb dX6_dropOldestAct_28 rfl (lv_at hl 0 rfl) ?_
      refine w_gR (r := some th) (ci := 7) (k := 2) C w rfl (by decide) (GF_wsX60 _) (by decide) rfl (List.mem_cons_of_mem _ gw_6_8) rfl dX6_dropOldestAct_29 e8 (fun v8 e9 => ?_)
      refine lv_iload_n hx hb dX6_dropOldestAct_32 rfl (lv_at hl 2 rfl) ?_
      refine lv_iconst (v := 1) hx hb dX6_dropOldestAct_33 (by decide) ?_
      refine lv_isub hx hb dX6_dropOldestAct_34 ?_
      refine lv_aload_n hx hb dX6_dropOldestAct_35 rfl (lv_at hl 0 rfl) ?_
      refine w_gR (r := some th) (ci := 7) (k := 2) C w rfl (by decide) (GF_wsX60 _) (by decide) rfl (List.mem_cons_of_mem _ gw_6_8) rfl dX6_dropOldestAct_36 e9 (fun v9 e10 => ?_)
      refine lv_iload_n hx hb dX6_dropOldestAct_39 rfl (lv_at hl 2 rfl) ?_
      refine w_aRq (kd := 62) (t0 := 6) (r := v9) C w rfl (by decide) dX6_dropOldestAct_40 e10 (fun v10 e11 => ?_)
      refine w_uR (kd := 62) (t0 := 6) (ci := 2) (r := v8) (v := v10) C w rfl (by decide) rfl (by decide) dX6_dropOldestAct_41 e11 (fun h11 H locs w hsh11 e12 => ?_)
      have hsl := hsh11.2.2.2.trans hsl
      obtain ⟨v12, ev12, e13⟩ := bn_some e12
      refine lv_iinc (v := v12) (lv' := [(2, .int v12), (0, .ref th), (1, va_rf a1)]) hx hb dX6_dropOldestAct_42 hl (k := 2) rfl (by rw [ev12]; rfl) (by decide) (by cases a1 <;> rfl) (fun ls hl => ?_)
      refine lv_goto (tgt := 8) hx hb dX6_dropOldestAct_45 (by decide) ?_
      exact ih _ _ h11 th a1 v12 _ _ ls w hsl (lv_sub hl [1, 2, 0] rfl) e13
set_option maxRecDepth 20000 in
set_option maxHeartbeats 4000000 in
theorem b_State_dropOldestAct_5 {p : Program} {l : Launch} {e : Env} {s : State} {m : MethodId} {args : Array Value} {below : List Frame} {meth : Method} {c : Code} {D : va_G} {cy : cyT} {z : Nat} (C : MX p s m args meth c cX6_dropOldestAct 3 (none) RX6 (Cond.code yX6_dropOldestAct cX6_dropOldestAct 3 (none) :: GW)) (N : Nat) (n0 s0 : Nat) (hn0 : s.heap.size = n0) {r : Unit} {g : hS}  : ∀  (cells slots : Nat) (h : hS) (th : Nat) (y0 : Option Nat) (H : Heap) (locs : List Loc) (ls : Array Slot), wd D cy z s cells h H locs → h_s h = s0 + slots → lv_has ls 3 [(0, .ref th)] → f_State_dropOldestAct_5 N   h th y0 = some (r, g) → W p l e { frames := 3, cells := h_x g - n0, slots := h_s g - s0, locals := 85 } s m args below meth c H locs cells slots (MQ below (eQ D cy z (rV r) g) args s (h_x g - n0) (h_s g - s0) (fun q => z ≤ q)) (F0 m 5 ls [va_rf y0]) := by
  obtain ⟨hx, hb, hr, hml, hown, hts, hlk⟩ := id C
  intro cells slots h th y0 H locs ls w hsl hl hE
  have hcc : cells ≤ h_x g - n0 ∧ slots ≤ h_s g - s0 := by
    have q1 := mo_State_dropOldestAct_5 N  h th y0 _ _ hE
    have q2 := wd_x w
    have q3 := q1.1
    have q4 := q1.2.1
    omega
  unfold f_State_dropOldestAct_5 at hE
  refine w_astore_n (r := y0) (lv' := [(1, va_rf y0), (0, .ref th)]) C dX6_dropOldestAct_5 rfl hl (by decide) rfl (fun ls hl => ?_)
  refine lv_iconst (v := 1) hx hb dX6_dropOldestAct_6 (by decide) ?_
  refine lv_istore_n (lv' := [(2, .int (1 : Int32)), (1, va_rf y0), (0, .ref th)]) hx hb dX6_dropOldestAct_7 rfl hl (by decide) (by cases y0 <;> rfl) (fun ls hl => ?_)
  exact b_State_dropOldestAct_8 C N n0 s0 hn0  N _ _ h th y0 (1 : Int32) _ _ ls w hsl (lv_sub hl [2, 1, 0] rfl) hE
set_option maxRecDepth 20000 in
set_option maxHeartbeats 4000000 in
theorem k_State_dropOldestAct (l : Launch) (D : va_G) (cy : cyT) (z : Nat) (N : Nat) (h : hS) (th : Nat) (r : Unit) (g : hS) (hE : f_State_dropOldestAct N h th = some (r, g)) : ct l yX6_dropOldestAct (Cond.code yX6_dropOldestAct cX6_dropOldestAct 3 (none) :: GW) { frames := 3, cells := h_x g - h_x h, slots := h_s g - h_s h, locals := 85 } D cy z h [.ref th] (rV r) g := by
  refine Met.ofW (cc := cX6_dropOldestAct) (maxL := 3) (ret := none) (by decide) rfl ?_
  intro p e s m args below meth c s₁ B hml hv
  obtain ⟨rfl, hw⟩ := hv
  have C : MX p s m ([.ref th] : List Value).toArray meth c cX6_dropOldestAct 3 (none) RX6 (Cond.code yX6_dropOldestAct cX6_dropOldestAct 3 (none) :: GW) := ⟨B.exec, B.bytes, B.returns, hml, findClass_of_methodNamed B.named, atoms_spec (ws := Cond.code yX6_dropOldestAct cX6_dropOldestAct 3 (none) :: GW) B.pre, B.notSynchronized⟩
  obtain ⟨hx, hb, hr, hml, hown, hts, hlk⟩ := id C
  have w := wd_of hw
  have hsl : h_s h = h_s h + 0 := rfl
  have hn0 : s.heap.size = h_x h := (wd_x w).1
  obtain ⟨ls, hen, hl⟩ : ∃ ls : Array Slot, entryFrame m ([.ref th] : List Value).toArray 3 = F0 m 0 ls [] ∧ lv_has ls 3 [(0, .ref th)] := by
    exact ⟨_, lg_entry_eq _ _ _, lv_entry _ (Nat.le_of_ble_eq_true rfl)⟩
  rw [hen]
  have hcc : 0 ≤ h_x g - h_x h ∧ 0 ≤ h_s g - h_s h := ⟨Nat.zero_le _, Nat.zero_le _⟩
  unfold f_State_dropOldestAct at hE
  refine lv_aload_n hx hb dX6_dropOldestAct_0 rfl (lv_at hl 0 rfl) ?_
  refine lv_iconst (v := 0) hx hb dX6_dropOldestAct_1 (by decide) ?_
  refine w_VAR GW_good (n := 1) (F := 2) (Lc := 64) (o := some th) (av := [.int (0 : Int32)]) (rest := []) C w rfl (by decide) (fun a r g hf => k_State_actChain l D cy z N h a (0 : Int32) r g hf) gw_23_19 gw_23_20 gw_23_21 gw_3_10 gw_23_22 (by decide +kernel) ⟨Nat.le_of_ble_eq_true rfl, Nat.le_of_ble_eq_true rfl⟩ rfl hl.1 rfl (Nat.le_of_ble_eq_true rfl) dX6_dropOldestAct_2 (fun a => (mo_State_actChain N h a (0 : Int32))) (fun a v1 h2 q1 q2 => by have u1 := (mo_State_actChain N h a (0 : Int32)) _ _ q1; have u2 := mo_State_dropOldestAct_5 N   h2 th v1 _ _ q2; have u3 := wd_x w; have u4 := u1.1; have u5 := u1.2.1; have u6 := u2.1; have u7 := u2.2.1; show 0 + _ ≤ h_x g - (h_x h) ∧ 0 + _ ≤ h_s g - (h_s h); omega) hE (fun v1 h2 H locs w hsh2 e1 => ?_)
  exact b_State_dropOldestAct_5 C N (h_x h) (h_s h) hn0   _ _ h2 th v1 _ _ ls w (by have u5 := hsh2.2.1; have u8 := hsl; omega) (lv_sub hl [0] rfl) e1
set_option maxRecDepth 20000 in
set_option maxHeartbeats 4000000 in
theorem b_State_act_68 {p : Program} {l : Launch} {e : Env} {s : State} {m : MethodId} {args : Array Value} {below : List Frame} {meth : Method} {c : Code} {D : va_G} {cy : cyT} {z : Nat} (C : MX p s m args meth c cX6_act 3 (none) RX6 (Cond.code yX6_act cX6_act 3 (none) :: GW)) (N : Nat) (n0 s0 : Nat) (hn0 : s.heap.size = n0) {r : Unit} {g : hS}  : ∀  (cells slots : Nat) (h : hS)  (H : Heap) (locs : List Loc) (ls : Array Slot), wd D cy z s cells h H locs → h_s h = s0 + slots → lv_has ls 3 [] → f_State_act_68 N   h  = some (r, g) → W p l e { frames := 4, cells := h_x g - n0, slots := h_s g - s0, locals := 107 } s m args below meth c H locs cells slots (MQ below (eQ D cy z (rV r) g) args s (h_x g - n0) (h_s g - s0) (fun q => z ≤ q)) (F0 m 68 ls []) := by
  obtain ⟨hx, hb, hr, hml, hown, hts, hlk⟩ := id C
  intro cells slots h  H locs ls w hsl hl hE
  have hcc : cells ≤ h_x g - n0 ∧ slots ≤ h_s g - s0 := by
    have q1 := mo_State_act_68 N  h  _ _ hE
    have q2 := wd_x w
    have q3 := q1.1
    have q4 := q1.2.1
    omega
  unfold f_State_act_68 at hE
  refine W.widen (k := h_x g - n0) (n := h_s g - s0) hcc.1 hcc.2 ?_
  exact w_vret C w hE dX6_act_68
set_option maxRecDepth 20000 in
set_option maxHeartbeats 4000000 in
theorem b_State_act_48 {p : Program} {l : Launch} {e : Env} {s : State} {m : MethodId} {args : Array Value} {below : List Frame} {meth : Method} {c : Code} {D : va_G} {cy : cyT} {z : Nat} (C : MX p s m args meth c cX6_act 3 (none) RX6 (Cond.code yX6_act cX6_act 3 (none) :: GW)) (N : Nat) (n0 s0 : Nat) (hn0 : s.heap.size = n0) {r : Unit} {g : hS}  : ∀  (cells slots : Nat) (h : hS) (th : Nat) (x1 : Int32) (a2 : Option Nat) (H : Heap) (locs : List Loc) (ls : Array Slot), wd D cy z s cells h H locs → h_s h = s0 + slots → lv_has ls 3 [(0, .ref th), (1, .int x1), (2, va_rf a2)] → f_State_act_48 N   h th x1 a2 = some (r, g) → W p l e { frames := 4, cells := h_x g - n0, slots := h_s g - s0, locals := 107 } s m args below meth c H locs cells slots (MQ below (eQ D cy z (rV r) g) args s (h_x g - n0) (h_s g - s0) (fun q => z ≤ q)) (F0 m 48 ls []) := by
  obtain ⟨hx, hb, hr, hml, hown, hts, hlk⟩ := id C
  intro cells slots h th x1 a2 H locs ls w hsl hl hE
  have hcc : cells ≤ h_x g - n0 ∧ slots ≤ h_s g - s0 := by
    have q1 := mo_State_act_48 N  h th x1 a2 _ _ hE
    have q2 := wd_x w
    have q3 := q1.1
    have q4 := q1.2.1
    omega
  unfold f_State_act_48 at hE
  refine lv_aload_n hx hb dX6_act_48 rfl (lv_at hl 0 rfl) ?_
  refine lv_dup hx hb dX6_act_49 rfl ?_
  refine w_gI (r := some th) (ci := 7) (k := 3) C w rfl (by decide) (GF_wsX60 _) (by decide) rfl (List.mem_cons_of_mem _ gw_6_9) rfl dX6_act_50 hE (fun v1 e1 => ?_)
  refine lv_iconst (v := 1) hx hb dX6_act_53 (by decide) ?_
  refine lv_iadd hx hb dX6_act_54 ?_
  refine w_pI (r := some th) (ci := 7) (k := 3) C w rfl (by decide) (by unfold roK; omega) (GF_wsX60 _) tyX6 tyX6_ok nmX6 (by decide) rfl (List.mem_cons_of_mem _ gw_6_9) rfl rfl (tyX6_ok 3 (by decide)) dX6_act_55 e1 (fun h2 H locs w hsh2 e2 => ?_)
  have hsl := hsh2.2.2.2.trans hsl
  refine lv_aload_n hx hb dX6_act_58 rfl (lv_at hl 0 rfl) ?_
  refine w_gR (r := some th) (ci := 7) (k := 0) C w rfl (by decide) (GF_wsX60 _) (by decide) rfl (List.mem_cons_of_mem _ gw_6_6) rfl dX6_act_59 e2 (fun v3 e3 => ?_)
  refine lv_iload_n hx hb dX6_act_62 rfl (lv_at hl 1 rfl) ?_
  refine w_aRq (kd := 62) (t0 := 6) (r := v3) C w rfl (by decide) dX6_act_63 e3 (fun v4 e4 => ?_)
  refine w_aload_n C dX6_act_64 rfl (lv_at hl 2 rfl) ?_
  refine w_VAV GW_good (n := 1) (F := 1) (Lc := 44) (o := v4) (av := [va_rf a2]) (rest := []) C w rfl (by decide) (fun a r g hf => k_Chain_take l D cy z N h2 a a2 r g hf) gw_23_23 gw_24_0 gw_24_1 gw_3_6 gw_24_2 (by decide +kernel) ⟨Nat.le_of_ble_eq_true rfl, Nat.le_of_ble_eq_true rfl⟩ rfl hl.1 rfl (Nat.le_of_ble_eq_true rfl) dX6_act_65 (fun a => (mo_Chain_take N h2 a a2)) (fun a v5 h6 q1 q2 => by have u1 := (mo_Chain_take N h2 a a2) _ _ q1; have u2 := mo_State_act_68 N   h6  _ _ q2; have u3 := wd_x w; have u4 := u1.1; have u5 := u1.2.1; have u6 := u2.1; have u7 := u2.2.1; show cells + _ ≤ h_x g - n0 ∧ slots + _ ≤ h_s g - s0; omega) e4 (fun v5 h6 H locs w hsh6 e5 => ?_)
  exact b_State_act_68 C N n0 s0 hn0   _ _ h6  _ _ ls w (by have u5 := hsh6.2.1; have u8 := hsl; omega) (lv_sub hl [] rfl) e5
set_option maxRecDepth 20000 in
set_option maxHeartbeats 4000000 in
theorem b_State_act_39 {p : Program} {l : Launch} {e : Env} {s : State} {m : MethodId} {args : Array Value} {below : List Frame} {meth : Method} {c : Code} {D : va_G} {cy : cyT} {z : Nat} (C : MX p s m args meth c cX6_act 3 (none) RX6 (Cond.code yX6_act cX6_act 3 (none) :: GW)) (N : Nat) (n0 s0 : Nat) (hn0 : s.heap.size = n0) {r : Unit} {g : hS}  : ∀  (cells slots : Nat) (h : hS) (th : Nat) (x1 : Int32) (a2 : Option Nat) (y0 : Option Nat) (H : Heap) (locs : List Loc) (ls : Array Slot), wd D cy z s cells h H locs → h_s h = s0 + slots → lv_has ls 3 [(0, .ref th), (1, .int x1), (2, va_rf a2)] → f_State_act_39 N   h th x1 a2 y0 = some (r, g) → W p l e { frames := 4, cells := h_x g - n0, slots := h_s g - s0, locals := 107 } s m args below meth c H locs cells slots (MQ below (eQ D cy z (rV r) g) args s (h_x g - n0) (h_s g - s0) (fun q => z ≤ q)) (F0 m 39 ls [va_rf y0]) := by
  obtain ⟨hx, hb, hr, hml, hown, hts, hlk⟩ := id C
  intro cells slots h th x1 a2 y0 H locs ls w hsl hl hE
  have hcc : cells ≤ h_x g - n0 ∧ slots ≤ h_s g - s0 := by
    have q1 := mo_State_act_39 N  h th x1 a2 y0 _ _ hE
    have q2 := wd_x w
    have q3 := q1.1
    have q4 := q1.2.1
    omega
  unfold f_State_act_39 at hE
  refine lv_aload_n hx hb dX6_act_39 rfl (lv_at hl 0 rfl) ?_
  refine w_gR (r := some th) (ci := 7) (k := 0) C w rfl (by decide) (GF_wsX60 _) (by decide) rfl (List.mem_cons_of_mem _ gw_6_6) rfl dX6_act_40 hE (fun v1 e1 => ?_)
  refine lv_iload_n hx hb dX6_act_43 rfl (lv_at hl 1 rfl) ?_
  refine w_aRq (kd := 62) (t0 := 6) (r := v1) C w rfl (by decide) dX6_act_44 e1 (fun v2 e2 => ?_)
  refine w_VAV GW_good (n := 1) (F := 1) (Lc := 44) (o := y0) (av := [va_rf v2]) (rest := []) C w rfl (by decide) (fun a r g hf => k_Chain_take l D cy z N h a v2 r g hf) gw_23_23 gw_24_0 gw_24_1 gw_3_6 gw_24_2 (by decide +kernel) ⟨Nat.le_of_ble_eq_true rfl, Nat.le_of_ble_eq_true rfl⟩ rfl hl.1 rfl (Nat.le_of_ble_eq_true rfl) dX6_act_45 (fun a => (mo_Chain_take N h a v2)) (fun a v3 h4 q1 q2 => by have u1 := (mo_Chain_take N h a v2) _ _ q1; have u2 := mo_State_act_48 N   h4 th x1 a2 _ _ q2; have u3 := wd_x w; have u4 := u1.1; have u5 := u1.2.1; have u6 := u2.1; have u7 := u2.2.1; show cells + _ ≤ h_x g - n0 ∧ slots + _ ≤ h_s g - s0; omega) e2 (fun v3 h4 H locs w hsh4 e3 => ?_)
  exact b_State_act_48 C N n0 s0 hn0   _ _ h4 th x1 a2 _ _ ls w (by have u5 := hsh4.2.1; have u8 := hsl; omega) (lv_sub hl [0, 1, 2] rfl) e3
set_option maxRecDepth 20000 in
set_option maxHeartbeats 4000000 in
theorem b_State_act_21 {p : Program} {l : Launch} {e : Env} {s : State} {m : MethodId} {args : Array Value} {below : List Frame} {meth : Method} {c : Code} {D : va_G} {cy : cyT} {z : Nat} (C : MX p s m args meth c cX6_act 3 (none) RX6 (Cond.code yX6_act cX6_act 3 (none) :: GW)) (N : Nat) (n0 s0 : Nat) (hn0 : s.heap.size = n0) {r : Unit} {g : hS}  : ∀  (cells slots : Nat) (h : hS) (th : Nat) (x1 : Int32) (a2 : Option Nat) (H : Heap) (locs : List Loc) (ls : Array Slot), wd D cy z s cells h H locs → h_s h = s0 + slots → lv_has ls 3 [(0, .ref th), (1, .int x1), (2, va_rf a2)] → f_State_act_21 N   h th x1 a2 = some (r, g) → W p l e { frames := 4, cells := h_x g - n0, slots := h_s g - s0, locals := 107 } s m args below meth c H locs cells slots (MQ below (eQ D cy z (rV r) g) args s (h_x g - n0) (h_s g - s0) (fun q => z ≤ q)) (F0 m 21 ls []) := by
  obtain ⟨hx, hb, hr, hml, hown, hts, hlk⟩ := id C
  intro cells slots h th x1 a2 H locs ls w hsl hl hE
  have hcc : cells ≤ h_x g - n0 ∧ slots ≤ h_s g - s0 := by
    have q1 := mo_State_act_21 N  h th x1 a2 _ _ hE
    have q2 := wd_x w
    have q3 := q1.1
    have q4 := q1.2.1
    omega
  unfold f_State_act_21 at hE
  refine lv_aload_n hx hb dX6_act_21 rfl (lv_at hl 0 rfl) ?_
  refine w_gR (r := some th) (ci := 7) (k := 1) C w rfl (by decide) (GF_wsX60 _) (by decide) rfl (List.mem_cons_of_mem _ gw_6_7) rfl dX6_act_22 hE (fun v1 e1 => ?_)
  refine lv_aload_n hx hb dX6_act_25 rfl (lv_at hl 0 rfl) ?_
  refine w_gI (r := some th) (ci := 7) (k := 3) C w rfl (by decide) (GF_wsX60 _) (by decide) rfl (List.mem_cons_of_mem _ gw_6_9) rfl dX6_act_26 e1 (fun v2 e2 => ?_)
  refine lv_iload_n hx hb dX6_act_29 rfl (lv_at hl 1 rfl) ?_
  refine w_uI (r := v1) C w dX6_act_30 e2 (fun h3 H locs w hsh3 e3 => ?_)
  have hsl := hsh3.2.2.2.trans hsl
  refine lv_aload_n hx hb dX6_act_31 rfl (lv_at hl 0 rfl) ?_
  refine lv_aload_n hx hb dX6_act_32 rfl (lv_at hl 0 rfl) ?_
  refine w_gI (r := some th) (ci := 7) (k := 3) C w rfl (by decide) (GF_wsX60 _) (by decide) rfl (List.mem_cons_of_mem _ gw_6_9) rfl dX6_act_33 e3 (fun v4 e4 => ?_)
  refine w_VAR GW_good (n := 1) (F := 2) (Lc := 64) (o := some th) (av := [.int v4]) (rest := []) C w rfl (by decide) (fun a r g hf => k_State_actChain l D cy z N h3 a v4 r g hf) gw_23_19 gw_23_20 gw_23_21 gw_3_10 gw_23_22 (by decide +kernel) ⟨Nat.le_of_ble_eq_true rfl, Nat.le_of_ble_eq_true rfl⟩ rfl hl.1 rfl (Nat.le_of_ble_eq_true rfl) dX6_act_36 (fun a => (mo_State_actChain N h3 a v4)) (fun a v5 h6 q1 q2 => by have u1 := (mo_State_actChain N h3 a v4) _ _ q1; have u2 := mo_State_act_39 N   h6 th x1 a2 v5 _ _ q2; have u3 := wd_x w; have u4 := u1.1; have u5 := u1.2.1; have u6 := u2.1; have u7 := u2.2.1; show cells + _ ≤ h_x g - n0 ∧ slots + _ ≤ h_s g - s0; omega) e4 (fun v5 h6 H locs w hsh6 e5 => ?_)
  exact b_State_act_39 C N n0 s0 hn0   _ _ h6 th x1 a2 v5 _ _ ls w (by have u5 := hsh6.2.1; have u8 := hsl; omega) (lv_sub hl [0, 1, 2] rfl) e5
set_option maxRecDepth 20000 in
set_option maxHeartbeats 4000000 in
theorem k_State_act (l : Launch) (D : va_G) (cy : cyT) (z : Nat) (N : Nat) (h : hS) (th : Nat) (x1 : Int32) (a2 : Option Nat) (r : Unit) (g : hS) (hE : f_State_act N h th x1 a2 = some (r, g)) : ct l yX6_act (Cond.code yX6_act cX6_act 3 (none) :: GW) { frames := 4, cells := h_x g - h_x h, slots := h_s g - h_s h, locals := 107 } D cy z h [.ref th, .int x1, va_rf a2] (rV r) g := by
  refine Met.ofW (cc := cX6_act) (maxL := 3) (ret := none) (by decide) rfl ?_
  intro p e s m args below meth c s₁ B hml hv
  obtain ⟨rfl, hw⟩ := hv
  have C : MX p s m ([.ref th, .int x1, va_rf a2] : List Value).toArray meth c cX6_act 3 (none) RX6 (Cond.code yX6_act cX6_act 3 (none) :: GW) := ⟨B.exec, B.bytes, B.returns, hml, findClass_of_methodNamed B.named, atoms_spec (ws := Cond.code yX6_act cX6_act 3 (none) :: GW) B.pre, B.notSynchronized⟩
  obtain ⟨hx, hb, hr, hml, hown, hts, hlk⟩ := id C
  have w := wd_of hw
  have hsl : h_s h = h_s h + 0 := rfl
  have hn0 : s.heap.size = h_x h := (wd_x w).1
  obtain ⟨ls, hen, hl⟩ : ∃ ls : Array Slot, entryFrame m ([.ref th, .int x1, va_rf a2] : List Value).toArray 3 = F0 m 0 ls [] ∧ lv_has ls 3 [(0, .ref th), (1, .int x1), (2, va_rf a2)] := by
    cases a2 <;> exact ⟨_, lg_entry_eq _ _ _, lv_entry _ (Nat.le_of_ble_eq_true rfl)⟩
  rw [hen]
  have hcc : 0 ≤ h_x g - h_x h ∧ 0 ≤ h_s g - h_s h := ⟨Nat.zero_le _, Nat.zero_le _⟩
  unfold f_State_act at hE
  refine lv_iload_n hx hb dX6_act_0 rfl (lv_at hl 1 rfl) ?_
  refine w_SNI GW_good (n := 1) (F := 0) (Lc := 0) (av := [.int x1]) (rest := []) C w (fun r g hf => k_K_isCost l D cy z N h x1 r g hf) (List.mem_of_getElem? (i := 4) rfl) gw_9_13 gw_1_2 gw_9_14 (by decide +kernel) ⟨Nat.le_of_ble_eq_true rfl, Nat.le_of_ble_eq_true rfl⟩ rfl hl.1 rfl (Nat.le_of_ble_eq_true rfl) dX6_act_1 (sh_K_isCost N h x1) ⟨hcc.1, hcc.2⟩ hE (fun v1 h2 H locs w hsh2 e1 => ?_)
  have hsl := hsh2.2.2.2.trans hsl
  refine w_if_ne (tgt := 8) C dX6_act_4 (by decide) e1 (fun hc e2 => ?_) (fun hc e2 => ?_)
  · refine lv_aload_n hx hb dX6_act_8 rfl (lv_at hl 0 rfl) ?_
    refine w_gI (r := some th) (ci := 7) (k := 3) C w rfl (by decide) (GF_wsX60 _) (by decide) rfl (List.mem_cons_of_mem _ gw_6_9) rfl dX6_act_9 e2 (fun v3 e3 => ?_)
    refine lv_bipush (v := 40) hx hb dX6_act_12 (by decide) ?_
    refine w_icmp_lt (tgt := 21) C dX6_act_14 (by decide) e3 (fun hc e4 => ?_) (fun hc e4 => ?_)
    · exact b_State_act_21 C N (h_x h) (h_s h) hn0   _ _ h2 th x1 a2 _ _ ls w hsl (lv_sub hl [0, 1, 2] rfl) e4
    · refine lv_aload_n hx hb dX6_act_17 rfl (lv_at hl 0 rfl) ?_
      refine w_VAV GW_good (n := 0) (F := 3) (Lc := 85) (o := some th) (av := []) (rest := []) C w rfl (by decide) (fun a r g hf => k_State_dropOldestAct l D cy z N h2 a  r g hf) gw_23_15 gw_23_16 gw_23_17 gw_3_10 gw_23_18 (by decide +kernel) ⟨Nat.le_of_ble_eq_true rfl, Nat.le_of_ble_eq_true rfl⟩ rfl hl.1 rfl (Nat.le_of_ble_eq_true rfl) dX6_act_18 (fun a => (mo_State_dropOldestAct N h2 a )) (fun a v4 h5 q1 q2 => by have u1 := (mo_State_dropOldestAct N h2 a ) _ _ q1; have u2 := mo_State_act_21 N   h5 th x1 a2 _ _ q2; have u3 := wd_x w; have u4 := u1.1; have u5 := u1.2.1; have u6 := u2.1; have u7 := u2.2.1; show 0 + _ ≤ h_x g - (h_x h) ∧ 0 + _ ≤ h_s g - (h_s h); omega) e4 (fun v4 h5 H locs w hsh5 e5 => ?_)
      exact b_State_act_21 C N (h_x h) (h_s h) hn0   _ _ h5 th x1 a2 _ _ ls w (by have u5 := hsh5.2.1; have u8 := hsl; omega) (lv_sub hl [0, 1, 2] rfl) e5
  · refine W.widen (k := h_x g - (h_x h)) (n := h_s g - (h_s h)) hcc.1 hcc.2 ?_
    exact w_vret C w e2 dX6_act_7
set_option maxRecDepth 20000 in
set_option maxHeartbeats 4000000 in
theorem b_State_takeBack_33 {p : Program} {l : Launch} {e : Env} {s : State} {m : MethodId} {args : Array Value} {below : List Frame} {meth : Method} {c : Code} {D : va_G} {cy : cyT} {z : Nat} (C : MX p s m args meth c cX6_takeBack 2 ((some .int)) RX6 (Cond.code yX6_takeBack cX6_takeBack 2 ((some .int)) :: GW)) (N : Nat) (n0 s0 : Nat) (hn0 : s.heap.size = n0) {r : Int32} {g : hS}  : ∀  (cells slots : Nat) (h : hS)  (H : Heap) (locs : List Loc) (ls : Array Slot), wd D cy z s cells h H locs → h_s h = s0 + slots → lv_has ls 2 [] → f_State_takeBack_33 N   h  = some (r, g) → W p l e { frames := 3, cells := h_x g - n0, slots := h_s g - s0, locals := 85 } s m args below meth c H locs cells slots (MQ below (eQ D cy z (rI r) g) args s (h_x g - n0) (h_s g - s0) (fun q => z ≤ q)) (F0 m 33 ls []) := by
  obtain ⟨hx, hb, hr, hml, hown, hts, hlk⟩ := id C
  intro cells slots h  H locs ls w hsl hl hE
  have hcc : cells ≤ h_x g - n0 ∧ slots ≤ h_s g - s0 := by
    have q1 := mo_State_takeBack_33 N  h  _ _ hE
    have q2 := wd_x w
    have q3 := q1.1
    have q4 := q1.2.1
    omega
  unfold f_State_takeBack_33 at hE
  refine lv_iconst (v := -1) hx hb dX6_takeBack_33 (by decide) ?_
  refine W.widen (k := h_x g - n0) (n := h_s g - s0) hcc.1 hcc.2 ?_
  exact w_iret C w hE dX6_takeBack_34
set_option maxRecDepth 20000 in
set_option maxHeartbeats 4000000 in
theorem b_State_takeBack_72 {p : Program} {l : Launch} {e : Env} {s : State} {m : MethodId} {args : Array Value} {below : List Frame} {meth : Method} {c : Code} {D : va_G} {cy : cyT} {z : Nat} (C : MX p s m args meth c cX6_takeBack 2 ((some .int)) RX6 (Cond.code yX6_takeBack cX6_takeBack 2 ((some .int)) :: GW)) (N : Nat) (n0 s0 : Nat) (hn0 : s.heap.size = n0) {r : Int32} {g : hS}  : ∀  (cells slots : Nat) (h : hS) (x1 : Int32) (H : Heap) (locs : List Loc) (ls : Array Slot), wd D cy z s cells h H locs → h_s h = s0 + slots → lv_has ls 2 [(1, .int x1)] → f_State_takeBack_72 N   h x1 = some (r, g) → W p l e { frames := 3, cells := h_x g - n0, slots := h_s g - s0, locals := 85 } s m args below meth c H locs cells slots (MQ below (eQ D cy z (rI r) g) args s (h_x g - n0) (h_s g - s0) (fun q => z ≤ q)) (F0 m 72 ls []) := by
  obtain ⟨hx, hb, hr, hml, hown, hts, hlk⟩ := id C
  intro cells slots h x1 H locs ls w hsl hl hE
  have hcc : cells ≤ h_x g - n0 ∧ slots ≤ h_s g - s0 := by
    have q1 := mo_State_takeBack_72 N  h x1 _ _ hE
    have q2 := wd_x w
    have q3 := q1.1
    have q4 := q1.2.1
    omega
  unfold f_State_takeBack_72 at hE
  refine lv_iload_n hx hb dX6_takeBack_72 rfl (lv_at hl 0 rfl) ?_
  refine W.widen (k := h_x g - n0) (n := h_s g - s0) hcc.1 hcc.2 ?_
  exact w_iret C w hE dX6_takeBack_73
set_option maxRecDepth 20000 in
set_option maxHeartbeats 4000000 in
theorem b_State_takeBack_69 {p : Program} {l : Launch} {e : Env} {s : State} {m : MethodId} {args : Array Value} {below : List Frame} {meth : Method} {c : Code} {D : va_G} {cy : cyT} {z : Nat} (C : MX p s m args meth c cX6_takeBack 2 ((some .int)) RX6 (Cond.code yX6_takeBack cX6_takeBack 2 ((some .int)) :: GW)) (N : Nat) (n0 s0 : Nat) (hn0 : s.heap.size = n0) {r : Int32} {g : hS}  : ∀  (cells slots : Nat) (h : hS) (x1 : Int32) (y0 : Option Nat) (y1 : Option Nat) (H : Heap) (locs : List Loc) (ls : Array Slot), wd D cy z s cells h H locs → h_s h = s0 + slots → lv_has ls 2 [(1, .int x1)] → f_State_takeBack_69 N   h x1 y0 y1 = some (r, g) → W p l e { frames := 3, cells := h_x g - n0, slots := h_s g - s0, locals := 85 } s m args below meth c H locs cells slots (MQ below (eQ D cy z (rI r) g) args s (h_x g - n0) (h_s g - s0) (fun q => z ≤ q)) (F0 m 69 ls [va_rf y1, va_rf y0]) := by
  obtain ⟨hx, hb, hr, hml, hown, hts, hlk⟩ := id C
  intro cells slots h x1 y0 y1 H locs ls w hsl hl hE
  have hcc : cells ≤ h_x g - n0 ∧ slots ≤ h_s g - s0 := by
    have q1 := mo_State_takeBack_69 N  h x1 y0 y1 _ _ hE
    have q2 := wd_x w
    have q3 := q1.1
    have q4 := q1.2.1
    omega
  unfold f_State_takeBack_69 at hE
  refine w_VAV GW_good (n := 1) (F := 1) (Lc := 44) (o := y0) (av := [va_rf y1]) (rest := []) C w rfl (by decide) (fun a r g hf => k_Chain_take l D cy z N h a y1 r g hf) gw_23_23 gw_24_0 gw_24_1 gw_3_6 gw_24_2 (by decide +kernel) ⟨Nat.le_of_ble_eq_true rfl, Nat.le_of_ble_eq_true rfl⟩ rfl hl.1 rfl (Nat.le_of_ble_eq_true rfl) dX6_takeBack_69 (fun a => (mo_Chain_take N h a y1)) (fun a v1 h2 q1 q2 => by have u1 := (mo_Chain_take N h a y1) _ _ q1; have u2 := mo_State_takeBack_72 N   h2 x1 _ _ q2; have u3 := wd_x w; have u4 := u1.1; have u5 := u1.2.1; have u6 := u2.1; have u7 := u2.2.1; show cells + _ ≤ h_x g - n0 ∧ slots + _ ≤ h_s g - s0; omega) hE (fun v1 h2 H locs w hsh2 e1 => ?_)
  exact b_State_takeBack_72 C N n0 s0 hn0   _ _ h2 x1 _ _ ls w (by have u5 := hsh2.2.1; have u8 := hsl; omega) (lv_sub hl [0] rfl) e1
set_option maxRecDepth 20000 in
set_option maxHeartbeats 4000000 in
theorem k_State_takeBack (l : Launch) (D : va_G) (cy : cyT) (z : Nat) (N : Nat) (h : hS) (th : Nat) (r : Int32) (g : hS) (hE : f_State_takeBack N h th = some (r, g)) : ct l yX6_takeBack (Cond.code yX6_takeBack cX6_takeBack 2 ((some .int)) :: GW) { frames := 3, cells := h_x g - h_x h, slots := h_s g - h_s h, locals := 85 } D cy z h [.ref th] (rI r) g := by
  refine Met.ofW (cc := cX6_takeBack) (maxL := 2) (ret := (some .int)) (by decide) rfl ?_
  intro p e s m args below meth c s₁ B hml hv
  obtain ⟨rfl, hw⟩ := hv
  have C : MX p s m ([.ref th] : List Value).toArray meth c cX6_takeBack 2 ((some .int)) RX6 (Cond.code yX6_takeBack cX6_takeBack 2 ((some .int)) :: GW) := ⟨B.exec, B.bytes, B.returns, hml, findClass_of_methodNamed B.named, atoms_spec (ws := Cond.code yX6_takeBack cX6_takeBack 2 ((some .int)) :: GW) B.pre, B.notSynchronized⟩
  obtain ⟨hx, hb, hr, hml, hown, hts, hlk⟩ := id C
  have w := wd_of hw
  have hsl : h_s h = h_s h + 0 := rfl
  have hn0 : s.heap.size = h_x h := (wd_x w).1
  obtain ⟨ls, hen, hl⟩ : ∃ ls : Array Slot, entryFrame m ([.ref th] : List Value).toArray 2 = F0 m 0 ls [] ∧ lv_has ls 2 [(0, .ref th)] := by
    exact ⟨_, lg_entry_eq _ _ _, lv_entry _ (Nat.le_of_ble_eq_true rfl)⟩
  rw [hen]
  have hcc : 0 ≤ h_x g - h_x h ∧ 0 ≤ h_s g - h_s h := ⟨Nat.zero_le _, Nat.zero_le _⟩
  unfold f_State_takeBack at hE
  refine lv_aload_n hx hb dX6_takeBack_0 rfl (lv_at hl 0 rfl) ?_
  refine w_gI (r := some th) (ci := 7) (k := 3) C w rfl (by decide) (GF_wsX60 _) (by decide) rfl (List.mem_cons_of_mem _ gw_6_9) rfl dX6_takeBack_1 hE (fun v1 e1 => ?_)
  refine w_if_le (tgt := 33) C dX6_takeBack_4 (by decide) e1 (fun hc e2 => ?_) (fun hc e2 => ?_)
  · exact b_State_takeBack_33 C N (h_x h) (h_s h) hn0   _ _ h  _ _ ls w hsl (lv_sub hl [] rfl) e2
  · refine lv_aload_n hx hb dX6_takeBack_7 rfl (lv_at hl 0 rfl) ?_
    refine w_gI (r := some th) (ci := 7) (k := 3) C w rfl (by decide) (GF_wsX60 _) (by decide) rfl (List.mem_cons_of_mem _ gw_6_9) rfl dX6_takeBack_8 e2 (fun v2 e3 => ?_)
    refine lv_bipush (v := 40) hx hb dX6_takeBack_11 (by decide) ?_
    refine w_icmp_gt (tgt := 33) C dX6_takeBack_13 (by decide) e3 (fun hc e4 => ?_) (fun hc e4 => ?_)
    · exact b_State_takeBack_33 C N (h_x h) (h_s h) hn0   _ _ h  _ _ ls w hsl (lv_sub hl [] rfl) e4
    · refine lv_aload_n hx hb dX6_takeBack_16 rfl (lv_at hl 0 rfl) ?_
      refine w_gR (r := some th) (ci := 7) (k := 1) C w rfl (by decide) (GF_wsX60 _) (by decide) rfl (List.mem_cons_of_mem _ gw_6_7) rfl dX6_takeBack_17 e4 (fun v3 e5 => ?_)
      refine lv_aload_n hx hb dX6_takeBack_20 rfl (lv_at hl 0 rfl) ?_
      refine w_gI (r := some th) (ci := 7) (k := 3) C w rfl (by decide) (GF_wsX60 _) (by decide) rfl (List.mem_cons_of_mem _ gw_6_9) rfl dX6_takeBack_21 e5 (fun v4 e6 => ?_)
      refine lv_iconst (v := 1) hx hb dX6_takeBack_24 (by decide) ?_
      refine lv_isub hx hb dX6_takeBack_25 ?_
      refine w_aI (r := v3) C w dX6_takeBack_26 e6 (fun v5 e7 => ?_)
      refine w_SNI GW_good (n := 1) (F := 0) (Lc := 0) (av := [.int v5]) (rest := []) C w (fun r g hf => k_K_isCost l D cy z N h v5 r g hf) (List.mem_of_getElem? (i := 4) rfl) gw_9_13 gw_1_2 gw_9_14 (by decide +kernel) ⟨Nat.le_of_ble_eq_true rfl, Nat.le_of_ble_eq_true rfl⟩ rfl hl.1 rfl (Nat.le_of_ble_eq_true rfl) dX6_takeBack_27 (sh_K_isCost N h v5) ⟨hcc.1, hcc.2⟩ e7 (fun v6 h7 H locs w hsh7 e8 => ?_)
      have hsl := hsh7.2.2.2.trans hsl
      refine w_if_ne (tgt := 35) C dX6_takeBack_30 (by decide) e8 (fun hc e9 => ?_) (fun hc e9 => ?_)
      · refine lv_aload_n hx hb dX6_takeBack_35 rfl (lv_at hl 0 rfl) ?_
        refine lv_dup hx hb dX6_takeBack_36 rfl ?_
        refine w_gI (r := some th) (ci := 7) (k := 3) C w rfl (by decide) (GF_wsX60 _) (by decide) rfl (List.mem_cons_of_mem _ gw_6_9) rfl dX6_takeBack_37 e9 (fun v8 e10 => ?_)
        refine lv_iconst (v := 1) hx hb dX6_takeBack_40 (by decide) ?_
        refine lv_isub hx hb dX6_takeBack_41 ?_
        refine w_pI (r := some th) (ci := 7) (k := 3) C w rfl (by decide) (by unfold roK; omega) (GF_wsX60 _) tyX6 tyX6_ok nmX6 (by decide) rfl (List.mem_cons_of_mem _ gw_6_9) rfl rfl (tyX6_ok 3 (by decide)) dX6_takeBack_42 e10 (fun h9 H locs w hsh9 e11 => ?_)
        have hsl := hsh9.2.2.2.trans hsl
        refine lv_aload_n hx hb dX6_takeBack_45 rfl (lv_at hl 0 rfl) ?_
        refine w_gR (r := some th) (ci := 7) (k := 1) C w rfl (by decide) (GF_wsX60 _) (by decide) rfl (List.mem_cons_of_mem _ gw_6_7) rfl dX6_takeBack_46 e11 (fun v10 e12 => ?_)
        refine lv_aload_n hx hb dX6_takeBack_49 rfl (lv_at hl 0 rfl) ?_
        refine w_gI (r := some th) (ci := 7) (k := 3) C w rfl (by decide) (GF_wsX60 _) (by decide) rfl (List.mem_cons_of_mem _ gw_6_9) rfl dX6_takeBack_50 e12 (fun v11 e13 => ?_)
        refine w_aI (r := v10) C w dX6_takeBack_53 e13 (fun v12 e14 => ?_)
        refine lv_istore_n (lv' := [(1, .int v12), (0, .ref th)]) hx hb dX6_takeBack_54 rfl hl (by decide) rfl (fun ls hl => ?_)
        refine lv_aload_n hx hb dX6_takeBack_55 rfl (lv_at hl 1 rfl) ?_
        refine w_gR (r := some th) (ci := 7) (k := 0) C w rfl (by decide) (GF_wsX60 _) (by decide) rfl (List.mem_cons_of_mem _ gw_6_6) rfl dX6_takeBack_56 e14 (fun v13 e15 => ?_)
        refine lv_iload_n hx hb dX6_takeBack_59 rfl (lv_at hl 0 rfl) ?_
        refine w_aRq (kd := 62) (t0 := 6) (r := v13) C w rfl (by decide) dX6_takeBack_60 e15 (fun v14 e16 => ?_)
        refine lv_aload_n hx hb dX6_takeBack_61 rfl (lv_at hl 1 rfl) ?_
        refine lv_aload_n hx hb dX6_takeBack_62 rfl (lv_at hl 1 rfl) ?_
        refine w_gI (r := some th) (ci := 7) (k := 3) C w rfl (by decide) (GF_wsX60 _) (by decide) rfl (List.mem_cons_of_mem _ gw_6_9) rfl dX6_takeBack_63 e16 (fun v15 e17 => ?_)
        refine w_VAR GW_good (n := 1) (F := 2) (Lc := 64) (o := some th) (av := [.int v15]) (rest := [va_rf v14]) C w rfl (by decide) (fun a r g hf => k_State_actChain l D cy z N h9 a v15 r g hf) gw_23_19 gw_23_20 gw_23_21 gw_3_10 gw_23_22 (by decide +kernel) ⟨Nat.le_of_ble_eq_true rfl, Nat.le_of_ble_eq_true rfl⟩ rfl hl.1 rfl (cat_le (Nat.le_of_ble_eq_true rfl)) dX6_takeBack_66 (fun a => (mo_State_actChain N h9 a v15)) (fun a v16 h17 q1 q2 => by have u1 := (mo_State_actChain N h9 a v15) _ _ q1; have u2 := mo_State_takeBack_69 N   h17 v12 v14 v16 _ _ q2; have u3 := wd_x w; have u4 := u1.1; have u5 := u1.2.1; have u6 := u2.1; have u7 := u2.2.1; show 0 + _ ≤ h_x g - (h_x h) ∧ 0 + _ ≤ h_s g - (h_s h); omega) e17 (fun v16 h17 H locs w hsh17 e18 => ?_)
        exact b_State_takeBack_69 C N (h_x h) (h_s h) hn0   _ _ h17 v12 v14 v16 _ _ ls w (by have u5 := hsh17.2.1; have u8 := hsl; omega) (lv_sub hl [0] rfl) e18
      · exact b_State_takeBack_33 C N (h_x h) (h_s h) hn0   _ _ h7  _ _ ls w hsl (lv_sub hl [] rfl) e9
set_option maxRecDepth 20000 in
set_option maxHeartbeats 4000000 in
theorem b_State_holdsNotes_44 {p : Program} {l : Launch} {e : Env} {s : State} {m : MethodId} {args : Array Value} {below : List Frame} {meth : Method} {c : Code} {D : va_G} {cy : cyT} {z : Nat} (C : MX p s m args meth c cX6_holdsNotes 3 ((some .boolean)) RX6 (Cond.code yX6_holdsNotes cX6_holdsNotes 3 ((some .boolean)) :: GW)) (N : Nat) {r : Int32} {g : hS}  : ∀  (h : hS)  (H : Heap) (locs : List Loc) (ls : Array Slot), wd D cy z s 0 h H locs → lv_has ls 3 [] → f_State_holdsNotes_44 N   h  = some (r, g) → W p l e { frames := 2, cells := 0, slots := 0, locals := 73 } s m args below meth c H locs 0 0 (MQ below (eQ D cy z (rI r) g) args s 0 0 (fun q => z ≤ q)) (F0 m 44 ls []) := by
  obtain ⟨hx, hb, hr, hml, hown, hts, hlk⟩ := id C
  intro  h  H locs ls w  hl hE
  unfold f_State_holdsNotes_44 at hE
  refine lv_iconst (v := 1) hx hb dX6_holdsNotes_44 (by decide) ?_
  exact w_zret C w hE dX6_holdsNotes_45
set_option maxRecDepth 20000 in
set_option maxHeartbeats 4000000 in
theorem b_State_holdsNotes_2 {p : Program} {l : Launch} {e : Env} {s : State} {m : MethodId} {args : Array Value} {below : List Frame} {meth : Method} {c : Code} {D : va_G} {cy : cyT} {z : Nat} (C : MX p s m args meth c cX6_holdsNotes 3 ((some .boolean)) RX6 (Cond.code yX6_holdsNotes cX6_holdsNotes 3 ((some .boolean)) :: GW)) (N : Nat) {r : Int32} {g : hS}  : ∀ (n : Nat) (h : hS) (th : Nat) (a1 : Option Nat) (x2 : Int32) (H : Heap) (locs : List Loc) (ls : Array Slot), wd D cy z s 0 h H locs → lv_has ls 3 [(0, .ref th), (1, va_rf a1), (2, .int x2)] → f_State_holdsNotes_2 N  n h th a1 x2 = some (r, g) → W p l e { frames := 2, cells := 0, slots := 0, locals := 73 } s m args below meth c H locs 0 0 (MQ below (eQ D cy z (rI r) g) args s 0 0 (fun q => z ≤ q)) (F0 m 2 ls []) := by
  obtain ⟨hx, hb, hr, hml, hown, hts, hlk⟩ := id C
  intro n
  induction n with
  | zero =>
    intro  h th a1 x2 H locs ls w  hl hE
    cases hE
  | succ n ih =>
    intro  h th a1 x2 H locs ls w  hl hE
    unfold f_State_holdsNotes_2 at hE
    refine lv_iload_n hx hb dX6_holdsNotes_2 rfl (lv_at hl 2 rfl) ?_
    refine lv_aload_n hx hb dX6_holdsNotes_3 rfl (lv_at hl 0 rfl) ?_
    refine w_gI (r := some th) (ci := 7) (k := 6) C w rfl (by decide) (GF_wsX60 _) (by decide) rfl (List.mem_cons_of_mem _ gw_6_12) rfl dX6_holdsNotes_4 hE (fun v1 e1 => ?_)
    refine w_icmp_ge (tgt := 44) C dX6_holdsNotes_7 (by decide) e1 (fun hc e2 => ?_) (fun hc e2 => ?_)
    · exact b_State_holdsNotes_44 C N     h  _ _ ls w  (lv_sub hl [] rfl) e2
    · refine lv_iload_n hx hb dX6_holdsNotes_10 rfl (lv_at hl 2 rfl) ?_
      refine lv_bipush (v := 8) hx hb dX6_holdsNotes_11 (by decide) ?_
      refine w_icmp_ge (tgt := 44) C dX6_holdsNotes_13 (by decide) e2 (fun hc e3 => ?_) (fun hc e3 => ?_)
      · exact b_State_holdsNotes_44 C N     h  _ _ ls w  (lv_sub hl [] rfl) e3
      · refine w_aload_n C dX6_holdsNotes_16 rfl (lv_at hl 1 rfl) ?_
        refine lv_aload_n hx hb dX6_holdsNotes_17 rfl (lv_at hl 0 rfl) ?_
        refine w_gR (r := some th) (ci := 7) (k := 4) C w rfl (by decide) (GF_wsX60 _) (by decide) rfl (List.mem_cons_of_mem _ gw_6_10) rfl dX6_holdsNotes_18 e3 (fun v2 e4 => ?_)
        refine lv_iload_n hx hb dX6_holdsNotes_21 rfl (lv_at hl 2 rfl) ?_
        refine w_aI (r := v2) C w dX6_holdsNotes_22 e4 (fun v3 e5 => ?_)
        refine w_VJ GW_good (n := 1) (F := 1) (Lc := 44) (o := a1) (av := [.int v3]) (rest := []) C w rfl (by decide) (fun a r g hf => k_Curve_valueAt l D cy z N h a v3 r g hf) gw_61_11 gw_22_1 gw_22_2 gw_2_22 gw_22_3 (by decide +kernel) ⟨Nat.le_of_ble_eq_true rfl, Nat.le_of_ble_eq_true rfl⟩ rfl hl.1 rfl (Nat.le_of_ble_eq_true rfl) dX6_holdsNotes_23 (fun a => (sh_Curve_valueAt N h a v3)) ⟨by decide, by decide⟩ e5 (fun v4 h5 H locs w hsh5 e6 => ?_)
        refine lv_aload_n hx hb dX6_holdsNotes_26 rfl (lv_at hl 0 rfl) ?_
        refine w_gR (r := some th) (ci := 7) (k := 5) C w rfl (by decide) (GF_wsX60 _) (by decide) rfl (List.mem_cons_of_mem _ gw_6_11) rfl dX6_holdsNotes_27 e6 (fun v6 e7 => ?_)
        refine lv_iload_n hx hb dX6_holdsNotes_30 rfl (lv_at hl 2 rfl) ?_
        refine w_aJ (r := v6) C w dX6_holdsNotes_31 e7 (fun v7 e8 => ?_)
        refine W.lcmp hx hb dX6_holdsNotes_32 ?_
        refine w_if_eq (tgt := 38) C dX6_holdsNotes_33 (by decide) e8 (fun hc e9 => ?_) (fun hc e9 => ?_)
        · obtain ⟨v8, ev8, e10⟩ := bn_some e9
          refine lv_iinc (v := v8) (lv' := [(2, .int v8), (0, .ref th), (1, va_rf a1)]) hx hb dX6_holdsNotes_38 hl (k := 2) rfl (by rw [ev8]; rfl) (by decide) (by cases a1 <;> rfl) (fun ls hl => ?_)
          refine lv_goto (tgt := 2) hx hb dX6_holdsNotes_41 (by decide) ?_
          exact ih  h5 th a1 v8 _ _ ls w  (lv_sub hl [1, 2, 0] rfl) e10
        · refine lv_iconst (v := 0) hx hb dX6_holdsNotes_36 (by decide) ?_
          exact w_zret C w e9 dX6_holdsNotes_37
set_option maxRecDepth 20000 in
set_option maxHeartbeats 4000000 in
theorem k_State_holdsNotes (l : Launch) (D : va_G) (cy : cyT) (z : Nat) (N : Nat) (h : hS) (th : Nat) (a1 : Option Nat) (r : Int32) (g : hS) (hE : f_State_holdsNotes N h th a1 = some (r, g)) : ct l yX6_holdsNotes (Cond.code yX6_holdsNotes cX6_holdsNotes 3 ((some .boolean)) :: GW) { frames := 2, cells := 0, slots := 0, locals := 73 } D cy z h [.ref th, va_rf a1] (rI r) g := by
  refine Met.ofW (cc := cX6_holdsNotes) (maxL := 3) (ret := (some .boolean)) (by decide) rfl ?_
  intro p e s m args below meth c s₁ B hml hv
  obtain ⟨rfl, hw⟩ := hv
  have C : MX p s m ([.ref th, va_rf a1] : List Value).toArray meth c cX6_holdsNotes 3 ((some .boolean)) RX6 (Cond.code yX6_holdsNotes cX6_holdsNotes 3 ((some .boolean)) :: GW) := ⟨B.exec, B.bytes, B.returns, hml, findClass_of_methodNamed B.named, atoms_spec (ws := Cond.code yX6_holdsNotes cX6_holdsNotes 3 ((some .boolean)) :: GW) B.pre, B.notSynchronized⟩
  obtain ⟨hx, hb, hr, hml, hown, hts, hlk⟩ := id C
  have w := wd_of hw
  obtain ⟨ls, hen, hl⟩ : ∃ ls : Array Slot, entryFrame m ([.ref th, va_rf a1] : List Value).toArray 3 = F0 m 0 ls [] ∧ lv_has ls 3 [(0, .ref th), (1, va_rf a1)] := by
    cases a1 <;> exact ⟨_, lg_entry_eq _ _ _, lv_entry _ (Nat.le_of_ble_eq_true rfl)⟩
  rw [hen]
  unfold f_State_holdsNotes at hE
  refine lv_iconst (v := 0) hx hb dX6_holdsNotes_0 (by decide) ?_
  refine lv_istore_n (lv' := [(2, .int (0 : Int32)), (0, .ref th), (1, va_rf a1)]) hx hb dX6_holdsNotes_1 rfl hl (by decide) (by cases a1 <;> rfl) (fun ls hl => ?_)
  exact b_State_holdsNotes_2 C N   N  h th a1 (0 : Int32) _ _ ls w  (lv_sub hl [1, 2, 0] rfl) hE
set_option maxRecDepth 20000 in
set_option maxHeartbeats 4000000 in
theorem b_State_take_131 {p : Program} {l : Launch} {e : Env} {s : State} {m : MethodId} {args : Array Value} {below : List Frame} {meth : Method} {c : Code} {D : va_G} {cy : cyT} {z : Nat} (C : MX p s m args meth c cX6_take 3 (none) RX6 (Cond.code yX6_take cX6_take 3 (none) :: GW)) (N : Nat) (n0 s0 : Nat) (hn0 : s.heap.size = n0) {r : Unit} {g : hS}  : ∀ (n : Nat) (cells slots : Nat) (h : hS) (th : Nat) (a1 : Option Nat) (x2 : Int32) (H : Heap) (locs : List Loc) (ls : Array Slot), wd D cy z s cells h H locs → h_s h = s0 + slots → lv_has ls 3 [(0, .ref th), (1, va_rf a1), (2, .int x2)] → f_State_take_131 N  n h th a1 x2 = some (r, g) → W p l e { frames := 3, cells := h_x g - n0, slots := h_s g - s0, locals := 85 } s m args below meth c H locs cells slots (MQ below (eQ D cy z (rV r) g) args s (h_x g - n0) (h_s g - s0) (fun q => z ≤ q)) (F0 m 131 ls []) := by
  obtain ⟨hx, hb, hr, hml, hown, hts, hlk⟩ := id C
  intro n
  induction n with
  | zero =>
    intro cells slots h th a1 x2 H locs ls w hsl hl hE
    cases hE
  | succ n ih =>
    intro cells slots h th a1 x2 H locs ls w hsl hl hE
    have hcc : cells ≤ h_x g - n0 ∧ slots ≤ h_s g - s0 := by
      have q1 := mo_State_take_131 N  (n + 1) h th a1 x2 _ _ hE
      have q2 := wd_x w
      have q3 := q1.1
      have q4 := q1.2.1
      omega
    unfold f_State_take_131 at hE
    refine lv_iload_n hx hb dX6_take_131 rfl (lv_at hl 2 rfl) ?_
    refine lv_aload_n hx hb dX6_take_132 rfl (lv_at hl 0 rfl) ?_
    refine w_gR (r := some th) (ci := 7) (k := 7) C w rfl (by decide) (GF_wsX60 _) (by decide) rfl (List.mem_cons_of_mem _ gw_6_13) rfl dX6_take_133 hE (fun v1 e1 => ?_)
    refine w_lenI (r := v1) C w dX6_take_136 e1 (fun v2 e2 => ?_)
    refine w_icmp_ge (tgt := 158) C dX6_take_137 (by decide) e2 (fun hc e3 => ?_) (fun hc e3 => ?_)
    · refine W.widen (k := h_x g - n0) (n := h_s g - s0) hcc.1 hcc.2 ?_
      exact w_vret C w e3 dX6_take_158
    · refine lv_aload_n hx hb dX6_take_140 rfl (lv_at hl 0 rfl) ?_
      refine w_gR (r := some th) (ci := 7) (k := 7) C w rfl (by decide) (GF_wsX60 _) (by decide) rfl (List.mem_cons_of_mem _ gw_6_13) rfl dX6_take_141 e3 (fun v3 e4 => ?_)
      refine lv_iload_n hx hb dX6_take_144 rfl (lv_at hl 2 rfl) ?_
      refine w_aload_n C dX6_take_145 rfl (lv_at hl 1 rfl) ?_
      refine w_gR (r := a1) (ci := 7) (k := 7) C w rfl (by decide) (GF_wsX60 _) (by decide) rfl (List.mem_cons_of_mem _ gw_6_13) rfl dX6_take_146 e4 (fun v4 e5 => ?_)
      refine lv_iload_n hx hb dX6_take_149 rfl (lv_at hl 2 rfl) ?_
      refine w_aI (r := v4) C w dX6_take_150 e5 (fun v5 e6 => ?_)
      refine w_uI (r := v3) C w dX6_take_151 e6 (fun h6 H locs w hsh6 e7 => ?_)
      have hsl := hsh6.2.2.2.trans hsl
      obtain ⟨v7, ev7, e8⟩ := bn_some e7
      refine lv_iinc (v := v7) (lv' := [(2, .int v7), (0, .ref th), (1, va_rf a1)]) hx hb dX6_take_152 hl (k := 2) rfl (by rw [ev7]; rfl) (by decide) (by cases a1 <;> rfl) (fun ls hl => ?_)
      refine lv_goto (tgt := 131) hx hb dX6_take_155 (by decide) ?_
      exact ih _ _ h6 th a1 v7 _ _ ls w hsl (lv_sub hl [1, 2, 0] rfl) e8
set_option maxRecDepth 20000 in
set_option maxHeartbeats 4000000 in
theorem b_State_take_85 {p : Program} {l : Launch} {e : Env} {s : State} {m : MethodId} {args : Array Value} {below : List Frame} {meth : Method} {c : Code} {D : va_G} {cy : cyT} {z : Nat} (C : MX p s m args meth c cX6_take 3 (none) RX6 (Cond.code yX6_take cX6_take 3 (none) :: GW)) (N : Nat) (n0 s0 : Nat) (hn0 : s.heap.size = n0) {r : Unit} {g : hS}  : ∀ (n : Nat) (cells slots : Nat) (h : hS) (th : Nat) (a1 : Option Nat) (x2 : Int32) (H : Heap) (locs : List Loc) (ls : Array Slot), wd D cy z s cells h H locs → h_s h = s0 + slots → lv_has ls 3 [(0, .ref th), (1, va_rf a1), (2, .int x2)] → f_State_take_85 N  n h th a1 x2 = some (r, g) → W p l e { frames := 3, cells := h_x g - n0, slots := h_s g - s0, locals := 85 } s m args below meth c H locs cells slots (MQ below (eQ D cy z (rV r) g) args s (h_x g - n0) (h_s g - s0) (fun q => z ≤ q)) (F0 m 85 ls []) := by
  obtain ⟨hx, hb, hr, hml, hown, hts, hlk⟩ := id C
  intro n
  induction n with
  | zero =>
    intro cells slots h th a1 x2 H locs ls w hsl hl hE
    cases hE
  | succ n ih =>
    intro cells slots h th a1 x2 H locs ls w hsl hl hE
    have hcc : cells ≤ h_x g - n0 ∧ slots ≤ h_s g - s0 := by
      have q1 := mo_State_take_85 N  (n + 1) h th a1 x2 _ _ hE
      have q2 := wd_x w
      have q3 := q1.1
      have q4 := q1.2.1
      omega
    unfold f_State_take_85 at hE
    refine lv_iload_n hx hb dX6_take_85 rfl (lv_at hl 2 rfl) ?_
    refine lv_bipush (v := 8) hx hb dX6_take_86 (by decide) ?_
    refine w_icmp_ge (tgt := 121) C dX6_take_88 (by decide) hE (fun hc e1 => ?_) (fun hc e1 => ?_)
    · refine lv_aload_n hx hb dX6_take_121 rfl (lv_at hl 0 rfl) ?_
      refine w_aload_n C dX6_take_122 rfl (lv_at hl 1 rfl) ?_
      refine w_gI (r := a1) (ci := 7) (k := 6) C w rfl (by decide) (GF_wsX60 _) (by decide) rfl (List.mem_cons_of_mem _ gw_6_12) rfl dX6_take_123 e1 (fun v1 e2 => ?_)
      refine w_pI (r := some th) (ci := 7) (k := 6) C w rfl (by decide) (by unfold roK; omega) (GF_wsX60 _) tyX6 tyX6_ok nmX6 (by decide) rfl (List.mem_cons_of_mem _ gw_6_12) rfl rfl (tyX6_ok 6 (by decide)) dX6_take_126 e2 (fun h2 H locs w hsh2 e3 => ?_)
      have hsl := hsh2.2.2.2.trans hsl
      refine lv_iconst (v := 0) hx hb dX6_take_129 (by decide) ?_
      refine lv_istore_n (lv' := [(2, .int (0 : Int32)), (0, .ref th), (1, va_rf a1)]) hx hb dX6_take_130 rfl hl (by decide) (by cases a1 <;> rfl) (fun ls hl => ?_)
      exact b_State_take_131 C N n0 s0 hn0  N _ _ h2 th a1 (0 : Int32) _ _ ls w hsl (lv_sub hl [1, 2, 0] rfl) e3
    · refine lv_aload_n hx hb dX6_take_91 rfl (lv_at hl 0 rfl) ?_
      refine w_gR (r := some th) (ci := 7) (k := 4) C w rfl (by decide) (GF_wsX60 _) (by decide) rfl (List.mem_cons_of_mem _ gw_6_10) rfl dX6_take_92 e1 (fun v3 e4 => ?_)
      refine lv_iload_n hx hb dX6_take_95 rfl (lv_at hl 2 rfl) ?_
      refine w_aload_n C dX6_take_96 rfl (lv_at hl 1 rfl) ?_
      refine w_gR (r := a1) (ci := 7) (k := 4) C w rfl (by decide) (GF_wsX60 _) (by decide) rfl (List.mem_cons_of_mem _ gw_6_10) rfl dX6_take_97 e4 (fun v4 e5 => ?_)
      refine lv_iload_n hx hb dX6_take_100 rfl (lv_at hl 2 rfl) ?_
      refine w_aI (r := v4) C w dX6_take_101 e5 (fun v5 e6 => ?_)
      refine w_uI (r := v3) C w dX6_take_102 e6 (fun h6 H locs w hsh6 e7 => ?_)
      have hsl := hsh6.2.2.2.trans hsl
      refine lv_aload_n hx hb dX6_take_103 rfl (lv_at hl 0 rfl) ?_
      refine w_gR (r := some th) (ci := 7) (k := 5) C w rfl (by decide) (GF_wsX60 _) (by decide) rfl (List.mem_cons_of_mem _ gw_6_11) rfl dX6_take_104 e7 (fun v7 e8 => ?_)
      refine lv_iload_n hx hb dX6_take_107 rfl (lv_at hl 2 rfl) ?_
      refine w_aload_n C dX6_take_108 rfl (lv_at hl 1 rfl) ?_
      refine w_gR (r := a1) (ci := 7) (k := 5) C w rfl (by decide) (GF_wsX60 _) (by decide) rfl (List.mem_cons_of_mem _ gw_6_11) rfl dX6_take_109 e8 (fun v8 e9 => ?_)
      refine lv_iload_n hx hb dX6_take_112 rfl (lv_at hl 2 rfl) ?_
      refine w_aJ (r := v8) C w dX6_take_113 e9 (fun v9 e10 => ?_)
      refine w_uJ (r := v7) C w dX6_take_114 e10 (fun h10 H locs w hsh10 e11 => ?_)
      have hsl := hsh10.2.2.2.trans hsl
      obtain ⟨v11, ev11, e12⟩ := bn_some e11
      refine lv_iinc (v := v11) (lv' := [(2, .int v11), (0, .ref th), (1, va_rf a1)]) hx hb dX6_take_115 hl (k := 2) rfl (by rw [ev11]; rfl) (by decide) (by cases a1 <;> rfl) (fun ls hl => ?_)
      refine lv_goto (tgt := 85) hx hb dX6_take_118 (by decide) ?_
      exact ih _ _ h10 th a1 v11 _ _ ls w hsl (lv_sub hl [1, 2, 0] rfl) e12
set_option maxRecDepth 20000 in
set_option maxHeartbeats 4000000 in
theorem b_State_take_75 {p : Program} {l : Launch} {e : Env} {s : State} {m : MethodId} {args : Array Value} {below : List Frame} {meth : Method} {c : Code} {D : va_G} {cy : cyT} {z : Nat} (C : MX p s m args meth c cX6_take 3 (none) RX6 (Cond.code yX6_take cX6_take 3 (none) :: GW)) (N : Nat) (n0 s0 : Nat) (hn0 : s.heap.size = n0) {r : Unit} {g : hS}  : ∀  (cells slots : Nat) (h : hS) (th : Nat) (a1 : Option Nat) (H : Heap) (locs : List Loc) (ls : Array Slot), wd D cy z s cells h H locs → h_s h = s0 + slots → lv_has ls 3 [(0, .ref th), (1, va_rf a1)] → f_State_take_75 N   h th a1 = some (r, g) → W p l e { frames := 3, cells := h_x g - n0, slots := h_s g - s0, locals := 85 } s m args below meth c H locs cells slots (MQ below (eQ D cy z (rV r) g) args s (h_x g - n0) (h_s g - s0) (fun q => z ≤ q)) (F0 m 75 ls []) := by
  obtain ⟨hx, hb, hr, hml, hown, hts, hlk⟩ := id C
  intro cells slots h th a1 H locs ls w hsl hl hE
  have hcc : cells ≤ h_x g - n0 ∧ slots ≤ h_s g - s0 := by
    have q1 := mo_State_take_75 N  h th a1 _ _ hE
    have q2 := wd_x w
    have q3 := q1.1
    have q4 := q1.2.1
    omega
  unfold f_State_take_75 at hE
  refine lv_aload_n hx hb dX6_take_75 rfl (lv_at hl 0 rfl) ?_
  refine w_aload_n C dX6_take_76 rfl (lv_at hl 1 rfl) ?_
  refine w_gI (r := a1) (ci := 7) (k := 3) C w rfl (by decide) (GF_wsX60 _) (by decide) rfl (List.mem_cons_of_mem _ gw_6_9) rfl dX6_take_77 hE (fun v1 e1 => ?_)
  refine w_pI (r := some th) (ci := 7) (k := 3) C w rfl (by decide) (by unfold roK; omega) (GF_wsX60 _) tyX6 tyX6_ok nmX6 (by decide) rfl (List.mem_cons_of_mem _ gw_6_9) rfl rfl (tyX6_ok 3 (by decide)) dX6_take_80 e1 (fun h2 H locs w hsh2 e2 => ?_)
  have hsl := hsh2.2.2.2.trans hsl
  refine lv_iconst (v := 0) hx hb dX6_take_83 (by decide) ?_
  refine lv_istore_n (lv' := [(2, .int (0 : Int32)), (0, .ref th), (1, va_rf a1)]) hx hb dX6_take_84 rfl hl (by decide) (by cases a1 <;> rfl) (fun ls hl => ?_)
  exact b_State_take_85 C N n0 s0 hn0  N _ _ h2 th a1 (0 : Int32) _ _ ls w hsl (lv_sub hl [1, 2, 0] rfl) e2
set_option maxRecDepth 20000 in
set_option maxHeartbeats 4000000 in
theorem b_State_take_69 {p : Program} {l : Launch} {e : Env} {s : State} {m : MethodId} {args : Array Value} {below : List Frame} {meth : Method} {c : Code} {D : va_G} {cy : cyT} {z : Nat} (C : MX p s m args meth c cX6_take 3 (none) RX6 (Cond.code yX6_take cX6_take 3 (none) :: GW)) (N : Nat) (n0 s0 : Nat) (hn0 : s.heap.size = n0) {r : Unit} {g : hS} {rc30 : hS → Nat → Option Nat → Int32 → Option (Unit × hS)} (hsh30 : ∀ (h : hS) (th : Nat) (a1 : Option Nat) (x2 : Int32), Mo h (rc30 h th a1 x2)) (hrc30 : ∀ (cells slots : Nat) (h : hS) (th : Nat) (a1 : Option Nat) (x2 : Int32) (H : Heap) (locs : List Loc) (ls : Array Slot), wd D cy z s cells h H locs → h_s h = s0 + slots → lv_has ls 3 [(0, .ref th), (1, va_rf a1), (2, .int x2)] → rc30 h th a1 x2 = some (r, g) → W p l e { frames := 3, cells := h_x g - n0, slots := h_s g - s0, locals := 85 } s m args below meth c H locs cells slots (MQ below (eQ D cy z (rV r) g) args s (h_x g - n0) (h_s g - s0) (fun q => z ≤ q)) (F0 m 30 ls [])) : ∀  (cells slots : Nat) (h : hS) (th : Nat) (a1 : Option Nat) (x2 : Int32) (H : Heap) (locs : List Loc) (ls : Array Slot), wd D cy z s cells h H locs → h_s h = s0 + slots → lv_has ls 3 [(0, .ref th), (1, va_rf a1), (2, .int x2)] → f_State_take_69 N rc30  h th a1 x2 = some (r, g) → W p l e { frames := 3, cells := h_x g - n0, slots := h_s g - s0, locals := 85 } s m args below meth c H locs cells slots (MQ below (eQ D cy z (rV r) g) args s (h_x g - n0) (h_s g - s0) (fun q => z ≤ q)) (F0 m 69 ls []) := by
  obtain ⟨hx, hb, hr, hml, hown, hts, hlk⟩ := id C
  intro cells slots h th a1 x2 H locs ls w hsl hl hE
  have hcc : cells ≤ h_x g - n0 ∧ slots ≤ h_s g - s0 := by
    have q1 := mo_State_take_69 N hsh30 h th a1 x2 _ _ hE
    have q2 := wd_x w
    have q3 := q1.1
    have q4 := q1.2.1
    omega
  unfold f_State_take_69 at hE
  obtain ⟨v1, ev1, e1⟩ := bn_some hE
  refine lv_iinc (v := v1) (lv' := [(2, .int v1), (0, .ref th), (1, va_rf a1)]) hx hb dX6_take_69 hl (k := 2) rfl (by rw [ev1]; rfl) (by decide) (by cases a1 <;> rfl) (fun ls hl => ?_)
  refine lv_goto (tgt := 30) hx hb dX6_take_72 (by decide) ?_
  exact hrc30 _ _ h th a1 v1 _ _ ls w hsl (lv_sub hl [1, 2, 0] rfl) e1
set_option maxRecDepth 20000 in
set_option maxHeartbeats 4000000 in
theorem b_State_take_66 {p : Program} {l : Launch} {e : Env} {s : State} {m : MethodId} {args : Array Value} {below : List Frame} {meth : Method} {c : Code} {D : va_G} {cy : cyT} {z : Nat} (C : MX p s m args meth c cX6_take 3 (none) RX6 (Cond.code yX6_take cX6_take 3 (none) :: GW)) (N : Nat) (n0 s0 : Nat) (hn0 : s.heap.size = n0) {r : Unit} {g : hS} {rc30 : hS → Nat → Option Nat → Int32 → Option (Unit × hS)} (hsh30 : ∀ (h : hS) (th : Nat) (a1 : Option Nat) (x2 : Int32), Mo h (rc30 h th a1 x2)) (hrc30 : ∀ (cells slots : Nat) (h : hS) (th : Nat) (a1 : Option Nat) (x2 : Int32) (H : Heap) (locs : List Loc) (ls : Array Slot), wd D cy z s cells h H locs → h_s h = s0 + slots → lv_has ls 3 [(0, .ref th), (1, va_rf a1), (2, .int x2)] → rc30 h th a1 x2 = some (r, g) → W p l e { frames := 3, cells := h_x g - n0, slots := h_s g - s0, locals := 85 } s m args below meth c H locs cells slots (MQ below (eQ D cy z (rV r) g) args s (h_x g - n0) (h_s g - s0) (fun q => z ≤ q)) (F0 m 30 ls [])) : ∀  (cells slots : Nat) (h : hS) (th : Nat) (a1 : Option Nat) (x2 : Int32) (y0 : Option Nat) (y1 : Option Nat) (H : Heap) (locs : List Loc) (ls : Array Slot), wd D cy z s cells h H locs → h_s h = s0 + slots → lv_has ls 3 [(0, .ref th), (1, va_rf a1), (2, .int x2)] → f_State_take_66 N rc30  h th a1 x2 y0 y1 = some (r, g) → W p l e { frames := 3, cells := h_x g - n0, slots := h_s g - s0, locals := 85 } s m args below meth c H locs cells slots (MQ below (eQ D cy z (rV r) g) args s (h_x g - n0) (h_s g - s0) (fun q => z ≤ q)) (F0 m 66 ls [va_rf y1, va_rf y0]) := by
  obtain ⟨hx, hb, hr, hml, hown, hts, hlk⟩ := id C
  intro cells slots h th a1 x2 y0 y1 H locs ls w hsl hl hE
  have hcc : cells ≤ h_x g - n0 ∧ slots ≤ h_s g - s0 := by
    have q1 := mo_State_take_66 N hsh30 h th a1 x2 y0 y1 _ _ hE
    have q2 := wd_x w
    have q3 := q1.1
    have q4 := q1.2.1
    omega
  unfold f_State_take_66 at hE
  refine w_VAV GW_good (n := 1) (F := 1) (Lc := 44) (o := y0) (av := [va_rf y1]) (rest := []) C w rfl (by decide) (fun a r g hf => k_Chain_take l D cy z N h a y1 r g hf) gw_23_23 gw_24_0 gw_24_1 gw_3_6 gw_24_2 (by decide +kernel) ⟨Nat.le_of_ble_eq_true rfl, Nat.le_of_ble_eq_true rfl⟩ rfl hl.1 rfl (Nat.le_of_ble_eq_true rfl) dX6_take_66 (fun a => (mo_Chain_take N h a y1)) (fun a v1 h2 q1 q2 => by have u1 := (mo_Chain_take N h a y1) _ _ q1; have u2 := mo_State_take_69 N hsh30  h2 th a1 x2 _ _ q2; have u3 := wd_x w; have u4 := u1.1; have u5 := u1.2.1; have u6 := u2.1; have u7 := u2.2.1; show cells + _ ≤ h_x g - n0 ∧ slots + _ ≤ h_s g - s0; omega) hE (fun v1 h2 H locs w hsh2 e1 => ?_)
  exact b_State_take_69 C N n0 s0 hn0 hsh30 hrc30  _ _ h2 th a1 x2 _ _ ls w (by have u5 := hsh2.2.1; have u8 := hsl; omega) (lv_sub hl [0, 1, 2] rfl) e1
set_option maxRecDepth 20000 in
set_option maxHeartbeats 4000000 in
theorem b_State_take_61 {p : Program} {l : Launch} {e : Env} {s : State} {m : MethodId} {args : Array Value} {below : List Frame} {meth : Method} {c : Code} {D : va_G} {cy : cyT} {z : Nat} (C : MX p s m args meth c cX6_take 3 (none) RX6 (Cond.code yX6_take cX6_take 3 (none) :: GW)) (N : Nat) (n0 s0 : Nat) (hn0 : s.heap.size = n0) {r : Unit} {g : hS} {rc30 : hS → Nat → Option Nat → Int32 → Option (Unit × hS)} (hsh30 : ∀ (h : hS) (th : Nat) (a1 : Option Nat) (x2 : Int32), Mo h (rc30 h th a1 x2)) (hrc30 : ∀ (cells slots : Nat) (h : hS) (th : Nat) (a1 : Option Nat) (x2 : Int32) (H : Heap) (locs : List Loc) (ls : Array Slot), wd D cy z s cells h H locs → h_s h = s0 + slots → lv_has ls 3 [(0, .ref th), (1, va_rf a1), (2, .int x2)] → rc30 h th a1 x2 = some (r, g) → W p l e { frames := 3, cells := h_x g - n0, slots := h_s g - s0, locals := 85 } s m args below meth c H locs cells slots (MQ below (eQ D cy z (rV r) g) args s (h_x g - n0) (h_s g - s0) (fun q => z ≤ q)) (F0 m 30 ls [])) : ∀  (cells slots : Nat) (h : hS) (th : Nat) (a1 : Option Nat) (x2 : Int32) (y0 : Option Nat) (H : Heap) (locs : List Loc) (ls : Array Slot), wd D cy z s cells h H locs → h_s h = s0 + slots → lv_has ls 3 [(0, .ref th), (1, va_rf a1), (2, .int x2)] → f_State_take_61 N rc30  h th a1 x2 y0 = some (r, g) → W p l e { frames := 3, cells := h_x g - n0, slots := h_s g - s0, locals := 85 } s m args below meth c H locs cells slots (MQ below (eQ D cy z (rV r) g) args s (h_x g - n0) (h_s g - s0) (fun q => z ≤ q)) (F0 m 61 ls [va_rf y0]) := by
  obtain ⟨hx, hb, hr, hml, hown, hts, hlk⟩ := id C
  intro cells slots h th a1 x2 y0 H locs ls w hsl hl hE
  have hcc : cells ≤ h_x g - n0 ∧ slots ≤ h_s g - s0 := by
    have q1 := mo_State_take_61 N hsh30 h th a1 x2 y0 _ _ hE
    have q2 := wd_x w
    have q3 := q1.1
    have q4 := q1.2.1
    omega
  unfold f_State_take_61 at hE
  refine w_aload_n C dX6_take_61 rfl (lv_at hl 1 rfl) ?_
  refine lv_iload_n hx hb dX6_take_62 rfl (lv_at hl 2 rfl) ?_
  refine w_VAR GW_good (n := 1) (F := 2) (Lc := 64) (o := a1) (av := [.int x2]) (rest := [va_rf y0]) C w rfl (by decide) (fun a r g hf => k_State_actChain l D cy z N h a x2 r g hf) gw_23_19 gw_23_20 gw_23_21 gw_3_10 gw_23_22 (by decide +kernel) ⟨Nat.le_of_ble_eq_true rfl, Nat.le_of_ble_eq_true rfl⟩ rfl hl.1 rfl (cat_le (Nat.le_of_ble_eq_true rfl)) dX6_take_63 (fun a => (mo_State_actChain N h a x2)) (fun a v1 h2 q1 q2 => by have u1 := (mo_State_actChain N h a x2) _ _ q1; have u2 := mo_State_take_66 N hsh30  h2 th a1 x2 y0 v1 _ _ q2; have u3 := wd_x w; have u4 := u1.1; have u5 := u1.2.1; have u6 := u2.1; have u7 := u2.2.1; show cells + _ ≤ h_x g - n0 ∧ slots + _ ≤ h_s g - s0; omega) hE (fun v1 h2 H locs w hsh2 e1 => ?_)
  exact b_State_take_66 C N n0 s0 hn0 hsh30 hrc30  _ _ h2 th a1 x2 y0 v1 _ _ ls w (by have u5 := hsh2.2.1; have u8 := hsl; omega) (lv_sub hl [0, 1, 2] rfl) e1
set_option maxRecDepth 20000 in
set_option maxHeartbeats 4000000 in
theorem b_State_take_30 {p : Program} {l : Launch} {e : Env} {s : State} {m : MethodId} {args : Array Value} {below : List Frame} {meth : Method} {c : Code} {D : va_G} {cy : cyT} {z : Nat} (C : MX p s m args meth c cX6_take 3 (none) RX6 (Cond.code yX6_take cX6_take 3 (none) :: GW)) (N : Nat) (n0 s0 : Nat) (hn0 : s.heap.size = n0) {r : Unit} {g : hS}  : ∀ (n : Nat) (cells slots : Nat) (h : hS) (th : Nat) (a1 : Option Nat) (x2 : Int32) (H : Heap) (locs : List Loc) (ls : Array Slot), wd D cy z s cells h H locs → h_s h = s0 + slots → lv_has ls 3 [(0, .ref th), (1, va_rf a1), (2, .int x2)] → f_State_take_30 N  n h th a1 x2 = some (r, g) → W p l e { frames := 3, cells := h_x g - n0, slots := h_s g - s0, locals := 85 } s m args below meth c H locs cells slots (MQ below (eQ D cy z (rV r) g) args s (h_x g - n0) (h_s g - s0) (fun q => z ≤ q)) (F0 m 30 ls []) := by
  obtain ⟨hx, hb, hr, hml, hown, hts, hlk⟩ := id C
  intro n
  induction n with
  | zero =>
    intro cells slots h th a1 x2 H locs ls w hsl hl hE
    cases hE
  | succ n ih =>
    intro cells slots h th a1 x2 H locs ls w hsl hl hE
    have hcc : cells ≤ h_x g - n0 ∧ slots ≤ h_s g - s0 := by
      have q1 := mo_State_take_30 N  (n + 1) h th a1 x2 _ _ hE
      have q2 := wd_x w
      have q3 := q1.1
      have q4 := q1.2.1
      omega
    unfold f_State_take_30 at hE
    refine lv_iload_n hx hb dX6_take_30 rfl (lv_at hl 2 rfl) ?_
    refine w_aload_n C dX6_take_31 rfl (lv_at hl 1 rfl) ?_
    refine w_gI (r := a1) (ci := 7) (k := 3) C w rfl (by decide) (GF_wsX60 _) (by decide) rfl (List.mem_cons_of_mem _ gw_6_9) rfl dX6_take_32 hE (fun v1 e1 => ?_)
    refine w_icmp_ge (tgt := 75) C dX6_take_35 (by decide) e1 (fun hc e2 => ?_) (fun hc e2 => ?_)
    · exact b_State_take_75 C N n0 s0 hn0   _ _ h th a1 _ _ ls w hsl (lv_sub hl [0, 1] rfl) e2
    · refine lv_iload_n hx hb dX6_take_38 rfl (lv_at hl 2 rfl) ?_
      refine lv_bipush (v := 40) hx hb dX6_take_39 (by decide) ?_
      refine w_icmp_ge (tgt := 75) C dX6_take_41 (by decide) e2 (fun hc e3 => ?_) (fun hc e3 => ?_)
      · exact b_State_take_75 C N n0 s0 hn0   _ _ h th a1 _ _ ls w hsl (lv_sub hl [0, 1] rfl) e3
      · refine lv_aload_n hx hb dX6_take_44 rfl (lv_at hl 0 rfl) ?_
        refine w_gR (r := some th) (ci := 7) (k := 1) C w rfl (by decide) (GF_wsX60 _) (by decide) rfl (List.mem_cons_of_mem _ gw_6_7) rfl dX6_take_45 e3 (fun v2 e4 => ?_)
        refine lv_iload_n hx hb dX6_take_48 rfl (lv_at hl 2 rfl) ?_
        refine w_aload_n C dX6_take_49 rfl (lv_at hl 1 rfl) ?_
        refine w_gR (r := a1) (ci := 7) (k := 1) C w rfl (by decide) (GF_wsX60 _) (by decide) rfl (List.mem_cons_of_mem _ gw_6_7) rfl dX6_take_50 e4 (fun v3 e5 => ?_)
        refine lv_iload_n hx hb dX6_take_53 rfl (lv_at hl 2 rfl) ?_
        refine w_aI (r := v3) C w dX6_take_54 e5 (fun v4 e6 => ?_)
        refine w_uI (r := v2) C w dX6_take_55 e6 (fun h5 H locs w hsh5 e7 => ?_)
        have hsl := hsh5.2.2.2.trans hsl
        refine lv_aload_n hx hb dX6_take_56 rfl (lv_at hl 0 rfl) ?_
        refine lv_iload_n hx hb dX6_take_57 rfl (lv_at hl 2 rfl) ?_
        refine w_VAR GW_good (n := 1) (F := 2) (Lc := 64) (o := some th) (av := [.int x2]) (rest := []) C w rfl (by decide) (fun a r g hf => k_State_actChain l D cy z N h5 a x2 r g hf) gw_23_19 gw_23_20 gw_23_21 gw_3_10 gw_23_22 (by decide +kernel) ⟨Nat.le_of_ble_eq_true rfl, Nat.le_of_ble_eq_true rfl⟩ rfl hl.1 rfl (Nat.le_of_ble_eq_true rfl) dX6_take_58 (fun a => (mo_State_actChain N h5 a x2)) (fun a v6 h7 q1 q2 => by have u1 := (mo_State_actChain N h5 a x2) _ _ q1; have u2 := mo_State_take_61 N (mo_State_take_30 N  n)  h7 th a1 x2 v6 _ _ q2; have u3 := wd_x w; have u4 := u1.1; have u5 := u1.2.1; have u6 := u2.1; have u7 := u2.2.1; show cells + _ ≤ h_x g - n0 ∧ slots + _ ≤ h_s g - s0; omega) e7 (fun v6 h7 H locs w hsh7 e8 => ?_)
        exact b_State_take_61 C N n0 s0 hn0 (mo_State_take_30 N  n) ih  _ _ h7 th a1 x2 v6 _ _ ls w (by have u5 := hsh7.2.1; have u8 := hsl; omega) (lv_sub hl [0, 1, 2] rfl) e8
set_option maxRecDepth 20000 in
set_option maxHeartbeats 4000000 in
theorem b_State_take_22 {p : Program} {l : Launch} {e : Env} {s : State} {m : MethodId} {args : Array Value} {below : List Frame} {meth : Method} {c : Code} {D : va_G} {cy : cyT} {z : Nat} (C : MX p s m args meth c cX6_take 3 (none) RX6 (Cond.code yX6_take cX6_take 3 (none) :: GW)) (N : Nat) (n0 s0 : Nat) (hn0 : s.heap.size = n0) {r : Unit} {g : hS} {rc2 : hS → Nat → Option Nat → Int32 → Option (Unit × hS)} (hsh2 : ∀ (h : hS) (th : Nat) (a1 : Option Nat) (x2 : Int32), Mo h (rc2 h th a1 x2)) (hrc2 : ∀ (cells slots : Nat) (h : hS) (th : Nat) (a1 : Option Nat) (x2 : Int32) (H : Heap) (locs : List Loc) (ls : Array Slot), wd D cy z s cells h H locs → h_s h = s0 + slots → lv_has ls 3 [(0, .ref th), (1, va_rf a1), (2, .int x2)] → rc2 h th a1 x2 = some (r, g) → W p l e { frames := 3, cells := h_x g - n0, slots := h_s g - s0, locals := 85 } s m args below meth c H locs cells slots (MQ below (eQ D cy z (rV r) g) args s (h_x g - n0) (h_s g - s0) (fun q => z ≤ q)) (F0 m 2 ls [])) : ∀  (cells slots : Nat) (h : hS) (th : Nat) (a1 : Option Nat) (x2 : Int32) (H : Heap) (locs : List Loc) (ls : Array Slot), wd D cy z s cells h H locs → h_s h = s0 + slots → lv_has ls 3 [(0, .ref th), (1, va_rf a1), (2, .int x2)] → f_State_take_22 N rc2  h th a1 x2 = some (r, g) → W p l e { frames := 3, cells := h_x g - n0, slots := h_s g - s0, locals := 85 } s m args below meth c H locs cells slots (MQ below (eQ D cy z (rV r) g) args s (h_x g - n0) (h_s g - s0) (fun q => z ≤ q)) (F0 m 22 ls []) := by
  obtain ⟨hx, hb, hr, hml, hown, hts, hlk⟩ := id C
  intro cells slots h th a1 x2 H locs ls w hsl hl hE
  have hcc : cells ≤ h_x g - n0 ∧ slots ≤ h_s g - s0 := by
    have q1 := mo_State_take_22 N hsh2 h th a1 x2 _ _ hE
    have q2 := wd_x w
    have q3 := q1.1
    have q4 := q1.2.1
    omega
  unfold f_State_take_22 at hE
  obtain ⟨v1, ev1, e1⟩ := bn_some hE
  refine lv_iinc (v := v1) (lv' := [(2, .int v1), (0, .ref th), (1, va_rf a1)]) hx hb dX6_take_22 hl (k := 2) rfl (by rw [ev1]; rfl) (by decide) (by cases a1 <;> rfl) (fun ls hl => ?_)
  refine lv_goto (tgt := 2) hx hb dX6_take_25 (by decide) ?_
  exact hrc2 _ _ h th a1 v1 _ _ ls w hsl (lv_sub hl [1, 2, 0] rfl) e1
set_option maxRecDepth 20000 in
set_option maxHeartbeats 4000000 in
theorem b_State_take_2 {p : Program} {l : Launch} {e : Env} {s : State} {m : MethodId} {args : Array Value} {below : List Frame} {meth : Method} {c : Code} {D : va_G} {cy : cyT} {z : Nat} (C : MX p s m args meth c cX6_take 3 (none) RX6 (Cond.code yX6_take cX6_take 3 (none) :: GW)) (N : Nat) (n0 s0 : Nat) (hn0 : s.heap.size = n0) {r : Unit} {g : hS}  : ∀ (n : Nat) (cells slots : Nat) (h : hS) (th : Nat) (a1 : Option Nat) (x2 : Int32) (H : Heap) (locs : List Loc) (ls : Array Slot), wd D cy z s cells h H locs → h_s h = s0 + slots → lv_has ls 3 [(0, .ref th), (1, va_rf a1), (2, .int x2)] → f_State_take_2 N  n h th a1 x2 = some (r, g) → W p l e { frames := 3, cells := h_x g - n0, slots := h_s g - s0, locals := 85 } s m args below meth c H locs cells slots (MQ below (eQ D cy z (rV r) g) args s (h_x g - n0) (h_s g - s0) (fun q => z ≤ q)) (F0 m 2 ls []) := by
  obtain ⟨hx, hb, hr, hml, hown, hts, hlk⟩ := id C
  intro n
  induction n with
  | zero =>
    intro cells slots h th a1 x2 H locs ls w hsl hl hE
    cases hE
  | succ n ih =>
    intro cells slots h th a1 x2 H locs ls w hsl hl hE
    have hcc : cells ≤ h_x g - n0 ∧ slots ≤ h_s g - s0 := by
      have q1 := mo_State_take_2 N  (n + 1) h th a1 x2 _ _ hE
      have q2 := wd_x w
      have q3 := q1.1
      have q4 := q1.2.1
      omega
    unfold f_State_take_2 at hE
    refine lv_iload_n hx hb dX6_take_2 rfl (lv_at hl 2 rfl) ?_
    refine lv_iconst (v := 4) hx hb dX6_take_3 (by decide) ?_
    refine w_icmp_ge (tgt := 28) C dX6_take_4 (by decide) hE (fun hc e1 => ?_) (fun hc e1 => ?_)
    · refine lv_iconst (v := 0) hx hb dX6_take_28 (by decide) ?_
      refine lv_istore_n (lv' := [(2, .int (0 : Int32)), (0, .ref th), (1, va_rf a1)]) hx hb dX6_take_29 rfl hl (by decide) (by cases a1 <;> rfl) (fun ls hl => ?_)
      exact b_State_take_30 C N n0 s0 hn0  N _ _ h th a1 (0 : Int32) _ _ ls w hsl (lv_sub hl [1, 2, 0] rfl) e1
    · refine lv_aload_n hx hb dX6_take_7 rfl (lv_at hl 0 rfl) ?_
      refine w_gR (r := some th) (ci := 7) (k := 0) C w rfl (by decide) (GF_wsX60 _) (by decide) rfl (List.mem_cons_of_mem _ gw_6_6) rfl dX6_take_8 e1 (fun v1 e2 => ?_)
      refine lv_iload_n hx hb dX6_take_11 rfl (lv_at hl 2 rfl) ?_
      refine w_aRq (kd := 62) (t0 := 6) (r := v1) C w rfl (by decide) dX6_take_12 e2 (fun v2 e3 => ?_)
      refine w_aload_n C dX6_take_13 rfl (lv_at hl 1 rfl) ?_
      refine w_gR (r := a1) (ci := 7) (k := 0) C w rfl (by decide) (GF_wsX60 _) (by decide) rfl (List.mem_cons_of_mem _ gw_6_6) rfl dX6_take_14 e3 (fun v3 e4 => ?_)
      refine lv_iload_n hx hb dX6_take_17 rfl (lv_at hl 2 rfl) ?_
      refine w_aRq (kd := 62) (t0 := 6) (r := v3) C w rfl (by decide) dX6_take_18 e4 (fun v4 e5 => ?_)
      refine w_VAV GW_good (n := 1) (F := 1) (Lc := 44) (o := v2) (av := [va_rf v4]) (rest := []) C w rfl (by decide) (fun a r g hf => k_Chain_take l D cy z N h a v4 r g hf) gw_23_23 gw_24_0 gw_24_1 gw_3_6 gw_24_2 (by decide +kernel) ⟨Nat.le_of_ble_eq_true rfl, Nat.le_of_ble_eq_true rfl⟩ rfl hl.1 rfl (Nat.le_of_ble_eq_true rfl) dX6_take_19 (fun a => (mo_Chain_take N h a v4)) (fun a v5 h6 q1 q2 => by have u1 := (mo_Chain_take N h a v4) _ _ q1; have u2 := mo_State_take_22 N (mo_State_take_2 N  n)  h6 th a1 x2 _ _ q2; have u3 := wd_x w; have u4 := u1.1; have u5 := u1.2.1; have u6 := u2.1; have u7 := u2.2.1; show cells + _ ≤ h_x g - n0 ∧ slots + _ ≤ h_s g - s0; omega) e5 (fun v5 h6 H locs w hsh6 e6 => ?_)
      exact b_State_take_22 C N n0 s0 hn0 (mo_State_take_2 N  n) ih  _ _ h6 th a1 x2 _ _ ls w (by have u5 := hsh6.2.1; have u8 := hsl; omega) (lv_sub hl [0, 1, 2] rfl) e6
set_option maxRecDepth 20000 in
set_option maxHeartbeats 4000000 in
theorem k_State_take (l : Launch) (D : va_G) (cy : cyT) (z : Nat) (N : Nat) (h : hS) (th : Nat) (a1 : Option Nat) (r : Unit) (g : hS) (hE : f_State_take N h th a1 = some (r, g)) : ct l yX6_take (Cond.code yX6_take cX6_take 3 (none) :: GW) { frames := 3, cells := h_x g - h_x h, slots := h_s g - h_s h, locals := 85 } D cy z h [.ref th, va_rf a1] (rV r) g := by
  refine Met.ofW (cc := cX6_take) (maxL := 3) (ret := none) (by decide) rfl ?_
  intro p e s m args below meth c s₁ B hml hv
  obtain ⟨rfl, hw⟩ := hv
  have C : MX p s m ([.ref th, va_rf a1] : List Value).toArray meth c cX6_take 3 (none) RX6 (Cond.code yX6_take cX6_take 3 (none) :: GW) := ⟨B.exec, B.bytes, B.returns, hml, findClass_of_methodNamed B.named, atoms_spec (ws := Cond.code yX6_take cX6_take 3 (none) :: GW) B.pre, B.notSynchronized⟩
  obtain ⟨hx, hb, hr, hml, hown, hts, hlk⟩ := id C
  have w := wd_of hw
  have hsl : h_s h = h_s h + 0 := rfl
  have hn0 : s.heap.size = h_x h := (wd_x w).1
  obtain ⟨ls, hen, hl⟩ : ∃ ls : Array Slot, entryFrame m ([.ref th, va_rf a1] : List Value).toArray 3 = F0 m 0 ls [] ∧ lv_has ls 3 [(0, .ref th), (1, va_rf a1)] := by
    cases a1 <;> exact ⟨_, lg_entry_eq _ _ _, lv_entry _ (Nat.le_of_ble_eq_true rfl)⟩
  rw [hen]
  have hcc : 0 ≤ h_x g - h_x h ∧ 0 ≤ h_s g - h_s h := ⟨Nat.zero_le _, Nat.zero_le _⟩
  unfold f_State_take at hE
  refine lv_iconst (v := 0) hx hb dX6_take_0 (by decide) ?_
  refine lv_istore_n (lv' := [(2, .int (0 : Int32)), (0, .ref th), (1, va_rf a1)]) hx hb dX6_take_1 rfl hl (by decide) (by cases a1 <;> rfl) (fun ls hl => ?_)
  exact b_State_take_2 C N (h_x h) (h_s h) hn0  N _ _ h th a1 (0 : Int32) _ _ ls w hsl (lv_sub hl [1, 2, 0] rfl) hE
set_option maxRecDepth 20000 in
set_option maxHeartbeats 4000000 in
theorem k_Step_init (l : Launch) (D : va_G) (cy : cyT) (z : Nat) (N : Nat) (h : hS) (th : Nat) (x1 : Int32) (x2 : Int32) (x3 : Int32) (a4 : Option Nat) (r : Unit) (g : hS) (hE : f_Step_init N h th x1 x2 x3 a4 = some (r, g)) : ct l yX7_init (Cond.code yX7_init cX7_init 5 (none) :: GW) { frames := 1, cells := 0, slots := 0, locals := 44 } D cy z h [.ref th, .int x1, .int x2, .int x3, va_rf a4] (rV r) g := by
  refine Met.ofW (cc := cX7_init) (maxL := 5) (ret := none) (by decide) rfl ?_
  intro p e s m args below meth c s₁ B hml hv
  obtain ⟨rfl, hw⟩ := hv
  have hni : meth.name = "<init>" := (name_of_methodNamed B.named B.method).1
  have C : MX p s m ([.ref th, .int x1, .int x2, .int x3, va_rf a4] : List Value).toArray meth c cX7_init 5 (none) RX7 (Cond.code yX7_init cX7_init 5 (none) :: GW) := ⟨B.exec, B.bytes, B.returns, hml, findClass_of_methodNamed B.named, atoms_spec (ws := Cond.code yX7_init cX7_init 5 (none) :: GW) B.pre, B.notSynchronized⟩
  obtain ⟨hx, hb, hr, hml, hown, hts, hlk⟩ := id C
  have w := wd_of hw
  obtain ⟨ls, hen, hl⟩ : ∃ ls : Array Slot, entryFrame m ([.ref th, .int x1, .int x2, .int x3, va_rf a4] : List Value).toArray 5 = F0 m 0 ls [] ∧ lv_has ls 5 [(0, .ref th), (1, .int x1), (2, .int x2), (3, .int x3), (4, va_rf a4)] := by
    cases a4 <;> exact ⟨_, lg_entry_eq _ _ _, lv_entry _ (Nat.le_of_ble_eq_true rfl)⟩
  rw [hen]
  unfold f_Step_init at hE
  refine lv_aload_n hx hb dX7_init_0 rfl (lv_at hl 0 rfl) ?_
  refine w_oinit (a := th) C hl.1 (List.mem_cons_of_mem _ gw_19_4) (List.mem_cons_of_mem _ gw_1_12) (List.mem_cons_of_mem _ gw_1_13) (Nat.le_of_ble_eq_true rfl) (Nat.le_of_ble_eq_true rfl) dX7_init_1 ?_
  refine lv_aload_n hx hb dX7_init_4 rfl (lv_at hl 0 rfl) ?_
  refine lv_iload_n hx hb dX7_init_5 rfl (lv_at hl 1 rfl) ?_
  refine w_pIF (r := some th) (ci := 8) (k := 0) C w rfl (by decide) (by unfold roK; omega) (GF_wsX70 _) tyX7 tyX7_ok nmX7 (by decide) rfl (List.mem_cons_of_mem _ gw_19_5) rfl rfl hni rfl (tyX7_ok 0 (by decide)) dX7_init_6 hE (fun h1 H locs w hsh1 e1 => ?_)
  refine lv_aload_n hx hb dX7_init_9 rfl (lv_at hl 0 rfl) ?_
  refine lv_iload_n hx hb dX7_init_10 rfl (lv_at hl 2 rfl) ?_
  refine w_pIF (r := some th) (ci := 8) (k := 1) C w rfl (by decide) (by unfold roK; omega) (GF_wsX70 _) tyX7 tyX7_ok nmX7 (by decide) rfl (List.mem_cons_of_mem _ gw_19_6) rfl rfl hni rfl (tyX7_ok 1 (by decide)) dX7_init_11 e1 (fun h2 H locs w hsh2 e2 => ?_)
  refine lv_aload_n hx hb dX7_init_14 rfl (lv_at hl 0 rfl) ?_
  refine lv_iload_n hx hb dX7_init_15 rfl (lv_at hl 3 rfl) ?_
  refine w_pIF (r := some th) (ci := 8) (k := 2) C w rfl (by decide) (by unfold roK; omega) (GF_wsX70 _) tyX7 tyX7_ok nmX7 (by decide) rfl (List.mem_cons_of_mem _ gw_19_7) rfl rfl hni rfl (tyX7_ok 2 (by decide)) dX7_init_16 e2 (fun h3 H locs w hsh3 e3 => ?_)
  refine lv_aload_n hx hb dX7_init_19 rfl (lv_at hl 0 rfl) ?_
  refine w_aload C dX7_init_20 (lv_at hl 4 rfl) ?_
  refine w_pRF (r := some th) (ci := 8) (k := 3) (v := a4) (Or.inl ⟨_, rfl⟩) C w rfl (by decide) (by unfold roK; omega) (GF_wsX70 _) tyX7 tyX7_ok nmX7 (by decide) rfl (List.mem_cons_of_mem _ gw_19_8) rfl rfl hni rfl (tyX7_ok 3 (by decide)) dX7_init_22 e3 (fun h4 H locs w hsh4 e4 => ?_)
  exact w_vret C w e4 dX7_init_25
set_option maxRecDepth 20000 in
set_option maxHeartbeats 4000000 in
theorem k_Teller_init (l : Launch) (D : va_G) (cy : cyT) (z : Nat) (N : Nat) (h : hS) (th : Nat) (r : Unit) (g : hS) (hE : f_Teller_init N h th = some (r, g)) : ct l yX8_init (Cond.code yX8_init cX8_init 1 (none) :: GW) { frames := 1, cells := 0, slots := 0, locals := 44 } D cy z h [.ref th] (rV r) g := by
  refine Met.ofW (cc := cX8_init) (maxL := 1) (ret := none) (by decide) rfl ?_
  intro p e s m args below meth c s₁ B hml hv
  obtain ⟨rfl, hw⟩ := hv
  have hni : meth.name = "<init>" := (name_of_methodNamed B.named B.method).1
  have C : MX p s m ([.ref th] : List Value).toArray meth c cX8_init 1 (none) RX8 (Cond.code yX8_init cX8_init 1 (none) :: GW) := ⟨B.exec, B.bytes, B.returns, hml, findClass_of_methodNamed B.named, atoms_spec (ws := Cond.code yX8_init cX8_init 1 (none) :: GW) B.pre, B.notSynchronized⟩
  obtain ⟨hx, hb, hr, hml, hown, hts, hlk⟩ := id C
  have w := wd_of hw
  obtain ⟨ls, hen, hl⟩ : ∃ ls : Array Slot, entryFrame m ([.ref th] : List Value).toArray 1 = F0 m 0 ls [] ∧ lv_has ls 1 [(0, .ref th)] := by
    exact ⟨_, lg_entry_eq _ _ _, lv_entry _ (Nat.le_of_ble_eq_true rfl)⟩
  rw [hen]
  unfold f_Teller_init at hE
  refine lv_aload_n hx hb dX8_init_0 rfl (lv_at hl 0 rfl) ?_
  refine w_oinit (a := th) C hl.1 (List.mem_cons_of_mem _ gw_5_17) (List.mem_cons_of_mem _ gw_1_12) (List.mem_cons_of_mem _ gw_1_13) (Nat.le_of_ble_eq_true rfl) (Nat.le_of_ble_eq_true rfl) dX8_init_1 ?_
  exact w_vret C w hE dX8_init_4
set_option maxRecDepth 20000 in
set_option maxHeartbeats 4000000 in
theorem k_Teller_listenFor (l : Launch) (D : va_G) (cy : cyT) (z : Nat) (N : Nat) (h : hS) (th : Nat) (x1 : Int32) (r : Unit) (g : hS) (hE : f_Teller_listenFor N h th x1 = some (r, g)) : ct l yX8_listenFor (Cond.code yX8_listenFor cX8_listenFor 2 (none) :: GW) { frames := 0, cells := 0, slots := 0, locals := 0 } D cy z h [.ref th, .int x1] (rV r) g := by
  refine Met.ofW (cc := cX8_listenFor) (maxL := 2) (ret := none) (by decide) rfl ?_
  intro p e s m args below meth c s₁ B hml hv
  obtain ⟨rfl, hw⟩ := hv
  have C : MX p s m ([.ref th, .int x1] : List Value).toArray meth c cX8_listenFor 2 (none) RX8 (Cond.code yX8_listenFor cX8_listenFor 2 (none) :: GW) := ⟨B.exec, B.bytes, B.returns, hml, findClass_of_methodNamed B.named, atoms_spec (ws := Cond.code yX8_listenFor cX8_listenFor 2 (none) :: GW) B.pre, B.notSynchronized⟩
  obtain ⟨hx, hb, hr, hml, hown, hts, hlk⟩ := id C
  have w := wd_of hw
  obtain ⟨ls, hen, hl⟩ : ∃ ls : Array Slot, entryFrame m ([.ref th, .int x1] : List Value).toArray 2 = F0 m 0 ls [] ∧ lv_has ls 2 [(0, .ref th), (1, .int x1)] := by
    exact ⟨_, lg_entry_eq _ _ _, lv_entry _ (Nat.le_of_ble_eq_true rfl)⟩
  rw [hen]
  unfold f_Teller_listenFor at hE
  refine lv_aload_n hx hb dX8_listenFor_0 rfl (lv_at hl 0 rfl) ?_
  refine lv_iload_n hx hb dX8_listenFor_1 rfl (lv_at hl 1 rfl) ?_
  refine w_pI (r := some th) (ci := 9) (k := 0) C w rfl (by decide) (by unfold roK; omega) (GF_wsX80 _) tyX8 tyX8_ok nmX8 (by decide) rfl (List.mem_cons_of_mem _ gw_54_13) rfl rfl (tyX8_ok 0 (by decide)) dX8_listenFor_2 hE (fun h1 H locs w hsh1 e1 => ?_)
  refine lv_aload_n hx hb dX8_listenFor_5 rfl (lv_at hl 0 rfl) ?_
  refine lv_iconst (v := 0) hx hb dX8_listenFor_6 (by decide) ?_
  refine w_pI (r := some th) (ci := 9) (k := 1) C w rfl (by decide) (by unfold roK; omega) (GF_wsX80 _) tyX8 tyX8_ok nmX8 (by decide) rfl (List.mem_cons_of_mem _ gw_54_14) rfl rfl (tyX8_ok 1 (by decide)) dX8_listenFor_7 e1 (fun h2 H locs w hsh2 e2 => ?_)
  refine lv_aload_n hx hb dX8_listenFor_10 rfl (lv_at hl 0 rfl) ?_
  refine lv_iconst (v := 0) hx hb dX8_listenFor_11 (by decide) ?_
  refine w_pI (r := some th) (ci := 9) (k := 2) C w rfl (by decide) (by unfold roK; omega) (GF_wsX80 _) tyX8 tyX8_ok nmX8 (by decide) rfl (List.mem_cons_of_mem _ gw_54_15) rfl rfl (tyX8_ok 2 (by decide)) dX8_listenFor_12 e2 (fun h3 H locs w hsh3 e3 => ?_)
  exact w_vret C w e3 dX8_listenFor_15
set_option maxRecDepth 20000 in
set_option maxHeartbeats 4000000 in
theorem b_Teller_put_16 {p : Program} {l : Launch} {e : Env} {s : State} {m : MethodId} {args : Array Value} {below : List Frame} {meth : Method} {c : Code} {D : va_G} {cy : cyT} {z : Nat} (C : MX p s m args meth c cX8_put 2 (none) RX8 (Cond.code yX8_put cX8_put 2 (none) :: GW)) (N : Nat) {r : Unit} {g : hS}  : ∀  (h : hS) (th : Nat) (H : Heap) (locs : List Loc) (ls : Array Slot), wd D cy z s 0 h H locs → lv_has ls 2 [(0, .ref th)] → f_Teller_put_16 N   h th = some (r, g) → W p l e { frames := 0, cells := 0, slots := 0, locals := 0 } s m args below meth c H locs 0 0 (MQ below (eQ D cy z (rV r) g) args s 0 0 (fun q => z ≤ q)) (F0 m 16 ls []) := by
  obtain ⟨hx, hb, hr, hml, hown, hts, hlk⟩ := id C
  intro  h th H locs ls w  hl hE
  unfold f_Teller_put_16 at hE
  refine lv_aload_n hx hb dX8_put_16 rfl (lv_at hl 0 rfl) ?_
  refine lv_dup hx hb dX8_put_17 rfl ?_
  refine w_gI (r := some th) (ci := 9) (k := 1) C w rfl (by decide) (GF_wsX80 _) (by decide) rfl (List.mem_cons_of_mem _ gw_54_14) rfl dX8_put_18 hE (fun v1 e1 => ?_)
  refine lv_iconst (v := 1) hx hb dX8_put_21 (by decide) ?_
  refine lv_iadd hx hb dX8_put_22 ?_
  refine w_pI (r := some th) (ci := 9) (k := 1) C w rfl (by decide) (by unfold roK; omega) (GF_wsX80 _) tyX8 tyX8_ok nmX8 (by decide) rfl (List.mem_cons_of_mem _ gw_54_14) rfl rfl (tyX8_ok 1 (by decide)) dX8_put_23 e1 (fun h2 H locs w hsh2 e2 => ?_)
  exact w_vret C w e2 dX8_put_26
set_option maxRecDepth 20000 in
set_option maxHeartbeats 4000000 in
theorem k_Teller_put (l : Launch) (D : va_G) (cy : cyT) (z : Nat) (N : Nat) (h : hS) (th : Nat) (x1 : Int32) (r : Unit) (g : hS) (hE : f_Teller_put N h th x1 = some (r, g)) : ct l yX8_put (Cond.code yX8_put cX8_put 2 (none) :: GW) { frames := 0, cells := 0, slots := 0, locals := 0 } D cy z h [.ref th, .int x1] (rV r) g := by
  refine Met.ofW (cc := cX8_put) (maxL := 2) (ret := none) (by decide) rfl ?_
  intro p e s m args below meth c s₁ B hml hv
  obtain ⟨rfl, hw⟩ := hv
  have C : MX p s m ([.ref th, .int x1] : List Value).toArray meth c cX8_put 2 (none) RX8 (Cond.code yX8_put cX8_put 2 (none) :: GW) := ⟨B.exec, B.bytes, B.returns, hml, findClass_of_methodNamed B.named, atoms_spec (ws := Cond.code yX8_put cX8_put 2 (none) :: GW) B.pre, B.notSynchronized⟩
  obtain ⟨hx, hb, hr, hml, hown, hts, hlk⟩ := id C
  have w := wd_of hw
  obtain ⟨ls, hen, hl⟩ : ∃ ls : Array Slot, entryFrame m ([.ref th, .int x1] : List Value).toArray 2 = F0 m 0 ls [] ∧ lv_has ls 2 [(0, .ref th), (1, .int x1)] := by
    exact ⟨_, lg_entry_eq _ _ _, lv_entry _ (Nat.le_of_ble_eq_true rfl)⟩
  rw [hen]
  unfold f_Teller_put at hE
  refine lv_aload_n hx hb dX8_put_0 rfl (lv_at hl 0 rfl) ?_
  refine w_gI (r := some th) (ci := 9) (k := 1) C w rfl (by decide) (GF_wsX80 _) (by decide) rfl (List.mem_cons_of_mem _ gw_54_14) rfl dX8_put_1 hE (fun v1 e1 => ?_)
  refine lv_aload_n hx hb dX8_put_4 rfl (lv_at hl 0 rfl) ?_
  refine w_gI (r := some th) (ci := 9) (k := 0) C w rfl (by decide) (GF_wsX80 _) (by decide) rfl (List.mem_cons_of_mem _ gw_54_13) rfl dX8_put_5 e1 (fun v2 e2 => ?_)
  refine w_icmp_ne (tgt := 16) C dX8_put_8 (by decide) e2 (fun hc e3 => ?_) (fun hc e3 => ?_)
  · exact b_Teller_put_16 C N     h th _ _ ls w  (lv_sub hl [0] rfl) e3
  · refine lv_aload_n hx hb dX8_put_11 rfl (lv_at hl 0 rfl) ?_
    refine lv_iload_n hx hb dX8_put_12 rfl (lv_at hl 1 rfl) ?_
    refine w_pI (r := some th) (ci := 9) (k := 2) C w rfl (by decide) (by unfold roK; omega) (GF_wsX80 _) tyX8 tyX8_ok nmX8 (by decide) rfl (List.mem_cons_of_mem _ gw_54_15) rfl rfl (tyX8_ok 2 (by decide)) dX8_put_13 e3 (fun h3 H locs w hsh3 e4 => ?_)
    exact b_Teller_put_16 C N     h3 th _ _ ls w  (lv_sub hl [0] rfl) e4
set_option maxRecDepth 20000 in
set_option maxHeartbeats 4000000 in
theorem b_Teller_putNumber_58 {p : Program} {l : Launch} {e : Env} {s : State} {m : MethodId} {args : Array Value} {below : List Frame} {meth : Method} {c : Code} {D : va_G} {cy : cyT} {z : Nat} (C : MX p s m args meth c cX8_putNumber 3 (none) RX8 (Cond.code yX8_putNumber cX8_putNumber 3 (none) :: GW)) (N : Nat) {r : Unit} {g : hS}  : ∀  (h : hS) (th : Nat) (x2 : Int32) (H : Heap) (locs : List Loc) (ls : Array Slot), wd D cy z s 0 h H locs → lv_has ls 3 [(0, .ref th), (2, .int x2)] → f_Teller_putNumber_58 N   h th x2 = some (r, g) → W p l e { frames := 1, cells := 0, slots := 0, locals := 44 } s m args below meth c H locs 0 0 (MQ below (eQ D cy z (rV r) g) args s 0 0 (fun q => z ≤ q)) (F0 m 58 ls []) := by
  obtain ⟨hx, hb, hr, hml, hown, hts, hlk⟩ := id C
  intro  h th x2 H locs ls w  hl hE
  unfold f_Teller_putNumber_58 at hE
  refine lv_aload_n hx hb dX8_putNumber_58 rfl (lv_at hl 0 rfl) ?_
  refine lv_bipush (v := 48) hx hb dX8_putNumber_59 (by decide) ?_
  refine lv_iload_n hx hb dX8_putNumber_61 rfl (lv_at hl 1 rfl) ?_
  refine lv_bipush (v := 10) hx hb dX8_putNumber_62 (by decide) ?_
  refine w_irem C dX8_putNumber_64 hE (fun e1 => ?_)
  refine lv_iadd hx hb dX8_putNumber_65 ?_
  refine w_VV GW_good (n := 1) (F := 0) (Lc := 0) (o := some th) (av := [.int ((48 : Int32) + (x2 - x2 / (10 : Int32) * (10 : Int32)))]) (rest := []) C w rfl (by decide) (fun a r g hf => k_Teller_put l D cy z N h a ((48 : Int32) + (x2 - x2 / (10 : Int32) * (10 : Int32))) r g hf) gw_55_1 gw_55_2 gw_55_3 gw_2_12 gw_55_4 (by decide +kernel) ⟨Nat.le_of_ble_eq_true rfl, Nat.le_of_ble_eq_true rfl⟩ rfl hl.1 rfl (Nat.le_of_ble_eq_true rfl) dX8_putNumber_66 (fun a => (sh_Teller_put N h a ((48 : Int32) + (x2 - x2 / (10 : Int32) * (10 : Int32))))) ⟨by decide, by decide⟩ e1 (fun v1 h2 H locs w hsh2 e2 => ?_)
  exact w_vret C w e2 dX8_putNumber_69
set_option maxRecDepth 20000 in
set_option maxHeartbeats 4000000 in
theorem b_Teller_putNumber_38 {p : Program} {l : Launch} {e : Env} {s : State} {m : MethodId} {args : Array Value} {below : List Frame} {meth : Method} {c : Code} {D : va_G} {cy : cyT} {z : Nat} (C : MX p s m args meth c cX8_putNumber 3 (none) RX8 (Cond.code yX8_putNumber cX8_putNumber 3 (none) :: GW)) (N : Nat) {r : Unit} {g : hS}  : ∀  (h : hS) (th : Nat) (x2 : Int32) (H : Heap) (locs : List Loc) (ls : Array Slot), wd D cy z s 0 h H locs → lv_has ls 3 [(0, .ref th), (2, .int x2)] → f_Teller_putNumber_38 N   h th x2 = some (r, g) → W p l e { frames := 1, cells := 0, slots := 0, locals := 44 } s m args below meth c H locs 0 0 (MQ below (eQ D cy z (rV r) g) args s 0 0 (fun q => z ≤ q)) (F0 m 38 ls []) := by
  obtain ⟨hx, hb, hr, hml, hown, hts, hlk⟩ := id C
  intro  h th x2 H locs ls w  hl hE
  unfold f_Teller_putNumber_38 at hE
  refine lv_iload_n hx hb dX8_putNumber_38 rfl (lv_at hl 1 rfl) ?_
  refine lv_bipush (v := 10) hx hb dX8_putNumber_39 (by decide) ?_
  refine w_icmp_lt (tgt := 58) C dX8_putNumber_41 (by decide) hE (fun hc e1 => ?_) (fun hc e1 => ?_)
  · exact b_Teller_putNumber_58 C N     h th x2 _ _ ls w  (lv_sub hl [0, 1] rfl) e1
  · refine lv_aload_n hx hb dX8_putNumber_44 rfl (lv_at hl 0 rfl) ?_
    refine lv_bipush (v := 48) hx hb dX8_putNumber_45 (by decide) ?_
    refine lv_iload_n hx hb dX8_putNumber_47 rfl (lv_at hl 1 rfl) ?_
    refine lv_bipush (v := 10) hx hb dX8_putNumber_48 (by decide) ?_
    refine w_idiv C dX8_putNumber_50 e1 (fun e2 => ?_)
    refine lv_bipush (v := 10) hx hb dX8_putNumber_51 (by decide) ?_
    refine w_irem C dX8_putNumber_53 e2 (fun e3 => ?_)
    refine lv_iadd hx hb dX8_putNumber_54 ?_
    refine w_VV GW_good (n := 1) (F := 0) (Lc := 0) (o := some th) (av := [.int ((48 : Int32) + ((x2 / (10 : Int32)) - (x2 / (10 : Int32)) / (10 : Int32) * (10 : Int32)))]) (rest := []) C w rfl (by decide) (fun a r g hf => k_Teller_put l D cy z N h a ((48 : Int32) + ((x2 / (10 : Int32)) - (x2 / (10 : Int32)) / (10 : Int32) * (10 : Int32))) r g hf) gw_55_1 gw_55_2 gw_55_3 gw_2_12 gw_55_4 (by decide +kernel) ⟨Nat.le_of_ble_eq_true rfl, Nat.le_of_ble_eq_true rfl⟩ rfl hl.1 rfl (Nat.le_of_ble_eq_true rfl) dX8_putNumber_55 (fun a => (sh_Teller_put N h a ((48 : Int32) + ((x2 / (10 : Int32)) - (x2 / (10 : Int32)) / (10 : Int32) * (10 : Int32))))) ⟨by decide, by decide⟩ e3 (fun v1 h2 H locs w hsh2 e4 => ?_)
    exact b_Teller_putNumber_58 C N     h2 th x2 _ _ ls w  (lv_sub hl [0, 1] rfl) e4
set_option maxRecDepth 20000 in
set_option maxHeartbeats 4000000 in
theorem b_Teller_putNumber_16 {p : Program} {l : Launch} {e : Env} {s : State} {m : MethodId} {args : Array Value} {below : List Frame} {meth : Method} {c : Code} {D : va_G} {cy : cyT} {z : Nat} (C : MX p s m args meth c cX8_putNumber 3 (none) RX8 (Cond.code yX8_putNumber cX8_putNumber 3 (none) :: GW)) (N : Nat) {r : Unit} {g : hS}  : ∀  (h : hS) (th : Nat) (x1 : Int32) (H : Heap) (locs : List Loc) (ls : Array Slot), wd D cy z s 0 h H locs → lv_has ls 3 [(0, .ref th), (1, .int x1)] → f_Teller_putNumber_16 N   h th x1 = some (r, g) → W p l e { frames := 1, cells := 0, slots := 0, locals := 44 } s m args below meth c H locs 0 0 (MQ below (eQ D cy z (rV r) g) args s 0 0 (fun q => z ≤ q)) (F0 m 16 ls []) := by
  obtain ⟨hx, hb, hr, hml, hown, hts, hlk⟩ := id C
  intro  h th x1 H locs ls w  hl hE
  unfold f_Teller_putNumber_16 at hE
  refine lv_iload_n hx hb dX8_putNumber_16 rfl (lv_at hl 1 rfl) ?_
  refine w_mabs C hl.1 (List.mem_cons_of_mem _ gw_55_9) (List.mem_cons_of_mem _ gw_41_6) (List.mem_cons_of_mem _ gw_10_7) (List.mem_cons_of_mem _ gw_41_7) (Nat.le_of_ble_eq_true rfl) (Nat.le_of_ble_eq_true rfl) (by decide) (by decide) dX8_putNumber_17 ?_
  refine w_bnI hE (fun v1 e1 => ?_)
  refine lv_istore_n (lv' := [(2, .int v1), (0, .ref th), (1, .int x1)]) hx hb dX8_putNumber_20 rfl hl (by decide) rfl (fun ls hl => ?_)
  refine lv_iload_n hx hb dX8_putNumber_21 rfl (lv_at hl 0 rfl) ?_
  refine lv_bipush (v := 100) hx hb dX8_putNumber_22 (by decide) ?_
  refine w_icmp_lt (tgt := 38) C dX8_putNumber_24 (by decide) e1 (fun hc e2 => ?_) (fun hc e2 => ?_)
  · exact b_Teller_putNumber_38 C N     h th v1 _ _ ls w  (lv_sub hl [1, 0] rfl) e2
  · refine lv_aload_n hx hb dX8_putNumber_27 rfl (lv_at hl 1 rfl) ?_
    refine lv_bipush (v := 48) hx hb dX8_putNumber_28 (by decide) ?_
    refine lv_iload_n hx hb dX8_putNumber_30 rfl (lv_at hl 0 rfl) ?_
    refine lv_bipush (v := 100) hx hb dX8_putNumber_31 (by decide) ?_
    refine w_idiv C dX8_putNumber_33 e2 (fun e3 => ?_)
    refine lv_iadd hx hb dX8_putNumber_34 ?_
    refine w_VV GW_good (n := 1) (F := 0) (Lc := 0) (o := some th) (av := [.int ((48 : Int32) + (v1 / (100 : Int32)))]) (rest := []) C w rfl (by decide) (fun a r g hf => k_Teller_put l D cy z N h a ((48 : Int32) + (v1 / (100 : Int32))) r g hf) gw_55_1 gw_55_2 gw_55_3 gw_2_12 gw_55_4 (by decide +kernel) ⟨Nat.le_of_ble_eq_true rfl, Nat.le_of_ble_eq_true rfl⟩ rfl hl.1 rfl (Nat.le_of_ble_eq_true rfl) dX8_putNumber_35 (fun a => (sh_Teller_put N h a ((48 : Int32) + (v1 / (100 : Int32))))) ⟨by decide, by decide⟩ e3 (fun v2 h3 H locs w hsh3 e4 => ?_)
    exact b_Teller_putNumber_38 C N     h3 th v1 _ _ ls w  (lv_sub hl [1, 0] rfl) e4
set_option maxRecDepth 20000 in
set_option maxHeartbeats 4000000 in
theorem k_Teller_putNumber (l : Launch) (D : va_G) (cy : cyT) (z : Nat) (N : Nat) (h : hS) (th : Nat) (x1 : Int32) (r : Unit) (g : hS) (hE : f_Teller_putNumber N h th x1 = some (r, g)) : ct l yX8_putNumber (Cond.code yX8_putNumber cX8_putNumber 3 (none) :: GW) { frames := 1, cells := 0, slots := 0, locals := 44 } D cy z h [.ref th, .int x1] (rV r) g := by
  refine Met.ofW (cc := cX8_putNumber) (maxL := 3) (ret := none) (by decide) rfl ?_
  intro p e s m args below meth c s₁ B hml hv
  obtain ⟨rfl, hw⟩ := hv
  have C : MX p s m ([.ref th, .int x1] : List Value).toArray meth c cX8_putNumber 3 (none) RX8 (Cond.code yX8_putNumber cX8_putNumber 3 (none) :: GW) := ⟨B.exec, B.bytes, B.returns, hml, findClass_of_methodNamed B.named, atoms_spec (ws := Cond.code yX8_putNumber cX8_putNumber 3 (none) :: GW) B.pre, B.notSynchronized⟩
  obtain ⟨hx, hb, hr, hml, hown, hts, hlk⟩ := id C
  have w := wd_of hw
  obtain ⟨ls, hen, hl⟩ : ∃ ls : Array Slot, entryFrame m ([.ref th, .int x1] : List Value).toArray 3 = F0 m 0 ls [] ∧ lv_has ls 3 [(0, .ref th), (1, .int x1)] := by
    exact ⟨_, lg_entry_eq _ _ _, lv_entry _ (Nat.le_of_ble_eq_true rfl)⟩
  rw [hen]
  unfold f_Teller_putNumber at hE
  refine lv_aload_n hx hb dX8_putNumber_0 rfl (lv_at hl 0 rfl) ?_
  refine lv_bipush (v := 32) hx hb dX8_putNumber_1 (by decide) ?_
  refine w_VV GW_good (n := 1) (F := 0) (Lc := 0) (o := some th) (av := [.int (32 : Int32)]) (rest := []) C w rfl (by decide) (fun a r g hf => k_Teller_put l D cy z N h a (32 : Int32) r g hf) gw_55_1 gw_55_2 gw_55_3 gw_2_12 gw_55_4 (by decide +kernel) ⟨Nat.le_of_ble_eq_true rfl, Nat.le_of_ble_eq_true rfl⟩ rfl hl.1 rfl (Nat.le_of_ble_eq_true rfl) dX8_putNumber_3 (fun a => (sh_Teller_put N h a (32 : Int32))) ⟨by decide, by decide⟩ hE (fun v1 h2 H locs w hsh2 e1 => ?_)
  refine lv_iload_n hx hb dX8_putNumber_6 rfl (lv_at hl 1 rfl) ?_
  refine w_if_ge (tgt := 16) C dX8_putNumber_7 (by decide) e1 (fun hc e2 => ?_) (fun hc e2 => ?_)
  · exact b_Teller_putNumber_16 C N     h2 th x1 _ _ ls w  (lv_sub hl [0, 1] rfl) e2
  · refine lv_aload_n hx hb dX8_putNumber_10 rfl (lv_at hl 0 rfl) ?_
    refine lv_bipush (v := 45) hx hb dX8_putNumber_11 (by decide) ?_
    refine w_VV GW_good (n := 1) (F := 0) (Lc := 0) (o := some th) (av := [.int (45 : Int32)]) (rest := []) C w rfl (by decide) (fun a r g hf => k_Teller_put l D cy z N h2 a (45 : Int32) r g hf) gw_55_1 gw_55_2 gw_55_3 gw_2_12 gw_55_4 (by decide +kernel) ⟨Nat.le_of_ble_eq_true rfl, Nat.le_of_ble_eq_true rfl⟩ rfl hl.1 rfl (Nat.le_of_ble_eq_true rfl) dX8_putNumber_13 (fun a => (sh_Teller_put N h2 a (45 : Int32))) ⟨by decide, by decide⟩ e2 (fun v3 h4 H locs w hsh4 e3 => ?_)
    exact b_Teller_putNumber_16 C N     h4 th x1 _ _ ls w  (lv_sub hl [0, 1] rfl) e3
set_option maxRecDepth 20000 in
set_option maxHeartbeats 4000000 in
theorem b_Teller_putStep_76 {p : Program} {l : Launch} {e : Env} {s : State} {m : MethodId} {args : Array Value} {below : List Frame} {meth : Method} {c : Code} {D : va_G} {cy : cyT} {z : Nat} (C : MX p s m args meth c cX8_putStep 4 (none) RX8 (Cond.code yX8_putStep cX8_putStep 4 (none) :: GW)) (N : Nat) {r : Unit} {g : hS}  : ∀  (h : hS) (th : Nat) (H : Heap) (locs : List Loc) (ls : Array Slot), wd D cy z s 0 h H locs → lv_has ls 4 [(0, .ref th)] → f_Teller_putStep_76 N   h th = some (r, g) → W p l e { frames := 4, cells := 0, slots := 0, locals := 85 } s m args below meth c H locs 0 0 (MQ below (eQ D cy z (rV r) g) args s 0 0 (fun q => z ≤ q)) (F0 m 76 ls []) := by
  obtain ⟨hx, hb, hr, hml, hown, hts, hlk⟩ := id C
  intro  h th H locs ls w  hl hE
  unfold f_Teller_putStep_76 at hE
  refine lv_aload_n hx hb dX8_putStep_76 rfl (lv_at hl 0 rfl) ?_
  refine lv_bipush (v := 59) hx hb dX8_putStep_77 (by decide) ?_
  refine w_VV GW_good (n := 1) (F := 0) (Lc := 0) (o := some th) (av := [.int (59 : Int32)]) (rest := []) C w rfl (by decide) (fun a r g hf => k_Teller_put l D cy z N h a (59 : Int32) r g hf) gw_55_1 gw_55_2 gw_55_3 gw_2_12 gw_55_4 (by decide +kernel) ⟨Nat.le_of_ble_eq_true rfl, Nat.le_of_ble_eq_true rfl⟩ rfl hl.1 rfl (Nat.le_of_ble_eq_true rfl) dX8_putStep_79 (fun a => (sh_Teller_put N h a (59 : Int32))) ⟨by decide, by decide⟩ hE (fun v1 h2 H locs w hsh2 e1 => ?_)
  exact w_vret C w e1 dX8_putStep_82
set_option maxRecDepth 20000 in
set_option maxHeartbeats 4000000 in
theorem b_Teller_putStep_57 {p : Program} {l : Launch} {e : Env} {s : State} {m : MethodId} {args : Array Value} {below : List Frame} {meth : Method} {c : Code} {D : va_G} {cy : cyT} {z : Nat} (C : MX p s m args meth c cX8_putStep 4 (none) RX8 (Cond.code yX8_putStep cX8_putStep 4 (none) :: GW)) (N : Nat) {r : Unit} {g : hS}  : ∀  (h : hS) (th : Nat) (a1 : Option Nat) (H : Heap) (locs : List Loc) (ls : Array Slot), wd D cy z s 0 h H locs → lv_has ls 4 [(0, .ref th), (1, va_rf a1)] → f_Teller_putStep_57 N   h th a1 = some (r, g) → W p l e { frames := 4, cells := 0, slots := 0, locals := 85 } s m args below meth c H locs 0 0 (MQ below (eQ D cy z (rV r) g) args s 0 0 (fun q => z ≤ q)) (F0 m 57 ls []) := by
  obtain ⟨hx, hb, hr, hml, hown, hts, hlk⟩ := id C
  intro  h th a1 H locs ls w  hl hE
  unfold f_Teller_putStep_57 at hE
  refine w_aload_n C dX8_putStep_57 rfl (lv_at hl 1 rfl) ?_
  refine w_gI (r := a1) (ci := 8) (k := 0) C w rfl (by decide) (GF_wsX70 _) (by decide) rfl (List.mem_cons_of_mem _ gw_54_20) rfl dX8_putStep_58 hE (fun v1 e1 => ?_)
  refine w_SNI GW_good (n := 1) (F := 1) (Lc := 20) (av := [.int v1]) (rest := []) C w (fun r g hf => k_K_numbersOf l D cy z N h v1 r g hf) (List.mem_of_getElem? (i := 6) rfl) gw_14_6 gw_1_2 gw_14_7 (by decide +kernel) ⟨Nat.le_of_ble_eq_true rfl, Nat.le_of_ble_eq_true rfl⟩ rfl hl.1 rfl (Nat.le_of_ble_eq_true rfl) dX8_putStep_61 (sh_K_numbersOf N h v1) ⟨by decide, by decide⟩ e1 (fun v2 h3 H locs w hsh3 e2 => ?_)
  refine lv_iconst (v := 2) hx hb dX8_putStep_64 (by decide) ?_
  refine w_icmp_ne (tgt := 76) C dX8_putStep_65 (by decide) e2 (fun hc e3 => ?_) (fun hc e3 => ?_)
  · exact b_Teller_putStep_76 C N     h3 th _ _ ls w  (lv_sub hl [0] rfl) e3
  · refine lv_aload_n hx hb dX8_putStep_68 rfl (lv_at hl 0 rfl) ?_
    refine w_aload_n C dX8_putStep_69 rfl (lv_at hl 1 rfl) ?_
    refine w_gI (r := a1) (ci := 8) (k := 2) C w rfl (by decide) (GF_wsX70 _) (by decide) rfl (List.mem_cons_of_mem _ gw_54_22) rfl dX8_putStep_70 e3 (fun v4 e4 => ?_)
    refine w_VV GW_good (n := 1) (F := 1) (Lc := 44) (o := some th) (av := [.int v4]) (rest := []) C w rfl (by decide) (fun a r g hf => k_Teller_putNumber l D cy z N h3 a v4 r g hf) gw_55_5 gw_55_6 gw_55_7 gw_2_12 gw_55_8 (by decide +kernel) ⟨Nat.le_of_ble_eq_true rfl, Nat.le_of_ble_eq_true rfl⟩ rfl hl.1 rfl (Nat.le_of_ble_eq_true rfl) dX8_putStep_73 (fun a => (sh_Teller_putNumber N h3 a v4)) ⟨by decide, by decide⟩ e4 (fun v5 h6 H locs w hsh6 e5 => ?_)
    exact b_Teller_putStep_76 C N     h6 th _ _ ls w  (lv_sub hl [0] rfl) e5
set_option maxRecDepth 20000 in
set_option maxHeartbeats 4000000 in
theorem b_Teller_putStep_15 {p : Program} {l : Launch} {e : Env} {s : State} {m : MethodId} {args : Array Value} {below : List Frame} {meth : Method} {c : Code} {D : va_G} {cy : cyT} {z : Nat} (C : MX p s m args meth c cX8_putStep 4 (none) RX8 (Cond.code yX8_putStep cX8_putStep 4 (none) :: GW)) (N : Nat) {r : Unit} {g : hS}  : ∀ (n : Nat) (h : hS) (th : Nat) (a1 : Option Nat) (a2 : Option Nat) (x3 : Int32) (H : Heap) (locs : List Loc) (ls : Array Slot), wd D cy z s 0 h H locs → lv_has ls 4 [(0, .ref th), (1, va_rf a1), (2, va_rf a2), (3, .int x3)] → f_Teller_putStep_15 N  n h th a1 a2 x3 = some (r, g) → W p l e { frames := 4, cells := 0, slots := 0, locals := 85 } s m args below meth c H locs 0 0 (MQ below (eQ D cy z (rV r) g) args s 0 0 (fun q => z ≤ q)) (F0 m 15 ls []) := by
  obtain ⟨hx, hb, hr, hml, hown, hts, hlk⟩ := id C
  intro n
  induction n with
  | zero =>
    intro  h th a1 a2 x3 H locs ls w  hl hE
    cases hE
  | succ n ih =>
    intro  h th a1 a2 x3 H locs ls w  hl hE
    unfold f_Teller_putStep_15 at hE
    refine lv_iload_n hx hb dX8_putStep_15 rfl (lv_at hl 3 rfl) ?_
    refine w_aload_n C dX8_putStep_16 rfl (lv_at hl 2 rfl) ?_
    refine w_VSI GW_good (n := 0) (F := 1) (Lc := 20) (o := a2) (av := []) (rest := [.int x3]) C w (fun a r g hf => k_Str_length_8abf5 l D cy z N h a  r g hf) gw_54_23 gw_11_22 gw_11_23 gw_12_0 gw_12_1 (by decide +kernel) ⟨Nat.le_of_ble_eq_true rfl, Nat.le_of_ble_eq_true rfl⟩ rfl hl.1 rfl (Nat.le_of_ble_eq_true rfl) dX8_putStep_17 (fun a => (sh_Str_length_8abf5 N h a )) ⟨by decide, by decide⟩ hE (fun v1 h2 H locs w hsh2 e1 => ?_)
    refine w_icmp_ge (tgt := 38) C dX8_putStep_20 (by decide) e1 (fun hc e2 => ?_) (fun hc e2 => ?_)
    · refine w_aload_n C dX8_putStep_38 rfl (lv_at hl 1 rfl) ?_
      refine w_gI (r := a1) (ci := 8) (k := 0) C w rfl (by decide) (GF_wsX70 _) (by decide) rfl (List.mem_cons_of_mem _ gw_54_20) rfl dX8_putStep_39 e2 (fun v3 e3 => ?_)
      refine w_SNI GW_good (n := 1) (F := 1) (Lc := 20) (av := [.int v3]) (rest := []) C w (fun r g hf => k_K_numbersOf l D cy z N h2 v3 r g hf) (List.mem_of_getElem? (i := 6) rfl) gw_14_6 gw_1_2 gw_14_7 (by decide +kernel) ⟨Nat.le_of_ble_eq_true rfl, Nat.le_of_ble_eq_true rfl⟩ rfl hl.1 rfl (Nat.le_of_ble_eq_true rfl) dX8_putStep_42 (sh_K_numbersOf N h2 v3) ⟨by decide, by decide⟩ e3 (fun v4 h5 H locs w hsh5 e4 => ?_)
      refine lv_iconst (v := 1) hx hb dX8_putStep_45 (by decide) ?_
      refine w_icmp_lt (tgt := 57) C dX8_putStep_46 (by decide) e4 (fun hc e5 => ?_) (fun hc e5 => ?_)
      · exact b_Teller_putStep_57 C N     h5 th a1 _ _ ls w  (lv_sub hl [0, 1] rfl) e5
      · refine lv_aload_n hx hb dX8_putStep_49 rfl (lv_at hl 0 rfl) ?_
        refine w_aload_n C dX8_putStep_50 rfl (lv_at hl 1 rfl) ?_
        refine w_gI (r := a1) (ci := 8) (k := 1) C w rfl (by decide) (GF_wsX70 _) (by decide) rfl (List.mem_cons_of_mem _ gw_54_21) rfl dX8_putStep_51 e5 (fun v6 e6 => ?_)
        refine w_VV GW_good (n := 1) (F := 1) (Lc := 44) (o := some th) (av := [.int v6]) (rest := []) C w rfl (by decide) (fun a r g hf => k_Teller_putNumber l D cy z N h5 a v6 r g hf) gw_55_5 gw_55_6 gw_55_7 gw_2_12 gw_55_8 (by decide +kernel) ⟨Nat.le_of_ble_eq_true rfl, Nat.le_of_ble_eq_true rfl⟩ rfl hl.1 rfl (Nat.le_of_ble_eq_true rfl) dX8_putStep_54 (fun a => (sh_Teller_putNumber N h5 a v6)) ⟨by decide, by decide⟩ e6 (fun v7 h8 H locs w hsh8 e7 => ?_)
        exact b_Teller_putStep_57 C N     h8 th a1 _ _ ls w  (lv_sub hl [0, 1] rfl) e7
    · refine lv_aload_n hx hb dX8_putStep_23 rfl (lv_at hl 0 rfl) ?_
      refine w_aload_n C dX8_putStep_24 rfl (lv_at hl 2 rfl) ?_
      refine lv_iload_n hx hb dX8_putStep_25 rfl (lv_at hl 3 rfl) ?_
      refine w_VSI GW_good (n := 1) (F := 3) (Lc := 64) (o := a2) (av := [.int x3]) (rest := [.ref th]) C w (fun a r g hf => k_Str_charAt_5068e l D cy z N h2 a x3 r g hf) gw_55_0 gw_12_10 gw_12_11 gw_12_0 gw_12_12 (by decide +kernel) ⟨Nat.le_of_ble_eq_true rfl, Nat.le_of_ble_eq_true rfl⟩ rfl hl.1 rfl (Nat.le_of_ble_eq_true rfl) dX8_putStep_26 (fun a => (sh_Str_charAt_5068e N h2 a x3)) ⟨by decide, by decide⟩ e2 (fun v9 h10 H locs w hsh10 e8 => ?_)
      refine w_VV GW_good (n := 1) (F := 0) (Lc := 0) (o := some th) (av := [.int v9]) (rest := []) C w rfl (by decide) (fun a r g hf => k_Teller_put l D cy z N h10 a v9 r g hf) gw_55_1 gw_55_2 gw_55_3 gw_2_12 gw_55_4 (by decide +kernel) ⟨Nat.le_of_ble_eq_true rfl, Nat.le_of_ble_eq_true rfl⟩ rfl hl.1 rfl (Nat.le_of_ble_eq_true rfl) dX8_putStep_29 (fun a => (sh_Teller_put N h10 a v9)) ⟨by decide, by decide⟩ e8 (fun v11 h12 H locs w hsh12 e9 => ?_)
      obtain ⟨v13, ev13, e10⟩ := bn_some e9
      refine lv_iinc (v := v13) (lv' := [(3, .int v13), (0, .ref th), (1, va_rf a1), (2, va_rf a2)]) hx hb dX8_putStep_32 hl (k := 3) rfl (by rw [ev13]; rfl) (by decide) (by cases a2 <;> rfl) (fun ls hl => ?_)
      refine lv_goto (tgt := 15) hx hb dX8_putStep_35 (by decide) ?_
      exact ih  h12 th a1 a2 v13 _ _ ls w  (lv_sub hl [1, 2, 3, 0] rfl) e10
set_option maxRecDepth 20000 in
set_option maxHeartbeats 4000000 in
theorem k_Teller_putStep (l : Launch) (D : va_G) (cy : cyT) (z : Nat) (N : Nat) (h : hS) (th : Nat) (a1 : Option Nat) (r : Unit) (g : hS) (hE : f_Teller_putStep N h th a1 = some (r, g)) : ct l yX8_putStep (Cond.code yX8_putStep cX8_putStep 4 (none) :: GW) { frames := 4, cells := 0, slots := 0, locals := 85 } D cy z h [.ref th, va_rf a1] (rV r) g := by
  refine Met.ofW (cc := cX8_putStep) (maxL := 4) (ret := none) (by decide) rfl ?_
  intro p e s m args below meth c s₁ B hml hv
  obtain ⟨rfl, hw⟩ := hv
  have C : MX p s m ([.ref th, va_rf a1] : List Value).toArray meth c cX8_putStep 4 (none) RX8 (Cond.code yX8_putStep cX8_putStep 4 (none) :: GW) := ⟨B.exec, B.bytes, B.returns, hml, findClass_of_methodNamed B.named, atoms_spec (ws := Cond.code yX8_putStep cX8_putStep 4 (none) :: GW) B.pre, B.notSynchronized⟩
  obtain ⟨hx, hb, hr, hml, hown, hts, hlk⟩ := id C
  have w := wd_of hw
  obtain ⟨ls, hen, hl⟩ : ∃ ls : Array Slot, entryFrame m ([.ref th, va_rf a1] : List Value).toArray 4 = F0 m 0 ls [] ∧ lv_has ls 4 [(0, .ref th), (1, va_rf a1)] := by
    cases a1 <;> exact ⟨_, lg_entry_eq _ _ _, lv_entry _ (Nat.le_of_ble_eq_true rfl)⟩
  rw [hen]
  unfold f_Teller_putStep at hE
  refine w_aload_n C dX8_putStep_0 rfl (lv_at hl 1 rfl) ?_
  refine w_nonnull (r := a1) (tgt := 5) C dX8_putStep_1 (by decide) hE (fun hc e1 => ?_) (fun hc e1 => ?_)
  · refine w_aload_n C dX8_putStep_5 rfl (lv_at hl 1 rfl) ?_
    refine w_gI (r := a1) (ci := 8) (k := 0) C w rfl (by decide) (GF_wsX70 _) (by decide) rfl (List.mem_cons_of_mem _ gw_54_20) rfl dX8_putStep_6 e1 (fun v1 e2 => ?_)
    refine w_SNR GW_good (n := 1) (F := 0) (Lc := 0) (av := [.int v1]) (rest := []) C w (fun r g hf => k_K_wordOf l D cy z N h v1 r g hf) (List.mem_of_getElem? (i := 5) rfl) gw_11_15 gw_1_2 gw_11_16 (by decide +kernel) ⟨Nat.le_of_ble_eq_true rfl, Nat.le_of_ble_eq_true rfl⟩ rfl hl.1 rfl (Nat.le_of_ble_eq_true rfl) dX8_putStep_9 (sh_K_wordOf N h v1) ⟨by decide, by decide⟩ e2 (fun v2 h3 H locs w hsh3 e3 => ?_)
    refine w_astore_n (r := v2) (lv' := [(2, va_rf v2), (0, .ref th), (1, va_rf a1)]) C dX8_putStep_12 rfl hl (by decide) (by cases a1 <;> rfl) (fun ls hl => ?_)
    refine lv_iconst (v := 0) hx hb dX8_putStep_13 (by decide) ?_
    refine lv_istore_n (lv' := [(3, .int (0 : Int32)), (2, va_rf v2), (0, .ref th), (1, va_rf a1)]) hx hb dX8_putStep_14 rfl hl (by decide) (by cases v2 <;> rfl) (fun ls hl => ?_)
    exact b_Teller_putStep_15 C N   N  h3 th a1 v2 (0 : Int32) _ _ ls w  (lv_sub hl [2, 3, 1, 0] rfl) e3
  · exact w_vret C w e1 dX8_putStep_4
set_option maxRecDepth 20000 in
set_option maxHeartbeats 4000000 in
theorem b_Trail_init_28 {p : Program} {l : Launch} {e : Env} {s : State} {m : MethodId} {args : Array Value} {below : List Frame} {meth : Method} {c : Code} {D : va_G} {cy : cyT} {z : Nat} (C : MX p s m args meth c cX9_init 1 (none) RX9 (Cond.code yX9_init cX9_init 1 (none) :: GW)) (hni : meth.name = "<init>") (N : Nat) (n0 s0 : Nat) (hn0 : s.heap.size = n0) {r : Unit} {g : hS}  : ∀  (cells slots : Nat) (h : hS) (y0 : Option Nat) (y1 : Option Nat) (H : Heap) (locs : List Loc) (ls : Array Slot), wd D cy z s cells h H locs → h_s h = s0 + slots → lv_has ls 1 [] → f_Trail_init_28 N   h y0 y1 = some (r, g) → W p l e { frames := 2, cells := h_x g - n0, slots := h_s g - s0, locals := 64 } s m args below meth c H locs cells slots (MQ below (eQ D cy z (rV r) g) args s (h_x g - n0) (h_s g - s0) (fun q => z ≤ q)) (F0 m 28 ls [va_rf y1, va_rf y0]) := by
  obtain ⟨hx, hb, hr, hml, hown, hts, hlk⟩ := id C
  intro cells slots h y0 y1 H locs ls w hsl hl hE
  have hcc : cells ≤ h_x g - n0 ∧ slots ≤ h_s g - s0 := by
    have q1 := mo_Trail_init_28 N  h y0 y1 _ _ hE
    have q2 := wd_x w
    have q3 := q1.1
    have q4 := q1.2.1
    omega
  unfold f_Trail_init_28 at hE
  refine w_pRF (r := y0) (ci := 10) (k := 2) (v := y1) (Or.inr ⟨_, rfl⟩) C w rfl (by decide) (by unfold roK; omega) (GF_wsX90 _) tyX9 tyX9_ok nmX9 (by decide) rfl (List.mem_cons_of_mem _ gw_5_7) rfl rfl hni rfl (tyX9_ok 2 (by decide)) dX9_init_28 hE (fun h1 H locs w hsh1 e1 => ?_)
  have hsl := hsh1.2.2.2.trans hsl
  refine W.widen (k := h_x g - n0) (n := h_s g - s0) hcc.1 hcc.2 ?_
  exact w_vret C w e1 dX9_init_31
set_option maxRecDepth 20000 in
set_option maxHeartbeats 4000000 in
theorem b_Trail_init_20 {p : Program} {l : Launch} {e : Env} {s : State} {m : MethodId} {args : Array Value} {below : List Frame} {meth : Method} {c : Code} {D : va_G} {cy : cyT} {z : Nat} (C : MX p s m args meth c cX9_init 1 (none) RX9 (Cond.code yX9_init cX9_init 1 (none) :: GW)) (hni : meth.name = "<init>") (N : Nat) (n0 s0 : Nat) (hn0 : s.heap.size = n0) {r : Unit} {g : hS}  : ∀  (cells slots : Nat) (h : hS) (th : Nat) (y0 : Option Nat) (y1 : Option Nat) (H : Heap) (locs : List Loc) (ls : Array Slot), wd D cy z s cells h H locs → h_s h = s0 + slots → lv_has ls 1 [(0, .ref th)] → f_Trail_init_20 N   h th y0 y1 = some (r, g) → W p l e { frames := 2, cells := h_x g - n0, slots := h_s g - s0, locals := 64 } s m args below meth c H locs cells slots (MQ below (eQ D cy z (rV r) g) args s (h_x g - n0) (h_s g - s0) (fun q => z ≤ q)) (F0 m 20 ls [va_rf y1, va_rf y0]) := by
  obtain ⟨hx, hb, hr, hml, hown, hts, hlk⟩ := id C
  intro cells slots h th y0 y1 H locs ls w hsl hl hE
  have hcc : cells ≤ h_x g - n0 ∧ slots ≤ h_s g - s0 := by
    have q1 := mo_Trail_init_20 N  h th y0 y1 _ _ hE
    have q2 := wd_x w
    have q3 := q1.1
    have q4 := q1.2.1
    omega
  unfold f_Trail_init_20 at hE
  refine w_pRF (r := y0) (ci := 10) (k := 1) (v := y1) (Or.inr ⟨_, rfl⟩) C w rfl (by decide) (by unfold roK; omega) (GF_wsX90 _) tyX9 tyX9_ok nmX9 (by decide) rfl (List.mem_cons_of_mem _ gw_5_6) rfl rfl hni rfl (tyX9_ok 1 (by decide)) dX9_init_20 hE (fun h1 H locs w hsh1 e1 => ?_)
  have hsl := hsh1.2.2.2.trans hsl
  refine lv_aload_n hx hb dX9_init_23 rfl (lv_at hl 0 rfl) ?_
  refine lv_bipush (v := 40) hx hb dX9_init_24 (by decide) ?_
  have hm := mo_Trail_init_28 N   (nw h1 50 (40 : Int32).toNatClampNeg (40 : Int32).toNatClampNeg) (some th) (some (h_x h1)) _ _ (nwA_some e1).2
  have hm1 := hm.1
  have hm2 := hm.2.1
  rw [h_x_nw] at hm1
  rw [h_s_nw] at hm2
  have hwx := wd_x w
  refine w_nwI C w (List.mem_cons_of_mem _ gw_2_16) dX9_init_26 e1 (by show cells + 1 ≤ h_x g - n0; omega) (by show slots + _ ≤ h_s g - s0; omega) (fun H w e2 => ?_)
  exact b_Trail_init_28 C hni N n0 s0 hn0   (cells + 1) (slots + (40 : Int32).toNatClampNeg) (nw h1 50 (40 : Int32).toNatClampNeg (40 : Int32).toNatClampNeg) (some th) (some (h_x h1)) _ _ ls w (by first | (rw [h_s_nw, hsl]; done) | (rw [h_s_nw, hsl]; omega)) (lv_sub hl [] rfl) e2
set_option maxRecDepth 20000 in
set_option maxHeartbeats 4000000 in
theorem b_Trail_init_12 {p : Program} {l : Launch} {e : Env} {s : State} {m : MethodId} {args : Array Value} {below : List Frame} {meth : Method} {c : Code} {D : va_G} {cy : cyT} {z : Nat} (C : MX p s m args meth c cX9_init 1 (none) RX9 (Cond.code yX9_init cX9_init 1 (none) :: GW)) (hni : meth.name = "<init>") (N : Nat) (n0 s0 : Nat) (hn0 : s.heap.size = n0) {r : Unit} {g : hS}  : ∀  (cells slots : Nat) (h : hS) (th : Nat) (y0 : Option Nat) (y1 : Option Nat) (H : Heap) (locs : List Loc) (ls : Array Slot), wd D cy z s cells h H locs → h_s h = s0 + slots → lv_has ls 1 [(0, .ref th)] → f_Trail_init_12 N   h th y0 y1 = some (r, g) → W p l e { frames := 2, cells := h_x g - n0, slots := h_s g - s0, locals := 64 } s m args below meth c H locs cells slots (MQ below (eQ D cy z (rV r) g) args s (h_x g - n0) (h_s g - s0) (fun q => z ≤ q)) (F0 m 12 ls [va_rf y1, va_rf y0]) := by
  obtain ⟨hx, hb, hr, hml, hown, hts, hlk⟩ := id C
  intro cells slots h th y0 y1 H locs ls w hsl hl hE
  have hcc : cells ≤ h_x g - n0 ∧ slots ≤ h_s g - s0 := by
    have q1 := mo_Trail_init_12 N  h th y0 y1 _ _ hE
    have q2 := wd_x w
    have q3 := q1.1
    have q4 := q1.2.1
    omega
  unfold f_Trail_init_12 at hE
  refine w_pR (r := y0) (ci := 10) (k := 0) (v := y1) (Or.inl ⟨_, rfl⟩) C w rfl (by decide) (by unfold roK; omega) (GF_wsX90 _) tyX9 tyX9_ok nmX9 (by decide) rfl (List.mem_cons_of_mem _ gw_5_5) rfl rfl (tyX9_ok 0 (by decide)) dX9_init_12 hE (fun h1 H locs w hsh1 e1 => ?_)
  have hsl := hsh1.2.2.2.trans hsl
  refine lv_aload_n hx hb dX9_init_15 rfl (lv_at hl 0 rfl) ?_
  refine lv_bipush (v := 40) hx hb dX9_init_16 (by decide) ?_
  have hm := mo_Trail_init_20 N   (nw h1 50 (40 : Int32).toNatClampNeg (40 : Int32).toNatClampNeg) th (some th) (some (h_x h1)) _ _ (nwA_some e1).2
  have hm1 := hm.1
  have hm2 := hm.2.1
  rw [h_x_nw] at hm1
  rw [h_s_nw] at hm2
  have hwx := wd_x w
  refine w_nwI C w (List.mem_cons_of_mem _ gw_2_16) dX9_init_18 e1 (by show cells + 1 ≤ h_x g - n0; omega) (by show slots + _ ≤ h_s g - s0; omega) (fun H w e2 => ?_)
  exact b_Trail_init_20 C hni N n0 s0 hn0   (cells + 1) (slots + (40 : Int32).toNatClampNeg) (nw h1 50 (40 : Int32).toNatClampNeg (40 : Int32).toNatClampNeg) th (some th) (some (h_x h1)) _ _ ls w (by first | (rw [h_s_nw, hsl]; done) | (rw [h_s_nw, hsl]; omega)) (lv_sub hl [0] rfl) e2
set_option maxRecDepth 20000 in
set_option maxHeartbeats 4000000 in
theorem b_Trail_init_8 {p : Program} {l : Launch} {e : Env} {s : State} {m : MethodId} {args : Array Value} {below : List Frame} {meth : Method} {c : Code} {D : va_G} {cy : cyT} {z : Nat} (C : MX p s m args meth c cX9_init 1 (none) RX9 (Cond.code yX9_init cX9_init 1 (none) :: GW)) (hni : meth.name = "<init>") (N : Nat) (n0 s0 : Nat) (hn0 : s.heap.size = n0) {r : Unit} {g : hS}  : ∀  (cells slots : Nat) (h : hS) (th : Nat) (y0 : Option Nat) (y1 : Option Nat) (H : Heap) (locs : List Loc) (ls : Array Slot), wd D cy z s cells h H locs → h_s h = s0 + slots → lv_has ls 1 [(0, .ref th)] → f_Trail_init_8 N   h th y0 y1 = some (r, g) → W p l e { frames := 2, cells := h_x g - n0, slots := h_s g - s0, locals := 64 } s m args below meth c H locs cells slots (MQ below (eQ D cy z (rV r) g) args s (h_x g - n0) (h_s g - s0) (fun q => z ≤ q)) (F0 m 8 ls [va_rf y1, va_rf y0]) := by
  obtain ⟨hx, hb, hr, hml, hown, hts, hlk⟩ := id C
  intro cells slots h th y0 y1 H locs ls w hsl hl hE
  have hcc : cells ≤ h_x g - n0 ∧ slots ≤ h_s g - s0 := by
    have q1 := mo_Trail_init_8 N  h th y0 y1 _ _ hE
    have q2 := wd_x w
    have q3 := q1.1
    have q4 := q1.2.1
    omega
  unfold f_Trail_init_8 at hE
  refine lv_dup hx hb dX9_init_8 (va_rf_cat _) ?_
  obtain ⟨q3, eq3, e1⟩ := nn_some hE
  subst eq3
  refine w_IAV GW_good (b := q3) (n := 0) (F := 1) (Lc := 44) (av := []) (rest := [.ref q3, va_rf y0]) C w (fun r g hf => k_Chain_init l D cy z N h q3  r g hf) gw_5_8 gw_5_9 gw_3_6 gw_5_10 rfl (by decide +kernel) ⟨Nat.le_of_ble_eq_true rfl, Nat.le_of_ble_eq_true rfl⟩ rfl hl.1 rfl (cat_le (Nat.le_of_ble_eq_true rfl)) dX9_init_9 (mo_Chain_init N h q3 ) (fun v1 h2 q1 q2 => by have u1 := (mo_Chain_init N h q3 ) _ _ q1; have u2 := mo_Trail_init_12 N   h2 th y0 (some q3) _ _ q2; have u3 := wd_x w; have u4 := u1.1; have u5 := u1.2.1; have u6 := u2.1; have u7 := u2.2.1; show cells + _ ≤ h_x g - n0 ∧ slots + _ ≤ h_s g - s0; omega) e1 (fun v1 h2 H locs w hsh2 e2 => ?_)
  exact b_Trail_init_12 C hni N n0 s0 hn0   _ _ h2 th y0 (some q3) _ _ ls w (by have u5 := hsh2.2.1; have u8 := hsl; omega) (lv_sub hl [0] rfl) e2
set_option maxRecDepth 20000 in
set_option maxHeartbeats 4000000 in
theorem k_Trail_init (l : Launch) (D : va_G) (cy : cyT) (z : Nat) (N : Nat) (h : hS) (th : Nat) (r : Unit) (g : hS) (hE : f_Trail_init N h th = some (r, g)) : ct l yX9_init (Cond.code yX9_init cX9_init 1 (none) :: GW) { frames := 2, cells := h_x g - h_x h, slots := h_s g - h_s h, locals := 64 } D cy z h [.ref th] (rV r) g := by
  refine Met.ofW (cc := cX9_init) (maxL := 1) (ret := none) (by decide) rfl ?_
  intro p e s m args below meth c s₁ B hml hv
  obtain ⟨rfl, hw⟩ := hv
  have hni : meth.name = "<init>" := (name_of_methodNamed B.named B.method).1
  have C : MX p s m ([.ref th] : List Value).toArray meth c cX9_init 1 (none) RX9 (Cond.code yX9_init cX9_init 1 (none) :: GW) := ⟨B.exec, B.bytes, B.returns, hml, findClass_of_methodNamed B.named, atoms_spec (ws := Cond.code yX9_init cX9_init 1 (none) :: GW) B.pre, B.notSynchronized⟩
  obtain ⟨hx, hb, hr, hml, hown, hts, hlk⟩ := id C
  have w := wd_of hw
  have hsl : h_s h = h_s h + 0 := rfl
  have hn0 : s.heap.size = h_x h := (wd_x w).1
  obtain ⟨ls, hen, hl⟩ : ∃ ls : Array Slot, entryFrame m ([.ref th] : List Value).toArray 1 = F0 m 0 ls [] ∧ lv_has ls 1 [(0, .ref th)] := by
    exact ⟨_, lg_entry_eq _ _ _, lv_entry _ (Nat.le_of_ble_eq_true rfl)⟩
  rw [hen]
  have hcc : 0 ≤ h_x g - h_x h ∧ 0 ≤ h_s g - h_s h := ⟨Nat.zero_le _, Nat.zero_le _⟩
  unfold f_Trail_init at hE
  refine lv_aload_n hx hb dX9_init_0 rfl (lv_at hl 0 rfl) ?_
  refine w_oinit (a := th) C hl.1 (List.mem_cons_of_mem _ gw_5_3) (List.mem_cons_of_mem _ gw_1_12) (List.mem_cons_of_mem _ gw_1_13) (Nat.le_of_ble_eq_true rfl) (Nat.le_of_ble_eq_true rfl) dX9_init_1 ?_
  refine lv_aload_n hx hb dX9_init_4 rfl (lv_at hl 0 rfl) ?_
  have hm := mo_Trail_init_8 N   (nw h 3 0 2) th (some th) (some (h_x h)) _ _ hE
  have hm1 := hm.1
  have hm2 := hm.2.1
  rw [h_x_nw] at hm1
  rw [h_s_nw] at hm2
  have hwx := wd_x w
  refine w_newO (ci := 2) C w rfl (by decide) (GF_wsX10 _) tyX1 tyX1_ok (List.mem_cons_of_mem _ gw_5_4) (List.mem_cons_of_mem _ gw_3_5) (List.mem_cons_of_mem _ gw_3_6) (fun j hj => by rcases (show j = 0 ∨ j = 1 by omega) with rfl | rfl <;> rfl) dX9_init_5 hE (by show 0 + 1 ≤ h_x g - (h_x h); omega) (by show 0 + _ ≤ h_s g - (h_s h); omega) (fun H w e1 => ?_)
  exact b_Trail_init_8 C hni N (h_x h) (h_s h) hn0   (0 + 1) (0 + 2) (nw h 3 0 2) th (some th) (some (h_x h)) _ _ ls w (by first | (rw [h_s_nw, hsl]; done) | (rw [h_s_nw, hsl]; omega)) (lv_sub hl [0] rfl) e1
