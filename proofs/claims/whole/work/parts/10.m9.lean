def f_M_is_82 (N : Nat)  (h : hS) (x2 : Int32) : Option (Int32 × hS) := bz x2 (some (x2, h))
def f_M_is_75 (N : Nat) (rc39 : hS → Nat → Nat → Int32 → Int32 → Option (Int32 × hS)) (h : hS) (th : Nat) (a1 : Nat) (x3 : Int32) (y0 : Int32) : Option (Int32 × hS) := bn (x3 + (1 : Int32)) fun v1 => rc39 h th a1 y0 v1
def f_M_is_39 (N : Nat)  : Nat → hS → Nat → Nat → Int32 → Int32 → Option (Int32 × hS)
  | 0 => fun _ _ _ _ _ => none
  | n + 1 => fun h th a1 x2 x3 => if x2 = (0 : Int32) then (f_M_is_82 N   h x2) else (cv h (some a1) 56 (fun a => f_Str_length_8abf5 N h a ) fun v1 h2 => if v1 ≤ x3 then (f_M_is_82 N   h2 x2) else (cv h2 (some a1) 56 (fun a => f_Str_charAt_5068e N h2 a x3) fun v3 h4 => gR h4 (some th) 0 17 fun v5 => gI h4 (some th) 0 25 fun v6 => aI h4 50 v5 (v6 + x3) fun v7 => if v3 = v7 then (f_M_is_75 N (f_M_is_39 N  n)  h4 th a1 x3 (1 : Int32)) else (f_M_is_75 N (f_M_is_39 N  n)  h4 th a1 x3 (0 : Int32))))
def f_M_is_36 (N : Nat)  (h : hS) (th : Nat) (a1 : Nat) (y0 : Int32) : Option (Int32 × hS) := f_M_is_39 N  N h th a1 y0 (0 : Int32)
def f_M_is_35 (N : Nat)  (h : hS) (th : Nat) (a1 : Nat) : Option (Int32 × hS) := f_M_is_36 N   h th a1 (0 : Int32)
def f_M_is (N : Nat) (h : hS) (th : Nat) (a1 : Nat) : Option (Int32 × hS) := gI h (some th) 0 27 fun v1 => if v1 = (0 : Int32) then (gI h (some th) 0 23 fun v2 => if v2 = (1 : Int32) then (cv h (some a1) 56 (fun a => f_Str_length_8abf5 N h a ) fun v3 h4 => gI h4 (some th) 0 26 fun v5 => gI h4 (some th) 0 25 fun v6 => if v3 = (v5 - v6) then (f_M_is_36 N   h4 th a1 (1 : Int32)) else (f_M_is_35 N   h4 th a1)) else (f_M_is_35 N   h th a1)) else (f_M_is_35 N   h th a1)
def f_M_which_2 (N : Nat)  : Nat → hS → Nat → Int32 → Option (Int32 × hS)
  | 0 => fun _ _ _ => none
  | n + 1 => fun h th x1 => gR h (some th) 0 0 fun v1 => lnA h 61 v1 fun v2 => if v2 ≤ x1 then (some ((-1 : Int32), h)) else (gR h (some th) 0 0 fun v3 => aR h 61 v3 x1 fun v4 => nn v4 fun q5 => cv h (some th) 0 (fun a => f_M_is N h a q5) fun v6 h7 => if v6 = (0 : Int32) then (bn (x1 + (1 : Int32)) fun v8 => f_M_which_2 N  n h7 th v8) else (some (x1, h7)))
def f_M_which (N : Nat) (h : hS) (th : Nat) : Option (Int32 × hS) := f_M_which_2 N  N h th (0 : Int32)
def f_M_readClause_210 (N : Nat)  (h : hS) (th : Nat) : Option (Unit × hS) := gR h (some th) 0 18 fun v1 => aI h 50 v1 (0 : Int32) fun v2 => uI h v1 (0 : Int32) (v2 + (1 : Int32)) fun h3 => some ((), h3)
def f_M_readClause_199 (N : Nat)  (h : hS) (th : Nat) : Option (Unit × hS) := gI h (some th) 0 27 fun v1 => if v1 = (0 : Int32) then (cv h (some th) 0 (fun a => f_M_stepOn N h a ) fun _ h3 => f_M_readClause_210 N   h3 th) else (f_M_readClause_210 N   h th)
def f_M_readClause_175 (N : Nat)  (h : hS) (th : Nat) (x3 : Int32) (y0 : Option Nat) (y1 : Int32) (y2 : Int32) : Option (Unit × hS) := uI h y0 y1 y2 fun h1 => gR h1 (some th) 0 18 fun v2 => uI h1 v2 (x3 + (3 : Int32)) (0 : Int32) fun h3 => cv h3 (some th) 0 (fun a => f_M_isMarked N h3 a (59 : Int32)) fun v4 h5 => if v4 = (0 : Int32) then (cv h5 (some th) 0 (fun a => f_M_wrong N h5 a (1 : Int32)) fun _ h7 => f_M_readClause_199 N   h7 th) else (f_M_readClause_199 N   h5 th)
def f_M_readClause_165 (N : Nat)  (h : hS) (th : Nat) (x3 : Int32) (y0 : Option Nat) (y1 : Int32) : Option (Unit × hS) := cv h (some th) 0 (fun a => f_M_readNumber N h a (99 : Int32)) fun v1 h2 => f_M_readClause_175 N   h2 th x3 y0 y1 v1
def f_M_readClause_147 (N : Nat)  (h : hS) (th : Nat) (x2 : Int32) (x3 : Int32) (y0 : Option Nat) (y1 : Int32) (y2 : Int32) : Option (Unit × hS) := uI h y0 y1 y2 fun h1 => gR h1 (some th) 0 18 fun v2 => if x2 ≤ (2 : Int32) then (f_M_readClause_165 N   h1 th x3 v2 (x3 + (2 : Int32))) else (if x2 = (4 : Int32) then (f_M_readClause_165 N   h1 th x3 v2 (x3 + (2 : Int32))) else (f_M_readClause_175 N   h1 th x3 v2 (x3 + (2 : Int32)) (0 : Int32)))
def f_M_readClause_38 (N : Nat)  (h : hS) (th : Nat) (x1 : Int32) (x2 : Int32) : Option (Unit × hS) := gI h (some th) 0 27 fun v1 => if v1 = (0 : Int32) then (gR h (some th) 0 18 fun v2 => aI h 50 v2 (0 : Int32) fun v3 => bn (((1 : Int32) + ((4 : Int32) * v3))) fun v4 => gR h (some th) 0 19 fun v5 => gR h (some th) 0 18 fun v6 => aI h 50 v6 (0 : Int32) fun v7 => gI h (some th) 0 25 fun v8 => uI h v5 v7 v8 fun h9 => cv h9 (some th) 0 (fun a => f_M_stepOn N h9 a ) fun _ h11 => gR h11 (some th) 0 18 fun v12 => uI h11 v12 v4 x2 fun h13 => gR h13 (some th) 0 18 fun v14 => if (3 : Int32) < x2 then (if x2 = (4 : Int32) then (cv h13 (some th) 0 (fun a => f_M_readNumber N h13 a (99 : Int32)) fun v19 h20 => f_M_readClause_147 N   h20 th x2 v4 v14 (v4 + (1 : Int32)) v19) else (if x2 = (7 : Int32) then (cv h13 (some th) 0 (fun a => f_M_readNumber N h13 a (999 : Int32)) fun v17 h18 => f_M_readClause_147 N   h18 th x2 v4 v14 (v4 + (1 : Int32)) v17) else (if x2 = (8 : Int32) then (cv h13 (some th) 0 (fun a => f_M_readCost N h13 a x1) fun v15 h16 => f_M_readClause_147 N   h16 th x2 v4 v14 (v4 + (1 : Int32)) v15) else (f_M_readClause_147 N   h13 th x2 v4 v14 (v4 + (1 : Int32)) (0 : Int32))))) else (cv h13 (some th) 0 (fun a => f_M_readPlace N h13 a ) fun v21 h22 => f_M_readClause_147 N   h22 th x2 v4 v14 (v4 + (1 : Int32)) v21)) else (some ((), h))
def f_M_readClause_15 (N : Nat)  (h : hS) (th : Nat) (x1 : Int32) (x2 : Int32) : Option (Unit × hS) := gI h (some th) 0 27 fun v1 => if v1 = (0 : Int32) then (gR h (some th) 0 18 fun v2 => aI h 50 v2 (0 : Int32) fun v3 => if v3 = (40 : Int32) then (cv h (some th) 0 (fun a => f_M_wrong N h a (3 : Int32)) fun _ h5 => f_M_readClause_38 N   h5 th x1 x2) else (f_M_readClause_38 N   h th x1 x2)) else (f_M_readClause_38 N   h th x1 x2)
def f_M_readClause (N : Nat) (h : hS) (th : Nat) (x1 : Int32) : Option (Unit × hS) := cv h (some th) 0 (fun a => f_M_which N h a ) fun v1 h2 => if v1 = (-1 : Int32) then (cv h2 (some th) 0 (fun a => f_M_wrong N h2 a (1 : Int32)) fun _ h4 => f_M_readClause_15 N   h4 th x1 v1) else (f_M_readClause_15 N   h2 th x1 v1)
def f_M_text_31 (N : Nat)  (h : hS) (th : Nat) : Option (Int32 × hS) := cv h (some th) 0 (fun a => f_M_fail N h a (2 : Int32)) fun v1 h2 => some (v1, h2)
def f_M_text_183 (N : Nat)  : Nat → hS → Nat → Int32 → Int32 → Option (Int32 × hS)
  | 0 => fun _ _ _ _ => none
  | n + 1 => fun h th x1 x3 => if (161 : Int32) ≤ x3 then (some ((0 : Int32), h)) else (gR h (some th) 0 2 fun v1 => gR h (some th) 0 18 fun v2 => aI h 50 v2 x3 fun v3 => uI h v1 (((161 : Int32) * x1) + x3) v3 fun h4 => bn (x3 + (1 : Int32)) fun v5 => f_M_text_183 N  n h4 th x1 v5)
def f_M_text_147 (N : Nat)  (h : hS) (th : Nat) (x1 : Int32) : Option (Int32 × hS) := gI h (some th) 0 27 fun v1 => if v1 = (0 : Int32) then (cv h (some th) 0 (fun a => f_M_keep N h a ) fun _ h3 => f_M_text_183 N  N h3 th x1 (0 : Int32)) else (gI h (some th) 0 28 fun v4 => pI h (some th) 0 29 v4 fun h5 => gR h5 (some th) 0 3 fun v6 => aI h5 50 v6 (0 : Int32) fun v7 => uI h5 v6 (0 : Int32) (v7 + (1 : Int32)) fun h8 => gI h8 (some th) 0 27 fun v9 => some (v9, h8))
def f_M_text_110 (N : Nat)  (h : hS) (th : Nat) (x1 : Int32) : Option (Int32 × hS) := gI h (some th) 0 27 fun v1 => if v1 = (0 : Int32) then (gR h (some th) 0 18 fun v2 => nn v2 fun q3 => cv h (some th) 0 (fun a => f_M_runs N h a q3 (0 : Int32)) fun v4 h5 => if v4 = (0 : Int32) then (pI h5 (some th) 0 27 (4 : Int32) fun h6 => gR h6 (some th) 0 19 fun v7 => gI h6 (some th) 0 12 fun v8 => aI h6 50 v7 v8 fun v9 => pI h6 (some th) 0 28 v9 fun h10 => f_M_text_147 N   h10 th x1) else (f_M_text_147 N   h5 th x1)) else (f_M_text_147 N   h th x1)
def f_M_text_95 (N : Nat)  (h : hS) (th : Nat) (x1 : Int32) : Option (Int32 × hS) := gI h (some th) 0 27 fun v1 => if v1 = (0 : Int32) then (gR h (some th) 0 18 fun v2 => nn v2 fun q3 => cv h (some th) 0 (fun a => f_M_laysOnTop N h a q3) fun _ h5 => f_M_text_110 N   h5 th x1) else (f_M_text_110 N   h th x1)
def f_M_text_73 (N : Nat)  : Nat → hS → Nat → Int32 → Option (Int32 × hS)
  | 0 => fun _ _ _ => none
  | n + 1 => fun h th x1 => gI h (some th) 0 27 fun v1 => if v1 = (0 : Int32) then (gI h (some th) 0 23 fun v2 => if v2 = (0 : Int32) then (f_M_text_95 N   h th x1) else (cv h (some th) 0 (fun a => f_M_readClause N h a x1) fun _ h4 => f_M_text_73 N  n h4 th x1)) else (f_M_text_95 N   h th x1)
def f_M_text (N : Nat) (h : hS) (th : Nat) (x1 : Int32) (x2 : Int32) : Option (Int32 × hS) := pI h (some th) 0 1 (0 : Int32) fun h1 => cv h1 (some th) 0 (fun a => f_M_isCost N h1 a x1) fun v2 h3 => if v2 = (0 : Int32) then (cv h3 (some th) 0 (fun a => f_M_fail N h3 a (1 : Int32)) fun v14 h15 => some (v14, h15)) else (if x2 < (0 : Int32) then (f_M_text_31 N   h3 th) else (gI h3 (some th) 0 20 fun v4 => if x2 ≤ v4 then (pI h3 (some th) 0 20 (0 : Int32) fun h5 => pI h5 (some th) 0 22 x2 fun h6 => pI h6 (some th) 0 21 (0 : Int32) fun h7 => pI h7 (some th) 0 27 (0 : Int32) fun h8 => pI h8 (some th) 0 29 (-1 : Int32) fun h9 => gR h9 (some th) 0 18 fun v10 => uI h9 v10 (0 : Int32) (0 : Int32) fun h11 => cv h11 (some th) 0 (fun a => f_M_stepOn N h11 a ) fun _ h13 => f_M_text_73 N  N h13 th x1) else (f_M_text_31 N   h3 th)))
def f_M_tellDigits_L0 (N : Nat) (h : hS) (th : Nat) (x1 : Int32) : Option (Unit × hS) := if x1 ≤ (9 : Int32) then (dv (10 : Int32) (cv h (some th) 0 (fun a => f_M_tellByte N h a ((48 : Int32) + (x1 - x1 / (10 : Int32) * (10 : Int32)))) fun _ h2 => some ((), h2))) else (dv (10 : Int32) (none))
def f_M_tellDigits_L1_14 (N : Nat)  (h : hS) (th : Nat) (x1 : Int32) : Option (Unit × hS) := dv (10 : Int32) (cv h (some th) 0 (fun a => f_M_tellByte N h a ((48 : Int32) + (x1 - x1 / (10 : Int32) * (10 : Int32)))) fun _ h2 => some ((), h2))
def f_M_tellDigits_L1 (N : Nat) (h : hS) (th : Nat) (x1 : Int32) : Option (Unit × hS) := if x1 ≤ (9 : Int32) then (f_M_tellDigits_L1_14 N   h th x1) else (dv (10 : Int32) (cv h (some th) 0 (fun a => f_M_tellDigits_L0 N h a (x1 / (10 : Int32))) fun _ h2 => f_M_tellDigits_L1_14 N   h2 th x1))
def f_M_tellDigits_L2_14 (N : Nat)  (h : hS) (th : Nat) (x1 : Int32) : Option (Unit × hS) := dv (10 : Int32) (cv h (some th) 0 (fun a => f_M_tellByte N h a ((48 : Int32) + (x1 - x1 / (10 : Int32) * (10 : Int32)))) fun _ h2 => some ((), h2))
def f_M_tellDigits_L2 (N : Nat) (h : hS) (th : Nat) (x1 : Int32) : Option (Unit × hS) := if x1 ≤ (9 : Int32) then (f_M_tellDigits_L2_14 N   h th x1) else (dv (10 : Int32) (cv h (some th) 0 (fun a => f_M_tellDigits_L1 N h a (x1 / (10 : Int32))) fun _ h2 => f_M_tellDigits_L2_14 N   h2 th x1))
def f_M_tellDigits_L3_14 (N : Nat)  (h : hS) (th : Nat) (x1 : Int32) : Option (Unit × hS) := dv (10 : Int32) (cv h (some th) 0 (fun a => f_M_tellByte N h a ((48 : Int32) + (x1 - x1 / (10 : Int32) * (10 : Int32)))) fun _ h2 => some ((), h2))
def f_M_tellDigits_L3 (N : Nat) (h : hS) (th : Nat) (x1 : Int32) : Option (Unit × hS) := if x1 ≤ (9 : Int32) then (f_M_tellDigits_L3_14 N   h th x1) else (dv (10 : Int32) (cv h (some th) 0 (fun a => f_M_tellDigits_L2 N h a (x1 / (10 : Int32))) fun _ h2 => f_M_tellDigits_L3_14 N   h2 th x1))
def f_M_tellDigits_L4_14 (N : Nat)  (h : hS) (th : Nat) (x1 : Int32) : Option (Unit × hS) := dv (10 : Int32) (cv h (some th) 0 (fun a => f_M_tellByte N h a ((48 : Int32) + (x1 - x1 / (10 : Int32) * (10 : Int32)))) fun _ h2 => some ((), h2))
def f_M_tellDigits_L4 (N : Nat) (h : hS) (th : Nat) (x1 : Int32) : Option (Unit × hS) := if x1 ≤ (9 : Int32) then (f_M_tellDigits_L4_14 N   h th x1) else (dv (10 : Int32) (cv h (some th) 0 (fun a => f_M_tellDigits_L3 N h a (x1 / (10 : Int32))) fun _ h2 => f_M_tellDigits_L4_14 N   h2 th x1))
def f_M_tellDigits_L5_14 (N : Nat)  (h : hS) (th : Nat) (x1 : Int32) : Option (Unit × hS) := dv (10 : Int32) (cv h (some th) 0 (fun a => f_M_tellByte N h a ((48 : Int32) + (x1 - x1 / (10 : Int32) * (10 : Int32)))) fun _ h2 => some ((), h2))
def f_M_tellDigits_L5 (N : Nat) (h : hS) (th : Nat) (x1 : Int32) : Option (Unit × hS) := if x1 ≤ (9 : Int32) then (f_M_tellDigits_L5_14 N   h th x1) else (dv (10 : Int32) (cv h (some th) 0 (fun a => f_M_tellDigits_L4 N h a (x1 / (10 : Int32))) fun _ h2 => f_M_tellDigits_L5_14 N   h2 th x1))
def f_M_tellDigits_L6_14 (N : Nat)  (h : hS) (th : Nat) (x1 : Int32) : Option (Unit × hS) := dv (10 : Int32) (cv h (some th) 0 (fun a => f_M_tellByte N h a ((48 : Int32) + (x1 - x1 / (10 : Int32) * (10 : Int32)))) fun _ h2 => some ((), h2))
def f_M_tellDigits_L6 (N : Nat) (h : hS) (th : Nat) (x1 : Int32) : Option (Unit × hS) := if x1 ≤ (9 : Int32) then (f_M_tellDigits_L6_14 N   h th x1) else (dv (10 : Int32) (cv h (some th) 0 (fun a => f_M_tellDigits_L5 N h a (x1 / (10 : Int32))) fun _ h2 => f_M_tellDigits_L6_14 N   h2 th x1))
def f_M_tellDigits_L7_14 (N : Nat)  (h : hS) (th : Nat) (x1 : Int32) : Option (Unit × hS) := dv (10 : Int32) (cv h (some th) 0 (fun a => f_M_tellByte N h a ((48 : Int32) + (x1 - x1 / (10 : Int32) * (10 : Int32)))) fun _ h2 => some ((), h2))
def f_M_tellDigits_L7 (N : Nat) (h : hS) (th : Nat) (x1 : Int32) : Option (Unit × hS) := if x1 ≤ (9 : Int32) then (f_M_tellDigits_L7_14 N   h th x1) else (dv (10 : Int32) (cv h (some th) 0 (fun a => f_M_tellDigits_L6 N h a (x1 / (10 : Int32))) fun _ h2 => f_M_tellDigits_L7_14 N   h2 th x1))
def f_M_tellDigits_L8_14 (N : Nat)  (h : hS) (th : Nat) (x1 : Int32) : Option (Unit × hS) := dv (10 : Int32) (cv h (some th) 0 (fun a => f_M_tellByte N h a ((48 : Int32) + (x1 - x1 / (10 : Int32) * (10 : Int32)))) fun _ h2 => some ((), h2))
def f_M_tellDigits_L8 (N : Nat) (h : hS) (th : Nat) (x1 : Int32) : Option (Unit × hS) := if x1 ≤ (9 : Int32) then (f_M_tellDigits_L8_14 N   h th x1) else (dv (10 : Int32) (cv h (some th) 0 (fun a => f_M_tellDigits_L7 N h a (x1 / (10 : Int32))) fun _ h2 => f_M_tellDigits_L8_14 N   h2 th x1))
def f_M_tellDigits_L9_14 (N : Nat)  (h : hS) (th : Nat) (x1 : Int32) : Option (Unit × hS) := dv (10 : Int32) (cv h (some th) 0 (fun a => f_M_tellByte N h a ((48 : Int32) + (x1 - x1 / (10 : Int32) * (10 : Int32)))) fun _ h2 => some ((), h2))
def f_M_tellDigits_L9 (N : Nat) (h : hS) (th : Nat) (x1 : Int32) : Option (Unit × hS) := if x1 ≤ (9 : Int32) then (f_M_tellDigits_L9_14 N   h th x1) else (dv (10 : Int32) (cv h (some th) 0 (fun a => f_M_tellDigits_L8 N h a (x1 / (10 : Int32))) fun _ h2 => f_M_tellDigits_L9_14 N   h2 th x1))
def f_M_tellDigits_L10_14 (N : Nat)  (h : hS) (th : Nat) (x1 : Int32) : Option (Unit × hS) := dv (10 : Int32) (cv h (some th) 0 (fun a => f_M_tellByte N h a ((48 : Int32) + (x1 - x1 / (10 : Int32) * (10 : Int32)))) fun _ h2 => some ((), h2))
def f_M_tellDigits_L10 (N : Nat) (h : hS) (th : Nat) (x1 : Int32) : Option (Unit × hS) := if x1 ≤ (9 : Int32) then (f_M_tellDigits_L10_14 N   h th x1) else (dv (10 : Int32) (cv h (some th) 0 (fun a => f_M_tellDigits_L9 N h a (x1 / (10 : Int32))) fun _ h2 => f_M_tellDigits_L10_14 N   h2 th x1))
def f_M_tellDigits_14 (N : Nat)  (h : hS) (th : Nat) (x1 : Int32) : Option (Unit × hS) := dv (10 : Int32) (cv h (some th) 0 (fun a => f_M_tellByte N h a ((48 : Int32) + (x1 - x1 / (10 : Int32) * (10 : Int32)))) fun _ h2 => some ((), h2))
def f_M_tellDigits (N : Nat) (h : hS) (th : Nat) (x1 : Int32) : Option (Unit × hS) := if x1 ≤ (9 : Int32) then (f_M_tellDigits_14 N   h th x1) else (dv (10 : Int32) (cv h (some th) 0 (fun a => f_M_tellDigits_L10 N h a (x1 / (10 : Int32))) fun _ h2 => f_M_tellDigits_14 N   h2 th x1))
def f_M_tellNumber_16 (N : Nat)  (h : hS) (th : Nat) (x1 : Int32) : Option (Unit × hS) := cv h (some th) 0 (fun a => f_M_tellDigits N h a (jab x1)) fun _ h2 => some ((), h2)
def f_M_tellNumber (N : Nat) (h : hS) (th : Nat) (x1 : Int32) : Option (Unit × hS) := cv h (some th) 0 (fun a => f_M_tellByte N h a (32 : Int32)) fun _ h2 => if (0 : Int32) ≤ x1 then (f_M_tellNumber_16 N   h2 th x1) else (cv h2 (some th) 0 (fun a => f_M_tellByte N h2 a (45 : Int32)) fun _ h4 => f_M_tellNumber_16 N   h4 th x1)
def f_M_tellSteps_105 (N : Nat) (rc7 : hS → Nat → Int32 → Int32 → Option (Unit × hS)) (h : hS) (th : Nat) (x1 : Int32) (x2 : Int32) : Option (Unit × hS) := cv h (some th) 0 (fun a => f_M_tellByte N h a (59 : Int32)) fun _ h2 => bn (x2 + (1 : Int32)) fun v3 => rc7 h2 th x1 v3
def f_M_tellSteps_94 (N : Nat) (rc7 : hS → Nat → Int32 → Int32 → Option (Unit × hS)) (h : hS) (th : Nat) (x1 : Int32) (x2 : Int32) : Option (Unit × hS) := cv h (some th) 0 (fun a => f_M_stepAt N h a x1 x2 (2 : Int32)) fun v1 h2 => cv h2 (some th) 0 (fun a => f_M_tellNumber N h2 a v1) fun _ h4 => f_M_tellSteps_105 N rc7  h4 th x1 x2
def f_M_tellSteps_84 (N : Nat) (rc7 : hS → Nat → Int32 → Int32 → Option (Unit × hS)) (h : hS) (th : Nat) (x1 : Int32) (x2 : Int32) (x3 : Int32) : Option (Unit × hS) := if x3 ≤ (2 : Int32) then (f_M_tellSteps_94 N rc7  h th x1 x2) else (if x3 = (4 : Int32) then (f_M_tellSteps_94 N rc7  h th x1 x2) else (f_M_tellSteps_105 N rc7  h th x1 x2))
def f_M_tellSteps_27 (N : Nat) (rc7 : hS → Nat → Int32 → Int32 → Option (Unit × hS)) : Nat → hS → Nat → Int32 → Int32 → Int32 → Int32 → Option (Unit × hS)
  | 0 => fun _ _ _ _ _ _ => none
  | n + 1 => fun h th x1 x2 x3 x4 => gR h (some th) 0 0 fun v1 => aR h 61 v1 x3 fun v2 => cv h v2 56 (fun a => f_Str_length_8abf5 N h a ) fun v3 h4 => if v3 ≤ x4 then (if x3 = (5 : Int32) then (f_M_tellSteps_84 N rc7  h4 th x1 x2 x3) else (if x3 = (6 : Int32) then (f_M_tellSteps_84 N rc7  h4 th x1 x2 x3) else (cv h4 (some th) 0 (fun a => f_M_stepAt N h4 a x1 x2 (1 : Int32)) fun v5 h6 => cv h6 (some th) 0 (fun a => f_M_tellNumber N h6 a v5) fun _ h8 => f_M_tellSteps_84 N rc7  h8 th x1 x2 x3))) else (gR h4 (some th) 0 0 fun v9 => aR h4 61 v9 x3 fun v10 => cv h4 v10 56 (fun a => f_Str_charAt_5068e N h4 a x4) fun v11 h12 => cv h12 (some th) 0 (fun a => f_M_tellByte N h12 a v11) fun _ h14 => bn (x4 + (1 : Int32)) fun v15 => f_M_tellSteps_27 N rc7 n h14 th x1 x2 x3 v15)
def f_M_tellSteps_7 (N : Nat)  : Nat → hS → Nat → Int32 → Int32 → Option (Unit × hS)
  | 0 => fun _ _ _ _ => none
  | n + 1 => fun h th x1 x2 => cv h (some th) 0 (fun a => f_M_steps N h a x1) fun v1 h2 => if v1 ≤ x2 then (some ((), h2)) else (cv h2 (some th) 0 (fun a => f_M_stepAt N h2 a x1 x2 (0 : Int32)) fun v3 h4 => f_M_tellSteps_27 N (f_M_tellSteps_7 N  n) N h4 th x1 x2 v3 (0 : Int32))
def f_M_tellSteps (N : Nat) (h : hS) (th : Nat) (x1 : Int32) : Option (Unit × hS) := pI h (some th) 0 39 (0 : Int32) fun h1 => f_M_tellSteps_7 N  N h1 th x1 (0 : Int32)
def f_M_told_66 (N : Nat)  (h : hS) (y0 : Int32) : Option (Int32 × hS) := some (y0, h)
def f_M_told (N : Nat) (h : hS) (th : Nat) (x1 : Int32) (x2 : Int32) : Option (Int32 × hS) := pI h (some th) 0 1 (0 : Int32) fun h1 => cv h1 (some th) 0 (fun a => f_M_isCost N h1 a x1) fun v2 h3 => if v2 = (0 : Int32) then (cv h3 (some th) 0 (fun a => f_M_fail N h3 a (1 : Int32)) fun v13 h14 => some (v13, h14)) else (pI h3 (some th) 0 38 x2 fun h4 => pI h4 (some th) 0 40 (-1 : Int32) fun h5 => cv h5 (some th) 0 (fun a => f_M_tellSteps N h5 a x1) fun _ h7 => if x2 = (-1 : Int32) then (gI h7 (some th) 0 39 fun v12 => f_M_told_66 N   h7 v12) else (gI h7 (some th) 0 40 fun v8 => if v8 = (-1 : Int32) then (cv h7 (some th) 0 (fun a => f_M_fail N h7 a (1 : Int32)) fun v10 h11 => f_M_told_66 N   h11 v10) else (gI h7 (some th) 0 40 fun v9 => f_M_told_66 N   h7 v9)))
theorem sh_M_is_82 (N : Nat)  : ∀  (h : hS) (x2 : Int32), Sh h (f_M_is_82 N   h x2) := by
  intro h x2
  unfold f_M_is_82
  exact Sh_bz Sh_some
theorem sh_M_is_75 (N : Nat) {rc39 : hS → Nat → Nat → Int32 → Int32 → Option (Int32 × hS)} (hsh39 : ∀ (h : hS) (th : Nat) (a1 : Nat) (x2 : Int32) (x3 : Int32), Sh h (rc39 h th a1 x2 x3)) : ∀  (h : hS) (th : Nat) (a1 : Nat) (x3 : Int32) (y0 : Int32), Sh h (f_M_is_75 N rc39  h th a1 x3 y0) := by
  intro h th a1 x3 y0
  unfold f_M_is_75
  refine Sh_bn (fun v1 => ?_)
  exact hsh39 h th a1 y0 v1
theorem sh_M_is_39 (N : Nat)  : ∀ (n : Nat) (h : hS) (th : Nat) (a1 : Nat) (x2 : Int32) (x3 : Int32), Sh h (f_M_is_39 N  n h th a1 x2 x3) := by
  intro n
  induction n with
  | zero =>
    intro h th a1 x2 x3
    exact Sh_none
  | succ n ih =>
    intro h th a1 x2 x3
    unfold f_M_is_39
    refine Sh_ite ?_ ?_
    · exact sh_M_is_82 N   h x2
    · refine Sh_cv (fun a => (sh_Str_length_8abf5 N h a )) (fun v1 h2 => ?_)
      refine Sh_ite ?_ ?_
      · exact sh_M_is_82 N   h2 x2
      · refine Sh_cv (fun a => (sh_Str_charAt_5068e N h2 a x3)) (fun v3 h4 => ?_)
        refine Sh_gR (fun v5 => ?_)
        refine Sh_gI (fun v6 => ?_)
        refine Sh_aI (fun v7 => ?_)
        refine Sh_ite ?_ ?_
        · exact sh_M_is_75 N ih  h4 th a1 x3 (1 : Int32)
        · exact sh_M_is_75 N ih  h4 th a1 x3 (0 : Int32)
theorem sh_M_is_36 (N : Nat)  : ∀  (h : hS) (th : Nat) (a1 : Nat) (y0 : Int32), Sh h (f_M_is_36 N   h th a1 y0) := by
  intro h th a1 y0
  unfold f_M_is_36
  exact sh_M_is_39 N  N h th a1 y0 (0 : Int32)
theorem sh_M_is_35 (N : Nat)  : ∀  (h : hS) (th : Nat) (a1 : Nat), Sh h (f_M_is_35 N   h th a1) := by
  intro h th a1
  unfold f_M_is_35
  exact sh_M_is_36 N   h th a1 (0 : Int32)
theorem sh_M_is (N : Nat) (h : hS) (th : Nat) (a1 : Nat) : Sh h (f_M_is N h th a1) := by
  unfold f_M_is
  refine Sh_gI (fun v1 => ?_)
  refine Sh_ite ?_ ?_
  · refine Sh_gI (fun v2 => ?_)
    refine Sh_ite ?_ ?_
    · refine Sh_cv (fun a => (sh_Str_length_8abf5 N h a )) (fun v3 h4 => ?_)
      refine Sh_gI (fun v5 => ?_)
      refine Sh_gI (fun v6 => ?_)
      refine Sh_ite ?_ ?_
      · exact sh_M_is_36 N   h4 th a1 (1 : Int32)
      · exact sh_M_is_35 N   h4 th a1
    · exact sh_M_is_35 N   h th a1
  · exact sh_M_is_35 N   h th a1
theorem sh_M_which_2 (N : Nat)  : ∀ (n : Nat) (h : hS) (th : Nat) (x1 : Int32), Sh h (f_M_which_2 N  n h th x1) := by
  intro n
  induction n with
  | zero =>
    intro h th x1
    exact Sh_none
  | succ n ih =>
    intro h th x1
    unfold f_M_which_2
    refine Sh_gR (fun v1 => ?_)
    refine Sh_lnA (fun v2 => ?_)
    refine Sh_ite ?_ ?_
    · exact Sh_some
    · refine Sh_gR (fun v3 => ?_)
      refine Sh_aR (fun v4 => ?_)
      refine Sh_nn (fun q5 => ?_)
      refine Sh_cv (fun a => (sh_M_is N h a q5)) (fun v6 h7 => ?_)
      refine Sh_ite ?_ ?_
      · refine Sh_bn (fun v8 => ?_)
        exact ih h7 th v8
      · exact Sh_some
theorem sh_M_which (N : Nat) (h : hS) (th : Nat) : Sh h (f_M_which N h th) := by
  unfold f_M_which
  exact sh_M_which_2 N  N h th (0 : Int32)
theorem sh_M_readClause_210 (N : Nat)  : ∀  (h : hS) (th : Nat), Sh h (f_M_readClause_210 N   h th) := by
  intro h th
  unfold f_M_readClause_210
  refine Sh_gR (fun v1 => ?_)
  refine Sh_aI (fun v2 => ?_)
  refine Sh_uI (fun h3 => ?_)
  exact Sh_some
theorem sh_M_readClause_199 (N : Nat)  : ∀  (h : hS) (th : Nat), Sh h (f_M_readClause_199 N   h th) := by
  intro h th
  unfold f_M_readClause_199
  refine Sh_gI (fun v1 => ?_)
  refine Sh_ite ?_ ?_
  · refine Sh_cv (fun a => (sh_M_stepOn N h a )) (fun v2 h3 => ?_)
    exact sh_M_readClause_210 N   h3 th
  · exact sh_M_readClause_210 N   h th
theorem sh_M_readClause_175 (N : Nat)  : ∀  (h : hS) (th : Nat) (x3 : Int32) (y0 : Option Nat) (y1 : Int32) (y2 : Int32), Sh h (f_M_readClause_175 N   h th x3 y0 y1 y2) := by
  intro h th x3 y0 y1 y2
  unfold f_M_readClause_175
  refine Sh_uI (fun h1 => ?_)
  refine Sh_gR (fun v2 => ?_)
  refine Sh_uI (fun h3 => ?_)
  refine Sh_cv (fun a => (sh_M_isMarked N h3 a (59 : Int32))) (fun v4 h5 => ?_)
  refine Sh_ite ?_ ?_
  · refine Sh_cv (fun a => (sh_M_wrong N h5 a (1 : Int32))) (fun v6 h7 => ?_)
    exact sh_M_readClause_199 N   h7 th
  · exact sh_M_readClause_199 N   h5 th
theorem sh_M_readClause_165 (N : Nat)  : ∀  (h : hS) (th : Nat) (x3 : Int32) (y0 : Option Nat) (y1 : Int32), Sh h (f_M_readClause_165 N   h th x3 y0 y1) := by
  intro h th x3 y0 y1
  unfold f_M_readClause_165
  refine Sh_cv (fun a => (sh_M_readNumber N h a (99 : Int32))) (fun v1 h2 => ?_)
  exact sh_M_readClause_175 N   h2 th x3 y0 y1 v1
theorem sh_M_readClause_147 (N : Nat)  : ∀  (h : hS) (th : Nat) (x2 : Int32) (x3 : Int32) (y0 : Option Nat) (y1 : Int32) (y2 : Int32), Sh h (f_M_readClause_147 N   h th x2 x3 y0 y1 y2) := by
  intro h th x2 x3 y0 y1 y2
  unfold f_M_readClause_147
  refine Sh_uI (fun h1 => ?_)
  refine Sh_gR (fun v2 => ?_)
  refine Sh_ite ?_ ?_
  · exact sh_M_readClause_165 N   h1 th x3 v2 (x3 + (2 : Int32))
  · refine Sh_ite ?_ ?_
    · exact sh_M_readClause_165 N   h1 th x3 v2 (x3 + (2 : Int32))
    · exact sh_M_readClause_175 N   h1 th x3 v2 (x3 + (2 : Int32)) (0 : Int32)
theorem sh_M_readClause_38 (N : Nat)  : ∀  (h : hS) (th : Nat) (x1 : Int32) (x2 : Int32), Sh h (f_M_readClause_38 N   h th x1 x2) := by
  intro h th x1 x2
  unfold f_M_readClause_38
  refine Sh_gI (fun v1 => ?_)
  refine Sh_ite ?_ ?_
  · refine Sh_gR (fun v2 => ?_)
    refine Sh_aI (fun v3 => ?_)
    refine Sh_bn (fun v4 => ?_)
    refine Sh_gR (fun v5 => ?_)
    refine Sh_gR (fun v6 => ?_)
    refine Sh_aI (fun v7 => ?_)
    refine Sh_gI (fun v8 => ?_)
    refine Sh_uI (fun h9 => ?_)
    refine Sh_cv (fun a => (sh_M_stepOn N h9 a )) (fun v10 h11 => ?_)
    refine Sh_gR (fun v12 => ?_)
    refine Sh_uI (fun h13 => ?_)
    refine Sh_gR (fun v14 => ?_)
    refine Sh_ite ?_ ?_
    · refine Sh_ite ?_ ?_
      · refine Sh_cv (fun a => (sh_M_readNumber N h13 a (99 : Int32))) (fun v19 h20 => ?_)
        exact sh_M_readClause_147 N   h20 th x2 v4 v14 (v4 + (1 : Int32)) v19
      · refine Sh_ite ?_ ?_
        · refine Sh_cv (fun a => (sh_M_readNumber N h13 a (999 : Int32))) (fun v17 h18 => ?_)
          exact sh_M_readClause_147 N   h18 th x2 v4 v14 (v4 + (1 : Int32)) v17
        · refine Sh_ite ?_ ?_
          · refine Sh_cv (fun a => (sh_M_readCost N h13 a x1)) (fun v15 h16 => ?_)
            exact sh_M_readClause_147 N   h16 th x2 v4 v14 (v4 + (1 : Int32)) v15
          · exact sh_M_readClause_147 N   h13 th x2 v4 v14 (v4 + (1 : Int32)) (0 : Int32)
    · refine Sh_cv (fun a => (sh_M_readPlace N h13 a )) (fun v21 h22 => ?_)
      exact sh_M_readClause_147 N   h22 th x2 v4 v14 (v4 + (1 : Int32)) v21
  · exact Sh_some
theorem sh_M_readClause_15 (N : Nat)  : ∀  (h : hS) (th : Nat) (x1 : Int32) (x2 : Int32), Sh h (f_M_readClause_15 N   h th x1 x2) := by
  intro h th x1 x2
  unfold f_M_readClause_15
  refine Sh_gI (fun v1 => ?_)
  refine Sh_ite ?_ ?_
  · refine Sh_gR (fun v2 => ?_)
    refine Sh_aI (fun v3 => ?_)
    refine Sh_ite ?_ ?_
    · refine Sh_cv (fun a => (sh_M_wrong N h a (3 : Int32))) (fun v4 h5 => ?_)
      exact sh_M_readClause_38 N   h5 th x1 x2
    · exact sh_M_readClause_38 N   h th x1 x2
  · exact sh_M_readClause_38 N   h th x1 x2
theorem sh_M_readClause (N : Nat) (h : hS) (th : Nat) (x1 : Int32) : Sh h (f_M_readClause N h th x1) := by
  unfold f_M_readClause
  refine Sh_cv (fun a => (sh_M_which N h a )) (fun v1 h2 => ?_)
  refine Sh_ite ?_ ?_
  · refine Sh_cv (fun a => (sh_M_wrong N h2 a (1 : Int32))) (fun v3 h4 => ?_)
    exact sh_M_readClause_15 N   h4 th x1 v1
  · exact sh_M_readClause_15 N   h2 th x1 v1
theorem mo_M_text_31 (N : Nat)  : ∀  (h : hS) (th : Nat), Mo h (f_M_text_31 N   h th) := by
  intro h th
  unfold f_M_text_31
  refine Mo_cv (fun a => (Sh.mo (sh_M_fail N h a (2 : Int32)))) (fun v1 h2 => ?_)
  exact Mo_some
theorem mo_M_text_183 (N : Nat)  : ∀ (n : Nat) (h : hS) (th : Nat) (x1 : Int32) (x3 : Int32), Mo h (f_M_text_183 N  n h th x1 x3) := by
  intro n
  induction n with
  | zero =>
    intro h th x1 x3
    exact Mo_none
  | succ n ih =>
    intro h th x1 x3
    unfold f_M_text_183
    refine Mo_ite ?_ ?_
    · exact Mo_some
    · refine Mo_gR (fun v1 => ?_)
      refine Mo_gR (fun v2 => ?_)
      refine Mo_aI (fun v3 => ?_)
      refine Mo_uI (fun h4 => ?_)
      refine Mo_bn (fun v5 => ?_)
      exact ih h4 th x1 v5
theorem mo_M_text_147 (N : Nat)  : ∀  (h : hS) (th : Nat) (x1 : Int32), Mo h (f_M_text_147 N   h th x1) := by
  intro h th x1
  unfold f_M_text_147
  refine Mo_gI (fun v1 => ?_)
  refine Mo_ite ?_ ?_
  · refine Mo_cv (fun a => (Sh.mo (sh_M_keep N h a ))) (fun v2 h3 => ?_)
    exact mo_M_text_183 N  N h3 th x1 (0 : Int32)
  · refine Mo_gI (fun v4 => ?_)
    refine Mo_pI (fun h5 => ?_)
    refine Mo_gR (fun v6 => ?_)
    refine Mo_aI (fun v7 => ?_)
    refine Mo_uI (fun h8 => ?_)
    refine Mo_gI (fun v9 => ?_)
    exact Mo_some
theorem mo_M_text_110 (N : Nat)  : ∀  (h : hS) (th : Nat) (x1 : Int32), Mo h (f_M_text_110 N   h th x1) := by
  intro h th x1
  unfold f_M_text_110
  refine Mo_gI (fun v1 => ?_)
  refine Mo_ite ?_ ?_
  · refine Mo_gR (fun v2 => ?_)
    refine Mo_nn (fun q3 => ?_)
    refine Mo_cv (fun a => (Sh.mo (sh_M_runs N h a q3 (0 : Int32)))) (fun v4 h5 => ?_)
    refine Mo_ite ?_ ?_
    · refine Mo_pI (fun h6 => ?_)
      refine Mo_gR (fun v7 => ?_)
      refine Mo_gI (fun v8 => ?_)
      refine Mo_aI (fun v9 => ?_)
      refine Mo_pI (fun h10 => ?_)
      exact mo_M_text_147 N   h10 th x1
    · exact mo_M_text_147 N   h5 th x1
  · exact mo_M_text_147 N   h th x1
theorem mo_M_text_95 (N : Nat)  : ∀  (h : hS) (th : Nat) (x1 : Int32), Mo h (f_M_text_95 N   h th x1) := by
  intro h th x1
  unfold f_M_text_95
  refine Mo_gI (fun v1 => ?_)
  refine Mo_ite ?_ ?_
  · refine Mo_gR (fun v2 => ?_)
    refine Mo_nn (fun q3 => ?_)
    refine Mo_cv (fun a => (mo_M_laysOnTop N h a q3)) (fun v4 h5 => ?_)
    exact mo_M_text_110 N   h5 th x1
  · exact mo_M_text_110 N   h th x1
theorem mo_M_text_73 (N : Nat)  : ∀ (n : Nat) (h : hS) (th : Nat) (x1 : Int32), Mo h (f_M_text_73 N  n h th x1) := by
  intro n
  induction n with
  | zero =>
    intro h th x1
    exact Mo_none
  | succ n ih =>
    intro h th x1
    unfold f_M_text_73
    refine Mo_gI (fun v1 => ?_)
    refine Mo_ite ?_ ?_
    · refine Mo_gI (fun v2 => ?_)
      refine Mo_ite ?_ ?_
      · exact mo_M_text_95 N   h th x1
      · refine Mo_cv (fun a => (Sh.mo (sh_M_readClause N h a x1))) (fun v3 h4 => ?_)
        exact ih h4 th x1
    · exact mo_M_text_95 N   h th x1
theorem mo_M_text (N : Nat) (h : hS) (th : Nat) (x1 : Int32) (x2 : Int32) : Mo h (f_M_text N h th x1 x2) := by
  unfold f_M_text
  refine Mo_pI (fun h1 => ?_)
  refine Mo_cv (fun a => (Sh.mo (sh_M_isCost N h1 a x1))) (fun v2 h3 => ?_)
  refine Mo_ite ?_ ?_
  · refine Mo_cv (fun a => (Sh.mo (sh_M_fail N h3 a (1 : Int32)))) (fun v14 h15 => ?_)
    exact Mo_some
  · refine Mo_ite ?_ ?_
    · exact mo_M_text_31 N   h3 th
    · refine Mo_gI (fun v4 => ?_)
      refine Mo_ite ?_ ?_
      · refine Mo_pI (fun h5 => ?_)
        refine Mo_pI (fun h6 => ?_)
        refine Mo_pI (fun h7 => ?_)
        refine Mo_pI (fun h8 => ?_)
        refine Mo_pI (fun h9 => ?_)
        refine Mo_gR (fun v10 => ?_)
        refine Mo_uI (fun h11 => ?_)
        refine Mo_cv (fun a => (Sh.mo (sh_M_stepOn N h11 a ))) (fun v12 h13 => ?_)
        exact mo_M_text_73 N  N h13 th x1
      · exact mo_M_text_31 N   h3 th
theorem sh_M_tellDigits_L0 (N : Nat) (h : hS) (th : Nat) (x1 : Int32) : Sh h (f_M_tellDigits_L0 N h th x1) := by
  unfold f_M_tellDigits_L0
  refine Sh_ite ?_ ?_
  · refine Sh_dv ?_
    refine Sh_cv (fun a => (sh_M_tellByte N h a ((48 : Int32) + (x1 - x1 / (10 : Int32) * (10 : Int32))))) (fun v1 h2 => ?_)
    exact Sh_some
  · refine Sh_dv ?_
    exact Sh_none
theorem sh_M_tellDigits_L1_14 (N : Nat)  : ∀  (h : hS) (th : Nat) (x1 : Int32), Sh h (f_M_tellDigits_L1_14 N   h th x1) := by
  intro h th x1
  unfold f_M_tellDigits_L1_14
  refine Sh_dv ?_
  refine Sh_cv (fun a => (sh_M_tellByte N h a ((48 : Int32) + (x1 - x1 / (10 : Int32) * (10 : Int32))))) (fun v1 h2 => ?_)
  exact Sh_some
theorem sh_M_tellDigits_L1 (N : Nat) (h : hS) (th : Nat) (x1 : Int32) : Sh h (f_M_tellDigits_L1 N h th x1) := by
  unfold f_M_tellDigits_L1
  refine Sh_ite ?_ ?_
  · exact sh_M_tellDigits_L1_14 N   h th x1
  · refine Sh_dv ?_
    refine Sh_cv (fun a => (sh_M_tellDigits_L0 N h a (x1 / (10 : Int32)))) (fun v1 h2 => ?_)
    exact sh_M_tellDigits_L1_14 N   h2 th x1
theorem sh_M_tellDigits_L2_14 (N : Nat)  : ∀  (h : hS) (th : Nat) (x1 : Int32), Sh h (f_M_tellDigits_L2_14 N   h th x1) := by
  intro h th x1
  unfold f_M_tellDigits_L2_14
  refine Sh_dv ?_
  refine Sh_cv (fun a => (sh_M_tellByte N h a ((48 : Int32) + (x1 - x1 / (10 : Int32) * (10 : Int32))))) (fun v1 h2 => ?_)
  exact Sh_some
theorem sh_M_tellDigits_L2 (N : Nat) (h : hS) (th : Nat) (x1 : Int32) : Sh h (f_M_tellDigits_L2 N h th x1) := by
  unfold f_M_tellDigits_L2
  refine Sh_ite ?_ ?_
  · exact sh_M_tellDigits_L2_14 N   h th x1
  · refine Sh_dv ?_
    refine Sh_cv (fun a => (sh_M_tellDigits_L1 N h a (x1 / (10 : Int32)))) (fun v1 h2 => ?_)
    exact sh_M_tellDigits_L2_14 N   h2 th x1
theorem sh_M_tellDigits_L3_14 (N : Nat)  : ∀  (h : hS) (th : Nat) (x1 : Int32), Sh h (f_M_tellDigits_L3_14 N   h th x1) := by
  intro h th x1
  unfold f_M_tellDigits_L3_14
  refine Sh_dv ?_
  refine Sh_cv (fun a => (sh_M_tellByte N h a ((48 : Int32) + (x1 - x1 / (10 : Int32) * (10 : Int32))))) (fun v1 h2 => ?_)
  exact Sh_some
theorem sh_M_tellDigits_L3 (N : Nat) (h : hS) (th : Nat) (x1 : Int32) : Sh h (f_M_tellDigits_L3 N h th x1) := by
  unfold f_M_tellDigits_L3
  refine Sh_ite ?_ ?_
  · exact sh_M_tellDigits_L3_14 N   h th x1
  · refine Sh_dv ?_
    refine Sh_cv (fun a => (sh_M_tellDigits_L2 N h a (x1 / (10 : Int32)))) (fun v1 h2 => ?_)
    exact sh_M_tellDigits_L3_14 N   h2 th x1
theorem sh_M_tellDigits_L4_14 (N : Nat)  : ∀  (h : hS) (th : Nat) (x1 : Int32), Sh h (f_M_tellDigits_L4_14 N   h th x1) := by
  intro h th x1
  unfold f_M_tellDigits_L4_14
  refine Sh_dv ?_
  refine Sh_cv (fun a => (sh_M_tellByte N h a ((48 : Int32) + (x1 - x1 / (10 : Int32) * (10 : Int32))))) (fun v1 h2 => ?_)
  exact Sh_some
theorem sh_M_tellDigits_L4 (N : Nat) (h : hS) (th : Nat) (x1 : Int32) : Sh h (f_M_tellDigits_L4 N h th x1) := by
  unfold f_M_tellDigits_L4
  refine Sh_ite ?_ ?_
  · exact sh_M_tellDigits_L4_14 N   h th x1
  · refine Sh_dv ?_
    refine Sh_cv (fun a => (sh_M_tellDigits_L3 N h a (x1 / (10 : Int32)))) (fun v1 h2 => ?_)
    exact sh_M_tellDigits_L4_14 N   h2 th x1
theorem sh_M_tellDigits_L5_14 (N : Nat)  : ∀  (h : hS) (th : Nat) (x1 : Int32), Sh h (f_M_tellDigits_L5_14 N   h th x1) := by
  intro h th x1
  unfold f_M_tellDigits_L5_14
  refine Sh_dv ?_
  refine Sh_cv (fun a => (sh_M_tellByte N h a ((48 : Int32) + (x1 - x1 / (10 : Int32) * (10 : Int32))))) (fun v1 h2 => ?_)
  exact Sh_some
theorem sh_M_tellDigits_L5 (N : Nat) (h : hS) (th : Nat) (x1 : Int32) : Sh h (f_M_tellDigits_L5 N h th x1) := by
  unfold f_M_tellDigits_L5
  refine Sh_ite ?_ ?_
  · exact sh_M_tellDigits_L5_14 N   h th x1
  · refine Sh_dv ?_
    refine Sh_cv (fun a => (sh_M_tellDigits_L4 N h a (x1 / (10 : Int32)))) (fun v1 h2 => ?_)
    exact sh_M_tellDigits_L5_14 N   h2 th x1
theorem sh_M_tellDigits_L6_14 (N : Nat)  : ∀  (h : hS) (th : Nat) (x1 : Int32), Sh h (f_M_tellDigits_L6_14 N   h th x1) := by
  intro h th x1
  unfold f_M_tellDigits_L6_14
  refine Sh_dv ?_
  refine Sh_cv (fun a => (sh_M_tellByte N h a ((48 : Int32) + (x1 - x1 / (10 : Int32) * (10 : Int32))))) (fun v1 h2 => ?_)
  exact Sh_some
theorem sh_M_tellDigits_L6 (N : Nat) (h : hS) (th : Nat) (x1 : Int32) : Sh h (f_M_tellDigits_L6 N h th x1) := by
  unfold f_M_tellDigits_L6
  refine Sh_ite ?_ ?_
  · exact sh_M_tellDigits_L6_14 N   h th x1
  · refine Sh_dv ?_
    refine Sh_cv (fun a => (sh_M_tellDigits_L5 N h a (x1 / (10 : Int32)))) (fun v1 h2 => ?_)
    exact sh_M_tellDigits_L6_14 N   h2 th x1
theorem sh_M_tellDigits_L7_14 (N : Nat)  : ∀  (h : hS) (th : Nat) (x1 : Int32), Sh h (f_M_tellDigits_L7_14 N   h th x1) := by
  intro h th x1
  unfold f_M_tellDigits_L7_14
  refine Sh_dv ?_
  refine Sh_cv (fun a => (sh_M_tellByte N h a ((48 : Int32) + (x1 - x1 / (10 : Int32) * (10 : Int32))))) (fun v1 h2 => ?_)
  exact Sh_some
theorem sh_M_tellDigits_L7 (N : Nat) (h : hS) (th : Nat) (x1 : Int32) : Sh h (f_M_tellDigits_L7 N h th x1) := by
  unfold f_M_tellDigits_L7
  refine Sh_ite ?_ ?_
  · exact sh_M_tellDigits_L7_14 N   h th x1
  · refine Sh_dv ?_
    refine Sh_cv (fun a => (sh_M_tellDigits_L6 N h a (x1 / (10 : Int32)))) (fun v1 h2 => ?_)
    exact sh_M_tellDigits_L7_14 N   h2 th x1
theorem sh_M_tellDigits_L8_14 (N : Nat)  : ∀  (h : hS) (th : Nat) (x1 : Int32), Sh h (f_M_tellDigits_L8_14 N   h th x1) := by
  intro h th x1
  unfold f_M_tellDigits_L8_14
  refine Sh_dv ?_
  refine Sh_cv (fun a => (sh_M_tellByte N h a ((48 : Int32) + (x1 - x1 / (10 : Int32) * (10 : Int32))))) (fun v1 h2 => ?_)
  exact Sh_some
theorem sh_M_tellDigits_L8 (N : Nat) (h : hS) (th : Nat) (x1 : Int32) : Sh h (f_M_tellDigits_L8 N h th x1) := by
  unfold f_M_tellDigits_L8
  refine Sh_ite ?_ ?_
  · exact sh_M_tellDigits_L8_14 N   h th x1
  · refine Sh_dv ?_
    refine Sh_cv (fun a => (sh_M_tellDigits_L7 N h a (x1 / (10 : Int32)))) (fun v1 h2 => ?_)
    exact sh_M_tellDigits_L8_14 N   h2 th x1
theorem sh_M_tellDigits_L9_14 (N : Nat)  : ∀  (h : hS) (th : Nat) (x1 : Int32), Sh h (f_M_tellDigits_L9_14 N   h th x1) := by
  intro h th x1
  unfold f_M_tellDigits_L9_14
  refine Sh_dv ?_
  refine Sh_cv (fun a => (sh_M_tellByte N h a ((48 : Int32) + (x1 - x1 / (10 : Int32) * (10 : Int32))))) (fun v1 h2 => ?_)
  exact Sh_some
theorem sh_M_tellDigits_L9 (N : Nat) (h : hS) (th : Nat) (x1 : Int32) : Sh h (f_M_tellDigits_L9 N h th x1) := by
  unfold f_M_tellDigits_L9
  refine Sh_ite ?_ ?_
  · exact sh_M_tellDigits_L9_14 N   h th x1
  · refine Sh_dv ?_
    refine Sh_cv (fun a => (sh_M_tellDigits_L8 N h a (x1 / (10 : Int32)))) (fun v1 h2 => ?_)
    exact sh_M_tellDigits_L9_14 N   h2 th x1
theorem sh_M_tellDigits_L10_14 (N : Nat)  : ∀  (h : hS) (th : Nat) (x1 : Int32), Sh h (f_M_tellDigits_L10_14 N   h th x1) := by
  intro h th x1
  unfold f_M_tellDigits_L10_14
  refine Sh_dv ?_
  refine Sh_cv (fun a => (sh_M_tellByte N h a ((48 : Int32) + (x1 - x1 / (10 : Int32) * (10 : Int32))))) (fun v1 h2 => ?_)
  exact Sh_some
theorem sh_M_tellDigits_L10 (N : Nat) (h : hS) (th : Nat) (x1 : Int32) : Sh h (f_M_tellDigits_L10 N h th x1) := by
  unfold f_M_tellDigits_L10
  refine Sh_ite ?_ ?_
  · exact sh_M_tellDigits_L10_14 N   h th x1
  · refine Sh_dv ?_
    refine Sh_cv (fun a => (sh_M_tellDigits_L9 N h a (x1 / (10 : Int32)))) (fun v1 h2 => ?_)
    exact sh_M_tellDigits_L10_14 N   h2 th x1
theorem sh_M_tellDigits_14 (N : Nat)  : ∀  (h : hS) (th : Nat) (x1 : Int32), Sh h (f_M_tellDigits_14 N   h th x1) := by
  intro h th x1
  unfold f_M_tellDigits_14
  refine Sh_dv ?_
  refine Sh_cv (fun a => (sh_M_tellByte N h a ((48 : Int32) + (x1 - x1 / (10 : Int32) * (10 : Int32))))) (fun v1 h2 => ?_)
  exact Sh_some
theorem sh_M_tellDigits (N : Nat) (h : hS) (th : Nat) (x1 : Int32) : Sh h (f_M_tellDigits N h th x1) := by
  unfold f_M_tellDigits
  refine Sh_ite ?_ ?_
  · exact sh_M_tellDigits_14 N   h th x1
  · refine Sh_dv ?_
    refine Sh_cv (fun a => (sh_M_tellDigits_L10 N h a (x1 / (10 : Int32)))) (fun v1 h2 => ?_)
    exact sh_M_tellDigits_14 N   h2 th x1
theorem sh_M_tellNumber_16 (N : Nat)  : ∀  (h : hS) (th : Nat) (x1 : Int32), Sh h (f_M_tellNumber_16 N   h th x1) := by
  intro h th x1
  unfold f_M_tellNumber_16
  refine Sh_cv (fun a => (sh_M_tellDigits N h a (jab x1))) (fun v1 h2 => ?_)
  exact Sh_some
theorem sh_M_tellNumber (N : Nat) (h : hS) (th : Nat) (x1 : Int32) : Sh h (f_M_tellNumber N h th x1) := by
  unfold f_M_tellNumber
  refine Sh_cv (fun a => (sh_M_tellByte N h a (32 : Int32))) (fun v1 h2 => ?_)
  refine Sh_ite ?_ ?_
  · exact sh_M_tellNumber_16 N   h2 th x1
  · refine Sh_cv (fun a => (sh_M_tellByte N h2 a (45 : Int32))) (fun v3 h4 => ?_)
    exact sh_M_tellNumber_16 N   h4 th x1
theorem sh_M_tellSteps_105 (N : Nat) {rc7 : hS → Nat → Int32 → Int32 → Option (Unit × hS)} (hsh7 : ∀ (h : hS) (th : Nat) (x1 : Int32) (x2 : Int32), Sh h (rc7 h th x1 x2)) : ∀  (h : hS) (th : Nat) (x1 : Int32) (x2 : Int32), Sh h (f_M_tellSteps_105 N rc7  h th x1 x2) := by
  intro h th x1 x2
  unfold f_M_tellSteps_105
  refine Sh_cv (fun a => (sh_M_tellByte N h a (59 : Int32))) (fun v1 h2 => ?_)
  refine Sh_bn (fun v3 => ?_)
  exact hsh7 h2 th x1 v3
theorem sh_M_tellSteps_94 (N : Nat) {rc7 : hS → Nat → Int32 → Int32 → Option (Unit × hS)} (hsh7 : ∀ (h : hS) (th : Nat) (x1 : Int32) (x2 : Int32), Sh h (rc7 h th x1 x2)) : ∀  (h : hS) (th : Nat) (x1 : Int32) (x2 : Int32), Sh h (f_M_tellSteps_94 N rc7  h th x1 x2) := by
  intro h th x1 x2
  unfold f_M_tellSteps_94
  refine Sh_cv (fun a => (sh_M_stepAt N h a x1 x2 (2 : Int32))) (fun v1 h2 => ?_)
  refine Sh_cv (fun a => (sh_M_tellNumber N h2 a v1)) (fun v3 h4 => ?_)
  exact sh_M_tellSteps_105 N hsh7  h4 th x1 x2
theorem sh_M_tellSteps_84 (N : Nat) {rc7 : hS → Nat → Int32 → Int32 → Option (Unit × hS)} (hsh7 : ∀ (h : hS) (th : Nat) (x1 : Int32) (x2 : Int32), Sh h (rc7 h th x1 x2)) : ∀  (h : hS) (th : Nat) (x1 : Int32) (x2 : Int32) (x3 : Int32), Sh h (f_M_tellSteps_84 N rc7  h th x1 x2 x3) := by
  intro h th x1 x2 x3
  unfold f_M_tellSteps_84
  refine Sh_ite ?_ ?_
  · exact sh_M_tellSteps_94 N hsh7  h th x1 x2
  · refine Sh_ite ?_ ?_
    · exact sh_M_tellSteps_94 N hsh7  h th x1 x2
    · exact sh_M_tellSteps_105 N hsh7  h th x1 x2
theorem sh_M_tellSteps_27 (N : Nat) {rc7 : hS → Nat → Int32 → Int32 → Option (Unit × hS)} (hsh7 : ∀ (h : hS) (th : Nat) (x1 : Int32) (x2 : Int32), Sh h (rc7 h th x1 x2)) : ∀ (n : Nat) (h : hS) (th : Nat) (x1 : Int32) (x2 : Int32) (x3 : Int32) (x4 : Int32), Sh h (f_M_tellSteps_27 N rc7 n h th x1 x2 x3 x4) := by
  intro n
  induction n with
  | zero =>
    intro h th x1 x2 x3 x4
    exact Sh_none
  | succ n ih =>
    intro h th x1 x2 x3 x4
    unfold f_M_tellSteps_27
    refine Sh_gR (fun v1 => ?_)
    refine Sh_aR (fun v2 => ?_)
    refine Sh_cv (fun a => (sh_Str_length_8abf5 N h a )) (fun v3 h4 => ?_)
    refine Sh_ite ?_ ?_
    · refine Sh_ite ?_ ?_
      · exact sh_M_tellSteps_84 N hsh7  h4 th x1 x2 x3
      · refine Sh_ite ?_ ?_
        · exact sh_M_tellSteps_84 N hsh7  h4 th x1 x2 x3
        · refine Sh_cv (fun a => (sh_M_stepAt N h4 a x1 x2 (1 : Int32))) (fun v5 h6 => ?_)
          refine Sh_cv (fun a => (sh_M_tellNumber N h6 a v5)) (fun v7 h8 => ?_)
          exact sh_M_tellSteps_84 N hsh7  h8 th x1 x2 x3
    · refine Sh_gR (fun v9 => ?_)
      refine Sh_aR (fun v10 => ?_)
      refine Sh_cv (fun a => (sh_Str_charAt_5068e N h4 a x4)) (fun v11 h12 => ?_)
      refine Sh_cv (fun a => (sh_M_tellByte N h12 a v11)) (fun v13 h14 => ?_)
      refine Sh_bn (fun v15 => ?_)
      exact ih h14 th x1 x2 x3 v15
theorem sh_M_tellSteps_7 (N : Nat)  : ∀ (n : Nat) (h : hS) (th : Nat) (x1 : Int32) (x2 : Int32), Sh h (f_M_tellSteps_7 N  n h th x1 x2) := by
  intro n
  induction n with
  | zero =>
    intro h th x1 x2
    exact Sh_none
  | succ n ih =>
    intro h th x1 x2
    unfold f_M_tellSteps_7
    refine Sh_cv (fun a => (sh_M_steps N h a x1)) (fun v1 h2 => ?_)
    refine Sh_ite ?_ ?_
    · exact Sh_some
    · refine Sh_cv (fun a => (sh_M_stepAt N h2 a x1 x2 (0 : Int32))) (fun v3 h4 => ?_)
      exact sh_M_tellSteps_27 N ih N h4 th x1 x2 v3 (0 : Int32)
theorem sh_M_tellSteps (N : Nat) (h : hS) (th : Nat) (x1 : Int32) : Sh h (f_M_tellSteps N h th x1) := by
  unfold f_M_tellSteps
  refine Sh_pI (fun h1 => ?_)
  exact sh_M_tellSteps_7 N  N h1 th x1 (0 : Int32)
theorem sh_M_told_66 (N : Nat)  : ∀  (h : hS) (y0 : Int32), Sh h (f_M_told_66 N   h y0) := by
  intro h y0
  unfold f_M_told_66
  exact Sh_some
theorem sh_M_told (N : Nat) (h : hS) (th : Nat) (x1 : Int32) (x2 : Int32) : Sh h (f_M_told N h th x1 x2) := by
  unfold f_M_told
  refine Sh_pI (fun h1 => ?_)
  refine Sh_cv (fun a => (sh_M_isCost N h1 a x1)) (fun v2 h3 => ?_)
  refine Sh_ite ?_ ?_
  · refine Sh_cv (fun a => (sh_M_fail N h3 a (1 : Int32))) (fun v13 h14 => ?_)
    exact Sh_some
  · refine Sh_pI (fun h4 => ?_)
    refine Sh_pI (fun h5 => ?_)
    refine Sh_cv (fun a => (sh_M_tellSteps N h5 a x1)) (fun v6 h7 => ?_)
    refine Sh_ite ?_ ?_
    · refine Sh_gI (fun v12 => ?_)
      exact sh_M_told_66 N   h7 v12
    · refine Sh_gI (fun v8 => ?_)
      refine Sh_ite ?_ ?_
      · refine Sh_cv (fun a => (sh_M_fail N h7 a (1 : Int32))) (fun v10 h11 => ?_)
        exact sh_M_told_66 N   h11 v10
      · refine Sh_gI (fun v9 => ?_)
        exact sh_M_told_66 N   h7 v9
set_option maxRecDepth 20000 in
set_option maxHeartbeats 4000000 in
theorem b_M_is_82 {p : Program} {l : Launch} {e : Env} {s : State} {m : MethodId} {args : Array Value} {below : List Frame} {meth : Method} {c : Code} {D : va_G} {cy : cyT} {z : Nat} (C : MX p s m args meth c cX12_is 4 ((some .boolean)) RX12 (Cond.code yX12_is cX12_is 4 ((some .boolean)) :: GW)) (N : Nat) {r : Int32} {g : hS}  : ∀  (h : hS) (x2 : Int32) (H : Heap) (locs : List Loc) (ls : Array Slot), wd D cy z s 0 h H locs → lv_has ls 4 [(2, .int x2)] → f_M_is_82 N   h x2 = some (r, g) → W p l e { frames := 4, cells := 0, slots := 0, locals := 85 } s m args below meth c H locs 0 0 (MQ below (eQ D cy z (rI r) g) args s 0 0 (fun q => z ≤ q)) (F0 m 82 ls []) := by
  obtain ⟨hx, hb, hr, hml, hown, hts, hlk⟩ := id C
  intro  h x2 H locs ls w  hl hE
  unfold f_M_is_82 at hE
  refine lv_iload_n hx hb dX12_is_82 rfl (lv_at hl 0 rfl) ?_
  exact w_zret C w hE dX12_is_83
set_option maxRecDepth 20000 in
set_option maxHeartbeats 4000000 in
theorem b_M_is_75 {p : Program} {l : Launch} {e : Env} {s : State} {m : MethodId} {args : Array Value} {below : List Frame} {meth : Method} {c : Code} {D : va_G} {cy : cyT} {z : Nat} (C : MX p s m args meth c cX12_is 4 ((some .boolean)) RX12 (Cond.code yX12_is cX12_is 4 ((some .boolean)) :: GW)) (N : Nat) {r : Int32} {g : hS} {rc39 : hS → Nat → Nat → Int32 → Int32 → Option (Int32 × hS)}  (hrc39 : ∀ (h : hS) (th : Nat) (a1 : Nat) (x2 : Int32) (x3 : Int32) (H : Heap) (locs : List Loc) (ls : Array Slot), wd D cy z s 0 h H locs → lv_has ls 4 [(0, .ref th), (1, .ref a1), (2, .int x2), (3, .int x3)] → rc39 h th a1 x2 x3 = some (r, g) → W p l e { frames := 4, cells := 0, slots := 0, locals := 85 } s m args below meth c H locs 0 0 (MQ below (eQ D cy z (rI r) g) args s 0 0 (fun q => z ≤ q)) (F0 m 39 ls [])) : ∀  (h : hS) (th : Nat) (a1 : Nat) (x3 : Int32) (y0 : Int32) (H : Heap) (locs : List Loc) (ls : Array Slot), wd D cy z s 0 h H locs → lv_has ls 4 [(0, .ref th), (1, .ref a1), (3, .int x3)] → f_M_is_75 N rc39  h th a1 x3 y0 = some (r, g) → W p l e { frames := 4, cells := 0, slots := 0, locals := 85 } s m args below meth c H locs 0 0 (MQ below (eQ D cy z (rI r) g) args s 0 0 (fun q => z ≤ q)) (F0 m 75 ls [.int y0]) := by
  obtain ⟨hx, hb, hr, hml, hown, hts, hlk⟩ := id C
  intro  h th a1 x3 y0 H locs ls w  hl hE
  unfold f_M_is_75 at hE
  refine lv_istore_n (lv' := [(2, .int y0), (0, .ref th), (1, .ref a1), (3, .int x3)]) hx hb dX12_is_75 rfl hl (by decide) rfl (fun ls hl => ?_)
  obtain ⟨v1, ev1, e1⟩ := bn_some hE
  refine lv_iinc (v := v1) (lv' := [(3, .int v1), (2, .int y0), (0, .ref th), (1, .ref a1)]) hx hb dX12_is_76 hl (k := 3) rfl (by rw [ev1]; rfl) (by decide) rfl (fun ls hl => ?_)
  refine lv_goto (tgt := 39) hx hb dX12_is_79 (by decide) ?_
  exact hrc39  h th a1 y0 v1 _ _ ls w  (lv_sub hl [2, 3, 1, 0] rfl) e1
set_option maxRecDepth 20000 in
set_option maxHeartbeats 4000000 in
theorem b_M_is_39 {p : Program} {l : Launch} {e : Env} {s : State} {m : MethodId} {args : Array Value} {below : List Frame} {meth : Method} {c : Code} {D : va_G} {cy : cyT} {z : Nat} (C : MX p s m args meth c cX12_is 4 ((some .boolean)) RX12 (Cond.code yX12_is cX12_is 4 ((some .boolean)) :: GW)) (N : Nat) {r : Int32} {g : hS}  : ∀ (n : Nat) (h : hS) (th : Nat) (a1 : Nat) (x2 : Int32) (x3 : Int32) (H : Heap) (locs : List Loc) (ls : Array Slot), wd D cy z s 0 h H locs → lv_has ls 4 [(0, .ref th), (1, .ref a1), (2, .int x2), (3, .int x3)] → f_M_is_39 N  n h th a1 x2 x3 = some (r, g) → W p l e { frames := 4, cells := 0, slots := 0, locals := 85 } s m args below meth c H locs 0 0 (MQ below (eQ D cy z (rI r) g) args s 0 0 (fun q => z ≤ q)) (F0 m 39 ls []) := by
  obtain ⟨hx, hb, hr, hml, hown, hts, hlk⟩ := id C
  intro n
  induction n with
  | zero =>
    intro  h th a1 x2 x3 H locs ls w  hl hE
    cases hE
  | succ n ih =>
    intro  h th a1 x2 x3 H locs ls w  hl hE
    unfold f_M_is_39 at hE
    refine lv_iload_n hx hb dX12_is_39 rfl (lv_at hl 2 rfl) ?_
    refine w_if_eq (tgt := 82) C dX12_is_40 (by decide) hE (fun hc e1 => ?_) (fun hc e1 => ?_)
    · exact b_M_is_82 C N     h x2 _ _ ls w  (lv_sub hl [2] rfl) e1
    · refine lv_iload_n hx hb dX12_is_43 rfl (lv_at hl 3 rfl) ?_
      refine lv_aload_n hx hb dX12_is_44 rfl (lv_at hl 1 rfl) ?_
      refine w_VSI GW_good (n := 0) (F := 1) (Lc := 20) (o := some a1) (av := []) (rest := [.int x3]) C w (fun a r g hf => k_Str_length_8abf5 l D cy z N h a  r g hf) gw_26_15 gw_11_22 gw_11_23 gw_12_0 gw_12_1 (by decide +kernel) ⟨Nat.le_of_ble_eq_true rfl, Nat.le_of_ble_eq_true rfl⟩ rfl hl.1 rfl (Nat.le_of_ble_eq_true rfl) dX12_is_45 (fun a => (sh_Str_length_8abf5 N h a )) ⟨by decide, by decide⟩ e1 (fun v1 h2 H locs w hsh2 e2 => ?_)
      refine w_icmp_ge (tgt := 82) C dX12_is_48 (by decide) e2 (fun hc e3 => ?_) (fun hc e3 => ?_)
      · exact b_M_is_82 C N     h2 x2 _ _ ls w  (lv_sub hl [2] rfl) e3
      · refine lv_aload_n hx hb dX12_is_51 rfl (lv_at hl 1 rfl) ?_
        refine lv_iload_n hx hb dX12_is_52 rfl (lv_at hl 3 rfl) ?_
        refine w_VSI GW_good (n := 1) (F := 3) (Lc := 64) (o := some a1) (av := [.int x3]) (rest := []) C w (fun a r g hf => k_Str_charAt_5068e l D cy z N h2 a x3 r g hf) gw_26_16 gw_12_10 gw_12_11 gw_12_0 gw_12_12 (by decide +kernel) ⟨Nat.le_of_ble_eq_true rfl, Nat.le_of_ble_eq_true rfl⟩ rfl hl.1 rfl (Nat.le_of_ble_eq_true rfl) dX12_is_53 (fun a => (sh_Str_charAt_5068e N h2 a x3)) ⟨by decide, by decide⟩ e3 (fun v3 h4 H locs w hsh4 e4 => ?_)
        refine lv_aload_n hx hb dX12_is_56 rfl (lv_at hl 0 rfl) ?_
        refine w_gR (r := some th) (ci := 0) (k := 17) C w rfl (by decide) (GF_wsX120 _) (by decide) rfl (List.mem_cons_of_mem _ gw_7_11) rfl dX12_is_57 e4 (fun v5 e5 => ?_)
        refine lv_aload_n hx hb dX12_is_60 rfl (lv_at hl 0 rfl) ?_
        refine w_gI (r := some th) (ci := 0) (k := 25) C w rfl (by decide) (GF_wsX120 _) (by decide) rfl (List.mem_cons_of_mem _ gw_25_12) rfl dX12_is_61 e5 (fun v6 e6 => ?_)
        refine lv_iload_n hx hb dX12_is_64 rfl (lv_at hl 3 rfl) ?_
        refine lv_iadd hx hb dX12_is_65 ?_
        refine w_aI (r := v5) C w dX12_is_66 e6 (fun v7 e7 => ?_)
        refine w_icmp_ne (tgt := 74) C dX12_is_67 (by decide) e7 (fun hc e8 => ?_) (fun hc e8 => ?_)
        · refine lv_iconst (v := 0) hx hb dX12_is_74 (by decide) ?_
          exact b_M_is_75 C N  ih   h4 th a1 x3 (0 : Int32) _ _ ls w  (lv_sub hl [0, 1, 3] rfl) e8
        · refine lv_iconst (v := 1) hx hb dX12_is_70 (by decide) ?_
          refine lv_goto (tgt := 75) hx hb dX12_is_71 (by decide) ?_
          exact b_M_is_75 C N  ih   h4 th a1 x3 (1 : Int32) _ _ ls w  (lv_sub hl [0, 1, 3] rfl) e8
set_option maxRecDepth 20000 in
set_option maxHeartbeats 4000000 in
theorem b_M_is_36 {p : Program} {l : Launch} {e : Env} {s : State} {m : MethodId} {args : Array Value} {below : List Frame} {meth : Method} {c : Code} {D : va_G} {cy : cyT} {z : Nat} (C : MX p s m args meth c cX12_is 4 ((some .boolean)) RX12 (Cond.code yX12_is cX12_is 4 ((some .boolean)) :: GW)) (N : Nat) {r : Int32} {g : hS}  : ∀  (h : hS) (th : Nat) (a1 : Nat) (y0 : Int32) (H : Heap) (locs : List Loc) (ls : Array Slot), wd D cy z s 0 h H locs → lv_has ls 4 [(0, .ref th), (1, .ref a1)] → f_M_is_36 N   h th a1 y0 = some (r, g) → W p l e { frames := 4, cells := 0, slots := 0, locals := 85 } s m args below meth c H locs 0 0 (MQ below (eQ D cy z (rI r) g) args s 0 0 (fun q => z ≤ q)) (F0 m 36 ls [.int y0]) := by
  obtain ⟨hx, hb, hr, hml, hown, hts, hlk⟩ := id C
  intro  h th a1 y0 H locs ls w  hl hE
  unfold f_M_is_36 at hE
  refine lv_istore_n (lv' := [(2, .int y0), (0, .ref th), (1, .ref a1)]) hx hb dX12_is_36 rfl hl (by decide) rfl (fun ls hl => ?_)
  refine lv_iconst (v := 0) hx hb dX12_is_37 (by decide) ?_
  refine lv_istore_n (lv' := [(3, .int (0 : Int32)), (2, .int y0), (0, .ref th), (1, .ref a1)]) hx hb dX12_is_38 rfl hl (by decide) rfl (fun ls hl => ?_)
  exact b_M_is_39 C N   N  h th a1 y0 (0 : Int32) _ _ ls w  (lv_sub hl [2, 3, 1, 0] rfl) hE
set_option maxRecDepth 20000 in
set_option maxHeartbeats 4000000 in
theorem b_M_is_35 {p : Program} {l : Launch} {e : Env} {s : State} {m : MethodId} {args : Array Value} {below : List Frame} {meth : Method} {c : Code} {D : va_G} {cy : cyT} {z : Nat} (C : MX p s m args meth c cX12_is 4 ((some .boolean)) RX12 (Cond.code yX12_is cX12_is 4 ((some .boolean)) :: GW)) (N : Nat) {r : Int32} {g : hS}  : ∀  (h : hS) (th : Nat) (a1 : Nat) (H : Heap) (locs : List Loc) (ls : Array Slot), wd D cy z s 0 h H locs → lv_has ls 4 [(0, .ref th), (1, .ref a1)] → f_M_is_35 N   h th a1 = some (r, g) → W p l e { frames := 4, cells := 0, slots := 0, locals := 85 } s m args below meth c H locs 0 0 (MQ below (eQ D cy z (rI r) g) args s 0 0 (fun q => z ≤ q)) (F0 m 35 ls []) := by
  obtain ⟨hx, hb, hr, hml, hown, hts, hlk⟩ := id C
  intro  h th a1 H locs ls w  hl hE
  unfold f_M_is_35 at hE
  refine lv_iconst (v := 0) hx hb dX12_is_35 (by decide) ?_
  exact b_M_is_36 C N     h th a1 (0 : Int32) _ _ ls w  (lv_sub hl [0, 1] rfl) hE
set_option maxRecDepth 20000 in
set_option maxHeartbeats 4000000 in
theorem k_M_is (l : Launch) (D : va_G) (cy : cyT) (z : Nat) (N : Nat) (h : hS) (th : Nat) (a1 : Nat) (r : Int32) (g : hS) (hE : f_M_is N h th a1 = some (r, g)) : ct l yX12_is (Cond.code yX12_is cX12_is 4 ((some .boolean)) :: GW) { frames := 4, cells := 0, slots := 0, locals := 85 } D cy z h [.ref th, .ref a1] (rI r) g := by
  refine Met.ofW (cc := cX12_is) (maxL := 4) (ret := (some .boolean)) (by decide) rfl ?_
  intro p e s m args below meth c s₁ B hml hv
  obtain ⟨rfl, hw⟩ := hv
  have C : MX p s m ([.ref th, .ref a1] : List Value).toArray meth c cX12_is 4 ((some .boolean)) RX12 (Cond.code yX12_is cX12_is 4 ((some .boolean)) :: GW) := ⟨B.exec, B.bytes, B.returns, hml, findClass_of_methodNamed B.named, atoms_spec (ws := Cond.code yX12_is cX12_is 4 ((some .boolean)) :: GW) B.pre, B.notSynchronized⟩
  obtain ⟨hx, hb, hr, hml, hown, hts, hlk⟩ := id C
  have w := wd_of hw
  obtain ⟨ls, hen, hl⟩ : ∃ ls : Array Slot, entryFrame m ([.ref th, .ref a1] : List Value).toArray 4 = F0 m 0 ls [] ∧ lv_has ls 4 [(0, .ref th), (1, .ref a1)] := by
    exact ⟨_, lg_entry_eq _ _ _, lv_entry _ (Nat.le_of_ble_eq_true rfl)⟩
  rw [hen]
  unfold f_M_is at hE
  refine lv_aload_n hx hb dX12_is_0 rfl (lv_at hl 0 rfl) ?_
  refine w_gI (r := some th) (ci := 0) (k := 27) C w rfl (by decide) (GF_wsX120 _) (by decide) rfl (List.mem_cons_of_mem _ gw_24_16) rfl dX12_is_1 hE (fun v1 e1 => ?_)
  refine w_if_ne (tgt := 35) C dX12_is_4 (by decide) e1 (fun hc e2 => ?_) (fun hc e2 => ?_)
  · exact b_M_is_35 C N     h th a1 _ _ ls w  (lv_sub hl [0, 1] rfl) e2
  · refine lv_aload_n hx hb dX12_is_7 rfl (lv_at hl 0 rfl) ?_
    refine w_gI (r := some th) (ci := 0) (k := 23) C w rfl (by decide) (GF_wsX120 _) (by decide) rfl (List.mem_cons_of_mem _ gw_24_17) rfl dX12_is_8 e2 (fun v2 e3 => ?_)
    refine lv_iconst (v := 1) hx hb dX12_is_11 (by decide) ?_
    refine w_icmp_ne (tgt := 35) C dX12_is_12 (by decide) e3 (fun hc e4 => ?_) (fun hc e4 => ?_)
    · exact b_M_is_35 C N     h th a1 _ _ ls w  (lv_sub hl [0, 1] rfl) e4
    · refine lv_aload_n hx hb dX12_is_15 rfl (lv_at hl 1 rfl) ?_
      refine w_VSI GW_good (n := 0) (F := 1) (Lc := 20) (o := some a1) (av := []) (rest := []) C w (fun a r g hf => k_Str_length_8abf5 l D cy z N h a  r g hf) gw_26_15 gw_11_22 gw_11_23 gw_12_0 gw_12_1 (by decide +kernel) ⟨Nat.le_of_ble_eq_true rfl, Nat.le_of_ble_eq_true rfl⟩ rfl hl.1 rfl (Nat.le_of_ble_eq_true rfl) dX12_is_16 (fun a => (sh_Str_length_8abf5 N h a )) ⟨by decide, by decide⟩ e4 (fun v3 h4 H locs w hsh4 e5 => ?_)
      refine lv_aload_n hx hb dX12_is_19 rfl (lv_at hl 0 rfl) ?_
      refine w_gI (r := some th) (ci := 0) (k := 26) C w rfl (by decide) (GF_wsX120 _) (by decide) rfl (List.mem_cons_of_mem _ gw_25_16) rfl dX12_is_20 e5 (fun v5 e6 => ?_)
      refine lv_aload_n hx hb dX12_is_23 rfl (lv_at hl 0 rfl) ?_
      refine w_gI (r := some th) (ci := 0) (k := 25) C w rfl (by decide) (GF_wsX120 _) (by decide) rfl (List.mem_cons_of_mem _ gw_25_12) rfl dX12_is_24 e6 (fun v6 e7 => ?_)
      refine lv_isub hx hb dX12_is_27 ?_
      refine w_icmp_ne (tgt := 35) C dX12_is_28 (by decide) e7 (fun hc e8 => ?_) (fun hc e8 => ?_)
      · exact b_M_is_35 C N     h4 th a1 _ _ ls w  (lv_sub hl [0, 1] rfl) e8
      · refine lv_iconst (v := 1) hx hb dX12_is_31 (by decide) ?_
        refine lv_goto (tgt := 36) hx hb dX12_is_32 (by decide) ?_
        exact b_M_is_36 C N     h4 th a1 (1 : Int32) _ _ ls w  (lv_sub hl [0, 1] rfl) e8
set_option maxRecDepth 20000 in
set_option maxHeartbeats 4000000 in
theorem b_M_which_2 {p : Program} {l : Launch} {e : Env} {s : State} {m : MethodId} {args : Array Value} {below : List Frame} {meth : Method} {c : Code} {D : va_G} {cy : cyT} {z : Nat} (C : MX p s m args meth c cX12_which 2 ((some .int)) RX12 (Cond.code yX12_which cX12_which 2 ((some .int)) :: GW)) (N : Nat) {r : Int32} {g : hS}  : ∀ (n : Nat) (h : hS) (th : Nat) (x1 : Int32) (H : Heap) (locs : List Loc) (ls : Array Slot), wd D cy z s 0 h H locs → lv_has ls 2 [(0, .ref th), (1, .int x1)] → f_M_which_2 N  n h th x1 = some (r, g) → W p l e { frames := 5, cells := 0, slots := 0, locals := 108 } s m args below meth c H locs 0 0 (MQ below (eQ D cy z (rI r) g) args s 0 0 (fun q => z ≤ q)) (F0 m 2 ls []) := by
  obtain ⟨hx, hb, hr, hml, hown, hts, hlk⟩ := id C
  intro n
  induction n with
  | zero =>
    intro  h th x1 H locs ls w  hl hE
    cases hE
  | succ n ih =>
    intro  h th x1 H locs ls w  hl hE
    unfold f_M_which_2 at hE
    refine lv_iload_n hx hb dX12_which_2 rfl (lv_at hl 1 rfl) ?_
    refine lv_aload_n hx hb dX12_which_3 rfl (lv_at hl 0 rfl) ?_
    refine w_gR (r := some th) (ci := 0) (k := 0) C w rfl (by decide) (GF_wsX120 _) (by decide) rfl (List.mem_cons_of_mem _ gw_6_20) rfl dX12_which_4 hE (fun v1 e1 => ?_)
    refine w_lenR61 (r := v1) C w dX12_which_7 e1 (fun v2 e2 => ?_)
    refine w_icmp_ge (tgt := 32) C dX12_which_8 (by decide) e2 (fun hc e3 => ?_) (fun hc e3 => ?_)
    · refine lv_iconst (v := -1) hx hb dX12_which_32 (by decide) ?_
      exact w_iret C w e3 dX12_which_33
    · refine lv_aload_n hx hb dX12_which_11 rfl (lv_at hl 0 rfl) ?_
      refine lv_aload_n hx hb dX12_which_12 rfl (lv_at hl 0 rfl) ?_
      refine w_gR (r := some th) (ci := 0) (k := 0) C w rfl (by decide) (GF_wsX120 _) (by decide) rfl (List.mem_cons_of_mem _ gw_6_20) rfl dX12_which_13 e3 (fun v3 e4 => ?_)
      refine lv_iload_n hx hb dX12_which_16 rfl (lv_at hl 1 rfl) ?_
      refine w_aR61 (r := v3) C w dX12_which_17 e4 (fun v4 e5 => ?_)
      obtain ⟨q5, eq5, e6⟩ := nn_some e5
      subst eq5
      refine w_VI GW_good (n := 1) (F := 4) (Lc := 85) (o := some th) (av := [.ref q5]) (rest := []) C w rfl (by decide) (fun a r g hf => k_M_is l D cy z N h a q5 r g hf) gw_26_11 gw_26_12 gw_26_13 gw_1_5 gw_26_14 (by decide +kernel) ⟨Nat.le_of_ble_eq_true rfl, Nat.le_of_ble_eq_true rfl⟩ rfl hl.1 rfl (Nat.le_of_ble_eq_true rfl) dX12_which_18 (fun a => (sh_M_is N h a q5)) ⟨by decide, by decide⟩ e6 (fun v6 h7 H locs w hsh7 e7 => ?_)
      refine w_if_eq (tgt := 26) C dX12_which_21 (by decide) e7 (fun hc e8 => ?_) (fun hc e8 => ?_)
      · obtain ⟨v8, ev8, e9⟩ := bn_some e8
        refine lv_iinc (v := v8) (lv' := [(1, .int v8), (0, .ref th)]) hx hb dX12_which_26 hl (k := 1) rfl (by rw [ev8]; rfl) (by decide) rfl (fun ls hl => ?_)
        refine lv_goto (tgt := 2) hx hb dX12_which_29 (by decide) ?_
        exact ih  h7 th v8 _ _ ls w  (lv_sub hl [1, 0] rfl) e9
      · refine lv_iload_n hx hb dX12_which_24 rfl (lv_at hl 1 rfl) ?_
        exact w_iret C w e8 dX12_which_25
set_option maxRecDepth 20000 in
set_option maxHeartbeats 4000000 in
theorem k_M_which (l : Launch) (D : va_G) (cy : cyT) (z : Nat) (N : Nat) (h : hS) (th : Nat) (r : Int32) (g : hS) (hE : f_M_which N h th = some (r, g)) : ct l yX12_which (Cond.code yX12_which cX12_which 2 ((some .int)) :: GW) { frames := 5, cells := 0, slots := 0, locals := 108 } D cy z h [.ref th] (rI r) g := by
  refine Met.ofW (cc := cX12_which) (maxL := 2) (ret := (some .int)) (by decide) rfl ?_
  intro p e s m args below meth c s₁ B hml hv
  obtain ⟨rfl, hw⟩ := hv
  have C : MX p s m ([.ref th] : List Value).toArray meth c cX12_which 2 ((some .int)) RX12 (Cond.code yX12_which cX12_which 2 ((some .int)) :: GW) := ⟨B.exec, B.bytes, B.returns, hml, findClass_of_methodNamed B.named, atoms_spec (ws := Cond.code yX12_which cX12_which 2 ((some .int)) :: GW) B.pre, B.notSynchronized⟩
  obtain ⟨hx, hb, hr, hml, hown, hts, hlk⟩ := id C
  have w := wd_of hw
  obtain ⟨ls, hen, hl⟩ : ∃ ls : Array Slot, entryFrame m ([.ref th] : List Value).toArray 2 = F0 m 0 ls [] ∧ lv_has ls 2 [(0, .ref th)] := by
    exact ⟨_, lg_entry_eq _ _ _, lv_entry _ (Nat.le_of_ble_eq_true rfl)⟩
  rw [hen]
  unfold f_M_which at hE
  refine lv_iconst (v := 0) hx hb dX12_which_0 (by decide) ?_
  refine lv_istore_n (lv' := [(1, .int (0 : Int32)), (0, .ref th)]) hx hb dX12_which_1 rfl hl (by decide) rfl (fun ls hl => ?_)
  exact b_M_which_2 C N   N  h th (0 : Int32) _ _ ls w  (lv_sub hl [1, 0] rfl) hE
set_option maxRecDepth 20000 in
set_option maxHeartbeats 4000000 in
theorem b_M_readClause_210 {p : Program} {l : Launch} {e : Env} {s : State} {m : MethodId} {args : Array Value} {below : List Frame} {meth : Method} {c : Code} {D : va_G} {cy : cyT} {z : Nat} (C : MX p s m args meth c cX12_readClause 4 (none) RX12 (Cond.code yX12_readClause cX12_readClause 4 (none) :: GW)) (N : Nat) {r : Unit} {g : hS}  : ∀  (h : hS) (th : Nat) (H : Heap) (locs : List Loc) (ls : Array Slot), wd D cy z s 0 h H locs → lv_has ls 4 [(0, .ref th)] → f_M_readClause_210 N   h th = some (r, g) → W p l e { frames := 6, cells := 0, slots := 0, locals := 129 } s m args below meth c H locs 0 0 (MQ below (eQ D cy z (rV r) g) args s 0 0 (fun q => z ≤ q)) (F0 m 210 ls []) := by
  obtain ⟨hx, hb, hr, hml, hown, hts, hlk⟩ := id C
  intro  h th H locs ls w  hl hE
  unfold f_M_readClause_210 at hE
  refine lv_aload_n hx hb dX12_readClause_210 rfl (lv_at hl 0 rfl) ?_
  refine w_gR (r := some th) (ci := 0) (k := 18) C w rfl (by decide) (GF_wsX120 _) (by decide) rfl (List.mem_cons_of_mem _ gw_7_12) rfl dX12_readClause_211 hE (fun v1 e1 => ?_)
  refine lv_iconst (v := 0) hx hb dX12_readClause_214 (by decide) ?_
  refine lv_dup2_11 hx hb dX12_readClause_215 rfl (va_rf_cat _) ?_
  refine w_aI (r := v1) C w dX12_readClause_216 e1 (fun v2 e2 => ?_)
  refine lv_iconst (v := 1) hx hb dX12_readClause_217 (by decide) ?_
  refine lv_iadd hx hb dX12_readClause_218 ?_
  refine w_uI (r := v1) C w dX12_readClause_219 e2 (fun h3 H locs w hsh3 e3 => ?_)
  exact w_vret C w e3 dX12_readClause_220
set_option maxRecDepth 20000 in
set_option maxHeartbeats 4000000 in
theorem b_M_readClause_199 {p : Program} {l : Launch} {e : Env} {s : State} {m : MethodId} {args : Array Value} {below : List Frame} {meth : Method} {c : Code} {D : va_G} {cy : cyT} {z : Nat} (C : MX p s m args meth c cX12_readClause 4 (none) RX12 (Cond.code yX12_readClause cX12_readClause 4 (none) :: GW)) (N : Nat) {r : Unit} {g : hS}  : ∀  (h : hS) (th : Nat) (H : Heap) (locs : List Loc) (ls : Array Slot), wd D cy z s 0 h H locs → lv_has ls 4 [(0, .ref th)] → f_M_readClause_199 N   h th = some (r, g) → W p l e { frames := 6, cells := 0, slots := 0, locals := 129 } s m args below meth c H locs 0 0 (MQ below (eQ D cy z (rV r) g) args s 0 0 (fun q => z ≤ q)) (F0 m 199 ls []) := by
  obtain ⟨hx, hb, hr, hml, hown, hts, hlk⟩ := id C
  intro  h th H locs ls w  hl hE
  unfold f_M_readClause_199 at hE
  refine lv_aload_n hx hb dX12_readClause_199 rfl (lv_at hl 0 rfl) ?_
  refine w_gI (r := some th) (ci := 0) (k := 27) C w rfl (by decide) (GF_wsX120 _) (by decide) rfl (List.mem_cons_of_mem _ gw_24_16) rfl dX12_readClause_200 hE (fun v1 e1 => ?_)
  refine w_if_ne (tgt := 210) C dX12_readClause_203 (by decide) e1 (fun hc e2 => ?_) (fun hc e2 => ?_)
  · exact b_M_readClause_210 C N     h th _ _ ls w  (lv_sub hl [0] rfl) e2
  · refine lv_aload_n hx hb dX12_readClause_206 rfl (lv_at hl 0 rfl) ?_
    refine w_VV GW_good (n := 0) (F := 1) (Lc := 44) (o := some th) (av := []) (rest := []) C w rfl (by decide) (fun a r g hf => k_M_stepOn l D cy z N h a  r g hf) gw_25_8 gw_25_9 gw_25_10 gw_1_5 gw_25_11 (by decide +kernel) ⟨Nat.le_of_ble_eq_true rfl, Nat.le_of_ble_eq_true rfl⟩ rfl hl.1 rfl (Nat.le_of_ble_eq_true rfl) dX12_readClause_207 (fun a => (sh_M_stepOn N h a )) ⟨by decide, by decide⟩ e2 (fun v2 h3 H locs w hsh3 e3 => ?_)
    exact b_M_readClause_210 C N     h3 th _ _ ls w  (lv_sub hl [0] rfl) e3
set_option maxRecDepth 20000 in
set_option maxHeartbeats 4000000 in
theorem b_M_readClause_175 {p : Program} {l : Launch} {e : Env} {s : State} {m : MethodId} {args : Array Value} {below : List Frame} {meth : Method} {c : Code} {D : va_G} {cy : cyT} {z : Nat} (C : MX p s m args meth c cX12_readClause 4 (none) RX12 (Cond.code yX12_readClause cX12_readClause 4 (none) :: GW)) (N : Nat) {r : Unit} {g : hS}  : ∀  (h : hS) (th : Nat) (x3 : Int32) (y0 : Option Nat) (y1 : Int32) (y2 : Int32) (H : Heap) (locs : List Loc) (ls : Array Slot), wd D cy z s 0 h H locs → lv_has ls 4 [(0, .ref th), (3, .int x3)] → f_M_readClause_175 N   h th x3 y0 y1 y2 = some (r, g) → W p l e { frames := 6, cells := 0, slots := 0, locals := 129 } s m args below meth c H locs 0 0 (MQ below (eQ D cy z (rV r) g) args s 0 0 (fun q => z ≤ q)) (F0 m 175 ls [.int y2, .int y1, va_rf y0]) := by
  obtain ⟨hx, hb, hr, hml, hown, hts, hlk⟩ := id C
  intro  h th x3 y0 y1 y2 H locs ls w  hl hE
  unfold f_M_readClause_175 at hE
  refine w_uI (r := y0) C w dX12_readClause_175 hE (fun h1 H locs w hsh1 e1 => ?_)
  refine lv_aload_n hx hb dX12_readClause_176 rfl (lv_at hl 0 rfl) ?_
  refine w_gR (r := some th) (ci := 0) (k := 18) C w rfl (by decide) (GF_wsX120 _) (by decide) rfl (List.mem_cons_of_mem _ gw_7_12) rfl dX12_readClause_177 e1 (fun v2 e2 => ?_)
  refine lv_iload_n hx hb dX12_readClause_180 rfl (lv_at hl 1 rfl) ?_
  refine lv_iconst (v := 3) hx hb dX12_readClause_181 (by decide) ?_
  refine lv_iadd hx hb dX12_readClause_182 ?_
  refine lv_iconst (v := 0) hx hb dX12_readClause_183 (by decide) ?_
  refine w_uI (r := v2) C w dX12_readClause_184 e2 (fun h3 H locs w hsh3 e3 => ?_)
  refine lv_aload_n hx hb dX12_readClause_185 rfl (lv_at hl 0 rfl) ?_
  refine lv_bipush (v := 59) hx hb dX12_readClause_186 (by decide) ?_
  refine w_VI GW_good (n := 1) (F := 0) (Lc := 0) (o := some th) (av := [.int (59 : Int32)]) (rest := []) C w rfl (by decide) (fun a r g hf => k_M_isMarked l D cy z N h3 a (59 : Int32) r g hf) gw_27_1 gw_27_2 gw_27_3 gw_1_5 gw_27_4 (by decide +kernel) ⟨Nat.le_of_ble_eq_true rfl, Nat.le_of_ble_eq_true rfl⟩ rfl hl.1 rfl (Nat.le_of_ble_eq_true rfl) dX12_readClause_188 (fun a => (sh_M_isMarked N h3 a (59 : Int32))) ⟨by decide, by decide⟩ e3 (fun v4 h5 H locs w hsh5 e4 => ?_)
  refine w_if_ne (tgt := 199) C dX12_readClause_191 (by decide) e4 (fun hc e5 => ?_) (fun hc e5 => ?_)
  · exact b_M_readClause_199 C N     h5 th _ _ ls w  (lv_sub hl [0] rfl) e5
  · refine lv_aload_n hx hb dX12_readClause_194 rfl (lv_at hl 0 rfl) ?_
    refine lv_iconst (v := 1) hx hb dX12_readClause_195 (by decide) ?_
    refine w_VV GW_good (n := 1) (F := 0) (Lc := 0) (o := some th) (av := [.int (1 : Int32)]) (rest := []) C w rfl (by decide) (fun a r g hf => k_M_wrong l D cy z N h5 a (1 : Int32) r g hf) gw_26_17 gw_26_18 gw_26_19 gw_1_5 gw_26_20 (by decide +kernel) ⟨Nat.le_of_ble_eq_true rfl, Nat.le_of_ble_eq_true rfl⟩ rfl hl.1 rfl (Nat.le_of_ble_eq_true rfl) dX12_readClause_196 (fun a => (sh_M_wrong N h5 a (1 : Int32))) ⟨by decide, by decide⟩ e5 (fun v6 h7 H locs w hsh7 e6 => ?_)
    exact b_M_readClause_199 C N     h7 th _ _ ls w  (lv_sub hl [0] rfl) e6
set_option maxRecDepth 20000 in
set_option maxHeartbeats 4000000 in
theorem b_M_readClause_165 {p : Program} {l : Launch} {e : Env} {s : State} {m : MethodId} {args : Array Value} {below : List Frame} {meth : Method} {c : Code} {D : va_G} {cy : cyT} {z : Nat} (C : MX p s m args meth c cX12_readClause 4 (none) RX12 (Cond.code yX12_readClause cX12_readClause 4 (none) :: GW)) (N : Nat) {r : Unit} {g : hS}  : ∀  (h : hS) (th : Nat) (x3 : Int32) (y0 : Option Nat) (y1 : Int32) (H : Heap) (locs : List Loc) (ls : Array Slot), wd D cy z s 0 h H locs → lv_has ls 4 [(0, .ref th), (3, .int x3)] → f_M_readClause_165 N   h th x3 y0 y1 = some (r, g) → W p l e { frames := 6, cells := 0, slots := 0, locals := 129 } s m args below meth c H locs 0 0 (MQ below (eQ D cy z (rV r) g) args s 0 0 (fun q => z ≤ q)) (F0 m 165 ls [.int y1, va_rf y0]) := by
  obtain ⟨hx, hb, hr, hml, hown, hts, hlk⟩ := id C
  intro  h th x3 y0 y1 H locs ls w  hl hE
  unfold f_M_readClause_165 at hE
  refine lv_aload_n hx hb dX12_readClause_165 rfl (lv_at hl 0 rfl) ?_
  refine lv_bipush (v := 99) hx hb dX12_readClause_166 (by decide) ?_
  refine w_VI GW_good (n := 1) (F := 2) (Lc := 65) (o := some th) (av := [.int (99 : Int32)]) (rest := [.int y1, va_rf y0]) C w rfl (by decide) (fun a r g hf => k_M_readNumber l D cy z N h a (99 : Int32) r g hf) gw_27_5 gw_27_6 gw_27_7 gw_1_5 gw_27_8 (by decide +kernel) ⟨Nat.le_of_ble_eq_true rfl, Nat.le_of_ble_eq_true rfl⟩ rfl hl.1 rfl (cat_le (Nat.le_of_ble_eq_true rfl)) dX12_readClause_168 (fun a => (sh_M_readNumber N h a (99 : Int32))) ⟨by decide, by decide⟩ hE (fun v1 h2 H locs w hsh2 e1 => ?_)
  refine lv_goto (tgt := 175) hx hb dX12_readClause_171 (by decide) ?_
  exact b_M_readClause_175 C N     h2 th x3 y0 y1 v1 _ _ ls w  (lv_sub hl [0, 1] rfl) e1
set_option maxRecDepth 20000 in
set_option maxHeartbeats 4000000 in
theorem b_M_readClause_147 {p : Program} {l : Launch} {e : Env} {s : State} {m : MethodId} {args : Array Value} {below : List Frame} {meth : Method} {c : Code} {D : va_G} {cy : cyT} {z : Nat} (C : MX p s m args meth c cX12_readClause 4 (none) RX12 (Cond.code yX12_readClause cX12_readClause 4 (none) :: GW)) (N : Nat) {r : Unit} {g : hS}  : ∀  (h : hS) (th : Nat) (x2 : Int32) (x3 : Int32) (y0 : Option Nat) (y1 : Int32) (y2 : Int32) (H : Heap) (locs : List Loc) (ls : Array Slot), wd D cy z s 0 h H locs → lv_has ls 4 [(0, .ref th), (2, .int x2), (3, .int x3)] → f_M_readClause_147 N   h th x2 x3 y0 y1 y2 = some (r, g) → W p l e { frames := 6, cells := 0, slots := 0, locals := 129 } s m args below meth c H locs 0 0 (MQ below (eQ D cy z (rV r) g) args s 0 0 (fun q => z ≤ q)) (F0 m 147 ls [.int y2, .int y1, va_rf y0]) := by
  obtain ⟨hx, hb, hr, hml, hown, hts, hlk⟩ := id C
  intro  h th x2 x3 y0 y1 y2 H locs ls w  hl hE
  unfold f_M_readClause_147 at hE
  refine w_uI (r := y0) C w dX12_readClause_147 hE (fun h1 H locs w hsh1 e1 => ?_)
  refine lv_aload_n hx hb dX12_readClause_148 rfl (lv_at hl 0 rfl) ?_
  refine w_gR (r := some th) (ci := 0) (k := 18) C w rfl (by decide) (GF_wsX120 _) (by decide) rfl (List.mem_cons_of_mem _ gw_7_12) rfl dX12_readClause_149 e1 (fun v2 e2 => ?_)
  refine lv_iload_n hx hb dX12_readClause_152 rfl (lv_at hl 2 rfl) ?_
  refine lv_iconst (v := 2) hx hb dX12_readClause_153 (by decide) ?_
  refine lv_iadd hx hb dX12_readClause_154 ?_
  refine lv_iload_n hx hb dX12_readClause_155 rfl (lv_at hl 1 rfl) ?_
  refine lv_iconst (v := 2) hx hb dX12_readClause_156 (by decide) ?_
  refine w_icmp_le (tgt := 165) C dX12_readClause_157 (by decide) e2 (fun hc e3 => ?_) (fun hc e3 => ?_)
  · exact b_M_readClause_165 C N     h1 th x3 v2 (x3 + (2 : Int32)) _ _ ls w  (lv_sub hl [0, 2] rfl) e3
  · refine lv_iload_n hx hb dX12_readClause_160 rfl (lv_at hl 1 rfl) ?_
    refine lv_iconst (v := 4) hx hb dX12_readClause_161 (by decide) ?_
    refine w_icmp_ne (tgt := 174) C dX12_readClause_162 (by decide) e3 (fun hc e4 => ?_) (fun hc e4 => ?_)
    · refine lv_iconst (v := 0) hx hb dX12_readClause_174 (by decide) ?_
      exact b_M_readClause_175 C N     h1 th x3 v2 (x3 + (2 : Int32)) (0 : Int32) _ _ ls w  (lv_sub hl [0, 2] rfl) e4
    · exact b_M_readClause_165 C N     h1 th x3 v2 (x3 + (2 : Int32)) _ _ ls w  (lv_sub hl [0, 2] rfl) e4
set_option maxRecDepth 20000 in
set_option maxHeartbeats 4000000 in
theorem b_M_readClause_38 {p : Program} {l : Launch} {e : Env} {s : State} {m : MethodId} {args : Array Value} {below : List Frame} {meth : Method} {c : Code} {D : va_G} {cy : cyT} {z : Nat} (C : MX p s m args meth c cX12_readClause 4 (none) RX12 (Cond.code yX12_readClause cX12_readClause 4 (none) :: GW)) (N : Nat) {r : Unit} {g : hS}  : ∀  (h : hS) (th : Nat) (x1 : Int32) (x2 : Int32) (H : Heap) (locs : List Loc) (ls : Array Slot), wd D cy z s 0 h H locs → lv_has ls 4 [(0, .ref th), (1, .int x1), (2, .int x2)] → f_M_readClause_38 N   h th x1 x2 = some (r, g) → W p l e { frames := 6, cells := 0, slots := 0, locals := 129 } s m args below meth c H locs 0 0 (MQ below (eQ D cy z (rV r) g) args s 0 0 (fun q => z ≤ q)) (F0 m 38 ls []) := by
  obtain ⟨hx, hb, hr, hml, hown, hts, hlk⟩ := id C
  intro  h th x1 x2 H locs ls w  hl hE
  unfold f_M_readClause_38 at hE
  refine lv_aload_n hx hb dX12_readClause_38 rfl (lv_at hl 0 rfl) ?_
  refine w_gI (r := some th) (ci := 0) (k := 27) C w rfl (by decide) (GF_wsX120 _) (by decide) rfl (List.mem_cons_of_mem _ gw_24_16) rfl dX12_readClause_39 hE (fun v1 e1 => ?_)
  refine w_if_eq (tgt := 46) C dX12_readClause_42 (by decide) e1 (fun hc e2 => ?_) (fun hc e2 => ?_)
  · refine lv_iconst (v := 1) hx hb dX12_readClause_46 (by decide) ?_
    refine lv_iconst (v := 4) hx hb dX12_readClause_47 (by decide) ?_
    refine lv_aload_n hx hb dX12_readClause_48 rfl (lv_at hl 0 rfl) ?_
    refine w_gR (r := some th) (ci := 0) (k := 18) C w rfl (by decide) (GF_wsX120 _) (by decide) rfl (List.mem_cons_of_mem _ gw_7_12) rfl dX12_readClause_49 e2 (fun v2 e3 => ?_)
    refine lv_iconst (v := 0) hx hb dX12_readClause_52 (by decide) ?_
    refine w_aI (r := v2) C w dX12_readClause_53 e3 (fun v3 e4 => ?_)
    refine lv_imul hx hb dX12_readClause_54 ?_
    refine lv_iadd hx hb dX12_readClause_55 ?_
    refine w_bnI e4 (fun v4 e5 => ?_)
    refine lv_istore_n (lv' := [(3, .int v4), (0, .ref th), (1, .int x1), (2, .int x2)]) hx hb dX12_readClause_56 rfl hl (by decide) rfl (fun ls hl => ?_)
    refine lv_aload_n hx hb dX12_readClause_57 rfl (lv_at hl 1 rfl) ?_
    refine w_gR (r := some th) (ci := 0) (k := 19) C w rfl (by decide) (GF_wsX120 _) (by decide) rfl (List.mem_cons_of_mem _ gw_7_13) rfl dX12_readClause_58 e5 (fun v5 e6 => ?_)
    refine lv_aload_n hx hb dX12_readClause_61 rfl (lv_at hl 1 rfl) ?_
    refine w_gR (r := some th) (ci := 0) (k := 18) C w rfl (by decide) (GF_wsX120 _) (by decide) rfl (List.mem_cons_of_mem _ gw_7_12) rfl dX12_readClause_62 e6 (fun v6 e7 => ?_)
    refine lv_iconst (v := 0) hx hb dX12_readClause_65 (by decide) ?_
    refine w_aI (r := v6) C w dX12_readClause_66 e7 (fun v7 e8 => ?_)
    refine lv_aload_n hx hb dX12_readClause_67 rfl (lv_at hl 1 rfl) ?_
    refine w_gI (r := some th) (ci := 0) (k := 25) C w rfl (by decide) (GF_wsX120 _) (by decide) rfl (List.mem_cons_of_mem _ gw_25_12) rfl dX12_readClause_68 e8 (fun v8 e9 => ?_)
    refine w_uI (r := v5) C w dX12_readClause_71 e9 (fun h9 H locs w hsh9 e10 => ?_)
    refine lv_aload_n hx hb dX12_readClause_72 rfl (lv_at hl 1 rfl) ?_
    refine w_VV GW_good (n := 0) (F := 1) (Lc := 44) (o := some th) (av := []) (rest := []) C w rfl (by decide) (fun a r g hf => k_M_stepOn l D cy z N h9 a  r g hf) gw_25_8 gw_25_9 gw_25_10 gw_1_5 gw_25_11 (by decide +kernel) ⟨Nat.le_of_ble_eq_true rfl, Nat.le_of_ble_eq_true rfl⟩ rfl hl.1 rfl (Nat.le_of_ble_eq_true rfl) dX12_readClause_73 (fun a => (sh_M_stepOn N h9 a )) ⟨by decide, by decide⟩ e10 (fun v10 h11 H locs w hsh11 e11 => ?_)
    refine lv_aload_n hx hb dX12_readClause_76 rfl (lv_at hl 1 rfl) ?_
    refine w_gR (r := some th) (ci := 0) (k := 18) C w rfl (by decide) (GF_wsX120 _) (by decide) rfl (List.mem_cons_of_mem _ gw_7_12) rfl dX12_readClause_77 e11 (fun v12 e12 => ?_)
    refine lv_iload_n hx hb dX12_readClause_80 rfl (lv_at hl 0 rfl) ?_
    refine lv_iload_n hx hb dX12_readClause_81 rfl (lv_at hl 3 rfl) ?_
    refine w_uI (r := v12) C w dX12_readClause_82 e12 (fun h13 H locs w hsh13 e13 => ?_)
    refine lv_aload_n hx hb dX12_readClause_83 rfl (lv_at hl 1 rfl) ?_
    refine w_gR (r := some th) (ci := 0) (k := 18) C w rfl (by decide) (GF_wsX120 _) (by decide) rfl (List.mem_cons_of_mem _ gw_7_12) rfl dX12_readClause_84 e13 (fun v14 e14 => ?_)
    refine lv_iload_n hx hb dX12_readClause_87 rfl (lv_at hl 0 rfl) ?_
    refine lv_iconst (v := 1) hx hb dX12_readClause_88 (by decide) ?_
    refine lv_iadd hx hb dX12_readClause_89 ?_
    refine lv_iload_n hx hb dX12_readClause_90 rfl (lv_at hl 3 rfl) ?_
    refine lv_iconst (v := 3) hx hb dX12_readClause_91 (by decide) ?_
    refine w_icmp_gt (tgt := 102) C dX12_readClause_92 (by decide) e14 (fun hc e15 => ?_) (fun hc e15 => ?_)
    · refine lv_iload_n hx hb dX12_readClause_102 rfl (lv_at hl 3 rfl) ?_
      refine lv_iconst (v := 4) hx hb dX12_readClause_103 (by decide) ?_
      refine w_icmp_ne (tgt := 116) C dX12_readClause_104 (by decide) e15 (fun hc e16 => ?_) (fun hc e16 => ?_)
      · refine lv_iload_n hx hb dX12_readClause_116 rfl (lv_at hl 3 rfl) ?_
        refine lv_bipush (v := 7) hx hb dX12_readClause_117 (by decide) ?_
        refine w_icmp_ne (tgt := 132) C dX12_readClause_119 (by decide) e16 (fun hc e17 => ?_) (fun hc e17 => ?_)
        · refine lv_iload_n hx hb dX12_readClause_132 rfl (lv_at hl 3 rfl) ?_
          refine lv_bipush (v := 8) hx hb dX12_readClause_133 (by decide) ?_
          refine w_icmp_ne (tgt := 146) C dX12_readClause_135 (by decide) e17 (fun hc e18 => ?_) (fun hc e18 => ?_)
          · refine lv_iconst (v := 0) hx hb dX12_readClause_146 (by decide) ?_
            exact b_M_readClause_147 C N     h13 th x2 v4 v14 (v4 + (1 : Int32)) (0 : Int32) _ _ ls w  (lv_sub hl [1, 3, 0] rfl) e18
          · refine lv_aload_n hx hb dX12_readClause_138 rfl (lv_at hl 1 rfl) ?_
            refine lv_iload_n hx hb dX12_readClause_139 rfl (lv_at hl 2 rfl) ?_
            refine w_VI GW_good (n := 1) (F := 2) (Lc := 65) (o := some th) (av := [.int x1]) (rest := [.int (v4 + (1 : Int32)), va_rf v14]) C w rfl (by decide) (fun a r g hf => k_M_readCost l D cy z N h13 a x1 r g hf) gw_27_13 gw_27_14 gw_27_15 gw_1_5 gw_27_16 (by decide +kernel) ⟨Nat.le_of_ble_eq_true rfl, Nat.le_of_ble_eq_true rfl⟩ rfl hl.1 rfl (cat_le (Nat.le_of_ble_eq_true rfl)) dX12_readClause_140 (fun a => (sh_M_readCost N h13 a x1)) ⟨by decide, by decide⟩ e18 (fun v15 h16 H locs w hsh16 e19 => ?_)
            refine lv_goto (tgt := 147) hx hb dX12_readClause_143 (by decide) ?_
            exact b_M_readClause_147 C N     h16 th x2 v4 v14 (v4 + (1 : Int32)) v15 _ _ ls w  (lv_sub hl [1, 3, 0] rfl) e19
        · refine lv_aload_n hx hb dX12_readClause_122 rfl (lv_at hl 1 rfl) ?_
          refine lv_sipush (v := 999) hx hb dX12_readClause_123 (by decide) ?_
          refine w_VI GW_good (n := 1) (F := 2) (Lc := 65) (o := some th) (av := [.int (999 : Int32)]) (rest := [.int (v4 + (1 : Int32)), va_rf v14]) C w rfl (by decide) (fun a r g hf => k_M_readNumber l D cy z N h13 a (999 : Int32) r g hf) gw_27_5 gw_27_6 gw_27_7 gw_1_5 gw_27_8 (by decide +kernel) ⟨Nat.le_of_ble_eq_true rfl, Nat.le_of_ble_eq_true rfl⟩ rfl hl.1 rfl (cat_le (Nat.le_of_ble_eq_true rfl)) dX12_readClause_126 (fun a => (sh_M_readNumber N h13 a (999 : Int32))) ⟨by decide, by decide⟩ e17 (fun v17 h18 H locs w hsh18 e20 => ?_)
          refine lv_goto (tgt := 147) hx hb dX12_readClause_129 (by decide) ?_
          exact b_M_readClause_147 C N     h18 th x2 v4 v14 (v4 + (1 : Int32)) v17 _ _ ls w  (lv_sub hl [1, 3, 0] rfl) e20
      · refine lv_aload_n hx hb dX12_readClause_107 rfl (lv_at hl 1 rfl) ?_
        refine lv_bipush (v := 99) hx hb dX12_readClause_108 (by decide) ?_
        refine w_VI GW_good (n := 1) (F := 2) (Lc := 65) (o := some th) (av := [.int (99 : Int32)]) (rest := [.int (v4 + (1 : Int32)), va_rf v14]) C w rfl (by decide) (fun a r g hf => k_M_readNumber l D cy z N h13 a (99 : Int32) r g hf) gw_27_5 gw_27_6 gw_27_7 gw_1_5 gw_27_8 (by decide +kernel) ⟨Nat.le_of_ble_eq_true rfl, Nat.le_of_ble_eq_true rfl⟩ rfl hl.1 rfl (cat_le (Nat.le_of_ble_eq_true rfl)) dX12_readClause_110 (fun a => (sh_M_readNumber N h13 a (99 : Int32))) ⟨by decide, by decide⟩ e16 (fun v19 h20 H locs w hsh20 e21 => ?_)
        refine lv_goto (tgt := 147) hx hb dX12_readClause_113 (by decide) ?_
        exact b_M_readClause_147 C N     h20 th x2 v4 v14 (v4 + (1 : Int32)) v19 _ _ ls w  (lv_sub hl [1, 3, 0] rfl) e21
    · refine lv_aload_n hx hb dX12_readClause_95 rfl (lv_at hl 1 rfl) ?_
      refine w_VI GW_good (n := 0) (F := 3) (Lc := 87) (o := some th) (av := []) (rest := [.int (v4 + (1 : Int32)), va_rf v14]) C w rfl (by decide) (fun a r g hf => k_M_readPlace l D cy z N h13 a  r g hf) gw_26_21 gw_26_22 gw_26_23 gw_1_5 gw_27_0 (by decide +kernel) ⟨Nat.le_of_ble_eq_true rfl, Nat.le_of_ble_eq_true rfl⟩ rfl hl.1 rfl (cat_le (Nat.le_of_ble_eq_true rfl)) dX12_readClause_96 (fun a => (sh_M_readPlace N h13 a )) ⟨by decide, by decide⟩ e15 (fun v21 h22 H locs w hsh22 e22 => ?_)
      refine lv_goto (tgt := 147) hx hb dX12_readClause_99 (by decide) ?_
      exact b_M_readClause_147 C N     h22 th x2 v4 v14 (v4 + (1 : Int32)) v21 _ _ ls w  (lv_sub hl [1, 3, 0] rfl) e22
  · exact w_vret C w e2 dX12_readClause_45
set_option maxRecDepth 20000 in
set_option maxHeartbeats 4000000 in
theorem b_M_readClause_15 {p : Program} {l : Launch} {e : Env} {s : State} {m : MethodId} {args : Array Value} {below : List Frame} {meth : Method} {c : Code} {D : va_G} {cy : cyT} {z : Nat} (C : MX p s m args meth c cX12_readClause 4 (none) RX12 (Cond.code yX12_readClause cX12_readClause 4 (none) :: GW)) (N : Nat) {r : Unit} {g : hS}  : ∀  (h : hS) (th : Nat) (x1 : Int32) (x2 : Int32) (H : Heap) (locs : List Loc) (ls : Array Slot), wd D cy z s 0 h H locs → lv_has ls 4 [(0, .ref th), (1, .int x1), (2, .int x2)] → f_M_readClause_15 N   h th x1 x2 = some (r, g) → W p l e { frames := 6, cells := 0, slots := 0, locals := 129 } s m args below meth c H locs 0 0 (MQ below (eQ D cy z (rV r) g) args s 0 0 (fun q => z ≤ q)) (F0 m 15 ls []) := by
  obtain ⟨hx, hb, hr, hml, hown, hts, hlk⟩ := id C
  intro  h th x1 x2 H locs ls w  hl hE
  unfold f_M_readClause_15 at hE
  refine lv_aload_n hx hb dX12_readClause_15 rfl (lv_at hl 0 rfl) ?_
  refine w_gI (r := some th) (ci := 0) (k := 27) C w rfl (by decide) (GF_wsX120 _) (by decide) rfl (List.mem_cons_of_mem _ gw_24_16) rfl dX12_readClause_16 hE (fun v1 e1 => ?_)
  refine w_if_ne (tgt := 38) C dX12_readClause_19 (by decide) e1 (fun hc e2 => ?_) (fun hc e2 => ?_)
  · exact b_M_readClause_38 C N     h th x1 x2 _ _ ls w  (lv_sub hl [0, 1, 2] rfl) e2
  · refine lv_aload_n hx hb dX12_readClause_22 rfl (lv_at hl 0 rfl) ?_
    refine w_gR (r := some th) (ci := 0) (k := 18) C w rfl (by decide) (GF_wsX120 _) (by decide) rfl (List.mem_cons_of_mem _ gw_7_12) rfl dX12_readClause_23 e2 (fun v2 e3 => ?_)
    refine lv_iconst (v := 0) hx hb dX12_readClause_26 (by decide) ?_
    refine w_aI (r := v2) C w dX12_readClause_27 e3 (fun v3 e4 => ?_)
    refine lv_bipush (v := 40) hx hb dX12_readClause_28 (by decide) ?_
    refine w_icmp_ne (tgt := 38) C dX12_readClause_30 (by decide) e4 (fun hc e5 => ?_) (fun hc e5 => ?_)
    · exact b_M_readClause_38 C N     h th x1 x2 _ _ ls w  (lv_sub hl [0, 1, 2] rfl) e5
    · refine lv_aload_n hx hb dX12_readClause_33 rfl (lv_at hl 0 rfl) ?_
      refine lv_iconst (v := 3) hx hb dX12_readClause_34 (by decide) ?_
      refine w_VV GW_good (n := 1) (F := 0) (Lc := 0) (o := some th) (av := [.int (3 : Int32)]) (rest := []) C w rfl (by decide) (fun a r g hf => k_M_wrong l D cy z N h a (3 : Int32) r g hf) gw_26_17 gw_26_18 gw_26_19 gw_1_5 gw_26_20 (by decide +kernel) ⟨Nat.le_of_ble_eq_true rfl, Nat.le_of_ble_eq_true rfl⟩ rfl hl.1 rfl (Nat.le_of_ble_eq_true rfl) dX12_readClause_35 (fun a => (sh_M_wrong N h a (3 : Int32))) ⟨by decide, by decide⟩ e5 (fun v4 h5 H locs w hsh5 e6 => ?_)
      exact b_M_readClause_38 C N     h5 th x1 x2 _ _ ls w  (lv_sub hl [0, 1, 2] rfl) e6
set_option maxRecDepth 20000 in
set_option maxHeartbeats 4000000 in
theorem k_M_readClause (l : Launch) (D : va_G) (cy : cyT) (z : Nat) (N : Nat) (h : hS) (th : Nat) (x1 : Int32) (r : Unit) (g : hS) (hE : f_M_readClause N h th x1 = some (r, g)) : ct l yX12_readClause (Cond.code yX12_readClause cX12_readClause 4 (none) :: GW) { frames := 6, cells := 0, slots := 0, locals := 129 } D cy z h [.ref th, .int x1] (rV r) g := by
  refine Met.ofW (cc := cX12_readClause) (maxL := 4) (ret := none) (by decide) rfl ?_
  intro p e s m args below meth c s₁ B hml hv
  obtain ⟨rfl, hw⟩ := hv
  have C : MX p s m ([.ref th, .int x1] : List Value).toArray meth c cX12_readClause 4 (none) RX12 (Cond.code yX12_readClause cX12_readClause 4 (none) :: GW) := ⟨B.exec, B.bytes, B.returns, hml, findClass_of_methodNamed B.named, atoms_spec (ws := Cond.code yX12_readClause cX12_readClause 4 (none) :: GW) B.pre, B.notSynchronized⟩
  obtain ⟨hx, hb, hr, hml, hown, hts, hlk⟩ := id C
  have w := wd_of hw
  obtain ⟨ls, hen, hl⟩ : ∃ ls : Array Slot, entryFrame m ([.ref th, .int x1] : List Value).toArray 4 = F0 m 0 ls [] ∧ lv_has ls 4 [(0, .ref th), (1, .int x1)] := by
    exact ⟨_, lg_entry_eq _ _ _, lv_entry _ (Nat.le_of_ble_eq_true rfl)⟩
  rw [hen]
  unfold f_M_readClause at hE
  refine lv_aload_n hx hb dX12_readClause_0 rfl (lv_at hl 0 rfl) ?_
  refine w_VI GW_good (n := 0) (F := 5) (Lc := 108) (o := some th) (av := []) (rest := []) C w rfl (by decide) (fun a r g hf => k_M_which l D cy z N h a  r g hf) gw_26_7 gw_26_8 gw_26_9 gw_1_5 gw_26_10 (by decide +kernel) ⟨Nat.le_of_ble_eq_true rfl, Nat.le_of_ble_eq_true rfl⟩ rfl hl.1 rfl (Nat.le_of_ble_eq_true rfl) dX12_readClause_1 (fun a => (sh_M_which N h a )) ⟨by decide, by decide⟩ hE (fun v1 h2 H locs w hsh2 e1 => ?_)
  refine lv_istore_n (lv' := [(2, .int v1), (0, .ref th), (1, .int x1)]) hx hb dX12_readClause_4 rfl hl (by decide) rfl (fun ls hl => ?_)
  refine lv_iload_n hx hb dX12_readClause_5 rfl (lv_at hl 0 rfl) ?_
  refine lv_iconst (v := -1) hx hb dX12_readClause_6 (by decide) ?_
  refine w_icmp_ne (tgt := 15) C dX12_readClause_7 (by decide) e1 (fun hc e2 => ?_) (fun hc e2 => ?_)
  · exact b_M_readClause_15 C N     h2 th x1 v1 _ _ ls w  (lv_sub hl [1, 2, 0] rfl) e2
  · refine lv_aload_n hx hb dX12_readClause_10 rfl (lv_at hl 1 rfl) ?_
    refine lv_iconst (v := 1) hx hb dX12_readClause_11 (by decide) ?_
    refine w_VV GW_good (n := 1) (F := 0) (Lc := 0) (o := some th) (av := [.int (1 : Int32)]) (rest := []) C w rfl (by decide) (fun a r g hf => k_M_wrong l D cy z N h2 a (1 : Int32) r g hf) gw_26_17 gw_26_18 gw_26_19 gw_1_5 gw_26_20 (by decide +kernel) ⟨Nat.le_of_ble_eq_true rfl, Nat.le_of_ble_eq_true rfl⟩ rfl hl.1 rfl (Nat.le_of_ble_eq_true rfl) dX12_readClause_12 (fun a => (sh_M_wrong N h2 a (1 : Int32))) ⟨by decide, by decide⟩ e2 (fun v3 h4 H locs w hsh4 e3 => ?_)
    exact b_M_readClause_15 C N     h4 th x1 v1 _ _ ls w  (lv_sub hl [1, 2, 0] rfl) e3
set_option maxRecDepth 20000 in
set_option maxHeartbeats 4000000 in
theorem b_M_text_31 {p : Program} {l : Launch} {e : Env} {s : State} {m : MethodId} {args : Array Value} {below : List Frame} {meth : Method} {c : Code} {D : va_G} {cy : cyT} {z : Nat} (C : MX p s m args meth c cX12_text 4 ((some .int)) RX12 (Cond.code yX12_text cX12_text 4 ((some .int)) :: GW)) (N : Nat) (n0 s0 : Nat) (hn0 : s.heap.size = n0) {r : Int32} {g : hS}  : ∀  (cells slots : Nat) (h : hS) (th : Nat) (H : Heap) (locs : List Loc) (ls : Array Slot), wd D cy z s cells h H locs → h_s h = s0 + slots → lv_has ls 4 [(0, .ref th)] → f_M_text_31 N   h th = some (r, g) → W p l e { frames := 9, cells := h_x g - n0, slots := h_s g - s0, locals := 237 } s m args below meth c H locs cells slots (MQ below (eQ D cy z (rI r) g) args s (h_x g - n0) (h_s g - s0) (fun q => z ≤ q)) (F0 m 31 ls []) := by
  obtain ⟨hx, hb, hr, hml, hown, hts, hlk⟩ := id C
  intro cells slots h th H locs ls w hsl hl hE
  have hcc : cells ≤ h_x g - n0 ∧ slots ≤ h_s g - s0 := by
    have q1 := mo_M_text_31 N  h th _ _ hE
    have q2 := wd_x w
    have q3 := q1.1
    have q4 := q1.2.1
    omega
  unfold f_M_text_31 at hE
  refine lv_aload_n hx hb dX12_text_31 rfl (lv_at hl 0 rfl) ?_
  refine lv_iconst (v := 2) hx hb dX12_text_32 (by decide) ?_
  refine w_VI GW_good (n := 1) (F := 0) (Lc := 0) (o := some th) (av := [.int (2 : Int32)]) (rest := []) C w rfl (by decide) (fun a r g hf => k_M_fail l D cy z N h a (2 : Int32) r g hf) gw_25_4 gw_25_5 gw_25_6 gw_1_5 gw_25_7 (by decide +kernel) ⟨Nat.le_of_ble_eq_true rfl, Nat.le_of_ble_eq_true rfl⟩ rfl hl.1 rfl (Nat.le_of_ble_eq_true rfl) dX12_text_33 (fun a => (sh_M_fail N h a (2 : Int32))) ⟨hcc.1, hcc.2⟩ hE (fun v1 h2 H locs w hsh2 e1 => ?_)
  have hsl := hsh2.2.2.2.trans hsl
  refine W.widen (k := h_x g - n0) (n := h_s g - s0) hcc.1 hcc.2 ?_
  exact w_iret C w e1 dX12_text_36
set_option maxRecDepth 20000 in
set_option maxHeartbeats 4000000 in
theorem b_M_text_183 {p : Program} {l : Launch} {e : Env} {s : State} {m : MethodId} {args : Array Value} {below : List Frame} {meth : Method} {c : Code} {D : va_G} {cy : cyT} {z : Nat} (C : MX p s m args meth c cX12_text 4 ((some .int)) RX12 (Cond.code yX12_text cX12_text 4 ((some .int)) :: GW)) (N : Nat) (n0 s0 : Nat) (hn0 : s.heap.size = n0) {r : Int32} {g : hS}  : ∀ (n : Nat) (cells slots : Nat) (h : hS) (th : Nat) (x1 : Int32) (x3 : Int32) (H : Heap) (locs : List Loc) (ls : Array Slot), wd D cy z s cells h H locs → h_s h = s0 + slots → lv_has ls 4 [(0, .ref th), (1, .int x1), (3, .int x3)] → f_M_text_183 N  n h th x1 x3 = some (r, g) → W p l e { frames := 9, cells := h_x g - n0, slots := h_s g - s0, locals := 237 } s m args below meth c H locs cells slots (MQ below (eQ D cy z (rI r) g) args s (h_x g - n0) (h_s g - s0) (fun q => z ≤ q)) (F0 m 183 ls []) := by
  obtain ⟨hx, hb, hr, hml, hown, hts, hlk⟩ := id C
  intro n
  induction n with
  | zero =>
    intro cells slots h th x1 x3 H locs ls w hsl hl hE
    cases hE
  | succ n ih =>
    intro cells slots h th x1 x3 H locs ls w hsl hl hE
    have hcc : cells ≤ h_x g - n0 ∧ slots ≤ h_s g - s0 := by
      have q1 := mo_M_text_183 N  (n + 1) h th x1 x3 _ _ hE
      have q2 := wd_x w
      have q3 := q1.1
      have q4 := q1.2.1
      omega
    unfold f_M_text_183 at hE
    refine lv_iload_n hx hb dX12_text_183 rfl (lv_at hl 2 rfl) ?_
    refine lv_sipush (v := 161) hx hb dX12_text_184 (by decide) ?_
    refine w_icmp_ge (tgt := 214) C dX12_text_187 (by decide) hE (fun hc e1 => ?_) (fun hc e1 => ?_)
    · refine lv_iconst (v := 0) hx hb dX12_text_214 (by decide) ?_
      refine W.widen (k := h_x g - n0) (n := h_s g - s0) hcc.1 hcc.2 ?_
      exact w_iret C w e1 dX12_text_215
    · refine lv_aload_n hx hb dX12_text_190 rfl (lv_at hl 0 rfl) ?_
      refine w_gR (r := some th) (ci := 0) (k := 2) C w rfl (by decide) (GF_wsX120 _) (by decide) rfl (List.mem_cons_of_mem _ gw_6_21) rfl dX12_text_191 e1 (fun v1 e2 => ?_)
      refine lv_sipush (v := 161) hx hb dX12_text_194 (by decide) ?_
      refine lv_iload_n hx hb dX12_text_197 rfl (lv_at hl 1 rfl) ?_
      refine lv_imul hx hb dX12_text_198 ?_
      refine lv_iload_n hx hb dX12_text_199 rfl (lv_at hl 2 rfl) ?_
      refine lv_iadd hx hb dX12_text_200 ?_
      refine lv_aload_n hx hb dX12_text_201 rfl (lv_at hl 0 rfl) ?_
      refine w_gR (r := some th) (ci := 0) (k := 18) C w rfl (by decide) (GF_wsX120 _) (by decide) rfl (List.mem_cons_of_mem _ gw_7_12) rfl dX12_text_202 e2 (fun v2 e3 => ?_)
      refine lv_iload_n hx hb dX12_text_205 rfl (lv_at hl 2 rfl) ?_
      refine w_aI (r := v2) C w dX12_text_206 e3 (fun v3 e4 => ?_)
      refine w_uI (r := v1) C w dX12_text_207 e4 (fun h4 H locs w hsh4 e5 => ?_)
      have hsl := hsh4.2.2.2.trans hsl
      obtain ⟨v5, ev5, e6⟩ := bn_some e5
      refine lv_iinc (v := v5) (lv' := [(3, .int v5), (0, .ref th), (1, .int x1)]) hx hb dX12_text_208 hl (k := 2) rfl (by rw [ev5]; rfl) (by decide) rfl (fun ls hl => ?_)
      refine lv_goto (tgt := 183) hx hb dX12_text_211 (by decide) ?_
      exact ih _ _ h4 th x1 v5 _ _ ls w hsl (lv_sub hl [1, 2, 0] rfl) e6
set_option maxRecDepth 20000 in
set_option maxHeartbeats 4000000 in
theorem b_M_text_147 {p : Program} {l : Launch} {e : Env} {s : State} {m : MethodId} {args : Array Value} {below : List Frame} {meth : Method} {c : Code} {D : va_G} {cy : cyT} {z : Nat} (C : MX p s m args meth c cX12_text 4 ((some .int)) RX12 (Cond.code yX12_text cX12_text 4 ((some .int)) :: GW)) (N : Nat) (n0 s0 : Nat) (hn0 : s.heap.size = n0) {r : Int32} {g : hS}  : ∀  (cells slots : Nat) (h : hS) (th : Nat) (x1 : Int32) (H : Heap) (locs : List Loc) (ls : Array Slot), wd D cy z s cells h H locs → h_s h = s0 + slots → lv_has ls 4 [(0, .ref th), (1, .int x1)] → f_M_text_147 N   h th x1 = some (r, g) → W p l e { frames := 9, cells := h_x g - n0, slots := h_s g - s0, locals := 237 } s m args below meth c H locs cells slots (MQ below (eQ D cy z (rI r) g) args s (h_x g - n0) (h_s g - s0) (fun q => z ≤ q)) (F0 m 147 ls []) := by
  obtain ⟨hx, hb, hr, hml, hown, hts, hlk⟩ := id C
  intro cells slots h th x1 H locs ls w hsl hl hE
  have hcc : cells ≤ h_x g - n0 ∧ slots ≤ h_s g - s0 := by
    have q1 := mo_M_text_147 N  h th x1 _ _ hE
    have q2 := wd_x w
    have q3 := q1.1
    have q4 := q1.2.1
    omega
  unfold f_M_text_147 at hE
  refine lv_aload_n hx hb dX12_text_147 rfl (lv_at hl 0 rfl) ?_
  refine w_gI (r := some th) (ci := 0) (k := 27) C w rfl (by decide) (GF_wsX120 _) (by decide) rfl (List.mem_cons_of_mem _ gw_24_16) rfl dX12_text_148 hE (fun v1 e1 => ?_)
  refine w_if_eq (tgt := 177) C dX12_text_151 (by decide) e1 (fun hc e2 => ?_) (fun hc e2 => ?_)
  · refine lv_aload_n hx hb dX12_text_177 rfl (lv_at hl 0 rfl) ?_
    refine w_VV GW_good (n := 0) (F := 0) (Lc := 0) (o := some th) (av := []) (rest := []) C w rfl (by decide) (fun a r g hf => k_M_keep l D cy z N h a  r g hf) gw_31_6 gw_31_7 gw_31_8 gw_1_5 gw_31_9 (by decide +kernel) ⟨Nat.le_of_ble_eq_true rfl, Nat.le_of_ble_eq_true rfl⟩ rfl hl.1 rfl (Nat.le_of_ble_eq_true rfl) dX12_text_178 (fun a => (sh_M_keep N h a )) ⟨hcc.1, hcc.2⟩ e2 (fun v2 h3 H locs w hsh3 e3 => ?_)
    have hsl := hsh3.2.2.2.trans hsl
    refine lv_iconst (v := 0) hx hb dX12_text_181 (by decide) ?_
    refine lv_istore_n (lv' := [(3, .int (0 : Int32)), (0, .ref th), (1, .int x1)]) hx hb dX12_text_182 rfl hl (by decide) rfl (fun ls hl => ?_)
    exact b_M_text_183 C N n0 s0 hn0  N _ _ h3 th x1 (0 : Int32) _ _ ls w hsl (lv_sub hl [1, 2, 0] rfl) e3
  · refine lv_aload_n hx hb dX12_text_154 rfl (lv_at hl 0 rfl) ?_
    refine lv_aload_n hx hb dX12_text_155 rfl (lv_at hl 0 rfl) ?_
    refine w_gI (r := some th) (ci := 0) (k := 28) C w rfl (by decide) (GF_wsX120 _) (by decide) rfl (List.mem_cons_of_mem _ gw_24_19) rfl dX12_text_156 e2 (fun v4 e4 => ?_)
    refine w_pI (r := some th) (ci := 0) (k := 29) C w rfl (by decide) (by unfold roK; omega) (GF_wsX120 _) tyX12 tyX12_ok nmX12 (by decide) rfl (List.mem_cons_of_mem _ gw_7_14) rfl rfl (tyX12_ok 29 (by decide)) dX12_text_159 e4 (fun h5 H locs w hsh5 e5 => ?_)
    have hsl := hsh5.2.2.2.trans hsl
    refine lv_aload_n hx hb dX12_text_162 rfl (lv_at hl 0 rfl) ?_
    refine w_gR (r := some th) (ci := 0) (k := 3) C w rfl (by decide) (GF_wsX120 _) (by decide) rfl (List.mem_cons_of_mem _ gw_6_22) rfl dX12_text_163 e5 (fun v6 e6 => ?_)
    refine lv_iconst (v := 0) hx hb dX12_text_166 (by decide) ?_
    refine lv_dup2_11 hx hb dX12_text_167 rfl (va_rf_cat _) ?_
    refine w_aI (r := v6) C w dX12_text_168 e6 (fun v7 e7 => ?_)
    refine lv_iconst (v := 1) hx hb dX12_text_169 (by decide) ?_
    refine lv_iadd hx hb dX12_text_170 ?_
    refine w_uI (r := v6) C w dX12_text_171 e7 (fun h8 H locs w hsh8 e8 => ?_)
    have hsl := hsh8.2.2.2.trans hsl
    refine lv_aload_n hx hb dX12_text_172 rfl (lv_at hl 0 rfl) ?_
    refine w_gI (r := some th) (ci := 0) (k := 27) C w rfl (by decide) (GF_wsX120 _) (by decide) rfl (List.mem_cons_of_mem _ gw_24_16) rfl dX12_text_173 e8 (fun v9 e9 => ?_)
    refine W.widen (k := h_x g - n0) (n := h_s g - s0) hcc.1 hcc.2 ?_
    exact w_iret C w e9 dX12_text_176
set_option maxRecDepth 20000 in
set_option maxHeartbeats 4000000 in
theorem b_M_text_110 {p : Program} {l : Launch} {e : Env} {s : State} {m : MethodId} {args : Array Value} {below : List Frame} {meth : Method} {c : Code} {D : va_G} {cy : cyT} {z : Nat} (C : MX p s m args meth c cX12_text 4 ((some .int)) RX12 (Cond.code yX12_text cX12_text 4 ((some .int)) :: GW)) (N : Nat) (n0 s0 : Nat) (hn0 : s.heap.size = n0) {r : Int32} {g : hS}  : ∀  (cells slots : Nat) (h : hS) (th : Nat) (x1 : Int32) (H : Heap) (locs : List Loc) (ls : Array Slot), wd D cy z s cells h H locs → h_s h = s0 + slots → lv_has ls 4 [(0, .ref th), (1, .int x1)] → f_M_text_110 N   h th x1 = some (r, g) → W p l e { frames := 9, cells := h_x g - n0, slots := h_s g - s0, locals := 237 } s m args below meth c H locs cells slots (MQ below (eQ D cy z (rI r) g) args s (h_x g - n0) (h_s g - s0) (fun q => z ≤ q)) (F0 m 110 ls []) := by
  obtain ⟨hx, hb, hr, hml, hown, hts, hlk⟩ := id C
  intro cells slots h th x1 H locs ls w hsl hl hE
  have hcc : cells ≤ h_x g - n0 ∧ slots ≤ h_s g - s0 := by
    have q1 := mo_M_text_110 N  h th x1 _ _ hE
    have q2 := wd_x w
    have q3 := q1.1
    have q4 := q1.2.1
    omega
  unfold f_M_text_110 at hE
  refine lv_aload_n hx hb dX12_text_110 rfl (lv_at hl 0 rfl) ?_
  refine w_gI (r := some th) (ci := 0) (k := 27) C w rfl (by decide) (GF_wsX120 _) (by decide) rfl (List.mem_cons_of_mem _ gw_24_16) rfl dX12_text_111 hE (fun v1 e1 => ?_)
  refine w_if_ne (tgt := 147) C dX12_text_114 (by decide) e1 (fun hc e2 => ?_) (fun hc e2 => ?_)
  · exact b_M_text_147 C N n0 s0 hn0   _ _ h th x1 _ _ ls w hsl (lv_sub hl [0, 1] rfl) e2
  · refine lv_aload_n hx hb dX12_text_117 rfl (lv_at hl 0 rfl) ?_
    refine lv_aload_n hx hb dX12_text_118 rfl (lv_at hl 0 rfl) ?_
    refine w_gR (r := some th) (ci := 0) (k := 18) C w rfl (by decide) (GF_wsX120 _) (by decide) rfl (List.mem_cons_of_mem _ gw_7_12) rfl dX12_text_119 e2 (fun v2 e3 => ?_)
    refine lv_iconst (v := 0) hx hb dX12_text_122 (by decide) ?_
    obtain ⟨q3, eq3, e4⟩ := nn_some e3
    subst eq3
    refine w_VI GW_good (n := 2) (F := 5) (Lc := 146) (o := some th) (av := [.ref q3, .int (0 : Int32)]) (rest := []) C w rfl (by decide) (fun a r g hf => k_M_runs l D cy z N h a q3 (0 : Int32) r g hf) gw_28_13 gw_28_14 gw_28_15 gw_1_5 gw_28_16 (by decide +kernel) ⟨Nat.le_of_ble_eq_true rfl, Nat.le_of_ble_eq_true rfl⟩ rfl hl.1 rfl (Nat.le_of_ble_eq_true rfl) dX12_text_123 (fun a => (sh_M_runs N h a q3 (0 : Int32))) ⟨hcc.1, hcc.2⟩ e4 (fun v4 h5 H locs w hsh5 e5 => ?_)
    have hsl := hsh5.2.2.2.trans hsl
    refine w_if_ne (tgt := 147) C dX12_text_126 (by decide) e5 (fun hc e6 => ?_) (fun hc e6 => ?_)
    · exact b_M_text_147 C N n0 s0 hn0   _ _ h5 th x1 _ _ ls w hsl (lv_sub hl [0, 1] rfl) e6
    · refine lv_aload_n hx hb dX12_text_129 rfl (lv_at hl 0 rfl) ?_
      refine lv_iconst (v := 4) hx hb dX12_text_130 (by decide) ?_
      refine w_pI (r := some th) (ci := 0) (k := 27) C w rfl (by decide) (by unfold roK; omega) (GF_wsX120 _) tyX12 tyX12_ok nmX12 (by decide) rfl (List.mem_cons_of_mem _ gw_24_16) rfl rfl (tyX12_ok 27 (by decide)) dX12_text_131 e6 (fun h6 H locs w hsh6 e7 => ?_)
      have hsl := hsh6.2.2.2.trans hsl
      refine lv_aload_n hx hb dX12_text_134 rfl (lv_at hl 0 rfl) ?_
      refine lv_aload_n hx hb dX12_text_135 rfl (lv_at hl 0 rfl) ?_
      refine w_gR (r := some th) (ci := 0) (k := 19) C w rfl (by decide) (GF_wsX120 _) (by decide) rfl (List.mem_cons_of_mem _ gw_7_13) rfl dX12_text_136 e7 (fun v7 e8 => ?_)
      refine lv_aload_n hx hb dX12_text_139 rfl (lv_at hl 0 rfl) ?_
      refine w_gI (r := some th) (ci := 0) (k := 12) C w rfl (by decide) (GF_wsX120 _) (by decide) rfl (List.mem_cons_of_mem _ gw_24_18) rfl dX12_text_140 e8 (fun v8 e9 => ?_)
      refine w_aI (r := v7) C w dX12_text_143 e9 (fun v9 e10 => ?_)
      refine w_pI (r := some th) (ci := 0) (k := 28) C w rfl (by decide) (by unfold roK; omega) (GF_wsX120 _) tyX12 tyX12_ok nmX12 (by decide) rfl (List.mem_cons_of_mem _ gw_24_19) rfl rfl (tyX12_ok 28 (by decide)) dX12_text_144 e10 (fun h10 H locs w hsh10 e11 => ?_)
      have hsl := hsh10.2.2.2.trans hsl
      exact b_M_text_147 C N n0 s0 hn0   _ _ h10 th x1 _ _ ls w hsl (lv_sub hl [0, 1] rfl) e11
set_option maxRecDepth 20000 in
set_option maxHeartbeats 4000000 in
theorem b_M_text_95 {p : Program} {l : Launch} {e : Env} {s : State} {m : MethodId} {args : Array Value} {below : List Frame} {meth : Method} {c : Code} {D : va_G} {cy : cyT} {z : Nat} (C : MX p s m args meth c cX12_text 4 ((some .int)) RX12 (Cond.code yX12_text cX12_text 4 ((some .int)) :: GW)) (N : Nat) (n0 s0 : Nat) (hn0 : s.heap.size = n0) {r : Int32} {g : hS}  : ∀  (cells slots : Nat) (h : hS) (th : Nat) (x1 : Int32) (H : Heap) (locs : List Loc) (ls : Array Slot), wd D cy z s cells h H locs → h_s h = s0 + slots → lv_has ls 4 [(0, .ref th), (1, .int x1)] → f_M_text_95 N   h th x1 = some (r, g) → W p l e { frames := 9, cells := h_x g - n0, slots := h_s g - s0, locals := 237 } s m args below meth c H locs cells slots (MQ below (eQ D cy z (rI r) g) args s (h_x g - n0) (h_s g - s0) (fun q => z ≤ q)) (F0 m 95 ls []) := by
  obtain ⟨hx, hb, hr, hml, hown, hts, hlk⟩ := id C
  intro cells slots h th x1 H locs ls w hsl hl hE
  have hcc : cells ≤ h_x g - n0 ∧ slots ≤ h_s g - s0 := by
    have q1 := mo_M_text_95 N  h th x1 _ _ hE
    have q2 := wd_x w
    have q3 := q1.1
    have q4 := q1.2.1
    omega
  unfold f_M_text_95 at hE
  refine lv_aload_n hx hb dX12_text_95 rfl (lv_at hl 0 rfl) ?_
  refine w_gI (r := some th) (ci := 0) (k := 27) C w rfl (by decide) (GF_wsX120 _) (by decide) rfl (List.mem_cons_of_mem _ gw_24_16) rfl dX12_text_96 hE (fun v1 e1 => ?_)
  refine w_if_ne (tgt := 110) C dX12_text_99 (by decide) e1 (fun hc e2 => ?_) (fun hc e2 => ?_)
  · exact b_M_text_110 C N n0 s0 hn0   _ _ h th x1 _ _ ls w hsl (lv_sub hl [0, 1] rfl) e2
  · refine lv_aload_n hx hb dX12_text_102 rfl (lv_at hl 0 rfl) ?_
    refine lv_aload_n hx hb dX12_text_103 rfl (lv_at hl 0 rfl) ?_
    refine w_gR (r := some th) (ci := 0) (k := 18) C w rfl (by decide) (GF_wsX120 _) (by decide) rfl (List.mem_cons_of_mem _ gw_7_12) rfl dX12_text_104 e2 (fun v2 e3 => ?_)
    obtain ⟨q3, eq3, e4⟩ := nn_some e3
    subst eq3
    refine w_VAV GW_good (n := 1) (F := 8) (Lc := 215) (o := some th) (av := [.ref q3]) (rest := []) C w rfl (by decide) (fun a r g hf => k_M_laysOnTop l D cy z N h a q3 r g hf) gw_27_17 gw_27_18 gw_27_19 gw_1_5 gw_27_20 (by decide +kernel) ⟨Nat.le_of_ble_eq_true rfl, Nat.le_of_ble_eq_true rfl⟩ rfl hl.1 rfl (Nat.le_of_ble_eq_true rfl) dX12_text_107 (fun a => (mo_M_laysOnTop N h a q3)) (fun a v4 h5 q1 q2 => by have u1 := (mo_M_laysOnTop N h a q3) _ _ q1; have u2 := mo_M_text_110 N   h5 th x1 _ _ q2; have u3 := wd_x w; have u4 := u1.1; have u5 := u1.2.1; have u6 := u2.1; have u7 := u2.2.1; show cells + _ ≤ h_x g - n0 ∧ slots + _ ≤ h_s g - s0; omega) e4 (fun v4 h5 H locs w hsh5 e5 => ?_)
    exact b_M_text_110 C N n0 s0 hn0   _ _ h5 th x1 _ _ ls w (by have u5 := hsh5.2.1; rw [hsl] at u5 ⊢; omega) (lv_sub hl [0, 1] rfl) e5
set_option maxRecDepth 20000 in
set_option maxHeartbeats 4000000 in
theorem b_M_text_73 {p : Program} {l : Launch} {e : Env} {s : State} {m : MethodId} {args : Array Value} {below : List Frame} {meth : Method} {c : Code} {D : va_G} {cy : cyT} {z : Nat} (C : MX p s m args meth c cX12_text 4 ((some .int)) RX12 (Cond.code yX12_text cX12_text 4 ((some .int)) :: GW)) (N : Nat) (n0 s0 : Nat) (hn0 : s.heap.size = n0) {r : Int32} {g : hS}  : ∀ (n : Nat) (cells slots : Nat) (h : hS) (th : Nat) (x1 : Int32) (H : Heap) (locs : List Loc) (ls : Array Slot), wd D cy z s cells h H locs → h_s h = s0 + slots → lv_has ls 4 [(0, .ref th), (1, .int x1)] → f_M_text_73 N  n h th x1 = some (r, g) → W p l e { frames := 9, cells := h_x g - n0, slots := h_s g - s0, locals := 237 } s m args below meth c H locs cells slots (MQ below (eQ D cy z (rI r) g) args s (h_x g - n0) (h_s g - s0) (fun q => z ≤ q)) (F0 m 73 ls []) := by
  obtain ⟨hx, hb, hr, hml, hown, hts, hlk⟩ := id C
  intro n
  induction n with
  | zero =>
    intro cells slots h th x1 H locs ls w hsl hl hE
    cases hE
  | succ n ih =>
    intro cells slots h th x1 H locs ls w hsl hl hE
    have hcc : cells ≤ h_x g - n0 ∧ slots ≤ h_s g - s0 := by
      have q1 := mo_M_text_73 N  (n + 1) h th x1 _ _ hE
      have q2 := wd_x w
      have q3 := q1.1
      have q4 := q1.2.1
      omega
    unfold f_M_text_73 at hE
    refine lv_aload_n hx hb dX12_text_73 rfl (lv_at hl 0 rfl) ?_
    refine w_gI (r := some th) (ci := 0) (k := 27) C w rfl (by decide) (GF_wsX120 _) (by decide) rfl (List.mem_cons_of_mem _ gw_24_16) rfl dX12_text_74 hE (fun v1 e1 => ?_)
    refine w_if_ne (tgt := 95) C dX12_text_77 (by decide) e1 (fun hc e2 => ?_) (fun hc e2 => ?_)
    · exact b_M_text_95 C N n0 s0 hn0   _ _ h th x1 _ _ ls w hsl (lv_sub hl [0, 1] rfl) e2
    · refine lv_aload_n hx hb dX12_text_80 rfl (lv_at hl 0 rfl) ?_
      refine w_gI (r := some th) (ci := 0) (k := 23) C w rfl (by decide) (GF_wsX120 _) (by decide) rfl (List.mem_cons_of_mem _ gw_24_17) rfl dX12_text_81 e2 (fun v2 e3 => ?_)
      refine w_if_eq (tgt := 95) C dX12_text_84 (by decide) e3 (fun hc e4 => ?_) (fun hc e4 => ?_)
      · exact b_M_text_95 C N n0 s0 hn0   _ _ h th x1 _ _ ls w hsl (lv_sub hl [0, 1] rfl) e4
      · refine lv_aload_n hx hb dX12_text_87 rfl (lv_at hl 0 rfl) ?_
        refine lv_iload_n hx hb dX12_text_88 rfl (lv_at hl 1 rfl) ?_
        refine w_VV GW_good (n := 1) (F := 6) (Lc := 129) (o := some th) (av := [.int x1]) (rest := []) C w rfl (by decide) (fun a r g hf => k_M_readClause l D cy z N h a x1 r g hf) gw_26_3 gw_26_4 gw_26_5 gw_1_5 gw_26_6 (by decide +kernel) ⟨Nat.le_of_ble_eq_true rfl, Nat.le_of_ble_eq_true rfl⟩ rfl hl.1 rfl (Nat.le_of_ble_eq_true rfl) dX12_text_89 (fun a => (sh_M_readClause N h a x1)) ⟨hcc.1, hcc.2⟩ e4 (fun v3 h4 H locs w hsh4 e5 => ?_)
        have hsl := hsh4.2.2.2.trans hsl
        refine lv_goto (tgt := 73) hx hb dX12_text_92 (by decide) ?_
        exact ih _ _ h4 th x1 _ _ ls w hsl (lv_sub hl [0, 1] rfl) e5
set_option maxRecDepth 20000 in
set_option maxHeartbeats 4000000 in
theorem k_M_text (l : Launch) (D : va_G) (cy : cyT) (z : Nat) (N : Nat) (h : hS) (th : Nat) (x1 : Int32) (x2 : Int32) (r : Int32) (g : hS) (hE : f_M_text N h th x1 x2 = some (r, g)) : ct l yX12_text (Cond.code yX12_text cX12_text 4 ((some .int)) :: GW) { frames := 9, cells := h_x g - h_x h, slots := h_s g - h_s h, locals := 237 } D cy z h [.ref th, .int x1, .int x2] (rI r) g := by
  refine Met.ofW (cc := cX12_text) (maxL := 4) (ret := (some .int)) (by decide) rfl ?_
  intro p e s m args below meth c s₁ B hml hv
  obtain ⟨rfl, hw⟩ := hv
  have C : MX p s m ([.ref th, .int x1, .int x2] : List Value).toArray meth c cX12_text 4 ((some .int)) RX12 (Cond.code yX12_text cX12_text 4 ((some .int)) :: GW) := ⟨B.exec, B.bytes, B.returns, hml, findClass_of_methodNamed B.named, atoms_spec (ws := Cond.code yX12_text cX12_text 4 ((some .int)) :: GW) B.pre, B.notSynchronized⟩
  obtain ⟨hx, hb, hr, hml, hown, hts, hlk⟩ := id C
  have w := wd_of hw
  have hsl : h_s h = h_s h + 0 := rfl
  have hn0 : s.heap.size = h_x h := (wd_x w).1
  obtain ⟨ls, hen, hl⟩ : ∃ ls : Array Slot, entryFrame m ([.ref th, .int x1, .int x2] : List Value).toArray 4 = F0 m 0 ls [] ∧ lv_has ls 4 [(0, .ref th), (1, .int x1), (2, .int x2)] := by
    exact ⟨_, lg_entry_eq _ _ _, lv_entry _ (Nat.le_of_ble_eq_true rfl)⟩
  rw [hen]
  have hcc : 0 ≤ h_x g - h_x h ∧ 0 ≤ h_s g - h_s h := ⟨Nat.zero_le _, Nat.zero_le _⟩
  unfold f_M_text at hE
  refine lv_aload_n hx hb dX12_text_0 rfl (lv_at hl 0 rfl) ?_
  refine lv_iconst (v := 0) hx hb dX12_text_1 (by decide) ?_
  refine w_pI (r := some th) (ci := 0) (k := 1) C w rfl (by decide) (by unfold roK; omega) (GF_wsX120 _) tyX12 tyX12_ok nmX12 (by decide) rfl (List.mem_cons_of_mem _ gw_8_18) rfl rfl (tyX12_ok 1 (by decide)) dX12_text_2 hE (fun h1 H locs w hsh1 e1 => ?_)
  have hsl := hsh1.2.2.2.trans hsl
  refine lv_aload_n hx hb dX12_text_5 rfl (lv_at hl 0 rfl) ?_
  refine lv_iload_n hx hb dX12_text_6 rfl (lv_at hl 1 rfl) ?_
  refine w_VI GW_good (n := 1) (F := 1) (Lc := 25) (o := some th) (av := [.int x1]) (rest := []) C w rfl (by decide) (fun a r g hf => k_M_isCost l D cy z N h1 a x1 r g hf) gw_24_20 gw_24_21 gw_24_22 gw_1_5 gw_24_23 (by decide +kernel) ⟨Nat.le_of_ble_eq_true rfl, Nat.le_of_ble_eq_true rfl⟩ rfl hl.1 rfl (Nat.le_of_ble_eq_true rfl) dX12_text_7 (fun a => (sh_M_isCost N h1 a x1)) ⟨hcc.1, hcc.2⟩ e1 (fun v2 h3 H locs w hsh3 e2 => ?_)
  have hsl := hsh3.2.2.2.trans hsl
  refine w_if_ne (tgt := 19) C dX12_text_10 (by decide) e2 (fun hc e3 => ?_) (fun hc e3 => ?_)
  · refine lv_iload_n hx hb dX12_text_19 rfl (lv_at hl 2 rfl) ?_
    refine w_if_lt (tgt := 31) C dX12_text_20 (by decide) e3 (fun hc e4 => ?_) (fun hc e4 => ?_)
    · exact b_M_text_31 C N (h_x h) (h_s h) hn0   _ _ h3 th _ _ ls w hsl (lv_sub hl [0] rfl) e4
    · refine lv_iload_n hx hb dX12_text_23 rfl (lv_at hl 2 rfl) ?_
      refine lv_aload_n hx hb dX12_text_24 rfl (lv_at hl 0 rfl) ?_
      refine w_gI (r := some th) (ci := 0) (k := 20) C w rfl (by decide) (GF_wsX120 _) (by decide) rfl (List.mem_cons_of_mem _ gw_8_19) rfl dX12_text_25 e4 (fun v4 e5 => ?_)
      refine w_icmp_le (tgt := 37) C dX12_text_28 (by decide) e5 (fun hc e6 => ?_) (fun hc e6 => ?_)
      · refine lv_aload_n hx hb dX12_text_37 rfl (lv_at hl 0 rfl) ?_
        refine lv_iconst (v := 0) hx hb dX12_text_38 (by decide) ?_
        refine w_pI (r := some th) (ci := 0) (k := 20) C w rfl (by decide) (by unfold roK; omega) (GF_wsX120 _) tyX12 tyX12_ok nmX12 (by decide) rfl (List.mem_cons_of_mem _ gw_8_19) rfl rfl (tyX12_ok 20 (by decide)) dX12_text_39 e6 (fun h5 H locs w hsh5 e7 => ?_)
        have hsl := hsh5.2.2.2.trans hsl
        refine lv_aload_n hx hb dX12_text_42 rfl (lv_at hl 0 rfl) ?_
        refine lv_iload_n hx hb dX12_text_43 rfl (lv_at hl 2 rfl) ?_
        refine w_pI (r := some th) (ci := 0) (k := 22) C w rfl (by decide) (by unfold roK; omega) (GF_wsX120 _) tyX12 tyX12_ok nmX12 (by decide) rfl (List.mem_cons_of_mem _ gw_24_14) rfl rfl (tyX12_ok 22 (by decide)) dX12_text_44 e7 (fun h6 H locs w hsh6 e8 => ?_)
        have hsl := hsh6.2.2.2.trans hsl
        refine lv_aload_n hx hb dX12_text_47 rfl (lv_at hl 0 rfl) ?_
        refine lv_iconst (v := 0) hx hb dX12_text_48 (by decide) ?_
        refine w_pI (r := some th) (ci := 0) (k := 21) C w rfl (by decide) (by unfold roK; omega) (GF_wsX120 _) tyX12 tyX12_ok nmX12 (by decide) rfl (List.mem_cons_of_mem _ gw_24_15) rfl rfl (tyX12_ok 21 (by decide)) dX12_text_49 e8 (fun h7 H locs w hsh7 e9 => ?_)
        have hsl := hsh7.2.2.2.trans hsl
        refine lv_aload_n hx hb dX12_text_52 rfl (lv_at hl 0 rfl) ?_
        refine lv_iconst (v := 0) hx hb dX12_text_53 (by decide) ?_
        refine w_pI (r := some th) (ci := 0) (k := 27) C w rfl (by decide) (by unfold roK; omega) (GF_wsX120 _) tyX12 tyX12_ok nmX12 (by decide) rfl (List.mem_cons_of_mem _ gw_24_16) rfl rfl (tyX12_ok 27 (by decide)) dX12_text_54 e9 (fun h8 H locs w hsh8 e10 => ?_)
        have hsl := hsh8.2.2.2.trans hsl
        refine lv_aload_n hx hb dX12_text_57 rfl (lv_at hl 0 rfl) ?_
        refine lv_iconst (v := -1) hx hb dX12_text_58 (by decide) ?_
        refine w_pI (r := some th) (ci := 0) (k := 29) C w rfl (by decide) (by unfold roK; omega) (GF_wsX120 _) tyX12 tyX12_ok nmX12 (by decide) rfl (List.mem_cons_of_mem _ gw_7_14) rfl rfl (tyX12_ok 29 (by decide)) dX12_text_59 e10 (fun h9 H locs w hsh9 e11 => ?_)
        have hsl := hsh9.2.2.2.trans hsl
        refine lv_aload_n hx hb dX12_text_62 rfl (lv_at hl 0 rfl) ?_
        refine w_gR (r := some th) (ci := 0) (k := 18) C w rfl (by decide) (GF_wsX120 _) (by decide) rfl (List.mem_cons_of_mem _ gw_7_12) rfl dX12_text_63 e11 (fun v10 e12 => ?_)
        refine lv_iconst (v := 0) hx hb dX12_text_66 (by decide) ?_
        refine lv_iconst (v := 0) hx hb dX12_text_67 (by decide) ?_
        refine w_uI (r := v10) C w dX12_text_68 e12 (fun h11 H locs w hsh11 e13 => ?_)
        have hsl := hsh11.2.2.2.trans hsl
        refine lv_aload_n hx hb dX12_text_69 rfl (lv_at hl 0 rfl) ?_
        refine w_VV GW_good (n := 0) (F := 1) (Lc := 44) (o := some th) (av := []) (rest := []) C w rfl (by decide) (fun a r g hf => k_M_stepOn l D cy z N h11 a  r g hf) gw_25_8 gw_25_9 gw_25_10 gw_1_5 gw_25_11 (by decide +kernel) ⟨Nat.le_of_ble_eq_true rfl, Nat.le_of_ble_eq_true rfl⟩ rfl hl.1 rfl (Nat.le_of_ble_eq_true rfl) dX12_text_70 (fun a => (sh_M_stepOn N h11 a )) ⟨hcc.1, hcc.2⟩ e13 (fun v12 h13 H locs w hsh13 e14 => ?_)
        have hsl := hsh13.2.2.2.trans hsl
        exact b_M_text_73 C N (h_x h) (h_s h) hn0  N _ _ h13 th x1 _ _ ls w hsl (lv_sub hl [0, 1] rfl) e14
      · exact b_M_text_31 C N (h_x h) (h_s h) hn0   _ _ h3 th _ _ ls w hsl (lv_sub hl [0] rfl) e6
  · refine lv_aload_n hx hb dX12_text_13 rfl (lv_at hl 0 rfl) ?_
    refine lv_iconst (v := 1) hx hb dX12_text_14 (by decide) ?_
    refine w_VI GW_good (n := 1) (F := 0) (Lc := 0) (o := some th) (av := [.int (1 : Int32)]) (rest := []) C w rfl (by decide) (fun a r g hf => k_M_fail l D cy z N h3 a (1 : Int32) r g hf) gw_25_4 gw_25_5 gw_25_6 gw_1_5 gw_25_7 (by decide +kernel) ⟨Nat.le_of_ble_eq_true rfl, Nat.le_of_ble_eq_true rfl⟩ rfl hl.1 rfl (Nat.le_of_ble_eq_true rfl) dX12_text_15 (fun a => (sh_M_fail N h3 a (1 : Int32))) ⟨hcc.1, hcc.2⟩ e3 (fun v14 h15 H locs w hsh15 e15 => ?_)
    have hsl := hsh15.2.2.2.trans hsl
    refine W.widen (k := h_x g - (h_x h)) (n := h_s g - (h_s h)) hcc.1 hcc.2 ?_
    exact w_iret C w e15 dX12_text_18
set_option maxRecDepth 20000 in
set_option maxHeartbeats 4000000 in
theorem k_M_tellDigits_L0 (l : Launch) (D : va_G) (cy : cyT) (z : Nat) (N : Nat) (h : hS) (th : Nat) (x1 : Int32) (r : Unit) (g : hS) (hE : f_M_tellDigits_L0 N h th x1 = some (r, g)) : ct l yX12_tellDigits (Cond.code yX12_tellDigits cX12_tellDigits 2 (none) :: GW) { frames := 1, cells := 0, slots := 0, locals := 21 } D cy z h [.ref th, .int x1] (rV r) g := by
  refine Met.ofW (cc := cX12_tellDigits) (maxL := 2) (ret := none) (by decide) rfl ?_
  intro p e s m args below meth c s₁ B hml hv
  obtain ⟨rfl, hw⟩ := hv
  have C : MX p s m ([.ref th, .int x1] : List Value).toArray meth c cX12_tellDigits 2 (none) RX12 (Cond.code yX12_tellDigits cX12_tellDigits 2 (none) :: GW) := ⟨B.exec, B.bytes, B.returns, hml, findClass_of_methodNamed B.named, atoms_spec (ws := Cond.code yX12_tellDigits cX12_tellDigits 2 (none) :: GW) B.pre, B.notSynchronized⟩
  obtain ⟨hx, hb, hr, hml, hown, hts, hlk⟩ := id C
  have w := wd_of hw
  obtain ⟨ls, hen, hl⟩ : ∃ ls : Array Slot, entryFrame m ([.ref th, .int x1] : List Value).toArray 2 = F0 m 0 ls [] ∧ lv_has ls 2 [(0, .ref th), (1, .int x1)] := by
    exact ⟨_, lg_entry_eq _ _ _, lv_entry _ (Nat.le_of_ble_eq_true rfl)⟩
  rw [hen]
  unfold f_M_tellDigits_L0 at hE
  refine lv_iload_n hx hb dX12_tellDigits_0 rfl (lv_at hl 1 rfl) ?_
  refine lv_bipush (v := 9) hx hb dX12_tellDigits_1 (by decide) ?_
  refine w_icmp_le (tgt := 14) C dX12_tellDigits_3 (by decide) hE (fun hc e1 => ?_) (fun hc e1 => ?_)
  · refine lv_aload_n hx hb dX12_tellDigits_14 rfl (lv_at hl 0 rfl) ?_
    refine lv_bipush (v := 48) hx hb dX12_tellDigits_15 (by decide) ?_
    refine lv_iload_n hx hb dX12_tellDigits_17 rfl (lv_at hl 1 rfl) ?_
    refine lv_bipush (v := 10) hx hb dX12_tellDigits_18 (by decide) ?_
    refine w_irem C dX12_tellDigits_20 e1 (fun e2 => ?_)
    refine lv_iadd hx hb dX12_tellDigits_21 ?_
    refine w_VV GW_good (n := 1) (F := 0) (Lc := 0) (o := some th) (av := [.int ((48 : Int32) + (x1 - x1 / (10 : Int32) * (10 : Int32)))]) (rest := []) C w rfl (by decide) (fun a r g hf => k_M_tellByte l D cy z N h a ((48 : Int32) + (x1 - x1 / (10 : Int32) * (10 : Int32))) r g hf) gw_55_21 gw_55_22 gw_55_23 gw_1_5 gw_56_0 (by decide +kernel) ⟨Nat.le_of_ble_eq_true rfl, Nat.le_of_ble_eq_true rfl⟩ rfl hl.1 rfl (Nat.le_of_ble_eq_true rfl) dX12_tellDigits_22 (fun a => (sh_M_tellByte N h a ((48 : Int32) + (x1 - x1 / (10 : Int32) * (10 : Int32))))) ⟨by decide, by decide⟩ e2 (fun v1 h2 H locs w hsh2 e3 => ?_)
    exact w_vret C w e3 dX12_tellDigits_25
  · refine lv_aload_n hx hb dX12_tellDigits_6 rfl (lv_at hl 0 rfl) ?_
    refine lv_iload_n hx hb dX12_tellDigits_7 rfl (lv_at hl 1 rfl) ?_
    refine lv_bipush (v := 10) hx hb dX12_tellDigits_8 (by decide) ?_
    refine w_idiv C dX12_tellDigits_10 e1 (fun e4 => ?_)
    cases e4
set_option maxRecDepth 20000 in
set_option maxHeartbeats 4000000 in
theorem b_M_tellDigits_L1_14 {p : Program} {l : Launch} {e : Env} {s : State} {m : MethodId} {args : Array Value} {below : List Frame} {meth : Method} {c : Code} {D : va_G} {cy : cyT} {z : Nat} (C : MX p s m args meth c cX12_tellDigits 2 (none) RX12 (Cond.code yX12_tellDigits cX12_tellDigits 2 (none) :: GW)) (N : Nat) {r : Unit} {g : hS}  : ∀  (h : hS) (th : Nat) (x1 : Int32) (H : Heap) (locs : List Loc) (ls : Array Slot), wd D cy z s 0 h H locs → lv_has ls 2 [(0, .ref th), (1, .int x1)] → f_M_tellDigits_L1_14 N   h th x1 = some (r, g) → W p l e { frames := 2, cells := 0, slots := 0, locals := 42 } s m args below meth c H locs 0 0 (MQ below (eQ D cy z (rV r) g) args s 0 0 (fun q => z ≤ q)) (F0 m 14 ls []) := by
  obtain ⟨hx, hb, hr, hml, hown, hts, hlk⟩ := id C
  intro  h th x1 H locs ls w  hl hE
  unfold f_M_tellDigits_L1_14 at hE
  refine lv_aload_n hx hb dX12_tellDigits_14 rfl (lv_at hl 0 rfl) ?_
  refine lv_bipush (v := 48) hx hb dX12_tellDigits_15 (by decide) ?_
  refine lv_iload_n hx hb dX12_tellDigits_17 rfl (lv_at hl 1 rfl) ?_
  refine lv_bipush (v := 10) hx hb dX12_tellDigits_18 (by decide) ?_
  refine w_irem C dX12_tellDigits_20 hE (fun e1 => ?_)
  refine lv_iadd hx hb dX12_tellDigits_21 ?_
  refine w_VV GW_good (n := 1) (F := 0) (Lc := 0) (o := some th) (av := [.int ((48 : Int32) + (x1 - x1 / (10 : Int32) * (10 : Int32)))]) (rest := []) C w rfl (by decide) (fun a r g hf => k_M_tellByte l D cy z N h a ((48 : Int32) + (x1 - x1 / (10 : Int32) * (10 : Int32))) r g hf) gw_55_21 gw_55_22 gw_55_23 gw_1_5 gw_56_0 (by decide +kernel) ⟨Nat.le_of_ble_eq_true rfl, Nat.le_of_ble_eq_true rfl⟩ rfl hl.1 rfl (Nat.le_of_ble_eq_true rfl) dX12_tellDigits_22 (fun a => (sh_M_tellByte N h a ((48 : Int32) + (x1 - x1 / (10 : Int32) * (10 : Int32))))) ⟨by decide, by decide⟩ e1 (fun v1 h2 H locs w hsh2 e2 => ?_)
  exact w_vret C w e2 dX12_tellDigits_25
set_option maxRecDepth 20000 in
set_option maxHeartbeats 4000000 in
theorem k_M_tellDigits_L1 (l : Launch) (D : va_G) (cy : cyT) (z : Nat) (N : Nat) (h : hS) (th : Nat) (x1 : Int32) (r : Unit) (g : hS) (hE : f_M_tellDigits_L1 N h th x1 = some (r, g)) : ct l yX12_tellDigits (Cond.code yX12_tellDigits cX12_tellDigits 2 (none) :: GW) { frames := 2, cells := 0, slots := 0, locals := 42 } D cy z h [.ref th, .int x1] (rV r) g := by
  refine Met.ofW (cc := cX12_tellDigits) (maxL := 2) (ret := none) (by decide) rfl ?_
  intro p e s m args below meth c s₁ B hml hv
  obtain ⟨rfl, hw⟩ := hv
  have C : MX p s m ([.ref th, .int x1] : List Value).toArray meth c cX12_tellDigits 2 (none) RX12 (Cond.code yX12_tellDigits cX12_tellDigits 2 (none) :: GW) := ⟨B.exec, B.bytes, B.returns, hml, findClass_of_methodNamed B.named, atoms_spec (ws := Cond.code yX12_tellDigits cX12_tellDigits 2 (none) :: GW) B.pre, B.notSynchronized⟩
  obtain ⟨hx, hb, hr, hml, hown, hts, hlk⟩ := id C
  have w := wd_of hw
  obtain ⟨ls, hen, hl⟩ : ∃ ls : Array Slot, entryFrame m ([.ref th, .int x1] : List Value).toArray 2 = F0 m 0 ls [] ∧ lv_has ls 2 [(0, .ref th), (1, .int x1)] := by
    exact ⟨_, lg_entry_eq _ _ _, lv_entry _ (Nat.le_of_ble_eq_true rfl)⟩
  rw [hen]
  unfold f_M_tellDigits_L1 at hE
  refine lv_iload_n hx hb dX12_tellDigits_0 rfl (lv_at hl 1 rfl) ?_
  refine lv_bipush (v := 9) hx hb dX12_tellDigits_1 (by decide) ?_
  refine w_icmp_le (tgt := 14) C dX12_tellDigits_3 (by decide) hE (fun hc e1 => ?_) (fun hc e1 => ?_)
  · exact b_M_tellDigits_L1_14 C N     h th x1 _ _ ls w  (lv_sub hl [0, 1] rfl) e1
  · refine lv_aload_n hx hb dX12_tellDigits_6 rfl (lv_at hl 0 rfl) ?_
    refine lv_iload_n hx hb dX12_tellDigits_7 rfl (lv_at hl 1 rfl) ?_
    refine lv_bipush (v := 10) hx hb dX12_tellDigits_8 (by decide) ?_
    refine w_idiv C dX12_tellDigits_10 e1 (fun e2 => ?_)
    refine w_VV GW_good (n := 1) (F := 1) (Lc := 21) (o := some th) (av := [.int (x1 / (10 : Int32))]) (rest := []) C w rfl (by decide) (fun a r g hf => k_M_tellDigits_L0 l D cy z N h a (x1 / (10 : Int32)) r g hf) gw_56_5 gw_56_6 gw_56_7 gw_1_5 gw_56_8 (by decide +kernel) ⟨Nat.le_of_ble_eq_true rfl, Nat.le_of_ble_eq_true rfl⟩ rfl hl.1 rfl (Nat.le_of_ble_eq_true rfl) dX12_tellDigits_11 (fun a => (sh_M_tellDigits_L0 N h a (x1 / (10 : Int32)))) ⟨by decide, by decide⟩ e2 (fun v1 h2 H locs w hsh2 e3 => ?_)
    exact b_M_tellDigits_L1_14 C N     h2 th x1 _ _ ls w  (lv_sub hl [0, 1] rfl) e3
set_option maxRecDepth 20000 in
set_option maxHeartbeats 4000000 in
theorem b_M_tellDigits_L2_14 {p : Program} {l : Launch} {e : Env} {s : State} {m : MethodId} {args : Array Value} {below : List Frame} {meth : Method} {c : Code} {D : va_G} {cy : cyT} {z : Nat} (C : MX p s m args meth c cX12_tellDigits 2 (none) RX12 (Cond.code yX12_tellDigits cX12_tellDigits 2 (none) :: GW)) (N : Nat) {r : Unit} {g : hS}  : ∀  (h : hS) (th : Nat) (x1 : Int32) (H : Heap) (locs : List Loc) (ls : Array Slot), wd D cy z s 0 h H locs → lv_has ls 2 [(0, .ref th), (1, .int x1)] → f_M_tellDigits_L2_14 N   h th x1 = some (r, g) → W p l e { frames := 3, cells := 0, slots := 0, locals := 63 } s m args below meth c H locs 0 0 (MQ below (eQ D cy z (rV r) g) args s 0 0 (fun q => z ≤ q)) (F0 m 14 ls []) := by
  obtain ⟨hx, hb, hr, hml, hown, hts, hlk⟩ := id C
  intro  h th x1 H locs ls w  hl hE
  unfold f_M_tellDigits_L2_14 at hE
  refine lv_aload_n hx hb dX12_tellDigits_14 rfl (lv_at hl 0 rfl) ?_
  refine lv_bipush (v := 48) hx hb dX12_tellDigits_15 (by decide) ?_
  refine lv_iload_n hx hb dX12_tellDigits_17 rfl (lv_at hl 1 rfl) ?_
  refine lv_bipush (v := 10) hx hb dX12_tellDigits_18 (by decide) ?_
  refine w_irem C dX12_tellDigits_20 hE (fun e1 => ?_)
  refine lv_iadd hx hb dX12_tellDigits_21 ?_
  refine w_VV GW_good (n := 1) (F := 0) (Lc := 0) (o := some th) (av := [.int ((48 : Int32) + (x1 - x1 / (10 : Int32) * (10 : Int32)))]) (rest := []) C w rfl (by decide) (fun a r g hf => k_M_tellByte l D cy z N h a ((48 : Int32) + (x1 - x1 / (10 : Int32) * (10 : Int32))) r g hf) gw_55_21 gw_55_22 gw_55_23 gw_1_5 gw_56_0 (by decide +kernel) ⟨Nat.le_of_ble_eq_true rfl, Nat.le_of_ble_eq_true rfl⟩ rfl hl.1 rfl (Nat.le_of_ble_eq_true rfl) dX12_tellDigits_22 (fun a => (sh_M_tellByte N h a ((48 : Int32) + (x1 - x1 / (10 : Int32) * (10 : Int32))))) ⟨by decide, by decide⟩ e1 (fun v1 h2 H locs w hsh2 e2 => ?_)
  exact w_vret C w e2 dX12_tellDigits_25
set_option maxRecDepth 20000 in
set_option maxHeartbeats 4000000 in
theorem k_M_tellDigits_L2 (l : Launch) (D : va_G) (cy : cyT) (z : Nat) (N : Nat) (h : hS) (th : Nat) (x1 : Int32) (r : Unit) (g : hS) (hE : f_M_tellDigits_L2 N h th x1 = some (r, g)) : ct l yX12_tellDigits (Cond.code yX12_tellDigits cX12_tellDigits 2 (none) :: GW) { frames := 3, cells := 0, slots := 0, locals := 63 } D cy z h [.ref th, .int x1] (rV r) g := by
  refine Met.ofW (cc := cX12_tellDigits) (maxL := 2) (ret := none) (by decide) rfl ?_
  intro p e s m args below meth c s₁ B hml hv
  obtain ⟨rfl, hw⟩ := hv
  have C : MX p s m ([.ref th, .int x1] : List Value).toArray meth c cX12_tellDigits 2 (none) RX12 (Cond.code yX12_tellDigits cX12_tellDigits 2 (none) :: GW) := ⟨B.exec, B.bytes, B.returns, hml, findClass_of_methodNamed B.named, atoms_spec (ws := Cond.code yX12_tellDigits cX12_tellDigits 2 (none) :: GW) B.pre, B.notSynchronized⟩
  obtain ⟨hx, hb, hr, hml, hown, hts, hlk⟩ := id C
  have w := wd_of hw
  obtain ⟨ls, hen, hl⟩ : ∃ ls : Array Slot, entryFrame m ([.ref th, .int x1] : List Value).toArray 2 = F0 m 0 ls [] ∧ lv_has ls 2 [(0, .ref th), (1, .int x1)] := by
    exact ⟨_, lg_entry_eq _ _ _, lv_entry _ (Nat.le_of_ble_eq_true rfl)⟩
  rw [hen]
  unfold f_M_tellDigits_L2 at hE
  refine lv_iload_n hx hb dX12_tellDigits_0 rfl (lv_at hl 1 rfl) ?_
  refine lv_bipush (v := 9) hx hb dX12_tellDigits_1 (by decide) ?_
  refine w_icmp_le (tgt := 14) C dX12_tellDigits_3 (by decide) hE (fun hc e1 => ?_) (fun hc e1 => ?_)
  · exact b_M_tellDigits_L2_14 C N     h th x1 _ _ ls w  (lv_sub hl [0, 1] rfl) e1
  · refine lv_aload_n hx hb dX12_tellDigits_6 rfl (lv_at hl 0 rfl) ?_
    refine lv_iload_n hx hb dX12_tellDigits_7 rfl (lv_at hl 1 rfl) ?_
    refine lv_bipush (v := 10) hx hb dX12_tellDigits_8 (by decide) ?_
    refine w_idiv C dX12_tellDigits_10 e1 (fun e2 => ?_)
    refine w_VV GW_good (n := 1) (F := 2) (Lc := 42) (o := some th) (av := [.int (x1 / (10 : Int32))]) (rest := []) C w rfl (by decide) (fun a r g hf => k_M_tellDigits_L1 l D cy z N h a (x1 / (10 : Int32)) r g hf) gw_56_5 gw_56_6 gw_56_7 gw_1_5 gw_56_8 (by decide +kernel) ⟨Nat.le_of_ble_eq_true rfl, Nat.le_of_ble_eq_true rfl⟩ rfl hl.1 rfl (Nat.le_of_ble_eq_true rfl) dX12_tellDigits_11 (fun a => (sh_M_tellDigits_L1 N h a (x1 / (10 : Int32)))) ⟨by decide, by decide⟩ e2 (fun v1 h2 H locs w hsh2 e3 => ?_)
    exact b_M_tellDigits_L2_14 C N     h2 th x1 _ _ ls w  (lv_sub hl [0, 1] rfl) e3
set_option maxRecDepth 20000 in
set_option maxHeartbeats 4000000 in
theorem b_M_tellDigits_L3_14 {p : Program} {l : Launch} {e : Env} {s : State} {m : MethodId} {args : Array Value} {below : List Frame} {meth : Method} {c : Code} {D : va_G} {cy : cyT} {z : Nat} (C : MX p s m args meth c cX12_tellDigits 2 (none) RX12 (Cond.code yX12_tellDigits cX12_tellDigits 2 (none) :: GW)) (N : Nat) {r : Unit} {g : hS}  : ∀  (h : hS) (th : Nat) (x1 : Int32) (H : Heap) (locs : List Loc) (ls : Array Slot), wd D cy z s 0 h H locs → lv_has ls 2 [(0, .ref th), (1, .int x1)] → f_M_tellDigits_L3_14 N   h th x1 = some (r, g) → W p l e { frames := 4, cells := 0, slots := 0, locals := 84 } s m args below meth c H locs 0 0 (MQ below (eQ D cy z (rV r) g) args s 0 0 (fun q => z ≤ q)) (F0 m 14 ls []) := by
  obtain ⟨hx, hb, hr, hml, hown, hts, hlk⟩ := id C
  intro  h th x1 H locs ls w  hl hE
  unfold f_M_tellDigits_L3_14 at hE
  refine lv_aload_n hx hb dX12_tellDigits_14 rfl (lv_at hl 0 rfl) ?_
  refine lv_bipush (v := 48) hx hb dX12_tellDigits_15 (by decide) ?_
  refine lv_iload_n hx hb dX12_tellDigits_17 rfl (lv_at hl 1 rfl) ?_
  refine lv_bipush (v := 10) hx hb dX12_tellDigits_18 (by decide) ?_
  refine w_irem C dX12_tellDigits_20 hE (fun e1 => ?_)
  refine lv_iadd hx hb dX12_tellDigits_21 ?_
  refine w_VV GW_good (n := 1) (F := 0) (Lc := 0) (o := some th) (av := [.int ((48 : Int32) + (x1 - x1 / (10 : Int32) * (10 : Int32)))]) (rest := []) C w rfl (by decide) (fun a r g hf => k_M_tellByte l D cy z N h a ((48 : Int32) + (x1 - x1 / (10 : Int32) * (10 : Int32))) r g hf) gw_55_21 gw_55_22 gw_55_23 gw_1_5 gw_56_0 (by decide +kernel) ⟨Nat.le_of_ble_eq_true rfl, Nat.le_of_ble_eq_true rfl⟩ rfl hl.1 rfl (Nat.le_of_ble_eq_true rfl) dX12_tellDigits_22 (fun a => (sh_M_tellByte N h a ((48 : Int32) + (x1 - x1 / (10 : Int32) * (10 : Int32))))) ⟨by decide, by decide⟩ e1 (fun v1 h2 H locs w hsh2 e2 => ?_)
  exact w_vret C w e2 dX12_tellDigits_25
set_option maxRecDepth 20000 in
set_option maxHeartbeats 4000000 in
theorem k_M_tellDigits_L3 (l : Launch) (D : va_G) (cy : cyT) (z : Nat) (N : Nat) (h : hS) (th : Nat) (x1 : Int32) (r : Unit) (g : hS) (hE : f_M_tellDigits_L3 N h th x1 = some (r, g)) : ct l yX12_tellDigits (Cond.code yX12_tellDigits cX12_tellDigits 2 (none) :: GW) { frames := 4, cells := 0, slots := 0, locals := 84 } D cy z h [.ref th, .int x1] (rV r) g := by
  refine Met.ofW (cc := cX12_tellDigits) (maxL := 2) (ret := none) (by decide) rfl ?_
  intro p e s m args below meth c s₁ B hml hv
  obtain ⟨rfl, hw⟩ := hv
  have C : MX p s m ([.ref th, .int x1] : List Value).toArray meth c cX12_tellDigits 2 (none) RX12 (Cond.code yX12_tellDigits cX12_tellDigits 2 (none) :: GW) := ⟨B.exec, B.bytes, B.returns, hml, findClass_of_methodNamed B.named, atoms_spec (ws := Cond.code yX12_tellDigits cX12_tellDigits 2 (none) :: GW) B.pre, B.notSynchronized⟩
  obtain ⟨hx, hb, hr, hml, hown, hts, hlk⟩ := id C
  have w := wd_of hw
  obtain ⟨ls, hen, hl⟩ : ∃ ls : Array Slot, entryFrame m ([.ref th, .int x1] : List Value).toArray 2 = F0 m 0 ls [] ∧ lv_has ls 2 [(0, .ref th), (1, .int x1)] := by
    exact ⟨_, lg_entry_eq _ _ _, lv_entry _ (Nat.le_of_ble_eq_true rfl)⟩
  rw [hen]
  unfold f_M_tellDigits_L3 at hE
  refine lv_iload_n hx hb dX12_tellDigits_0 rfl (lv_at hl 1 rfl) ?_
  refine lv_bipush (v := 9) hx hb dX12_tellDigits_1 (by decide) ?_
  refine w_icmp_le (tgt := 14) C dX12_tellDigits_3 (by decide) hE (fun hc e1 => ?_) (fun hc e1 => ?_)
  · exact b_M_tellDigits_L3_14 C N     h th x1 _ _ ls w  (lv_sub hl [0, 1] rfl) e1
  · refine lv_aload_n hx hb dX12_tellDigits_6 rfl (lv_at hl 0 rfl) ?_
    refine lv_iload_n hx hb dX12_tellDigits_7 rfl (lv_at hl 1 rfl) ?_
    refine lv_bipush (v := 10) hx hb dX12_tellDigits_8 (by decide) ?_
    refine w_idiv C dX12_tellDigits_10 e1 (fun e2 => ?_)
    refine w_VV GW_good (n := 1) (F := 3) (Lc := 63) (o := some th) (av := [.int (x1 / (10 : Int32))]) (rest := []) C w rfl (by decide) (fun a r g hf => k_M_tellDigits_L2 l D cy z N h a (x1 / (10 : Int32)) r g hf) gw_56_5 gw_56_6 gw_56_7 gw_1_5 gw_56_8 (by decide +kernel) ⟨Nat.le_of_ble_eq_true rfl, Nat.le_of_ble_eq_true rfl⟩ rfl hl.1 rfl (Nat.le_of_ble_eq_true rfl) dX12_tellDigits_11 (fun a => (sh_M_tellDigits_L2 N h a (x1 / (10 : Int32)))) ⟨by decide, by decide⟩ e2 (fun v1 h2 H locs w hsh2 e3 => ?_)
    exact b_M_tellDigits_L3_14 C N     h2 th x1 _ _ ls w  (lv_sub hl [0, 1] rfl) e3
set_option maxRecDepth 20000 in
set_option maxHeartbeats 4000000 in
theorem b_M_tellDigits_L4_14 {p : Program} {l : Launch} {e : Env} {s : State} {m : MethodId} {args : Array Value} {below : List Frame} {meth : Method} {c : Code} {D : va_G} {cy : cyT} {z : Nat} (C : MX p s m args meth c cX12_tellDigits 2 (none) RX12 (Cond.code yX12_tellDigits cX12_tellDigits 2 (none) :: GW)) (N : Nat) {r : Unit} {g : hS}  : ∀  (h : hS) (th : Nat) (x1 : Int32) (H : Heap) (locs : List Loc) (ls : Array Slot), wd D cy z s 0 h H locs → lv_has ls 2 [(0, .ref th), (1, .int x1)] → f_M_tellDigits_L4_14 N   h th x1 = some (r, g) → W p l e { frames := 5, cells := 0, slots := 0, locals := 105 } s m args below meth c H locs 0 0 (MQ below (eQ D cy z (rV r) g) args s 0 0 (fun q => z ≤ q)) (F0 m 14 ls []) := by
  obtain ⟨hx, hb, hr, hml, hown, hts, hlk⟩ := id C
  intro  h th x1 H locs ls w  hl hE
  unfold f_M_tellDigits_L4_14 at hE
  refine lv_aload_n hx hb dX12_tellDigits_14 rfl (lv_at hl 0 rfl) ?_
  refine lv_bipush (v := 48) hx hb dX12_tellDigits_15 (by decide) ?_
  refine lv_iload_n hx hb dX12_tellDigits_17 rfl (lv_at hl 1 rfl) ?_
  refine lv_bipush (v := 10) hx hb dX12_tellDigits_18 (by decide) ?_
  refine w_irem C dX12_tellDigits_20 hE (fun e1 => ?_)
  refine lv_iadd hx hb dX12_tellDigits_21 ?_
  refine w_VV GW_good (n := 1) (F := 0) (Lc := 0) (o := some th) (av := [.int ((48 : Int32) + (x1 - x1 / (10 : Int32) * (10 : Int32)))]) (rest := []) C w rfl (by decide) (fun a r g hf => k_M_tellByte l D cy z N h a ((48 : Int32) + (x1 - x1 / (10 : Int32) * (10 : Int32))) r g hf) gw_55_21 gw_55_22 gw_55_23 gw_1_5 gw_56_0 (by decide +kernel) ⟨Nat.le_of_ble_eq_true rfl, Nat.le_of_ble_eq_true rfl⟩ rfl hl.1 rfl (Nat.le_of_ble_eq_true rfl) dX12_tellDigits_22 (fun a => (sh_M_tellByte N h a ((48 : Int32) + (x1 - x1 / (10 : Int32) * (10 : Int32))))) ⟨by decide, by decide⟩ e1 (fun v1 h2 H locs w hsh2 e2 => ?_)
  exact w_vret C w e2 dX12_tellDigits_25
set_option maxRecDepth 20000 in
set_option maxHeartbeats 4000000 in
theorem k_M_tellDigits_L4 (l : Launch) (D : va_G) (cy : cyT) (z : Nat) (N : Nat) (h : hS) (th : Nat) (x1 : Int32) (r : Unit) (g : hS) (hE : f_M_tellDigits_L4 N h th x1 = some (r, g)) : ct l yX12_tellDigits (Cond.code yX12_tellDigits cX12_tellDigits 2 (none) :: GW) { frames := 5, cells := 0, slots := 0, locals := 105 } D cy z h [.ref th, .int x1] (rV r) g := by
  refine Met.ofW (cc := cX12_tellDigits) (maxL := 2) (ret := none) (by decide) rfl ?_
  intro p e s m args below meth c s₁ B hml hv
  obtain ⟨rfl, hw⟩ := hv
  have C : MX p s m ([.ref th, .int x1] : List Value).toArray meth c cX12_tellDigits 2 (none) RX12 (Cond.code yX12_tellDigits cX12_tellDigits 2 (none) :: GW) := ⟨B.exec, B.bytes, B.returns, hml, findClass_of_methodNamed B.named, atoms_spec (ws := Cond.code yX12_tellDigits cX12_tellDigits 2 (none) :: GW) B.pre, B.notSynchronized⟩
  obtain ⟨hx, hb, hr, hml, hown, hts, hlk⟩ := id C
  have w := wd_of hw
  obtain ⟨ls, hen, hl⟩ : ∃ ls : Array Slot, entryFrame m ([.ref th, .int x1] : List Value).toArray 2 = F0 m 0 ls [] ∧ lv_has ls 2 [(0, .ref th), (1, .int x1)] := by
    exact ⟨_, lg_entry_eq _ _ _, lv_entry _ (Nat.le_of_ble_eq_true rfl)⟩
  rw [hen]
  unfold f_M_tellDigits_L4 at hE
  refine lv_iload_n hx hb dX12_tellDigits_0 rfl (lv_at hl 1 rfl) ?_
  refine lv_bipush (v := 9) hx hb dX12_tellDigits_1 (by decide) ?_
  refine w_icmp_le (tgt := 14) C dX12_tellDigits_3 (by decide) hE (fun hc e1 => ?_) (fun hc e1 => ?_)
  · exact b_M_tellDigits_L4_14 C N     h th x1 _ _ ls w  (lv_sub hl [0, 1] rfl) e1
  · refine lv_aload_n hx hb dX12_tellDigits_6 rfl (lv_at hl 0 rfl) ?_
    refine lv_iload_n hx hb dX12_tellDigits_7 rfl (lv_at hl 1 rfl) ?_
    refine lv_bipush (v := 10) hx hb dX12_tellDigits_8 (by decide) ?_
    refine w_idiv C dX12_tellDigits_10 e1 (fun e2 => ?_)
    refine w_VV GW_good (n := 1) (F := 4) (Lc := 84) (o := some th) (av := [.int (x1 / (10 : Int32))]) (rest := []) C w rfl (by decide) (fun a r g hf => k_M_tellDigits_L3 l D cy z N h a (x1 / (10 : Int32)) r g hf) gw_56_5 gw_56_6 gw_56_7 gw_1_5 gw_56_8 (by decide +kernel) ⟨Nat.le_of_ble_eq_true rfl, Nat.le_of_ble_eq_true rfl⟩ rfl hl.1 rfl (Nat.le_of_ble_eq_true rfl) dX12_tellDigits_11 (fun a => (sh_M_tellDigits_L3 N h a (x1 / (10 : Int32)))) ⟨by decide, by decide⟩ e2 (fun v1 h2 H locs w hsh2 e3 => ?_)
    exact b_M_tellDigits_L4_14 C N     h2 th x1 _ _ ls w  (lv_sub hl [0, 1] rfl) e3
set_option maxRecDepth 20000 in
set_option maxHeartbeats 4000000 in
theorem b_M_tellDigits_L5_14 {p : Program} {l : Launch} {e : Env} {s : State} {m : MethodId} {args : Array Value} {below : List Frame} {meth : Method} {c : Code} {D : va_G} {cy : cyT} {z : Nat} (C : MX p s m args meth c cX12_tellDigits 2 (none) RX12 (Cond.code yX12_tellDigits cX12_tellDigits 2 (none) :: GW)) (N : Nat) {r : Unit} {g : hS}  : ∀  (h : hS) (th : Nat) (x1 : Int32) (H : Heap) (locs : List Loc) (ls : Array Slot), wd D cy z s 0 h H locs → lv_has ls 2 [(0, .ref th), (1, .int x1)] → f_M_tellDigits_L5_14 N   h th x1 = some (r, g) → W p l e { frames := 6, cells := 0, slots := 0, locals := 126 } s m args below meth c H locs 0 0 (MQ below (eQ D cy z (rV r) g) args s 0 0 (fun q => z ≤ q)) (F0 m 14 ls []) := by
  obtain ⟨hx, hb, hr, hml, hown, hts, hlk⟩ := id C
  intro  h th x1 H locs ls w  hl hE
  unfold f_M_tellDigits_L5_14 at hE
  refine lv_aload_n hx hb dX12_tellDigits_14 rfl (lv_at hl 0 rfl) ?_
  refine lv_bipush (v := 48) hx hb dX12_tellDigits_15 (by decide) ?_
  refine lv_iload_n hx hb dX12_tellDigits_17 rfl (lv_at hl 1 rfl) ?_
  refine lv_bipush (v := 10) hx hb dX12_tellDigits_18 (by decide) ?_
  refine w_irem C dX12_tellDigits_20 hE (fun e1 => ?_)
  refine lv_iadd hx hb dX12_tellDigits_21 ?_
  refine w_VV GW_good (n := 1) (F := 0) (Lc := 0) (o := some th) (av := [.int ((48 : Int32) + (x1 - x1 / (10 : Int32) * (10 : Int32)))]) (rest := []) C w rfl (by decide) (fun a r g hf => k_M_tellByte l D cy z N h a ((48 : Int32) + (x1 - x1 / (10 : Int32) * (10 : Int32))) r g hf) gw_55_21 gw_55_22 gw_55_23 gw_1_5 gw_56_0 (by decide +kernel) ⟨Nat.le_of_ble_eq_true rfl, Nat.le_of_ble_eq_true rfl⟩ rfl hl.1 rfl (Nat.le_of_ble_eq_true rfl) dX12_tellDigits_22 (fun a => (sh_M_tellByte N h a ((48 : Int32) + (x1 - x1 / (10 : Int32) * (10 : Int32))))) ⟨by decide, by decide⟩ e1 (fun v1 h2 H locs w hsh2 e2 => ?_)
  exact w_vret C w e2 dX12_tellDigits_25
set_option maxRecDepth 20000 in
set_option maxHeartbeats 4000000 in
theorem k_M_tellDigits_L5 (l : Launch) (D : va_G) (cy : cyT) (z : Nat) (N : Nat) (h : hS) (th : Nat) (x1 : Int32) (r : Unit) (g : hS) (hE : f_M_tellDigits_L5 N h th x1 = some (r, g)) : ct l yX12_tellDigits (Cond.code yX12_tellDigits cX12_tellDigits 2 (none) :: GW) { frames := 6, cells := 0, slots := 0, locals := 126 } D cy z h [.ref th, .int x1] (rV r) g := by
  refine Met.ofW (cc := cX12_tellDigits) (maxL := 2) (ret := none) (by decide) rfl ?_
  intro p e s m args below meth c s₁ B hml hv
  obtain ⟨rfl, hw⟩ := hv
  have C : MX p s m ([.ref th, .int x1] : List Value).toArray meth c cX12_tellDigits 2 (none) RX12 (Cond.code yX12_tellDigits cX12_tellDigits 2 (none) :: GW) := ⟨B.exec, B.bytes, B.returns, hml, findClass_of_methodNamed B.named, atoms_spec (ws := Cond.code yX12_tellDigits cX12_tellDigits 2 (none) :: GW) B.pre, B.notSynchronized⟩
  obtain ⟨hx, hb, hr, hml, hown, hts, hlk⟩ := id C
  have w := wd_of hw
  obtain ⟨ls, hen, hl⟩ : ∃ ls : Array Slot, entryFrame m ([.ref th, .int x1] : List Value).toArray 2 = F0 m 0 ls [] ∧ lv_has ls 2 [(0, .ref th), (1, .int x1)] := by
    exact ⟨_, lg_entry_eq _ _ _, lv_entry _ (Nat.le_of_ble_eq_true rfl)⟩
  rw [hen]
  unfold f_M_tellDigits_L5 at hE
  refine lv_iload_n hx hb dX12_tellDigits_0 rfl (lv_at hl 1 rfl) ?_
  refine lv_bipush (v := 9) hx hb dX12_tellDigits_1 (by decide) ?_
  refine w_icmp_le (tgt := 14) C dX12_tellDigits_3 (by decide) hE (fun hc e1 => ?_) (fun hc e1 => ?_)
  · exact b_M_tellDigits_L5_14 C N     h th x1 _ _ ls w  (lv_sub hl [0, 1] rfl) e1
  · refine lv_aload_n hx hb dX12_tellDigits_6 rfl (lv_at hl 0 rfl) ?_
    refine lv_iload_n hx hb dX12_tellDigits_7 rfl (lv_at hl 1 rfl) ?_
    refine lv_bipush (v := 10) hx hb dX12_tellDigits_8 (by decide) ?_
    refine w_idiv C dX12_tellDigits_10 e1 (fun e2 => ?_)
    refine w_VV GW_good (n := 1) (F := 5) (Lc := 105) (o := some th) (av := [.int (x1 / (10 : Int32))]) (rest := []) C w rfl (by decide) (fun a r g hf => k_M_tellDigits_L4 l D cy z N h a (x1 / (10 : Int32)) r g hf) gw_56_5 gw_56_6 gw_56_7 gw_1_5 gw_56_8 (by decide +kernel) ⟨Nat.le_of_ble_eq_true rfl, Nat.le_of_ble_eq_true rfl⟩ rfl hl.1 rfl (Nat.le_of_ble_eq_true rfl) dX12_tellDigits_11 (fun a => (sh_M_tellDigits_L4 N h a (x1 / (10 : Int32)))) ⟨by decide, by decide⟩ e2 (fun v1 h2 H locs w hsh2 e3 => ?_)
    exact b_M_tellDigits_L5_14 C N     h2 th x1 _ _ ls w  (lv_sub hl [0, 1] rfl) e3
set_option maxRecDepth 20000 in
set_option maxHeartbeats 4000000 in
theorem b_M_tellDigits_L6_14 {p : Program} {l : Launch} {e : Env} {s : State} {m : MethodId} {args : Array Value} {below : List Frame} {meth : Method} {c : Code} {D : va_G} {cy : cyT} {z : Nat} (C : MX p s m args meth c cX12_tellDigits 2 (none) RX12 (Cond.code yX12_tellDigits cX12_tellDigits 2 (none) :: GW)) (N : Nat) {r : Unit} {g : hS}  : ∀  (h : hS) (th : Nat) (x1 : Int32) (H : Heap) (locs : List Loc) (ls : Array Slot), wd D cy z s 0 h H locs → lv_has ls 2 [(0, .ref th), (1, .int x1)] → f_M_tellDigits_L6_14 N   h th x1 = some (r, g) → W p l e { frames := 7, cells := 0, slots := 0, locals := 147 } s m args below meth c H locs 0 0 (MQ below (eQ D cy z (rV r) g) args s 0 0 (fun q => z ≤ q)) (F0 m 14 ls []) := by
  obtain ⟨hx, hb, hr, hml, hown, hts, hlk⟩ := id C
  intro  h th x1 H locs ls w  hl hE
  unfold f_M_tellDigits_L6_14 at hE
  refine lv_aload_n hx hb dX12_tellDigits_14 rfl (lv_at hl 0 rfl) ?_
  refine lv_bipush (v := 48) hx hb dX12_tellDigits_15 (by decide) ?_
  refine lv_iload_n hx hb dX12_tellDigits_17 rfl (lv_at hl 1 rfl) ?_
  refine lv_bipush (v := 10) hx hb dX12_tellDigits_18 (by decide) ?_
  refine w_irem C dX12_tellDigits_20 hE (fun e1 => ?_)
  refine lv_iadd hx hb dX12_tellDigits_21 ?_
  refine w_VV GW_good (n := 1) (F := 0) (Lc := 0) (o := some th) (av := [.int ((48 : Int32) + (x1 - x1 / (10 : Int32) * (10 : Int32)))]) (rest := []) C w rfl (by decide) (fun a r g hf => k_M_tellByte l D cy z N h a ((48 : Int32) + (x1 - x1 / (10 : Int32) * (10 : Int32))) r g hf) gw_55_21 gw_55_22 gw_55_23 gw_1_5 gw_56_0 (by decide +kernel) ⟨Nat.le_of_ble_eq_true rfl, Nat.le_of_ble_eq_true rfl⟩ rfl hl.1 rfl (Nat.le_of_ble_eq_true rfl) dX12_tellDigits_22 (fun a => (sh_M_tellByte N h a ((48 : Int32) + (x1 - x1 / (10 : Int32) * (10 : Int32))))) ⟨by decide, by decide⟩ e1 (fun v1 h2 H locs w hsh2 e2 => ?_)
  exact w_vret C w e2 dX12_tellDigits_25
set_option maxRecDepth 20000 in
set_option maxHeartbeats 4000000 in
theorem k_M_tellDigits_L6 (l : Launch) (D : va_G) (cy : cyT) (z : Nat) (N : Nat) (h : hS) (th : Nat) (x1 : Int32) (r : Unit) (g : hS) (hE : f_M_tellDigits_L6 N h th x1 = some (r, g)) : ct l yX12_tellDigits (Cond.code yX12_tellDigits cX12_tellDigits 2 (none) :: GW) { frames := 7, cells := 0, slots := 0, locals := 147 } D cy z h [.ref th, .int x1] (rV r) g := by
  refine Met.ofW (cc := cX12_tellDigits) (maxL := 2) (ret := none) (by decide) rfl ?_
  intro p e s m args below meth c s₁ B hml hv
  obtain ⟨rfl, hw⟩ := hv
  have C : MX p s m ([.ref th, .int x1] : List Value).toArray meth c cX12_tellDigits 2 (none) RX12 (Cond.code yX12_tellDigits cX12_tellDigits 2 (none) :: GW) := ⟨B.exec, B.bytes, B.returns, hml, findClass_of_methodNamed B.named, atoms_spec (ws := Cond.code yX12_tellDigits cX12_tellDigits 2 (none) :: GW) B.pre, B.notSynchronized⟩
  obtain ⟨hx, hb, hr, hml, hown, hts, hlk⟩ := id C
  have w := wd_of hw
  obtain ⟨ls, hen, hl⟩ : ∃ ls : Array Slot, entryFrame m ([.ref th, .int x1] : List Value).toArray 2 = F0 m 0 ls [] ∧ lv_has ls 2 [(0, .ref th), (1, .int x1)] := by
    exact ⟨_, lg_entry_eq _ _ _, lv_entry _ (Nat.le_of_ble_eq_true rfl)⟩
  rw [hen]
  unfold f_M_tellDigits_L6 at hE
  refine lv_iload_n hx hb dX12_tellDigits_0 rfl (lv_at hl 1 rfl) ?_
  refine lv_bipush (v := 9) hx hb dX12_tellDigits_1 (by decide) ?_
  refine w_icmp_le (tgt := 14) C dX12_tellDigits_3 (by decide) hE (fun hc e1 => ?_) (fun hc e1 => ?_)
  · exact b_M_tellDigits_L6_14 C N     h th x1 _ _ ls w  (lv_sub hl [0, 1] rfl) e1
  · refine lv_aload_n hx hb dX12_tellDigits_6 rfl (lv_at hl 0 rfl) ?_
    refine lv_iload_n hx hb dX12_tellDigits_7 rfl (lv_at hl 1 rfl) ?_
    refine lv_bipush (v := 10) hx hb dX12_tellDigits_8 (by decide) ?_
    refine w_idiv C dX12_tellDigits_10 e1 (fun e2 => ?_)
    refine w_VV GW_good (n := 1) (F := 6) (Lc := 126) (o := some th) (av := [.int (x1 / (10 : Int32))]) (rest := []) C w rfl (by decide) (fun a r g hf => k_M_tellDigits_L5 l D cy z N h a (x1 / (10 : Int32)) r g hf) gw_56_5 gw_56_6 gw_56_7 gw_1_5 gw_56_8 (by decide +kernel) ⟨Nat.le_of_ble_eq_true rfl, Nat.le_of_ble_eq_true rfl⟩ rfl hl.1 rfl (Nat.le_of_ble_eq_true rfl) dX12_tellDigits_11 (fun a => (sh_M_tellDigits_L5 N h a (x1 / (10 : Int32)))) ⟨by decide, by decide⟩ e2 (fun v1 h2 H locs w hsh2 e3 => ?_)
    exact b_M_tellDigits_L6_14 C N     h2 th x1 _ _ ls w  (lv_sub hl [0, 1] rfl) e3
set_option maxRecDepth 20000 in
set_option maxHeartbeats 4000000 in
theorem b_M_tellDigits_L7_14 {p : Program} {l : Launch} {e : Env} {s : State} {m : MethodId} {args : Array Value} {below : List Frame} {meth : Method} {c : Code} {D : va_G} {cy : cyT} {z : Nat} (C : MX p s m args meth c cX12_tellDigits 2 (none) RX12 (Cond.code yX12_tellDigits cX12_tellDigits 2 (none) :: GW)) (N : Nat) {r : Unit} {g : hS}  : ∀  (h : hS) (th : Nat) (x1 : Int32) (H : Heap) (locs : List Loc) (ls : Array Slot), wd D cy z s 0 h H locs → lv_has ls 2 [(0, .ref th), (1, .int x1)] → f_M_tellDigits_L7_14 N   h th x1 = some (r, g) → W p l e { frames := 8, cells := 0, slots := 0, locals := 168 } s m args below meth c H locs 0 0 (MQ below (eQ D cy z (rV r) g) args s 0 0 (fun q => z ≤ q)) (F0 m 14 ls []) := by
  obtain ⟨hx, hb, hr, hml, hown, hts, hlk⟩ := id C
  intro  h th x1 H locs ls w  hl hE
  unfold f_M_tellDigits_L7_14 at hE
  refine lv_aload_n hx hb dX12_tellDigits_14 rfl (lv_at hl 0 rfl) ?_
  refine lv_bipush (v := 48) hx hb dX12_tellDigits_15 (by decide) ?_
  refine lv_iload_n hx hb dX12_tellDigits_17 rfl (lv_at hl 1 rfl) ?_
  refine lv_bipush (v := 10) hx hb dX12_tellDigits_18 (by decide) ?_
  refine w_irem C dX12_tellDigits_20 hE (fun e1 => ?_)
  refine lv_iadd hx hb dX12_tellDigits_21 ?_
  refine w_VV GW_good (n := 1) (F := 0) (Lc := 0) (o := some th) (av := [.int ((48 : Int32) + (x1 - x1 / (10 : Int32) * (10 : Int32)))]) (rest := []) C w rfl (by decide) (fun a r g hf => k_M_tellByte l D cy z N h a ((48 : Int32) + (x1 - x1 / (10 : Int32) * (10 : Int32))) r g hf) gw_55_21 gw_55_22 gw_55_23 gw_1_5 gw_56_0 (by decide +kernel) ⟨Nat.le_of_ble_eq_true rfl, Nat.le_of_ble_eq_true rfl⟩ rfl hl.1 rfl (Nat.le_of_ble_eq_true rfl) dX12_tellDigits_22 (fun a => (sh_M_tellByte N h a ((48 : Int32) + (x1 - x1 / (10 : Int32) * (10 : Int32))))) ⟨by decide, by decide⟩ e1 (fun v1 h2 H locs w hsh2 e2 => ?_)
  exact w_vret C w e2 dX12_tellDigits_25
set_option maxRecDepth 20000 in
set_option maxHeartbeats 4000000 in
theorem k_M_tellDigits_L7 (l : Launch) (D : va_G) (cy : cyT) (z : Nat) (N : Nat) (h : hS) (th : Nat) (x1 : Int32) (r : Unit) (g : hS) (hE : f_M_tellDigits_L7 N h th x1 = some (r, g)) : ct l yX12_tellDigits (Cond.code yX12_tellDigits cX12_tellDigits 2 (none) :: GW) { frames := 8, cells := 0, slots := 0, locals := 168 } D cy z h [.ref th, .int x1] (rV r) g := by
  refine Met.ofW (cc := cX12_tellDigits) (maxL := 2) (ret := none) (by decide) rfl ?_
  intro p e s m args below meth c s₁ B hml hv
  obtain ⟨rfl, hw⟩ := hv
  have C : MX p s m ([.ref th, .int x1] : List Value).toArray meth c cX12_tellDigits 2 (none) RX12 (Cond.code yX12_tellDigits cX12_tellDigits 2 (none) :: GW) := ⟨B.exec, B.bytes, B.returns, hml, findClass_of_methodNamed B.named, atoms_spec (ws := Cond.code yX12_tellDigits cX12_tellDigits 2 (none) :: GW) B.pre, B.notSynchronized⟩
  obtain ⟨hx, hb, hr, hml, hown, hts, hlk⟩ := id C
  have w := wd_of hw
  obtain ⟨ls, hen, hl⟩ : ∃ ls : Array Slot, entryFrame m ([.ref th, .int x1] : List Value).toArray 2 = F0 m 0 ls [] ∧ lv_has ls 2 [(0, .ref th), (1, .int x1)] := by
    exact ⟨_, lg_entry_eq _ _ _, lv_entry _ (Nat.le_of_ble_eq_true rfl)⟩
  rw [hen]
  unfold f_M_tellDigits_L7 at hE
  refine lv_iload_n hx hb dX12_tellDigits_0 rfl (lv_at hl 1 rfl) ?_
  refine lv_bipush (v := 9) hx hb dX12_tellDigits_1 (by decide) ?_
  refine w_icmp_le (tgt := 14) C dX12_tellDigits_3 (by decide) hE (fun hc e1 => ?_) (fun hc e1 => ?_)
  · exact b_M_tellDigits_L7_14 C N     h th x1 _ _ ls w  (lv_sub hl [0, 1] rfl) e1
  · refine lv_aload_n hx hb dX12_tellDigits_6 rfl (lv_at hl 0 rfl) ?_
    refine lv_iload_n hx hb dX12_tellDigits_7 rfl (lv_at hl 1 rfl) ?_
    refine lv_bipush (v := 10) hx hb dX12_tellDigits_8 (by decide) ?_
    refine w_idiv C dX12_tellDigits_10 e1 (fun e2 => ?_)
    refine w_VV GW_good (n := 1) (F := 7) (Lc := 147) (o := some th) (av := [.int (x1 / (10 : Int32))]) (rest := []) C w rfl (by decide) (fun a r g hf => k_M_tellDigits_L6 l D cy z N h a (x1 / (10 : Int32)) r g hf) gw_56_5 gw_56_6 gw_56_7 gw_1_5 gw_56_8 (by decide +kernel) ⟨Nat.le_of_ble_eq_true rfl, Nat.le_of_ble_eq_true rfl⟩ rfl hl.1 rfl (Nat.le_of_ble_eq_true rfl) dX12_tellDigits_11 (fun a => (sh_M_tellDigits_L6 N h a (x1 / (10 : Int32)))) ⟨by decide, by decide⟩ e2 (fun v1 h2 H locs w hsh2 e3 => ?_)
    exact b_M_tellDigits_L7_14 C N     h2 th x1 _ _ ls w  (lv_sub hl [0, 1] rfl) e3
set_option maxRecDepth 20000 in
set_option maxHeartbeats 4000000 in
theorem b_M_tellDigits_L8_14 {p : Program} {l : Launch} {e : Env} {s : State} {m : MethodId} {args : Array Value} {below : List Frame} {meth : Method} {c : Code} {D : va_G} {cy : cyT} {z : Nat} (C : MX p s m args meth c cX12_tellDigits 2 (none) RX12 (Cond.code yX12_tellDigits cX12_tellDigits 2 (none) :: GW)) (N : Nat) {r : Unit} {g : hS}  : ∀  (h : hS) (th : Nat) (x1 : Int32) (H : Heap) (locs : List Loc) (ls : Array Slot), wd D cy z s 0 h H locs → lv_has ls 2 [(0, .ref th), (1, .int x1)] → f_M_tellDigits_L8_14 N   h th x1 = some (r, g) → W p l e { frames := 9, cells := 0, slots := 0, locals := 189 } s m args below meth c H locs 0 0 (MQ below (eQ D cy z (rV r) g) args s 0 0 (fun q => z ≤ q)) (F0 m 14 ls []) := by
  obtain ⟨hx, hb, hr, hml, hown, hts, hlk⟩ := id C
  intro  h th x1 H locs ls w  hl hE
  unfold f_M_tellDigits_L8_14 at hE
  refine lv_aload_n hx hb dX12_tellDigits_14 rfl (lv_at hl 0 rfl) ?_
  refine lv_bipush (v := 48) hx hb dX12_tellDigits_15 (by decide) ?_
  refine lv_iload_n hx hb dX12_tellDigits_17 rfl (lv_at hl 1 rfl) ?_
  refine lv_bipush (v := 10) hx hb dX12_tellDigits_18 (by decide) ?_
  refine w_irem C dX12_tellDigits_20 hE (fun e1 => ?_)
  refine lv_iadd hx hb dX12_tellDigits_21 ?_
  refine w_VV GW_good (n := 1) (F := 0) (Lc := 0) (o := some th) (av := [.int ((48 : Int32) + (x1 - x1 / (10 : Int32) * (10 : Int32)))]) (rest := []) C w rfl (by decide) (fun a r g hf => k_M_tellByte l D cy z N h a ((48 : Int32) + (x1 - x1 / (10 : Int32) * (10 : Int32))) r g hf) gw_55_21 gw_55_22 gw_55_23 gw_1_5 gw_56_0 (by decide +kernel) ⟨Nat.le_of_ble_eq_true rfl, Nat.le_of_ble_eq_true rfl⟩ rfl hl.1 rfl (Nat.le_of_ble_eq_true rfl) dX12_tellDigits_22 (fun a => (sh_M_tellByte N h a ((48 : Int32) + (x1 - x1 / (10 : Int32) * (10 : Int32))))) ⟨by decide, by decide⟩ e1 (fun v1 h2 H locs w hsh2 e2 => ?_)
  exact w_vret C w e2 dX12_tellDigits_25
set_option maxRecDepth 20000 in
set_option maxHeartbeats 4000000 in
theorem k_M_tellDigits_L8 (l : Launch) (D : va_G) (cy : cyT) (z : Nat) (N : Nat) (h : hS) (th : Nat) (x1 : Int32) (r : Unit) (g : hS) (hE : f_M_tellDigits_L8 N h th x1 = some (r, g)) : ct l yX12_tellDigits (Cond.code yX12_tellDigits cX12_tellDigits 2 (none) :: GW) { frames := 9, cells := 0, slots := 0, locals := 189 } D cy z h [.ref th, .int x1] (rV r) g := by
  refine Met.ofW (cc := cX12_tellDigits) (maxL := 2) (ret := none) (by decide) rfl ?_
  intro p e s m args below meth c s₁ B hml hv
  obtain ⟨rfl, hw⟩ := hv
  have C : MX p s m ([.ref th, .int x1] : List Value).toArray meth c cX12_tellDigits 2 (none) RX12 (Cond.code yX12_tellDigits cX12_tellDigits 2 (none) :: GW) := ⟨B.exec, B.bytes, B.returns, hml, findClass_of_methodNamed B.named, atoms_spec (ws := Cond.code yX12_tellDigits cX12_tellDigits 2 (none) :: GW) B.pre, B.notSynchronized⟩
  obtain ⟨hx, hb, hr, hml, hown, hts, hlk⟩ := id C
  have w := wd_of hw
  obtain ⟨ls, hen, hl⟩ : ∃ ls : Array Slot, entryFrame m ([.ref th, .int x1] : List Value).toArray 2 = F0 m 0 ls [] ∧ lv_has ls 2 [(0, .ref th), (1, .int x1)] := by
    exact ⟨_, lg_entry_eq _ _ _, lv_entry _ (Nat.le_of_ble_eq_true rfl)⟩
  rw [hen]
  unfold f_M_tellDigits_L8 at hE
  refine lv_iload_n hx hb dX12_tellDigits_0 rfl (lv_at hl 1 rfl) ?_
  refine lv_bipush (v := 9) hx hb dX12_tellDigits_1 (by decide) ?_
  refine w_icmp_le (tgt := 14) C dX12_tellDigits_3 (by decide) hE (fun hc e1 => ?_) (fun hc e1 => ?_)
  · exact b_M_tellDigits_L8_14 C N     h th x1 _ _ ls w  (lv_sub hl [0, 1] rfl) e1
  · refine lv_aload_n hx hb dX12_tellDigits_6 rfl (lv_at hl 0 rfl) ?_
    refine lv_iload_n hx hb dX12_tellDigits_7 rfl (lv_at hl 1 rfl) ?_
    refine lv_bipush (v := 10) hx hb dX12_tellDigits_8 (by decide) ?_
    refine w_idiv C dX12_tellDigits_10 e1 (fun e2 => ?_)
    refine w_VV GW_good (n := 1) (F := 8) (Lc := 168) (o := some th) (av := [.int (x1 / (10 : Int32))]) (rest := []) C w rfl (by decide) (fun a r g hf => k_M_tellDigits_L7 l D cy z N h a (x1 / (10 : Int32)) r g hf) gw_56_5 gw_56_6 gw_56_7 gw_1_5 gw_56_8 (by decide +kernel) ⟨Nat.le_of_ble_eq_true rfl, Nat.le_of_ble_eq_true rfl⟩ rfl hl.1 rfl (Nat.le_of_ble_eq_true rfl) dX12_tellDigits_11 (fun a => (sh_M_tellDigits_L7 N h a (x1 / (10 : Int32)))) ⟨by decide, by decide⟩ e2 (fun v1 h2 H locs w hsh2 e3 => ?_)
    exact b_M_tellDigits_L8_14 C N     h2 th x1 _ _ ls w  (lv_sub hl [0, 1] rfl) e3
set_option maxRecDepth 20000 in
set_option maxHeartbeats 4000000 in
theorem b_M_tellDigits_L9_14 {p : Program} {l : Launch} {e : Env} {s : State} {m : MethodId} {args : Array Value} {below : List Frame} {meth : Method} {c : Code} {D : va_G} {cy : cyT} {z : Nat} (C : MX p s m args meth c cX12_tellDigits 2 (none) RX12 (Cond.code yX12_tellDigits cX12_tellDigits 2 (none) :: GW)) (N : Nat) {r : Unit} {g : hS}  : ∀  (h : hS) (th : Nat) (x1 : Int32) (H : Heap) (locs : List Loc) (ls : Array Slot), wd D cy z s 0 h H locs → lv_has ls 2 [(0, .ref th), (1, .int x1)] → f_M_tellDigits_L9_14 N   h th x1 = some (r, g) → W p l e { frames := 10, cells := 0, slots := 0, locals := 210 } s m args below meth c H locs 0 0 (MQ below (eQ D cy z (rV r) g) args s 0 0 (fun q => z ≤ q)) (F0 m 14 ls []) := by
  obtain ⟨hx, hb, hr, hml, hown, hts, hlk⟩ := id C
  intro  h th x1 H locs ls w  hl hE
  unfold f_M_tellDigits_L9_14 at hE
  refine lv_aload_n hx hb dX12_tellDigits_14 rfl (lv_at hl 0 rfl) ?_
  refine lv_bipush (v := 48) hx hb dX12_tellDigits_15 (by decide) ?_
  refine lv_iload_n hx hb dX12_tellDigits_17 rfl (lv_at hl 1 rfl) ?_
  refine lv_bipush (v := 10) hx hb dX12_tellDigits_18 (by decide) ?_
  refine w_irem C dX12_tellDigits_20 hE (fun e1 => ?_)
  refine lv_iadd hx hb dX12_tellDigits_21 ?_
  refine w_VV GW_good (n := 1) (F := 0) (Lc := 0) (o := some th) (av := [.int ((48 : Int32) + (x1 - x1 / (10 : Int32) * (10 : Int32)))]) (rest := []) C w rfl (by decide) (fun a r g hf => k_M_tellByte l D cy z N h a ((48 : Int32) + (x1 - x1 / (10 : Int32) * (10 : Int32))) r g hf) gw_55_21 gw_55_22 gw_55_23 gw_1_5 gw_56_0 (by decide +kernel) ⟨Nat.le_of_ble_eq_true rfl, Nat.le_of_ble_eq_true rfl⟩ rfl hl.1 rfl (Nat.le_of_ble_eq_true rfl) dX12_tellDigits_22 (fun a => (sh_M_tellByte N h a ((48 : Int32) + (x1 - x1 / (10 : Int32) * (10 : Int32))))) ⟨by decide, by decide⟩ e1 (fun v1 h2 H locs w hsh2 e2 => ?_)
  exact w_vret C w e2 dX12_tellDigits_25
set_option maxRecDepth 20000 in
set_option maxHeartbeats 4000000 in
theorem k_M_tellDigits_L9 (l : Launch) (D : va_G) (cy : cyT) (z : Nat) (N : Nat) (h : hS) (th : Nat) (x1 : Int32) (r : Unit) (g : hS) (hE : f_M_tellDigits_L9 N h th x1 = some (r, g)) : ct l yX12_tellDigits (Cond.code yX12_tellDigits cX12_tellDigits 2 (none) :: GW) { frames := 10, cells := 0, slots := 0, locals := 210 } D cy z h [.ref th, .int x1] (rV r) g := by
  refine Met.ofW (cc := cX12_tellDigits) (maxL := 2) (ret := none) (by decide) rfl ?_
  intro p e s m args below meth c s₁ B hml hv
  obtain ⟨rfl, hw⟩ := hv
  have C : MX p s m ([.ref th, .int x1] : List Value).toArray meth c cX12_tellDigits 2 (none) RX12 (Cond.code yX12_tellDigits cX12_tellDigits 2 (none) :: GW) := ⟨B.exec, B.bytes, B.returns, hml, findClass_of_methodNamed B.named, atoms_spec (ws := Cond.code yX12_tellDigits cX12_tellDigits 2 (none) :: GW) B.pre, B.notSynchronized⟩
  obtain ⟨hx, hb, hr, hml, hown, hts, hlk⟩ := id C
  have w := wd_of hw
  obtain ⟨ls, hen, hl⟩ : ∃ ls : Array Slot, entryFrame m ([.ref th, .int x1] : List Value).toArray 2 = F0 m 0 ls [] ∧ lv_has ls 2 [(0, .ref th), (1, .int x1)] := by
    exact ⟨_, lg_entry_eq _ _ _, lv_entry _ (Nat.le_of_ble_eq_true rfl)⟩
  rw [hen]
  unfold f_M_tellDigits_L9 at hE
  refine lv_iload_n hx hb dX12_tellDigits_0 rfl (lv_at hl 1 rfl) ?_
  refine lv_bipush (v := 9) hx hb dX12_tellDigits_1 (by decide) ?_
  refine w_icmp_le (tgt := 14) C dX12_tellDigits_3 (by decide) hE (fun hc e1 => ?_) (fun hc e1 => ?_)
  · exact b_M_tellDigits_L9_14 C N     h th x1 _ _ ls w  (lv_sub hl [0, 1] rfl) e1
  · refine lv_aload_n hx hb dX12_tellDigits_6 rfl (lv_at hl 0 rfl) ?_
    refine lv_iload_n hx hb dX12_tellDigits_7 rfl (lv_at hl 1 rfl) ?_
    refine lv_bipush (v := 10) hx hb dX12_tellDigits_8 (by decide) ?_
    refine w_idiv C dX12_tellDigits_10 e1 (fun e2 => ?_)
    refine w_VV GW_good (n := 1) (F := 9) (Lc := 189) (o := some th) (av := [.int (x1 / (10 : Int32))]) (rest := []) C w rfl (by decide) (fun a r g hf => k_M_tellDigits_L8 l D cy z N h a (x1 / (10 : Int32)) r g hf) gw_56_5 gw_56_6 gw_56_7 gw_1_5 gw_56_8 (by decide +kernel) ⟨Nat.le_of_ble_eq_true rfl, Nat.le_of_ble_eq_true rfl⟩ rfl hl.1 rfl (Nat.le_of_ble_eq_true rfl) dX12_tellDigits_11 (fun a => (sh_M_tellDigits_L8 N h a (x1 / (10 : Int32)))) ⟨by decide, by decide⟩ e2 (fun v1 h2 H locs w hsh2 e3 => ?_)
    exact b_M_tellDigits_L9_14 C N     h2 th x1 _ _ ls w  (lv_sub hl [0, 1] rfl) e3
set_option maxRecDepth 20000 in
set_option maxHeartbeats 4000000 in
theorem b_M_tellDigits_L10_14 {p : Program} {l : Launch} {e : Env} {s : State} {m : MethodId} {args : Array Value} {below : List Frame} {meth : Method} {c : Code} {D : va_G} {cy : cyT} {z : Nat} (C : MX p s m args meth c cX12_tellDigits 2 (none) RX12 (Cond.code yX12_tellDigits cX12_tellDigits 2 (none) :: GW)) (N : Nat) {r : Unit} {g : hS}  : ∀  (h : hS) (th : Nat) (x1 : Int32) (H : Heap) (locs : List Loc) (ls : Array Slot), wd D cy z s 0 h H locs → lv_has ls 2 [(0, .ref th), (1, .int x1)] → f_M_tellDigits_L10_14 N   h th x1 = some (r, g) → W p l e { frames := 11, cells := 0, slots := 0, locals := 231 } s m args below meth c H locs 0 0 (MQ below (eQ D cy z (rV r) g) args s 0 0 (fun q => z ≤ q)) (F0 m 14 ls []) := by
  obtain ⟨hx, hb, hr, hml, hown, hts, hlk⟩ := id C
  intro  h th x1 H locs ls w  hl hE
  unfold f_M_tellDigits_L10_14 at hE
  refine lv_aload_n hx hb dX12_tellDigits_14 rfl (lv_at hl 0 rfl) ?_
  refine lv_bipush (v := 48) hx hb dX12_tellDigits_15 (by decide) ?_
  refine lv_iload_n hx hb dX12_tellDigits_17 rfl (lv_at hl 1 rfl) ?_
  refine lv_bipush (v := 10) hx hb dX12_tellDigits_18 (by decide) ?_
  refine w_irem C dX12_tellDigits_20 hE (fun e1 => ?_)
  refine lv_iadd hx hb dX12_tellDigits_21 ?_
  refine w_VV GW_good (n := 1) (F := 0) (Lc := 0) (o := some th) (av := [.int ((48 : Int32) + (x1 - x1 / (10 : Int32) * (10 : Int32)))]) (rest := []) C w rfl (by decide) (fun a r g hf => k_M_tellByte l D cy z N h a ((48 : Int32) + (x1 - x1 / (10 : Int32) * (10 : Int32))) r g hf) gw_55_21 gw_55_22 gw_55_23 gw_1_5 gw_56_0 (by decide +kernel) ⟨Nat.le_of_ble_eq_true rfl, Nat.le_of_ble_eq_true rfl⟩ rfl hl.1 rfl (Nat.le_of_ble_eq_true rfl) dX12_tellDigits_22 (fun a => (sh_M_tellByte N h a ((48 : Int32) + (x1 - x1 / (10 : Int32) * (10 : Int32))))) ⟨by decide, by decide⟩ e1 (fun v1 h2 H locs w hsh2 e2 => ?_)
  exact w_vret C w e2 dX12_tellDigits_25
set_option maxRecDepth 20000 in
set_option maxHeartbeats 4000000 in
theorem k_M_tellDigits_L10 (l : Launch) (D : va_G) (cy : cyT) (z : Nat) (N : Nat) (h : hS) (th : Nat) (x1 : Int32) (r : Unit) (g : hS) (hE : f_M_tellDigits_L10 N h th x1 = some (r, g)) : ct l yX12_tellDigits (Cond.code yX12_tellDigits cX12_tellDigits 2 (none) :: GW) { frames := 11, cells := 0, slots := 0, locals := 231 } D cy z h [.ref th, .int x1] (rV r) g := by
  refine Met.ofW (cc := cX12_tellDigits) (maxL := 2) (ret := none) (by decide) rfl ?_
  intro p e s m args below meth c s₁ B hml hv
  obtain ⟨rfl, hw⟩ := hv
  have C : MX p s m ([.ref th, .int x1] : List Value).toArray meth c cX12_tellDigits 2 (none) RX12 (Cond.code yX12_tellDigits cX12_tellDigits 2 (none) :: GW) := ⟨B.exec, B.bytes, B.returns, hml, findClass_of_methodNamed B.named, atoms_spec (ws := Cond.code yX12_tellDigits cX12_tellDigits 2 (none) :: GW) B.pre, B.notSynchronized⟩
  obtain ⟨hx, hb, hr, hml, hown, hts, hlk⟩ := id C
  have w := wd_of hw
  obtain ⟨ls, hen, hl⟩ : ∃ ls : Array Slot, entryFrame m ([.ref th, .int x1] : List Value).toArray 2 = F0 m 0 ls [] ∧ lv_has ls 2 [(0, .ref th), (1, .int x1)] := by
    exact ⟨_, lg_entry_eq _ _ _, lv_entry _ (Nat.le_of_ble_eq_true rfl)⟩
  rw [hen]
  unfold f_M_tellDigits_L10 at hE
  refine lv_iload_n hx hb dX12_tellDigits_0 rfl (lv_at hl 1 rfl) ?_
  refine lv_bipush (v := 9) hx hb dX12_tellDigits_1 (by decide) ?_
  refine w_icmp_le (tgt := 14) C dX12_tellDigits_3 (by decide) hE (fun hc e1 => ?_) (fun hc e1 => ?_)
  · exact b_M_tellDigits_L10_14 C N     h th x1 _ _ ls w  (lv_sub hl [0, 1] rfl) e1
  · refine lv_aload_n hx hb dX12_tellDigits_6 rfl (lv_at hl 0 rfl) ?_
    refine lv_iload_n hx hb dX12_tellDigits_7 rfl (lv_at hl 1 rfl) ?_
    refine lv_bipush (v := 10) hx hb dX12_tellDigits_8 (by decide) ?_
    refine w_idiv C dX12_tellDigits_10 e1 (fun e2 => ?_)
    refine w_VV GW_good (n := 1) (F := 10) (Lc := 210) (o := some th) (av := [.int (x1 / (10 : Int32))]) (rest := []) C w rfl (by decide) (fun a r g hf => k_M_tellDigits_L9 l D cy z N h a (x1 / (10 : Int32)) r g hf) gw_56_5 gw_56_6 gw_56_7 gw_1_5 gw_56_8 (by decide +kernel) ⟨Nat.le_of_ble_eq_true rfl, Nat.le_of_ble_eq_true rfl⟩ rfl hl.1 rfl (Nat.le_of_ble_eq_true rfl) dX12_tellDigits_11 (fun a => (sh_M_tellDigits_L9 N h a (x1 / (10 : Int32)))) ⟨by decide, by decide⟩ e2 (fun v1 h2 H locs w hsh2 e3 => ?_)
    exact b_M_tellDigits_L10_14 C N     h2 th x1 _ _ ls w  (lv_sub hl [0, 1] rfl) e3
set_option maxRecDepth 20000 in
set_option maxHeartbeats 4000000 in
theorem b_M_tellDigits_14 {p : Program} {l : Launch} {e : Env} {s : State} {m : MethodId} {args : Array Value} {below : List Frame} {meth : Method} {c : Code} {D : va_G} {cy : cyT} {z : Nat} (C : MX p s m args meth c cX12_tellDigits 2 (none) RX12 (Cond.code yX12_tellDigits cX12_tellDigits 2 (none) :: GW)) (N : Nat) {r : Unit} {g : hS}  : ∀  (h : hS) (th : Nat) (x1 : Int32) (H : Heap) (locs : List Loc) (ls : Array Slot), wd D cy z s 0 h H locs → lv_has ls 2 [(0, .ref th), (1, .int x1)] → f_M_tellDigits_14 N   h th x1 = some (r, g) → W p l e { frames := 12, cells := 0, slots := 0, locals := 252 } s m args below meth c H locs 0 0 (MQ below (eQ D cy z (rV r) g) args s 0 0 (fun q => z ≤ q)) (F0 m 14 ls []) := by
  obtain ⟨hx, hb, hr, hml, hown, hts, hlk⟩ := id C
  intro  h th x1 H locs ls w  hl hE
  unfold f_M_tellDigits_14 at hE
  refine lv_aload_n hx hb dX12_tellDigits_14 rfl (lv_at hl 0 rfl) ?_
  refine lv_bipush (v := 48) hx hb dX12_tellDigits_15 (by decide) ?_
  refine lv_iload_n hx hb dX12_tellDigits_17 rfl (lv_at hl 1 rfl) ?_
  refine lv_bipush (v := 10) hx hb dX12_tellDigits_18 (by decide) ?_
  refine w_irem C dX12_tellDigits_20 hE (fun e1 => ?_)
  refine lv_iadd hx hb dX12_tellDigits_21 ?_
  refine w_VV GW_good (n := 1) (F := 0) (Lc := 0) (o := some th) (av := [.int ((48 : Int32) + (x1 - x1 / (10 : Int32) * (10 : Int32)))]) (rest := []) C w rfl (by decide) (fun a r g hf => k_M_tellByte l D cy z N h a ((48 : Int32) + (x1 - x1 / (10 : Int32) * (10 : Int32))) r g hf) gw_55_21 gw_55_22 gw_55_23 gw_1_5 gw_56_0 (by decide +kernel) ⟨Nat.le_of_ble_eq_true rfl, Nat.le_of_ble_eq_true rfl⟩ rfl hl.1 rfl (Nat.le_of_ble_eq_true rfl) dX12_tellDigits_22 (fun a => (sh_M_tellByte N h a ((48 : Int32) + (x1 - x1 / (10 : Int32) * (10 : Int32))))) ⟨by decide, by decide⟩ e1 (fun v1 h2 H locs w hsh2 e2 => ?_)
  exact w_vret C w e2 dX12_tellDigits_25
set_option maxRecDepth 20000 in
set_option maxHeartbeats 4000000 in
theorem k_M_tellDigits (l : Launch) (D : va_G) (cy : cyT) (z : Nat) (N : Nat) (h : hS) (th : Nat) (x1 : Int32) (r : Unit) (g : hS) (hE : f_M_tellDigits N h th x1 = some (r, g)) : ct l yX12_tellDigits (Cond.code yX12_tellDigits cX12_tellDigits 2 (none) :: GW) { frames := 12, cells := 0, slots := 0, locals := 252 } D cy z h [.ref th, .int x1] (rV r) g := by
  refine Met.ofW (cc := cX12_tellDigits) (maxL := 2) (ret := none) (by decide) rfl ?_
  intro p e s m args below meth c s₁ B hml hv
  obtain ⟨rfl, hw⟩ := hv
  have C : MX p s m ([.ref th, .int x1] : List Value).toArray meth c cX12_tellDigits 2 (none) RX12 (Cond.code yX12_tellDigits cX12_tellDigits 2 (none) :: GW) := ⟨B.exec, B.bytes, B.returns, hml, findClass_of_methodNamed B.named, atoms_spec (ws := Cond.code yX12_tellDigits cX12_tellDigits 2 (none) :: GW) B.pre, B.notSynchronized⟩
  obtain ⟨hx, hb, hr, hml, hown, hts, hlk⟩ := id C
  have w := wd_of hw
  obtain ⟨ls, hen, hl⟩ : ∃ ls : Array Slot, entryFrame m ([.ref th, .int x1] : List Value).toArray 2 = F0 m 0 ls [] ∧ lv_has ls 2 [(0, .ref th), (1, .int x1)] := by
    exact ⟨_, lg_entry_eq _ _ _, lv_entry _ (Nat.le_of_ble_eq_true rfl)⟩
  rw [hen]
  unfold f_M_tellDigits at hE
  refine lv_iload_n hx hb dX12_tellDigits_0 rfl (lv_at hl 1 rfl) ?_
  refine lv_bipush (v := 9) hx hb dX12_tellDigits_1 (by decide) ?_
  refine w_icmp_le (tgt := 14) C dX12_tellDigits_3 (by decide) hE (fun hc e1 => ?_) (fun hc e1 => ?_)
  · exact b_M_tellDigits_14 C N     h th x1 _ _ ls w  (lv_sub hl [0, 1] rfl) e1
  · refine lv_aload_n hx hb dX12_tellDigits_6 rfl (lv_at hl 0 rfl) ?_
    refine lv_iload_n hx hb dX12_tellDigits_7 rfl (lv_at hl 1 rfl) ?_
    refine lv_bipush (v := 10) hx hb dX12_tellDigits_8 (by decide) ?_
    refine w_idiv C dX12_tellDigits_10 e1 (fun e2 => ?_)
    refine w_VV GW_good (n := 1) (F := 11) (Lc := 231) (o := some th) (av := [.int (x1 / (10 : Int32))]) (rest := []) C w rfl (by decide) (fun a r g hf => k_M_tellDigits_L10 l D cy z N h a (x1 / (10 : Int32)) r g hf) gw_56_5 gw_56_6 gw_56_7 gw_1_5 gw_56_8 (by decide +kernel) ⟨Nat.le_of_ble_eq_true rfl, Nat.le_of_ble_eq_true rfl⟩ rfl hl.1 rfl (Nat.le_of_ble_eq_true rfl) dX12_tellDigits_11 (fun a => (sh_M_tellDigits_L10 N h a (x1 / (10 : Int32)))) ⟨by decide, by decide⟩ e2 (fun v1 h2 H locs w hsh2 e3 => ?_)
    exact b_M_tellDigits_14 C N     h2 th x1 _ _ ls w  (lv_sub hl [0, 1] rfl) e3
set_option maxRecDepth 20000 in
set_option maxHeartbeats 4000000 in
theorem b_M_tellNumber_16 {p : Program} {l : Launch} {e : Env} {s : State} {m : MethodId} {args : Array Value} {below : List Frame} {meth : Method} {c : Code} {D : va_G} {cy : cyT} {z : Nat} (C : MX p s m args meth c cX12_tellNumber 2 (none) RX12 (Cond.code yX12_tellNumber cX12_tellNumber 2 (none) :: GW)) (N : Nat) {r : Unit} {g : hS}  : ∀  (h : hS) (th : Nat) (x1 : Int32) (H : Heap) (locs : List Loc) (ls : Array Slot), wd D cy z s 0 h H locs → lv_has ls 2 [(0, .ref th), (1, .int x1)] → f_M_tellNumber_16 N   h th x1 = some (r, g) → W p l e { frames := 13, cells := 0, slots := 0, locals := 273 } s m args below meth c H locs 0 0 (MQ below (eQ D cy z (rV r) g) args s 0 0 (fun q => z ≤ q)) (F0 m 16 ls []) := by
  obtain ⟨hx, hb, hr, hml, hown, hts, hlk⟩ := id C
  intro  h th x1 H locs ls w  hl hE
  unfold f_M_tellNumber_16 at hE
  refine lv_aload_n hx hb dX12_tellNumber_16 rfl (lv_at hl 0 rfl) ?_
  refine lv_iload_n hx hb dX12_tellNumber_17 rfl (lv_at hl 1 rfl) ?_
  refine w_mabs C hl.1 (List.mem_cons_of_mem _ gw_41_17) (List.mem_cons_of_mem _ gw_41_6) (List.mem_cons_of_mem _ gw_10_7) (List.mem_cons_of_mem _ gw_41_7) (Nat.le_of_ble_eq_true rfl) (Nat.le_of_ble_eq_true rfl) (by decide) (by decide) dX12_tellNumber_18 ?_
  refine w_VV GW_good (n := 1) (F := 12) (Lc := 252) (o := some th) (av := [.int (jab x1)]) (rest := []) C w rfl (by decide) (fun a r g hf => k_M_tellDigits l D cy z N h a (jab x1) r g hf) gw_56_5 gw_56_6 gw_56_7 gw_1_5 gw_56_8 (by decide +kernel) ⟨Nat.le_of_ble_eq_true rfl, Nat.le_of_ble_eq_true rfl⟩ rfl hl.1 rfl (Nat.le_of_ble_eq_true rfl) dX12_tellNumber_21 (fun a => (sh_M_tellDigits N h a (jab x1))) ⟨by decide, by decide⟩ hE (fun v1 h2 H locs w hsh2 e1 => ?_)
  exact w_vret C w e1 dX12_tellNumber_24
set_option maxRecDepth 20000 in
set_option maxHeartbeats 4000000 in
theorem k_M_tellNumber (l : Launch) (D : va_G) (cy : cyT) (z : Nat) (N : Nat) (h : hS) (th : Nat) (x1 : Int32) (r : Unit) (g : hS) (hE : f_M_tellNumber N h th x1 = some (r, g)) : ct l yX12_tellNumber (Cond.code yX12_tellNumber cX12_tellNumber 2 (none) :: GW) { frames := 13, cells := 0, slots := 0, locals := 273 } D cy z h [.ref th, .int x1] (rV r) g := by
  refine Met.ofW (cc := cX12_tellNumber) (maxL := 2) (ret := none) (by decide) rfl ?_
  intro p e s m args below meth c s₁ B hml hv
  obtain ⟨rfl, hw⟩ := hv
  have C : MX p s m ([.ref th, .int x1] : List Value).toArray meth c cX12_tellNumber 2 (none) RX12 (Cond.code yX12_tellNumber cX12_tellNumber 2 (none) :: GW) := ⟨B.exec, B.bytes, B.returns, hml, findClass_of_methodNamed B.named, atoms_spec (ws := Cond.code yX12_tellNumber cX12_tellNumber 2 (none) :: GW) B.pre, B.notSynchronized⟩
  obtain ⟨hx, hb, hr, hml, hown, hts, hlk⟩ := id C
  have w := wd_of hw
  obtain ⟨ls, hen, hl⟩ : ∃ ls : Array Slot, entryFrame m ([.ref th, .int x1] : List Value).toArray 2 = F0 m 0 ls [] ∧ lv_has ls 2 [(0, .ref th), (1, .int x1)] := by
    exact ⟨_, lg_entry_eq _ _ _, lv_entry _ (Nat.le_of_ble_eq_true rfl)⟩
  rw [hen]
  unfold f_M_tellNumber at hE
  refine lv_aload_n hx hb dX12_tellNumber_0 rfl (lv_at hl 0 rfl) ?_
  refine lv_bipush (v := 32) hx hb dX12_tellNumber_1 (by decide) ?_
  refine w_VV GW_good (n := 1) (F := 0) (Lc := 0) (o := some th) (av := [.int (32 : Int32)]) (rest := []) C w rfl (by decide) (fun a r g hf => k_M_tellByte l D cy z N h a (32 : Int32) r g hf) gw_55_21 gw_55_22 gw_55_23 gw_1_5 gw_56_0 (by decide +kernel) ⟨Nat.le_of_ble_eq_true rfl, Nat.le_of_ble_eq_true rfl⟩ rfl hl.1 rfl (Nat.le_of_ble_eq_true rfl) dX12_tellNumber_3 (fun a => (sh_M_tellByte N h a (32 : Int32))) ⟨by decide, by decide⟩ hE (fun v1 h2 H locs w hsh2 e1 => ?_)
  refine lv_iload_n hx hb dX12_tellNumber_6 rfl (lv_at hl 1 rfl) ?_
  refine w_if_ge (tgt := 16) C dX12_tellNumber_7 (by decide) e1 (fun hc e2 => ?_) (fun hc e2 => ?_)
  · exact b_M_tellNumber_16 C N     h2 th x1 _ _ ls w  (lv_sub hl [0, 1] rfl) e2
  · refine lv_aload_n hx hb dX12_tellNumber_10 rfl (lv_at hl 0 rfl) ?_
    refine lv_bipush (v := 45) hx hb dX12_tellNumber_11 (by decide) ?_
    refine w_VV GW_good (n := 1) (F := 0) (Lc := 0) (o := some th) (av := [.int (45 : Int32)]) (rest := []) C w rfl (by decide) (fun a r g hf => k_M_tellByte l D cy z N h2 a (45 : Int32) r g hf) gw_55_21 gw_55_22 gw_55_23 gw_1_5 gw_56_0 (by decide +kernel) ⟨Nat.le_of_ble_eq_true rfl, Nat.le_of_ble_eq_true rfl⟩ rfl hl.1 rfl (Nat.le_of_ble_eq_true rfl) dX12_tellNumber_13 (fun a => (sh_M_tellByte N h2 a (45 : Int32))) ⟨by decide, by decide⟩ e2 (fun v3 h4 H locs w hsh4 e3 => ?_)
    exact b_M_tellNumber_16 C N     h4 th x1 _ _ ls w  (lv_sub hl [0, 1] rfl) e3
set_option maxRecDepth 20000 in
set_option maxHeartbeats 4000000 in
theorem b_M_tellSteps_105 {p : Program} {l : Launch} {e : Env} {s : State} {m : MethodId} {args : Array Value} {below : List Frame} {meth : Method} {c : Code} {D : va_G} {cy : cyT} {z : Nat} (C : MX p s m args meth c cX12_tellSteps 5 (none) RX12 (Cond.code yX12_tellSteps cX12_tellSteps 5 (none) :: GW)) (N : Nat) {r : Unit} {g : hS} {rc7 : hS → Nat → Int32 → Int32 → Option (Unit × hS)}  (hrc7 : ∀ (h : hS) (th : Nat) (x1 : Int32) (x2 : Int32) (H : Heap) (locs : List Loc) (ls : Array Slot), wd D cy z s 0 h H locs → lv_has ls 5 [(0, .ref th), (1, .int x1), (2, .int x2)] → rc7 h th x1 x2 = some (r, g) → W p l e { frames := 14, cells := 0, slots := 0, locals := 294 } s m args below meth c H locs 0 0 (MQ below (eQ D cy z (rV r) g) args s 0 0 (fun q => z ≤ q)) (F0 m 7 ls [])) : ∀  (h : hS) (th : Nat) (x1 : Int32) (x2 : Int32) (H : Heap) (locs : List Loc) (ls : Array Slot), wd D cy z s 0 h H locs → lv_has ls 5 [(0, .ref th), (1, .int x1), (2, .int x2)] → f_M_tellSteps_105 N rc7  h th x1 x2 = some (r, g) → W p l e { frames := 14, cells := 0, slots := 0, locals := 294 } s m args below meth c H locs 0 0 (MQ below (eQ D cy z (rV r) g) args s 0 0 (fun q => z ≤ q)) (F0 m 105 ls []) := by
  obtain ⟨hx, hb, hr, hml, hown, hts, hlk⟩ := id C
  intro  h th x1 x2 H locs ls w  hl hE
  unfold f_M_tellSteps_105 at hE
  refine lv_aload_n hx hb dX12_tellSteps_105 rfl (lv_at hl 0 rfl) ?_
  refine lv_bipush (v := 59) hx hb dX12_tellSteps_106 (by decide) ?_
  refine w_VV GW_good (n := 1) (F := 0) (Lc := 0) (o := some th) (av := [.int (59 : Int32)]) (rest := []) C w rfl (by decide) (fun a r g hf => k_M_tellByte l D cy z N h a (59 : Int32) r g hf) gw_55_21 gw_55_22 gw_55_23 gw_1_5 gw_56_0 (by decide +kernel) ⟨Nat.le_of_ble_eq_true rfl, Nat.le_of_ble_eq_true rfl⟩ rfl hl.1 rfl (Nat.le_of_ble_eq_true rfl) dX12_tellSteps_108 (fun a => (sh_M_tellByte N h a (59 : Int32))) ⟨by decide, by decide⟩ hE (fun v1 h2 H locs w hsh2 e1 => ?_)
  obtain ⟨v3, ev3, e2⟩ := bn_some e1
  refine lv_iinc (v := v3) (lv' := [(2, .int v3), (0, .ref th), (1, .int x1)]) hx hb dX12_tellSteps_111 hl (k := 2) rfl (by rw [ev3]; rfl) (by decide) rfl (fun ls hl => ?_)
  refine lv_goto (tgt := 7) hx hb dX12_tellSteps_114 (by decide) ?_
  exact hrc7  h2 th x1 v3 _ _ ls w  (lv_sub hl [1, 2, 0] rfl) e2
set_option maxRecDepth 20000 in
set_option maxHeartbeats 4000000 in
theorem b_M_tellSteps_94 {p : Program} {l : Launch} {e : Env} {s : State} {m : MethodId} {args : Array Value} {below : List Frame} {meth : Method} {c : Code} {D : va_G} {cy : cyT} {z : Nat} (C : MX p s m args meth c cX12_tellSteps 5 (none) RX12 (Cond.code yX12_tellSteps cX12_tellSteps 5 (none) :: GW)) (N : Nat) {r : Unit} {g : hS} {rc7 : hS → Nat → Int32 → Int32 → Option (Unit × hS)}  (hrc7 : ∀ (h : hS) (th : Nat) (x1 : Int32) (x2 : Int32) (H : Heap) (locs : List Loc) (ls : Array Slot), wd D cy z s 0 h H locs → lv_has ls 5 [(0, .ref th), (1, .int x1), (2, .int x2)] → rc7 h th x1 x2 = some (r, g) → W p l e { frames := 14, cells := 0, slots := 0, locals := 294 } s m args below meth c H locs 0 0 (MQ below (eQ D cy z (rV r) g) args s 0 0 (fun q => z ≤ q)) (F0 m 7 ls [])) : ∀  (h : hS) (th : Nat) (x1 : Int32) (x2 : Int32) (H : Heap) (locs : List Loc) (ls : Array Slot), wd D cy z s 0 h H locs → lv_has ls 5 [(0, .ref th), (1, .int x1), (2, .int x2)] → f_M_tellSteps_94 N rc7  h th x1 x2 = some (r, g) → W p l e { frames := 14, cells := 0, slots := 0, locals := 294 } s m args below meth c H locs 0 0 (MQ below (eQ D cy z (rV r) g) args s 0 0 (fun q => z ≤ q)) (F0 m 94 ls []) := by
  obtain ⟨hx, hb, hr, hml, hown, hts, hlk⟩ := id C
  intro  h th x1 x2 H locs ls w  hl hE
  unfold f_M_tellSteps_94 at hE
  refine lv_aload_n hx hb dX12_tellSteps_94 rfl (lv_at hl 0 rfl) ?_
  refine lv_aload_n hx hb dX12_tellSteps_95 rfl (lv_at hl 0 rfl) ?_
  refine lv_iload_n hx hb dX12_tellSteps_96 rfl (lv_at hl 1 rfl) ?_
  refine lv_iload_n hx hb dX12_tellSteps_97 rfl (lv_at hl 2 rfl) ?_
  refine lv_iconst (v := 2) hx hb dX12_tellSteps_98 (by decide) ?_
  refine w_VI GW_good (n := 3) (F := 0) (Lc := 0) (o := some th) (av := [.int x1, .int x2, .int (2 : Int32)]) (rest := [.ref th]) C w rfl (by decide) (fun a r g hf => k_M_stepAt l D cy z N h a x1 x2 (2 : Int32) r g hf) gw_33_22 gw_33_23 gw_34_0 gw_1_5 gw_34_1 (by decide +kernel) ⟨Nat.le_of_ble_eq_true rfl, Nat.le_of_ble_eq_true rfl⟩ rfl hl.1 rfl (Nat.le_of_ble_eq_true rfl) dX12_tellSteps_99 (fun a => (sh_M_stepAt N h a x1 x2 (2 : Int32))) ⟨by decide, by decide⟩ hE (fun v1 h2 H locs w hsh2 e1 => ?_)
  refine w_VV GW_good (n := 1) (F := 13) (Lc := 273) (o := some th) (av := [.int v1]) (rest := []) C w rfl (by decide) (fun a r g hf => k_M_tellNumber l D cy z N h2 a v1 r g hf) gw_56_1 gw_56_2 gw_56_3 gw_1_5 gw_56_4 (by decide +kernel) ⟨Nat.le_of_ble_eq_true rfl, Nat.le_of_ble_eq_true rfl⟩ rfl hl.1 rfl (Nat.le_of_ble_eq_true rfl) dX12_tellSteps_102 (fun a => (sh_M_tellNumber N h2 a v1)) ⟨by decide, by decide⟩ e1 (fun v3 h4 H locs w hsh4 e2 => ?_)
  exact b_M_tellSteps_105 C N  hrc7   h4 th x1 x2 _ _ ls w  (lv_sub hl [0, 1, 2] rfl) e2
set_option maxRecDepth 20000 in
set_option maxHeartbeats 4000000 in
theorem b_M_tellSteps_84 {p : Program} {l : Launch} {e : Env} {s : State} {m : MethodId} {args : Array Value} {below : List Frame} {meth : Method} {c : Code} {D : va_G} {cy : cyT} {z : Nat} (C : MX p s m args meth c cX12_tellSteps 5 (none) RX12 (Cond.code yX12_tellSteps cX12_tellSteps 5 (none) :: GW)) (N : Nat) {r : Unit} {g : hS} {rc7 : hS → Nat → Int32 → Int32 → Option (Unit × hS)}  (hrc7 : ∀ (h : hS) (th : Nat) (x1 : Int32) (x2 : Int32) (H : Heap) (locs : List Loc) (ls : Array Slot), wd D cy z s 0 h H locs → lv_has ls 5 [(0, .ref th), (1, .int x1), (2, .int x2)] → rc7 h th x1 x2 = some (r, g) → W p l e { frames := 14, cells := 0, slots := 0, locals := 294 } s m args below meth c H locs 0 0 (MQ below (eQ D cy z (rV r) g) args s 0 0 (fun q => z ≤ q)) (F0 m 7 ls [])) : ∀  (h : hS) (th : Nat) (x1 : Int32) (x2 : Int32) (x3 : Int32) (H : Heap) (locs : List Loc) (ls : Array Slot), wd D cy z s 0 h H locs → lv_has ls 5 [(0, .ref th), (1, .int x1), (2, .int x2), (3, .int x3)] → f_M_tellSteps_84 N rc7  h th x1 x2 x3 = some (r, g) → W p l e { frames := 14, cells := 0, slots := 0, locals := 294 } s m args below meth c H locs 0 0 (MQ below (eQ D cy z (rV r) g) args s 0 0 (fun q => z ≤ q)) (F0 m 84 ls []) := by
  obtain ⟨hx, hb, hr, hml, hown, hts, hlk⟩ := id C
  intro  h th x1 x2 x3 H locs ls w  hl hE
  unfold f_M_tellSteps_84 at hE
  refine lv_iload_n hx hb dX12_tellSteps_84 rfl (lv_at hl 3 rfl) ?_
  refine lv_iconst (v := 2) hx hb dX12_tellSteps_85 (by decide) ?_
  refine w_icmp_le (tgt := 94) C dX12_tellSteps_86 (by decide) hE (fun hc e1 => ?_) (fun hc e1 => ?_)
  · exact b_M_tellSteps_94 C N  hrc7   h th x1 x2 _ _ ls w  (lv_sub hl [0, 1, 2] rfl) e1
  · refine lv_iload_n hx hb dX12_tellSteps_89 rfl (lv_at hl 3 rfl) ?_
    refine lv_iconst (v := 4) hx hb dX12_tellSteps_90 (by decide) ?_
    refine w_icmp_ne (tgt := 105) C dX12_tellSteps_91 (by decide) e1 (fun hc e2 => ?_) (fun hc e2 => ?_)
    · exact b_M_tellSteps_105 C N  hrc7   h th x1 x2 _ _ ls w  (lv_sub hl [0, 1, 2] rfl) e2
    · exact b_M_tellSteps_94 C N  hrc7   h th x1 x2 _ _ ls w  (lv_sub hl [0, 1, 2] rfl) e2
set_option maxRecDepth 20000 in
set_option maxHeartbeats 4000000 in
theorem b_M_tellSteps_27 {p : Program} {l : Launch} {e : Env} {s : State} {m : MethodId} {args : Array Value} {below : List Frame} {meth : Method} {c : Code} {D : va_G} {cy : cyT} {z : Nat} (C : MX p s m args meth c cX12_tellSteps 5 (none) RX12 (Cond.code yX12_tellSteps cX12_tellSteps 5 (none) :: GW)) (N : Nat) {r : Unit} {g : hS} {rc7 : hS → Nat → Int32 → Int32 → Option (Unit × hS)}  (hrc7 : ∀ (h : hS) (th : Nat) (x1 : Int32) (x2 : Int32) (H : Heap) (locs : List Loc) (ls : Array Slot), wd D cy z s 0 h H locs → lv_has ls 5 [(0, .ref th), (1, .int x1), (2, .int x2)] → rc7 h th x1 x2 = some (r, g) → W p l e { frames := 14, cells := 0, slots := 0, locals := 294 } s m args below meth c H locs 0 0 (MQ below (eQ D cy z (rV r) g) args s 0 0 (fun q => z ≤ q)) (F0 m 7 ls [])) : ∀ (n : Nat) (h : hS) (th : Nat) (x1 : Int32) (x2 : Int32) (x3 : Int32) (x4 : Int32) (H : Heap) (locs : List Loc) (ls : Array Slot), wd D cy z s 0 h H locs → lv_has ls 5 [(0, .ref th), (1, .int x1), (2, .int x2), (3, .int x3), (4, .int x4)] → f_M_tellSteps_27 N rc7 n h th x1 x2 x3 x4 = some (r, g) → W p l e { frames := 14, cells := 0, slots := 0, locals := 294 } s m args below meth c H locs 0 0 (MQ below (eQ D cy z (rV r) g) args s 0 0 (fun q => z ≤ q)) (F0 m 27 ls []) := by
  obtain ⟨hx, hb, hr, hml, hown, hts, hlk⟩ := id C
  intro n
  induction n with
  | zero =>
    intro  h th x1 x2 x3 x4 H locs ls w  hl hE
    cases hE
  | succ n ih =>
    intro  h th x1 x2 x3 x4 H locs ls w  hl hE
    unfold f_M_tellSteps_27 at hE
    refine lv_iload hx hb dX12_tellSteps_27 (lv_at hl 4 rfl) ?_
    refine lv_aload_n hx hb dX12_tellSteps_29 rfl (lv_at hl 0 rfl) ?_
    refine w_gR (r := some th) (ci := 0) (k := 0) C w rfl (by decide) (GF_wsX120 _) (by decide) rfl (List.mem_cons_of_mem _ gw_6_20) rfl dX12_tellSteps_30 hE (fun v1 e1 => ?_)
    refine lv_iload_n hx hb dX12_tellSteps_33 rfl (lv_at hl 3 rfl) ?_
    refine w_aR61 (r := v1) C w dX12_tellSteps_34 e1 (fun v2 e2 => ?_)
    refine w_VSI GW_good (n := 0) (F := 1) (Lc := 20) (o := v2) (av := []) (rest := [.int x4]) C w (fun a r g hf => k_Str_length_8abf5 l D cy z N h a  r g hf) gw_26_15 gw_11_22 gw_11_23 gw_12_0 gw_12_1 (by decide +kernel) ⟨Nat.le_of_ble_eq_true rfl, Nat.le_of_ble_eq_true rfl⟩ rfl hl.1 rfl (Nat.le_of_ble_eq_true rfl) dX12_tellSteps_35 (fun a => (sh_Str_length_8abf5 N h a )) ⟨by decide, by decide⟩ e2 (fun v3 h4 H locs w hsh4 e3 => ?_)
    refine w_icmp_ge (tgt := 62) C dX12_tellSteps_38 (by decide) e3 (fun hc e4 => ?_) (fun hc e4 => ?_)
    · refine lv_iload_n hx hb dX12_tellSteps_62 rfl (lv_at hl 3 rfl) ?_
      refine lv_iconst (v := 5) hx hb dX12_tellSteps_63 (by decide) ?_
      refine w_icmp_eq (tgt := 84) C dX12_tellSteps_64 (by decide) e4 (fun hc e5 => ?_) (fun hc e5 => ?_)
      · exact b_M_tellSteps_84 C N  hrc7   h4 th x1 x2 x3 _ _ ls w  (lv_sub hl [0, 1, 2, 3] rfl) e5
      · refine lv_iload_n hx hb dX12_tellSteps_67 rfl (lv_at hl 3 rfl) ?_
        refine lv_bipush (v := 6) hx hb dX12_tellSteps_68 (by decide) ?_
        refine w_icmp_eq (tgt := 84) C dX12_tellSteps_70 (by decide) e5 (fun hc e6 => ?_) (fun hc e6 => ?_)
        · exact b_M_tellSteps_84 C N  hrc7   h4 th x1 x2 x3 _ _ ls w  (lv_sub hl [0, 1, 2, 3] rfl) e6
        · refine lv_aload_n hx hb dX12_tellSteps_73 rfl (lv_at hl 0 rfl) ?_
          refine lv_aload_n hx hb dX12_tellSteps_74 rfl (lv_at hl 0 rfl) ?_
          refine lv_iload_n hx hb dX12_tellSteps_75 rfl (lv_at hl 1 rfl) ?_
          refine lv_iload_n hx hb dX12_tellSteps_76 rfl (lv_at hl 2 rfl) ?_
          refine lv_iconst (v := 1) hx hb dX12_tellSteps_77 (by decide) ?_
          refine w_VI GW_good (n := 3) (F := 0) (Lc := 0) (o := some th) (av := [.int x1, .int x2, .int (1 : Int32)]) (rest := [.ref th]) C w rfl (by decide) (fun a r g hf => k_M_stepAt l D cy z N h4 a x1 x2 (1 : Int32) r g hf) gw_33_22 gw_33_23 gw_34_0 gw_1_5 gw_34_1 (by decide +kernel) ⟨Nat.le_of_ble_eq_true rfl, Nat.le_of_ble_eq_true rfl⟩ rfl hl.1 rfl (Nat.le_of_ble_eq_true rfl) dX12_tellSteps_78 (fun a => (sh_M_stepAt N h4 a x1 x2 (1 : Int32))) ⟨by decide, by decide⟩ e6 (fun v5 h6 H locs w hsh6 e7 => ?_)
          refine w_VV GW_good (n := 1) (F := 13) (Lc := 273) (o := some th) (av := [.int v5]) (rest := []) C w rfl (by decide) (fun a r g hf => k_M_tellNumber l D cy z N h6 a v5 r g hf) gw_56_1 gw_56_2 gw_56_3 gw_1_5 gw_56_4 (by decide +kernel) ⟨Nat.le_of_ble_eq_true rfl, Nat.le_of_ble_eq_true rfl⟩ rfl hl.1 rfl (Nat.le_of_ble_eq_true rfl) dX12_tellSteps_81 (fun a => (sh_M_tellNumber N h6 a v5)) ⟨by decide, by decide⟩ e7 (fun v7 h8 H locs w hsh8 e8 => ?_)
          exact b_M_tellSteps_84 C N  hrc7   h8 th x1 x2 x3 _ _ ls w  (lv_sub hl [0, 1, 2, 3] rfl) e8
    · refine lv_aload_n hx hb dX12_tellSteps_41 rfl (lv_at hl 0 rfl) ?_
      refine lv_aload_n hx hb dX12_tellSteps_42 rfl (lv_at hl 0 rfl) ?_
      refine w_gR (r := some th) (ci := 0) (k := 0) C w rfl (by decide) (GF_wsX120 _) (by decide) rfl (List.mem_cons_of_mem _ gw_6_20) rfl dX12_tellSteps_43 e4 (fun v9 e9 => ?_)
      refine lv_iload_n hx hb dX12_tellSteps_46 rfl (lv_at hl 3 rfl) ?_
      refine w_aR61 (r := v9) C w dX12_tellSteps_47 e9 (fun v10 e10 => ?_)
      refine lv_iload hx hb dX12_tellSteps_48 (lv_at hl 4 rfl) ?_
      refine w_VSI GW_good (n := 1) (F := 3) (Lc := 64) (o := v10) (av := [.int x4]) (rest := [.ref th]) C w (fun a r g hf => k_Str_charAt_5068e l D cy z N h4 a x4 r g hf) gw_26_16 gw_12_10 gw_12_11 gw_12_0 gw_12_12 (by decide +kernel) ⟨Nat.le_of_ble_eq_true rfl, Nat.le_of_ble_eq_true rfl⟩ rfl hl.1 rfl (Nat.le_of_ble_eq_true rfl) dX12_tellSteps_50 (fun a => (sh_Str_charAt_5068e N h4 a x4)) ⟨by decide, by decide⟩ e10 (fun v11 h12 H locs w hsh12 e11 => ?_)
      refine w_VV GW_good (n := 1) (F := 0) (Lc := 0) (o := some th) (av := [.int v11]) (rest := []) C w rfl (by decide) (fun a r g hf => k_M_tellByte l D cy z N h12 a v11 r g hf) gw_55_21 gw_55_22 gw_55_23 gw_1_5 gw_56_0 (by decide +kernel) ⟨Nat.le_of_ble_eq_true rfl, Nat.le_of_ble_eq_true rfl⟩ rfl hl.1 rfl (Nat.le_of_ble_eq_true rfl) dX12_tellSteps_53 (fun a => (sh_M_tellByte N h12 a v11)) ⟨by decide, by decide⟩ e11 (fun v13 h14 H locs w hsh14 e12 => ?_)
      obtain ⟨v15, ev15, e13⟩ := bn_some e12
      refine lv_iinc (v := v15) (lv' := [(4, .int v15), (0, .ref th), (1, .int x1), (2, .int x2), (3, .int x3)]) hx hb dX12_tellSteps_56 hl (k := 4) rfl (by rw [ev15]; rfl) (by decide) rfl (fun ls hl => ?_)
      refine lv_goto (tgt := 27) hx hb dX12_tellSteps_59 (by decide) ?_
      exact ih  h14 th x1 x2 x3 v15 _ _ ls w  (lv_sub hl [1, 2, 3, 4, 0] rfl) e13
set_option maxRecDepth 20000 in
set_option maxHeartbeats 4000000 in
theorem b_M_tellSteps_7 {p : Program} {l : Launch} {e : Env} {s : State} {m : MethodId} {args : Array Value} {below : List Frame} {meth : Method} {c : Code} {D : va_G} {cy : cyT} {z : Nat} (C : MX p s m args meth c cX12_tellSteps 5 (none) RX12 (Cond.code yX12_tellSteps cX12_tellSteps 5 (none) :: GW)) (N : Nat) {r : Unit} {g : hS}  : ∀ (n : Nat) (h : hS) (th : Nat) (x1 : Int32) (x2 : Int32) (H : Heap) (locs : List Loc) (ls : Array Slot), wd D cy z s 0 h H locs → lv_has ls 5 [(0, .ref th), (1, .int x1), (2, .int x2)] → f_M_tellSteps_7 N  n h th x1 x2 = some (r, g) → W p l e { frames := 14, cells := 0, slots := 0, locals := 294 } s m args below meth c H locs 0 0 (MQ below (eQ D cy z (rV r) g) args s 0 0 (fun q => z ≤ q)) (F0 m 7 ls []) := by
  obtain ⟨hx, hb, hr, hml, hown, hts, hlk⟩ := id C
  intro n
  induction n with
  | zero =>
    intro  h th x1 x2 H locs ls w  hl hE
    cases hE
  | succ n ih =>
    intro  h th x1 x2 H locs ls w  hl hE
    unfold f_M_tellSteps_7 at hE
    refine lv_iload_n hx hb dX12_tellSteps_7 rfl (lv_at hl 2 rfl) ?_
    refine lv_aload_n hx hb dX12_tellSteps_8 rfl (lv_at hl 0 rfl) ?_
    refine lv_iload_n hx hb dX12_tellSteps_9 rfl (lv_at hl 1 rfl) ?_
    refine w_VI GW_good (n := 1) (F := 0) (Lc := 0) (o := some th) (av := [.int x1]) (rest := [.int x2]) C w rfl (by decide) (fun a r g hf => k_M_steps l D cy z N h a x1 r g hf) gw_33_18 gw_33_19 gw_33_20 gw_1_5 gw_33_21 (by decide +kernel) ⟨Nat.le_of_ble_eq_true rfl, Nat.le_of_ble_eq_true rfl⟩ rfl hl.1 rfl (Nat.le_of_ble_eq_true rfl) dX12_tellSteps_10 (fun a => (sh_M_steps N h a x1)) ⟨by decide, by decide⟩ hE (fun v1 h2 H locs w hsh2 e1 => ?_)
    refine w_icmp_ge (tgt := 117) C dX12_tellSteps_13 (by decide) e1 (fun hc e2 => ?_) (fun hc e2 => ?_)
    · exact w_vret C w e2 dX12_tellSteps_117
    · refine lv_aload_n hx hb dX12_tellSteps_16 rfl (lv_at hl 0 rfl) ?_
      refine lv_iload_n hx hb dX12_tellSteps_17 rfl (lv_at hl 1 rfl) ?_
      refine lv_iload_n hx hb dX12_tellSteps_18 rfl (lv_at hl 2 rfl) ?_
      refine lv_iconst (v := 0) hx hb dX12_tellSteps_19 (by decide) ?_
      refine w_VI GW_good (n := 3) (F := 0) (Lc := 0) (o := some th) (av := [.int x1, .int x2, .int (0 : Int32)]) (rest := []) C w rfl (by decide) (fun a r g hf => k_M_stepAt l D cy z N h2 a x1 x2 (0 : Int32) r g hf) gw_33_22 gw_33_23 gw_34_0 gw_1_5 gw_34_1 (by decide +kernel) ⟨Nat.le_of_ble_eq_true rfl, Nat.le_of_ble_eq_true rfl⟩ rfl hl.1 rfl (Nat.le_of_ble_eq_true rfl) dX12_tellSteps_20 (fun a => (sh_M_stepAt N h2 a x1 x2 (0 : Int32))) ⟨by decide, by decide⟩ e2 (fun v3 h4 H locs w hsh4 e3 => ?_)
      refine lv_istore_n (lv' := [(3, .int v3), (0, .ref th), (1, .int x1), (2, .int x2)]) hx hb dX12_tellSteps_23 rfl hl (by decide) rfl (fun ls hl => ?_)
      refine lv_iconst (v := 0) hx hb dX12_tellSteps_24 (by decide) ?_
      refine lv_istore (lv' := [(4, .int (0 : Int32)), (3, .int v3), (0, .ref th), (1, .int x1), (2, .int x2)]) hx hb dX12_tellSteps_25 hl (by decide) rfl (fun ls hl => ?_)
      exact b_M_tellSteps_27 C N  ih N  h4 th x1 x2 v3 (0 : Int32) _ _ ls w  (lv_sub hl [2, 3, 4, 1, 0] rfl) e3
set_option maxRecDepth 20000 in
set_option maxHeartbeats 4000000 in
theorem k_M_tellSteps (l : Launch) (D : va_G) (cy : cyT) (z : Nat) (N : Nat) (h : hS) (th : Nat) (x1 : Int32) (r : Unit) (g : hS) (hE : f_M_tellSteps N h th x1 = some (r, g)) : ct l yX12_tellSteps (Cond.code yX12_tellSteps cX12_tellSteps 5 (none) :: GW) { frames := 14, cells := 0, slots := 0, locals := 294 } D cy z h [.ref th, .int x1] (rV r) g := by
  refine Met.ofW (cc := cX12_tellSteps) (maxL := 5) (ret := none) (by decide) rfl ?_
  intro p e s m args below meth c s₁ B hml hv
  obtain ⟨rfl, hw⟩ := hv
  have C : MX p s m ([.ref th, .int x1] : List Value).toArray meth c cX12_tellSteps 5 (none) RX12 (Cond.code yX12_tellSteps cX12_tellSteps 5 (none) :: GW) := ⟨B.exec, B.bytes, B.returns, hml, findClass_of_methodNamed B.named, atoms_spec (ws := Cond.code yX12_tellSteps cX12_tellSteps 5 (none) :: GW) B.pre, B.notSynchronized⟩
  obtain ⟨hx, hb, hr, hml, hown, hts, hlk⟩ := id C
  have w := wd_of hw
  obtain ⟨ls, hen, hl⟩ : ∃ ls : Array Slot, entryFrame m ([.ref th, .int x1] : List Value).toArray 5 = F0 m 0 ls [] ∧ lv_has ls 5 [(0, .ref th), (1, .int x1)] := by
    exact ⟨_, lg_entry_eq _ _ _, lv_entry _ (Nat.le_of_ble_eq_true rfl)⟩
  rw [hen]
  unfold f_M_tellSteps at hE
  refine lv_aload_n hx hb dX12_tellSteps_0 rfl (lv_at hl 0 rfl) ?_
  refine lv_iconst (v := 0) hx hb dX12_tellSteps_1 (by decide) ?_
  refine w_pI (r := some th) (ci := 0) (k := 39) C w rfl (by decide) (by unfold roK; omega) (GF_wsX120 _) tyX12 tyX12_ok nmX12 (by decide) rfl (List.mem_cons_of_mem _ gw_55_16) rfl rfl (tyX12_ok 39 (by decide)) dX12_tellSteps_2 hE (fun h1 H locs w hsh1 e1 => ?_)
  refine lv_iconst (v := 0) hx hb dX12_tellSteps_5 (by decide) ?_
  refine lv_istore_n (lv' := [(2, .int (0 : Int32)), (0, .ref th), (1, .int x1)]) hx hb dX12_tellSteps_6 rfl hl (by decide) rfl (fun ls hl => ?_)
  exact b_M_tellSteps_7 C N   N  h1 th x1 (0 : Int32) _ _ ls w  (lv_sub hl [1, 2, 0] rfl) e1
set_option maxRecDepth 20000 in
set_option maxHeartbeats 4000000 in
theorem b_M_told_66 {p : Program} {l : Launch} {e : Env} {s : State} {m : MethodId} {args : Array Value} {below : List Frame} {meth : Method} {c : Code} {D : va_G} {cy : cyT} {z : Nat} (C : MX p s m args meth c cX12_told 3 ((some .int)) RX12 (Cond.code yX12_told cX12_told 3 ((some .int)) :: GW)) (N : Nat) {r : Int32} {g : hS}  : ∀  (h : hS) (y0 : Int32) (H : Heap) (locs : List Loc) (ls : Array Slot), wd D cy z s 0 h H locs → lv_has ls 3 [] → f_M_told_66 N   h y0 = some (r, g) → W p l e { frames := 15, cells := 0, slots := 0, locals := 318 } s m args below meth c H locs 0 0 (MQ below (eQ D cy z (rI r) g) args s 0 0 (fun q => z ≤ q)) (F0 m 66 ls [.int y0]) := by
  obtain ⟨hx, hb, hr, hml, hown, hts, hlk⟩ := id C
  intro  h y0 H locs ls w  hl hE
  unfold f_M_told_66 at hE
  exact w_iret C w hE dX12_told_66
set_option maxRecDepth 20000 in
set_option maxHeartbeats 4000000 in
theorem k_M_told (l : Launch) (D : va_G) (cy : cyT) (z : Nat) (N : Nat) (h : hS) (th : Nat) (x1 : Int32) (x2 : Int32) (r : Int32) (g : hS) (hE : f_M_told N h th x1 x2 = some (r, g)) : ct l yX12_told (Cond.code yX12_told cX12_told 3 ((some .int)) :: GW) { frames := 15, cells := 0, slots := 0, locals := 318 } D cy z h [.ref th, .int x1, .int x2] (rI r) g := by
  refine Met.ofW (cc := cX12_told) (maxL := 3) (ret := (some .int)) (by decide) rfl ?_
  intro p e s m args below meth c s₁ B hml hv
  obtain ⟨rfl, hw⟩ := hv
  have C : MX p s m ([.ref th, .int x1, .int x2] : List Value).toArray meth c cX12_told 3 ((some .int)) RX12 (Cond.code yX12_told cX12_told 3 ((some .int)) :: GW) := ⟨B.exec, B.bytes, B.returns, hml, findClass_of_methodNamed B.named, atoms_spec (ws := Cond.code yX12_told cX12_told 3 ((some .int)) :: GW) B.pre, B.notSynchronized⟩
  obtain ⟨hx, hb, hr, hml, hown, hts, hlk⟩ := id C
  have w := wd_of hw
  obtain ⟨ls, hen, hl⟩ : ∃ ls : Array Slot, entryFrame m ([.ref th, .int x1, .int x2] : List Value).toArray 3 = F0 m 0 ls [] ∧ lv_has ls 3 [(0, .ref th), (1, .int x1), (2, .int x2)] := by
    exact ⟨_, lg_entry_eq _ _ _, lv_entry _ (Nat.le_of_ble_eq_true rfl)⟩
  rw [hen]
  unfold f_M_told at hE
  refine lv_aload_n hx hb dX12_told_0 rfl (lv_at hl 0 rfl) ?_
  refine lv_iconst (v := 0) hx hb dX12_told_1 (by decide) ?_
  refine w_pI (r := some th) (ci := 0) (k := 1) C w rfl (by decide) (by unfold roK; omega) (GF_wsX120 _) tyX12 tyX12_ok nmX12 (by decide) rfl (List.mem_cons_of_mem _ gw_8_18) rfl rfl (tyX12_ok 1 (by decide)) dX12_told_2 hE (fun h1 H locs w hsh1 e1 => ?_)
  refine lv_aload_n hx hb dX12_told_5 rfl (lv_at hl 0 rfl) ?_
  refine lv_iload_n hx hb dX12_told_6 rfl (lv_at hl 1 rfl) ?_
  refine w_VI GW_good (n := 1) (F := 1) (Lc := 25) (o := some th) (av := [.int x1]) (rest := []) C w rfl (by decide) (fun a r g hf => k_M_isCost l D cy z N h1 a x1 r g hf) gw_24_20 gw_24_21 gw_24_22 gw_1_5 gw_24_23 (by decide +kernel) ⟨Nat.le_of_ble_eq_true rfl, Nat.le_of_ble_eq_true rfl⟩ rfl hl.1 rfl (Nat.le_of_ble_eq_true rfl) dX12_told_7 (fun a => (sh_M_isCost N h1 a x1)) ⟨by decide, by decide⟩ e1 (fun v2 h3 H locs w hsh3 e2 => ?_)
  refine w_if_ne (tgt := 19) C dX12_told_10 (by decide) e2 (fun hc e3 => ?_) (fun hc e3 => ?_)
  · refine lv_aload_n hx hb dX12_told_19 rfl (lv_at hl 0 rfl) ?_
    refine lv_iload_n hx hb dX12_told_20 rfl (lv_at hl 2 rfl) ?_
    refine w_pI (r := some th) (ci := 0) (k := 38) C w rfl (by decide) (by unfold roK; omega) (GF_wsX120 _) tyX12 tyX12_ok nmX12 (by decide) rfl (List.mem_cons_of_mem _ gw_55_14) rfl rfl (tyX12_ok 38 (by decide)) dX12_told_21 e3 (fun h4 H locs w hsh4 e4 => ?_)
    refine lv_aload_n hx hb dX12_told_24 rfl (lv_at hl 0 rfl) ?_
    refine lv_iconst (v := -1) hx hb dX12_told_25 (by decide) ?_
    refine w_pI (r := some th) (ci := 0) (k := 40) C w rfl (by decide) (by unfold roK; omega) (GF_wsX120 _) tyX12 tyX12_ok nmX12 (by decide) rfl (List.mem_cons_of_mem _ gw_55_15) rfl rfl (tyX12_ok 40 (by decide)) dX12_told_26 e4 (fun h5 H locs w hsh5 e5 => ?_)
    refine lv_aload_n hx hb dX12_told_29 rfl (lv_at hl 0 rfl) ?_
    refine lv_iload_n hx hb dX12_told_30 rfl (lv_at hl 1 rfl) ?_
    refine w_VV GW_good (n := 1) (F := 14) (Lc := 294) (o := some th) (av := [.int x1]) (rest := []) C w rfl (by decide) (fun a r g hf => k_M_tellSteps l D cy z N h5 a x1 r g hf) gw_55_17 gw_55_18 gw_55_19 gw_1_5 gw_55_20 (by decide +kernel) ⟨Nat.le_of_ble_eq_true rfl, Nat.le_of_ble_eq_true rfl⟩ rfl hl.1 rfl (Nat.le_of_ble_eq_true rfl) dX12_told_31 (fun a => (sh_M_tellSteps N h5 a x1)) ⟨by decide, by decide⟩ e5 (fun v6 h7 H locs w hsh7 e6 => ?_)
    refine lv_iload_n hx hb dX12_told_34 rfl (lv_at hl 2 rfl) ?_
    refine lv_iconst (v := -1) hx hb dX12_told_35 (by decide) ?_
    refine w_icmp_ne (tgt := 46) C dX12_told_36 (by decide) e6 (fun hc e7 => ?_) (fun hc e7 => ?_)
    · refine lv_aload_n hx hb dX12_told_46 rfl (lv_at hl 0 rfl) ?_
      refine w_gI (r := some th) (ci := 0) (k := 40) C w rfl (by decide) (GF_wsX120 _) (by decide) rfl (List.mem_cons_of_mem _ gw_55_15) rfl dX12_told_47 e7 (fun v8 e8 => ?_)
      refine lv_iconst (v := -1) hx hb dX12_told_50 (by decide) ?_
      refine w_icmp_ne (tgt := 62) C dX12_told_51 (by decide) e8 (fun hc e9 => ?_) (fun hc e9 => ?_)
      · refine lv_aload_n hx hb dX12_told_62 rfl (lv_at hl 0 rfl) ?_
        refine w_gI (r := some th) (ci := 0) (k := 40) C w rfl (by decide) (GF_wsX120 _) (by decide) rfl (List.mem_cons_of_mem _ gw_55_15) rfl dX12_told_63 e9 (fun v9 e10 => ?_)
        exact b_M_told_66 C N     h7 v9 _ _ ls w  (lv_sub hl [] rfl) e10
      · refine lv_aload_n hx hb dX12_told_54 rfl (lv_at hl 0 rfl) ?_
        refine lv_iconst (v := 1) hx hb dX12_told_55 (by decide) ?_
        refine w_VI GW_good (n := 1) (F := 0) (Lc := 0) (o := some th) (av := [.int (1 : Int32)]) (rest := []) C w rfl (by decide) (fun a r g hf => k_M_fail l D cy z N h7 a (1 : Int32) r g hf) gw_25_4 gw_25_5 gw_25_6 gw_1_5 gw_25_7 (by decide +kernel) ⟨Nat.le_of_ble_eq_true rfl, Nat.le_of_ble_eq_true rfl⟩ rfl hl.1 rfl (Nat.le_of_ble_eq_true rfl) dX12_told_56 (fun a => (sh_M_fail N h7 a (1 : Int32))) ⟨by decide, by decide⟩ e9 (fun v10 h11 H locs w hsh11 e11 => ?_)
        refine lv_goto (tgt := 66) hx hb dX12_told_59 (by decide) ?_
        exact b_M_told_66 C N     h11 v10 _ _ ls w  (lv_sub hl [] rfl) e11
    · refine lv_aload_n hx hb dX12_told_39 rfl (lv_at hl 0 rfl) ?_
      refine w_gI (r := some th) (ci := 0) (k := 39) C w rfl (by decide) (GF_wsX120 _) (by decide) rfl (List.mem_cons_of_mem _ gw_55_16) rfl dX12_told_40 e7 (fun v12 e12 => ?_)
      refine lv_goto (tgt := 66) hx hb dX12_told_43 (by decide) ?_
      exact b_M_told_66 C N     h7 v12 _ _ ls w  (lv_sub hl [] rfl) e12
  · refine lv_aload_n hx hb dX12_told_13 rfl (lv_at hl 0 rfl) ?_
    refine lv_iconst (v := 1) hx hb dX12_told_14 (by decide) ?_
    refine w_VI GW_good (n := 1) (F := 0) (Lc := 0) (o := some th) (av := [.int (1 : Int32)]) (rest := []) C w rfl (by decide) (fun a r g hf => k_M_fail l D cy z N h3 a (1 : Int32) r g hf) gw_25_4 gw_25_5 gw_25_6 gw_1_5 gw_25_7 (by decide +kernel) ⟨Nat.le_of_ble_eq_true rfl, Nat.le_of_ble_eq_true rfl⟩ rfl hl.1 rfl (Nat.le_of_ble_eq_true rfl) dX12_told_15 (fun a => (sh_M_fail N h3 a (1 : Int32))) ⟨by decide, by decide⟩ e3 (fun v13 h14 H locs w hsh14 e13 => ?_)
    exact w_iret C w e13 dX12_told_18
