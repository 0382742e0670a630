def f_Keepsake_init (N : Nat) (h : hS) (th : Nat) (a1 : Option Nat) (a2 : Option Nat) (a3 : Option Nat) : Option (Unit × hS) := gI h a1 3 0 fun v1 => pI h (some th) 4 0 v1 fun h2 => cv h2 a1 3 (fun a => f_Curve_placeOf N h2 a (0 : Int32)) fun v3 h4 => pI h4 (some th) 4 1 v3 fun h5 => gI h5 a1 3 2 fun v6 => pI h5 (some th) 4 2 v6 fun h7 => gJ h7 a1 3 4 fun v8 => pJ h7 (some th) 4 3 v8 fun h9 => pR h9 (some th) 4 4 a2 fun h10 => pR h10 (some th) 4 5 a3 fun h11 => some ((), h11)
def f_Keepsake_isBeside_40 (N : Nat)  (h : hS) (y0 : Int32) : Option (Int32 × hS) := bz y0 (some (y0, h))
def f_Keepsake_isBeside_39 (N : Nat)  (h : hS)  : Option (Int32 × hS) := f_Keepsake_isBeside_40 N   h (0 : Int32)
def f_Keepsake_isBeside (N : Nat) (h : hS) (th : Nat) (a1 : Option Nat) : Option (Int32 × hS) := gI h (some th) 4 1 fun v1 => cv h a1 3 (fun a => f_Curve_placeOf N h a (0 : Int32)) fun v2 h3 => if v1 = v2 then (gI h3 (some th) 4 2 fun v4 => gI h3 a1 3 2 fun v5 => if v4 = v5 then (gJ h3 (some th) 4 3 fun v6 => gJ h3 a1 3 4 fun v7 => if (lg_cmp v6 v7) = (0 : Int32) then (f_Keepsake_isBeside_40 N   h3 (1 : Int32)) else (f_Keepsake_isBeside_39 N   h3 )) else (f_Keepsake_isBeside_39 N   h3 )) else (f_Keepsake_isBeside_39 N   h3 )
def f_Reader_init_40 (N : Nat)  (h : hS) (y0 : Option Nat) (y1 : Option Nat) : Option (Unit × hS) := pR h y0 5 7 y1 fun h1 => some ((), h1)
def f_Reader_init_33 (N : Nat)  (h : hS) (th : Nat) (y0 : Option Nat) (y1 : Option Nat) : Option (Unit × hS) := pR h y0 5 3 y1 fun h1 => nwA h1 52 (0 : Int32) fun q2 h3 => f_Reader_init_40 N   h3 (some th) (some q2)
def f_Reader_init_25 (N : Nat)  (h : hS) (th : Nat) (y0 : Option Nat) (y1 : Option Nat) : Option (Unit × hS) := pR h y0 5 2 y1 fun h1 => nwA h1 50 (40 : Int32) fun q2 h3 => f_Reader_init_33 N   h3 th (some th) (some q2)
def f_Reader_init_17 (N : Nat)  (h : hS) (th : Nat) (y0 : Option Nat) (y1 : Option Nat) : Option (Unit × hS) := pR h y0 5 1 y1 fun h1 => nwA h1 50 (40 : Int32) fun q2 h3 => f_Reader_init_25 N   h3 th (some th) (some q2)
def f_Reader_init_9 (N : Nat)  (h : hS) (th : Nat) (y0 : Option Nat) (y1 : Option Nat) : Option (Unit × hS) := pR h y0 5 0 y1 fun h1 => nwA h1 50 (40 : Int32) fun q2 h3 => f_Reader_init_17 N   h3 th (some th) (some q2)
def f_Reader_init (N : Nat) (h : hS) (th : Nat) : Option (Unit × hS) := nwA h 50 (40 : Int32) fun q1 h2 => f_Reader_init_9 N   h2 th (some th) (some q1)
def f_Reader_wordPlace_23 (N : Nat)  (h : hS) (y0 : Int32) : Option (Int32 × hS) := some (y0, h)
def f_Reader_wordPlace_22 (N : Nat)  (h : hS)  : Option (Int32 × hS) := f_Reader_wordPlace_23 N   h (-1 : Int32)
def f_Reader_wordPlace (N : Nat) (h : hS) (th : Nat) (x1 : Int32) : Option (Int32 × hS) := if x1 < (0 : Int32) then (f_Reader_wordPlace_22 N   h ) else (gR h (some th) 5 3 fun v1 => lnA h 50 v1 fun v2 => if v2 ≤ x1 then (f_Reader_wordPlace_22 N   h ) else (gR h (some th) 5 3 fun v3 => aI h 50 v3 x1 fun v4 => f_Reader_wordPlace_23 N   h v4))
def f_Reader_byteAt_31 (N : Nat)  (h : hS) (y0 : Int32) : Option (Int32 × hS) := some (y0, h)
def f_Reader_byteAt_30 (N : Nat)  (h : hS)  : Option (Int32 × hS) := f_Reader_byteAt_31 N   h (-1 : Int32)
def f_Reader_byteAt (N : Nat) (h : hS) (th : Nat) (x1 : Int32) : Option (Int32 × hS) := if x1 < (0 : Int32) then (f_Reader_byteAt_30 N   h ) else (gI h (some th) 5 8 fun v1 => if v1 ≤ x1 then (f_Reader_byteAt_30 N   h ) else (gR h (some th) 5 7 fun v2 => lnB h v2 fun v3 => if v3 ≤ x1 then (f_Reader_byteAt_30 N   h ) else (gR h (some th) 5 7 fun v4 => aB h v4 x1 fun v5 => f_Reader_byteAt_31 N   h v5)))
def f_Reader_isBlank_17 (N : Nat)  (h : hS) (y0 : Int32) : Option (Int32 × hS) := bz y0 (some (y0, h))
def f_Reader_isBlank_12 (N : Nat)  (h : hS)  : Option (Int32 × hS) := f_Reader_isBlank_17 N   h (1 : Int32)
def f_Reader_isBlank (N : Nat) (h : hS) (x0 : Int32) : Option (Int32 × hS) := if x0 = (32 : Int32) then (f_Reader_isBlank_12 N   h ) else (if x0 = (10 : Int32) then (f_Reader_isBlank_12 N   h ) else (f_Reader_isBlank_17 N   h (0 : Int32)))
def f_Reader_tokenKind_45 (N : Nat)  (h : hS) (y0 : Int32) : Option (Int32 × hS) := some (y0, h)
def f_Reader_tokenKind_40 (N : Nat)  (h : hS)  : Option (Int32 × hS) := f_Reader_tokenKind_45 N   h (3 : Int32)
def f_Reader_tokenKind_28 (N : Nat)  (h : hS) (x0 : Int32) : Option (Int32 × hS) := if x0 = (59 : Int32) then (f_Reader_tokenKind_40 N   h ) else (if x0 = (45 : Int32) then (f_Reader_tokenKind_40 N   h ) else (f_Reader_tokenKind_45 N   h (4 : Int32)))
def f_Reader_tokenKind_14 (N : Nat)  (h : hS) (x0 : Int32) : Option (Int32 × hS) := if x0 < (48 : Int32) then (f_Reader_tokenKind_28 N   h x0) else (if (57 : Int32) < x0 then (f_Reader_tokenKind_28 N   h x0) else (some ((2 : Int32), h)))
def f_Reader_tokenKind (N : Nat) (h : hS) (x0 : Int32) : Option (Int32 × hS) := if x0 < (97 : Int32) then (f_Reader_tokenKind_14 N   h x0) else (if (122 : Int32) < x0 then (f_Reader_tokenKind_14 N   h x0) else (some ((1 : Int32), h)))
def f_Reader_nextToken_154 (N : Nat)  (h : hS)  : Option (Unit × hS) := some ((), h)
def f_Reader_nextToken_112 (N : Nat)  : Nat → hS → Nat → Option (Unit × hS)
  | 0 => fun _ _ => none
  | n + 1 => fun h th => gI h (some th) 5 12 fun v1 => gI h (some th) 5 8 fun v2 => if v2 ≤ v1 then (f_Reader_nextToken_154 N   h ) else (gI h (some th) 5 12 fun v3 => cv h (some th) 5 (fun a => f_Reader_byteAt N h a v3) fun v4 h5 => cl (f_Reader_tokenKind N h5 v4) fun v6 h7 => gI h7 (some th) 5 10 fun v8 => if v6 = v8 then (gI h7 (some th) 5 12 fun v9 => pI h7 (some th) 5 12 (v9 + (1 : Int32)) fun h10 => f_Reader_nextToken_112 N  n h10 th) else (f_Reader_nextToken_154 N   h7 ))
def f_Reader_nextToken_46 (N : Nat)  (h : hS) (th : Nat) : Option (Unit × hS) := gI h (some th) 5 11 fun v1 => pI h (some th) 5 12 v1 fun h2 => gI h2 (some th) 5 11 fun v3 => gI h2 (some th) 5 8 fun v4 => if v3 < v4 then (gI h2 (some th) 5 11 fun v5 => cv h2 (some th) 5 (fun a => f_Reader_byteAt N h2 a v5) fun v6 h7 => cl (f_Reader_tokenKind N h7 v6) fun v8 h9 => pI h9 (some th) 5 10 v8 fun h10 => gI h10 (some th) 5 12 fun v11 => pI h10 (some th) 5 12 (v11 + (1 : Int32)) fun h12 => gI h12 (some th) 5 10 fun v13 => if v13 = (1 : Int32) then (f_Reader_nextToken_112 N  N h12 th) else (gI h12 (some th) 5 10 fun v14 => if v14 = (2 : Int32) then (f_Reader_nextToken_112 N  N h12 th) else (f_Reader_nextToken_154 N   h12 ))) else (pI h2 (some th) 5 10 (0 : Int32) fun h15 => some ((), h15))
def f_Reader_nextToken_8 (N : Nat)  : Nat → hS → Nat → Option (Unit × hS)
  | 0 => fun _ _ => none
  | n + 1 => fun h th => gI h (some th) 5 11 fun v1 => gI h (some th) 5 8 fun v2 => if v2 ≤ v1 then (f_Reader_nextToken_46 N   h th) else (gI h (some th) 5 11 fun v3 => cv h (some th) 5 (fun a => f_Reader_byteAt N h a v3) fun v4 h5 => cl (f_Reader_isBlank N h5 v4) fun v6 h7 => if v6 = (0 : Int32) then (f_Reader_nextToken_46 N   h7 th) else (gI h7 (some th) 5 11 fun v8 => pI h7 (some th) 5 11 (v8 + (1 : Int32)) fun h9 => f_Reader_nextToken_8 N  n h9 th))
def f_Reader_nextToken (N : Nat) (h : hS) (th : Nat) : Option (Unit × hS) := gI h (some th) 5 12 fun v1 => pI h (some th) 5 11 v1 fun h2 => f_Reader_nextToken_8 N  N h2 th
def f_K_wordOf (N : Nat) (h : hS) (x0 : Int32) : Option (Option Nat × hS) := if x0 = (0 : Int32) then (bn (h_r h 0 8) fun v1 => some (v1, h)) else (if x0 = (1 : Int32) then (bn (h_r h 0 9) fun v2 => some (v2, h)) else (if x0 = (2 : Int32) then (bn (h_r h 0 10) fun v3 => some (v3, h)) else (if x0 = (3 : Int32) then (bn (h_r h 0 11) fun v4 => some (v4, h)) else (if x0 = (4 : Int32) then (bn (h_r h 0 12) fun v5 => some (v5, h)) else (if x0 = (5 : Int32) then (bn (h_r h 0 13) fun v6 => some (v6, h)) else (if x0 = (6 : Int32) then (bn (h_r h 0 14) fun v7 => some (v7, h)) else (if x0 = (7 : Int32) then (bn (h_r h 0 15) fun v8 => some (v8, h)) else (if x0 = (8 : Int32) then (bn (h_r h 0 16) fun v9 => some (v9, h)) else (bn (h_r h 0 17) fun v10 => some (v10, h))))))))))
def f_Reader_isTokenWord_20 (N : Nat)  : Nat → hS → Nat → Option Nat → Int32 → Option (Int32 × hS)
  | 0 => fun _ _ _ _ => none
  | n + 1 => fun h th a1 x2 => cv h a1 56 (fun a => f_Str_length_8abf5 N h a ) fun v1 h2 => if v1 ≤ x2 then (bz (1 : Int32) (some ((1 : Int32), h2))) else (cv h2 a1 56 (fun a => f_Str_charAt_5068e N h2 a x2) fun v3 h4 => gI h4 (some th) 5 11 fun v5 => cv h4 (some th) 5 (fun a => f_Reader_byteAt N h4 a (v5 + x2)) fun v6 h7 => if v3 = v6 then (bn (x2 + (1 : Int32)) fun v8 => f_Reader_isTokenWord_20 N  n h7 th a1 v8) else (bz (0 : Int32) (some ((0 : Int32), h7))))
def f_Reader_isTokenWord (N : Nat) (h : hS) (th : Nat) (a1 : Option Nat) : Option (Int32 × hS) := cv h a1 56 (fun a => f_Str_length_8abf5 N h a ) fun v1 h2 => gI h2 (some th) 5 12 fun v3 => gI h2 (some th) 5 11 fun v4 => if v1 = (v3 - v4) then (f_Reader_isTokenWord_20 N  N h2 th a1 (0 : Int32)) else (bz (0 : Int32) (some ((0 : Int32), h2)))
def f_Reader_kindOfToken_2 (N : Nat)  : Nat → hS → Nat → Int32 → Option (Int32 × hS)
  | 0 => fun _ _ _ => none
  | n + 1 => fun h th x1 => if (9 : Int32) ≤ x1 then (some ((-1 : Int32), h)) else (cl (f_K_wordOf N h x1) fun v1 h2 => cv h2 (some th) 5 (fun a => f_Reader_isTokenWord N h2 a v1) fun v3 h4 => if v3 = (0 : Int32) then (bn (x1 + (1 : Int32)) fun v5 => f_Reader_kindOfToken_2 N  n h4 th v5) else (some (x1, h4)))
def f_Reader_kindOfToken (N : Nat) (h : hS) (th : Nat) : Option (Int32 × hS) := f_Reader_kindOfToken_2 N  N h th (0 : Int32)
def f_Reader_fail (N : Nat) (h : hS) (th : Nat) (x1 : Int32) : Option (Unit × hS) := pI h (some th) 5 5 x1 fun h1 => gI h1 (some th) 5 11 fun v2 => pI h1 (some th) 5 6 v2 fun h3 => some ((), h3)
def f_K_isKind_15 (N : Nat)  (h : hS) (y0 : Int32) : Option (Int32 × hS) := bz y0 (some (y0, h))
def f_K_isKind_14 (N : Nat)  (h : hS)  : Option (Int32 × hS) := f_K_isKind_15 N   h (0 : Int32)
def f_K_isKind (N : Nat) (h : hS) (x0 : Int32) : Option (Int32 × hS) := if x0 < (0 : Int32) then (f_K_isKind_14 N   h ) else (if (9 : Int32) ≤ x0 then (f_K_isKind_14 N   h ) else (f_K_isKind_15 N   h (1 : Int32)))
def f_K_numbersOf_16 (N : Nat)  (h : hS) (y0 : Int32) : Option (Int32 × hS) := some (y0, h)
def f_K_numbersOf (N : Nat) (h : hS) (x0 : Int32) : Option (Int32 × hS) := cl (f_K_isKind N h x0) fun v1 h2 => if v1 = (0 : Int32) then (f_K_numbersOf_16 N   h2 (0 : Int32)) else (bn (h_r h2 0 1) fun v3 => aI h2 56 v3 x0 fun v4 => f_K_numbersOf_16 N   h2 v4)
def f_Reader_isSign_25 (N : Nat)  (h : hS) (y0 : Int32) : Option (Int32 × hS) := bz y0 (some (y0, h))
def f_Reader_isSign_24 (N : Nat)  (h : hS)  : Option (Int32 × hS) := f_Reader_isSign_25 N   h (0 : Int32)
def f_Reader_isSign (N : Nat) (h : hS) (th : Nat) (x1 : Int32) : Option (Int32 × hS) := gI h (some th) 5 10 fun v1 => if v1 = (3 : Int32) then (gI h (some th) 5 11 fun v2 => cv h (some th) 5 (fun a => f_Reader_byteAt N h a v2) fun v3 h4 => if v3 = x1 then (f_Reader_isSign_25 N   h4 (1 : Int32)) else (f_Reader_isSign_24 N   h4 )) else (f_Reader_isSign_24 N   h )
def f_Reader_numberOfToken_23 (N : Nat)  : Nat → hS → Nat → Int32 → Int32 → Option (Int32 × hS)
  | 0 => fun _ _ _ _ => none
  | n + 1 => fun h th x1 x2 => gI h (some th) 5 12 fun v1 => if v1 ≤ x2 then (some (x1, h)) else (cv h (some th) 5 (fun a => f_Reader_byteAt N h a x2) fun v2 h3 => bn (((((10 : Int32) * x1) + v2) - (48 : Int32))) fun v4 => bn (x2 + (1 : Int32)) fun v5 => f_Reader_numberOfToken_23 N  n h3 th v4 v5)
def f_Reader_numberOfToken (N : Nat) (h : hS) (th : Nat) : Option (Int32 × hS) := gI h (some th) 5 12 fun v1 => gI h (some th) 5 11 fun v2 => if (v1 - v2) ≤ (3 : Int32) then (gI h (some th) 5 11 fun v3 => f_Reader_numberOfToken_23 N  N h th (0 : Int32) v3) else (some ((1000000000 : Int32), h))
def f_Reader_readNumber_77 (N : Nat)  (h : hS) (y0 : Int32) : Option (Int32 × hS) := some (y0, h)
def f_Reader_readNumber_31 (N : Nat)  (h : hS) (th : Nat) (x2 : Int32) (x3 : Int32) : Option (Int32 × hS) := gI h (some th) 5 10 fun v1 => if v1 = (2 : Int32) then (cv h (some th) 5 (fun a => f_Reader_numberOfToken N h a ) fun v2 h3 => if v2 ≤ x2 then (if x3 = (0 : Int32) then (f_Reader_readNumber_77 N   h3 v2) else (f_Reader_readNumber_77 N   h3 (-v2))) else (cv h3 (some th) 5 (fun a => f_Reader_fail N h3 a (2 : Int32)) fun _ h5 => some ((0 : Int32), h5))) else (cv h (some th) 5 (fun a => f_Reader_fail N h a (1 : Int32)) fun _ h7 => some ((0 : Int32), h7))
def f_Reader_readNumber_22 (N : Nat)  (h : hS) (th : Nat) (x2 : Int32) (y0 : Int32) : Option (Int32 × hS) := if y0 = (0 : Int32) then (f_Reader_readNumber_31 N   h th x2 y0) else (cv h (some th) 5 (fun a => f_Reader_nextToken N h a ) fun _ h2 => f_Reader_readNumber_31 N   h2 th x2 y0)
def f_Reader_readNumber_21 (N : Nat)  (h : hS) (th : Nat) (x2 : Int32) : Option (Int32 × hS) := f_Reader_readNumber_22 N   h th x2 (0 : Int32)
def f_Reader_readNumber (N : Nat) (h : hS) (th : Nat) (x1 : Int32) (x2 : Int32) : Option (Int32 × hS) := cv h (some th) 5 (fun a => f_Reader_nextToken N h a ) fun _ h2 => if x1 = (0 : Int32) then (f_Reader_readNumber_21 N   h2 th x2) else (cv h2 (some th) 5 (fun a => f_Reader_isSign N h2 a (45 : Int32)) fun v3 h4 => if v3 = (0 : Int32) then (f_Reader_readNumber_21 N   h4 th x2) else (f_Reader_readNumber_22 N   h4 th x2 (1 : Int32)))
def f_Reader_readFirst_58 (N : Nat)  (h : hS) (x2 : Int32) : Option (Int32 × hS) := some (x2, h)
def f_Reader_readFirst_23 (N : Nat)  (h : hS) (th : Nat) (x1 : Int32) (y0 : Option Nat) (y1 : Int32) : Option (Int32 × hS) := bn (h_r h 0 3) fun v1 => aI h 56 v1 x1 fun v2 => cv h y0 5 (fun a => f_Reader_readNumber N h a y1 v2) fun v3 h4 => gI h4 (some th) 5 5 fun v5 => if v5 = (0 : Int32) then (if x1 = (8 : Int32) then (gI h4 (some th) 5 9 fun v6 => if v3 = v6 then (cv h4 (some th) 5 (fun a => f_Reader_fail N h4 a (3 : Int32)) fun _ h8 => f_Reader_readFirst_58 N   h8 v3) else (f_Reader_readFirst_58 N   h4 v3)) else (f_Reader_readFirst_58 N   h4 v3)) else (f_Reader_readFirst_58 N   h4 v3)
def f_Reader_readFirst (N : Nat) (h : hS) (th : Nat) (x1 : Int32) : Option (Int32 × hS) := cl (f_K_numbersOf N h x1) fun v1 h2 => if v1 = (0 : Int32) then (some ((0 : Int32), h2)) else (bn (h_r h2 0 2) fun v3 => aI h2 56 v3 x1 fun v4 => if (0 : Int32) ≤ v4 then (f_Reader_readFirst_23 N   h2 th x1 (some th) (0 : Int32)) else (f_Reader_readFirst_23 N   h2 th x1 (some th) (1 : Int32)))
def f_Reader_readClause_114 (N : Nat)  (h : hS) (th : Nat) (y0 : Option Nat) (y1 : Int32) (y2 : Int32) : Option (Unit × hS) := uI h y0 y1 y2 fun h1 => gI h1 (some th) 5 5 fun v2 => if v2 = (0 : Int32) then (cv h1 (some th) 5 (fun a => f_Reader_nextToken N h1 a ) fun _ h4 => cv h4 (some th) 5 (fun a => f_Reader_isSign N h4 a (59 : Int32)) fun v5 h6 => if v5 = (0 : Int32) then (cv h6 (some th) 5 (fun a => f_Reader_fail N h6 a (1 : Int32)) fun _ h10 => some ((), h10)) else (gI h6 (some th) 5 4 fun v7 => pI h6 (some th) 5 4 (v7 + (1 : Int32)) fun h8 => some ((), h8))) else (some ((), h1))
def f_Reader_readClause_113 (N : Nat)  (h : hS) (th : Nat) (y0 : Option Nat) (y1 : Int32) : Option (Unit × hS) := f_Reader_readClause_114 N   h th y0 y1 (0 : Int32)
def f_Reader_readClause_16 (N : Nat)  (h : hS) (th : Nat) (y0 : Int32) : Option (Unit × hS) := if y0 = (-1 : Int32) then (cv h (some th) 5 (fun a => f_Reader_fail N h a (1 : Int32)) fun _ h24 => some ((), h24)) else (gI h (some th) 5 4 fun v1 => if v1 < (40 : Int32) then (gR h (some th) 5 3 fun v2 => gI h (some th) 5 4 fun v3 => gI h (some th) 5 11 fun v4 => uI h v2 v3 v4 fun h5 => gR h5 (some th) 5 0 fun v6 => gI h5 (some th) 5 4 fun v7 => uI h5 v6 v7 y0 fun h8 => gR h8 (some th) 5 1 fun v9 => gI h8 (some th) 5 4 fun v10 => cv h8 (some th) 5 (fun a => f_Reader_readFirst N h8 a y0) fun v11 h12 => uI h12 v9 v10 v11 fun h13 => gR h13 (some th) 5 2 fun v14 => gI h13 (some th) 5 4 fun v15 => cl (f_K_numbersOf N h13 y0) fun v16 h17 => if v16 = (2 : Int32) then (gI h17 (some th) 5 5 fun v18 => if v18 = (0 : Int32) then (cv h17 (some th) 5 (fun a => f_Reader_readNumber N h17 a (0 : Int32) (99 : Int32)) fun v19 h20 => f_Reader_readClause_114 N   h20 th v14 v15 v19) else (f_Reader_readClause_113 N   h17 th v14 v15)) else (f_Reader_readClause_113 N   h17 th v14 v15)) else (cv h (some th) 5 (fun a => f_Reader_fail N h a (3 : Int32)) fun _ h22 => some ((), h22)))
def f_Reader_readClause (N : Nat) (h : hS) (th : Nat) : Option (Unit × hS) := gI h (some th) 5 10 fun v1 => if v1 = (1 : Int32) then (cv h (some th) 5 (fun a => f_Reader_kindOfToken N h a ) fun v2 h3 => f_Reader_readClause_16 N   h3 th v2) else (f_Reader_readClause_16 N   h th (-1 : Int32))
def f_Reader_read_79 (N : Nat)  (h : hS)  : Option (Unit × hS) := some ((), h)
def f_Reader_read_43 (N : Nat)  : Nat → hS → Nat → Int32 → Option (Unit × hS)
  | 0 => fun _ _ _ => none
  | n + 1 => fun h th x4 => if (40 : Int32) < x4 then (f_Reader_read_79 N   h ) else (gI h (some th) 5 5 fun v1 => if v1 = (0 : Int32) then (cv h (some th) 5 (fun a => f_Reader_nextToken N h a ) fun _ h3 => gI h3 (some th) 5 10 fun v4 => if v4 = (0 : Int32) then (some ((), h3)) else (cv h3 (some th) 5 (fun a => f_Reader_readClause N h3 a ) fun _ h6 => bn (x4 + (1 : Int32)) fun v7 => f_Reader_read_43 N  n h6 th v7)) else (f_Reader_read_79 N   h ))
def f_Reader_read (N : Nat) (h : hS) (th : Nat) (a1 : Option Nat) (x2 : Int32) (x3 : Int32) : Option (Unit × hS) := pR h (some th) 5 7 a1 fun h1 => lnB h1 a1 fun v2 => pI h1 (some th) 5 8 (jmn x2 v2) fun h3 => pI h3 (some th) 5 9 x3 fun h4 => pI h4 (some th) 5 4 (0 : Int32) fun h5 => pI h5 (some th) 5 5 (0 : Int32) fun h6 => pI h6 (some th) 5 6 (-1 : Int32) fun h7 => pI h7 (some th) 5 12 (0 : Int32) fun h8 => f_Reader_read_43 N  N h8 th (0 : Int32)
def f_Shelf_init_8 (N : Nat)  (h : hS) (th : Nat) (y0 : Option Nat) (y1 : Option Nat) : Option (Unit × hS) := pR h y0 6 0 y1 fun h1 => pI h1 (some th) 6 1 (0 : Int32) fun h2 => pR h2 (some th) 6 2 none fun h3 => some ((), h3)
def f_Shelf_init (N : Nat) (h : hS) (th : Nat) : Option (Unit × hS) := nwA h 51 (0 : Int32) fun q1 h2 => f_Shelf_init_8 N   h2 th (some th) (some q1)
def f_Arr_fill_d0a16_6 (N : Nat)  : Nat → hS → Option Nat → Int64 → Int32 → Int32 → Option (Unit × hS)
  | 0 => fun _ _ _ _ _ => none
  | n + 1 => fun h a0 x1 x3 x4 => if x4 ≤ x3 then (some ((), h)) else (uJ h a0 x3 x1 fun h1 => bn (x3 + (1 : Int32)) fun v2 => f_Arr_fill_d0a16_6 N  n h1 a0 x1 v2 x4)
def f_Arr_fill_d0a16 (N : Nat) (h : hS) (a0 : Option Nat) (x1 : Int64) : Option (Unit × hS) := lnA h 51 a0 fun v1 => f_Arr_fill_d0a16_6 N  N h a0 x1 (0 : Int32) v1
def f_Shelf_writeUnits_46 (N : Nat) (rc2 : hS → Nat → Int32 → Int32 → Int32 → Option (Unit × hS)) (h : hS) (th : Nat) (x1 : Int32) (x2 : Int32) (x3 : Int32) : Option (Unit × hS) := bn (x3 + (1 : Int32)) fun v1 => rc2 h th x1 x2 v1
def f_Shelf_writeUnits_2 (N : Nat)  : Nat → hS → Nat → Int32 → Int32 → Int32 → Option (Unit × hS)
  | 0 => fun _ _ _ _ _ => none
  | n + 1 => fun h th x1 x2 x3 => if (x1 + x2) ≤ x3 then (some ((), h)) else (dv (64 : Int32) (bn ((x3 / (64 : Int32))) fun v1 => if v1 < (0 : Int32) then (f_Shelf_writeUnits_46 N (f_Shelf_writeUnits_2 N  n)  h th x1 x2 x3) else (gR h (some th) 6 0 fun v2 => lnA h 51 v2 fun v3 => if v3 ≤ v1 then (f_Shelf_writeUnits_46 N (f_Shelf_writeUnits_2 N  n)  h th x1 x2 x3) else (gR h (some th) 6 0 fun v4 => aJ h v4 v1 fun v5 => dv (64 : Int32) (uJ h v4 v1 (v5 ||| ((1 : Int64) <<< ((x3 - x3 / (64 : Int32) * (64 : Int32)).toInt64 &&& 63))) fun h6 => f_Shelf_writeUnits_46 N (f_Shelf_writeUnits_2 N  n)  h6 th x1 x2 x3)))))
def f_Shelf_writeUnits (N : Nat) (h : hS) (th : Nat) (x1 : Int32) (x2 : Int32) : Option (Unit × hS) := f_Shelf_writeUnits_2 N  N h th x1 x2 x1
theorem sh_Keepsake_init (N : Nat) (h : hS) (th : Nat) (a1 : Option Nat) (a2 : Option Nat) (a3 : Option Nat) : Sh h (f_Keepsake_init N h th a1 a2 a3) := by
  unfold f_Keepsake_init
  refine Sh_gI (fun v1 => ?_)
  refine Sh_pI (fun h2 => ?_)
  refine Sh_cv (fun a => (sh_Curve_placeOf N h2 a (0 : Int32))) (fun v3 h4 => ?_)
  refine Sh_pI (fun h5 => ?_)
  refine Sh_gI (fun v6 => ?_)
  refine Sh_pI (fun h7 => ?_)
  refine Sh_gJ (fun v8 => ?_)
  refine Sh_pJ (fun h9 => ?_)
  refine Sh_pR (fun h10 => ?_)
  refine Sh_pR (fun h11 => ?_)
  exact Sh_some
theorem sh_Keepsake_isBeside_40 (N : Nat)  : ∀  (h : hS) (y0 : Int32), Sh h (f_Keepsake_isBeside_40 N   h y0) := by
  intro h y0
  unfold f_Keepsake_isBeside_40
  exact Sh_bz Sh_some
theorem sh_Keepsake_isBeside_39 (N : Nat)  : ∀  (h : hS) , Sh h (f_Keepsake_isBeside_39 N   h ) := by
  intro h 
  unfold f_Keepsake_isBeside_39
  exact sh_Keepsake_isBeside_40 N   h (0 : Int32)
theorem sh_Keepsake_isBeside (N : Nat) (h : hS) (th : Nat) (a1 : Option Nat) : Sh h (f_Keepsake_isBeside N h th a1) := by
  unfold f_Keepsake_isBeside
  refine Sh_gI (fun v1 => ?_)
  refine Sh_cv (fun a => (sh_Curve_placeOf N h a (0 : Int32))) (fun v2 h3 => ?_)
  refine Sh_ite ?_ ?_
  · refine Sh_gI (fun v4 => ?_)
    refine Sh_gI (fun v5 => ?_)
    refine Sh_ite ?_ ?_
    · refine Sh_gJ (fun v6 => ?_)
      refine Sh_gJ (fun v7 => ?_)
      refine Sh_ite ?_ ?_
      · exact sh_Keepsake_isBeside_40 N   h3 (1 : Int32)
      · exact sh_Keepsake_isBeside_39 N   h3 
    · exact sh_Keepsake_isBeside_39 N   h3 
  · exact sh_Keepsake_isBeside_39 N   h3 
theorem mo_Reader_init_40 (N : Nat)  : ∀  (h : hS) (y0 : Option Nat) (y1 : Option Nat), Mo h (f_Reader_init_40 N   h y0 y1) := by
  intro h y0 y1
  unfold f_Reader_init_40
  refine Mo_pR (fun h1 => ?_)
  exact Mo_some
theorem mo_Reader_init_33 (N : Nat)  : ∀  (h : hS) (th : Nat) (y0 : Option Nat) (y1 : Option Nat), Mo h (f_Reader_init_33 N   h th y0 y1) := by
  intro h th y0 y1
  unfold f_Reader_init_33
  refine Mo_pR (fun h1 => ?_)
  refine Mo_nwA (fun q2 h3 => ?_)
  exact mo_Reader_init_40 N   h3 (some th) (some q2)
theorem mo_Reader_init_25 (N : Nat)  : ∀  (h : hS) (th : Nat) (y0 : Option Nat) (y1 : Option Nat), Mo h (f_Reader_init_25 N   h th y0 y1) := by
  intro h th y0 y1
  unfold f_Reader_init_25
  refine Mo_pR (fun h1 => ?_)
  refine Mo_nwA (fun q2 h3 => ?_)
  exact mo_Reader_init_33 N   h3 th (some th) (some q2)
theorem mo_Reader_init_17 (N : Nat)  : ∀  (h : hS) (th : Nat) (y0 : Option Nat) (y1 : Option Nat), Mo h (f_Reader_init_17 N   h th y0 y1) := by
  intro h th y0 y1
  unfold f_Reader_init_17
  refine Mo_pR (fun h1 => ?_)
  refine Mo_nwA (fun q2 h3 => ?_)
  exact mo_Reader_init_25 N   h3 th (some th) (some q2)
theorem mo_Reader_init_9 (N : Nat)  : ∀  (h : hS) (th : Nat) (y0 : Option Nat) (y1 : Option Nat), Mo h (f_Reader_init_9 N   h th y0 y1) := by
  intro h th y0 y1
  unfold f_Reader_init_9
  refine Mo_pR (fun h1 => ?_)
  refine Mo_nwA (fun q2 h3 => ?_)
  exact mo_Reader_init_17 N   h3 th (some th) (some q2)
theorem mo_Reader_init (N : Nat) (h : hS) (th : Nat) : Mo h (f_Reader_init N h th) := by
  unfold f_Reader_init
  refine Mo_nwA (fun q1 h2 => ?_)
  exact mo_Reader_init_9 N   h2 th (some th) (some q1)
theorem sh_Reader_wordPlace_23 (N : Nat)  : ∀  (h : hS) (y0 : Int32), Sh h (f_Reader_wordPlace_23 N   h y0) := by
  intro h y0
  unfold f_Reader_wordPlace_23
  exact Sh_some
theorem sh_Reader_wordPlace_22 (N : Nat)  : ∀  (h : hS) , Sh h (f_Reader_wordPlace_22 N   h ) := by
  intro h 
  unfold f_Reader_wordPlace_22
  exact sh_Reader_wordPlace_23 N   h (-1 : Int32)
theorem sh_Reader_wordPlace (N : Nat) (h : hS) (th : Nat) (x1 : Int32) : Sh h (f_Reader_wordPlace N h th x1) := by
  unfold f_Reader_wordPlace
  refine Sh_ite ?_ ?_
  · exact sh_Reader_wordPlace_22 N   h 
  · refine Sh_gR (fun v1 => ?_)
    refine Sh_lnA (fun v2 => ?_)
    refine Sh_ite ?_ ?_
    · exact sh_Reader_wordPlace_22 N   h 
    · refine Sh_gR (fun v3 => ?_)
      refine Sh_aI (fun v4 => ?_)
      exact sh_Reader_wordPlace_23 N   h v4
theorem sh_Reader_byteAt_31 (N : Nat)  : ∀  (h : hS) (y0 : Int32), Sh h (f_Reader_byteAt_31 N   h y0) := by
  intro h y0
  unfold f_Reader_byteAt_31
  exact Sh_some
theorem sh_Reader_byteAt_30 (N : Nat)  : ∀  (h : hS) , Sh h (f_Reader_byteAt_30 N   h ) := by
  intro h 
  unfold f_Reader_byteAt_30
  exact sh_Reader_byteAt_31 N   h (-1 : Int32)
theorem sh_Reader_byteAt (N : Nat) (h : hS) (th : Nat) (x1 : Int32) : Sh h (f_Reader_byteAt N h th x1) := by
  unfold f_Reader_byteAt
  refine Sh_ite ?_ ?_
  · exact sh_Reader_byteAt_30 N   h 
  · refine Sh_gI (fun v1 => ?_)
    refine Sh_ite ?_ ?_
    · exact sh_Reader_byteAt_30 N   h 
    · refine Sh_gR (fun v2 => ?_)
      refine Sh_lnB (fun v3 => ?_)
      refine Sh_ite ?_ ?_
      · exact sh_Reader_byteAt_30 N   h 
      · refine Sh_gR (fun v4 => ?_)
        refine Sh_aB (fun v5 => ?_)
        exact sh_Reader_byteAt_31 N   h v5
theorem sh_Reader_isBlank_17 (N : Nat)  : ∀  (h : hS) (y0 : Int32), Sh h (f_Reader_isBlank_17 N   h y0) := by
  intro h y0
  unfold f_Reader_isBlank_17
  exact Sh_bz Sh_some
theorem sh_Reader_isBlank_12 (N : Nat)  : ∀  (h : hS) , Sh h (f_Reader_isBlank_12 N   h ) := by
  intro h 
  unfold f_Reader_isBlank_12
  exact sh_Reader_isBlank_17 N   h (1 : Int32)
theorem sh_Reader_isBlank (N : Nat) (h : hS) (x0 : Int32) : Sh h (f_Reader_isBlank N h x0) := by
  unfold f_Reader_isBlank
  refine Sh_ite ?_ ?_
  · exact sh_Reader_isBlank_12 N   h 
  · refine Sh_ite ?_ ?_
    · exact sh_Reader_isBlank_12 N   h 
    · exact sh_Reader_isBlank_17 N   h (0 : Int32)
theorem sh_Reader_tokenKind_45 (N : Nat)  : ∀  (h : hS) (y0 : Int32), Sh h (f_Reader_tokenKind_45 N   h y0) := by
  intro h y0
  unfold f_Reader_tokenKind_45
  exact Sh_some
theorem sh_Reader_tokenKind_40 (N : Nat)  : ∀  (h : hS) , Sh h (f_Reader_tokenKind_40 N   h ) := by
  intro h 
  unfold f_Reader_tokenKind_40
  exact sh_Reader_tokenKind_45 N   h (3 : Int32)
theorem sh_Reader_tokenKind_28 (N : Nat)  : ∀  (h : hS) (x0 : Int32), Sh h (f_Reader_tokenKind_28 N   h x0) := by
  intro h x0
  unfold f_Reader_tokenKind_28
  refine Sh_ite ?_ ?_
  · exact sh_Reader_tokenKind_40 N   h 
  · refine Sh_ite ?_ ?_
    · exact sh_Reader_tokenKind_40 N   h 
    · exact sh_Reader_tokenKind_45 N   h (4 : Int32)
theorem sh_Reader_tokenKind_14 (N : Nat)  : ∀  (h : hS) (x0 : Int32), Sh h (f_Reader_tokenKind_14 N   h x0) := by
  intro h x0
  unfold f_Reader_tokenKind_14
  refine Sh_ite ?_ ?_
  · exact sh_Reader_tokenKind_28 N   h x0
  · refine Sh_ite ?_ ?_
    · exact sh_Reader_tokenKind_28 N   h x0
    · exact Sh_some
theorem sh_Reader_tokenKind (N : Nat) (h : hS) (x0 : Int32) : Sh h (f_Reader_tokenKind N h x0) := by
  unfold f_Reader_tokenKind
  refine Sh_ite ?_ ?_
  · exact sh_Reader_tokenKind_14 N   h x0
  · refine Sh_ite ?_ ?_
    · exact sh_Reader_tokenKind_14 N   h x0
    · exact Sh_some
theorem sh_Reader_nextToken_154 (N : Nat)  : ∀  (h : hS) , Sh h (f_Reader_nextToken_154 N   h ) := by
  intro h 
  unfold f_Reader_nextToken_154
  exact Sh_some
theorem sh_Reader_nextToken_112 (N : Nat)  : ∀ (n : Nat) (h : hS) (th : Nat), Sh h (f_Reader_nextToken_112 N  n h th) := by
  intro n
  induction n with
  | zero =>
    intro h th
    exact Sh_none
  | succ n ih =>
    intro h th
    unfold f_Reader_nextToken_112
    refine Sh_gI (fun v1 => ?_)
    refine Sh_gI (fun v2 => ?_)
    refine Sh_ite ?_ ?_
    · exact sh_Reader_nextToken_154 N   h 
    · refine Sh_gI (fun v3 => ?_)
      refine Sh_cv (fun a => (sh_Reader_byteAt N h a v3)) (fun v4 h5 => ?_)
      refine Sh_cl (sh_Reader_tokenKind N h5 v4) (fun v6 h7 => ?_)
      refine Sh_gI (fun v8 => ?_)
      refine Sh_ite ?_ ?_
      · refine Sh_gI (fun v9 => ?_)
        refine Sh_pI (fun h10 => ?_)
        exact ih h10 th
      · exact sh_Reader_nextToken_154 N   h7 
theorem sh_Reader_nextToken_46 (N : Nat)  : ∀  (h : hS) (th : Nat), Sh h (f_Reader_nextToken_46 N   h th) := by
  intro h th
  unfold f_Reader_nextToken_46
  refine Sh_gI (fun v1 => ?_)
  refine Sh_pI (fun h2 => ?_)
  refine Sh_gI (fun v3 => ?_)
  refine Sh_gI (fun v4 => ?_)
  refine Sh_ite ?_ ?_
  · refine Sh_gI (fun v5 => ?_)
    refine Sh_cv (fun a => (sh_Reader_byteAt N h2 a v5)) (fun v6 h7 => ?_)
    refine Sh_cl (sh_Reader_tokenKind N h7 v6) (fun v8 h9 => ?_)
    refine Sh_pI (fun h10 => ?_)
    refine Sh_gI (fun v11 => ?_)
    refine Sh_pI (fun h12 => ?_)
    refine Sh_gI (fun v13 => ?_)
    refine Sh_ite ?_ ?_
    · exact sh_Reader_nextToken_112 N  N h12 th
    · refine Sh_gI (fun v14 => ?_)
      refine Sh_ite ?_ ?_
      · exact sh_Reader_nextToken_112 N  N h12 th
      · exact sh_Reader_nextToken_154 N   h12 
  · refine Sh_pI (fun h15 => ?_)
    exact Sh_some
theorem sh_Reader_nextToken_8 (N : Nat)  : ∀ (n : Nat) (h : hS) (th : Nat), Sh h (f_Reader_nextToken_8 N  n h th) := by
  intro n
  induction n with
  | zero =>
    intro h th
    exact Sh_none
  | succ n ih =>
    intro h th
    unfold f_Reader_nextToken_8
    refine Sh_gI (fun v1 => ?_)
    refine Sh_gI (fun v2 => ?_)
    refine Sh_ite ?_ ?_
    · exact sh_Reader_nextToken_46 N   h th
    · refine Sh_gI (fun v3 => ?_)
      refine Sh_cv (fun a => (sh_Reader_byteAt N h a v3)) (fun v4 h5 => ?_)
      refine Sh_cl (sh_Reader_isBlank N h5 v4) (fun v6 h7 => ?_)
      refine Sh_ite ?_ ?_
      · exact sh_Reader_nextToken_46 N   h7 th
      · refine Sh_gI (fun v8 => ?_)
        refine Sh_pI (fun h9 => ?_)
        exact ih h9 th
theorem sh_Reader_nextToken (N : Nat) (h : hS) (th : Nat) : Sh h (f_Reader_nextToken N h th) := by
  unfold f_Reader_nextToken
  refine Sh_gI (fun v1 => ?_)
  refine Sh_pI (fun h2 => ?_)
  exact sh_Reader_nextToken_8 N  N h2 th
theorem sh_K_wordOf (N : Nat) (h : hS) (x0 : Int32) : Sh h (f_K_wordOf N h x0) := by
  unfold f_K_wordOf
  refine Sh_ite ?_ ?_
  ·
    refine Sh_bn (fun v1 => ?_)
    exact Sh_some
  ·
    refine Sh_ite ?_ ?_
    ·
      refine Sh_bn (fun v2 => ?_)
      exact Sh_some
    ·
      refine Sh_ite ?_ ?_
      ·
        refine Sh_bn (fun v3 => ?_)
        exact Sh_some
      ·
        refine Sh_ite ?_ ?_
        ·
          refine Sh_bn (fun v4 => ?_)
          exact Sh_some
        ·
          refine Sh_ite ?_ ?_
          ·
            refine Sh_bn (fun v5 => ?_)
            exact Sh_some
          ·
            refine Sh_ite ?_ ?_
            ·
              refine Sh_bn (fun v6 => ?_)
              exact Sh_some
            ·
              refine Sh_ite ?_ ?_
              ·
                refine Sh_bn (fun v7 => ?_)
                exact Sh_some
              ·
                refine Sh_ite ?_ ?_
                ·
                  refine Sh_bn (fun v8 => ?_)
                  exact Sh_some
                ·
                  refine Sh_ite ?_ ?_
                  ·
                    refine Sh_bn (fun v9 => ?_)
                    exact Sh_some
                  ·
                    refine Sh_bn (fun v10 => ?_)
                    exact Sh_some
theorem sh_Reader_isTokenWord_20 (N : Nat)  : ∀ (n : Nat) (h : hS) (th : Nat) (a1 : Option Nat) (x2 : Int32), Sh h (f_Reader_isTokenWord_20 N  n h th a1 x2) := by
  intro n
  induction n with
  | zero =>
    intro h th a1 x2
    exact Sh_none
  | succ n ih =>
    intro h th a1 x2
    unfold f_Reader_isTokenWord_20
    refine Sh_cv (fun a => (sh_Str_length_8abf5 N h a )) (fun v1 h2 => ?_)
    refine Sh_ite ?_ ?_
    · exact Sh_bz Sh_some
    · refine Sh_cv (fun a => (sh_Str_charAt_5068e N h2 a x2)) (fun v3 h4 => ?_)
      refine Sh_gI (fun v5 => ?_)
      refine Sh_cv (fun a => (sh_Reader_byteAt N h4 a (v5 + x2))) (fun v6 h7 => ?_)
      refine Sh_ite ?_ ?_
      · refine Sh_bn (fun v8 => ?_)
        exact ih h7 th a1 v8
      · exact Sh_bz Sh_some
theorem sh_Reader_isTokenWord (N : Nat) (h : hS) (th : Nat) (a1 : Option Nat) : Sh h (f_Reader_isTokenWord N h th a1) := by
  unfold f_Reader_isTokenWord
  refine Sh_cv (fun a => (sh_Str_length_8abf5 N h a )) (fun v1 h2 => ?_)
  refine Sh_gI (fun v3 => ?_)
  refine Sh_gI (fun v4 => ?_)
  refine Sh_ite ?_ ?_
  · exact sh_Reader_isTokenWord_20 N  N h2 th a1 (0 : Int32)
  · exact Sh_bz Sh_some
theorem sh_Reader_kindOfToken_2 (N : Nat)  : ∀ (n : Nat) (h : hS) (th : Nat) (x1 : Int32), Sh h (f_Reader_kindOfToken_2 N  n h th x1) := by
  intro n
  induction n with
  | zero =>
    intro h th x1
    exact Sh_none
  | succ n ih =>
    intro h th x1
    unfold f_Reader_kindOfToken_2
    refine Sh_ite ?_ ?_
    · exact Sh_some
    · refine Sh_cl (sh_K_wordOf N h x1) (fun v1 h2 => ?_)
      refine Sh_cv (fun a => (sh_Reader_isTokenWord N h2 a v1)) (fun v3 h4 => ?_)
      refine Sh_ite ?_ ?_
      · refine Sh_bn (fun v5 => ?_)
        exact ih h4 th v5
      · exact Sh_some
theorem sh_Reader_kindOfToken (N : Nat) (h : hS) (th : Nat) : Sh h (f_Reader_kindOfToken N h th) := by
  unfold f_Reader_kindOfToken
  exact sh_Reader_kindOfToken_2 N  N h th (0 : Int32)
theorem sh_Reader_fail (N : Nat) (h : hS) (th : Nat) (x1 : Int32) : Sh h (f_Reader_fail N h th x1) := by
  unfold f_Reader_fail
  refine Sh_pI (fun h1 => ?_)
  refine Sh_gI (fun v2 => ?_)
  refine Sh_pI (fun h3 => ?_)
  exact Sh_some
theorem sh_K_isKind_15 (N : Nat)  : ∀  (h : hS) (y0 : Int32), Sh h (f_K_isKind_15 N   h y0) := by
  intro h y0
  unfold f_K_isKind_15
  exact Sh_bz Sh_some
theorem sh_K_isKind_14 (N : Nat)  : ∀  (h : hS) , Sh h (f_K_isKind_14 N   h ) := by
  intro h 
  unfold f_K_isKind_14
  exact sh_K_isKind_15 N   h (0 : Int32)
theorem sh_K_isKind (N : Nat) (h : hS) (x0 : Int32) : Sh h (f_K_isKind N h x0) := by
  unfold f_K_isKind
  refine Sh_ite ?_ ?_
  · exact sh_K_isKind_14 N   h 
  · refine Sh_ite ?_ ?_
    · exact sh_K_isKind_14 N   h 
    · exact sh_K_isKind_15 N   h (1 : Int32)
theorem sh_K_numbersOf_16 (N : Nat)  : ∀  (h : hS) (y0 : Int32), Sh h (f_K_numbersOf_16 N   h y0) := by
  intro h y0
  unfold f_K_numbersOf_16
  exact Sh_some
theorem sh_K_numbersOf (N : Nat) (h : hS) (x0 : Int32) : Sh h (f_K_numbersOf N h x0) := by
  unfold f_K_numbersOf
  refine Sh_cl (sh_K_isKind N h x0) (fun v1 h2 => ?_)
  refine Sh_ite ?_ ?_
  · exact sh_K_numbersOf_16 N   h2 (0 : Int32)
  · refine Sh_bn (fun v3 => ?_)
    refine Sh_aI (fun v4 => ?_)
    exact sh_K_numbersOf_16 N   h2 v4
theorem sh_Reader_isSign_25 (N : Nat)  : ∀  (h : hS) (y0 : Int32), Sh h (f_Reader_isSign_25 N   h y0) := by
  intro h y0
  unfold f_Reader_isSign_25
  exact Sh_bz Sh_some
theorem sh_Reader_isSign_24 (N : Nat)  : ∀  (h : hS) , Sh h (f_Reader_isSign_24 N   h ) := by
  intro h 
  unfold f_Reader_isSign_24
  exact sh_Reader_isSign_25 N   h (0 : Int32)
theorem sh_Reader_isSign (N : Nat) (h : hS) (th : Nat) (x1 : Int32) : Sh h (f_Reader_isSign N h th x1) := by
  unfold f_Reader_isSign
  refine Sh_gI (fun v1 => ?_)
  refine Sh_ite ?_ ?_
  · refine Sh_gI (fun v2 => ?_)
    refine Sh_cv (fun a => (sh_Reader_byteAt N h a v2)) (fun v3 h4 => ?_)
    refine Sh_ite ?_ ?_
    · exact sh_Reader_isSign_25 N   h4 (1 : Int32)
    · exact sh_Reader_isSign_24 N   h4 
  · exact sh_Reader_isSign_24 N   h 
theorem sh_Reader_numberOfToken_23 (N : Nat)  : ∀ (n : Nat) (h : hS) (th : Nat) (x1 : Int32) (x2 : Int32), Sh h (f_Reader_numberOfToken_23 N  n h th x1 x2) := by
  intro n
  induction n with
  | zero =>
    intro h th x1 x2
    exact Sh_none
  | succ n ih =>
    intro h th x1 x2
    unfold f_Reader_numberOfToken_23
    refine Sh_gI (fun v1 => ?_)
    refine Sh_ite ?_ ?_
    · exact Sh_some
    · refine Sh_cv (fun a => (sh_Reader_byteAt N h a x2)) (fun v2 h3 => ?_)
      refine Sh_bn (fun v4 => ?_)
      refine Sh_bn (fun v5 => ?_)
      exact ih h3 th v4 v5
theorem sh_Reader_numberOfToken (N : Nat) (h : hS) (th : Nat) : Sh h (f_Reader_numberOfToken N h th) := by
  unfold f_Reader_numberOfToken
  refine Sh_gI (fun v1 => ?_)
  refine Sh_gI (fun v2 => ?_)
  refine Sh_ite ?_ ?_
  · refine Sh_gI (fun v3 => ?_)
    exact sh_Reader_numberOfToken_23 N  N h th (0 : Int32) v3
  · exact Sh_some
theorem sh_Reader_readNumber_77 (N : Nat)  : ∀  (h : hS) (y0 : Int32), Sh h (f_Reader_readNumber_77 N   h y0) := by
  intro h y0
  unfold f_Reader_readNumber_77
  exact Sh_some
theorem sh_Reader_readNumber_31 (N : Nat)  : ∀  (h : hS) (th : Nat) (x2 : Int32) (x3 : Int32), Sh h (f_Reader_readNumber_31 N   h th x2 x3) := by
  intro h th x2 x3
  unfold f_Reader_readNumber_31
  refine Sh_gI (fun v1 => ?_)
  refine Sh_ite ?_ ?_
  · refine Sh_cv (fun a => (sh_Reader_numberOfToken N h a )) (fun v2 h3 => ?_)
    refine Sh_ite ?_ ?_
    · refine Sh_ite ?_ ?_
      · exact sh_Reader_readNumber_77 N   h3 v2
      · exact sh_Reader_readNumber_77 N   h3 (-v2)
    · refine Sh_cv (fun a => (sh_Reader_fail N h3 a (2 : Int32))) (fun v4 h5 => ?_)
      exact Sh_some
  · refine Sh_cv (fun a => (sh_Reader_fail N h a (1 : Int32))) (fun v6 h7 => ?_)
    exact Sh_some
theorem sh_Reader_readNumber_22 (N : Nat)  : ∀  (h : hS) (th : Nat) (x2 : Int32) (y0 : Int32), Sh h (f_Reader_readNumber_22 N   h th x2 y0) := by
  intro h th x2 y0
  unfold f_Reader_readNumber_22
  refine Sh_ite ?_ ?_
  · exact sh_Reader_readNumber_31 N   h th x2 y0
  · refine Sh_cv (fun a => (sh_Reader_nextToken N h a )) (fun v1 h2 => ?_)
    exact sh_Reader_readNumber_31 N   h2 th x2 y0
theorem sh_Reader_readNumber_21 (N : Nat)  : ∀  (h : hS) (th : Nat) (x2 : Int32), Sh h (f_Reader_readNumber_21 N   h th x2) := by
  intro h th x2
  unfold f_Reader_readNumber_21
  exact sh_Reader_readNumber_22 N   h th x2 (0 : Int32)
theorem sh_Reader_readNumber (N : Nat) (h : hS) (th : Nat) (x1 : Int32) (x2 : Int32) : Sh h (f_Reader_readNumber N h th x1 x2) := by
  unfold f_Reader_readNumber
  refine Sh_cv (fun a => (sh_Reader_nextToken N h a )) (fun v1 h2 => ?_)
  refine Sh_ite ?_ ?_
  · exact sh_Reader_readNumber_21 N   h2 th x2
  · refine Sh_cv (fun a => (sh_Reader_isSign N h2 a (45 : Int32))) (fun v3 h4 => ?_)
    refine Sh_ite ?_ ?_
    · exact sh_Reader_readNumber_21 N   h4 th x2
    · exact sh_Reader_readNumber_22 N   h4 th x2 (1 : Int32)
theorem sh_Reader_readFirst_58 (N : Nat)  : ∀  (h : hS) (x2 : Int32), Sh h (f_Reader_readFirst_58 N   h x2) := by
  intro h x2
  unfold f_Reader_readFirst_58
  exact Sh_some
theorem sh_Reader_readFirst_23 (N : Nat)  : ∀  (h : hS) (th : Nat) (x1 : Int32) (y0 : Option Nat) (y1 : Int32), Sh h (f_Reader_readFirst_23 N   h th x1 y0 y1) := by
  intro h th x1 y0 y1
  unfold f_Reader_readFirst_23
  refine Sh_bn (fun v1 => ?_)
  refine Sh_aI (fun v2 => ?_)
  refine Sh_cv (fun a => (sh_Reader_readNumber N h a y1 v2)) (fun v3 h4 => ?_)
  refine Sh_gI (fun v5 => ?_)
  refine Sh_ite ?_ ?_
  · refine Sh_ite ?_ ?_
    · refine Sh_gI (fun v6 => ?_)
      refine Sh_ite ?_ ?_
      · refine Sh_cv (fun a => (sh_Reader_fail N h4 a (3 : Int32))) (fun v7 h8 => ?_)
        exact sh_Reader_readFirst_58 N   h8 v3
      · exact sh_Reader_readFirst_58 N   h4 v3
    · exact sh_Reader_readFirst_58 N   h4 v3
  · exact sh_Reader_readFirst_58 N   h4 v3
theorem sh_Reader_readFirst (N : Nat) (h : hS) (th : Nat) (x1 : Int32) : Sh h (f_Reader_readFirst N h th x1) := by
  unfold f_Reader_readFirst
  refine Sh_cl (sh_K_numbersOf N h x1) (fun v1 h2 => ?_)
  refine Sh_ite ?_ ?_
  · exact Sh_some
  · refine Sh_bn (fun v3 => ?_)
    refine Sh_aI (fun v4 => ?_)
    refine Sh_ite ?_ ?_
    · exact sh_Reader_readFirst_23 N   h2 th x1 (some th) (0 : Int32)
    · exact sh_Reader_readFirst_23 N   h2 th x1 (some th) (1 : Int32)
theorem sh_Reader_readClause_114 (N : Nat)  : ∀  (h : hS) (th : Nat) (y0 : Option Nat) (y1 : Int32) (y2 : Int32), Sh h (f_Reader_readClause_114 N   h th y0 y1 y2) := by
  intro h th y0 y1 y2
  unfold f_Reader_readClause_114
  refine Sh_uI (fun h1 => ?_)
  refine Sh_gI (fun v2 => ?_)
  refine Sh_ite ?_ ?_
  · refine Sh_cv (fun a => (sh_Reader_nextToken N h1 a )) (fun v3 h4 => ?_)
    refine Sh_cv (fun a => (sh_Reader_isSign N h4 a (59 : Int32))) (fun v5 h6 => ?_)
    refine Sh_ite ?_ ?_
    · refine Sh_cv (fun a => (sh_Reader_fail N h6 a (1 : Int32))) (fun v9 h10 => ?_)
      exact Sh_some
    · refine Sh_gI (fun v7 => ?_)
      refine Sh_pI (fun h8 => ?_)
      exact Sh_some
  · exact Sh_some
theorem sh_Reader_readClause_113 (N : Nat)  : ∀  (h : hS) (th : Nat) (y0 : Option Nat) (y1 : Int32), Sh h (f_Reader_readClause_113 N   h th y0 y1) := by
  intro h th y0 y1
  unfold f_Reader_readClause_113
  exact sh_Reader_readClause_114 N   h th y0 y1 (0 : Int32)
theorem sh_Reader_readClause_16 (N : Nat)  : ∀  (h : hS) (th : Nat) (y0 : Int32), Sh h (f_Reader_readClause_16 N   h th y0) := by
  intro h th y0
  unfold f_Reader_readClause_16
  refine Sh_ite ?_ ?_
  · refine Sh_cv (fun a => (sh_Reader_fail N h a (1 : Int32))) (fun v23 h24 => ?_)
    exact Sh_some
  · refine Sh_gI (fun v1 => ?_)
    refine Sh_ite ?_ ?_
    · refine Sh_gR (fun v2 => ?_)
      refine Sh_gI (fun v3 => ?_)
      refine Sh_gI (fun v4 => ?_)
      refine Sh_uI (fun h5 => ?_)
      refine Sh_gR (fun v6 => ?_)
      refine Sh_gI (fun v7 => ?_)
      refine Sh_uI (fun h8 => ?_)
      refine Sh_gR (fun v9 => ?_)
      refine Sh_gI (fun v10 => ?_)
      refine Sh_cv (fun a => (sh_Reader_readFirst N h8 a y0)) (fun v11 h12 => ?_)
      refine Sh_uI (fun h13 => ?_)
      refine Sh_gR (fun v14 => ?_)
      refine Sh_gI (fun v15 => ?_)
      refine Sh_cl (sh_K_numbersOf N h13 y0) (fun v16 h17 => ?_)
      refine Sh_ite ?_ ?_
      · refine Sh_gI (fun v18 => ?_)
        refine Sh_ite ?_ ?_
        · refine Sh_cv (fun a => (sh_Reader_readNumber N h17 a (0 : Int32) (99 : Int32))) (fun v19 h20 => ?_)
          exact sh_Reader_readClause_114 N   h20 th v14 v15 v19
        · exact sh_Reader_readClause_113 N   h17 th v14 v15
      · exact sh_Reader_readClause_113 N   h17 th v14 v15
    · refine Sh_cv (fun a => (sh_Reader_fail N h a (3 : Int32))) (fun v21 h22 => ?_)
      exact Sh_some
theorem sh_Reader_readClause (N : Nat) (h : hS) (th : Nat) : Sh h (f_Reader_readClause N h th) := by
  unfold f_Reader_readClause
  refine Sh_gI (fun v1 => ?_)
  refine Sh_ite ?_ ?_
  · refine Sh_cv (fun a => (sh_Reader_kindOfToken N h a )) (fun v2 h3 => ?_)
    exact sh_Reader_readClause_16 N   h3 th v2
  · exact sh_Reader_readClause_16 N   h th (-1 : Int32)
theorem sh_Reader_read_79 (N : Nat)  : ∀  (h : hS) , Sh h (f_Reader_read_79 N   h ) := by
  intro h 
  unfold f_Reader_read_79
  exact Sh_some
theorem sh_Reader_read_43 (N : Nat)  : ∀ (n : Nat) (h : hS) (th : Nat) (x4 : Int32), Sh h (f_Reader_read_43 N  n h th x4) := by
  intro n
  induction n with
  | zero =>
    intro h th x4
    exact Sh_none
  | succ n ih =>
    intro h th x4
    unfold f_Reader_read_43
    refine Sh_ite ?_ ?_
    · exact sh_Reader_read_79 N   h 
    · refine Sh_gI (fun v1 => ?_)
      refine Sh_ite ?_ ?_
      · refine Sh_cv (fun a => (sh_Reader_nextToken N h a )) (fun v2 h3 => ?_)
        refine Sh_gI (fun v4 => ?_)
        refine Sh_ite ?_ ?_
        · exact Sh_some
        · refine Sh_cv (fun a => (sh_Reader_readClause N h3 a )) (fun v5 h6 => ?_)
          refine Sh_bn (fun v7 => ?_)
          exact ih h6 th v7
      · exact sh_Reader_read_79 N   h 
theorem sh_Reader_read (N : Nat) (h : hS) (th : Nat) (a1 : Option Nat) (x2 : Int32) (x3 : Int32) : Sh h (f_Reader_read N h th a1 x2 x3) := by
  unfold f_Reader_read
  refine Sh_pR (fun h1 => ?_)
  refine Sh_lnB (fun v2 => ?_)
  refine Sh_pI (fun h3 => ?_)
  refine Sh_pI (fun h4 => ?_)
  refine Sh_pI (fun h5 => ?_)
  refine Sh_pI (fun h6 => ?_)
  refine Sh_pI (fun h7 => ?_)
  refine Sh_pI (fun h8 => ?_)
  exact sh_Reader_read_43 N  N h8 th (0 : Int32)
theorem mo_Shelf_init_8 (N : Nat)  : ∀  (h : hS) (th : Nat) (y0 : Option Nat) (y1 : Option Nat), Mo h (f_Shelf_init_8 N   h th y0 y1) := by
  intro h th y0 y1
  unfold f_Shelf_init_8
  refine Mo_pR (fun h1 => ?_)
  refine Mo_pI (fun h2 => ?_)
  refine Mo_pR (fun h3 => ?_)
  exact Mo_some
theorem mo_Shelf_init (N : Nat) (h : hS) (th : Nat) : Mo h (f_Shelf_init N h th) := by
  unfold f_Shelf_init
  refine Mo_nwA (fun q1 h2 => ?_)
  exact mo_Shelf_init_8 N   h2 th (some th) (some q1)
theorem sh_Arr_fill_d0a16_6 (N : Nat)  : ∀ (n : Nat) (h : hS) (a0 : Option Nat) (x1 : Int64) (x3 : Int32) (x4 : Int32), Sh h (f_Arr_fill_d0a16_6 N  n h a0 x1 x3 x4) := by
  intro n
  induction n with
  | zero =>
    intro h a0 x1 x3 x4
    exact Sh_none
  | succ n ih =>
    intro h a0 x1 x3 x4
    unfold f_Arr_fill_d0a16_6
    refine Sh_ite ?_ ?_
    · exact Sh_some
    · refine Sh_uJ (fun h1 => ?_)
      refine Sh_bn (fun v2 => ?_)
      exact ih h1 a0 x1 v2 x4
theorem sh_Arr_fill_d0a16 (N : Nat) (h : hS) (a0 : Option Nat) (x1 : Int64) : Sh h (f_Arr_fill_d0a16 N h a0 x1) := by
  unfold f_Arr_fill_d0a16
  refine Sh_lnA (fun v1 => ?_)
  exact sh_Arr_fill_d0a16_6 N  N h a0 x1 (0 : Int32) v1
theorem sh_Shelf_writeUnits_46 (N : Nat) {rc2 : hS → Nat → Int32 → Int32 → Int32 → Option (Unit × hS)} (hsh2 : ∀ (h : hS) (th : Nat) (x1 : Int32) (x2 : Int32) (x3 : Int32), Sh h (rc2 h th x1 x2 x3)) : ∀  (h : hS) (th : Nat) (x1 : Int32) (x2 : Int32) (x3 : Int32), Sh h (f_Shelf_writeUnits_46 N rc2  h th x1 x2 x3) := by
  intro h th x1 x2 x3
  unfold f_Shelf_writeUnits_46
  refine Sh_bn (fun v1 => ?_)
  exact hsh2 h th x1 x2 v1
theorem sh_Shelf_writeUnits_2 (N : Nat)  : ∀ (n : Nat) (h : hS) (th : Nat) (x1 : Int32) (x2 : Int32) (x3 : Int32), Sh h (f_Shelf_writeUnits_2 N  n h th x1 x2 x3) := by
  intro n
  induction n with
  | zero =>
    intro h th x1 x2 x3
    exact Sh_none
  | succ n ih =>
    intro h th x1 x2 x3
    unfold f_Shelf_writeUnits_2
    refine Sh_ite ?_ ?_
    · exact Sh_some
    · refine Sh_dv ?_
      refine Sh_bn (fun v1 => ?_)
      refine Sh_ite ?_ ?_
      · exact sh_Shelf_writeUnits_46 N ih  h th x1 x2 x3
      · refine Sh_gR (fun v2 => ?_)
        refine Sh_lnA (fun v3 => ?_)
        refine Sh_ite ?_ ?_
        · exact sh_Shelf_writeUnits_46 N ih  h th x1 x2 x3
        · refine Sh_gR (fun v4 => ?_)
          refine Sh_aJ (kd := 0) (fun v5 => ?_)
          refine Sh_dv ?_
          refine Sh_uJ (fun h6 => ?_)
          exact sh_Shelf_writeUnits_46 N ih  h6 th x1 x2 x3
theorem sh_Shelf_writeUnits (N : Nat) (h : hS) (th : Nat) (x1 : Int32) (x2 : Int32) : Sh h (f_Shelf_writeUnits N h th x1 x2) := by
  unfold f_Shelf_writeUnits
  exact sh_Shelf_writeUnits_2 N  N h th x1 x2 x1
set_option maxRecDepth 20000 in
set_option maxHeartbeats 4000000 in
theorem k_Keepsake_init (l : Launch) (D : va_G) (cy : cyT) (z : Nat) (N : Nat) (h : hS) (th : Nat) (a1 : Option Nat) (a2 : Option Nat) (a3 : Option Nat) (r : Unit) (g : hS) (hE : f_Keepsake_init N h th a1 a2 a3 = some (r, g)) : ct l yX3_init (Cond.code yX3_init cX3_init 4 (none) :: GW) { frames := 1, cells := 0, slots := 0, locals := 44 } D cy z h [.ref th, va_rf a1, va_rf a2, va_rf a3] (rV r) g := by
  refine Met.ofW (cc := cX3_init) (maxL := 4) (ret := none) (by decide) rfl ?_
  intro p e s m args below meth c s₁ B hml hv
  obtain ⟨rfl, hw⟩ := hv
  have hni : meth.name = "<init>" := (name_of_methodNamed B.named B.method).1
  have C : MX p s m ([.ref th, va_rf a1, va_rf a2, va_rf a3] : List Value).toArray meth c cX3_init 4 (none) RX3 (Cond.code yX3_init cX3_init 4 (none) :: GW) := ⟨B.exec, B.bytes, B.returns, hml, findClass_of_methodNamed B.named, atoms_spec (ws := Cond.code yX3_init cX3_init 4 (none) :: GW) B.pre, B.notSynchronized⟩
  obtain ⟨hx, hb, hr, hml, hown, hts, hlk⟩ := id C
  have w := wd_of hw
  obtain ⟨ls, hen, hl⟩ : ∃ ls : Array Slot, entryFrame m ([.ref th, va_rf a1, va_rf a2, va_rf a3] : List Value).toArray 4 = F0 m 0 ls [] ∧ lv_has ls 4 [(0, .ref th), (1, va_rf a1), (2, va_rf a2), (3, va_rf a3)] := by
    cases a1 <;> cases a2 <;> cases a3 <;> exact ⟨_, lg_entry_eq _ _ _, lv_entry _ (Nat.le_of_ble_eq_true rfl)⟩
  rw [hen]
  unfold f_Keepsake_init at hE
  refine lv_aload_n hx hb dX3_init_0 rfl (lv_at hl 0 rfl) ?_
  refine w_oinit (a := th) C hl.1 (List.mem_cons_of_mem _ gw_18_20) (List.mem_cons_of_mem _ gw_1_12) (List.mem_cons_of_mem _ gw_1_13) (Nat.le_of_ble_eq_true rfl) (Nat.le_of_ble_eq_true rfl) dX3_init_1 ?_
  refine lv_aload_n hx hb dX3_init_4 rfl (lv_at hl 0 rfl) ?_
  refine w_aload_n C dX3_init_5 rfl (lv_at hl 1 rfl) ?_
  refine w_gI (r := a1) (ci := 3) (k := 0) C w rfl (by decide) (GF_wsX20 _) (by decide) rfl (List.mem_cons_of_mem _ gw_18_21) rfl dX3_init_6 hE (fun v1 e1 => ?_)
  refine w_pIF (r := some th) (ci := 4) (k := 0) C w rfl (by decide) (by unfold roK; omega) (GF_wsX30 _) tyX3 tyX3_ok nmX3 (by decide) rfl (List.mem_cons_of_mem _ gw_18_22) rfl rfl hni rfl (tyX3_ok 0 (by decide)) dX3_init_9 e1 (fun h2 H locs w hsh2 e2 => ?_)
  refine lv_aload_n hx hb dX3_init_12 rfl (lv_at hl 0 rfl) ?_
  refine w_aload_n C dX3_init_13 rfl (lv_at hl 1 rfl) ?_
  refine lv_iconst (v := 0) hx hb dX3_init_14 (by decide) ?_
  refine w_VI GW_good (n := 1) (F := 0) (Lc := 0) (o := a1) (av := [.int (0 : Int32)]) (rest := [.ref th]) C w rfl (by decide) (fun a r g hf => k_Curve_placeOf l D cy z N h2 a (0 : Int32) r g hf) gw_18_2 gw_17_2 gw_17_3 gw_2_22 gw_17_4 (by decide +kernel) ⟨Nat.le_of_ble_eq_true rfl, Nat.le_of_ble_eq_true rfl⟩ rfl hl.1 rfl (Nat.le_of_ble_eq_true rfl) dX3_init_15 (fun a => (sh_Curve_placeOf N h2 a (0 : Int32))) ⟨by decide, by decide⟩ e2 (fun v3 h4 H locs w hsh4 e3 => ?_)
  refine w_pIF (r := some th) (ci := 4) (k := 1) C w rfl (by decide) (by unfold roK; omega) (GF_wsX30 _) tyX3 tyX3_ok nmX3 (by decide) rfl (List.mem_cons_of_mem _ gw_17_21) rfl rfl hni rfl (tyX3_ok 1 (by decide)) dX3_init_18 e3 (fun h5 H locs w hsh5 e4 => ?_)
  refine lv_aload_n hx hb dX3_init_21 rfl (lv_at hl 0 rfl) ?_
  refine w_aload_n C dX3_init_22 rfl (lv_at hl 1 rfl) ?_
  refine w_gI (r := a1) (ci := 3) (k := 2) C w rfl (by decide) (GF_wsX20 _) (by decide) rfl (List.mem_cons_of_mem _ gw_17_23) rfl dX3_init_23 e4 (fun v6 e5 => ?_)
  refine w_pIF (r := some th) (ci := 4) (k := 2) C w rfl (by decide) (by unfold roK; omega) (GF_wsX30 _) tyX3 tyX3_ok nmX3 (by decide) rfl (List.mem_cons_of_mem _ gw_17_22) rfl rfl hni rfl (tyX3_ok 2 (by decide)) dX3_init_26 e5 (fun h7 H locs w hsh7 e6 => ?_)
  refine lv_aload_n hx hb dX3_init_29 rfl (lv_at hl 0 rfl) ?_
  refine w_aload_n C dX3_init_30 rfl (lv_at hl 1 rfl) ?_
  refine w_gJ (r := a1) (ci := 3) (k := 4) C w rfl (by decide) (GF_wsX20 _) (by decide) rfl (List.mem_cons_of_mem _ gw_18_1) rfl dX3_init_31 e6 (fun v8 e7 => ?_)
  refine w_pJF (r := some th) (ci := 4) (k := 3) C w rfl (by decide) (by unfold roK; omega) (GF_wsX30 _) tyX3 tyX3_ok nmX3 (by decide) rfl (List.mem_cons_of_mem _ gw_18_0) rfl rfl hni rfl (tyX3_ok 3 (by decide)) dX3_init_34 e7 (fun h9 H locs w hsh9 e8 => ?_)
  refine lv_aload_n hx hb dX3_init_37 rfl (lv_at hl 0 rfl) ?_
  refine w_aload_n C dX3_init_38 rfl (lv_at hl 2 rfl) ?_
  refine w_pRF (r := some th) (ci := 4) (k := 4) (v := a2) (Or.inr ⟨_, rfl⟩) C w rfl (by decide) (by unfold roK; omega) (GF_wsX30 _) tyX3 tyX3_ok nmX3 (by decide) rfl (List.mem_cons_of_mem _ gw_18_23) rfl rfl hni rfl (tyX3_ok 4 (by decide)) dX3_init_39 e8 (fun h10 H locs w hsh10 e9 => ?_)
  refine lv_aload_n hx hb dX3_init_42 rfl (lv_at hl 0 rfl) ?_
  refine w_aload_n C dX3_init_43 rfl (lv_at hl 3 rfl) ?_
  refine w_pRF (r := some th) (ci := 4) (k := 5) (v := a3) (Or.inl ⟨_, rfl⟩) C w rfl (by decide) (by unfold roK; omega) (GF_wsX30 _) tyX3 tyX3_ok nmX3 (by decide) rfl (List.mem_cons_of_mem _ gw_19_0) rfl rfl hni rfl (tyX3_ok 5 (by decide)) dX3_init_44 e9 (fun h11 H locs w hsh11 e10 => ?_)
  exact w_vret C w e10 dX3_init_47
set_option maxRecDepth 20000 in
set_option maxHeartbeats 4000000 in
theorem b_Keepsake_isBeside_40 {p : Program} {l : Launch} {e : Env} {s : State} {m : MethodId} {args : Array Value} {below : List Frame} {meth : Method} {c : Code} {D : va_G} {cy : cyT} {z : Nat} (C : MX p s m args meth c cX3_isBeside 2 ((some .boolean)) RX3 (Cond.code yX3_isBeside cX3_isBeside 2 ((some .boolean)) :: GW)) (N : Nat) {r : Int32} {g : hS}  : ∀  (h : hS) (y0 : Int32) (H : Heap) (locs : List Loc) (ls : Array Slot), wd D cy z s 0 h H locs → lv_has ls 2 [] → f_Keepsake_isBeside_40 N   h y0 = some (r, g) → W p l e { frames := 1, cells := 0, slots := 0, locals := 21 } s m args below meth c H locs 0 0 (MQ below (eQ D cy z (rI r) g) args s 0 0 (fun q => z ≤ q)) (F0 m 40 ls [.int y0]) := by
  obtain ⟨hx, hb, hr, hml, hown, hts, hlk⟩ := id C
  intro  h y0 H locs ls w  hl hE
  unfold f_Keepsake_isBeside_40 at hE
  exact w_zret C w hE dX3_isBeside_40
set_option maxRecDepth 20000 in
set_option maxHeartbeats 4000000 in
theorem b_Keepsake_isBeside_39 {p : Program} {l : Launch} {e : Env} {s : State} {m : MethodId} {args : Array Value} {below : List Frame} {meth : Method} {c : Code} {D : va_G} {cy : cyT} {z : Nat} (C : MX p s m args meth c cX3_isBeside 2 ((some .boolean)) RX3 (Cond.code yX3_isBeside cX3_isBeside 2 ((some .boolean)) :: GW)) (N : Nat) {r : Int32} {g : hS}  : ∀  (h : hS)  (H : Heap) (locs : List Loc) (ls : Array Slot), wd D cy z s 0 h H locs → lv_has ls 2 [] → f_Keepsake_isBeside_39 N   h  = some (r, g) → W p l e { frames := 1, cells := 0, slots := 0, locals := 21 } s m args below meth c H locs 0 0 (MQ below (eQ D cy z (rI r) g) args s 0 0 (fun q => z ≤ q)) (F0 m 39 ls []) := by
  obtain ⟨hx, hb, hr, hml, hown, hts, hlk⟩ := id C
  intro  h  H locs ls w  hl hE
  unfold f_Keepsake_isBeside_39 at hE
  refine lv_iconst (v := 0) hx hb dX3_isBeside_39 (by decide) ?_
  exact b_Keepsake_isBeside_40 C N     h (0 : Int32) _ _ ls w  (lv_sub hl [] rfl) hE
set_option maxRecDepth 20000 in
set_option maxHeartbeats 4000000 in
theorem k_Keepsake_isBeside (l : Launch) (D : va_G) (cy : cyT) (z : Nat) (N : Nat) (h : hS) (th : Nat) (a1 : Option Nat) (r : Int32) (g : hS) (hE : f_Keepsake_isBeside N h th a1 = some (r, g)) : ct l yX3_isBeside (Cond.code yX3_isBeside cX3_isBeside 2 ((some .boolean)) :: GW) { frames := 1, cells := 0, slots := 0, locals := 21 } D cy z h [.ref th, va_rf a1] (rI r) g := by
  refine Met.ofW (cc := cX3_isBeside) (maxL := 2) (ret := (some .boolean)) (by decide) rfl ?_
  intro p e s m args below meth c s₁ B hml hv
  obtain ⟨rfl, hw⟩ := hv
  have C : MX p s m ([.ref th, va_rf a1] : List Value).toArray meth c cX3_isBeside 2 ((some .boolean)) RX3 (Cond.code yX3_isBeside cX3_isBeside 2 ((some .boolean)) :: GW) := ⟨B.exec, B.bytes, B.returns, hml, findClass_of_methodNamed B.named, atoms_spec (ws := Cond.code yX3_isBeside cX3_isBeside 2 ((some .boolean)) :: GW) B.pre, B.notSynchronized⟩
  obtain ⟨hx, hb, hr, hml, hown, hts, hlk⟩ := id C
  have w := wd_of hw
  obtain ⟨ls, hen, hl⟩ : ∃ ls : Array Slot, entryFrame m ([.ref th, va_rf a1] : List Value).toArray 2 = F0 m 0 ls [] ∧ lv_has ls 2 [(0, .ref th), (1, va_rf a1)] := by
    cases a1 <;> exact ⟨_, lg_entry_eq _ _ _, lv_entry _ (Nat.le_of_ble_eq_true rfl)⟩
  rw [hen]
  unfold f_Keepsake_isBeside at hE
  refine lv_aload_n hx hb dX3_isBeside_0 rfl (lv_at hl 0 rfl) ?_
  refine w_gI (r := some th) (ci := 4) (k := 1) C w rfl (by decide) (GF_wsX30 _) (by decide) rfl (List.mem_cons_of_mem _ gw_17_21) rfl dX3_isBeside_1 hE (fun v1 e1 => ?_)
  refine w_aload_n C dX3_isBeside_4 rfl (lv_at hl 1 rfl) ?_
  refine lv_iconst (v := 0) hx hb dX3_isBeside_5 (by decide) ?_
  refine w_VI GW_good (n := 1) (F := 0) (Lc := 0) (o := a1) (av := [.int (0 : Int32)]) (rest := [.int v1]) C w rfl (by decide) (fun a r g hf => k_Curve_placeOf l D cy z N h a (0 : Int32) r g hf) gw_18_2 gw_17_2 gw_17_3 gw_2_22 gw_17_4 (by decide +kernel) ⟨Nat.le_of_ble_eq_true rfl, Nat.le_of_ble_eq_true rfl⟩ rfl hl.1 rfl (Nat.le_of_ble_eq_true rfl) dX3_isBeside_6 (fun a => (sh_Curve_placeOf N h a (0 : Int32))) ⟨by decide, by decide⟩ e1 (fun v2 h3 H locs w hsh3 e2 => ?_)
  refine w_icmp_ne (tgt := 39) C dX3_isBeside_9 (by decide) e2 (fun hc e3 => ?_) (fun hc e3 => ?_)
  · exact b_Keepsake_isBeside_39 C N     h3  _ _ ls w  (lv_sub hl [] rfl) e3
  · refine lv_aload_n hx hb dX3_isBeside_12 rfl (lv_at hl 0 rfl) ?_
    refine w_gI (r := some th) (ci := 4) (k := 2) C w rfl (by decide) (GF_wsX30 _) (by decide) rfl (List.mem_cons_of_mem _ gw_17_22) rfl dX3_isBeside_13 e3 (fun v4 e4 => ?_)
    refine w_aload_n C dX3_isBeside_16 rfl (lv_at hl 1 rfl) ?_
    refine w_gI (r := a1) (ci := 3) (k := 2) C w rfl (by decide) (GF_wsX20 _) (by decide) rfl (List.mem_cons_of_mem _ gw_17_23) rfl dX3_isBeside_17 e4 (fun v5 e5 => ?_)
    refine w_icmp_ne (tgt := 39) C dX3_isBeside_20 (by decide) e5 (fun hc e6 => ?_) (fun hc e6 => ?_)
    · exact b_Keepsake_isBeside_39 C N     h3  _ _ ls w  (lv_sub hl [] rfl) e6
    · refine lv_aload_n hx hb dX3_isBeside_23 rfl (lv_at hl 0 rfl) ?_
      refine w_gJ (r := some th) (ci := 4) (k := 3) C w rfl (by decide) (GF_wsX30 _) (by decide) rfl (List.mem_cons_of_mem _ gw_18_0) rfl dX3_isBeside_24 e6 (fun v6 e7 => ?_)
      refine w_aload_n C dX3_isBeside_27 rfl (lv_at hl 1 rfl) ?_
      refine w_gJ (r := a1) (ci := 3) (k := 4) C w rfl (by decide) (GF_wsX20 _) (by decide) rfl (List.mem_cons_of_mem _ gw_18_1) rfl dX3_isBeside_28 e7 (fun v7 e8 => ?_)
      refine W.lcmp hx hb dX3_isBeside_31 ?_
      refine w_if_ne (tgt := 39) C dX3_isBeside_32 (by decide) e8 (fun hc e9 => ?_) (fun hc e9 => ?_)
      · exact b_Keepsake_isBeside_39 C N     h3  _ _ ls w  (lv_sub hl [] rfl) e9
      · refine lv_iconst (v := 1) hx hb dX3_isBeside_35 (by decide) ?_
        refine lv_goto (tgt := 40) hx hb dX3_isBeside_36 (by decide) ?_
        exact b_Keepsake_isBeside_40 C N     h3 (1 : Int32) _ _ ls w  (lv_sub hl [] rfl) e9
set_option maxRecDepth 20000 in
set_option maxHeartbeats 4000000 in
theorem b_Reader_init_40 {p : Program} {l : Launch} {e : Env} {s : State} {m : MethodId} {args : Array Value} {below : List Frame} {meth : Method} {c : Code} {D : va_G} {cy : cyT} {z : Nat} (C : MX p s m args meth c cX4_init 1 (none) RX4 (Cond.code yX4_init cX4_init 1 (none) :: GW)) (hni : meth.name = "<init>") (N : Nat) (n0 s0 : Nat) (hn0 : s.heap.size = n0) {r : Unit} {g : hS}  : ∀  (cells slots : Nat) (h : hS) (y0 : Option Nat) (y1 : Option Nat) (H : Heap) (locs : List Loc) (ls : Array Slot), wd D cy z s cells h H locs → h_s h = s0 + slots → lv_has ls 1 [] → f_Reader_init_40 N   h y0 y1 = some (r, g) → W p l e { frames := 1, cells := h_x g - n0, slots := h_s g - s0, locals := 44 } s m args below meth c H locs cells slots (MQ below (eQ D cy z (rV r) g) args s (h_x g - n0) (h_s g - s0) (fun q => z ≤ q)) (F0 m 40 ls [va_rf y1, va_rf y0]) := by
  obtain ⟨hx, hb, hr, hml, hown, hts, hlk⟩ := id C
  intro cells slots h y0 y1 H locs ls w hsl hl hE
  have hcc : cells ≤ h_x g - n0 ∧ slots ≤ h_s g - s0 := by
    have q1 := mo_Reader_init_40 N  h y0 y1 _ _ hE
    have q2 := wd_x w
    have q3 := q1.1
    have q4 := q1.2.1
    omega
  unfold f_Reader_init_40 at hE
  refine w_pR (r := y0) (ci := 5) (k := 7) (v := y1) (Or.inr ⟨_, rfl⟩) C w rfl (by decide) (by unfold roK; omega) (GF_wsX40 _) tyX4 tyX4_ok nmX4 (by decide) rfl (List.mem_cons_of_mem _ gw_3_21) rfl rfl (tyX4_ok 7 (by decide)) dX4_init_40 hE (fun h1 H locs w hsh1 e1 => ?_)
  have hsl := hsh1.2.2.2.trans hsl
  refine W.widen (k := h_x g - n0) (n := h_s g - s0) hcc.1 hcc.2 ?_
  exact w_vret C w e1 dX4_init_43
set_option maxRecDepth 20000 in
set_option maxHeartbeats 4000000 in
theorem b_Reader_init_33 {p : Program} {l : Launch} {e : Env} {s : State} {m : MethodId} {args : Array Value} {below : List Frame} {meth : Method} {c : Code} {D : va_G} {cy : cyT} {z : Nat} (C : MX p s m args meth c cX4_init 1 (none) RX4 (Cond.code yX4_init cX4_init 1 (none) :: GW)) (hni : meth.name = "<init>") (N : Nat) (n0 s0 : Nat) (hn0 : s.heap.size = n0) {r : Unit} {g : hS}  : ∀  (cells slots : Nat) (h : hS) (th : Nat) (y0 : Option Nat) (y1 : Option Nat) (H : Heap) (locs : List Loc) (ls : Array Slot), wd D cy z s cells h H locs → h_s h = s0 + slots → lv_has ls 1 [(0, .ref th)] → f_Reader_init_33 N   h th y0 y1 = some (r, g) → W p l e { frames := 1, cells := h_x g - n0, slots := h_s g - s0, locals := 44 } s m args below meth c H locs cells slots (MQ below (eQ D cy z (rV r) g) args s (h_x g - n0) (h_s g - s0) (fun q => z ≤ q)) (F0 m 33 ls [va_rf y1, va_rf y0]) := by
  obtain ⟨hx, hb, hr, hml, hown, hts, hlk⟩ := id C
  intro cells slots h th y0 y1 H locs ls w hsl hl hE
  have hcc : cells ≤ h_x g - n0 ∧ slots ≤ h_s g - s0 := by
    have q1 := mo_Reader_init_33 N  h th y0 y1 _ _ hE
    have q2 := wd_x w
    have q3 := q1.1
    have q4 := q1.2.1
    omega
  unfold f_Reader_init_33 at hE
  refine w_pRF (r := y0) (ci := 5) (k := 3) (v := y1) (Or.inr ⟨_, rfl⟩) C w rfl (by decide) (by unfold roK; omega) (GF_wsX40 _) tyX4 tyX4_ok nmX4 (by decide) rfl (List.mem_cons_of_mem _ gw_3_20) rfl rfl hni rfl (tyX4_ok 3 (by decide)) dX4_init_33 hE (fun h1 H locs w hsh1 e1 => ?_)
  have hsl := hsh1.2.2.2.trans hsl
  refine lv_aload_n hx hb dX4_init_36 rfl (lv_at hl 0 rfl) ?_
  refine lv_iconst (v := 0) hx hb dX4_init_37 (by decide) ?_
  have hm := mo_Reader_init_40 N   (nw h1 52 (0 : Int32).toNatClampNeg (0 : Int32).toNatClampNeg) (some th) (some (h_x h1)) _ _ (nwA_some e1).2
  have hm1 := hm.1
  have hm2 := hm.2.1
  rw [h_x_nw] at hm1
  rw [h_s_nw] at hm2
  have hwx := wd_x w
  refine w_nwB C w (List.mem_cons_of_mem _ gw_1_14) dX4_init_38 e1 (by show cells + 1 ≤ h_x g - n0; omega) (by show slots + _ ≤ h_s g - s0; omega) (fun H w e2 => ?_)
  exact b_Reader_init_40 C hni N n0 s0 hn0   (cells + 1) (slots + (0 : Int32).toNatClampNeg) (nw h1 52 (0 : Int32).toNatClampNeg (0 : Int32).toNatClampNeg) (some th) (some (h_x h1)) _ _ ls w (by first | (rw [h_s_nw, hsl]; done) | (rw [h_s_nw, hsl]; omega)) (lv_sub hl [] rfl) e2
set_option maxRecDepth 20000 in
set_option maxHeartbeats 4000000 in
theorem b_Reader_init_25 {p : Program} {l : Launch} {e : Env} {s : State} {m : MethodId} {args : Array Value} {below : List Frame} {meth : Method} {c : Code} {D : va_G} {cy : cyT} {z : Nat} (C : MX p s m args meth c cX4_init 1 (none) RX4 (Cond.code yX4_init cX4_init 1 (none) :: GW)) (hni : meth.name = "<init>") (N : Nat) (n0 s0 : Nat) (hn0 : s.heap.size = n0) {r : Unit} {g : hS}  : ∀  (cells slots : Nat) (h : hS) (th : Nat) (y0 : Option Nat) (y1 : Option Nat) (H : Heap) (locs : List Loc) (ls : Array Slot), wd D cy z s cells h H locs → h_s h = s0 + slots → lv_has ls 1 [(0, .ref th)] → f_Reader_init_25 N   h th y0 y1 = some (r, g) → W p l e { frames := 1, cells := h_x g - n0, slots := h_s g - s0, locals := 44 } s m args below meth c H locs cells slots (MQ below (eQ D cy z (rV r) g) args s (h_x g - n0) (h_s g - s0) (fun q => z ≤ q)) (F0 m 25 ls [va_rf y1, va_rf y0]) := by
  obtain ⟨hx, hb, hr, hml, hown, hts, hlk⟩ := id C
  intro cells slots h th y0 y1 H locs ls w hsl hl hE
  have hcc : cells ≤ h_x g - n0 ∧ slots ≤ h_s g - s0 := by
    have q1 := mo_Reader_init_25 N  h th y0 y1 _ _ hE
    have q2 := wd_x w
    have q3 := q1.1
    have q4 := q1.2.1
    omega
  unfold f_Reader_init_25 at hE
  refine w_pRF (r := y0) (ci := 5) (k := 2) (v := y1) (Or.inr ⟨_, rfl⟩) C w rfl (by decide) (by unfold roK; omega) (GF_wsX40 _) tyX4 tyX4_ok nmX4 (by decide) rfl (List.mem_cons_of_mem _ gw_3_19) rfl rfl hni rfl (tyX4_ok 2 (by decide)) dX4_init_25 hE (fun h1 H locs w hsh1 e1 => ?_)
  have hsl := hsh1.2.2.2.trans hsl
  refine lv_aload_n hx hb dX4_init_28 rfl (lv_at hl 0 rfl) ?_
  refine lv_bipush (v := 40) hx hb dX4_init_29 (by decide) ?_
  have hm := mo_Reader_init_33 N   (nw h1 50 (40 : Int32).toNatClampNeg (40 : Int32).toNatClampNeg) th (some th) (some (h_x h1)) _ _ (nwA_some e1).2
  have hm1 := hm.1
  have hm2 := hm.2.1
  rw [h_x_nw] at hm1
  rw [h_s_nw] at hm2
  have hwx := wd_x w
  refine w_nwI C w (List.mem_cons_of_mem _ gw_2_16) dX4_init_31 e1 (by show cells + 1 ≤ h_x g - n0; omega) (by show slots + _ ≤ h_s g - s0; omega) (fun H w e2 => ?_)
  exact b_Reader_init_33 C hni N n0 s0 hn0   (cells + 1) (slots + (40 : Int32).toNatClampNeg) (nw h1 50 (40 : Int32).toNatClampNeg (40 : Int32).toNatClampNeg) th (some th) (some (h_x h1)) _ _ ls w (by first | (rw [h_s_nw, hsl]; done) | (rw [h_s_nw, hsl]; omega)) (lv_sub hl [0] rfl) e2
set_option maxRecDepth 20000 in
set_option maxHeartbeats 4000000 in
theorem b_Reader_init_17 {p : Program} {l : Launch} {e : Env} {s : State} {m : MethodId} {args : Array Value} {below : List Frame} {meth : Method} {c : Code} {D : va_G} {cy : cyT} {z : Nat} (C : MX p s m args meth c cX4_init 1 (none) RX4 (Cond.code yX4_init cX4_init 1 (none) :: GW)) (hni : meth.name = "<init>") (N : Nat) (n0 s0 : Nat) (hn0 : s.heap.size = n0) {r : Unit} {g : hS}  : ∀  (cells slots : Nat) (h : hS) (th : Nat) (y0 : Option Nat) (y1 : Option Nat) (H : Heap) (locs : List Loc) (ls : Array Slot), wd D cy z s cells h H locs → h_s h = s0 + slots → lv_has ls 1 [(0, .ref th)] → f_Reader_init_17 N   h th y0 y1 = some (r, g) → W p l e { frames := 1, cells := h_x g - n0, slots := h_s g - s0, locals := 44 } s m args below meth c H locs cells slots (MQ below (eQ D cy z (rV r) g) args s (h_x g - n0) (h_s g - s0) (fun q => z ≤ q)) (F0 m 17 ls [va_rf y1, va_rf y0]) := by
  obtain ⟨hx, hb, hr, hml, hown, hts, hlk⟩ := id C
  intro cells slots h th y0 y1 H locs ls w hsl hl hE
  have hcc : cells ≤ h_x g - n0 ∧ slots ≤ h_s g - s0 := by
    have q1 := mo_Reader_init_17 N  h th y0 y1 _ _ hE
    have q2 := wd_x w
    have q3 := q1.1
    have q4 := q1.2.1
    omega
  unfold f_Reader_init_17 at hE
  refine w_pRF (r := y0) (ci := 5) (k := 1) (v := y1) (Or.inr ⟨_, rfl⟩) C w rfl (by decide) (by unfold roK; omega) (GF_wsX40 _) tyX4 tyX4_ok nmX4 (by decide) rfl (List.mem_cons_of_mem _ gw_3_18) rfl rfl hni rfl (tyX4_ok 1 (by decide)) dX4_init_17 hE (fun h1 H locs w hsh1 e1 => ?_)
  have hsl := hsh1.2.2.2.trans hsl
  refine lv_aload_n hx hb dX4_init_20 rfl (lv_at hl 0 rfl) ?_
  refine lv_bipush (v := 40) hx hb dX4_init_21 (by decide) ?_
  have hm := mo_Reader_init_25 N   (nw h1 50 (40 : Int32).toNatClampNeg (40 : Int32).toNatClampNeg) th (some th) (some (h_x h1)) _ _ (nwA_some e1).2
  have hm1 := hm.1
  have hm2 := hm.2.1
  rw [h_x_nw] at hm1
  rw [h_s_nw] at hm2
  have hwx := wd_x w
  refine w_nwI C w (List.mem_cons_of_mem _ gw_2_16) dX4_init_23 e1 (by show cells + 1 ≤ h_x g - n0; omega) (by show slots + _ ≤ h_s g - s0; omega) (fun H w e2 => ?_)
  exact b_Reader_init_25 C hni N n0 s0 hn0   (cells + 1) (slots + (40 : Int32).toNatClampNeg) (nw h1 50 (40 : Int32).toNatClampNeg (40 : Int32).toNatClampNeg) th (some th) (some (h_x h1)) _ _ ls w (by first | (rw [h_s_nw, hsl]; done) | (rw [h_s_nw, hsl]; omega)) (lv_sub hl [0] rfl) e2
set_option maxRecDepth 20000 in
set_option maxHeartbeats 4000000 in
theorem b_Reader_init_9 {p : Program} {l : Launch} {e : Env} {s : State} {m : MethodId} {args : Array Value} {below : List Frame} {meth : Method} {c : Code} {D : va_G} {cy : cyT} {z : Nat} (C : MX p s m args meth c cX4_init 1 (none) RX4 (Cond.code yX4_init cX4_init 1 (none) :: GW)) (hni : meth.name = "<init>") (N : Nat) (n0 s0 : Nat) (hn0 : s.heap.size = n0) {r : Unit} {g : hS}  : ∀  (cells slots : Nat) (h : hS) (th : Nat) (y0 : Option Nat) (y1 : Option Nat) (H : Heap) (locs : List Loc) (ls : Array Slot), wd D cy z s cells h H locs → h_s h = s0 + slots → lv_has ls 1 [(0, .ref th)] → f_Reader_init_9 N   h th y0 y1 = some (r, g) → W p l e { frames := 1, cells := h_x g - n0, slots := h_s g - s0, locals := 44 } s m args below meth c H locs cells slots (MQ below (eQ D cy z (rV r) g) args s (h_x g - n0) (h_s g - s0) (fun q => z ≤ q)) (F0 m 9 ls [va_rf y1, va_rf y0]) := by
  obtain ⟨hx, hb, hr, hml, hown, hts, hlk⟩ := id C
  intro cells slots h th y0 y1 H locs ls w hsl hl hE
  have hcc : cells ≤ h_x g - n0 ∧ slots ≤ h_s g - s0 := by
    have q1 := mo_Reader_init_9 N  h th y0 y1 _ _ hE
    have q2 := wd_x w
    have q3 := q1.1
    have q4 := q1.2.1
    omega
  unfold f_Reader_init_9 at hE
  refine w_pRF (r := y0) (ci := 5) (k := 0) (v := y1) (Or.inr ⟨_, rfl⟩) C w rfl (by decide) (by unfold roK; omega) (GF_wsX40 _) tyX4 tyX4_ok nmX4 (by decide) rfl (List.mem_cons_of_mem _ gw_3_17) rfl rfl hni rfl (tyX4_ok 0 (by decide)) dX4_init_9 hE (fun h1 H locs w hsh1 e1 => ?_)
  have hsl := hsh1.2.2.2.trans hsl
  refine lv_aload_n hx hb dX4_init_12 rfl (lv_at hl 0 rfl) ?_
  refine lv_bipush (v := 40) hx hb dX4_init_13 (by decide) ?_
  have hm := mo_Reader_init_17 N   (nw h1 50 (40 : Int32).toNatClampNeg (40 : Int32).toNatClampNeg) th (some th) (some (h_x h1)) _ _ (nwA_some e1).2
  have hm1 := hm.1
  have hm2 := hm.2.1
  rw [h_x_nw] at hm1
  rw [h_s_nw] at hm2
  have hwx := wd_x w
  refine w_nwI C w (List.mem_cons_of_mem _ gw_2_16) dX4_init_15 e1 (by show cells + 1 ≤ h_x g - n0; omega) (by show slots + _ ≤ h_s g - s0; omega) (fun H w e2 => ?_)
  exact b_Reader_init_17 C hni N n0 s0 hn0   (cells + 1) (slots + (40 : Int32).toNatClampNeg) (nw h1 50 (40 : Int32).toNatClampNeg (40 : Int32).toNatClampNeg) th (some th) (some (h_x h1)) _ _ ls w (by first | (rw [h_s_nw, hsl]; done) | (rw [h_s_nw, hsl]; omega)) (lv_sub hl [0] rfl) e2
set_option maxRecDepth 20000 in
set_option maxHeartbeats 4000000 in
theorem k_Reader_init (l : Launch) (D : va_G) (cy : cyT) (z : Nat) (N : Nat) (h : hS) (th : Nat) (r : Unit) (g : hS) (hE : f_Reader_init N h th = some (r, g)) : ct l yX4_init (Cond.code yX4_init cX4_init 1 (none) :: GW) { frames := 1, cells := h_x g - h_x h, slots := h_s g - h_s h, locals := 44 } D cy z h [.ref th] (rV r) g := by
  refine Met.ofW (cc := cX4_init) (maxL := 1) (ret := none) (by decide) rfl ?_
  intro p e s m args below meth c s₁ B hml hv
  obtain ⟨rfl, hw⟩ := hv
  have hni : meth.name = "<init>" := (name_of_methodNamed B.named B.method).1
  have C : MX p s m ([.ref th] : List Value).toArray meth c cX4_init 1 (none) RX4 (Cond.code yX4_init cX4_init 1 (none) :: GW) := ⟨B.exec, B.bytes, B.returns, hml, findClass_of_methodNamed B.named, atoms_spec (ws := Cond.code yX4_init cX4_init 1 (none) :: GW) B.pre, B.notSynchronized⟩
  obtain ⟨hx, hb, hr, hml, hown, hts, hlk⟩ := id C
  have w := wd_of hw
  have hsl : h_s h = h_s h + 0 := rfl
  have hn0 : s.heap.size = h_x h := (wd_x w).1
  obtain ⟨ls, hen, hl⟩ : ∃ ls : Array Slot, entryFrame m ([.ref th] : List Value).toArray 1 = F0 m 0 ls [] ∧ lv_has ls 1 [(0, .ref th)] := by
    exact ⟨_, lg_entry_eq _ _ _, lv_entry _ (Nat.le_of_ble_eq_true rfl)⟩
  rw [hen]
  have hcc : 0 ≤ h_x g - h_x h ∧ 0 ≤ h_s g - h_s h := ⟨Nat.zero_le _, Nat.zero_le _⟩
  unfold f_Reader_init at hE
  refine lv_aload_n hx hb dX4_init_0 rfl (lv_at hl 0 rfl) ?_
  refine w_oinit (a := th) C hl.1 (List.mem_cons_of_mem _ gw_3_16) (List.mem_cons_of_mem _ gw_1_12) (List.mem_cons_of_mem _ gw_1_13) (Nat.le_of_ble_eq_true rfl) (Nat.le_of_ble_eq_true rfl) dX4_init_1 ?_
  refine lv_aload_n hx hb dX4_init_4 rfl (lv_at hl 0 rfl) ?_
  refine lv_bipush (v := 40) hx hb dX4_init_5 (by decide) ?_
  have hm := mo_Reader_init_9 N   (nw h 50 (40 : Int32).toNatClampNeg (40 : Int32).toNatClampNeg) th (some th) (some (h_x h)) _ _ (nwA_some hE).2
  have hm1 := hm.1
  have hm2 := hm.2.1
  rw [h_x_nw] at hm1
  rw [h_s_nw] at hm2
  have hwx := wd_x w
  refine w_nwI C w (List.mem_cons_of_mem _ gw_2_16) dX4_init_7 hE (by show 0 + 1 ≤ h_x g - (h_x h); omega) (by show 0 + _ ≤ h_s g - (h_s h); omega) (fun H w e1 => ?_)
  exact b_Reader_init_9 C hni N (h_x h) (h_s h) hn0   (0 + 1) (0 + (40 : Int32).toNatClampNeg) (nw h 50 (40 : Int32).toNatClampNeg (40 : Int32).toNatClampNeg) th (some th) (some (h_x h)) _ _ ls w (by first | (rw [h_s_nw, hsl]; done) | (rw [h_s_nw, hsl]; omega)) (lv_sub hl [0] rfl) e1
set_option maxRecDepth 20000 in
set_option maxHeartbeats 4000000 in
theorem b_Reader_wordPlace_23 {p : Program} {l : Launch} {e : Env} {s : State} {m : MethodId} {args : Array Value} {below : List Frame} {meth : Method} {c : Code} {D : va_G} {cy : cyT} {z : Nat} (C : MX p s m args meth c cX4_wordPlace 2 ((some .int)) RX4 (Cond.code yX4_wordPlace cX4_wordPlace 2 ((some .int)) :: GW)) (N : Nat) {r : Int32} {g : hS}  : ∀  (h : hS) (y0 : Int32) (H : Heap) (locs : List Loc) (ls : Array Slot), wd D cy z s 0 h H locs → lv_has ls 2 [] → f_Reader_wordPlace_23 N   h y0 = some (r, g) → W p l e { frames := 0, cells := 0, slots := 0, locals := 0 } s m args below meth c H locs 0 0 (MQ below (eQ D cy z (rI r) g) args s 0 0 (fun q => z ≤ q)) (F0 m 23 ls [.int y0]) := by
  obtain ⟨hx, hb, hr, hml, hown, hts, hlk⟩ := id C
  intro  h y0 H locs ls w  hl hE
  unfold f_Reader_wordPlace_23 at hE
  exact w_iret C w hE dX4_wordPlace_23
set_option maxRecDepth 20000 in
set_option maxHeartbeats 4000000 in
theorem b_Reader_wordPlace_22 {p : Program} {l : Launch} {e : Env} {s : State} {m : MethodId} {args : Array Value} {below : List Frame} {meth : Method} {c : Code} {D : va_G} {cy : cyT} {z : Nat} (C : MX p s m args meth c cX4_wordPlace 2 ((some .int)) RX4 (Cond.code yX4_wordPlace cX4_wordPlace 2 ((some .int)) :: GW)) (N : Nat) {r : Int32} {g : hS}  : ∀  (h : hS)  (H : Heap) (locs : List Loc) (ls : Array Slot), wd D cy z s 0 h H locs → lv_has ls 2 [] → f_Reader_wordPlace_22 N   h  = some (r, g) → W p l e { frames := 0, cells := 0, slots := 0, locals := 0 } s m args below meth c H locs 0 0 (MQ below (eQ D cy z (rI r) g) args s 0 0 (fun q => z ≤ q)) (F0 m 22 ls []) := by
  obtain ⟨hx, hb, hr, hml, hown, hts, hlk⟩ := id C
  intro  h  H locs ls w  hl hE
  unfold f_Reader_wordPlace_22 at hE
  refine lv_iconst (v := -1) hx hb dX4_wordPlace_22 (by decide) ?_
  exact b_Reader_wordPlace_23 C N     h (-1 : Int32) _ _ ls w  (lv_sub hl [] rfl) hE
set_option maxRecDepth 20000 in
set_option maxHeartbeats 4000000 in
theorem k_Reader_wordPlace (l : Launch) (D : va_G) (cy : cyT) (z : Nat) (N : Nat) (h : hS) (th : Nat) (x1 : Int32) (r : Int32) (g : hS) (hE : f_Reader_wordPlace N h th x1 = some (r, g)) : ct l yX4_wordPlace (Cond.code yX4_wordPlace cX4_wordPlace 2 ((some .int)) :: GW) { frames := 0, cells := 0, slots := 0, locals := 0 } D cy z h [.ref th, .int x1] (rI r) g := by
  refine Met.ofW (cc := cX4_wordPlace) (maxL := 2) (ret := (some .int)) (by decide) rfl ?_
  intro p e s m args below meth c s₁ B hml hv
  obtain ⟨rfl, hw⟩ := hv
  have C : MX p s m ([.ref th, .int x1] : List Value).toArray meth c cX4_wordPlace 2 ((some .int)) RX4 (Cond.code yX4_wordPlace cX4_wordPlace 2 ((some .int)) :: GW) := ⟨B.exec, B.bytes, B.returns, hml, findClass_of_methodNamed B.named, atoms_spec (ws := Cond.code yX4_wordPlace cX4_wordPlace 2 ((some .int)) :: GW) B.pre, B.notSynchronized⟩
  obtain ⟨hx, hb, hr, hml, hown, hts, hlk⟩ := id C
  have w := wd_of hw
  obtain ⟨ls, hen, hl⟩ : ∃ ls : Array Slot, entryFrame m ([.ref th, .int x1] : List Value).toArray 2 = F0 m 0 ls [] ∧ lv_has ls 2 [(0, .ref th), (1, .int x1)] := by
    exact ⟨_, lg_entry_eq _ _ _, lv_entry _ (Nat.le_of_ble_eq_true rfl)⟩
  rw [hen]
  unfold f_Reader_wordPlace at hE
  refine lv_iload_n hx hb dX4_wordPlace_0 rfl (lv_at hl 1 rfl) ?_
  refine w_if_lt (tgt := 22) C dX4_wordPlace_1 (by decide) hE (fun hc e1 => ?_) (fun hc e1 => ?_)
  · exact b_Reader_wordPlace_22 C N     h  _ _ ls w  (lv_sub hl [] rfl) e1
  · refine lv_iload_n hx hb dX4_wordPlace_4 rfl (lv_at hl 1 rfl) ?_
    refine lv_aload_n hx hb dX4_wordPlace_5 rfl (lv_at hl 0 rfl) ?_
    refine w_gR (r := some th) (ci := 5) (k := 3) C w rfl (by decide) (GF_wsX40 _) (by decide) rfl (List.mem_cons_of_mem _ gw_3_20) rfl dX4_wordPlace_6 e1 (fun v1 e2 => ?_)
    refine w_lenI (r := v1) C w dX4_wordPlace_9 e2 (fun v2 e3 => ?_)
    refine w_icmp_ge (tgt := 22) C dX4_wordPlace_10 (by decide) e3 (fun hc e4 => ?_) (fun hc e4 => ?_)
    · exact b_Reader_wordPlace_22 C N     h  _ _ ls w  (lv_sub hl [] rfl) e4
    · refine lv_aload_n hx hb dX4_wordPlace_13 rfl (lv_at hl 0 rfl) ?_
      refine w_gR (r := some th) (ci := 5) (k := 3) C w rfl (by decide) (GF_wsX40 _) (by decide) rfl (List.mem_cons_of_mem _ gw_3_20) rfl dX4_wordPlace_14 e4 (fun v3 e5 => ?_)
      refine lv_iload_n hx hb dX4_wordPlace_17 rfl (lv_at hl 1 rfl) ?_
      refine w_aI (r := v3) C w dX4_wordPlace_18 e5 (fun v4 e6 => ?_)
      refine lv_goto (tgt := 23) hx hb dX4_wordPlace_19 (by decide) ?_
      exact b_Reader_wordPlace_23 C N     h v4 _ _ ls w  (lv_sub hl [] rfl) e6
set_option maxRecDepth 20000 in
set_option maxHeartbeats 4000000 in
theorem b_Reader_byteAt_31 {p : Program} {l : Launch} {e : Env} {s : State} {m : MethodId} {args : Array Value} {below : List Frame} {meth : Method} {c : Code} {D : va_G} {cy : cyT} {z : Nat} (C : MX p s m args meth c cX4_byteAt 2 ((some .int)) RX4 (Cond.code yX4_byteAt cX4_byteAt 2 ((some .int)) :: GW)) (N : Nat) {r : Int32} {g : hS}  : ∀  (h : hS) (y0 : Int32) (H : Heap) (locs : List Loc) (ls : Array Slot), wd D cy z s 0 h H locs → lv_has ls 2 [] → f_Reader_byteAt_31 N   h y0 = some (r, g) → W p l e { frames := 0, cells := 0, slots := 0, locals := 0 } s m args below meth c H locs 0 0 (MQ below (eQ D cy z (rI r) g) args s 0 0 (fun q => z ≤ q)) (F0 m 31 ls [.int y0]) := by
  obtain ⟨hx, hb, hr, hml, hown, hts, hlk⟩ := id C
  intro  h y0 H locs ls w  hl hE
  unfold f_Reader_byteAt_31 at hE
  exact w_iret C w hE dX4_byteAt_31
set_option maxRecDepth 20000 in
set_option maxHeartbeats 4000000 in
theorem b_Reader_byteAt_30 {p : Program} {l : Launch} {e : Env} {s : State} {m : MethodId} {args : Array Value} {below : List Frame} {meth : Method} {c : Code} {D : va_G} {cy : cyT} {z : Nat} (C : MX p s m args meth c cX4_byteAt 2 ((some .int)) RX4 (Cond.code yX4_byteAt cX4_byteAt 2 ((some .int)) :: GW)) (N : Nat) {r : Int32} {g : hS}  : ∀  (h : hS)  (H : Heap) (locs : List Loc) (ls : Array Slot), wd D cy z s 0 h H locs → lv_has ls 2 [] → f_Reader_byteAt_30 N   h  = some (r, g) → W p l e { frames := 0, cells := 0, slots := 0, locals := 0 } s m args below meth c H locs 0 0 (MQ below (eQ D cy z (rI r) g) args s 0 0 (fun q => z ≤ q)) (F0 m 30 ls []) := by
  obtain ⟨hx, hb, hr, hml, hown, hts, hlk⟩ := id C
  intro  h  H locs ls w  hl hE
  unfold f_Reader_byteAt_30 at hE
  refine lv_iconst (v := -1) hx hb dX4_byteAt_30 (by decide) ?_
  exact b_Reader_byteAt_31 C N     h (-1 : Int32) _ _ ls w  (lv_sub hl [] rfl) hE
set_option maxRecDepth 20000 in
set_option maxHeartbeats 4000000 in
theorem k_Reader_byteAt (l : Launch) (D : va_G) (cy : cyT) (z : Nat) (N : Nat) (h : hS) (th : Nat) (x1 : Int32) (r : Int32) (g : hS) (hE : f_Reader_byteAt N h th x1 = some (r, g)) : ct l yX4_byteAt (Cond.code yX4_byteAt cX4_byteAt 2 ((some .int)) :: GW) { frames := 0, cells := 0, slots := 0, locals := 0 } D cy z h [.ref th, .int x1] (rI r) g := by
  refine Met.ofW (cc := cX4_byteAt) (maxL := 2) (ret := (some .int)) (by decide) rfl ?_
  intro p e s m args below meth c s₁ B hml hv
  obtain ⟨rfl, hw⟩ := hv
  have C : MX p s m ([.ref th, .int x1] : List Value).toArray meth c cX4_byteAt 2 ((some .int)) RX4 (Cond.code yX4_byteAt cX4_byteAt 2 ((some .int)) :: GW) := ⟨B.exec, B.bytes, B.returns, hml, findClass_of_methodNamed B.named, atoms_spec (ws := Cond.code yX4_byteAt cX4_byteAt 2 ((some .int)) :: GW) B.pre, B.notSynchronized⟩
  obtain ⟨hx, hb, hr, hml, hown, hts, hlk⟩ := id C
  have w := wd_of hw
  obtain ⟨ls, hen, hl⟩ : ∃ ls : Array Slot, entryFrame m ([.ref th, .int x1] : List Value).toArray 2 = F0 m 0 ls [] ∧ lv_has ls 2 [(0, .ref th), (1, .int x1)] := by
    exact ⟨_, lg_entry_eq _ _ _, lv_entry _ (Nat.le_of_ble_eq_true rfl)⟩
  rw [hen]
  unfold f_Reader_byteAt at hE
  refine lv_iload_n hx hb dX4_byteAt_0 rfl (lv_at hl 1 rfl) ?_
  refine w_if_lt (tgt := 30) C dX4_byteAt_1 (by decide) hE (fun hc e1 => ?_) (fun hc e1 => ?_)
  · exact b_Reader_byteAt_30 C N     h  _ _ ls w  (lv_sub hl [] rfl) e1
  · refine lv_iload_n hx hb dX4_byteAt_4 rfl (lv_at hl 1 rfl) ?_
    refine lv_aload_n hx hb dX4_byteAt_5 rfl (lv_at hl 0 rfl) ?_
    refine w_gI (r := some th) (ci := 5) (k := 8) C w rfl (by decide) (GF_wsX40 _) (by decide) rfl (List.mem_cons_of_mem _ gw_10_9) rfl dX4_byteAt_6 e1 (fun v1 e2 => ?_)
    refine w_icmp_ge (tgt := 30) C dX4_byteAt_9 (by decide) e2 (fun hc e3 => ?_) (fun hc e3 => ?_)
    · exact b_Reader_byteAt_30 C N     h  _ _ ls w  (lv_sub hl [] rfl) e3
    · refine lv_iload_n hx hb dX4_byteAt_12 rfl (lv_at hl 1 rfl) ?_
      refine lv_aload_n hx hb dX4_byteAt_13 rfl (lv_at hl 0 rfl) ?_
      refine w_gR (r := some th) (ci := 5) (k := 7) C w rfl (by decide) (GF_wsX40 _) (by decide) rfl (List.mem_cons_of_mem _ gw_3_21) rfl dX4_byteAt_14 e3 (fun v2 e4 => ?_)
      refine w_lenBB (r := v2) C w dX4_byteAt_17 e4 (fun v3 e5 => ?_)
      refine w_icmp_ge (tgt := 30) C dX4_byteAt_18 (by decide) e5 (fun hc e6 => ?_) (fun hc e6 => ?_)
      · exact b_Reader_byteAt_30 C N     h  _ _ ls w  (lv_sub hl [] rfl) e6
      · refine lv_aload_n hx hb dX4_byteAt_21 rfl (lv_at hl 0 rfl) ?_
        refine w_gR (r := some th) (ci := 5) (k := 7) C w rfl (by decide) (GF_wsX40 _) (by decide) rfl (List.mem_cons_of_mem _ gw_3_21) rfl dX4_byteAt_22 e6 (fun v4 e7 => ?_)
        refine lv_iload_n hx hb dX4_byteAt_25 rfl (lv_at hl 1 rfl) ?_
        refine w_aBB (r := v4) C w dX4_byteAt_26 e7 (fun v5 e8 => ?_)
        refine lv_goto (tgt := 31) hx hb dX4_byteAt_27 (by decide) ?_
        exact b_Reader_byteAt_31 C N     h v5 _ _ ls w  (lv_sub hl [] rfl) e8
set_option maxRecDepth 20000 in
set_option maxHeartbeats 4000000 in
theorem b_Reader_isBlank_17 {p : Program} {l : Launch} {e : Env} {s : State} {m : MethodId} {args : Array Value} {below : List Frame} {meth : Method} {c : Code} {D : va_G} {cy : cyT} {z : Nat} (C : MX p s m args meth c cX4_isBlank 1 ((some .boolean)) RX4 (Cond.code yX4_isBlank cX4_isBlank 1 ((some .boolean)) :: GW)) (N : Nat) {r : Int32} {g : hS}  : ∀  (h : hS) (y0 : Int32) (H : Heap) (locs : List Loc) (ls : Array Slot), wd D cy z s 0 h H locs → lv_has ls 1 [] → f_Reader_isBlank_17 N   h y0 = some (r, g) → W p l e { frames := 0, cells := 0, slots := 0, locals := 0 } s m args below meth c H locs 0 0 (MQ below (eQ D cy z (rI r) g) args s 0 0 (fun q => z ≤ q)) (F0 m 17 ls [.int y0]) := by
  obtain ⟨hx, hb, hr, hml, hown, hts, hlk⟩ := id C
  intro  h y0 H locs ls w  hl hE
  unfold f_Reader_isBlank_17 at hE
  exact w_zret C w hE dX4_isBlank_17
set_option maxRecDepth 20000 in
set_option maxHeartbeats 4000000 in
theorem b_Reader_isBlank_12 {p : Program} {l : Launch} {e : Env} {s : State} {m : MethodId} {args : Array Value} {below : List Frame} {meth : Method} {c : Code} {D : va_G} {cy : cyT} {z : Nat} (C : MX p s m args meth c cX4_isBlank 1 ((some .boolean)) RX4 (Cond.code yX4_isBlank cX4_isBlank 1 ((some .boolean)) :: GW)) (N : Nat) {r : Int32} {g : hS}  : ∀  (h : hS)  (H : Heap) (locs : List Loc) (ls : Array Slot), wd D cy z s 0 h H locs → lv_has ls 1 [] → f_Reader_isBlank_12 N   h  = some (r, g) → W p l e { frames := 0, cells := 0, slots := 0, locals := 0 } s m args below meth c H locs 0 0 (MQ below (eQ D cy z (rI r) g) args s 0 0 (fun q => z ≤ q)) (F0 m 12 ls []) := by
  obtain ⟨hx, hb, hr, hml, hown, hts, hlk⟩ := id C
  intro  h  H locs ls w  hl hE
  unfold f_Reader_isBlank_12 at hE
  refine lv_iconst (v := 1) hx hb dX4_isBlank_12 (by decide) ?_
  refine lv_goto (tgt := 17) hx hb dX4_isBlank_13 (by decide) ?_
  exact b_Reader_isBlank_17 C N     h (1 : Int32) _ _ ls w  (lv_sub hl [] rfl) hE
set_option maxRecDepth 20000 in
set_option maxHeartbeats 4000000 in
theorem k_Reader_isBlank (l : Launch) (D : va_G) (cy : cyT) (z : Nat) (N : Nat) (h : hS) (x0 : Int32) (r : Int32) (g : hS) (hE : f_Reader_isBlank N h x0 = some (r, g)) : ct l yX4_isBlank (Cond.code yX4_isBlank cX4_isBlank 1 ((some .boolean)) :: GW) { frames := 0, cells := 0, slots := 0, locals := 0 } D cy z h [.int x0] (rI r) g := by
  refine Met.ofW (cc := cX4_isBlank) (maxL := 1) (ret := (some .boolean)) (by decide) rfl ?_
  intro p e s m args below meth c s₁ B hml hv
  obtain ⟨rfl, hw⟩ := hv
  have C : MX p s m ([.int x0] : List Value).toArray meth c cX4_isBlank 1 ((some .boolean)) RX4 (Cond.code yX4_isBlank cX4_isBlank 1 ((some .boolean)) :: GW) := ⟨B.exec, B.bytes, B.returns, hml, findClass_of_methodNamed B.named, atoms_spec (ws := Cond.code yX4_isBlank cX4_isBlank 1 ((some .boolean)) :: GW) B.pre, B.notSynchronized⟩
  obtain ⟨hx, hb, hr, hml, hown, hts, hlk⟩ := id C
  have w := wd_of hw
  obtain ⟨ls, hen, hl⟩ : ∃ ls : Array Slot, entryFrame m ([.int x0] : List Value).toArray 1 = F0 m 0 ls [] ∧ lv_has ls 1 [(0, .int x0)] := by
    exact ⟨_, lg_entry_eq _ _ _, lv_entry _ (Nat.le_of_ble_eq_true rfl)⟩
  rw [hen]
  unfold f_Reader_isBlank at hE
  refine lv_iload_n hx hb dX4_isBlank_0 rfl (lv_at hl 0 rfl) ?_
  refine lv_bipush (v := 32) hx hb dX4_isBlank_1 (by decide) ?_
  refine w_icmp_eq (tgt := 12) C dX4_isBlank_3 (by decide) hE (fun hc e1 => ?_) (fun hc e1 => ?_)
  · exact b_Reader_isBlank_12 C N     h  _ _ ls w  (lv_sub hl [] rfl) e1
  · refine lv_iload_n hx hb dX4_isBlank_6 rfl (lv_at hl 0 rfl) ?_
    refine lv_bipush (v := 10) hx hb dX4_isBlank_7 (by decide) ?_
    refine w_icmp_ne (tgt := 16) C dX4_isBlank_9 (by decide) e1 (fun hc e2 => ?_) (fun hc e2 => ?_)
    · refine lv_iconst (v := 0) hx hb dX4_isBlank_16 (by decide) ?_
      exact b_Reader_isBlank_17 C N     h (0 : Int32) _ _ ls w  (lv_sub hl [] rfl) e2
    · exact b_Reader_isBlank_12 C N     h  _ _ ls w  (lv_sub hl [] rfl) e2
set_option maxRecDepth 20000 in
set_option maxHeartbeats 4000000 in
theorem b_Reader_tokenKind_45 {p : Program} {l : Launch} {e : Env} {s : State} {m : MethodId} {args : Array Value} {below : List Frame} {meth : Method} {c : Code} {D : va_G} {cy : cyT} {z : Nat} (C : MX p s m args meth c cX4_tokenKind 1 ((some .int)) RX4 (Cond.code yX4_tokenKind cX4_tokenKind 1 ((some .int)) :: GW)) (N : Nat) {r : Int32} {g : hS}  : ∀  (h : hS) (y0 : Int32) (H : Heap) (locs : List Loc) (ls : Array Slot), wd D cy z s 0 h H locs → lv_has ls 1 [] → f_Reader_tokenKind_45 N   h y0 = some (r, g) → W p l e { frames := 0, cells := 0, slots := 0, locals := 0 } s m args below meth c H locs 0 0 (MQ below (eQ D cy z (rI r) g) args s 0 0 (fun q => z ≤ q)) (F0 m 45 ls [.int y0]) := by
  obtain ⟨hx, hb, hr, hml, hown, hts, hlk⟩ := id C
  intro  h y0 H locs ls w  hl hE
  unfold f_Reader_tokenKind_45 at hE
  exact w_iret C w hE dX4_tokenKind_45
set_option maxRecDepth 20000 in
set_option maxHeartbeats 4000000 in
theorem b_Reader_tokenKind_40 {p : Program} {l : Launch} {e : Env} {s : State} {m : MethodId} {args : Array Value} {below : List Frame} {meth : Method} {c : Code} {D : va_G} {cy : cyT} {z : Nat} (C : MX p s m args meth c cX4_tokenKind 1 ((some .int)) RX4 (Cond.code yX4_tokenKind cX4_tokenKind 1 ((some .int)) :: GW)) (N : Nat) {r : Int32} {g : hS}  : ∀  (h : hS)  (H : Heap) (locs : List Loc) (ls : Array Slot), wd D cy z s 0 h H locs → lv_has ls 1 [] → f_Reader_tokenKind_40 N   h  = some (r, g) → W p l e { frames := 0, cells := 0, slots := 0, locals := 0 } s m args below meth c H locs 0 0 (MQ below (eQ D cy z (rI r) g) args s 0 0 (fun q => z ≤ q)) (F0 m 40 ls []) := by
  obtain ⟨hx, hb, hr, hml, hown, hts, hlk⟩ := id C
  intro  h  H locs ls w  hl hE
  unfold f_Reader_tokenKind_40 at hE
  refine lv_iconst (v := 3) hx hb dX4_tokenKind_40 (by decide) ?_
  refine lv_goto (tgt := 45) hx hb dX4_tokenKind_41 (by decide) ?_
  exact b_Reader_tokenKind_45 C N     h (3 : Int32) _ _ ls w  (lv_sub hl [] rfl) hE
set_option maxRecDepth 20000 in
set_option maxHeartbeats 4000000 in
theorem b_Reader_tokenKind_28 {p : Program} {l : Launch} {e : Env} {s : State} {m : MethodId} {args : Array Value} {below : List Frame} {meth : Method} {c : Code} {D : va_G} {cy : cyT} {z : Nat} (C : MX p s m args meth c cX4_tokenKind 1 ((some .int)) RX4 (Cond.code yX4_tokenKind cX4_tokenKind 1 ((some .int)) :: GW)) (N : Nat) {r : Int32} {g : hS}  : ∀  (h : hS) (x0 : Int32) (H : Heap) (locs : List Loc) (ls : Array Slot), wd D cy z s 0 h H locs → lv_has ls 1 [(0, .int x0)] → f_Reader_tokenKind_28 N   h x0 = some (r, g) → W p l e { frames := 0, cells := 0, slots := 0, locals := 0 } s m args below meth c H locs 0 0 (MQ below (eQ D cy z (rI r) g) args s 0 0 (fun q => z ≤ q)) (F0 m 28 ls []) := by
  obtain ⟨hx, hb, hr, hml, hown, hts, hlk⟩ := id C
  intro  h x0 H locs ls w  hl hE
  unfold f_Reader_tokenKind_28 at hE
  refine lv_iload_n hx hb dX4_tokenKind_28 rfl (lv_at hl 0 rfl) ?_
  refine lv_bipush (v := 59) hx hb dX4_tokenKind_29 (by decide) ?_
  refine w_icmp_eq (tgt := 40) C dX4_tokenKind_31 (by decide) hE (fun hc e1 => ?_) (fun hc e1 => ?_)
  · exact b_Reader_tokenKind_40 C N     h  _ _ ls w  (lv_sub hl [] rfl) e1
  · refine lv_iload_n hx hb dX4_tokenKind_34 rfl (lv_at hl 0 rfl) ?_
    refine lv_bipush (v := 45) hx hb dX4_tokenKind_35 (by decide) ?_
    refine w_icmp_ne (tgt := 44) C dX4_tokenKind_37 (by decide) e1 (fun hc e2 => ?_) (fun hc e2 => ?_)
    · refine lv_iconst (v := 4) hx hb dX4_tokenKind_44 (by decide) ?_
      exact b_Reader_tokenKind_45 C N     h (4 : Int32) _ _ ls w  (lv_sub hl [] rfl) e2
    · exact b_Reader_tokenKind_40 C N     h  _ _ ls w  (lv_sub hl [] rfl) e2
set_option maxRecDepth 20000 in
set_option maxHeartbeats 4000000 in
theorem b_Reader_tokenKind_14 {p : Program} {l : Launch} {e : Env} {s : State} {m : MethodId} {args : Array Value} {below : List Frame} {meth : Method} {c : Code} {D : va_G} {cy : cyT} {z : Nat} (C : MX p s m args meth c cX4_tokenKind 1 ((some .int)) RX4 (Cond.code yX4_tokenKind cX4_tokenKind 1 ((some .int)) :: GW)) (N : Nat) {r : Int32} {g : hS}  : ∀  (h : hS) (x0 : Int32) (H : Heap) (locs : List Loc) (ls : Array Slot), wd D cy z s 0 h H locs → lv_has ls 1 [(0, .int x0)] → f_Reader_tokenKind_14 N   h x0 = some (r, g) → W p l e { frames := 0, cells := 0, slots := 0, locals := 0 } s m args below meth c H locs 0 0 (MQ below (eQ D cy z (rI r) g) args s 0 0 (fun q => z ≤ q)) (F0 m 14 ls []) := by
  obtain ⟨hx, hb, hr, hml, hown, hts, hlk⟩ := id C
  intro  h x0 H locs ls w  hl hE
  unfold f_Reader_tokenKind_14 at hE
  refine lv_iload_n hx hb dX4_tokenKind_14 rfl (lv_at hl 0 rfl) ?_
  refine lv_bipush (v := 48) hx hb dX4_tokenKind_15 (by decide) ?_
  refine w_icmp_lt (tgt := 28) C dX4_tokenKind_17 (by decide) hE (fun hc e1 => ?_) (fun hc e1 => ?_)
  · exact b_Reader_tokenKind_28 C N     h x0 _ _ ls w  (lv_sub hl [0] rfl) e1
  · refine lv_iload_n hx hb dX4_tokenKind_20 rfl (lv_at hl 0 rfl) ?_
    refine lv_bipush (v := 57) hx hb dX4_tokenKind_21 (by decide) ?_
    refine w_icmp_gt (tgt := 28) C dX4_tokenKind_23 (by decide) e1 (fun hc e2 => ?_) (fun hc e2 => ?_)
    · exact b_Reader_tokenKind_28 C N     h x0 _ _ ls w  (lv_sub hl [0] rfl) e2
    · refine lv_iconst (v := 2) hx hb dX4_tokenKind_26 (by decide) ?_
      exact w_iret C w e2 dX4_tokenKind_27
set_option maxRecDepth 20000 in
set_option maxHeartbeats 4000000 in
theorem k_Reader_tokenKind (l : Launch) (D : va_G) (cy : cyT) (z : Nat) (N : Nat) (h : hS) (x0 : Int32) (r : Int32) (g : hS) (hE : f_Reader_tokenKind N h x0 = some (r, g)) : ct l yX4_tokenKind (Cond.code yX4_tokenKind cX4_tokenKind 1 ((some .int)) :: GW) { frames := 0, cells := 0, slots := 0, locals := 0 } D cy z h [.int x0] (rI r) g := by
  refine Met.ofW (cc := cX4_tokenKind) (maxL := 1) (ret := (some .int)) (by decide) rfl ?_
  intro p e s m args below meth c s₁ B hml hv
  obtain ⟨rfl, hw⟩ := hv
  have C : MX p s m ([.int x0] : List Value).toArray meth c cX4_tokenKind 1 ((some .int)) RX4 (Cond.code yX4_tokenKind cX4_tokenKind 1 ((some .int)) :: GW) := ⟨B.exec, B.bytes, B.returns, hml, findClass_of_methodNamed B.named, atoms_spec (ws := Cond.code yX4_tokenKind cX4_tokenKind 1 ((some .int)) :: GW) B.pre, B.notSynchronized⟩
  obtain ⟨hx, hb, hr, hml, hown, hts, hlk⟩ := id C
  have w := wd_of hw
  obtain ⟨ls, hen, hl⟩ : ∃ ls : Array Slot, entryFrame m ([.int x0] : List Value).toArray 1 = F0 m 0 ls [] ∧ lv_has ls 1 [(0, .int x0)] := by
    exact ⟨_, lg_entry_eq _ _ _, lv_entry _ (Nat.le_of_ble_eq_true rfl)⟩
  rw [hen]
  unfold f_Reader_tokenKind at hE
  refine lv_iload_n hx hb dX4_tokenKind_0 rfl (lv_at hl 0 rfl) ?_
  refine lv_bipush (v := 97) hx hb dX4_tokenKind_1 (by decide) ?_
  refine w_icmp_lt (tgt := 14) C dX4_tokenKind_3 (by decide) hE (fun hc e1 => ?_) (fun hc e1 => ?_)
  · exact b_Reader_tokenKind_14 C N     h x0 _ _ ls w  (lv_sub hl [0] rfl) e1
  · refine lv_iload_n hx hb dX4_tokenKind_6 rfl (lv_at hl 0 rfl) ?_
    refine lv_bipush (v := 122) hx hb dX4_tokenKind_7 (by decide) ?_
    refine w_icmp_gt (tgt := 14) C dX4_tokenKind_9 (by decide) e1 (fun hc e2 => ?_) (fun hc e2 => ?_)
    · exact b_Reader_tokenKind_14 C N     h x0 _ _ ls w  (lv_sub hl [0] rfl) e2
    · refine lv_iconst (v := 1) hx hb dX4_tokenKind_12 (by decide) ?_
      exact w_iret C w e2 dX4_tokenKind_13
set_option maxRecDepth 20000 in
set_option maxHeartbeats 4000000 in
theorem b_Reader_nextToken_154 {p : Program} {l : Launch} {e : Env} {s : State} {m : MethodId} {args : Array Value} {below : List Frame} {meth : Method} {c : Code} {D : va_G} {cy : cyT} {z : Nat} (C : MX p s m args meth c cX4_nextToken 1 (none) RX4 (Cond.code yX4_nextToken cX4_nextToken 1 (none) :: GW)) (N : Nat) {r : Unit} {g : hS}  : ∀  (h : hS)  (H : Heap) (locs : List Loc) (ls : Array Slot), wd D cy z s 0 h H locs → lv_has ls 1 [] → f_Reader_nextToken_154 N   h  = some (r, g) → W p l e { frames := 1, cells := 0, slots := 0, locals := 21 } s m args below meth c H locs 0 0 (MQ below (eQ D cy z (rV r) g) args s 0 0 (fun q => z ≤ q)) (F0 m 154 ls []) := by
  obtain ⟨hx, hb, hr, hml, hown, hts, hlk⟩ := id C
  intro  h  H locs ls w  hl hE
  unfold f_Reader_nextToken_154 at hE
  exact w_vret C w hE dX4_nextToken_154
set_option maxRecDepth 20000 in
set_option maxHeartbeats 4000000 in
theorem b_Reader_nextToken_112 {p : Program} {l : Launch} {e : Env} {s : State} {m : MethodId} {args : Array Value} {below : List Frame} {meth : Method} {c : Code} {D : va_G} {cy : cyT} {z : Nat} (C : MX p s m args meth c cX4_nextToken 1 (none) RX4 (Cond.code yX4_nextToken cX4_nextToken 1 (none) :: GW)) (N : Nat) {r : Unit} {g : hS}  : ∀ (n : Nat) (h : hS) (th : Nat) (H : Heap) (locs : List Loc) (ls : Array Slot), wd D cy z s 0 h H locs → lv_has ls 1 [(0, .ref th)] → f_Reader_nextToken_112 N  n h th = some (r, g) → W p l e { frames := 1, cells := 0, slots := 0, locals := 21 } s m args below meth c H locs 0 0 (MQ below (eQ D cy z (rV r) g) args s 0 0 (fun q => z ≤ q)) (F0 m 112 ls []) := by
  obtain ⟨hx, hb, hr, hml, hown, hts, hlk⟩ := id C
  intro n
  induction n with
  | zero =>
    intro  h th H locs ls w  hl hE
    cases hE
  | succ n ih =>
    intro  h th H locs ls w  hl hE
    unfold f_Reader_nextToken_112 at hE
    refine lv_aload_n hx hb dX4_nextToken_112 rfl (lv_at hl 0 rfl) ?_
    refine w_gI (r := some th) (ci := 5) (k := 12) C w rfl (by decide) (GF_wsX40 _) (by decide) rfl (List.mem_cons_of_mem _ gw_10_14) rfl dX4_nextToken_113 hE (fun v1 e1 => ?_)
    refine lv_aload_n hx hb dX4_nextToken_116 rfl (lv_at hl 0 rfl) ?_
    refine w_gI (r := some th) (ci := 5) (k := 8) C w rfl (by decide) (GF_wsX40 _) (by decide) rfl (List.mem_cons_of_mem _ gw_10_9) rfl dX4_nextToken_117 e1 (fun v2 e2 => ?_)
    refine w_icmp_ge (tgt := 154) C dX4_nextToken_120 (by decide) e2 (fun hc e3 => ?_) (fun hc e3 => ?_)
    · exact b_Reader_nextToken_154 C N     h  _ _ ls w  (lv_sub hl [] rfl) e3
    · refine lv_aload_n hx hb dX4_nextToken_123 rfl (lv_at hl 0 rfl) ?_
      refine lv_aload_n hx hb dX4_nextToken_124 rfl (lv_at hl 0 rfl) ?_
      refine w_gI (r := some th) (ci := 5) (k := 12) C w rfl (by decide) (GF_wsX40 _) (by decide) rfl (List.mem_cons_of_mem _ gw_10_14) rfl dX4_nextToken_125 e3 (fun v3 e4 => ?_)
      refine w_VI GW_good (n := 1) (F := 0) (Lc := 0) (o := some th) (av := [.int v3]) (rest := []) C w rfl (by decide) (fun a r g hf => k_Reader_byteAt l D cy z N h a v3 r g hf) gw_10_21 gw_10_22 gw_10_23 gw_1_20 gw_11_0 (by decide +kernel) ⟨Nat.le_of_ble_eq_true rfl, Nat.le_of_ble_eq_true rfl⟩ rfl hl.1 rfl (Nat.le_of_ble_eq_true rfl) dX4_nextToken_128 (fun a => (sh_Reader_byteAt N h a v3)) ⟨by decide, by decide⟩ e4 (fun v4 h5 H locs w hsh5 e5 => ?_)
      refine w_SI GW_good (n := 1) (F := 0) (Lc := 0) (av := [.int v4]) (rest := []) C w (fun r g hf => k_Reader_tokenKind l D cy z N h5 v4 r g hf) gw_11_4 gw_11_5 gw_1_20 gw_11_6 (by decide +kernel) ⟨Nat.le_of_ble_eq_true rfl, Nat.le_of_ble_eq_true rfl⟩ rfl hl.1 rfl (Nat.le_of_ble_eq_true rfl) dX4_nextToken_131 (sh_Reader_tokenKind N h5 v4) ⟨by decide, by decide⟩ e5 (fun v6 h7 H locs w hsh7 e6 => ?_)
      refine lv_aload_n hx hb dX4_nextToken_134 rfl (lv_at hl 0 rfl) ?_
      refine w_gI (r := some th) (ci := 5) (k := 10) C w rfl (by decide) (GF_wsX40 _) (by decide) rfl (List.mem_cons_of_mem _ gw_10_15) rfl dX4_nextToken_135 e6 (fun v8 e7 => ?_)
      refine w_icmp_ne (tgt := 154) C dX4_nextToken_138 (by decide) e7 (fun hc e8 => ?_) (fun hc e8 => ?_)
      · exact b_Reader_nextToken_154 C N     h7  _ _ ls w  (lv_sub hl [] rfl) e8
      · refine lv_aload_n hx hb dX4_nextToken_141 rfl (lv_at hl 0 rfl) ?_
        refine lv_dup hx hb dX4_nextToken_142 rfl ?_
        refine w_gI (r := some th) (ci := 5) (k := 12) C w rfl (by decide) (GF_wsX40 _) (by decide) rfl (List.mem_cons_of_mem _ gw_10_14) rfl dX4_nextToken_143 e8 (fun v9 e9 => ?_)
        refine lv_iconst (v := 1) hx hb dX4_nextToken_146 (by decide) ?_
        refine lv_iadd hx hb dX4_nextToken_147 ?_
        refine w_pI (r := some th) (ci := 5) (k := 12) C w rfl (by decide) (by unfold roK; omega) (GF_wsX40 _) tyX4 tyX4_ok nmX4 (by decide) rfl (List.mem_cons_of_mem _ gw_10_14) rfl rfl (tyX4_ok 12 (by decide)) dX4_nextToken_148 e9 (fun h10 H locs w hsh10 e10 => ?_)
        refine lv_goto (tgt := 112) hx hb dX4_nextToken_151 (by decide) ?_
        exact ih  h10 th _ _ ls w  (lv_sub hl [0] rfl) e10
set_option maxRecDepth 20000 in
set_option maxHeartbeats 4000000 in
theorem b_Reader_nextToken_46 {p : Program} {l : Launch} {e : Env} {s : State} {m : MethodId} {args : Array Value} {below : List Frame} {meth : Method} {c : Code} {D : va_G} {cy : cyT} {z : Nat} (C : MX p s m args meth c cX4_nextToken 1 (none) RX4 (Cond.code yX4_nextToken cX4_nextToken 1 (none) :: GW)) (N : Nat) {r : Unit} {g : hS}  : ∀  (h : hS) (th : Nat) (H : Heap) (locs : List Loc) (ls : Array Slot), wd D cy z s 0 h H locs → lv_has ls 1 [(0, .ref th)] → f_Reader_nextToken_46 N   h th = some (r, g) → W p l e { frames := 1, cells := 0, slots := 0, locals := 21 } s m args below meth c H locs 0 0 (MQ below (eQ D cy z (rV r) g) args s 0 0 (fun q => z ≤ q)) (F0 m 46 ls []) := by
  obtain ⟨hx, hb, hr, hml, hown, hts, hlk⟩ := id C
  intro  h th H locs ls w  hl hE
  unfold f_Reader_nextToken_46 at hE
  refine lv_aload_n hx hb dX4_nextToken_46 rfl (lv_at hl 0 rfl) ?_
  refine lv_aload_n hx hb dX4_nextToken_47 rfl (lv_at hl 0 rfl) ?_
  refine w_gI (r := some th) (ci := 5) (k := 11) C w rfl (by decide) (GF_wsX40 _) (by decide) rfl (List.mem_cons_of_mem _ gw_10_20) rfl dX4_nextToken_48 hE (fun v1 e1 => ?_)
  refine w_pI (r := some th) (ci := 5) (k := 12) C w rfl (by decide) (by unfold roK; omega) (GF_wsX40 _) tyX4 tyX4_ok nmX4 (by decide) rfl (List.mem_cons_of_mem _ gw_10_14) rfl rfl (tyX4_ok 12 (by decide)) dX4_nextToken_51 e1 (fun h2 H locs w hsh2 e2 => ?_)
  refine lv_aload_n hx hb dX4_nextToken_54 rfl (lv_at hl 0 rfl) ?_
  refine w_gI (r := some th) (ci := 5) (k := 11) C w rfl (by decide) (GF_wsX40 _) (by decide) rfl (List.mem_cons_of_mem _ gw_10_20) rfl dX4_nextToken_55 e2 (fun v3 e3 => ?_)
  refine lv_aload_n hx hb dX4_nextToken_58 rfl (lv_at hl 0 rfl) ?_
  refine w_gI (r := some th) (ci := 5) (k := 8) C w rfl (by decide) (GF_wsX40 _) (by decide) rfl (List.mem_cons_of_mem _ gw_10_9) rfl dX4_nextToken_59 e3 (fun v4 e4 => ?_)
  refine w_icmp_lt (tgt := 71) C dX4_nextToken_62 (by decide) e4 (fun hc e5 => ?_) (fun hc e5 => ?_)
  · refine lv_aload_n hx hb dX4_nextToken_71 rfl (lv_at hl 0 rfl) ?_
    refine lv_aload_n hx hb dX4_nextToken_72 rfl (lv_at hl 0 rfl) ?_
    refine lv_aload_n hx hb dX4_nextToken_73 rfl (lv_at hl 0 rfl) ?_
    refine w_gI (r := some th) (ci := 5) (k := 11) C w rfl (by decide) (GF_wsX40 _) (by decide) rfl (List.mem_cons_of_mem _ gw_10_20) rfl dX4_nextToken_74 e5 (fun v5 e6 => ?_)
    refine w_VI GW_good (n := 1) (F := 0) (Lc := 0) (o := some th) (av := [.int v5]) (rest := [.ref th]) C w rfl (by decide) (fun a r g hf => k_Reader_byteAt l D cy z N h2 a v5 r g hf) gw_10_21 gw_10_22 gw_10_23 gw_1_20 gw_11_0 (by decide +kernel) ⟨Nat.le_of_ble_eq_true rfl, Nat.le_of_ble_eq_true rfl⟩ rfl hl.1 rfl (Nat.le_of_ble_eq_true rfl) dX4_nextToken_77 (fun a => (sh_Reader_byteAt N h2 a v5)) ⟨by decide, by decide⟩ e6 (fun v6 h7 H locs w hsh7 e7 => ?_)
    refine w_SI GW_good (n := 1) (F := 0) (Lc := 0) (av := [.int v6]) (rest := [.ref th]) C w (fun r g hf => k_Reader_tokenKind l D cy z N h7 v6 r g hf) gw_11_4 gw_11_5 gw_1_20 gw_11_6 (by decide +kernel) ⟨Nat.le_of_ble_eq_true rfl, Nat.le_of_ble_eq_true rfl⟩ rfl hl.1 rfl (Nat.le_of_ble_eq_true rfl) dX4_nextToken_80 (sh_Reader_tokenKind N h7 v6) ⟨by decide, by decide⟩ e7 (fun v8 h9 H locs w hsh9 e8 => ?_)
    refine w_pI (r := some th) (ci := 5) (k := 10) C w rfl (by decide) (by unfold roK; omega) (GF_wsX40 _) tyX4 tyX4_ok nmX4 (by decide) rfl (List.mem_cons_of_mem _ gw_10_15) rfl rfl (tyX4_ok 10 (by decide)) dX4_nextToken_83 e8 (fun h10 H locs w hsh10 e9 => ?_)
    refine lv_aload_n hx hb dX4_nextToken_86 rfl (lv_at hl 0 rfl) ?_
    refine lv_dup hx hb dX4_nextToken_87 rfl ?_
    refine w_gI (r := some th) (ci := 5) (k := 12) C w rfl (by decide) (GF_wsX40 _) (by decide) rfl (List.mem_cons_of_mem _ gw_10_14) rfl dX4_nextToken_88 e9 (fun v11 e10 => ?_)
    refine lv_iconst (v := 1) hx hb dX4_nextToken_91 (by decide) ?_
    refine lv_iadd hx hb dX4_nextToken_92 ?_
    refine w_pI (r := some th) (ci := 5) (k := 12) C w rfl (by decide) (by unfold roK; omega) (GF_wsX40 _) tyX4 tyX4_ok nmX4 (by decide) rfl (List.mem_cons_of_mem _ gw_10_14) rfl rfl (tyX4_ok 12 (by decide)) dX4_nextToken_93 e10 (fun h12 H locs w hsh12 e11 => ?_)
    refine lv_aload_n hx hb dX4_nextToken_96 rfl (lv_at hl 0 rfl) ?_
    refine w_gI (r := some th) (ci := 5) (k := 10) C w rfl (by decide) (GF_wsX40 _) (by decide) rfl (List.mem_cons_of_mem _ gw_10_15) rfl dX4_nextToken_97 e11 (fun v13 e12 => ?_)
    refine lv_iconst (v := 1) hx hb dX4_nextToken_100 (by decide) ?_
    refine w_icmp_eq (tgt := 112) C dX4_nextToken_101 (by decide) e12 (fun hc e13 => ?_) (fun hc e13 => ?_)
    · exact b_Reader_nextToken_112 C N   N  h12 th _ _ ls w  (lv_sub hl [0] rfl) e13
    · refine lv_aload_n hx hb dX4_nextToken_104 rfl (lv_at hl 0 rfl) ?_
      refine w_gI (r := some th) (ci := 5) (k := 10) C w rfl (by decide) (GF_wsX40 _) (by decide) rfl (List.mem_cons_of_mem _ gw_10_15) rfl dX4_nextToken_105 e13 (fun v14 e14 => ?_)
      refine lv_iconst (v := 2) hx hb dX4_nextToken_108 (by decide) ?_
      refine w_icmp_ne (tgt := 154) C dX4_nextToken_109 (by decide) e14 (fun hc e15 => ?_) (fun hc e15 => ?_)
      · exact b_Reader_nextToken_154 C N     h12  _ _ ls w  (lv_sub hl [] rfl) e15
      · exact b_Reader_nextToken_112 C N   N  h12 th _ _ ls w  (lv_sub hl [0] rfl) e15
  · refine lv_aload_n hx hb dX4_nextToken_65 rfl (lv_at hl 0 rfl) ?_
    refine lv_iconst (v := 0) hx hb dX4_nextToken_66 (by decide) ?_
    refine w_pI (r := some th) (ci := 5) (k := 10) C w rfl (by decide) (by unfold roK; omega) (GF_wsX40 _) tyX4 tyX4_ok nmX4 (by decide) rfl (List.mem_cons_of_mem _ gw_10_15) rfl rfl (tyX4_ok 10 (by decide)) dX4_nextToken_67 e5 (fun h15 H locs w hsh15 e16 => ?_)
    exact w_vret C w e16 dX4_nextToken_70
set_option maxRecDepth 20000 in
set_option maxHeartbeats 4000000 in
theorem b_Reader_nextToken_8 {p : Program} {l : Launch} {e : Env} {s : State} {m : MethodId} {args : Array Value} {below : List Frame} {meth : Method} {c : Code} {D : va_G} {cy : cyT} {z : Nat} (C : MX p s m args meth c cX4_nextToken 1 (none) RX4 (Cond.code yX4_nextToken cX4_nextToken 1 (none) :: GW)) (N : Nat) {r : Unit} {g : hS}  : ∀ (n : Nat) (h : hS) (th : Nat) (H : Heap) (locs : List Loc) (ls : Array Slot), wd D cy z s 0 h H locs → lv_has ls 1 [(0, .ref th)] → f_Reader_nextToken_8 N  n h th = some (r, g) → W p l e { frames := 1, cells := 0, slots := 0, locals := 21 } s m args below meth c H locs 0 0 (MQ below (eQ D cy z (rV r) g) args s 0 0 (fun q => z ≤ q)) (F0 m 8 ls []) := by
  obtain ⟨hx, hb, hr, hml, hown, hts, hlk⟩ := id C
  intro n
  induction n with
  | zero =>
    intro  h th H locs ls w  hl hE
    cases hE
  | succ n ih =>
    intro  h th H locs ls w  hl hE
    unfold f_Reader_nextToken_8 at hE
    refine lv_aload_n hx hb dX4_nextToken_8 rfl (lv_at hl 0 rfl) ?_
    refine w_gI (r := some th) (ci := 5) (k := 11) C w rfl (by decide) (GF_wsX40 _) (by decide) rfl (List.mem_cons_of_mem _ gw_10_20) rfl dX4_nextToken_9 hE (fun v1 e1 => ?_)
    refine lv_aload_n hx hb dX4_nextToken_12 rfl (lv_at hl 0 rfl) ?_
    refine w_gI (r := some th) (ci := 5) (k := 8) C w rfl (by decide) (GF_wsX40 _) (by decide) rfl (List.mem_cons_of_mem _ gw_10_9) rfl dX4_nextToken_13 e1 (fun v2 e2 => ?_)
    refine w_icmp_ge (tgt := 46) C dX4_nextToken_16 (by decide) e2 (fun hc e3 => ?_) (fun hc e3 => ?_)
    · exact b_Reader_nextToken_46 C N     h th _ _ ls w  (lv_sub hl [0] rfl) e3
    · refine lv_aload_n hx hb dX4_nextToken_19 rfl (lv_at hl 0 rfl) ?_
      refine lv_aload_n hx hb dX4_nextToken_20 rfl (lv_at hl 0 rfl) ?_
      refine w_gI (r := some th) (ci := 5) (k := 11) C w rfl (by decide) (GF_wsX40 _) (by decide) rfl (List.mem_cons_of_mem _ gw_10_20) rfl dX4_nextToken_21 e3 (fun v3 e4 => ?_)
      refine w_VI GW_good (n := 1) (F := 0) (Lc := 0) (o := some th) (av := [.int v3]) (rest := []) C w rfl (by decide) (fun a r g hf => k_Reader_byteAt l D cy z N h a v3 r g hf) gw_10_21 gw_10_22 gw_10_23 gw_1_20 gw_11_0 (by decide +kernel) ⟨Nat.le_of_ble_eq_true rfl, Nat.le_of_ble_eq_true rfl⟩ rfl hl.1 rfl (Nat.le_of_ble_eq_true rfl) dX4_nextToken_24 (fun a => (sh_Reader_byteAt N h a v3)) ⟨by decide, by decide⟩ e4 (fun v4 h5 H locs w hsh5 e5 => ?_)
      refine w_SI GW_good (n := 1) (F := 0) (Lc := 0) (av := [.int v4]) (rest := []) C w (fun r g hf => k_Reader_isBlank l D cy z N h5 v4 r g hf) gw_11_1 gw_11_2 gw_1_20 gw_11_3 (by decide +kernel) ⟨Nat.le_of_ble_eq_true rfl, Nat.le_of_ble_eq_true rfl⟩ rfl hl.1 rfl (Nat.le_of_ble_eq_true rfl) dX4_nextToken_27 (sh_Reader_isBlank N h5 v4) ⟨by decide, by decide⟩ e5 (fun v6 h7 H locs w hsh7 e6 => ?_)
      refine w_if_eq (tgt := 46) C dX4_nextToken_30 (by decide) e6 (fun hc e7 => ?_) (fun hc e7 => ?_)
      · exact b_Reader_nextToken_46 C N     h7 th _ _ ls w  (lv_sub hl [0] rfl) e7
      · refine lv_aload_n hx hb dX4_nextToken_33 rfl (lv_at hl 0 rfl) ?_
        refine lv_dup hx hb dX4_nextToken_34 rfl ?_
        refine w_gI (r := some th) (ci := 5) (k := 11) C w rfl (by decide) (GF_wsX40 _) (by decide) rfl (List.mem_cons_of_mem _ gw_10_20) rfl dX4_nextToken_35 e7 (fun v8 e8 => ?_)
        refine lv_iconst (v := 1) hx hb dX4_nextToken_38 (by decide) ?_
        refine lv_iadd hx hb dX4_nextToken_39 ?_
        refine w_pI (r := some th) (ci := 5) (k := 11) C w rfl (by decide) (by unfold roK; omega) (GF_wsX40 _) tyX4 tyX4_ok nmX4 (by decide) rfl (List.mem_cons_of_mem _ gw_10_20) rfl rfl (tyX4_ok 11 (by decide)) dX4_nextToken_40 e8 (fun h9 H locs w hsh9 e9 => ?_)
        refine lv_goto (tgt := 8) hx hb dX4_nextToken_43 (by decide) ?_
        exact ih  h9 th _ _ ls w  (lv_sub hl [0] rfl) e9
set_option maxRecDepth 20000 in
set_option maxHeartbeats 4000000 in
theorem k_Reader_nextToken (l : Launch) (D : va_G) (cy : cyT) (z : Nat) (N : Nat) (h : hS) (th : Nat) (r : Unit) (g : hS) (hE : f_Reader_nextToken N h th = some (r, g)) : ct l yX4_nextToken (Cond.code yX4_nextToken cX4_nextToken 1 (none) :: GW) { frames := 1, cells := 0, slots := 0, locals := 21 } D cy z h [.ref th] (rV r) g := by
  refine Met.ofW (cc := cX4_nextToken) (maxL := 1) (ret := none) (by decide) rfl ?_
  intro p e s m args below meth c s₁ B hml hv
  obtain ⟨rfl, hw⟩ := hv
  have C : MX p s m ([.ref th] : List Value).toArray meth c cX4_nextToken 1 (none) RX4 (Cond.code yX4_nextToken cX4_nextToken 1 (none) :: GW) := ⟨B.exec, B.bytes, B.returns, hml, findClass_of_methodNamed B.named, atoms_spec (ws := Cond.code yX4_nextToken cX4_nextToken 1 (none) :: GW) B.pre, B.notSynchronized⟩
  obtain ⟨hx, hb, hr, hml, hown, hts, hlk⟩ := id C
  have w := wd_of hw
  obtain ⟨ls, hen, hl⟩ : ∃ ls : Array Slot, entryFrame m ([.ref th] : List Value).toArray 1 = F0 m 0 ls [] ∧ lv_has ls 1 [(0, .ref th)] := by
    exact ⟨_, lg_entry_eq _ _ _, lv_entry _ (Nat.le_of_ble_eq_true rfl)⟩
  rw [hen]
  unfold f_Reader_nextToken at hE
  refine lv_aload_n hx hb dX4_nextToken_0 rfl (lv_at hl 0 rfl) ?_
  refine lv_aload_n hx hb dX4_nextToken_1 rfl (lv_at hl 0 rfl) ?_
  refine w_gI (r := some th) (ci := 5) (k := 12) C w rfl (by decide) (GF_wsX40 _) (by decide) rfl (List.mem_cons_of_mem _ gw_10_14) rfl dX4_nextToken_2 hE (fun v1 e1 => ?_)
  refine w_pI (r := some th) (ci := 5) (k := 11) C w rfl (by decide) (by unfold roK; omega) (GF_wsX40 _) tyX4 tyX4_ok nmX4 (by decide) rfl (List.mem_cons_of_mem _ gw_10_20) rfl rfl (tyX4_ok 11 (by decide)) dX4_nextToken_5 e1 (fun h2 H locs w hsh2 e2 => ?_)
  exact b_Reader_nextToken_8 C N   N  h2 th _ _ ls w  (lv_sub hl [0] rfl) e2
set_option maxRecDepth 20000 in
set_option maxHeartbeats 4000000 in
theorem k_K_wordOf (l : Launch) (D : va_G) (cy : cyT) (z : Nat) (N : Nat) (h : hS) (x0 : Int32) (r : Option Nat) (g : hS) (hE : f_K_wordOf N h x0 = some (r, g)) : ct l yX11_wordOf (Cond.code yX11_wordOf cX11_wordOf 1 ((some (.object "java/lang/String"))) :: GW) { frames := 0, cells := 0, slots := 0, locals := 0 } D cy z h [.int x0] (rR r) g := by
  refine Met.ofW (cc := cX11_wordOf) (maxL := 1) (ret := (some (.object "java/lang/String"))) (by decide) rfl ?_
  intro p e s m args below meth c s₁ B hml hv
  obtain ⟨rfl, hw⟩ := hv
  have C : MX p s m ([.int x0] : List Value).toArray meth c cX11_wordOf 1 ((some (.object "java/lang/String"))) RX11 (Cond.code yX11_wordOf cX11_wordOf 1 ((some (.object "java/lang/String"))) :: GW) := ⟨B.exec, B.bytes, B.returns, hml, findClass_of_methodNamed B.named, atoms_spec (ws := Cond.code yX11_wordOf cX11_wordOf 1 ((some (.object "java/lang/String"))) :: GW) B.pre, B.notSynchronized⟩
  obtain ⟨hx, hb, hr, hml, hown, hts, hlk⟩ := id C
  have w := wd_of hw
  obtain ⟨ls, hen, hl⟩ : ∃ ls : Array Slot, entryFrame m ([.int x0] : List Value).toArray 1 = F0 m 0 ls [] ∧ lv_has ls 1 [(0, .int x0)] := by
    exact ⟨_, lg_entry_eq _ _ _, lv_entry _ (Nat.le_of_ble_eq_true rfl)⟩
  rw [hen]
  unfold f_K_wordOf at hE
  refine lv_iload_n hx hb dX11_wordOf_0 rfl (lv_at hl 0 rfl) ?_
  refine w_case hE (fun hc e1 => ?_) (fun nc1_0 e1 => ?_)
  · refine w_tin (tgt := 52) C hc dX11_wordOf_1 (by decide) (by decide) rfl (by decide) ?_
    refine w_ldcSW (tx := "kink") (k := 8) C w (List.mem_of_getElem? (i := 4) rfl) dX11_wordOf_52 e1 (fun v1 e2 => ?_)
    exact w_aret (v := v1) (Or.inl ⟨_, rfl⟩) C w e2 dX11_wordOf_55
  ·
    refine w_case e1 (fun hc e3 => ?_) (fun nc1_1 e3 => ?_)
    · refine w_tin (tgt := 56) C hc dX11_wordOf_1 (by decide) (by decide) rfl (by decide) ?_
      refine w_ldcSW (tx := "over") (k := 9) C w (List.mem_of_getElem? (i := 5) rfl) dX11_wordOf_56 e3 (fun v2 e4 => ?_)
      exact w_aret (v := v2) (Or.inl ⟨_, rfl⟩) C w e4 dX11_wordOf_59
    ·
      refine w_case e3 (fun hc e5 => ?_) (fun nc1_2 e5 => ?_)
      · refine w_tin (tgt := 60) C hc dX11_wordOf_1 (by decide) (by decide) rfl (by decide) ?_
        refine w_ldcSW (tx := "under") (k := 10) C w (List.mem_of_getElem? (i := 6) rfl) dX11_wordOf_60 e5 (fun v3 e6 => ?_)
        exact w_aret (v := v3) (Or.inl ⟨_, rfl⟩) C w e6 dX11_wordOf_63
      ·
        refine w_case e5 (fun hc e7 => ?_) (fun nc1_3 e7 => ?_)
        · refine w_tin (tgt := 64) C hc dX11_wordOf_1 (by decide) (by decide) rfl (by decide) ?_
          refine w_ldcSW (tx := "drift") (k := 11) C w (List.mem_of_getElem? (i := 7) rfl) dX11_wordOf_64 e7 (fun v4 e8 => ?_)
          exact w_aret (v := v4) (Or.inl ⟨_, rfl⟩) C w e8 dX11_wordOf_67
        ·
          refine w_case e7 (fun hc e9 => ?_) (fun nc1_4 e9 => ?_)
          · refine w_tin (tgt := 68) C hc dX11_wordOf_1 (by decide) (by decide) rfl (by decide) ?_
            refine w_ldcSW (tx := "move") (k := 12) C w (List.mem_of_getElem? (i := 8) rfl) dX11_wordOf_68 e9 (fun v5 e10 => ?_)
            exact w_aret (v := v5) (Or.inl ⟨_, rfl⟩) C w e10 dX11_wordOf_71
          ·
            refine w_case e9 (fun hc e11 => ?_) (fun nc1_5 e11 => ?_)
            · refine w_tin (tgt := 72) C hc dX11_wordOf_1 (by decide) (by decide) rfl (by decide) ?_
              refine w_ldcSW (tx := "rise") (k := 13) C w (List.mem_of_getElem? (i := 9) rfl) dX11_wordOf_72 e11 (fun v6 e12 => ?_)
              exact w_aret (v := v6) (Or.inl ⟨_, rfl⟩) C w e12 dX11_wordOf_75
            ·
              refine w_case e11 (fun hc e13 => ?_) (fun nc1_6 e13 => ?_)
              · refine w_tin (tgt := 76) C hc dX11_wordOf_1 (by decide) (by decide) rfl (by decide) ?_
                refine w_ldcSW (tx := "fall") (k := 14) C w (List.mem_of_getElem? (i := 10) rfl) dX11_wordOf_76 e13 (fun v7 e14 => ?_)
                exact w_aret (v := v7) (Or.inl ⟨_, rfl⟩) C w e14 dX11_wordOf_79
              ·
                refine w_case e13 (fun hc e15 => ?_) (fun nc1_7 e15 => ?_)
                · refine w_tin (tgt := 80) C hc dX11_wordOf_1 (by decide) (by decide) rfl (by decide) ?_
                  refine w_ldcSW (tx := "plus") (k := 15) C w (List.mem_of_getElem? (i := 11) rfl) dX11_wordOf_80 e15 (fun v8 e16 => ?_)
                  exact w_aret (v := v8) (Or.inl ⟨_, rfl⟩) C w e16 dX11_wordOf_83
                ·
                  refine w_case e15 (fun hc e17 => ?_) (fun nc1_8 e17 => ?_)
                  · refine w_tin (tgt := 84) C hc dX11_wordOf_1 (by decide) (by decide) rfl (by decide) ?_
                    refine w_ldcSW (tx := "and") (k := 16) C w (List.mem_of_getElem? (i := 12) rfl) dX11_wordOf_84 e17 (fun v9 e18 => ?_)
                    exact w_aret (v := v9) (Or.inl ⟨_, rfl⟩) C w e18 dX11_wordOf_87
                  ·
                    refine w_tout (tgt := 88) 0 9 C (by decide) (by intro k hk; rcases (show k = 0 ∨ k = 1 ∨ k = 2 ∨ k = 3 ∨ k = 4 ∨ k = 5 ∨ k = 6 ∨ k = 7 ∨ k = 8 by omega) with rfl | rfl | rfl | rfl | rfl | rfl | rfl | rfl | rfl; all_goals assumption) rfl rfl dX11_wordOf_1 (by decide) ?_
                    refine w_ldcSW (tx := "") (k := 17) C w (List.mem_of_getElem? (i := 13) rfl) dX11_wordOf_88 e17 (fun v10 e19 => ?_)
                    exact w_aret (v := v10) (Or.inl ⟨_, rfl⟩) C w e19 dX11_wordOf_91
set_option maxRecDepth 20000 in
set_option maxHeartbeats 4000000 in
theorem b_Reader_isTokenWord_20 {p : Program} {l : Launch} {e : Env} {s : State} {m : MethodId} {args : Array Value} {below : List Frame} {meth : Method} {c : Code} {D : va_G} {cy : cyT} {z : Nat} (C : MX p s m args meth c cX4_isTokenWord 3 ((some .boolean)) RX4 (Cond.code yX4_isTokenWord cX4_isTokenWord 3 ((some .boolean)) :: GW)) (N : Nat) {r : Int32} {g : hS}  : ∀ (n : Nat) (h : hS) (th : Nat) (a1 : Option Nat) (x2 : Int32) (H : Heap) (locs : List Loc) (ls : Array Slot), wd D cy z s 0 h H locs → lv_has ls 3 [(0, .ref th), (1, va_rf a1), (2, .int x2)] → f_Reader_isTokenWord_20 N  n h th a1 x2 = some (r, g) → W p l e { frames := 4, cells := 0, slots := 0, locals := 85 } s m args below meth c H locs 0 0 (MQ below (eQ D cy z (rI r) g) args s 0 0 (fun q => z ≤ q)) (F0 m 20 ls []) := by
  obtain ⟨hx, hb, hr, hml, hown, hts, hlk⟩ := id C
  intro n
  induction n with
  | zero =>
    intro  h th a1 x2 H locs ls w  hl hE
    cases hE
  | succ n ih =>
    intro  h th a1 x2 H locs ls w  hl hE
    unfold f_Reader_isTokenWord_20 at hE
    refine lv_iload_n hx hb dX4_isTokenWord_20 rfl (lv_at hl 2 rfl) ?_
    refine w_aload_n C dX4_isTokenWord_21 rfl (lv_at hl 1 rfl) ?_
    refine w_VSI GW_good (n := 0) (F := 1) (Lc := 20) (o := a1) (av := []) (rest := [.int x2]) C w (fun a r g hf => k_Str_length_8abf5 l D cy z N h a  r g hf) gw_11_21 gw_11_22 gw_11_23 gw_12_0 gw_12_1 (by decide +kernel) ⟨Nat.le_of_ble_eq_true rfl, Nat.le_of_ble_eq_true rfl⟩ rfl hl.1 rfl (Nat.le_of_ble_eq_true rfl) dX4_isTokenWord_22 (fun a => (sh_Str_length_8abf5 N h a )) ⟨by decide, by decide⟩ hE (fun v1 h2 H locs w hsh2 e1 => ?_)
    refine w_icmp_ge (tgt := 54) C dX4_isTokenWord_25 (by decide) e1 (fun hc e2 => ?_) (fun hc e2 => ?_)
    · refine lv_iconst (v := 1) hx hb dX4_isTokenWord_54 (by decide) ?_
      exact w_zret C w e2 dX4_isTokenWord_55
    · refine w_aload_n C dX4_isTokenWord_28 rfl (lv_at hl 1 rfl) ?_
      refine lv_iload_n hx hb dX4_isTokenWord_29 rfl (lv_at hl 2 rfl) ?_
      refine w_VSI GW_good (n := 1) (F := 3) (Lc := 64) (o := a1) (av := [.int x2]) (rest := []) C w (fun a r g hf => k_Str_charAt_5068e l D cy z N h2 a x2 r g hf) gw_12_9 gw_12_10 gw_12_11 gw_12_0 gw_12_12 (by decide +kernel) ⟨Nat.le_of_ble_eq_true rfl, Nat.le_of_ble_eq_true rfl⟩ rfl hl.1 rfl (Nat.le_of_ble_eq_true rfl) dX4_isTokenWord_30 (fun a => (sh_Str_charAt_5068e N h2 a x2)) ⟨by decide, by decide⟩ e2 (fun v3 h4 H locs w hsh4 e3 => ?_)
      refine lv_aload_n hx hb dX4_isTokenWord_33 rfl (lv_at hl 0 rfl) ?_
      refine lv_aload_n hx hb dX4_isTokenWord_34 rfl (lv_at hl 0 rfl) ?_
      refine w_gI (r := some th) (ci := 5) (k := 11) C w rfl (by decide) (GF_wsX40 _) (by decide) rfl (List.mem_cons_of_mem _ gw_10_20) rfl dX4_isTokenWord_35 e3 (fun v5 e4 => ?_)
      refine lv_iload_n hx hb dX4_isTokenWord_38 rfl (lv_at hl 2 rfl) ?_
      refine lv_iadd hx hb dX4_isTokenWord_39 ?_
      refine w_VI GW_good (n := 1) (F := 0) (Lc := 0) (o := some th) (av := [.int (v5 + x2)]) (rest := [.int v3]) C w rfl (by decide) (fun a r g hf => k_Reader_byteAt l D cy z N h4 a (v5 + x2) r g hf) gw_10_21 gw_10_22 gw_10_23 gw_1_20 gw_11_0 (by decide +kernel) ⟨Nat.le_of_ble_eq_true rfl, Nat.le_of_ble_eq_true rfl⟩ rfl hl.1 rfl (Nat.le_of_ble_eq_true rfl) dX4_isTokenWord_40 (fun a => (sh_Reader_byteAt N h4 a (v5 + x2))) ⟨by decide, by decide⟩ e4 (fun v6 h7 H locs w hsh7 e5 => ?_)
      refine w_icmp_eq (tgt := 48) C dX4_isTokenWord_43 (by decide) e5 (fun hc e6 => ?_) (fun hc e6 => ?_)
      · obtain ⟨v8, ev8, e7⟩ := bn_some e6
        refine lv_iinc (v := v8) (lv' := [(2, .int v8), (0, .ref th), (1, va_rf a1)]) hx hb dX4_isTokenWord_48 hl (k := 2) rfl (by rw [ev8]; rfl) (by decide) (by cases a1 <;> rfl) (fun ls hl => ?_)
        refine lv_goto (tgt := 20) hx hb dX4_isTokenWord_51 (by decide) ?_
        exact ih  h7 th a1 v8 _ _ ls w  (lv_sub hl [1, 2, 0] rfl) e7
      · refine lv_iconst (v := 0) hx hb dX4_isTokenWord_46 (by decide) ?_
        exact w_zret C w e6 dX4_isTokenWord_47
set_option maxRecDepth 20000 in
set_option maxHeartbeats 4000000 in
theorem k_Reader_isTokenWord (l : Launch) (D : va_G) (cy : cyT) (z : Nat) (N : Nat) (h : hS) (th : Nat) (a1 : Option Nat) (r : Int32) (g : hS) (hE : f_Reader_isTokenWord N h th a1 = some (r, g)) : ct l yX4_isTokenWord (Cond.code yX4_isTokenWord cX4_isTokenWord 3 ((some .boolean)) :: GW) { frames := 4, cells := 0, slots := 0, locals := 85 } D cy z h [.ref th, va_rf a1] (rI r) g := by
  refine Met.ofW (cc := cX4_isTokenWord) (maxL := 3) (ret := (some .boolean)) (by decide) rfl ?_
  intro p e s m args below meth c s₁ B hml hv
  obtain ⟨rfl, hw⟩ := hv
  have C : MX p s m ([.ref th, va_rf a1] : List Value).toArray meth c cX4_isTokenWord 3 ((some .boolean)) RX4 (Cond.code yX4_isTokenWord cX4_isTokenWord 3 ((some .boolean)) :: GW) := ⟨B.exec, B.bytes, B.returns, hml, findClass_of_methodNamed B.named, atoms_spec (ws := Cond.code yX4_isTokenWord cX4_isTokenWord 3 ((some .boolean)) :: GW) B.pre, B.notSynchronized⟩
  obtain ⟨hx, hb, hr, hml, hown, hts, hlk⟩ := id C
  have w := wd_of hw
  obtain ⟨ls, hen, hl⟩ : ∃ ls : Array Slot, entryFrame m ([.ref th, va_rf a1] : List Value).toArray 3 = F0 m 0 ls [] ∧ lv_has ls 3 [(0, .ref th), (1, va_rf a1)] := by
    cases a1 <;> exact ⟨_, lg_entry_eq _ _ _, lv_entry _ (Nat.le_of_ble_eq_true rfl)⟩
  rw [hen]
  unfold f_Reader_isTokenWord at hE
  refine w_aload_n C dX4_isTokenWord_0 rfl (lv_at hl 1 rfl) ?_
  refine w_VSI GW_good (n := 0) (F := 1) (Lc := 20) (o := a1) (av := []) (rest := []) C w (fun a r g hf => k_Str_length_8abf5 l D cy z N h a  r g hf) gw_11_21 gw_11_22 gw_11_23 gw_12_0 gw_12_1 (by decide +kernel) ⟨Nat.le_of_ble_eq_true rfl, Nat.le_of_ble_eq_true rfl⟩ rfl hl.1 rfl (Nat.le_of_ble_eq_true rfl) dX4_isTokenWord_1 (fun a => (sh_Str_length_8abf5 N h a )) ⟨by decide, by decide⟩ hE (fun v1 h2 H locs w hsh2 e1 => ?_)
  refine lv_aload_n hx hb dX4_isTokenWord_4 rfl (lv_at hl 0 rfl) ?_
  refine w_gI (r := some th) (ci := 5) (k := 12) C w rfl (by decide) (GF_wsX40 _) (by decide) rfl (List.mem_cons_of_mem _ gw_10_14) rfl dX4_isTokenWord_5 e1 (fun v3 e2 => ?_)
  refine lv_aload_n hx hb dX4_isTokenWord_8 rfl (lv_at hl 0 rfl) ?_
  refine w_gI (r := some th) (ci := 5) (k := 11) C w rfl (by decide) (GF_wsX40 _) (by decide) rfl (List.mem_cons_of_mem _ gw_10_20) rfl dX4_isTokenWord_9 e2 (fun v4 e3 => ?_)
  refine lv_isub hx hb dX4_isTokenWord_12 ?_
  refine w_icmp_eq (tgt := 18) C dX4_isTokenWord_13 (by decide) e3 (fun hc e4 => ?_) (fun hc e4 => ?_)
  · refine lv_iconst (v := 0) hx hb dX4_isTokenWord_18 (by decide) ?_
    refine lv_istore_n (lv' := [(2, .int (0 : Int32)), (0, .ref th), (1, va_rf a1)]) hx hb dX4_isTokenWord_19 rfl hl (by decide) (by cases a1 <;> rfl) (fun ls hl => ?_)
    exact b_Reader_isTokenWord_20 C N   N  h2 th a1 (0 : Int32) _ _ ls w  (lv_sub hl [1, 2, 0] rfl) e4
  · refine lv_iconst (v := 0) hx hb dX4_isTokenWord_16 (by decide) ?_
    exact w_zret C w e4 dX4_isTokenWord_17
set_option maxRecDepth 20000 in
set_option maxHeartbeats 4000000 in
theorem b_Reader_kindOfToken_2 {p : Program} {l : Launch} {e : Env} {s : State} {m : MethodId} {args : Array Value} {below : List Frame} {meth : Method} {c : Code} {D : va_G} {cy : cyT} {z : Nat} (C : MX p s m args meth c cX4_kindOfToken 2 ((some .int)) RX4 (Cond.code yX4_kindOfToken cX4_kindOfToken 2 ((some .int)) :: GW)) (N : Nat) {r : Int32} {g : hS}  : ∀ (n : Nat) (h : hS) (th : Nat) (x1 : Int32) (H : Heap) (locs : List Loc) (ls : Array Slot), wd D cy z s 0 h H locs → lv_has ls 2 [(0, .ref th), (1, .int x1)] → f_Reader_kindOfToken_2 N  n h th x1 = some (r, g) → W p l e { frames := 5, cells := 0, slots := 0, locals := 107 } s m args below meth c H locs 0 0 (MQ below (eQ D cy z (rI r) g) args s 0 0 (fun q => z ≤ q)) (F0 m 2 ls []) := by
  obtain ⟨hx, hb, hr, hml, hown, hts, hlk⟩ := id C
  intro n
  induction n with
  | zero =>
    intro  h th x1 H locs ls w  hl hE
    cases hE
  | succ n ih =>
    intro  h th x1 H locs ls w  hl hE
    unfold f_Reader_kindOfToken_2 at hE
    refine lv_iload_n hx hb dX4_kindOfToken_2 rfl (lv_at hl 1 rfl) ?_
    refine lv_bipush (v := 9) hx hb dX4_kindOfToken_3 (by decide) ?_
    refine w_icmp_ge (tgt := 27) C dX4_kindOfToken_5 (by decide) hE (fun hc e1 => ?_) (fun hc e1 => ?_)
    · refine lv_iconst (v := -1) hx hb dX4_kindOfToken_27 (by decide) ?_
      exact w_iret C w e1 dX4_kindOfToken_28
    · refine lv_aload_n hx hb dX4_kindOfToken_8 rfl (lv_at hl 0 rfl) ?_
      refine lv_iload_n hx hb dX4_kindOfToken_9 rfl (lv_at hl 1 rfl) ?_
      refine w_SNR GW_good (n := 1) (F := 0) (Lc := 0) (av := [.int x1]) (rest := [.ref th]) C w (fun r g hf => k_K_wordOf l D cy z N h x1 r g hf) (List.mem_of_getElem? (i := 3) rfl) gw_11_15 gw_1_2 gw_11_16 (by decide +kernel) ⟨Nat.le_of_ble_eq_true rfl, Nat.le_of_ble_eq_true rfl⟩ rfl hl.1 rfl (Nat.le_of_ble_eq_true rfl) dX4_kindOfToken_10 (sh_K_wordOf N h x1) ⟨by decide, by decide⟩ e1 (fun v1 h2 H locs w hsh2 e2 => ?_)
      refine w_VI GW_good (n := 1) (F := 4) (Lc := 85) (o := some th) (av := [va_rf v1]) (rest := []) C w rfl (by decide) (fun a r g hf => k_Reader_isTokenWord l D cy z N h2 a v1 r g hf) gw_11_17 gw_11_18 gw_11_19 gw_1_20 gw_11_20 (by decide +kernel) ⟨Nat.le_of_ble_eq_true rfl, Nat.le_of_ble_eq_true rfl⟩ rfl hl.1 rfl (Nat.le_of_ble_eq_true rfl) dX4_kindOfToken_13 (fun a => (sh_Reader_isTokenWord N h2 a v1)) ⟨by decide, by decide⟩ e2 (fun v3 h4 H locs w hsh4 e3 => ?_)
      refine w_if_eq (tgt := 21) C dX4_kindOfToken_16 (by decide) e3 (fun hc e4 => ?_) (fun hc e4 => ?_)
      · obtain ⟨v5, ev5, e5⟩ := bn_some e4
        refine lv_iinc (v := v5) (lv' := [(1, .int v5), (0, .ref th)]) hx hb dX4_kindOfToken_21 hl (k := 1) rfl (by rw [ev5]; rfl) (by decide) rfl (fun ls hl => ?_)
        refine lv_goto (tgt := 2) hx hb dX4_kindOfToken_24 (by decide) ?_
        exact ih  h4 th v5 _ _ ls w  (lv_sub hl [1, 0] rfl) e5
      · refine lv_iload_n hx hb dX4_kindOfToken_19 rfl (lv_at hl 1 rfl) ?_
        exact w_iret C w e4 dX4_kindOfToken_20
set_option maxRecDepth 20000 in
set_option maxHeartbeats 4000000 in
theorem k_Reader_kindOfToken (l : Launch) (D : va_G) (cy : cyT) (z : Nat) (N : Nat) (h : hS) (th : Nat) (r : Int32) (g : hS) (hE : f_Reader_kindOfToken N h th = some (r, g)) : ct l yX4_kindOfToken (Cond.code yX4_kindOfToken cX4_kindOfToken 2 ((some .int)) :: GW) { frames := 5, cells := 0, slots := 0, locals := 107 } D cy z h [.ref th] (rI r) g := by
  refine Met.ofW (cc := cX4_kindOfToken) (maxL := 2) (ret := (some .int)) (by decide) rfl ?_
  intro p e s m args below meth c s₁ B hml hv
  obtain ⟨rfl, hw⟩ := hv
  have C : MX p s m ([.ref th] : List Value).toArray meth c cX4_kindOfToken 2 ((some .int)) RX4 (Cond.code yX4_kindOfToken cX4_kindOfToken 2 ((some .int)) :: GW) := ⟨B.exec, B.bytes, B.returns, hml, findClass_of_methodNamed B.named, atoms_spec (ws := Cond.code yX4_kindOfToken cX4_kindOfToken 2 ((some .int)) :: GW) B.pre, B.notSynchronized⟩
  obtain ⟨hx, hb, hr, hml, hown, hts, hlk⟩ := id C
  have w := wd_of hw
  obtain ⟨ls, hen, hl⟩ : ∃ ls : Array Slot, entryFrame m ([.ref th] : List Value).toArray 2 = F0 m 0 ls [] ∧ lv_has ls 2 [(0, .ref th)] := by
    exact ⟨_, lg_entry_eq _ _ _, lv_entry _ (Nat.le_of_ble_eq_true rfl)⟩
  rw [hen]
  unfold f_Reader_kindOfToken at hE
  refine lv_iconst (v := 0) hx hb dX4_kindOfToken_0 (by decide) ?_
  refine lv_istore_n (lv' := [(1, .int (0 : Int32)), (0, .ref th)]) hx hb dX4_kindOfToken_1 rfl hl (by decide) rfl (fun ls hl => ?_)
  exact b_Reader_kindOfToken_2 C N   N  h th (0 : Int32) _ _ ls w  (lv_sub hl [1, 0] rfl) hE
set_option maxRecDepth 20000 in
set_option maxHeartbeats 4000000 in
theorem k_Reader_fail (l : Launch) (D : va_G) (cy : cyT) (z : Nat) (N : Nat) (h : hS) (th : Nat) (x1 : Int32) (r : Unit) (g : hS) (hE : f_Reader_fail N h th x1 = some (r, g)) : ct l yX4_fail (Cond.code yX4_fail cX4_fail 2 (none) :: GW) { frames := 0, cells := 0, slots := 0, locals := 0 } D cy z h [.ref th, .int x1] (rV r) g := by
  refine Met.ofW (cc := cX4_fail) (maxL := 2) (ret := none) (by decide) rfl ?_
  intro p e s m args below meth c s₁ B hml hv
  obtain ⟨rfl, hw⟩ := hv
  have C : MX p s m ([.ref th, .int x1] : List Value).toArray meth c cX4_fail 2 (none) RX4 (Cond.code yX4_fail cX4_fail 2 (none) :: GW) := ⟨B.exec, B.bytes, B.returns, hml, findClass_of_methodNamed B.named, atoms_spec (ws := Cond.code yX4_fail cX4_fail 2 (none) :: GW) B.pre, B.notSynchronized⟩
  obtain ⟨hx, hb, hr, hml, hown, hts, hlk⟩ := id C
  have w := wd_of hw
  obtain ⟨ls, hen, hl⟩ : ∃ ls : Array Slot, entryFrame m ([.ref th, .int x1] : List Value).toArray 2 = F0 m 0 ls [] ∧ lv_has ls 2 [(0, .ref th), (1, .int x1)] := by
    exact ⟨_, lg_entry_eq _ _ _, lv_entry _ (Nat.le_of_ble_eq_true rfl)⟩
  rw [hen]
  unfold f_Reader_fail at hE
  refine lv_aload_n hx hb dX4_fail_0 rfl (lv_at hl 0 rfl) ?_
  refine lv_iload_n hx hb dX4_fail_1 rfl (lv_at hl 1 rfl) ?_
  refine w_pI (r := some th) (ci := 5) (k := 5) C w rfl (by decide) (by unfold roK; omega) (GF_wsX40 _) tyX4 tyX4_ok nmX4 (by decide) rfl (List.mem_cons_of_mem _ gw_10_12) rfl rfl (tyX4_ok 5 (by decide)) dX4_fail_2 hE (fun h1 H locs w hsh1 e1 => ?_)
  refine lv_aload_n hx hb dX4_fail_5 rfl (lv_at hl 0 rfl) ?_
  refine lv_aload_n hx hb dX4_fail_6 rfl (lv_at hl 0 rfl) ?_
  refine w_gI (r := some th) (ci := 5) (k := 11) C w rfl (by decide) (GF_wsX40 _) (by decide) rfl (List.mem_cons_of_mem _ gw_10_20) rfl dX4_fail_7 e1 (fun v2 e2 => ?_)
  refine w_pI (r := some th) (ci := 5) (k := 6) C w rfl (by decide) (by unfold roK; omega) (GF_wsX40 _) tyX4 tyX4_ok nmX4 (by decide) rfl (List.mem_cons_of_mem _ gw_10_13) rfl rfl (tyX4_ok 6 (by decide)) dX4_fail_10 e2 (fun h3 H locs w hsh3 e3 => ?_)
  exact w_vret C w e3 dX4_fail_13
set_option maxRecDepth 20000 in
set_option maxHeartbeats 4000000 in
theorem b_K_isKind_15 {p : Program} {l : Launch} {e : Env} {s : State} {m : MethodId} {args : Array Value} {below : List Frame} {meth : Method} {c : Code} {D : va_G} {cy : cyT} {z : Nat} (C : MX p s m args meth c cX11_isKind 1 ((some .boolean)) RX11 (Cond.code yX11_isKind cX11_isKind 1 ((some .boolean)) :: GW)) (N : Nat) {r : Int32} {g : hS}  : ∀  (h : hS) (y0 : Int32) (H : Heap) (locs : List Loc) (ls : Array Slot), wd D cy z s 0 h H locs → lv_has ls 1 [] → f_K_isKind_15 N   h y0 = some (r, g) → W p l e { frames := 0, cells := 0, slots := 0, locals := 0 } s m args below meth c H locs 0 0 (MQ below (eQ D cy z (rI r) g) args s 0 0 (fun q => z ≤ q)) (F0 m 15 ls [.int y0]) := by
  obtain ⟨hx, hb, hr, hml, hown, hts, hlk⟩ := id C
  intro  h y0 H locs ls w  hl hE
  unfold f_K_isKind_15 at hE
  exact w_zret C w hE dX11_isKind_15
set_option maxRecDepth 20000 in
set_option maxHeartbeats 4000000 in
theorem b_K_isKind_14 {p : Program} {l : Launch} {e : Env} {s : State} {m : MethodId} {args : Array Value} {below : List Frame} {meth : Method} {c : Code} {D : va_G} {cy : cyT} {z : Nat} (C : MX p s m args meth c cX11_isKind 1 ((some .boolean)) RX11 (Cond.code yX11_isKind cX11_isKind 1 ((some .boolean)) :: GW)) (N : Nat) {r : Int32} {g : hS}  : ∀  (h : hS)  (H : Heap) (locs : List Loc) (ls : Array Slot), wd D cy z s 0 h H locs → lv_has ls 1 [] → f_K_isKind_14 N   h  = some (r, g) → W p l e { frames := 0, cells := 0, slots := 0, locals := 0 } s m args below meth c H locs 0 0 (MQ below (eQ D cy z (rI r) g) args s 0 0 (fun q => z ≤ q)) (F0 m 14 ls []) := by
  obtain ⟨hx, hb, hr, hml, hown, hts, hlk⟩ := id C
  intro  h  H locs ls w  hl hE
  unfold f_K_isKind_14 at hE
  refine lv_iconst (v := 0) hx hb dX11_isKind_14 (by decide) ?_
  exact b_K_isKind_15 C N     h (0 : Int32) _ _ ls w  (lv_sub hl [] rfl) hE
set_option maxRecDepth 20000 in
set_option maxHeartbeats 4000000 in
theorem k_K_isKind (l : Launch) (D : va_G) (cy : cyT) (z : Nat) (N : Nat) (h : hS) (x0 : Int32) (r : Int32) (g : hS) (hE : f_K_isKind N h x0 = some (r, g)) : ct l yX11_isKind (Cond.code yX11_isKind cX11_isKind 1 ((some .boolean)) :: GW) { frames := 0, cells := 0, slots := 0, locals := 0 } D cy z h [.int x0] (rI r) g := by
  refine Met.ofW (cc := cX11_isKind) (maxL := 1) (ret := (some .boolean)) (by decide) rfl ?_
  intro p e s m args below meth c s₁ B hml hv
  obtain ⟨rfl, hw⟩ := hv
  have C : MX p s m ([.int x0] : List Value).toArray meth c cX11_isKind 1 ((some .boolean)) RX11 (Cond.code yX11_isKind cX11_isKind 1 ((some .boolean)) :: GW) := ⟨B.exec, B.bytes, B.returns, hml, findClass_of_methodNamed B.named, atoms_spec (ws := Cond.code yX11_isKind cX11_isKind 1 ((some .boolean)) :: GW) B.pre, B.notSynchronized⟩
  obtain ⟨hx, hb, hr, hml, hown, hts, hlk⟩ := id C
  have w := wd_of hw
  obtain ⟨ls, hen, hl⟩ : ∃ ls : Array Slot, entryFrame m ([.int x0] : List Value).toArray 1 = F0 m 0 ls [] ∧ lv_has ls 1 [(0, .int x0)] := by
    exact ⟨_, lg_entry_eq _ _ _, lv_entry _ (Nat.le_of_ble_eq_true rfl)⟩
  rw [hen]
  unfold f_K_isKind at hE
  refine lv_iload_n hx hb dX11_isKind_0 rfl (lv_at hl 0 rfl) ?_
  refine w_if_lt (tgt := 14) C dX11_isKind_1 (by decide) hE (fun hc e1 => ?_) (fun hc e1 => ?_)
  · exact b_K_isKind_14 C N     h  _ _ ls w  (lv_sub hl [] rfl) e1
  · refine lv_iload_n hx hb dX11_isKind_4 rfl (lv_at hl 0 rfl) ?_
    refine lv_bipush (v := 9) hx hb dX11_isKind_5 (by decide) ?_
    refine w_icmp_ge (tgt := 14) C dX11_isKind_7 (by decide) e1 (fun hc e2 => ?_) (fun hc e2 => ?_)
    · exact b_K_isKind_14 C N     h  _ _ ls w  (lv_sub hl [] rfl) e2
    · refine lv_iconst (v := 1) hx hb dX11_isKind_10 (by decide) ?_
      refine lv_goto (tgt := 15) hx hb dX11_isKind_11 (by decide) ?_
      exact b_K_isKind_15 C N     h (1 : Int32) _ _ ls w  (lv_sub hl [] rfl) e2
set_option maxRecDepth 20000 in
set_option maxHeartbeats 4000000 in
theorem b_K_numbersOf_16 {p : Program} {l : Launch} {e : Env} {s : State} {m : MethodId} {args : Array Value} {below : List Frame} {meth : Method} {c : Code} {D : va_G} {cy : cyT} {z : Nat} (C : MX p s m args meth c cX11_numbersOf 1 ((some .int)) RX11 (Cond.code yX11_numbersOf cX11_numbersOf 1 ((some .int)) :: GW)) (N : Nat) {r : Int32} {g : hS}  : ∀  (h : hS) (y0 : Int32) (H : Heap) (locs : List Loc) (ls : Array Slot), wd D cy z s 0 h H locs → lv_has ls 1 [] → f_K_numbersOf_16 N   h y0 = some (r, g) → W p l e { frames := 1, cells := 0, slots := 0, locals := 20 } s m args below meth c H locs 0 0 (MQ below (eQ D cy z (rI r) g) args s 0 0 (fun q => z ≤ q)) (F0 m 16 ls [.int y0]) := by
  obtain ⟨hx, hb, hr, hml, hown, hts, hlk⟩ := id C
  intro  h y0 H locs ls w  hl hE
  unfold f_K_numbersOf_16 at hE
  exact w_iret C w hE dX11_numbersOf_16
set_option maxRecDepth 20000 in
set_option maxHeartbeats 4000000 in
theorem k_K_numbersOf (l : Launch) (D : va_G) (cy : cyT) (z : Nat) (N : Nat) (h : hS) (x0 : Int32) (r : Int32) (g : hS) (hE : f_K_numbersOf N h x0 = some (r, g)) : ct l yX11_numbersOf (Cond.code yX11_numbersOf cX11_numbersOf 1 ((some .int)) :: GW) { frames := 1, cells := 0, slots := 0, locals := 20 } D cy z h [.int x0] (rI r) g := by
  refine Met.ofW (cc := cX11_numbersOf) (maxL := 1) (ret := (some .int)) (by decide) rfl ?_
  intro p e s m args below meth c s₁ B hml hv
  obtain ⟨rfl, hw⟩ := hv
  have C : MX p s m ([.int x0] : List Value).toArray meth c cX11_numbersOf 1 ((some .int)) RX11 (Cond.code yX11_numbersOf cX11_numbersOf 1 ((some .int)) :: GW) := ⟨B.exec, B.bytes, B.returns, hml, findClass_of_methodNamed B.named, atoms_spec (ws := Cond.code yX11_numbersOf cX11_numbersOf 1 ((some .int)) :: GW) B.pre, B.notSynchronized⟩
  obtain ⟨hx, hb, hr, hml, hown, hts, hlk⟩ := id C
  have w := wd_of hw
  obtain ⟨ls, hen, hl⟩ : ∃ ls : Array Slot, entryFrame m ([.int x0] : List Value).toArray 1 = F0 m 0 ls [] ∧ lv_has ls 1 [(0, .int x0)] := by
    exact ⟨_, lg_entry_eq _ _ _, lv_entry _ (Nat.le_of_ble_eq_true rfl)⟩
  rw [hen]
  unfold f_K_numbersOf at hE
  refine lv_iload_n hx hb dX11_numbersOf_0 rfl (lv_at hl 0 rfl) ?_
  refine w_SI GW_good (n := 1) (F := 0) (Lc := 0) (av := [.int x0]) (rest := []) C w (fun r g hf => k_K_isKind l D cy z N h x0 r g hf) gw_14_9 gw_14_10 gw_1_2 gw_14_11 (by decide +kernel) ⟨Nat.le_of_ble_eq_true rfl, Nat.le_of_ble_eq_true rfl⟩ rfl hl.1 rfl (Nat.le_of_ble_eq_true rfl) dX11_numbersOf_1 (sh_K_isKind N h x0) ⟨by decide, by decide⟩ hE (fun v1 h2 H locs w hsh2 e1 => ?_)
  refine w_if_eq (tgt := 15) C dX11_numbersOf_4 (by decide) e1 (fun hc e2 => ?_) (fun hc e2 => ?_)
  · refine lv_iconst (v := 0) hx hb dX11_numbersOf_15 (by decide) ?_
    exact b_K_numbersOf_16 C N     h2 (0 : Int32) _ _ ls w  (lv_sub hl [] rfl) e2
  · refine w_gsR (k := 1) C w (List.mem_of_getElem? (i := 2) rfl) (List.mem_cons_of_mem _ gw_14_8) rfl dX11_numbersOf_7 e2 (fun v3 e3 => ?_)
    refine lv_iload_n hx hb dX11_numbersOf_10 rfl (lv_at hl 0 rfl) ?_
    refine w_aI56 (r := v3) C w dX11_numbersOf_11 e3 (fun v4 e4 => ?_)
    refine lv_goto (tgt := 16) hx hb dX11_numbersOf_12 (by decide) ?_
    exact b_K_numbersOf_16 C N     h2 v4 _ _ ls w  (lv_sub hl [] rfl) e4
set_option maxRecDepth 20000 in
set_option maxHeartbeats 4000000 in
theorem b_Reader_isSign_25 {p : Program} {l : Launch} {e : Env} {s : State} {m : MethodId} {args : Array Value} {below : List Frame} {meth : Method} {c : Code} {D : va_G} {cy : cyT} {z : Nat} (C : MX p s m args meth c cX4_isSign 2 ((some .boolean)) RX4 (Cond.code yX4_isSign cX4_isSign 2 ((some .boolean)) :: GW)) (N : Nat) {r : Int32} {g : hS}  : ∀  (h : hS) (y0 : Int32) (H : Heap) (locs : List Loc) (ls : Array Slot), wd D cy z s 0 h H locs → lv_has ls 2 [] → f_Reader_isSign_25 N   h y0 = some (r, g) → W p l e { frames := 1, cells := 0, slots := 0, locals := 21 } s m args below meth c H locs 0 0 (MQ below (eQ D cy z (rI r) g) args s 0 0 (fun q => z ≤ q)) (F0 m 25 ls [.int y0]) := by
  obtain ⟨hx, hb, hr, hml, hown, hts, hlk⟩ := id C
  intro  h y0 H locs ls w  hl hE
  unfold f_Reader_isSign_25 at hE
  exact w_zret C w hE dX4_isSign_25
set_option maxRecDepth 20000 in
set_option maxHeartbeats 4000000 in
theorem b_Reader_isSign_24 {p : Program} {l : Launch} {e : Env} {s : State} {m : MethodId} {args : Array Value} {below : List Frame} {meth : Method} {c : Code} {D : va_G} {cy : cyT} {z : Nat} (C : MX p s m args meth c cX4_isSign 2 ((some .boolean)) RX4 (Cond.code yX4_isSign cX4_isSign 2 ((some .boolean)) :: GW)) (N : Nat) {r : Int32} {g : hS}  : ∀  (h : hS)  (H : Heap) (locs : List Loc) (ls : Array Slot), wd D cy z s 0 h H locs → lv_has ls 2 [] → f_Reader_isSign_24 N   h  = some (r, g) → W p l e { frames := 1, cells := 0, slots := 0, locals := 21 } s m args below meth c H locs 0 0 (MQ below (eQ D cy z (rI r) g) args s 0 0 (fun q => z ≤ q)) (F0 m 24 ls []) := by
  obtain ⟨hx, hb, hr, hml, hown, hts, hlk⟩ := id C
  intro  h  H locs ls w  hl hE
  unfold f_Reader_isSign_24 at hE
  refine lv_iconst (v := 0) hx hb dX4_isSign_24 (by decide) ?_
  exact b_Reader_isSign_25 C N     h (0 : Int32) _ _ ls w  (lv_sub hl [] rfl) hE
set_option maxRecDepth 20000 in
set_option maxHeartbeats 4000000 in
theorem k_Reader_isSign (l : Launch) (D : va_G) (cy : cyT) (z : Nat) (N : Nat) (h : hS) (th : Nat) (x1 : Int32) (r : Int32) (g : hS) (hE : f_Reader_isSign N h th x1 = some (r, g)) : ct l yX4_isSign (Cond.code yX4_isSign cX4_isSign 2 ((some .boolean)) :: GW) { frames := 1, cells := 0, slots := 0, locals := 21 } D cy z h [.ref th, .int x1] (rI r) g := by
  refine Met.ofW (cc := cX4_isSign) (maxL := 2) (ret := (some .boolean)) (by decide) rfl ?_
  intro p e s m args below meth c s₁ B hml hv
  obtain ⟨rfl, hw⟩ := hv
  have C : MX p s m ([.ref th, .int x1] : List Value).toArray meth c cX4_isSign 2 ((some .boolean)) RX4 (Cond.code yX4_isSign cX4_isSign 2 ((some .boolean)) :: GW) := ⟨B.exec, B.bytes, B.returns, hml, findClass_of_methodNamed B.named, atoms_spec (ws := Cond.code yX4_isSign cX4_isSign 2 ((some .boolean)) :: GW) B.pre, B.notSynchronized⟩
  obtain ⟨hx, hb, hr, hml, hown, hts, hlk⟩ := id C
  have w := wd_of hw
  obtain ⟨ls, hen, hl⟩ : ∃ ls : Array Slot, entryFrame m ([.ref th, .int x1] : List Value).toArray 2 = F0 m 0 ls [] ∧ lv_has ls 2 [(0, .ref th), (1, .int x1)] := by
    exact ⟨_, lg_entry_eq _ _ _, lv_entry _ (Nat.le_of_ble_eq_true rfl)⟩
  rw [hen]
  unfold f_Reader_isSign at hE
  refine lv_aload_n hx hb dX4_isSign_0 rfl (lv_at hl 0 rfl) ?_
  refine w_gI (r := some th) (ci := 5) (k := 10) C w rfl (by decide) (GF_wsX40 _) (by decide) rfl (List.mem_cons_of_mem _ gw_10_15) rfl dX4_isSign_1 hE (fun v1 e1 => ?_)
  refine lv_iconst (v := 3) hx hb dX4_isSign_4 (by decide) ?_
  refine w_icmp_ne (tgt := 24) C dX4_isSign_5 (by decide) e1 (fun hc e2 => ?_) (fun hc e2 => ?_)
  · exact b_Reader_isSign_24 C N     h  _ _ ls w  (lv_sub hl [] rfl) e2
  · refine lv_aload_n hx hb dX4_isSign_8 rfl (lv_at hl 0 rfl) ?_
    refine lv_aload_n hx hb dX4_isSign_9 rfl (lv_at hl 0 rfl) ?_
    refine w_gI (r := some th) (ci := 5) (k := 11) C w rfl (by decide) (GF_wsX40 _) (by decide) rfl (List.mem_cons_of_mem _ gw_10_20) rfl dX4_isSign_10 e2 (fun v2 e3 => ?_)
    refine w_VI GW_good (n := 1) (F := 0) (Lc := 0) (o := some th) (av := [.int v2]) (rest := []) C w rfl (by decide) (fun a r g hf => k_Reader_byteAt l D cy z N h a v2 r g hf) gw_10_21 gw_10_22 gw_10_23 gw_1_20 gw_11_0 (by decide +kernel) ⟨Nat.le_of_ble_eq_true rfl, Nat.le_of_ble_eq_true rfl⟩ rfl hl.1 rfl (Nat.le_of_ble_eq_true rfl) dX4_isSign_13 (fun a => (sh_Reader_byteAt N h a v2)) ⟨by decide, by decide⟩ e3 (fun v3 h4 H locs w hsh4 e4 => ?_)
    refine lv_iload_n hx hb dX4_isSign_16 rfl (lv_at hl 1 rfl) ?_
    refine w_icmp_ne (tgt := 24) C dX4_isSign_17 (by decide) e4 (fun hc e5 => ?_) (fun hc e5 => ?_)
    · exact b_Reader_isSign_24 C N     h4  _ _ ls w  (lv_sub hl [] rfl) e5
    · refine lv_iconst (v := 1) hx hb dX4_isSign_20 (by decide) ?_
      refine lv_goto (tgt := 25) hx hb dX4_isSign_21 (by decide) ?_
      exact b_Reader_isSign_25 C N     h4 (1 : Int32) _ _ ls w  (lv_sub hl [] rfl) e5
set_option maxRecDepth 20000 in
set_option maxHeartbeats 4000000 in
theorem b_Reader_numberOfToken_23 {p : Program} {l : Launch} {e : Env} {s : State} {m : MethodId} {args : Array Value} {below : List Frame} {meth : Method} {c : Code} {D : va_G} {cy : cyT} {z : Nat} (C : MX p s m args meth c cX4_numberOfToken 3 ((some .int)) RX4 (Cond.code yX4_numberOfToken cX4_numberOfToken 3 ((some .int)) :: GW)) (N : Nat) {r : Int32} {g : hS}  : ∀ (n : Nat) (h : hS) (th : Nat) (x1 : Int32) (x2 : Int32) (H : Heap) (locs : List Loc) (ls : Array Slot), wd D cy z s 0 h H locs → lv_has ls 3 [(0, .ref th), (1, .int x1), (2, .int x2)] → f_Reader_numberOfToken_23 N  n h th x1 x2 = some (r, g) → W p l e { frames := 1, cells := 0, slots := 0, locals := 21 } s m args below meth c H locs 0 0 (MQ below (eQ D cy z (rI r) g) args s 0 0 (fun q => z ≤ q)) (F0 m 23 ls []) := by
  obtain ⟨hx, hb, hr, hml, hown, hts, hlk⟩ := id C
  intro n
  induction n with
  | zero =>
    intro  h th x1 x2 H locs ls w  hl hE
    cases hE
  | succ n ih =>
    intro  h th x1 x2 H locs ls w  hl hE
    unfold f_Reader_numberOfToken_23 at hE
    refine lv_iload_n hx hb dX4_numberOfToken_23 rfl (lv_at hl 2 rfl) ?_
    refine lv_aload_n hx hb dX4_numberOfToken_24 rfl (lv_at hl 0 rfl) ?_
    refine w_gI (r := some th) (ci := 5) (k := 12) C w rfl (by decide) (GF_wsX40 _) (by decide) rfl (List.mem_cons_of_mem _ gw_10_14) rfl dX4_numberOfToken_25 hE (fun v1 e1 => ?_)
    refine w_icmp_ge (tgt := 51) C dX4_numberOfToken_28 (by decide) e1 (fun hc e2 => ?_) (fun hc e2 => ?_)
    · refine lv_iload_n hx hb dX4_numberOfToken_51 rfl (lv_at hl 1 rfl) ?_
      exact w_iret C w e2 dX4_numberOfToken_52
    · refine lv_bipush (v := 10) hx hb dX4_numberOfToken_31 (by decide) ?_
      refine lv_iload_n hx hb dX4_numberOfToken_33 rfl (lv_at hl 1 rfl) ?_
      refine lv_imul hx hb dX4_numberOfToken_34 ?_
      refine lv_aload_n hx hb dX4_numberOfToken_35 rfl (lv_at hl 0 rfl) ?_
      refine lv_iload_n hx hb dX4_numberOfToken_36 rfl (lv_at hl 2 rfl) ?_
      refine w_VI GW_good (n := 1) (F := 0) (Lc := 0) (o := some th) (av := [.int x2]) (rest := [.int ((10 : Int32) * x1)]) C w rfl (by decide) (fun a r g hf => k_Reader_byteAt l D cy z N h a x2 r g hf) gw_10_21 gw_10_22 gw_10_23 gw_1_20 gw_11_0 (by decide +kernel) ⟨Nat.le_of_ble_eq_true rfl, Nat.le_of_ble_eq_true rfl⟩ rfl hl.1 rfl (Nat.le_of_ble_eq_true rfl) dX4_numberOfToken_37 (fun a => (sh_Reader_byteAt N h a x2)) ⟨by decide, by decide⟩ e2 (fun v2 h3 H locs w hsh3 e3 => ?_)
      refine lv_iadd hx hb dX4_numberOfToken_40 ?_
      refine lv_bipush (v := 48) hx hb dX4_numberOfToken_41 (by decide) ?_
      refine lv_isub hx hb dX4_numberOfToken_43 ?_
      refine w_bnI e3 (fun v4 e4 => ?_)
      refine lv_istore_n (lv' := [(1, .int v4), (0, .ref th), (2, .int x2)]) hx hb dX4_numberOfToken_44 rfl hl (by decide) rfl (fun ls hl => ?_)
      obtain ⟨v5, ev5, e5⟩ := bn_some e4
      refine lv_iinc (v := v5) (lv' := [(2, .int v5), (1, .int v4), (0, .ref th)]) hx hb dX4_numberOfToken_45 hl (k := 2) rfl (by rw [ev5]; rfl) (by decide) rfl (fun ls hl => ?_)
      refine lv_goto (tgt := 23) hx hb dX4_numberOfToken_48 (by decide) ?_
      exact ih  h3 th v4 v5 _ _ ls w  (lv_sub hl [2, 1, 0] rfl) e5
set_option maxRecDepth 20000 in
set_option maxHeartbeats 4000000 in
theorem k_Reader_numberOfToken (l : Launch) (D : va_G) (cy : cyT) (z : Nat) (N : Nat) (h : hS) (th : Nat) (r : Int32) (g : hS) (hE : f_Reader_numberOfToken N h th = some (r, g)) : ct l yX4_numberOfToken (Cond.code yX4_numberOfToken cX4_numberOfToken 3 ((some .int)) :: GW) { frames := 1, cells := 0, slots := 0, locals := 21 } D cy z h [.ref th] (rI r) g := by
  refine Met.ofW (cc := cX4_numberOfToken) (maxL := 3) (ret := (some .int)) (by decide) rfl ?_
  intro p e s m args below meth c s₁ B hml hv
  obtain ⟨rfl, hw⟩ := hv
  have C : MX p s m ([.ref th] : List Value).toArray meth c cX4_numberOfToken 3 ((some .int)) RX4 (Cond.code yX4_numberOfToken cX4_numberOfToken 3 ((some .int)) :: GW) := ⟨B.exec, B.bytes, B.returns, hml, findClass_of_methodNamed B.named, atoms_spec (ws := Cond.code yX4_numberOfToken cX4_numberOfToken 3 ((some .int)) :: GW) B.pre, B.notSynchronized⟩
  obtain ⟨hx, hb, hr, hml, hown, hts, hlk⟩ := id C
  have w := wd_of hw
  obtain ⟨ls, hen, hl⟩ : ∃ ls : Array Slot, entryFrame m ([.ref th] : List Value).toArray 3 = F0 m 0 ls [] ∧ lv_has ls 3 [(0, .ref th)] := by
    exact ⟨_, lg_entry_eq _ _ _, lv_entry _ (Nat.le_of_ble_eq_true rfl)⟩
  rw [hen]
  unfold f_Reader_numberOfToken at hE
  refine lv_aload_n hx hb dX4_numberOfToken_0 rfl (lv_at hl 0 rfl) ?_
  refine w_gI (r := some th) (ci := 5) (k := 12) C w rfl (by decide) (GF_wsX40 _) (by decide) rfl (List.mem_cons_of_mem _ gw_10_14) rfl dX4_numberOfToken_1 hE (fun v1 e1 => ?_)
  refine lv_aload_n hx hb dX4_numberOfToken_4 rfl (lv_at hl 0 rfl) ?_
  refine w_gI (r := some th) (ci := 5) (k := 11) C w rfl (by decide) (GF_wsX40 _) (by decide) rfl (List.mem_cons_of_mem _ gw_10_20) rfl dX4_numberOfToken_5 e1 (fun v2 e2 => ?_)
  refine lv_isub hx hb dX4_numberOfToken_8 ?_
  refine lv_iconst (v := 3) hx hb dX4_numberOfToken_9 (by decide) ?_
  refine w_icmp_le (tgt := 16) C dX4_numberOfToken_10 (by decide) e2 (fun hc e3 => ?_) (fun hc e3 => ?_)
  · refine lv_iconst (v := 0) hx hb dX4_numberOfToken_16 (by decide) ?_
    refine lv_istore_n (lv' := [(1, .int (0 : Int32)), (0, .ref th)]) hx hb dX4_numberOfToken_17 rfl hl (by decide) rfl (fun ls hl => ?_)
    refine lv_aload_n hx hb dX4_numberOfToken_18 rfl (lv_at hl 1 rfl) ?_
    refine w_gI (r := some th) (ci := 5) (k := 11) C w rfl (by decide) (GF_wsX40 _) (by decide) rfl (List.mem_cons_of_mem _ gw_10_20) rfl dX4_numberOfToken_19 e3 (fun v3 e4 => ?_)
    refine lv_istore_n (lv' := [(2, .int v3), (1, .int (0 : Int32)), (0, .ref th)]) hx hb dX4_numberOfToken_22 rfl hl (by decide) rfl (fun ls hl => ?_)
    exact b_Reader_numberOfToken_23 C N   N  h th (0 : Int32) v3 _ _ ls w  (lv_sub hl [2, 1, 0] rfl) e4
  · refine lv_ldc hx hb hown (hts _ (List.mem_cons_of_mem _ gw_15_0)) dX4_numberOfToken_13 ?_
    exact w_iret C w e3 dX4_numberOfToken_15
set_option maxRecDepth 20000 in
set_option maxHeartbeats 4000000 in
theorem b_Reader_readNumber_77 {p : Program} {l : Launch} {e : Env} {s : State} {m : MethodId} {args : Array Value} {below : List Frame} {meth : Method} {c : Code} {D : va_G} {cy : cyT} {z : Nat} (C : MX p s m args meth c cX4_readNumber 5 ((some .int)) RX4 (Cond.code yX4_readNumber cX4_readNumber 5 ((some .int)) :: GW)) (N : Nat) {r : Int32} {g : hS}  : ∀  (h : hS) (y0 : Int32) (H : Heap) (locs : List Loc) (ls : Array Slot), wd D cy z s 0 h H locs → lv_has ls 5 [] → f_Reader_readNumber_77 N   h y0 = some (r, g) → W p l e { frames := 2, cells := 0, slots := 0, locals := 43 } s m args below meth c H locs 0 0 (MQ below (eQ D cy z (rI r) g) args s 0 0 (fun q => z ≤ q)) (F0 m 77 ls [.int y0]) := by
  obtain ⟨hx, hb, hr, hml, hown, hts, hlk⟩ := id C
  intro  h y0 H locs ls w  hl hE
  unfold f_Reader_readNumber_77 at hE
  exact w_iret C w hE dX4_readNumber_77
set_option maxRecDepth 20000 in
set_option maxHeartbeats 4000000 in
theorem b_Reader_readNumber_31 {p : Program} {l : Launch} {e : Env} {s : State} {m : MethodId} {args : Array Value} {below : List Frame} {meth : Method} {c : Code} {D : va_G} {cy : cyT} {z : Nat} (C : MX p s m args meth c cX4_readNumber 5 ((some .int)) RX4 (Cond.code yX4_readNumber cX4_readNumber 5 ((some .int)) :: GW)) (N : Nat) {r : Int32} {g : hS}  : ∀  (h : hS) (th : Nat) (x2 : Int32) (x3 : Int32) (H : Heap) (locs : List Loc) (ls : Array Slot), wd D cy z s 0 h H locs → lv_has ls 5 [(0, .ref th), (2, .int x2), (3, .int x3)] → f_Reader_readNumber_31 N   h th x2 x3 = some (r, g) → W p l e { frames := 2, cells := 0, slots := 0, locals := 43 } s m args below meth c H locs 0 0 (MQ below (eQ D cy z (rI r) g) args s 0 0 (fun q => z ≤ q)) (F0 m 31 ls []) := by
  obtain ⟨hx, hb, hr, hml, hown, hts, hlk⟩ := id C
  intro  h th x2 x3 H locs ls w  hl hE
  unfold f_Reader_readNumber_31 at hE
  refine lv_aload_n hx hb dX4_readNumber_31 rfl (lv_at hl 0 rfl) ?_
  refine w_gI (r := some th) (ci := 5) (k := 10) C w rfl (by decide) (GF_wsX40 _) (by decide) rfl (List.mem_cons_of_mem _ gw_10_15) rfl dX4_readNumber_32 hE (fun v1 e1 => ?_)
  refine lv_iconst (v := 2) hx hb dX4_readNumber_35 (by decide) ?_
  refine w_icmp_eq (tgt := 46) C dX4_readNumber_36 (by decide) e1 (fun hc e2 => ?_) (fun hc e2 => ?_)
  · refine lv_aload_n hx hb dX4_readNumber_46 rfl (lv_at hl 0 rfl) ?_
    refine w_VI GW_good (n := 0) (F := 1) (Lc := 21) (o := some th) (av := []) (rest := []) C w rfl (by decide) (fun a r g hf => k_Reader_numberOfToken l D cy z N h a  r g hf) gw_14_20 gw_14_21 gw_14_22 gw_1_20 gw_14_23 (by decide +kernel) ⟨Nat.le_of_ble_eq_true rfl, Nat.le_of_ble_eq_true rfl⟩ rfl hl.1 rfl (Nat.le_of_ble_eq_true rfl) dX4_readNumber_47 (fun a => (sh_Reader_numberOfToken N h a )) ⟨by decide, by decide⟩ e2 (fun v2 h3 H locs w hsh3 e3 => ?_)
    refine lv_istore (lv' := [(4, .int v2), (0, .ref th), (2, .int x2), (3, .int x3)]) hx hb dX4_readNumber_50 hl (by decide) rfl (fun ls hl => ?_)
    refine lv_iload hx hb dX4_readNumber_52 (lv_at hl 0 rfl) ?_
    refine lv_iload_n hx hb dX4_readNumber_54 rfl (lv_at hl 2 rfl) ?_
    refine w_icmp_le (tgt := 65) C dX4_readNumber_55 (by decide) e3 (fun hc e4 => ?_) (fun hc e4 => ?_)
    · refine lv_iload_n hx hb dX4_readNumber_65 rfl (lv_at hl 3 rfl) ?_
      refine w_if_eq (tgt := 75) C dX4_readNumber_66 (by decide) e4 (fun hc e5 => ?_) (fun hc e5 => ?_)
      · refine lv_iload hx hb dX4_readNumber_75 (lv_at hl 0 rfl) ?_
        exact b_Reader_readNumber_77 C N     h3 v2 _ _ ls w  (lv_sub hl [] rfl) e5
      · refine lv_iload hx hb dX4_readNumber_69 (lv_at hl 0 rfl) ?_
        refine lv_ineg hx hb dX4_readNumber_71 ?_
        refine lv_goto (tgt := 77) hx hb dX4_readNumber_72 (by decide) ?_
        exact b_Reader_readNumber_77 C N     h3 (-v2) _ _ ls w  (lv_sub hl [] rfl) e5
    · refine lv_aload_n hx hb dX4_readNumber_58 rfl (lv_at hl 1 rfl) ?_
      refine lv_iconst (v := 2) hx hb dX4_readNumber_59 (by decide) ?_
      refine w_VV GW_good (n := 1) (F := 0) (Lc := 0) (o := some th) (av := [.int (2 : Int32)]) (rest := []) C w rfl (by decide) (fun a r g hf => k_Reader_fail l D cy z N h3 a (2 : Int32) r g hf) gw_13_22 gw_13_23 gw_14_0 gw_1_20 gw_14_1 (by decide +kernel) ⟨Nat.le_of_ble_eq_true rfl, Nat.le_of_ble_eq_true rfl⟩ rfl hl.1 rfl (Nat.le_of_ble_eq_true rfl) dX4_readNumber_60 (fun a => (sh_Reader_fail N h3 a (2 : Int32))) ⟨by decide, by decide⟩ e4 (fun v4 h5 H locs w hsh5 e6 => ?_)
      refine lv_iconst (v := 0) hx hb dX4_readNumber_63 (by decide) ?_
      exact w_iret C w e6 dX4_readNumber_64
  · refine lv_aload_n hx hb dX4_readNumber_39 rfl (lv_at hl 0 rfl) ?_
    refine lv_iconst (v := 1) hx hb dX4_readNumber_40 (by decide) ?_
    refine w_VV GW_good (n := 1) (F := 0) (Lc := 0) (o := some th) (av := [.int (1 : Int32)]) (rest := []) C w rfl (by decide) (fun a r g hf => k_Reader_fail l D cy z N h a (1 : Int32) r g hf) gw_13_22 gw_13_23 gw_14_0 gw_1_20 gw_14_1 (by decide +kernel) ⟨Nat.le_of_ble_eq_true rfl, Nat.le_of_ble_eq_true rfl⟩ rfl hl.1 rfl (Nat.le_of_ble_eq_true rfl) dX4_readNumber_41 (fun a => (sh_Reader_fail N h a (1 : Int32))) ⟨by decide, by decide⟩ e2 (fun v6 h7 H locs w hsh7 e7 => ?_)
    refine lv_iconst (v := 0) hx hb dX4_readNumber_44 (by decide) ?_
    exact w_iret C w e7 dX4_readNumber_45
set_option maxRecDepth 20000 in
set_option maxHeartbeats 4000000 in
theorem b_Reader_readNumber_22 {p : Program} {l : Launch} {e : Env} {s : State} {m : MethodId} {args : Array Value} {below : List Frame} {meth : Method} {c : Code} {D : va_G} {cy : cyT} {z : Nat} (C : MX p s m args meth c cX4_readNumber 5 ((some .int)) RX4 (Cond.code yX4_readNumber cX4_readNumber 5 ((some .int)) :: GW)) (N : Nat) {r : Int32} {g : hS}  : ∀  (h : hS) (th : Nat) (x2 : Int32) (y0 : Int32) (H : Heap) (locs : List Loc) (ls : Array Slot), wd D cy z s 0 h H locs → lv_has ls 5 [(0, .ref th), (2, .int x2)] → f_Reader_readNumber_22 N   h th x2 y0 = some (r, g) → W p l e { frames := 2, cells := 0, slots := 0, locals := 43 } s m args below meth c H locs 0 0 (MQ below (eQ D cy z (rI r) g) args s 0 0 (fun q => z ≤ q)) (F0 m 22 ls [.int y0]) := by
  obtain ⟨hx, hb, hr, hml, hown, hts, hlk⟩ := id C
  intro  h th x2 y0 H locs ls w  hl hE
  unfold f_Reader_readNumber_22 at hE
  refine lv_istore_n (lv' := [(3, .int y0), (0, .ref th), (2, .int x2)]) hx hb dX4_readNumber_22 rfl hl (by decide) rfl (fun ls hl => ?_)
  refine lv_iload_n hx hb dX4_readNumber_23 rfl (lv_at hl 0 rfl) ?_
  refine w_if_eq (tgt := 31) C dX4_readNumber_24 (by decide) hE (fun hc e1 => ?_) (fun hc e1 => ?_)
  · exact b_Reader_readNumber_31 C N     h th x2 y0 _ _ ls w  (lv_sub hl [1, 2, 0] rfl) e1
  · refine lv_aload_n hx hb dX4_readNumber_27 rfl (lv_at hl 1 rfl) ?_
    refine w_VV GW_good (n := 0) (F := 1) (Lc := 21) (o := some th) (av := []) (rest := []) C w rfl (by decide) (fun a r g hf => k_Reader_nextToken l D cy z N h a  r g hf) gw_10_16 gw_10_17 gw_10_18 gw_1_20 gw_10_19 (by decide +kernel) ⟨Nat.le_of_ble_eq_true rfl, Nat.le_of_ble_eq_true rfl⟩ rfl hl.1 rfl (Nat.le_of_ble_eq_true rfl) dX4_readNumber_28 (fun a => (sh_Reader_nextToken N h a )) ⟨by decide, by decide⟩ e1 (fun v1 h2 H locs w hsh2 e2 => ?_)
    exact b_Reader_readNumber_31 C N     h2 th x2 y0 _ _ ls w  (lv_sub hl [1, 2, 0] rfl) e2
set_option maxRecDepth 20000 in
set_option maxHeartbeats 4000000 in
theorem b_Reader_readNumber_21 {p : Program} {l : Launch} {e : Env} {s : State} {m : MethodId} {args : Array Value} {below : List Frame} {meth : Method} {c : Code} {D : va_G} {cy : cyT} {z : Nat} (C : MX p s m args meth c cX4_readNumber 5 ((some .int)) RX4 (Cond.code yX4_readNumber cX4_readNumber 5 ((some .int)) :: GW)) (N : Nat) {r : Int32} {g : hS}  : ∀  (h : hS) (th : Nat) (x2 : Int32) (H : Heap) (locs : List Loc) (ls : Array Slot), wd D cy z s 0 h H locs → lv_has ls 5 [(0, .ref th), (2, .int x2)] → f_Reader_readNumber_21 N   h th x2 = some (r, g) → W p l e { frames := 2, cells := 0, slots := 0, locals := 43 } s m args below meth c H locs 0 0 (MQ below (eQ D cy z (rI r) g) args s 0 0 (fun q => z ≤ q)) (F0 m 21 ls []) := by
  obtain ⟨hx, hb, hr, hml, hown, hts, hlk⟩ := id C
  intro  h th x2 H locs ls w  hl hE
  unfold f_Reader_readNumber_21 at hE
  refine lv_iconst (v := 0) hx hb dX4_readNumber_21 (by decide) ?_
  exact b_Reader_readNumber_22 C N     h th x2 (0 : Int32) _ _ ls w  (lv_sub hl [0, 1] rfl) hE
set_option maxRecDepth 20000 in
set_option maxHeartbeats 4000000 in
theorem k_Reader_readNumber (l : Launch) (D : va_G) (cy : cyT) (z : Nat) (N : Nat) (h : hS) (th : Nat) (x1 : Int32) (x2 : Int32) (r : Int32) (g : hS) (hE : f_Reader_readNumber N h th x1 x2 = some (r, g)) : ct l yX4_readNumber (Cond.code yX4_readNumber cX4_readNumber 5 ((some .int)) :: GW) { frames := 2, cells := 0, slots := 0, locals := 43 } D cy z h [.ref th, .int x1, .int x2] (rI r) g := by
  refine Met.ofW (cc := cX4_readNumber) (maxL := 5) (ret := (some .int)) (by decide) rfl ?_
  intro p e s m args below meth c s₁ B hml hv
  obtain ⟨rfl, hw⟩ := hv
  have C : MX p s m ([.ref th, .int x1, .int x2] : List Value).toArray meth c cX4_readNumber 5 ((some .int)) RX4 (Cond.code yX4_readNumber cX4_readNumber 5 ((some .int)) :: GW) := ⟨B.exec, B.bytes, B.returns, hml, findClass_of_methodNamed B.named, atoms_spec (ws := Cond.code yX4_readNumber cX4_readNumber 5 ((some .int)) :: GW) B.pre, B.notSynchronized⟩
  obtain ⟨hx, hb, hr, hml, hown, hts, hlk⟩ := id C
  have w := wd_of hw
  obtain ⟨ls, hen, hl⟩ : ∃ ls : Array Slot, entryFrame m ([.ref th, .int x1, .int x2] : List Value).toArray 5 = F0 m 0 ls [] ∧ lv_has ls 5 [(0, .ref th), (1, .int x1), (2, .int x2)] := by
    exact ⟨_, lg_entry_eq _ _ _, lv_entry _ (Nat.le_of_ble_eq_true rfl)⟩
  rw [hen]
  unfold f_Reader_readNumber at hE
  refine lv_aload_n hx hb dX4_readNumber_0 rfl (lv_at hl 0 rfl) ?_
  refine w_VV GW_good (n := 0) (F := 1) (Lc := 21) (o := some th) (av := []) (rest := []) C w rfl (by decide) (fun a r g hf => k_Reader_nextToken l D cy z N h a  r g hf) gw_10_16 gw_10_17 gw_10_18 gw_1_20 gw_10_19 (by decide +kernel) ⟨Nat.le_of_ble_eq_true rfl, Nat.le_of_ble_eq_true rfl⟩ rfl hl.1 rfl (Nat.le_of_ble_eq_true rfl) dX4_readNumber_1 (fun a => (sh_Reader_nextToken N h a )) ⟨by decide, by decide⟩ hE (fun v1 h2 H locs w hsh2 e1 => ?_)
  refine lv_iload_n hx hb dX4_readNumber_4 rfl (lv_at hl 1 rfl) ?_
  refine w_if_eq (tgt := 21) C dX4_readNumber_5 (by decide) e1 (fun hc e2 => ?_) (fun hc e2 => ?_)
  · exact b_Reader_readNumber_21 C N     h2 th x2 _ _ ls w  (lv_sub hl [0, 2] rfl) e2
  · refine lv_aload_n hx hb dX4_readNumber_8 rfl (lv_at hl 0 rfl) ?_
    refine lv_bipush (v := 45) hx hb dX4_readNumber_9 (by decide) ?_
    refine w_VI GW_good (n := 1) (F := 1) (Lc := 21) (o := some th) (av := [.int (45 : Int32)]) (rest := []) C w rfl (by decide) (fun a r g hf => k_Reader_isSign l D cy z N h2 a (45 : Int32) r g hf) gw_14_16 gw_14_17 gw_14_18 gw_1_20 gw_14_19 (by decide +kernel) ⟨Nat.le_of_ble_eq_true rfl, Nat.le_of_ble_eq_true rfl⟩ rfl hl.1 rfl (Nat.le_of_ble_eq_true rfl) dX4_readNumber_11 (fun a => (sh_Reader_isSign N h2 a (45 : Int32))) ⟨by decide, by decide⟩ e2 (fun v3 h4 H locs w hsh4 e3 => ?_)
    refine w_if_eq (tgt := 21) C dX4_readNumber_14 (by decide) e3 (fun hc e4 => ?_) (fun hc e4 => ?_)
    · exact b_Reader_readNumber_21 C N     h4 th x2 _ _ ls w  (lv_sub hl [0, 2] rfl) e4
    · refine lv_iconst (v := 1) hx hb dX4_readNumber_17 (by decide) ?_
      refine lv_goto (tgt := 22) hx hb dX4_readNumber_18 (by decide) ?_
      exact b_Reader_readNumber_22 C N     h4 th x2 (1 : Int32) _ _ ls w  (lv_sub hl [0, 2] rfl) e4
set_option maxRecDepth 20000 in
set_option maxHeartbeats 4000000 in
theorem b_Reader_readFirst_58 {p : Program} {l : Launch} {e : Env} {s : State} {m : MethodId} {args : Array Value} {below : List Frame} {meth : Method} {c : Code} {D : va_G} {cy : cyT} {z : Nat} (C : MX p s m args meth c cX4_readFirst 3 ((some .int)) RX4 (Cond.code yX4_readFirst cX4_readFirst 3 ((some .int)) :: GW)) (N : Nat) {r : Int32} {g : hS}  : ∀  (h : hS) (x2 : Int32) (H : Heap) (locs : List Loc) (ls : Array Slot), wd D cy z s 0 h H locs → lv_has ls 3 [(2, .int x2)] → f_Reader_readFirst_58 N   h x2 = some (r, g) → W p l e { frames := 3, cells := 0, slots := 0, locals := 67 } s m args below meth c H locs 0 0 (MQ below (eQ D cy z (rI r) g) args s 0 0 (fun q => z ≤ q)) (F0 m 58 ls []) := by
  obtain ⟨hx, hb, hr, hml, hown, hts, hlk⟩ := id C
  intro  h x2 H locs ls w  hl hE
  unfold f_Reader_readFirst_58 at hE
  refine lv_iload_n hx hb dX4_readFirst_58 rfl (lv_at hl 0 rfl) ?_
  exact w_iret C w hE dX4_readFirst_59
set_option maxRecDepth 20000 in
set_option maxHeartbeats 4000000 in
theorem b_Reader_readFirst_23 {p : Program} {l : Launch} {e : Env} {s : State} {m : MethodId} {args : Array Value} {below : List Frame} {meth : Method} {c : Code} {D : va_G} {cy : cyT} {z : Nat} (C : MX p s m args meth c cX4_readFirst 3 ((some .int)) RX4 (Cond.code yX4_readFirst cX4_readFirst 3 ((some .int)) :: GW)) (N : Nat) {r : Int32} {g : hS}  : ∀  (h : hS) (th : Nat) (x1 : Int32) (y0 : Option Nat) (y1 : Int32) (H : Heap) (locs : List Loc) (ls : Array Slot), wd D cy z s 0 h H locs → lv_has ls 3 [(0, .ref th), (1, .int x1)] → f_Reader_readFirst_23 N   h th x1 y0 y1 = some (r, g) → W p l e { frames := 3, cells := 0, slots := 0, locals := 67 } s m args below meth c H locs 0 0 (MQ below (eQ D cy z (rI r) g) args s 0 0 (fun q => z ≤ q)) (F0 m 23 ls [.int y1, va_rf y0]) := by
  obtain ⟨hx, hb, hr, hml, hown, hts, hlk⟩ := id C
  intro  h th x1 y0 y1 H locs ls w  hl hE
  unfold f_Reader_readFirst_23 at hE
  refine w_gsRN (k := 3) C w (List.mem_of_getElem? (i := 4) rfl) (List.mem_of_getElem? (i := 1) rfl) rfl dX4_readFirst_23 hE (fun v1 e1 => ?_)
  refine lv_iload_n hx hb dX4_readFirst_26 rfl (lv_at hl 1 rfl) ?_
  refine w_aI56 (r := v1) C w dX4_readFirst_27 e1 (fun v2 e2 => ?_)
  refine w_VI GW_good (n := 2) (F := 2) (Lc := 43) (o := y0) (av := [.int y1, .int v2]) (rest := []) C w rfl (by decide) (fun a r g hf => k_Reader_readNumber l D cy z N h a y1 v2 r g hf) gw_14_12 gw_14_13 gw_14_14 gw_1_20 gw_14_15 (by decide +kernel) ⟨Nat.le_of_ble_eq_true rfl, Nat.le_of_ble_eq_true rfl⟩ rfl hl.1 rfl (Nat.le_of_ble_eq_true rfl) dX4_readFirst_28 (fun a => (sh_Reader_readNumber N h a y1 v2)) ⟨by decide, by decide⟩ e2 (fun v3 h4 H locs w hsh4 e3 => ?_)
  refine lv_istore_n (lv' := [(2, .int v3), (0, .ref th), (1, .int x1)]) hx hb dX4_readFirst_31 rfl hl (by decide) rfl (fun ls hl => ?_)
  refine lv_aload_n hx hb dX4_readFirst_32 rfl (lv_at hl 1 rfl) ?_
  refine w_gI (r := some th) (ci := 5) (k := 5) C w rfl (by decide) (GF_wsX40 _) (by decide) rfl (List.mem_cons_of_mem _ gw_10_12) rfl dX4_readFirst_33 e3 (fun v5 e4 => ?_)
  refine w_if_ne (tgt := 58) C dX4_readFirst_36 (by decide) e4 (fun hc e5 => ?_) (fun hc e5 => ?_)
  · exact b_Reader_readFirst_58 C N     h4 v3 _ _ ls w  (lv_sub hl [0] rfl) e5
  · refine lv_iload_n hx hb dX4_readFirst_39 rfl (lv_at hl 2 rfl) ?_
    refine lv_bipush (v := 8) hx hb dX4_readFirst_40 (by decide) ?_
    refine w_icmp_ne (tgt := 58) C dX4_readFirst_42 (by decide) e5 (fun hc e6 => ?_) (fun hc e6 => ?_)
    · exact b_Reader_readFirst_58 C N     h4 v3 _ _ ls w  (lv_sub hl [0] rfl) e6
    · refine lv_iload_n hx hb dX4_readFirst_45 rfl (lv_at hl 0 rfl) ?_
      refine lv_aload_n hx hb dX4_readFirst_46 rfl (lv_at hl 1 rfl) ?_
      refine w_gI (r := some th) (ci := 5) (k := 9) C w rfl (by decide) (GF_wsX40 _) (by decide) rfl (List.mem_cons_of_mem _ gw_10_10) rfl dX4_readFirst_47 e6 (fun v6 e7 => ?_)
      refine w_icmp_ne (tgt := 58) C dX4_readFirst_50 (by decide) e7 (fun hc e8 => ?_) (fun hc e8 => ?_)
      · exact b_Reader_readFirst_58 C N     h4 v3 _ _ ls w  (lv_sub hl [0] rfl) e8
      · refine lv_aload_n hx hb dX4_readFirst_53 rfl (lv_at hl 1 rfl) ?_
        refine lv_iconst (v := 3) hx hb dX4_readFirst_54 (by decide) ?_
        refine w_VV GW_good (n := 1) (F := 0) (Lc := 0) (o := some th) (av := [.int (3 : Int32)]) (rest := []) C w rfl (by decide) (fun a r g hf => k_Reader_fail l D cy z N h4 a (3 : Int32) r g hf) gw_13_22 gw_13_23 gw_14_0 gw_1_20 gw_14_1 (by decide +kernel) ⟨Nat.le_of_ble_eq_true rfl, Nat.le_of_ble_eq_true rfl⟩ rfl hl.1 rfl (Nat.le_of_ble_eq_true rfl) dX4_readFirst_55 (fun a => (sh_Reader_fail N h4 a (3 : Int32))) ⟨by decide, by decide⟩ e8 (fun v7 h8 H locs w hsh8 e9 => ?_)
        exact b_Reader_readFirst_58 C N     h8 v3 _ _ ls w  (lv_sub hl [0] rfl) e9
set_option maxRecDepth 20000 in
set_option maxHeartbeats 4000000 in
theorem k_Reader_readFirst (l : Launch) (D : va_G) (cy : cyT) (z : Nat) (N : Nat) (h : hS) (th : Nat) (x1 : Int32) (r : Int32) (g : hS) (hE : f_Reader_readFirst N h th x1 = some (r, g)) : ct l yX4_readFirst (Cond.code yX4_readFirst cX4_readFirst 3 ((some .int)) :: GW) { frames := 3, cells := 0, slots := 0, locals := 67 } D cy z h [.ref th, .int x1] (rI r) g := by
  refine Met.ofW (cc := cX4_readFirst) (maxL := 3) (ret := (some .int)) (by decide) rfl ?_
  intro p e s m args below meth c s₁ B hml hv
  obtain ⟨rfl, hw⟩ := hv
  have C : MX p s m ([.ref th, .int x1] : List Value).toArray meth c cX4_readFirst 3 ((some .int)) RX4 (Cond.code yX4_readFirst cX4_readFirst 3 ((some .int)) :: GW) := ⟨B.exec, B.bytes, B.returns, hml, findClass_of_methodNamed B.named, atoms_spec (ws := Cond.code yX4_readFirst cX4_readFirst 3 ((some .int)) :: GW) B.pre, B.notSynchronized⟩
  obtain ⟨hx, hb, hr, hml, hown, hts, hlk⟩ := id C
  have w := wd_of hw
  obtain ⟨ls, hen, hl⟩ : ∃ ls : Array Slot, entryFrame m ([.ref th, .int x1] : List Value).toArray 3 = F0 m 0 ls [] ∧ lv_has ls 3 [(0, .ref th), (1, .int x1)] := by
    exact ⟨_, lg_entry_eq _ _ _, lv_entry _ (Nat.le_of_ble_eq_true rfl)⟩
  rw [hen]
  unfold f_Reader_readFirst at hE
  refine lv_iload_n hx hb dX4_readFirst_0 rfl (lv_at hl 1 rfl) ?_
  refine w_SNI GW_good (n := 1) (F := 1) (Lc := 20) (av := [.int x1]) (rest := []) C w (fun r g hf => k_K_numbersOf l D cy z N h x1 r g hf) (List.mem_of_getElem? (i := 2) rfl) gw_14_6 gw_1_2 gw_14_7 (by decide +kernel) ⟨Nat.le_of_ble_eq_true rfl, Nat.le_of_ble_eq_true rfl⟩ rfl hl.1 rfl (Nat.le_of_ble_eq_true rfl) dX4_readFirst_1 (sh_K_numbersOf N h x1) ⟨by decide, by decide⟩ hE (fun v1 h2 H locs w hsh2 e1 => ?_)
  refine w_if_ne (tgt := 9) C dX4_readFirst_4 (by decide) e1 (fun hc e2 => ?_) (fun hc e2 => ?_)
  · refine lv_aload_n hx hb dX4_readFirst_9 rfl (lv_at hl 0 rfl) ?_
    refine w_gsRN (k := 2) C w (List.mem_of_getElem? (i := 3) rfl) (List.mem_of_getElem? (i := 0) rfl) rfl dX4_readFirst_10 e2 (fun v3 e3 => ?_)
    refine lv_iload_n hx hb dX4_readFirst_13 rfl (lv_at hl 1 rfl) ?_
    refine w_aI56 (r := v3) C w dX4_readFirst_14 e3 (fun v4 e4 => ?_)
    refine w_if_ge (tgt := 22) C dX4_readFirst_15 (by decide) e4 (fun hc e5 => ?_) (fun hc e5 => ?_)
    · refine lv_iconst (v := 0) hx hb dX4_readFirst_22 (by decide) ?_
      exact b_Reader_readFirst_23 C N     h2 th x1 (some th) (0 : Int32) _ _ ls w  (lv_sub hl [0, 1] rfl) e5
    · refine lv_iconst (v := 1) hx hb dX4_readFirst_18 (by decide) ?_
      refine lv_goto (tgt := 23) hx hb dX4_readFirst_19 (by decide) ?_
      exact b_Reader_readFirst_23 C N     h2 th x1 (some th) (1 : Int32) _ _ ls w  (lv_sub hl [0, 1] rfl) e5
  · refine lv_iconst (v := 0) hx hb dX4_readFirst_7 (by decide) ?_
    exact w_iret C w e2 dX4_readFirst_8
set_option maxRecDepth 20000 in
set_option maxHeartbeats 4000000 in
theorem b_Reader_readClause_114 {p : Program} {l : Launch} {e : Env} {s : State} {m : MethodId} {args : Array Value} {below : List Frame} {meth : Method} {c : Code} {D : va_G} {cy : cyT} {z : Nat} (C : MX p s m args meth c cX4_readClause 2 (none) RX4 (Cond.code yX4_readClause cX4_readClause 2 (none) :: GW)) (N : Nat) {r : Unit} {g : hS}  : ∀  (h : hS) (th : Nat) (y0 : Option Nat) (y1 : Int32) (y2 : Int32) (H : Heap) (locs : List Loc) (ls : Array Slot), wd D cy z s 0 h H locs → lv_has ls 2 [(0, .ref th)] → f_Reader_readClause_114 N   h th y0 y1 y2 = some (r, g) → W p l e { frames := 6, cells := 0, slots := 0, locals := 128 } s m args below meth c H locs 0 0 (MQ below (eQ D cy z (rV r) g) args s 0 0 (fun q => z ≤ q)) (F0 m 114 ls [.int y2, .int y1, va_rf y0]) := by
  obtain ⟨hx, hb, hr, hml, hown, hts, hlk⟩ := id C
  intro  h th y0 y1 y2 H locs ls w  hl hE
  unfold f_Reader_readClause_114 at hE
  refine w_uI (r := y0) C w dX4_readClause_114 hE (fun h1 H locs w hsh1 e1 => ?_)
  refine lv_aload_n hx hb dX4_readClause_115 rfl (lv_at hl 0 rfl) ?_
  refine w_gI (r := some th) (ci := 5) (k := 5) C w rfl (by decide) (GF_wsX40 _) (by decide) rfl (List.mem_cons_of_mem _ gw_10_12) rfl dX4_readClause_116 e1 (fun v2 e2 => ?_)
  refine w_if_eq (tgt := 123) C dX4_readClause_119 (by decide) e2 (fun hc e3 => ?_) (fun hc e3 => ?_)
  · refine lv_aload_n hx hb dX4_readClause_123 rfl (lv_at hl 0 rfl) ?_
    refine w_VV GW_good (n := 0) (F := 1) (Lc := 21) (o := some th) (av := []) (rest := []) C w rfl (by decide) (fun a r g hf => k_Reader_nextToken l D cy z N h1 a  r g hf) gw_10_16 gw_10_17 gw_10_18 gw_1_20 gw_10_19 (by decide +kernel) ⟨Nat.le_of_ble_eq_true rfl, Nat.le_of_ble_eq_true rfl⟩ rfl hl.1 rfl (Nat.le_of_ble_eq_true rfl) dX4_readClause_124 (fun a => (sh_Reader_nextToken N h1 a )) ⟨by decide, by decide⟩ e3 (fun v3 h4 H locs w hsh4 e4 => ?_)
    refine lv_aload_n hx hb dX4_readClause_127 rfl (lv_at hl 0 rfl) ?_
    refine lv_bipush (v := 59) hx hb dX4_readClause_128 (by decide) ?_
    refine w_VI GW_good (n := 1) (F := 1) (Lc := 21) (o := some th) (av := [.int (59 : Int32)]) (rest := []) C w rfl (by decide) (fun a r g hf => k_Reader_isSign l D cy z N h4 a (59 : Int32) r g hf) gw_14_16 gw_14_17 gw_14_18 gw_1_20 gw_14_19 (by decide +kernel) ⟨Nat.le_of_ble_eq_true rfl, Nat.le_of_ble_eq_true rfl⟩ rfl hl.1 rfl (Nat.le_of_ble_eq_true rfl) dX4_readClause_130 (fun a => (sh_Reader_isSign N h4 a (59 : Int32))) ⟨by decide, by decide⟩ e4 (fun v5 h6 H locs w hsh6 e5 => ?_)
    refine w_if_ne (tgt := 142) C dX4_readClause_133 (by decide) e5 (fun hc e6 => ?_) (fun hc e6 => ?_)
    · refine lv_aload_n hx hb dX4_readClause_142 rfl (lv_at hl 0 rfl) ?_
      refine lv_dup hx hb dX4_readClause_143 rfl ?_
      refine w_gI (r := some th) (ci := 5) (k := 4) C w rfl (by decide) (GF_wsX40 _) (by decide) rfl (List.mem_cons_of_mem _ gw_10_11) rfl dX4_readClause_144 e6 (fun v7 e7 => ?_)
      refine lv_iconst (v := 1) hx hb dX4_readClause_147 (by decide) ?_
      refine lv_iadd hx hb dX4_readClause_148 ?_
      refine w_pI (r := some th) (ci := 5) (k := 4) C w rfl (by decide) (by unfold roK; omega) (GF_wsX40 _) tyX4 tyX4_ok nmX4 (by decide) rfl (List.mem_cons_of_mem _ gw_10_11) rfl rfl (tyX4_ok 4 (by decide)) dX4_readClause_149 e7 (fun h8 H locs w hsh8 e8 => ?_)
      exact w_vret C w e8 dX4_readClause_152
    · refine lv_aload_n hx hb dX4_readClause_136 rfl (lv_at hl 0 rfl) ?_
      refine lv_iconst (v := 1) hx hb dX4_readClause_137 (by decide) ?_
      refine w_VV GW_good (n := 1) (F := 0) (Lc := 0) (o := some th) (av := [.int (1 : Int32)]) (rest := []) C w rfl (by decide) (fun a r g hf => k_Reader_fail l D cy z N h6 a (1 : Int32) r g hf) gw_13_22 gw_13_23 gw_14_0 gw_1_20 gw_14_1 (by decide +kernel) ⟨Nat.le_of_ble_eq_true rfl, Nat.le_of_ble_eq_true rfl⟩ rfl hl.1 rfl (Nat.le_of_ble_eq_true rfl) dX4_readClause_138 (fun a => (sh_Reader_fail N h6 a (1 : Int32))) ⟨by decide, by decide⟩ e6 (fun v9 h10 H locs w hsh10 e9 => ?_)
      exact w_vret C w e9 dX4_readClause_141
  · exact w_vret C w e3 dX4_readClause_122
set_option maxRecDepth 20000 in
set_option maxHeartbeats 4000000 in
theorem b_Reader_readClause_113 {p : Program} {l : Launch} {e : Env} {s : State} {m : MethodId} {args : Array Value} {below : List Frame} {meth : Method} {c : Code} {D : va_G} {cy : cyT} {z : Nat} (C : MX p s m args meth c cX4_readClause 2 (none) RX4 (Cond.code yX4_readClause cX4_readClause 2 (none) :: GW)) (N : Nat) {r : Unit} {g : hS}  : ∀  (h : hS) (th : Nat) (y0 : Option Nat) (y1 : Int32) (H : Heap) (locs : List Loc) (ls : Array Slot), wd D cy z s 0 h H locs → lv_has ls 2 [(0, .ref th)] → f_Reader_readClause_113 N   h th y0 y1 = some (r, g) → W p l e { frames := 6, cells := 0, slots := 0, locals := 128 } s m args below meth c H locs 0 0 (MQ below (eQ D cy z (rV r) g) args s 0 0 (fun q => z ≤ q)) (F0 m 113 ls [.int y1, va_rf y0]) := by
  obtain ⟨hx, hb, hr, hml, hown, hts, hlk⟩ := id C
  intro  h th y0 y1 H locs ls w  hl hE
  unfold f_Reader_readClause_113 at hE
  refine lv_iconst (v := 0) hx hb dX4_readClause_113 (by decide) ?_
  exact b_Reader_readClause_114 C N     h th y0 y1 (0 : Int32) _ _ ls w  (lv_sub hl [0] rfl) hE
set_option maxRecDepth 20000 in
set_option maxHeartbeats 4000000 in
theorem b_Reader_readClause_16 {p : Program} {l : Launch} {e : Env} {s : State} {m : MethodId} {args : Array Value} {below : List Frame} {meth : Method} {c : Code} {D : va_G} {cy : cyT} {z : Nat} (C : MX p s m args meth c cX4_readClause 2 (none) RX4 (Cond.code yX4_readClause cX4_readClause 2 (none) :: GW)) (N : Nat) {r : Unit} {g : hS}  : ∀  (h : hS) (th : Nat) (y0 : Int32) (H : Heap) (locs : List Loc) (ls : Array Slot), wd D cy z s 0 h H locs → lv_has ls 2 [(0, .ref th)] → f_Reader_readClause_16 N   h th y0 = some (r, g) → W p l e { frames := 6, cells := 0, slots := 0, locals := 128 } s m args below meth c H locs 0 0 (MQ below (eQ D cy z (rV r) g) args s 0 0 (fun q => z ≤ q)) (F0 m 16 ls [.int y0]) := by
  obtain ⟨hx, hb, hr, hml, hown, hts, hlk⟩ := id C
  intro  h th y0 H locs ls w  hl hE
  unfold f_Reader_readClause_16 at hE
  refine lv_istore_n (lv' := [(1, .int y0), (0, .ref th)]) hx hb dX4_readClause_16 rfl hl (by decide) rfl (fun ls hl => ?_)
  refine lv_iload_n hx hb dX4_readClause_17 rfl (lv_at hl 0 rfl) ?_
  refine lv_iconst (v := -1) hx hb dX4_readClause_18 (by decide) ?_
  refine w_icmp_ne (tgt := 28) C dX4_readClause_19 (by decide) hE (fun hc e1 => ?_) (fun hc e1 => ?_)
  · refine lv_aload_n hx hb dX4_readClause_28 rfl (lv_at hl 1 rfl) ?_
    refine w_gI (r := some th) (ci := 5) (k := 4) C w rfl (by decide) (GF_wsX40 _) (by decide) rfl (List.mem_cons_of_mem _ gw_10_11) rfl dX4_readClause_29 e1 (fun v1 e2 => ?_)
    refine lv_bipush (v := 40) hx hb dX4_readClause_32 (by decide) ?_
    refine w_icmp_lt (tgt := 43) C dX4_readClause_34 (by decide) e2 (fun hc e3 => ?_) (fun hc e3 => ?_)
    · refine lv_aload_n hx hb dX4_readClause_43 rfl (lv_at hl 1 rfl) ?_
      refine w_gR (r := some th) (ci := 5) (k := 3) C w rfl (by decide) (GF_wsX40 _) (by decide) rfl (List.mem_cons_of_mem _ gw_3_20) rfl dX4_readClause_44 e3 (fun v2 e4 => ?_)
      refine lv_aload_n hx hb dX4_readClause_47 rfl (lv_at hl 1 rfl) ?_
      refine w_gI (r := some th) (ci := 5) (k := 4) C w rfl (by decide) (GF_wsX40 _) (by decide) rfl (List.mem_cons_of_mem _ gw_10_11) rfl dX4_readClause_48 e4 (fun v3 e5 => ?_)
      refine lv_aload_n hx hb dX4_readClause_51 rfl (lv_at hl 1 rfl) ?_
      refine w_gI (r := some th) (ci := 5) (k := 11) C w rfl (by decide) (GF_wsX40 _) (by decide) rfl (List.mem_cons_of_mem _ gw_10_20) rfl dX4_readClause_52 e5 (fun v4 e6 => ?_)
      refine w_uI (r := v2) C w dX4_readClause_55 e6 (fun h5 H locs w hsh5 e7 => ?_)
      refine lv_aload_n hx hb dX4_readClause_56 rfl (lv_at hl 1 rfl) ?_
      refine w_gR (r := some th) (ci := 5) (k := 0) C w rfl (by decide) (GF_wsX40 _) (by decide) rfl (List.mem_cons_of_mem _ gw_3_17) rfl dX4_readClause_57 e7 (fun v6 e8 => ?_)
      refine lv_aload_n hx hb dX4_readClause_60 rfl (lv_at hl 1 rfl) ?_
      refine w_gI (r := some th) (ci := 5) (k := 4) C w rfl (by decide) (GF_wsX40 _) (by decide) rfl (List.mem_cons_of_mem _ gw_10_11) rfl dX4_readClause_61 e8 (fun v7 e9 => ?_)
      refine lv_iload_n hx hb dX4_readClause_64 rfl (lv_at hl 0 rfl) ?_
      refine w_uI (r := v6) C w dX4_readClause_65 e9 (fun h8 H locs w hsh8 e10 => ?_)
      refine lv_aload_n hx hb dX4_readClause_66 rfl (lv_at hl 1 rfl) ?_
      refine w_gR (r := some th) (ci := 5) (k := 1) C w rfl (by decide) (GF_wsX40 _) (by decide) rfl (List.mem_cons_of_mem _ gw_3_18) rfl dX4_readClause_67 e10 (fun v9 e11 => ?_)
      refine lv_aload_n hx hb dX4_readClause_70 rfl (lv_at hl 1 rfl) ?_
      refine w_gI (r := some th) (ci := 5) (k := 4) C w rfl (by decide) (GF_wsX40 _) (by decide) rfl (List.mem_cons_of_mem _ gw_10_11) rfl dX4_readClause_71 e11 (fun v10 e12 => ?_)
      refine lv_aload_n hx hb dX4_readClause_74 rfl (lv_at hl 1 rfl) ?_
      refine lv_iload_n hx hb dX4_readClause_75 rfl (lv_at hl 0 rfl) ?_
      refine w_VI GW_good (n := 1) (F := 3) (Lc := 67) (o := some th) (av := [.int y0]) (rest := [.int v10, va_rf v9]) C w rfl (by decide) (fun a r g hf => k_Reader_readFirst l D cy z N h8 a y0 r g hf) gw_14_2 gw_14_3 gw_14_4 gw_1_20 gw_14_5 (by decide +kernel) ⟨Nat.le_of_ble_eq_true rfl, Nat.le_of_ble_eq_true rfl⟩ rfl hl.1 rfl (cat_le (Nat.le_of_ble_eq_true rfl)) dX4_readClause_76 (fun a => (sh_Reader_readFirst N h8 a y0)) ⟨by decide, by decide⟩ e12 (fun v11 h12 H locs w hsh12 e13 => ?_)
      refine w_uI (r := v9) C w dX4_readClause_79 e13 (fun h13 H locs w hsh13 e14 => ?_)
      refine lv_aload_n hx hb dX4_readClause_80 rfl (lv_at hl 1 rfl) ?_
      refine w_gR (r := some th) (ci := 5) (k := 2) C w rfl (by decide) (GF_wsX40 _) (by decide) rfl (List.mem_cons_of_mem _ gw_3_19) rfl dX4_readClause_81 e14 (fun v14 e15 => ?_)
      refine lv_aload_n hx hb dX4_readClause_84 rfl (lv_at hl 1 rfl) ?_
      refine w_gI (r := some th) (ci := 5) (k := 4) C w rfl (by decide) (GF_wsX40 _) (by decide) rfl (List.mem_cons_of_mem _ gw_10_11) rfl dX4_readClause_85 e15 (fun v15 e16 => ?_)
      refine lv_iload_n hx hb dX4_readClause_88 rfl (lv_at hl 0 rfl) ?_
      refine w_SNI GW_good (n := 1) (F := 1) (Lc := 20) (av := [.int y0]) (rest := [.int v15, va_rf v14]) C w (fun r g hf => k_K_numbersOf l D cy z N h13 y0 r g hf) (List.mem_of_getElem? (i := 2) rfl) gw_14_6 gw_1_2 gw_14_7 (by decide +kernel) ⟨Nat.le_of_ble_eq_true rfl, Nat.le_of_ble_eq_true rfl⟩ rfl hl.1 rfl (cat_le (Nat.le_of_ble_eq_true rfl)) dX4_readClause_89 (sh_K_numbersOf N h13 y0) ⟨by decide, by decide⟩ e16 (fun v16 h17 H locs w hsh17 e17 => ?_)
      refine lv_iconst (v := 2) hx hb dX4_readClause_92 (by decide) ?_
      refine w_icmp_ne (tgt := 113) C dX4_readClause_93 (by decide) e17 (fun hc e18 => ?_) (fun hc e18 => ?_)
      · exact b_Reader_readClause_113 C N     h17 th v14 v15 _ _ ls w  (lv_sub hl [1] rfl) e18
      · refine lv_aload_n hx hb dX4_readClause_96 rfl (lv_at hl 1 rfl) ?_
        refine w_gI (r := some th) (ci := 5) (k := 5) C w rfl (by decide) (GF_wsX40 _) (by decide) rfl (List.mem_cons_of_mem _ gw_10_12) rfl dX4_readClause_97 e18 (fun v18 e19 => ?_)
        refine w_if_ne (tgt := 113) C dX4_readClause_100 (by decide) e19 (fun hc e20 => ?_) (fun hc e20 => ?_)
        · exact b_Reader_readClause_113 C N     h17 th v14 v15 _ _ ls w  (lv_sub hl [1] rfl) e20
        · refine lv_aload_n hx hb dX4_readClause_103 rfl (lv_at hl 1 rfl) ?_
          refine lv_iconst (v := 0) hx hb dX4_readClause_104 (by decide) ?_
          refine lv_bipush (v := 99) hx hb dX4_readClause_105 (by decide) ?_
          refine w_VI GW_good (n := 2) (F := 2) (Lc := 43) (o := some th) (av := [.int (0 : Int32), .int (99 : Int32)]) (rest := [.int v15, va_rf v14]) C w rfl (by decide) (fun a r g hf => k_Reader_readNumber l D cy z N h17 a (0 : Int32) (99 : Int32) r g hf) gw_14_12 gw_14_13 gw_14_14 gw_1_20 gw_14_15 (by decide +kernel) ⟨Nat.le_of_ble_eq_true rfl, Nat.le_of_ble_eq_true rfl⟩ rfl hl.1 rfl (cat_le (Nat.le_of_ble_eq_true rfl)) dX4_readClause_107 (fun a => (sh_Reader_readNumber N h17 a (0 : Int32) (99 : Int32))) ⟨by decide, by decide⟩ e20 (fun v19 h20 H locs w hsh20 e21 => ?_)
          refine lv_goto (tgt := 114) hx hb dX4_readClause_110 (by decide) ?_
          exact b_Reader_readClause_114 C N     h20 th v14 v15 v19 _ _ ls w  (lv_sub hl [1] rfl) e21
    · refine lv_aload_n hx hb dX4_readClause_37 rfl (lv_at hl 1 rfl) ?_
      refine lv_iconst (v := 3) hx hb dX4_readClause_38 (by decide) ?_
      refine w_VV GW_good (n := 1) (F := 0) (Lc := 0) (o := some th) (av := [.int (3 : Int32)]) (rest := []) C w rfl (by decide) (fun a r g hf => k_Reader_fail l D cy z N h a (3 : Int32) r g hf) gw_13_22 gw_13_23 gw_14_0 gw_1_20 gw_14_1 (by decide +kernel) ⟨Nat.le_of_ble_eq_true rfl, Nat.le_of_ble_eq_true rfl⟩ rfl hl.1 rfl (Nat.le_of_ble_eq_true rfl) dX4_readClause_39 (fun a => (sh_Reader_fail N h a (3 : Int32))) ⟨by decide, by decide⟩ e3 (fun v21 h22 H locs w hsh22 e22 => ?_)
      exact w_vret C w e22 dX4_readClause_42
  · refine lv_aload_n hx hb dX4_readClause_22 rfl (lv_at hl 1 rfl) ?_
    refine lv_iconst (v := 1) hx hb dX4_readClause_23 (by decide) ?_
    refine w_VV GW_good (n := 1) (F := 0) (Lc := 0) (o := some th) (av := [.int (1 : Int32)]) (rest := []) C w rfl (by decide) (fun a r g hf => k_Reader_fail l D cy z N h a (1 : Int32) r g hf) gw_13_22 gw_13_23 gw_14_0 gw_1_20 gw_14_1 (by decide +kernel) ⟨Nat.le_of_ble_eq_true rfl, Nat.le_of_ble_eq_true rfl⟩ rfl hl.1 rfl (Nat.le_of_ble_eq_true rfl) dX4_readClause_24 (fun a => (sh_Reader_fail N h a (1 : Int32))) ⟨by decide, by decide⟩ e1 (fun v23 h24 H locs w hsh24 e23 => ?_)
    exact w_vret C w e23 dX4_readClause_27
set_option maxRecDepth 20000 in
set_option maxHeartbeats 4000000 in
theorem k_Reader_readClause (l : Launch) (D : va_G) (cy : cyT) (z : Nat) (N : Nat) (h : hS) (th : Nat) (r : Unit) (g : hS) (hE : f_Reader_readClause N h th = some (r, g)) : ct l yX4_readClause (Cond.code yX4_readClause cX4_readClause 2 (none) :: GW) { frames := 6, cells := 0, slots := 0, locals := 128 } D cy z h [.ref th] (rV r) g := by
  refine Met.ofW (cc := cX4_readClause) (maxL := 2) (ret := none) (by decide) rfl ?_
  intro p e s m args below meth c s₁ B hml hv
  obtain ⟨rfl, hw⟩ := hv
  have C : MX p s m ([.ref th] : List Value).toArray meth c cX4_readClause 2 (none) RX4 (Cond.code yX4_readClause cX4_readClause 2 (none) :: GW) := ⟨B.exec, B.bytes, B.returns, hml, findClass_of_methodNamed B.named, atoms_spec (ws := Cond.code yX4_readClause cX4_readClause 2 (none) :: GW) B.pre, B.notSynchronized⟩
  obtain ⟨hx, hb, hr, hml, hown, hts, hlk⟩ := id C
  have w := wd_of hw
  obtain ⟨ls, hen, hl⟩ : ∃ ls : Array Slot, entryFrame m ([.ref th] : List Value).toArray 2 = F0 m 0 ls [] ∧ lv_has ls 2 [(0, .ref th)] := by
    exact ⟨_, lg_entry_eq _ _ _, lv_entry _ (Nat.le_of_ble_eq_true rfl)⟩
  rw [hen]
  unfold f_Reader_readClause at hE
  refine lv_aload_n hx hb dX4_readClause_0 rfl (lv_at hl 0 rfl) ?_
  refine w_gI (r := some th) (ci := 5) (k := 10) C w rfl (by decide) (GF_wsX40 _) (by decide) rfl (List.mem_cons_of_mem _ gw_10_15) rfl dX4_readClause_1 hE (fun v1 e1 => ?_)
  refine lv_iconst (v := 1) hx hb dX4_readClause_4 (by decide) ?_
  refine w_icmp_ne (tgt := 15) C dX4_readClause_5 (by decide) e1 (fun hc e2 => ?_) (fun hc e2 => ?_)
  · refine lv_iconst (v := -1) hx hb dX4_readClause_15 (by decide) ?_
    exact b_Reader_readClause_16 C N     h th (-1 : Int32) _ _ ls w  (lv_sub hl [0] rfl) e2
  · refine lv_aload_n hx hb dX4_readClause_8 rfl (lv_at hl 0 rfl) ?_
    refine w_VI GW_good (n := 0) (F := 5) (Lc := 107) (o := some th) (av := []) (rest := []) C w rfl (by decide) (fun a r g hf => k_Reader_kindOfToken l D cy z N h a  r g hf) gw_11_11 gw_11_12 gw_11_13 gw_1_20 gw_11_14 (by decide +kernel) ⟨Nat.le_of_ble_eq_true rfl, Nat.le_of_ble_eq_true rfl⟩ rfl hl.1 rfl (Nat.le_of_ble_eq_true rfl) dX4_readClause_9 (fun a => (sh_Reader_kindOfToken N h a )) ⟨by decide, by decide⟩ e2 (fun v2 h3 H locs w hsh3 e3 => ?_)
    refine lv_goto (tgt := 16) hx hb dX4_readClause_12 (by decide) ?_
    exact b_Reader_readClause_16 C N     h3 th v2 _ _ ls w  (lv_sub hl [0] rfl) e3
set_option maxRecDepth 20000 in
set_option maxHeartbeats 4000000 in
theorem b_Reader_read_79 {p : Program} {l : Launch} {e : Env} {s : State} {m : MethodId} {args : Array Value} {below : List Frame} {meth : Method} {c : Code} {D : va_G} {cy : cyT} {z : Nat} (C : MX p s m args meth c cX4_read 5 (none) RX4 (Cond.code yX4_read cX4_read 5 (none) :: GW)) (N : Nat) {r : Unit} {g : hS}  : ∀  (h : hS)  (H : Heap) (locs : List Loc) (ls : Array Slot), wd D cy z s 0 h H locs → lv_has ls 5 [] → f_Reader_read_79 N   h  = some (r, g) → W p l e { frames := 7, cells := 0, slots := 0, locals := 149 } s m args below meth c H locs 0 0 (MQ below (eQ D cy z (rV r) g) args s 0 0 (fun q => z ≤ q)) (F0 m 79 ls []) := by
  obtain ⟨hx, hb, hr, hml, hown, hts, hlk⟩ := id C
  intro  h  H locs ls w  hl hE
  unfold f_Reader_read_79 at hE
  exact w_vret C w hE dX4_read_79
set_option maxRecDepth 20000 in
set_option maxHeartbeats 4000000 in
theorem b_Reader_read_43 {p : Program} {l : Launch} {e : Env} {s : State} {m : MethodId} {args : Array Value} {below : List Frame} {meth : Method} {c : Code} {D : va_G} {cy : cyT} {z : Nat} (C : MX p s m args meth c cX4_read 5 (none) RX4 (Cond.code yX4_read cX4_read 5 (none) :: GW)) (N : Nat) {r : Unit} {g : hS}  : ∀ (n : Nat) (h : hS) (th : Nat) (x4 : Int32) (H : Heap) (locs : List Loc) (ls : Array Slot), wd D cy z s 0 h H locs → lv_has ls 5 [(0, .ref th), (4, .int x4)] → f_Reader_read_43 N  n h th x4 = some (r, g) → W p l e { frames := 7, cells := 0, slots := 0, locals := 149 } s m args below meth c H locs 0 0 (MQ below (eQ D cy z (rV r) g) args s 0 0 (fun q => z ≤ q)) (F0 m 43 ls []) := by
  obtain ⟨hx, hb, hr, hml, hown, hts, hlk⟩ := id C
  intro n
  induction n with
  | zero =>
    intro  h th x4 H locs ls w  hl hE
    cases hE
  | succ n ih =>
    intro  h th x4 H locs ls w  hl hE
    unfold f_Reader_read_43 at hE
    refine lv_iload hx hb dX4_read_43 (lv_at hl 1 rfl) ?_
    refine lv_bipush (v := 40) hx hb dX4_read_45 (by decide) ?_
    refine w_icmp_gt (tgt := 79) C dX4_read_47 (by decide) hE (fun hc e1 => ?_) (fun hc e1 => ?_)
    · exact b_Reader_read_79 C N     h  _ _ ls w  (lv_sub hl [] rfl) e1
    · refine lv_aload_n hx hb dX4_read_50 rfl (lv_at hl 0 rfl) ?_
      refine w_gI (r := some th) (ci := 5) (k := 5) C w rfl (by decide) (GF_wsX40 _) (by decide) rfl (List.mem_cons_of_mem _ gw_10_12) rfl dX4_read_51 e1 (fun v1 e2 => ?_)
      refine w_if_ne (tgt := 79) C dX4_read_54 (by decide) e2 (fun hc e3 => ?_) (fun hc e3 => ?_)
      · exact b_Reader_read_79 C N     h  _ _ ls w  (lv_sub hl [] rfl) e3
      · refine lv_aload_n hx hb dX4_read_57 rfl (lv_at hl 0 rfl) ?_
        refine w_VV GW_good (n := 0) (F := 1) (Lc := 21) (o := some th) (av := []) (rest := []) C w rfl (by decide) (fun a r g hf => k_Reader_nextToken l D cy z N h a  r g hf) gw_10_16 gw_10_17 gw_10_18 gw_1_20 gw_10_19 (by decide +kernel) ⟨Nat.le_of_ble_eq_true rfl, Nat.le_of_ble_eq_true rfl⟩ rfl hl.1 rfl (Nat.le_of_ble_eq_true rfl) dX4_read_58 (fun a => (sh_Reader_nextToken N h a )) ⟨by decide, by decide⟩ e3 (fun v2 h3 H locs w hsh3 e4 => ?_)
        refine lv_aload_n hx hb dX4_read_61 rfl (lv_at hl 0 rfl) ?_
        refine w_gI (r := some th) (ci := 5) (k := 10) C w rfl (by decide) (GF_wsX40 _) (by decide) rfl (List.mem_cons_of_mem _ gw_10_15) rfl dX4_read_62 e4 (fun v4 e5 => ?_)
        refine w_if_ne (tgt := 69) C dX4_read_65 (by decide) e5 (fun hc e6 => ?_) (fun hc e6 => ?_)
        · refine lv_aload_n hx hb dX4_read_69 rfl (lv_at hl 0 rfl) ?_
          refine w_VV GW_good (n := 0) (F := 6) (Lc := 128) (o := some th) (av := []) (rest := []) C w rfl (by decide) (fun a r g hf => k_Reader_readClause l D cy z N h3 a  r g hf) gw_11_7 gw_11_8 gw_11_9 gw_1_20 gw_11_10 (by decide +kernel) ⟨Nat.le_of_ble_eq_true rfl, Nat.le_of_ble_eq_true rfl⟩ rfl hl.1 rfl (Nat.le_of_ble_eq_true rfl) dX4_read_70 (fun a => (sh_Reader_readClause N h3 a )) ⟨by decide, by decide⟩ e6 (fun v5 h6 H locs w hsh6 e7 => ?_)
          obtain ⟨v7, ev7, e8⟩ := bn_some e7
          refine lv_iinc (v := v7) (lv' := [(4, .int v7), (0, .ref th)]) hx hb dX4_read_73 hl (k := 1) rfl (by rw [ev7]; rfl) (by decide) rfl (fun ls hl => ?_)
          refine lv_goto (tgt := 43) hx hb dX4_read_76 (by decide) ?_
          exact ih  h6 th v7 _ _ ls w  (lv_sub hl [1, 0] rfl) e8
        · exact w_vret C w e6 dX4_read_68
set_option maxRecDepth 20000 in
set_option maxHeartbeats 4000000 in
theorem k_Reader_read (l : Launch) (D : va_G) (cy : cyT) (z : Nat) (N : Nat) (h : hS) (th : Nat) (a1 : Option Nat) (x2 : Int32) (x3 : Int32) (r : Unit) (g : hS) (hE : f_Reader_read N h th a1 x2 x3 = some (r, g)) : ct l yX4_read (Cond.code yX4_read cX4_read 5 (none) :: GW) { frames := 7, cells := 0, slots := 0, locals := 149 } D cy z h [.ref th, va_rf a1, .int x2, .int x3] (rV r) g := by
  refine Met.ofW (cc := cX4_read) (maxL := 5) (ret := none) (by decide) rfl ?_
  intro p e s m args below meth c s₁ B hml hv
  obtain ⟨rfl, hw⟩ := hv
  have C : MX p s m ([.ref th, va_rf a1, .int x2, .int x3] : List Value).toArray meth c cX4_read 5 (none) RX4 (Cond.code yX4_read cX4_read 5 (none) :: GW) := ⟨B.exec, B.bytes, B.returns, hml, findClass_of_methodNamed B.named, atoms_spec (ws := Cond.code yX4_read cX4_read 5 (none) :: GW) B.pre, B.notSynchronized⟩
  obtain ⟨hx, hb, hr, hml, hown, hts, hlk⟩ := id C
  have w := wd_of hw
  obtain ⟨ls, hen, hl⟩ : ∃ ls : Array Slot, entryFrame m ([.ref th, va_rf a1, .int x2, .int x3] : List Value).toArray 5 = F0 m 0 ls [] ∧ lv_has ls 5 [(0, .ref th), (1, va_rf a1), (2, .int x2), (3, .int x3)] := by
    cases a1 <;> exact ⟨_, lg_entry_eq _ _ _, lv_entry _ (Nat.le_of_ble_eq_true rfl)⟩
  rw [hen]
  unfold f_Reader_read at hE
  refine lv_aload_n hx hb dX4_read_0 rfl (lv_at hl 0 rfl) ?_
  refine w_aload_n C dX4_read_1 rfl (lv_at hl 1 rfl) ?_
  refine w_pR (r := some th) (ci := 5) (k := 7) (v := a1) (Or.inr ⟨_, rfl⟩) C w rfl (by decide) (by unfold roK; omega) (GF_wsX40 _) tyX4 tyX4_ok nmX4 (by decide) rfl (List.mem_cons_of_mem _ gw_3_21) rfl rfl (tyX4_ok 7 (by decide)) dX4_read_2 hE (fun h1 H locs w hsh1 e1 => ?_)
  refine lv_aload_n hx hb dX4_read_5 rfl (lv_at hl 0 rfl) ?_
  refine lv_iload_n hx hb dX4_read_6 rfl (lv_at hl 2 rfl) ?_
  refine w_aload_n C dX4_read_7 rfl (lv_at hl 1 rfl) ?_
  refine w_lenBB (r := a1) C w dX4_read_8 e1 (fun v2 e2 => ?_)
  refine w_mmin C hl.1 (List.mem_cons_of_mem _ gw_10_5) (List.mem_cons_of_mem _ gw_10_6) (List.mem_cons_of_mem _ gw_10_7) (List.mem_cons_of_mem _ gw_10_8) (Nat.le_of_ble_eq_true rfl) (Nat.le_of_ble_eq_true rfl) (by decide) (by decide) dX4_read_9 ?_
  refine w_pI (r := some th) (ci := 5) (k := 8) C w rfl (by decide) (by unfold roK; omega) (GF_wsX40 _) tyX4 tyX4_ok nmX4 (by decide) rfl (List.mem_cons_of_mem _ gw_10_9) rfl rfl (tyX4_ok 8 (by decide)) dX4_read_12 e2 (fun h3 H locs w hsh3 e3 => ?_)
  refine lv_aload_n hx hb dX4_read_15 rfl (lv_at hl 0 rfl) ?_
  refine lv_iload_n hx hb dX4_read_16 rfl (lv_at hl 3 rfl) ?_
  refine w_pI (r := some th) (ci := 5) (k := 9) C w rfl (by decide) (by unfold roK; omega) (GF_wsX40 _) tyX4 tyX4_ok nmX4 (by decide) rfl (List.mem_cons_of_mem _ gw_10_10) rfl rfl (tyX4_ok 9 (by decide)) dX4_read_17 e3 (fun h4 H locs w hsh4 e4 => ?_)
  refine lv_aload_n hx hb dX4_read_20 rfl (lv_at hl 0 rfl) ?_
  refine lv_iconst (v := 0) hx hb dX4_read_21 (by decide) ?_
  refine w_pI (r := some th) (ci := 5) (k := 4) C w rfl (by decide) (by unfold roK; omega) (GF_wsX40 _) tyX4 tyX4_ok nmX4 (by decide) rfl (List.mem_cons_of_mem _ gw_10_11) rfl rfl (tyX4_ok 4 (by decide)) dX4_read_22 e4 (fun h5 H locs w hsh5 e5 => ?_)
  refine lv_aload_n hx hb dX4_read_25 rfl (lv_at hl 0 rfl) ?_
  refine lv_iconst (v := 0) hx hb dX4_read_26 (by decide) ?_
  refine w_pI (r := some th) (ci := 5) (k := 5) C w rfl (by decide) (by unfold roK; omega) (GF_wsX40 _) tyX4 tyX4_ok nmX4 (by decide) rfl (List.mem_cons_of_mem _ gw_10_12) rfl rfl (tyX4_ok 5 (by decide)) dX4_read_27 e5 (fun h6 H locs w hsh6 e6 => ?_)
  refine lv_aload_n hx hb dX4_read_30 rfl (lv_at hl 0 rfl) ?_
  refine lv_iconst (v := -1) hx hb dX4_read_31 (by decide) ?_
  refine w_pI (r := some th) (ci := 5) (k := 6) C w rfl (by decide) (by unfold roK; omega) (GF_wsX40 _) tyX4 tyX4_ok nmX4 (by decide) rfl (List.mem_cons_of_mem _ gw_10_13) rfl rfl (tyX4_ok 6 (by decide)) dX4_read_32 e6 (fun h7 H locs w hsh7 e7 => ?_)
  refine lv_aload_n hx hb dX4_read_35 rfl (lv_at hl 0 rfl) ?_
  refine lv_iconst (v := 0) hx hb dX4_read_36 (by decide) ?_
  refine w_pI (r := some th) (ci := 5) (k := 12) C w rfl (by decide) (by unfold roK; omega) (GF_wsX40 _) tyX4 tyX4_ok nmX4 (by decide) rfl (List.mem_cons_of_mem _ gw_10_14) rfl rfl (tyX4_ok 12 (by decide)) dX4_read_37 e7 (fun h8 H locs w hsh8 e8 => ?_)
  refine lv_iconst (v := 0) hx hb dX4_read_40 (by decide) ?_
  refine lv_istore (lv' := [(4, .int (0 : Int32)), (0, .ref th), (1, va_rf a1), (2, .int x2), (3, .int x3)]) hx hb dX4_read_41 hl (by decide) rfl (fun ls hl => ?_)
  exact b_Reader_read_43 C N   N  h8 th (0 : Int32) _ _ ls w  (lv_sub hl [1, 0] rfl) e8
set_option maxRecDepth 20000 in
set_option maxHeartbeats 4000000 in
theorem b_Shelf_init_8 {p : Program} {l : Launch} {e : Env} {s : State} {m : MethodId} {args : Array Value} {below : List Frame} {meth : Method} {c : Code} {D : va_G} {cy : cyT} {z : Nat} (C : MX p s m args meth c cX5_init 1 (none) RX5 (Cond.code yX5_init cX5_init 1 (none) :: GW)) (hni : meth.name = "<init>") (N : Nat) (n0 s0 : Nat) (hn0 : s.heap.size = n0) {r : Unit} {g : hS}  : ∀  (cells slots : Nat) (h : hS) (th : Nat) (y0 : Option Nat) (y1 : Option Nat) (H : Heap) (locs : List Loc) (ls : Array Slot), wd D cy z s cells h H locs → h_s h = s0 + slots → lv_has ls 1 [(0, .ref th)] → f_Shelf_init_8 N   h th y0 y1 = some (r, g) → W p l e { frames := 1, cells := h_x g - n0, slots := h_s g - s0, locals := 44 } s m args below meth c H locs cells slots (MQ below (eQ D cy z (rV r) g) args s (h_x g - n0) (h_s g - s0) (fun q => z ≤ q)) (F0 m 8 ls [va_rf y1, va_rf y0]) := by
  obtain ⟨hx, hb, hr, hml, hown, hts, hlk⟩ := id C
  intro cells slots h th y0 y1 H locs ls w hsl hl hE
  have hcc : cells ≤ h_x g - n0 ∧ slots ≤ h_s g - s0 := by
    have q1 := mo_Shelf_init_8 N  h th y0 y1 _ _ hE
    have q2 := wd_x w
    have q3 := q1.1
    have q4 := q1.2.1
    omega
  unfold f_Shelf_init_8 at hE
  refine w_pR (r := y0) (ci := 6) (k := 0) (v := y1) (Or.inr ⟨_, rfl⟩) C w rfl (by decide) (by unfold roK; omega) (GF_wsX50 _) tyX5 tyX5_ok nmX5 (by decide) rfl (List.mem_cons_of_mem _ gw_4_21) rfl rfl (tyX5_ok 0 (by decide)) dX5_init_8 hE (fun h1 H locs w hsh1 e1 => ?_)
  have hsl := hsh1.2.2.2.trans hsl
  refine lv_aload_n hx hb dX5_init_11 rfl (lv_at hl 0 rfl) ?_
  refine lv_iconst (v := 0) hx hb dX5_init_12 (by decide) ?_
  refine w_pI (r := some th) (ci := 6) (k := 1) C w rfl (by decide) (by unfold roK; omega) (GF_wsX50 _) tyX5 tyX5_ok nmX5 (by decide) rfl (List.mem_cons_of_mem _ gw_4_22) rfl rfl (tyX5_ok 1 (by decide)) dX5_init_13 e1 (fun h2 H locs w hsh2 e2 => ?_)
  have hsl := hsh2.2.2.2.trans hsl
  refine lv_aload_n hx hb dX5_init_16 rfl (lv_at hl 0 rfl) ?_
  refine lv_null hx hb dX5_init_17 ?_
  refine w_pR (r := some th) (ci := 6) (k := 2) (v := none) (Or.inl ⟨_, rfl⟩) C w rfl (by decide) (by unfold roK; omega) (GF_wsX50 _) tyX5 tyX5_ok nmX5 (by decide) rfl (List.mem_cons_of_mem _ gw_4_23) rfl rfl (tyX5_ok 2 (by decide)) dX5_init_18 e2 (fun h3 H locs w hsh3 e3 => ?_)
  have hsl := hsh3.2.2.2.trans hsl
  refine W.widen (k := h_x g - n0) (n := h_s g - s0) hcc.1 hcc.2 ?_
  exact w_vret C w e3 dX5_init_21
set_option maxRecDepth 20000 in
set_option maxHeartbeats 4000000 in
theorem k_Shelf_init (l : Launch) (D : va_G) (cy : cyT) (z : Nat) (N : Nat) (h : hS) (th : Nat) (r : Unit) (g : hS) (hE : f_Shelf_init N h th = some (r, g)) : ct l yX5_init (Cond.code yX5_init cX5_init 1 (none) :: GW) { frames := 1, cells := h_x g - h_x h, slots := h_s g - h_s h, locals := 44 } D cy z h [.ref th] (rV r) g := by
  refine Met.ofW (cc := cX5_init) (maxL := 1) (ret := none) (by decide) rfl ?_
  intro p e s m args below meth c s₁ B hml hv
  obtain ⟨rfl, hw⟩ := hv
  have hni : meth.name = "<init>" := (name_of_methodNamed B.named B.method).1
  have C : MX p s m ([.ref th] : List Value).toArray meth c cX5_init 1 (none) RX5 (Cond.code yX5_init cX5_init 1 (none) :: GW) := ⟨B.exec, B.bytes, B.returns, hml, findClass_of_methodNamed B.named, atoms_spec (ws := Cond.code yX5_init cX5_init 1 (none) :: GW) B.pre, B.notSynchronized⟩
  obtain ⟨hx, hb, hr, hml, hown, hts, hlk⟩ := id C
  have w := wd_of hw
  have hsl : h_s h = h_s h + 0 := rfl
  have hn0 : s.heap.size = h_x h := (wd_x w).1
  obtain ⟨ls, hen, hl⟩ : ∃ ls : Array Slot, entryFrame m ([.ref th] : List Value).toArray 1 = F0 m 0 ls [] ∧ lv_has ls 1 [(0, .ref th)] := by
    exact ⟨_, lg_entry_eq _ _ _, lv_entry _ (Nat.le_of_ble_eq_true rfl)⟩
  rw [hen]
  have hcc : 0 ≤ h_x g - h_x h ∧ 0 ≤ h_s g - h_s h := ⟨Nat.zero_le _, Nat.zero_le _⟩
  unfold f_Shelf_init at hE
  refine lv_aload_n hx hb dX5_init_0 rfl (lv_at hl 0 rfl) ?_
  refine w_oinit (a := th) C hl.1 (List.mem_cons_of_mem _ gw_4_20) (List.mem_cons_of_mem _ gw_1_12) (List.mem_cons_of_mem _ gw_1_13) (Nat.le_of_ble_eq_true rfl) (Nat.le_of_ble_eq_true rfl) dX5_init_1 ?_
  refine lv_aload_n hx hb dX5_init_4 rfl (lv_at hl 0 rfl) ?_
  refine lv_iconst (v := 0) hx hb dX5_init_5 (by decide) ?_
  have hm := mo_Shelf_init_8 N   (nw h 51 (0 : Int32).toNatClampNeg (0 : Int32).toNatClampNeg) th (some th) (some (h_x h)) _ _ (nwA_some hE).2
  have hm1 := hm.1
  have hm2 := hm.2.1
  rw [h_x_nw] at hm1
  rw [h_s_nw] at hm2
  have hwx := wd_x w
  refine w_nwJ C w (List.mem_cons_of_mem _ gw_1_6) dX5_init_6 hE (by show 0 + 1 ≤ h_x g - (h_x h); omega) (by show 0 + _ ≤ h_s g - (h_s h); omega) (fun H w e1 => ?_)
  exact b_Shelf_init_8 C hni N (h_x h) (h_s h) hn0   (0 + 1) (0 + (0 : Int32).toNatClampNeg) (nw h 51 (0 : Int32).toNatClampNeg (0 : Int32).toNatClampNeg) th (some th) (some (h_x h)) _ _ ls w (by first | (rw [h_s_nw, hsl]; done) | (rw [h_s_nw, hsl]; omega)) (lv_sub hl [0] rfl) e1
set_option maxRecDepth 20000 in
set_option maxHeartbeats 4000000 in
theorem b_Arr_fill_d0a16_6 {p : Program} {l : Launch} {e : Env} {s : State} {m : MethodId} {args : Array Value} {below : List Frame} {meth : Method} {c : Code} {D : va_G} {cy : cyT} {z : Nat} (C : MX p s m args meth c cJ7_fill_d0a16 5 (none) RJ7 (Cond.code yJ7_fill_d0a16 cJ7_fill_d0a16 5 (none) :: GW)) (N : Nat) {r : Unit} {g : hS}  : ∀ (n : Nat) (h : hS) (a0 : Option Nat) (x1 : Int64) (x3 : Int32) (x4 : Int32) (H : Heap) (locs : List Loc) (ls : Array Slot), wd D cy z s 0 h H locs → lv_has ls 5 [(0, va_rf a0), (1, .long x1), (3, .int x3), (4, .int x4)] → f_Arr_fill_d0a16_6 N  n h a0 x1 x3 x4 = some (r, g) → W p l e { frames := 0, cells := 0, slots := 0, locals := 0 } s m args below meth c H locs 0 0 (MQ below (eQ D cy z (rV r) g) args s 0 0 (fun q => z ≤ q)) (F0 m 6 ls []) := by
  obtain ⟨hx, hb, hr, hml, hown, hts, hlk⟩ := id C
  intro n
  induction n with
  | zero =>
    intro  h a0 x1 x3 x4 H locs ls w  hl hE
    cases hE
  | succ n ih =>
    intro  h a0 x1 x3 x4 H locs ls w  hl hE
    unfold f_Arr_fill_d0a16_6 at hE
    refine lv_iload_n hx hb dJ7_fill_d0a16_6 rfl (lv_at hl 2 rfl) ?_
    refine lv_iload hx hb dJ7_fill_d0a16_7 (lv_at hl 3 rfl) ?_
    refine w_icmp_ge (tgt := 22) C dJ7_fill_d0a16_9 (by decide) hE (fun hc e1 => ?_) (fun hc e1 => ?_)
    · exact w_vret C w e1 dJ7_fill_d0a16_22
    · refine w_aload_n C dJ7_fill_d0a16_12 rfl (lv_at hl 0 rfl) ?_
      refine lv_iload_n hx hb dJ7_fill_d0a16_13 rfl (lv_at hl 2 rfl) ?_
      refine lv_lload_n hx hb dJ7_fill_d0a16_14 rfl (lv_at hl 1 rfl) ?_
      refine w_uJ (r := a0) C w dJ7_fill_d0a16_15 e1 (fun h1 H locs w hsh1 e2 => ?_)
      obtain ⟨v2, ev2, e3⟩ := bn_some e2
      refine lv_iinc (v := v2) (lv' := [(3, .int v2), (0, va_rf a0), (1, .long x1), (4, .int x4)]) hx hb dJ7_fill_d0a16_16 hl (k := 2) rfl (by rw [ev2]; rfl) (by decide) rfl (fun ls hl => ?_)
      refine lv_goto (tgt := 6) hx hb dJ7_fill_d0a16_19 (by decide) ?_
      exact ih  h1 a0 x1 v2 x4 _ _ ls w  (lv_sub hl [1, 2, 0, 3] rfl) e3
set_option maxRecDepth 20000 in
set_option maxHeartbeats 4000000 in
theorem k_Arr_fill_d0a16 (l : Launch) (D : va_G) (cy : cyT) (z : Nat) (N : Nat) (h : hS) (a0 : Option Nat) (x1 : Int64) (r : Unit) (g : hS) (hE : f_Arr_fill_d0a16 N h a0 x1 = some (r, g)) : ct l yJ7_fill_d0a16 (Cond.code yJ7_fill_d0a16 cJ7_fill_d0a16 5 (none) :: GW) { frames := 0, cells := 0, slots := 0, locals := 0 } D cy z h [va_rf a0, .long x1] (rV r) g := by
  refine Met.ofW (cc := cJ7_fill_d0a16) (maxL := 5) (ret := none) (by decide) rfl ?_
  intro p e s m args below meth c s₁ B hml hv
  obtain ⟨rfl, hw⟩ := hv
  have C : MX p s m ([va_rf a0, .long x1] : List Value).toArray meth c cJ7_fill_d0a16 5 (none) RJ7 (Cond.code yJ7_fill_d0a16 cJ7_fill_d0a16 5 (none) :: GW) := ⟨B.exec, B.bytes, B.returns, hml, findClass_of_methodNamed B.named, atoms_spec (ws := Cond.code yJ7_fill_d0a16 cJ7_fill_d0a16 5 (none) :: GW) B.pre, B.notSynchronized⟩
  obtain ⟨hx, hb, hr, hml, hown, hts, hlk⟩ := id C
  have w := wd_of hw
  obtain ⟨ls, hen, hl⟩ : ∃ ls : Array Slot, entryFrame m ([va_rf a0, .long x1] : List Value).toArray 5 = F0 m 0 ls [] ∧ lv_has ls 5 [(0, va_rf a0), (1, .long x1)] := by
    cases a0 <;> exact ⟨_, lg_entry_eq _ _ _, lv_entry _ (Nat.le_of_ble_eq_true rfl)⟩
  rw [hen]
  unfold f_Arr_fill_d0a16 at hE
  refine lv_iconst (v := 0) hx hb dJ7_fill_d0a16_0 (by decide) ?_
  refine lv_istore_n (lv' := [(3, .int (0 : Int32)), (0, va_rf a0), (1, .long x1)]) hx hb dJ7_fill_d0a16_1 rfl hl (by decide) rfl (fun ls hl => ?_)
  refine w_aload_n C dJ7_fill_d0a16_2 rfl (lv_at hl 1 rfl) ?_
  refine w_lenJ (r := a0) C w dJ7_fill_d0a16_3 hE (fun v1 e1 => ?_)
  refine lv_istore (lv' := [(4, .int v1), (3, .int (0 : Int32)), (0, va_rf a0), (1, .long x1)]) hx hb dJ7_fill_d0a16_4 hl (by decide) rfl (fun ls hl => ?_)
  exact b_Arr_fill_d0a16_6 C N   N  h a0 x1 (0 : Int32) v1 _ _ ls w  (lv_sub hl [2, 3, 1, 0] rfl) e1
set_option maxRecDepth 20000 in
set_option maxHeartbeats 4000000 in
theorem b_Shelf_writeUnits_46 {p : Program} {l : Launch} {e : Env} {s : State} {m : MethodId} {args : Array Value} {below : List Frame} {meth : Method} {c : Code} {D : va_G} {cy : cyT} {z : Nat} (C : MX p s m args meth c cX5_writeUnits 5 (none) RX5 (Cond.code yX5_writeUnits cX5_writeUnits 5 (none) :: GW)) (N : Nat) {r : Unit} {g : hS} {rc2 : hS → Nat → Int32 → Int32 → Int32 → Option (Unit × hS)}  (hrc2 : ∀ (h : hS) (th : Nat) (x1 : Int32) (x2 : Int32) (x3 : Int32) (H : Heap) (locs : List Loc) (ls : Array Slot), wd D cy z s 0 h H locs → lv_has ls 5 [(0, .ref th), (1, .int x1), (2, .int x2), (3, .int x3)] → rc2 h th x1 x2 x3 = some (r, g) → W p l e { frames := 0, cells := 0, slots := 0, locals := 0 } s m args below meth c H locs 0 0 (MQ below (eQ D cy z (rV r) g) args s 0 0 (fun q => z ≤ q)) (F0 m 2 ls [])) : ∀  (h : hS) (th : Nat) (x1 : Int32) (x2 : Int32) (x3 : Int32) (H : Heap) (locs : List Loc) (ls : Array Slot), wd D cy z s 0 h H locs → lv_has ls 5 [(0, .ref th), (1, .int x1), (2, .int x2), (3, .int x3)] → f_Shelf_writeUnits_46 N rc2  h th x1 x2 x3 = some (r, g) → W p l e { frames := 0, cells := 0, slots := 0, locals := 0 } s m args below meth c H locs 0 0 (MQ below (eQ D cy z (rV r) g) args s 0 0 (fun q => z ≤ q)) (F0 m 46 ls []) := by
  obtain ⟨hx, hb, hr, hml, hown, hts, hlk⟩ := id C
  intro  h th x1 x2 x3 H locs ls w  hl hE
  unfold f_Shelf_writeUnits_46 at hE
  obtain ⟨v1, ev1, e1⟩ := bn_some hE
  refine lv_iinc (v := v1) (lv' := [(3, .int v1), (0, .ref th), (1, .int x1), (2, .int x2)]) hx hb dX5_writeUnits_46 hl (k := 3) rfl (by rw [ev1]; rfl) (by decide) rfl (fun ls hl => ?_)
  refine lv_goto (tgt := 2) hx hb dX5_writeUnits_49 (by decide) ?_
  exact hrc2  h th x1 x2 v1 _ _ ls w  (lv_sub hl [1, 2, 3, 0] rfl) e1
set_option maxRecDepth 20000 in
set_option maxHeartbeats 4000000 in
theorem b_Shelf_writeUnits_2 {p : Program} {l : Launch} {e : Env} {s : State} {m : MethodId} {args : Array Value} {below : List Frame} {meth : Method} {c : Code} {D : va_G} {cy : cyT} {z : Nat} (C : MX p s m args meth c cX5_writeUnits 5 (none) RX5 (Cond.code yX5_writeUnits cX5_writeUnits 5 (none) :: GW)) (N : Nat) {r : Unit} {g : hS}  : ∀ (n : Nat) (h : hS) (th : Nat) (x1 : Int32) (x2 : Int32) (x3 : Int32) (H : Heap) (locs : List Loc) (ls : Array Slot), wd D cy z s 0 h H locs → lv_has ls 5 [(0, .ref th), (1, .int x1), (2, .int x2), (3, .int x3)] → f_Shelf_writeUnits_2 N  n h th x1 x2 x3 = some (r, g) → W p l e { frames := 0, cells := 0, slots := 0, locals := 0 } s m args below meth c H locs 0 0 (MQ below (eQ D cy z (rV r) g) args s 0 0 (fun q => z ≤ q)) (F0 m 2 ls []) := by
  obtain ⟨hx, hb, hr, hml, hown, hts, hlk⟩ := id C
  intro n
  induction n with
  | zero =>
    intro  h th x1 x2 x3 H locs ls w  hl hE
    cases hE
  | succ n ih =>
    intro  h th x1 x2 x3 H locs ls w  hl hE
    unfold f_Shelf_writeUnits_2 at hE
    refine lv_iload_n hx hb dX5_writeUnits_2 rfl (lv_at hl 3 rfl) ?_
    refine lv_iload_n hx hb dX5_writeUnits_3 rfl (lv_at hl 1 rfl) ?_
    refine lv_iload_n hx hb dX5_writeUnits_4 rfl (lv_at hl 2 rfl) ?_
    refine lv_iadd hx hb dX5_writeUnits_5 ?_
    refine w_icmp_ge (tgt := 52) C dX5_writeUnits_6 (by decide) hE (fun hc e1 => ?_) (fun hc e1 => ?_)
    · exact w_vret C w e1 dX5_writeUnits_52
    · refine lv_iload_n hx hb dX5_writeUnits_9 rfl (lv_at hl 3 rfl) ?_
      refine lv_bipush (v := 64) hx hb dX5_writeUnits_10 (by decide) ?_
      refine w_idiv C dX5_writeUnits_12 e1 (fun e2 => ?_)
      refine w_bnI e2 (fun v1 e3 => ?_)
      refine lv_istore (lv' := [(4, .int v1), (0, .ref th), (1, .int x1), (2, .int x2), (3, .int x3)]) hx hb dX5_writeUnits_13 hl (by decide) rfl (fun ls hl => ?_)
      refine lv_iload hx hb dX5_writeUnits_15 (lv_at hl 0 rfl) ?_
      refine w_if_lt (tgt := 46) C dX5_writeUnits_17 (by decide) e3 (fun hc e4 => ?_) (fun hc e4 => ?_)
      · exact b_Shelf_writeUnits_46 C N  ih   h th x1 x2 x3 _ _ ls w  (lv_sub hl [1, 2, 3, 4] rfl) e4
      · refine lv_iload hx hb dX5_writeUnits_20 (lv_at hl 0 rfl) ?_
        refine lv_aload_n hx hb dX5_writeUnits_22 rfl (lv_at hl 1 rfl) ?_
        refine w_gR (r := some th) (ci := 6) (k := 0) C w rfl (by decide) (GF_wsX50 _) (by decide) rfl (List.mem_cons_of_mem _ gw_4_21) rfl dX5_writeUnits_23 e4 (fun v2 e5 => ?_)
        refine w_lenJ (r := v2) C w dX5_writeUnits_26 e5 (fun v3 e6 => ?_)
        refine w_icmp_ge (tgt := 46) C dX5_writeUnits_27 (by decide) e6 (fun hc e7 => ?_) (fun hc e7 => ?_)
        · exact b_Shelf_writeUnits_46 C N  ih   h th x1 x2 x3 _ _ ls w  (lv_sub hl [1, 2, 3, 4] rfl) e7
        · refine lv_aload_n hx hb dX5_writeUnits_30 rfl (lv_at hl 1 rfl) ?_
          refine w_gR (r := some th) (ci := 6) (k := 0) C w rfl (by decide) (GF_wsX50 _) (by decide) rfl (List.mem_cons_of_mem _ gw_4_21) rfl dX5_writeUnits_31 e7 (fun v4 e8 => ?_)
          refine lv_iload hx hb dX5_writeUnits_34 (lv_at hl 0 rfl) ?_
          refine lv_dup2_11 hx hb dX5_writeUnits_36 rfl (va_rf_cat _) ?_
          refine w_aJ (r := v4) C w dX5_writeUnits_37 e8 (fun v5 e9 => ?_)
          refine lv_lconst (v := 1) hx hb dX5_writeUnits_38 (by decide) ?_
          refine lv_iload_n hx hb dX5_writeUnits_39 rfl (lv_at hl 4 rfl) ?_
          refine lv_bipush (v := 64) hx hb dX5_writeUnits_40 (by decide) ?_
          refine w_irem C dX5_writeUnits_42 e9 (fun e10 => ?_)
          refine lv_lshl hx hb dX5_writeUnits_43 rfl ?_
          refine lv_lor hx hb dX5_writeUnits_44 ?_
          refine w_uJ (r := v4) C w dX5_writeUnits_45 e10 (fun h6 H locs w hsh6 e11 => ?_)
          exact b_Shelf_writeUnits_46 C N  ih   h6 th x1 x2 x3 _ _ ls w  (lv_sub hl [1, 2, 3, 4] rfl) e11
set_option maxRecDepth 20000 in
set_option maxHeartbeats 4000000 in
theorem k_Shelf_writeUnits (l : Launch) (D : va_G) (cy : cyT) (z : Nat) (N : Nat) (h : hS) (th : Nat) (x1 : Int32) (x2 : Int32) (r : Unit) (g : hS) (hE : f_Shelf_writeUnits N h th x1 x2 = some (r, g)) : ct l yX5_writeUnits (Cond.code yX5_writeUnits cX5_writeUnits 5 (none) :: GW) { frames := 0, cells := 0, slots := 0, locals := 0 } D cy z h [.ref th, .int x1, .int x2] (rV r) g := by
  refine Met.ofW (cc := cX5_writeUnits) (maxL := 5) (ret := none) (by decide) rfl ?_
  intro p e s m args below meth c s₁ B hml hv
  obtain ⟨rfl, hw⟩ := hv
  have C : MX p s m ([.ref th, .int x1, .int x2] : List Value).toArray meth c cX5_writeUnits 5 (none) RX5 (Cond.code yX5_writeUnits cX5_writeUnits 5 (none) :: GW) := ⟨B.exec, B.bytes, B.returns, hml, findClass_of_methodNamed B.named, atoms_spec (ws := Cond.code yX5_writeUnits cX5_writeUnits 5 (none) :: GW) B.pre, B.notSynchronized⟩
  obtain ⟨hx, hb, hr, hml, hown, hts, hlk⟩ := id C
  have w := wd_of hw
  obtain ⟨ls, hen, hl⟩ : ∃ ls : Array Slot, entryFrame m ([.ref th, .int x1, .int x2] : List Value).toArray 5 = F0 m 0 ls [] ∧ lv_has ls 5 [(0, .ref th), (1, .int x1), (2, .int x2)] := by
    exact ⟨_, lg_entry_eq _ _ _, lv_entry _ (Nat.le_of_ble_eq_true rfl)⟩
  rw [hen]
  unfold f_Shelf_writeUnits at hE
  refine lv_iload_n hx hb dX5_writeUnits_0 rfl (lv_at hl 1 rfl) ?_
  refine lv_istore_n (lv' := [(3, .int x1), (0, .ref th), (1, .int x1), (2, .int x2)]) hx hb dX5_writeUnits_1 rfl hl (by decide) rfl (fun ls hl => ?_)
  exact b_Shelf_writeUnits_2 C N   N  h th x1 x2 x1 _ _ ls w  (lv_sub hl [1, 2, 3, 0] rfl) hE
