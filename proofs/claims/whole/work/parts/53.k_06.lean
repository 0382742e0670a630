def f_K_shared_59 (N : Nat) (rc28 : hS → Nat → Int32 → Int32 → Int32 → Int32 → Option ((Int64 ⊕ Nat) × hS)) (h : hS) (th : Nat) (x1 : Int32) (x2 : Int32) (x3 : Int32) (x4 : Int32) : Option ((Int64 ⊕ Nat) × hS) := bn (x4 + (1 : Int32)) fun v1 => rc28 h th x1 x2 x3 v1
def f_K_shared_55 (N : Nat) (rc28 : hS → Nat → Int32 → Int32 → Int32 → Int32 → Option ((Int64 ⊕ Nat) × hS)) (h : hS) (th : Nat) (x1 : Int32) (x2 : Int32) (x3 : Int32) (x4 : Int32) (y0 : Option Nat) (y1 : Int32) (y2 : Option Nat) : Option ((Int64 ⊕ Nat) × hS) := uR h 63 3 y0 y1 y2 fun h1 => bn (x3 + (1 : Int32)) fun v2 => f_K_shared_59 N rc28  h1 th x1 x2 v2 x4
def f_K_shared_28 (N : Nat)  : Nat → hS → Nat → Int32 → Int32 → Int32 → Int32 → Option ((Int64 ⊕ Nat) × hS)
  | 0 => fun _ _ _ _ _ _ => none
  | n + 1 => fun h th x1 x2 x3 x4 => if (4 : Int32) ≤ x4 then (cv h (some th) 12 (fun a => f_K_sharedValue N h a x3 x2) fun v1 h2 => some ((Sum.inl v1), h2)) else (if ((x1 >>> (x4 &&& 31)) &&& (1 : Int32)) = (1 : Int32) then (gR h (some th) 12 14 fun v3 => cvT h (some th) 12 (fun a => f_K_curveOf N h a x4) fun v4 h5 => f_K_shared_55 N (f_K_shared_28 N  n)  h5 th x1 x2 x3 x4 v3 x3 v4) else (f_K_shared_59 N (f_K_shared_28 N  n)  h th x1 x2 x3 x4))
def f_K_shared_23 (N : Nat)  (h : hS) (th : Nat) (x1 : Int32) (x2 : Int32) : Option ((Int64 ⊕ Nat) × hS) := f_K_shared_28 N  N h th x1 x2 (0 : Int32) (0 : Int32)
def f_K_shared_19 (N : Nat)  (h : hS) (th : Nat) (x1 : Int32) (x2 : Int32) : Option ((Int64 ⊕ Nat) × hS) := clT (f_K_needX N h x2) fun _ h2 => f_K_shared_23 N   h2 th x1 x2
def f_K_shared_16 (N : Nat)  (h : hS) (th : Nat) (x1 : Int32) (x2 : Int32) (y0 : Int32) : Option ((Int64 ⊕ Nat) × hS) := clT (f_K_needFit N h y0) fun _ h2 => f_K_shared_19 N   h2 th x1 x2
def f_K_shared_15 (N : Nat)  (h : hS) (th : Nat) (x1 : Int32) (x2 : Int32) : Option ((Int64 ⊕ Nat) × hS) := f_K_shared_16 N   h th x1 x2 (0 : Int32)
def f_K_shared (N : Nat) (h : hS) (th : Nat) (x1 : Int32) (x2 : Int32) : Option ((Int64 ⊕ Nat) × hS) := if x1 < (1 : Int32) then (f_K_shared_15 N   h th x1 x2) else (if (15 : Int32) < x1 then (f_K_shared_15 N   h th x1 x2) else (f_K_shared_16 N   h th x1 x2 (1 : Int32)))
def f_K_stretch_22 (N : Nat)  (h : hS) (th : Nat) (x2 : Int32) : Option ((Int32 ⊕ Nat) × hS) := gR h (some th) 12 6 fun v1 => cv h v1 10 (fun a => f_Trail_wayTo N h a x2) fun v2 h3 => some ((Sum.inl v2), h3)
def f_K_stretch_10 (N : Nat)  (h : hS) (th : Nat) (x2 : Int32) (a3 : Option Nat) : Option ((Int32 ⊕ Nat) × hS) := gR h (some th) 12 6 fun v1 => gR h (some th) 12 4 fun v2 => cv h v1 10 (fun a => f_Trail_lay N h a a3 v2) fun _ h4 => f_K_stretch_22 N   h4 th x2
def f_K_stretch_5 (N : Nat)  (h : hS) (th : Nat) (x2 : Int32) (y0 : Option Nat) : Option ((Int32 ⊕ Nat) × hS) := clT (f_K_needX N h x2) fun _ h2 => f_K_stretch_10 N   h2 th x2 y0
def f_K_stretch (N : Nat) (h : hS) (th : Nat) (x1 : Int32) (x2 : Int32) : Option ((Int32 ⊕ Nat) × hS) := cvT h (some th) 12 (fun a => f_K_chainOf N h a x1) fun v1 h2 => f_K_stretch_5 N   h2 th x2 v1
def f_K_leads_134 (N : Nat)  (h : hS) (y0 : Int32) : Option ((Int32 ⊕ Nat) × hS) := some ((Sum.inl y0), h)
def f_K_leads_103 (N : Nat) (rc60 : hS → Nat → Int32 → Int32 → Int32 → Int32 → Option ((Int32 ⊕ Nat) × hS)) (h : hS) (th : Nat) (x3 : Int32) (x4 : Int32) (x5 : Int32) (x6 : Int32) : Option ((Int32 ⊕ Nat) × hS) := gR h (some th) 12 9 fun v1 => cv h v1 11 (fun a => f_Walk_goOn N h a ) fun _ h3 => gR h3 (some th) 12 10 fun v4 => cv h3 v4 11 (fun a => f_Walk_goOn N h3 a ) fun _ h6 => bn (x6 + (1 : Int32)) fun v7 => rc60 h6 th x3 x4 x5 v7
def f_K_leads_98 (N : Nat) (rc60 : hS → Nat → Int32 → Int32 → Int32 → Int32 → Option ((Int32 ⊕ Nat) × hS)) (h : hS) (th : Nat) (x3 : Int32) (x4 : Int32) (x6 : Int32) (y0 : Int32) : Option ((Int32 ⊕ Nat) × hS) := bn (x4 + (1 : Int32)) fun v1 => f_K_leads_103 N rc60  h th x3 v1 y0 x6
def f_K_leads_60 (N : Nat)  : Nat → hS → Nat → Int32 → Int32 → Int32 → Int32 → Option ((Int32 ⊕ Nat) × hS)
  | 0 => fun _ _ _ _ _ _ => none
  | n + 1 => fun h th x3 x4 x5 x6 => if (500 : Int32) < x6 then (if x3 = (0 : Int32) then (f_K_leads_134 N   h x4) else (f_K_leads_134 N   h x5)) else (gR h (some th) 12 9 fun v1 => gJ h v1 11 4 fun v2 => gR h (some th) 12 10 fun v3 => gJ h v3 11 4 fun v4 => if (0 : Int32) ≤ (lg_cmp v2 v4) then (f_K_leads_103 N (f_K_leads_60 N  n)  h th x3 x4 x5 x6) else (if x4 = (0 : Int32) then (f_K_leads_98 N (f_K_leads_60 N  n)  h th x3 x4 x6 x6) else (f_K_leads_98 N (f_K_leads_60 N  n)  h th x3 x4 x6 x5)))
def f_K_leads_47 (N : Nat)  (h : hS) (th : Nat) (x3 : Int32) : Option ((Int32 ⊕ Nat) × hS) := f_K_leads_60 N  N h th x3 (0 : Int32) (-10000000 : Int32) (-500 : Int32)
def f_K_leads_44 (N : Nat)  (h : hS) (th : Nat) (x3 : Int32) (y0 : Int32) : Option ((Int32 ⊕ Nat) × hS) := clT (f_K_needSuch N h y0) fun _ h2 => f_K_leads_47 N   h2 th x3
def f_K_leads_39 (N : Nat)  (h : hS) (th : Nat) (x3 : Int32) : Option ((Int32 ⊕ Nat) × hS) := f_K_leads_44 N   h th x3 (1 : Int32)
def f_K_leads_24 (N : Nat)  (h : hS) (th : Nat) (x3 : Int32) (y0 : Option Nat) (y1 : Option Nat) : Option ((Int32 ⊕ Nat) × hS) := cv h y0 11 (fun a => f_Walk_startAt N h a y1 (-500 : Int32)) fun _ h2 => if x3 = (0 : Int32) then (f_K_leads_39 N   h2 th x3) else (if x3 = (1 : Int32) then (f_K_leads_39 N   h2 th x3) else (f_K_leads_44 N   h2 th x3 (0 : Int32)))
def f_K_leads_9 (N : Nat)  (h : hS) (th : Nat) (x2 : Int32) (x3 : Int32) (y0 : Option Nat) (y1 : Option Nat) : Option ((Int32 ⊕ Nat) × hS) := cv h y0 11 (fun a => f_Walk_startAt N h a y1 (-500 : Int32)) fun _ h2 => gR h2 (some th) 12 10 fun v3 => cvT h2 (some th) 12 (fun a => f_K_curveOf N h2 a x2) fun v4 h5 => f_K_leads_24 N   h5 th x3 v3 v4
def f_K_leads (N : Nat) (h : hS) (th : Nat) (x1 : Int32) (x2 : Int32) (x3 : Int32) : Option ((Int32 ⊕ Nat) × hS) := gR h (some th) 12 9 fun v1 => cvT h (some th) 12 (fun a => f_K_curveOf N h a x1) fun v2 h3 => f_K_leads_9 N   h3 th x2 x3 v1 v2
def f_K_against_71 (N : Nat)  (h : hS)  : Option ((Int64 ⊕ Nat) × hS) := some ((Sum.inl (-10000000 : Int64)), h)
def f_K_against_107 (N : Nat)  (h : hS) (y0 : Int64) : Option ((Int64 ⊕ Nat) × hS) := some ((Sum.inl y0), h)
def f_K_against_46 (N : Nat)  (h : hS) (x2 : Int32) (x3 : Int32) (a4 : Option Nat) : Option ((Int64 ⊕ Nat) × hS) := gI h a4 3 2 fun v1 => if x2 < (-v1) then (f_K_against_71 N   h ) else (gI h a4 3 3 fun v2 => gI h a4 3 2 fun v3 => if x2 ≤ (v2 - v3) then (cv h a4 3 (fun a => f_Curve_nearestToZero N h a x2) fun v4 h5 => if x3 = (0 : Int32) then (cv h5 a4 3 (fun a => f_Curve_valueAt N h5 a v4) fun v6 h7 => f_K_against_107 N   h7 ((x2.toInt64 * v4.toInt64) - v6)) else (f_K_against_107 N   h5 v4.toInt64)) else (f_K_against_71 N   h ))
def f_K_against_43 (N : Nat)  (h : hS) (x2 : Int32) (x3 : Int32) (a4 : Option Nat) (y0 : Int32) : Option ((Int64 ⊕ Nat) × hS) := clT (f_K_needFit N h y0) fun _ h2 => f_K_against_46 N   h2 x2 x3 a4
def f_K_against_42 (N : Nat)  (h : hS) (x2 : Int32) (x3 : Int32) (a4 : Option Nat) : Option ((Int64 ⊕ Nat) × hS) := f_K_against_43 N   h x2 x3 a4 (0 : Int32)
def f_K_against_24 (N : Nat)  (h : hS) (x2 : Int32) (x3 : Int32) (a4 : Option Nat) : Option ((Int64 ⊕ Nat) × hS) := if x2 < (-200 : Int32) then (f_K_against_42 N   h x2 x3 a4) else (if (200 : Int32) < x2 then (f_K_against_42 N   h x2 x3 a4) else (f_K_against_43 N   h x2 x3 a4 (1 : Int32)))
def f_K_against_21 (N : Nat)  (h : hS) (x2 : Int32) (x3 : Int32) (a4 : Option Nat) (y0 : Int32) : Option ((Int64 ⊕ Nat) × hS) := clT (f_K_needSuch N h y0) fun _ h2 => f_K_against_24 N   h2 x2 x3 a4
def f_K_against_16 (N : Nat)  (h : hS) (x2 : Int32) (x3 : Int32) (a4 : Option Nat) : Option ((Int64 ⊕ Nat) × hS) := f_K_against_21 N   h x2 x3 a4 (1 : Int32)
def f_K_against_5 (N : Nat)  (h : hS) (x2 : Int32) (x3 : Int32) (y0 : Option Nat) : Option ((Int64 ⊕ Nat) × hS) := if x3 = (0 : Int32) then (f_K_against_16 N   h x2 x3 y0) else (if x3 = (1 : Int32) then (f_K_against_16 N   h x2 x3 y0) else (f_K_against_21 N   h x2 x3 y0 (0 : Int32)))
def f_K_against (N : Nat) (h : hS) (th : Nat) (x1 : Int32) (x2 : Int32) (x3 : Int32) : Option ((Int64 ⊕ Nat) × hS) := cvT h (some th) 12 (fun a => f_K_curveOf N h a x1) fun v1 h2 => f_K_against_5 N   h2 x2 x3 v1
def f_K_meet_80 (N : Nat) (rc39 : hS → Nat → Int32 → Int32 → Option ((Int32 ⊕ Nat) × hS)) (h : hS) (th : Nat) (x3 : Int32) (x4 : Int32) : Option ((Int32 ⊕ Nat) × hS) := gR h (some th) 12 9 fun v1 => cv h v1 11 (fun a => f_Walk_goOn N h a ) fun _ h3 => gR h3 (some th) 12 10 fun v4 => cv h3 v4 11 (fun a => f_Walk_goOn N h3 a ) fun _ h6 => bn (x4 + (1 : Int32)) fun v7 => rc39 h6 th x3 v7
def f_K_meet_39 (N : Nat)  : Nat → hS → Nat → Int32 → Int32 → Option ((Int32 ⊕ Nat) × hS)
  | 0 => fun _ _ _ _ => none
  | n + 1 => fun h th x3 x4 => if (1000 : Int32) < x4 then (some ((Sum.inl x3), h)) else (gR h (some th) 12 9 fun v1 => gJ h v1 11 4 fun v2 => gR h (some th) 12 10 fun v3 => gJ h v3 11 4 fun v4 => if (lg_cmp v2 v4) = (0 : Int32) then (if (jab x3) ≤ (jab x4) then (f_K_meet_80 N (f_K_meet_39 N  n)  h th x3 x4) else (f_K_meet_80 N (f_K_meet_39 N  n)  h th x4 x4)) else (f_K_meet_80 N (f_K_meet_39 N  n)  h th x3 x4))
def f_K_meet_24 (N : Nat)  (h : hS) (th : Nat) (y0 : Option Nat) (y1 : Option Nat) : Option ((Int32 ⊕ Nat) × hS) := cv h y0 11 (fun a => f_Walk_startAt N h a y1 (-1000 : Int32)) fun _ h2 => f_K_meet_39 N  N h2 th (-10000000 : Int32) (-1000 : Int32)
def f_K_meet_9 (N : Nat)  (h : hS) (th : Nat) (x2 : Int32) (y0 : Option Nat) (y1 : Option Nat) : Option ((Int32 ⊕ Nat) × hS) := cv h y0 11 (fun a => f_Walk_startAt N h a y1 (-1000 : Int32)) fun _ h2 => gR h2 (some th) 12 10 fun v3 => cvT h2 (some th) 12 (fun a => f_K_curveOf N h2 a x2) fun v4 h5 => f_K_meet_24 N   h5 th v3 v4
def f_K_meet (N : Nat) (h : hS) (th : Nat) (x1 : Int32) (x2 : Int32) : Option ((Int32 ⊕ Nat) × hS) := gR h (some th) 12 9 fun v1 => cvT h (some th) 12 (fun a => f_K_curveOf N h a x1) fun v2 h3 => f_K_meet_9 N   h3 th x2 v1 v2
def f_K_heaviest_102 (N : Nat) (rc63 : hS → Nat → Int32 → Int32 → Option Nat → Int32 → Option ((Int32 ⊕ Nat) × hS)) (h : hS) (th : Nat) (x2 : Int32) (x3 : Int32) (a4 : Option Nat) (x5 : Int32) : Option ((Int32 ⊕ Nat) × hS) := bn (x5 + (-1 : Int32)) fun v1 => rc63 h th x2 x3 a4 v1
def f_K_heaviest_80 (N : Nat) (rc63 : hS → Nat → Int32 → Int32 → Option Nat → Int32 → Option ((Int32 ⊕ Nat) × hS)) (h : hS) (th : Nat) (x2 : Int32) (x3 : Int32) (a4 : Option Nat) (x5 : Int32) (y0 : Int32) : Option ((Int32 ⊕ Nat) × hS) := if y0 = (0 : Int32) then (f_K_heaviest_102 N rc63  h th x2 x3 a4 x5) else (gR h (some th) 12 4 fun v1 => gR h v1 1 0 fun v2 => gJ h v2 3 4 fun v3 => if (0 : Int32) < (lg_cmp v3 x3.toInt64) then (f_K_heaviest_102 N rc63  h th x2 x3 a4 x5) else (some ((Sum.inl x5), h)))
def f_K_heaviest_63 (N : Nat)  : Nat → hS → Nat → Int32 → Int32 → Option Nat → Int32 → Option ((Int32 ⊕ Nat) × hS)
  | 0 => fun _ _ _ _ _ _ => none
  | n + 1 => fun h th x2 x3 a4 x5 => if x5 < (0 : Int32) then (some ((Sum.inl (-1 : Int32)), h)) else (gR h (some th) 12 4 fun v1 => cv h v1 1 (fun a => f_Bench_goThrough N h a a4 x2 x5) fun v2 h3 => f_K_heaviest_80 N (f_K_heaviest_63 N  n)  h3 th x2 x3 a4 x5 v2)
def f_K_heaviest_59 (N : Nat)  (h : hS) (th : Nat) (x2 : Int32) (x3 : Int32) (a4 : Option Nat) : Option ((Int32 ⊕ Nat) × hS) := f_K_heaviest_63 N  N h th x2 x3 a4 (40 : Int32)
def f_K_heaviest_47 (N : Nat)  (h : hS) (th : Nat) (x2 : Int32) (x3 : Int32) (y0 : Option Nat) : Option ((Int32 ⊕ Nat) × hS) := gR h (some th) 12 4 fun v1 => cv h v1 1 (fun a => f_Bench_standAhead N h a y0 x2) fun _ h3 => f_K_heaviest_59 N   h3 th x2 x3 y0
def f_K_heaviest_42 (N : Nat)  (h : hS) (th : Nat) (x1 : Int32) (x2 : Int32) (x3 : Int32) : Option ((Int32 ⊕ Nat) × hS) := cvT h (some th) 12 (fun a => f_K_chainOf N h a x1) fun v1 h2 => f_K_heaviest_47 N   h2 th x2 x3 v1
def f_K_heaviest_39 (N : Nat)  (h : hS) (th : Nat) (x1 : Int32) (x2 : Int32) (x3 : Int32) (y0 : Int32) : Option ((Int32 ⊕ Nat) × hS) := clT (f_K_needFit N h y0) fun _ h2 => f_K_heaviest_42 N   h2 th x1 x2 x3
def f_K_heaviest_38 (N : Nat)  (h : hS) (th : Nat) (x1 : Int32) (x2 : Int32) (x3 : Int32) : Option ((Int32 ⊕ Nat) × hS) := f_K_heaviest_39 N   h th x1 x2 x3 (0 : Int32)
def f_K_heaviest_21 (N : Nat)  (h : hS) (th : Nat) (x1 : Int32) (x2 : Int32) (x3 : Int32) : Option ((Int32 ⊕ Nat) × hS) := if x3 < (0 : Int32) then (f_K_heaviest_38 N   h th x1 x2 x3) else (if (0 : Int32) < (lg_cmp x3.toInt64 (100000000 : Int64)) then (f_K_heaviest_38 N   h th x1 x2 x3) else (f_K_heaviest_39 N   h th x1 x2 x3 (1 : Int32)))
def f_K_heaviest_18 (N : Nat)  (h : hS) (th : Nat) (x1 : Int32) (x2 : Int32) (x3 : Int32) (y0 : Int32) : Option ((Int32 ⊕ Nat) × hS) := clT (f_K_needSuch N h y0) fun _ h2 => f_K_heaviest_21 N   h2 th x1 x2 x3
def f_K_heaviest_6 (N : Nat)  (h : hS) (th : Nat) (x1 : Int32) (x2 : Int32) (x3 : Int32) (y0 : Option Nat) : Option ((Int32 ⊕ Nat) × hS) := gI h y0 8 0 fun v1 => if (2 : Int32) < v1 then (f_K_heaviest_18 N   h th x1 x2 x3 (0 : Int32)) else (f_K_heaviest_18 N   h th x1 x2 x3 (1 : Int32))
def f_K_heaviest (N : Nat) (h : hS) (th : Nat) (x1 : Int32) (x2 : Int32) (x3 : Int32) : Option ((Int32 ⊕ Nat) × hS) := cvT h (some th) 12 (fun a => f_K_stepOf N h a x1 x2) fun v1 h2 => f_K_heaviest_6 N   h2 th x1 x2 x3 v1
def f_K_sparedBy_19 (N : Nat)  (h : hS) (th : Nat) (a2 : Option Nat) (y0 : Int32) : Option (Int64 × hS) := if y0 = (0 : Int32) then (some ((-1000000000 : Int64), h)) else (gJ h a2 3 4 fun v1 => gR h (some th) 12 4 fun v2 => gR h v2 1 0 fun v3 => gJ h v3 3 4 fun v4 => some ((v1 - v4), h))
def f_K_sparedBy_9 (N : Nat)  (h : hS) (th : Nat) (a1 : Option Nat) (a2 : Option Nat) (x3 : Int32) : Option (Int64 × hS) := gR h (some th) 12 4 fun v1 => cv h v1 1 (fun a => f_Bench_goThrough N h a a1 x3 (-1 : Int32)) fun v2 h3 => f_K_sparedBy_19 N   h3 th a2 v2
def f_K_sparedBy (N : Nat) (h : hS) (th : Nat) (a1 : Option Nat) (a2 : Option Nat) (x3 : Int32) : Option (Int64 × hS) := gR h (some th) 12 4 fun v1 => cv h v1 1 (fun a => f_Bench_standAhead N h a a1 x3) fun _ h3 => f_K_sparedBy_9 N   h3 th a1 a2 x3
def f_K_spared_22 (N : Nat)  (h : hS) (y0 : Int64) : Option ((Int64 ⊕ Nat) × hS) := some ((Sum.inl y0), h)
def f_K_spared_18 (N : Nat)  (h : hS) (x2 : Int32) (y0 : Option Nat) (y1 : Option Nat) (y2 : Option Nat) : Option ((Int64 ⊕ Nat) × hS) := cv h y0 12 (fun a => f_K_sparedBy N h a y1 y2 x2) fun v1 h2 => f_K_spared_22 N   h2 v1
def f_K_spared_13 (N : Nat)  (h : hS) (th : Nat) (x1 : Int32) (x2 : Int32) (y0 : Option Nat) (y1 : Option Nat) : Option ((Int64 ⊕ Nat) × hS) := cvT h (some th) 12 (fun a => f_K_curveOf N h a x1) fun v1 h2 => f_K_spared_18 N   h2 x2 y0 y1 v1
def f_K_spared_6 (N : Nat)  (h : hS) (th : Nat) (x1 : Int32) (x2 : Int32) (y0 : Option Nat) : Option ((Int64 ⊕ Nat) × hS) := cvT h (some th) 12 (fun a => f_K_chainOf N h a x1) fun v1 h2 => f_K_spared_13 N   h2 th x1 x2 (some th) v1
def f_K_spared (N : Nat) (h : hS) (th : Nat) (x1 : Int32) (x2 : Int32) : Option ((Int64 ⊕ Nat) × hS) := cvT h (some th) 12 (fun a => f_K_stepOf N h a x1 x2) fun v1 h2 => f_K_spared_6 N   h2 th x1 x2 v1
def f_K_dearest_57 (N : Nat) (rc14 : hS → Nat → Int32 → Option Nat → Int32 → Int64 → Int32 → Option ((Int32 ⊕ Nat) × hS)) (h : hS) (th : Nat) (x1 : Int32) (a2 : Option Nat) (x3 : Int32) (x4 : Int64) (x6 : Int32) : Option ((Int32 ⊕ Nat) × hS) := bn (x6 + (1 : Int32)) fun v1 => rc14 h th x1 a2 x3 x4 v1
def f_K_dearest_50 (N : Nat) (rc14 : hS → Nat → Int32 → Option Nat → Int32 → Int64 → Int32 → Option ((Int32 ⊕ Nat) × hS)) (h : hS) (th : Nat) (x1 : Int32) (a2 : Option Nat) (x6 : Int32) (x7 : Int64) : Option ((Int32 ⊕ Nat) × hS) := f_K_dearest_57 N rc14  h th x1 a2 x6 x7 x6
def f_K_dearest_35 (N : Nat) (rc14 : hS → Nat → Int32 → Option Nat → Int32 → Int64 → Int32 → Option ((Int32 ⊕ Nat) × hS)) (h : hS) (th : Nat) (x1 : Int32) (a2 : Option Nat) (x3 : Int32) (x4 : Int64) (x6 : Int32) (y0 : Int64) : Option ((Int32 ⊕ Nat) × hS) := if x3 = (-1 : Int32) then (f_K_dearest_50 N rc14  h th x1 a2 x6 y0) else (if (lg_cmp y0 x4) ≤ (0 : Int32) then (f_K_dearest_57 N rc14  h th x1 a2 x3 x4 x6) else (f_K_dearest_50 N rc14  h th x1 a2 x6 y0))
def f_K_dearest_30 (N : Nat) (rc14 : hS → Nat → Int32 → Option Nat → Int32 → Int64 → Int32 → Option ((Int32 ⊕ Nat) × hS)) (h : hS) (th : Nat) (x1 : Int32) (a2 : Option Nat) (x3 : Int32) (x4 : Int64) (x6 : Int32) (y0 : Option Nat) (y1 : Option Nat) (y2 : Option Nat) : Option ((Int32 ⊕ Nat) × hS) := cv h y0 12 (fun a => f_K_sparedBy N h a y1 y2 x6) fun v1 h2 => f_K_dearest_35 N rc14  h2 th x1 a2 x3 x4 x6 v1
def f_K_dearest_14 (N : Nat)  : Nat → hS → Nat → Int32 → Option Nat → Int32 → Int64 → Int32 → Option ((Int32 ⊕ Nat) × hS)
  | 0 => fun _ _ _ _ _ _ _ => none
  | n + 1 => fun h th x1 a2 x3 x4 x6 => gI h a2 2 1 fun v1 => if v1 ≤ x6 then (some ((Sum.inl x3), h)) else (cvT h (some th) 12 (fun a => f_K_curveOf N h a x1) fun v2 h3 => f_K_dearest_30 N (f_K_dearest_14 N  n)  h3 th x1 a2 x3 x4 x6 (some th) a2 v2)
def f_K_dearest_5 (N : Nat)  (h : hS) (th : Nat) (x1 : Int32) (y0 : Option Nat) : Option ((Int32 ⊕ Nat) × hS) := f_K_dearest_14 N  N h th x1 y0 (-1 : Int32) (0 : Int64) (0 : Int32)
def f_K_dearest (N : Nat) (h : hS) (th : Nat) (x1 : Int32) : Option ((Int32 ⊕ Nat) × hS) := cvT h (some th) 12 (fun a => f_K_chainOf N h a x1) fun v1 h2 => f_K_dearest_5 N   h2 th x1 v1
def f_K_gap_37 (N : Nat)  : Nat → hS → Nat → Int64 → Int32 → Option ((Int64 ⊕ Nat) × hS)
  | 0 => fun _ _ _ _ => none
  | n + 1 => fun h th x3 x5 => if (500 : Int32) < x5 then (some ((Sum.inl x3), h)) else (gR h (some th) 12 9 fun v1 => gJ h v1 11 4 fun v2 => gR h (some th) 12 10 fun v3 => gJ h v3 11 4 fun v4 => bn ((jmxl x3 (jabl (v2 - v4)))) fun v5 => gR h (some th) 12 9 fun v6 => cv h v6 11 (fun a => f_Walk_goOn N h a ) fun _ h8 => gR h8 (some th) 12 10 fun v9 => cv h8 v9 11 (fun a => f_Walk_goOn N h8 a ) fun _ h11 => bn (x5 + (1 : Int32)) fun v12 => f_K_gap_37 N  n h11 th v5 v12)
def f_K_gap_24 (N : Nat)  (h : hS) (th : Nat) (y0 : Option Nat) (y1 : Option Nat) : Option ((Int64 ⊕ Nat) × hS) := cv h y0 11 (fun a => f_Walk_startAt N h a y1 (-500 : Int32)) fun _ h2 => f_K_gap_37 N  N h2 th (0 : Int64) (-500 : Int32)
def f_K_gap_9 (N : Nat)  (h : hS) (th : Nat) (x2 : Int32) (y0 : Option Nat) (y1 : Option Nat) : Option ((Int64 ⊕ Nat) × hS) := cv h y0 11 (fun a => f_Walk_startAt N h a y1 (-500 : Int32)) fun _ h2 => gR h2 (some th) 12 10 fun v3 => cvT h2 (some th) 12 (fun a => f_K_curveOf N h2 a x2) fun v4 h5 => f_K_gap_24 N   h5 th v3 v4
def f_K_gap (N : Nat) (h : hS) (th : Nat) (x1 : Int32) (x2 : Int32) : Option ((Int64 ⊕ Nat) × hS) := gR h (some th) 12 9 fun v1 => cvT h (some th) 12 (fun a => f_K_curveOf N h a x1) fun v2 h3 => f_K_gap_9 N   h3 th x2 v1 v2
def f_K_alike_21 (N : Nat)  (h : hS) (y0 : Int32) : Option ((Int32 ⊕ Nat) × hS) := some ((Sum.inl y0), h)
def f_K_alike_10 (N : Nat)  (h : hS) (y0 : Option Nat) (y1 : Option Nat) : Option ((Int32 ⊕ Nat) × hS) := cv h y0 3 (fun a => f_Curve_isSameAs N h a y1) fun v1 h2 => if v1 = (0 : Int32) then (f_K_alike_21 N   h2 (0 : Int32)) else (f_K_alike_21 N   h2 (1 : Int32))
def f_K_alike_5 (N : Nat)  (h : hS) (th : Nat) (x2 : Int32) (y0 : Option Nat) : Option ((Int32 ⊕ Nat) × hS) := cvT h (some th) 12 (fun a => f_K_curveOf N h a x2) fun v1 h2 => f_K_alike_10 N   h2 y0 v1
def f_K_alike (N : Nat) (h : hS) (th : Nat) (x1 : Int32) (x2 : Int32) : Option ((Int32 ⊕ Nat) × hS) := cvT h (some th) 12 (fun a => f_K_curveOf N h a x1) fun v1 h2 => f_K_alike_5 N   h2 th x2 v1
def f_K_told_81 (N : Nat)  (h : hS) (th : Nat) : Option ((Int32 ⊕ Nat) × hS) := gR h (some th) 12 7 fun v1 => gI h v1 9 2 fun v2 => some ((Sum.inl v2), h)
def f_K_told_78 (N : Nat)  (h : hS) (th : Nat) (y0 : Int32) : Option ((Int32 ⊕ Nat) × hS) := clT (f_K_needSuch N h y0) fun _ h2 => f_K_told_81 N   h2 th
def f_K_told_77 (N : Nat)  (h : hS) (th : Nat) : Option ((Int32 ⊕ Nat) × hS) := f_K_told_78 N   h th (0 : Int32)
def f_K_told_17 (N : Nat)  : Nat → hS → Nat → Int32 → Option Nat → Int32 → Option ((Int32 ⊕ Nat) × hS)
  | 0 => fun _ _ _ _ _ => none
  | n + 1 => fun h th x2 a3 x4 => gI h a3 2 1 fun v1 => if v1 ≤ x4 then (if x2 = (-1 : Int32) then (gR h (some th) 12 7 fun v4 => gI h v4 9 1 fun v5 => some ((Sum.inl v5), h)) else (if x2 < (0 : Int32) then (f_K_told_77 N   h th) else (gR h (some th) 12 7 fun v2 => gI h v2 9 1 fun v3 => if v3 ≤ x2 then (f_K_told_77 N   h th) else (f_K_told_78 N   h th (1 : Int32))))) else (gR h (some th) 12 7 fun v6 => cv h a3 2 (fun a => f_Chain_stepAt N h a x4) fun v7 h8 => cv h8 v6 9 (fun a => f_Teller_putStep N h8 a v7) fun _ h10 => bn (x4 + (1 : Int32)) fun v11 => f_K_told_17 N  n h10 th x2 a3 v11)
def f_K_told_5 (N : Nat)  (h : hS) (th : Nat) (x2 : Int32) (y0 : Option Nat) : Option ((Int32 ⊕ Nat) × hS) := gR h (some th) 12 7 fun v1 => cv h v1 9 (fun a => f_Teller_listenFor N h a x2) fun _ h3 => f_K_told_17 N  N h3 th x2 y0 (0 : Int32)
def f_K_told (N : Nat) (h : hS) (th : Nat) (x1 : Int32) (x2 : Int32) : Option ((Int32 ⊕ Nat) × hS) := cvT h (some th) 12 (fun a => f_K_chainOf N h a x1) fun v1 h2 => f_K_told_5 N   h2 th x2 v1
def f_K_areNumbersOf_50 (N : Nat)  (h : hS) (y0 : Int32) : Option (Int32 × hS) := bz y0 (some (y0, h))
def f_K_areNumbersOf_45 (N : Nat)  (h : hS)  : Option (Int32 × hS) := f_K_areNumbersOf_50 N   h (1 : Int32)
def f_K_areNumbersOf_49 (N : Nat)  (h : hS)  : Option (Int32 × hS) := f_K_areNumbersOf_50 N   h (0 : Int32)
def f_K_areNumbersOf_30 (N : Nat)  (h : hS) (x2 : Int32) (x3 : Int32) : Option (Int32 × hS) := if x3 < (2 : Int32) then (f_K_areNumbersOf_45 N   h ) else (if x2 < (0 : Int32) then (f_K_areNumbersOf_49 N   h ) else (if (99 : Int32) < x2 then (f_K_areNumbersOf_49 N   h ) else (f_K_areNumbersOf_45 N   h )))
def f_K_areNumbersOf_28 (N : Nat)  (h : hS)  : Option (Int32 × hS) := bz (0 : Int32) (some ((0 : Int32), h))
def f_K_areNumbersOf (N : Nat) (h : hS) (x0 : Int32) (x1 : Int32) (x2 : Int32) : Option (Int32 × hS) := cl (f_K_numbersOf N h x0) fun v1 h2 => if v1 < (1 : Int32) then (f_K_areNumbersOf_30 N   h2 x2 v1) else (bn (h_r h2 0 2) fun v3 => aI h2 56 v3 x0 fun v4 => if x1 < v4 then (f_K_areNumbersOf_28 N   h2 ) else (bn (h_r h2 0 3) fun v5 => aI h2 56 v5 x0 fun v6 => if x1 ≤ v6 then (f_K_areNumbersOf_30 N   h2 x2 v1) else (f_K_areNumbersOf_28 N   h2 )))
def f_K_isTellable_24 (N : Nat)  (h : hS)  : Option (Int32 × hS) := bz (0 : Int32) (some ((0 : Int32), h))
def f_K_isTellable_55 (N : Nat)  (h : hS) (y0 : Int32) : Option (Int32 × hS) := bz y0 (some (y0, h))
def f_K_isTellable_54 (N : Nat)  (h : hS)  : Option (Int32 × hS) := f_K_isTellable_55 N   h (0 : Int32)
def f_K_isTellable_42 (N : Nat)  (h : hS) (y0 : Option Nat) : Option (Int32 × hS) := gI h y0 2 1 fun v1 => if (40 : Int32) ≤ v1 then (f_K_isTellable_54 N   h ) else (f_K_isTellable_55 N   h (1 : Int32))
def f_K_isTellable_37 (N : Nat)  (h : hS) (th : Nat) (x1 : Int32) : Option (Int32 × hS) := cv h (some th) 12 (fun a => fN (f_K_chainOf N h a x1)) fun v1 h2 => f_K_isTellable_42 N   h2 v1
def f_K_isTellable (N : Nat) (h : hS) (th : Nat) (x1 : Int32) (x2 : Int32) (x3 : Int32) (x4 : Int32) : Option (Int32 × hS) := cl (f_K_isCost N h x1) fun v1 h2 => if v1 = (0 : Int32) then (f_K_isTellable_24 N   h2 ) else (cl (f_K_isKind N h2 x2) fun v3 h4 => if v3 = (0 : Int32) then (f_K_isTellable_24 N   h4 ) else (cl (f_K_areNumbersOf N h4 x2 x3 x4) fun v5 h6 => if v5 = (0 : Int32) then (f_K_isTellable_24 N   h6 ) else (if x2 = (8 : Int32) then (if x3 = x1 then (f_K_isTellable_54 N   h6 ) else (f_K_isTellable_37 N   h6 th x1)) else (f_K_isTellable_37 N   h6 th x1))))
def f_K_refuseAct (N : Nat) (h : hS) (th : Nat) : Option (Int32 × hS) := gR h (some th) 12 16 fun v1 => gR h v1 7 7 fun v2 => aI h 50 v2 (1 : Int32) fun v3 => uI h v2 (1 : Int32) (v3 + (1 : Int32)) fun h4 => some ((-1 : Int32), h4)
def f_K_does_89 (N : Nat)  (h : hS) (y0 : Int32) : Option (Int32 × hS) := some (y0, h)
def f_K_does_84 (N : Nat)  (h : hS) (th : Nat) (x1 : Int32) : Option (Int32 × hS) := cv h (some th) 12 (fun a => f_K_become N h a x1) fun v1 h2 => f_K_does_89 N   h2 v1
def f_K_does_68 (N : Nat)  (h : hS) (th : Nat) (x1 : Int32) (a5 : Option Nat) : Option (Int32 × hS) := gR h (some th) 12 15 fun v1 => gR h (some th) 12 15 fun v2 => gI h v2 2 1 fun v3 => cv h v1 2 (fun a => f_Chain_insert N h a v3 a5) fun _ h5 => f_K_does_84 N   h5 th x1
def f_K_does_65 (N : Nat)  (h : hS) (th : Nat) (x1 : Int32) (a5 : Option Nat) (y0 : Option Nat) (y1 : Option Nat) : Option (Int32 × hS) := cv h y0 2 (fun a => f_Chain_take N h a y1) fun _ h2 => f_K_does_68 N   h2 th x1 a5
def f_K_does_48 (N : Nat)  (h : hS) (th : Nat) (x1 : Int32) (a5 : Option Nat) (y0 : Int32) : Option (Int32 × hS) := if y0 = (0 : Int32) then (cv h (some th) 12 (fun a => f_K_refuseAct N h a ) fun v4 h5 => some (v4, h5)) else (gR h (some th) 12 15 fun v1 => cv h (some th) 12 (fun a => fN (f_K_chainOf N h a x1)) fun v2 h3 => f_K_does_65 N   h3 th x1 a5 v1 v2)
def f_K_does_39 (N : Nat)  (h : hS) (th : Nat) (x1 : Int32) (a5 : Option Nat) : Option (Int32 × hS) := gR h (some th) 12 4 fun v1 => cv h v1 1 (fun a => f_Bench_applyStep N h a a5) fun v2 h3 => f_K_does_48 N   h3 th x1 a5 v2
def f_K_does_36 (N : Nat)  (h : hS) (th : Nat) (x1 : Int32) (a5 : Option Nat) (y0 : Option Nat) (y1 : Option Nat) : Option (Int32 × hS) := cv h y0 1 (fun a => f_Bench_startWith N h a y1) fun _ h2 => f_K_does_39 N   h2 th x1 a5
def f_K_does_25 (N : Nat)  (h : hS) (th : Nat) (x1 : Int32) (y0 : Option Nat) : Option (Int32 × hS) := gR h (some th) 12 4 fun v1 => cv h (some th) 12 (fun a => fN (f_K_curveOf N h a x1)) fun v2 h3 => f_K_does_36 N   h3 th x1 y0 v1 v2
def f_K_does_9 (N : Nat)  (h : hS) (th : Nat) (x1 : Int32) (x2 : Int32) (x3 : Int32) (x4 : Int32) (y0 : Int32) : Option (Int32 × hS) := if y0 = (0 : Int32) then (cv h (some th) 12 (fun a => f_K_refuseAct N h a ) fun v3 h4 => some (v3, h4)) else (cv h (some th) 12 (fun a => f_K_newStep N h a x2 x3 x4) fun v1 h2 => f_K_does_25 N   h2 th x1 v1)
def f_K_does (N : Nat) (h : hS) (th : Nat) (x1 : Int32) (x2 : Int32) (x3 : Int32) (x4 : Int32) : Option (Int32 × hS) := cv h (some th) 12 (fun a => f_K_isTellable N h a x1 x2 x3 x4) fun v1 h2 => f_K_does_9 N   h2 th x1 x2 x3 x4 v1
def f_K_becomeUnlessTooMuch_26 (N : Nat)  (h : hS) (y0 : Int32) : Option (Int32 × hS) := some (y0, h)
def f_K_becomeUnlessTooMuch_19 (N : Nat)  (h : hS) (y0 : Int32) : Option (Int32 × hS) := f_K_becomeUnlessTooMuch_26 N   h y0
def f_K_becomeUnlessTooMuch_11 (N : Nat)  (h : hS) (th : Nat) (x1 : Int32) (y0 : Int32) : Option (Int32 × hS) := if y0 = (0 : Int32) then (cv h (some th) 12 (fun a => f_K_refuseAct N h a ) fun v1 h2 => f_K_becomeUnlessTooMuch_26 N   h2 v1) else (cv h (some th) 12 (fun a => f_K_become N h a x1) fun v3 h4 => f_K_becomeUnlessTooMuch_19 N   h4 v3)
def f_K_becomeUnlessTooMuch (N : Nat) (h : hS) (th : Nat) (x1 : Int32) : Option (Int32 × hS) := gR h (some th) 12 4 fun v1 => gR h (some th) 12 15 fun v2 => cv h v1 1 (fun a => f_Bench_build N h a v2) fun v3 h4 => f_K_becomeUnlessTooMuch_11 N   h4 th x1 v3
def f_K_puts_38 (N : Nat)  (h : hS) (th : Nat) : Option (Int32 × hS) := cv h (some th) 12 (fun a => f_K_refuseAct N h a ) fun v1 h2 => some (v1, h2)
def f_K_puts_74 (N : Nat)  (h : hS) (y0 : Int32) : Option (Int32 × hS) := some (y0, h)
def f_K_puts_69 (N : Nat)  (h : hS) (th : Nat) (x1 : Int32) : Option (Int32 × hS) := cv h (some th) 12 (fun a => f_K_becomeUnlessTooMuch N h a x1) fun v1 h2 => f_K_puts_74 N   h2 v1
def f_K_puts_66 (N : Nat)  (h : hS) (th : Nat) (x1 : Int32) (y0 : Option Nat) (y1 : Int32) (y2 : Option Nat) : Option (Int32 × hS) := cv h y0 2 (fun a => f_Chain_insert N h a y1 y2) fun _ h2 => f_K_puts_69 N   h2 th x1
def f_K_puts_52 (N : Nat)  (h : hS) (th : Nat) (x1 : Int32) (x2 : Int32) (x3 : Int32) (x4 : Int32) (x5 : Int32) : Option (Int32 × hS) := gR h (some th) 12 15 fun v1 => cv h (some th) 12 (fun a => f_K_newStep N h a x3 x4 x5) fun v2 h3 => f_K_puts_66 N   h3 th x1 v1 x2 v2
def f_K_puts_23 (N : Nat)  (h : hS) (th : Nat) (x1 : Int32) (x2 : Int32) (x3 : Int32) (x4 : Int32) (x5 : Int32) (y0 : Option Nat) : Option (Int32 × hS) := if x2 < (0 : Int32) then (f_K_puts_38 N   h th) else (gI h y0 2 1 fun v1 => if x2 ≤ v1 then (gR h (some th) 12 15 fun v2 => cv h v2 2 (fun a => f_Chain_take N h a y0) fun _ h4 => f_K_puts_52 N   h4 th x1 x2 x3 x4 x5) else (f_K_puts_38 N   h th))
def f_K_puts_10 (N : Nat)  (h : hS) (th : Nat) (x1 : Int32) (x2 : Int32) (x3 : Int32) (x4 : Int32) (x5 : Int32) (y0 : Int32) : Option (Int32 × hS) := if y0 = (0 : Int32) then (cv h (some th) 12 (fun a => f_K_refuseAct N h a ) fun v3 h4 => some (v3, h4)) else (cv h (some th) 12 (fun a => fN (f_K_chainOf N h a x1)) fun v1 h2 => f_K_puts_23 N   h2 th x1 x2 x3 x4 x5 v1)
def f_K_puts (N : Nat) (h : hS) (th : Nat) (x1 : Int32) (x2 : Int32) (x3 : Int32) (x4 : Int32) (x5 : Int32) : Option (Int32 × hS) := cv h (some th) 12 (fun a => f_K_isTellable N h a x1 x3 x4 x5) fun v1 h2 => f_K_puts_10 N   h2 th x1 x2 x3 x4 x5 v1
theorem mo_K_shared_59 (N : Nat) {rc28 : hS → Nat → Int32 → Int32 → Int32 → Int32 → Option ((Int64 ⊕ Nat) × hS)} (hsh28 : ∀ (h : hS) (th : Nat) (x1 : Int32) (x2 : Int32) (x3 : Int32) (x4 : Int32), Mo h (rc28 h th x1 x2 x3 x4)) : ∀  (h : hS) (th : Nat) (x1 : Int32) (x2 : Int32) (x3 : Int32) (x4 : Int32), Mo h (f_K_shared_59 N rc28  h th x1 x2 x3 x4) := by
  intro h th x1 x2 x3 x4
  unfold f_K_shared_59
  refine Mo_bn (fun v1 => ?_)
  exact hsh28 h th x1 x2 x3 v1
theorem mo_K_shared_55 (N : Nat) {rc28 : hS → Nat → Int32 → Int32 → Int32 → Int32 → Option ((Int64 ⊕ Nat) × hS)} (hsh28 : ∀ (h : hS) (th : Nat) (x1 : Int32) (x2 : Int32) (x3 : Int32) (x4 : Int32), Mo h (rc28 h th x1 x2 x3 x4)) : ∀  (h : hS) (th : Nat) (x1 : Int32) (x2 : Int32) (x3 : Int32) (x4 : Int32) (y0 : Option Nat) (y1 : Int32) (y2 : Option Nat), Mo h (f_K_shared_55 N rc28  h th x1 x2 x3 x4 y0 y1 y2) := by
  intro h th x1 x2 x3 x4 y0 y1 y2
  unfold f_K_shared_55
  refine Mo_uR (fun h1 => ?_)
  refine Mo_bn (fun v2 => ?_)
  exact mo_K_shared_59 N hsh28  h1 th x1 x2 v2 x4
theorem mo_K_shared_28 (N : Nat)  : ∀ (n : Nat) (h : hS) (th : Nat) (x1 : Int32) (x2 : Int32) (x3 : Int32) (x4 : Int32), Mo h (f_K_shared_28 N  n h th x1 x2 x3 x4) := by
  intro n
  induction n with
  | zero =>
    intro h th x1 x2 x3 x4
    exact Mo_none
  | succ n ih =>
    intro h th x1 x2 x3 x4
    unfold f_K_shared_28
    refine Mo_ite ?_ ?_
    · refine Mo_cv (fun a => (Sh.mo (sh_K_sharedValue N h a x3 x2))) (fun v1 h2 => ?_)
      exact Mo_some
    · refine Mo_ite ?_ ?_
      · refine Mo_gR (fun v3 => ?_)
        refine Mo_cvT (fun a => (mo_K_curveOf N h a x4)) (fun v4 h5 => ?_)
        exact mo_K_shared_55 N ih  h5 th x1 x2 x3 x4 v3 x3 v4
      · exact mo_K_shared_59 N ih  h th x1 x2 x3 x4
theorem mo_K_shared_23 (N : Nat)  : ∀  (h : hS) (th : Nat) (x1 : Int32) (x2 : Int32), Mo h (f_K_shared_23 N   h th x1 x2) := by
  intro h th x1 x2
  unfold f_K_shared_23
  exact mo_K_shared_28 N  N h th x1 x2 (0 : Int32) (0 : Int32)
theorem mo_K_shared_19 (N : Nat)  : ∀  (h : hS) (th : Nat) (x1 : Int32) (x2 : Int32), Mo h (f_K_shared_19 N   h th x1 x2) := by
  intro h th x1 x2
  unfold f_K_shared_19
  refine Mo_clT (mo_K_needX N h x2) (fun v1 h2 => ?_)
  exact mo_K_shared_23 N   h2 th x1 x2
theorem mo_K_shared_16 (N : Nat)  : ∀  (h : hS) (th : Nat) (x1 : Int32) (x2 : Int32) (y0 : Int32), Mo h (f_K_shared_16 N   h th x1 x2 y0) := by
  intro h th x1 x2 y0
  unfold f_K_shared_16
  refine Mo_clT (mo_K_needFit N h y0) (fun v1 h2 => ?_)
  exact mo_K_shared_19 N   h2 th x1 x2
theorem mo_K_shared_15 (N : Nat)  : ∀  (h : hS) (th : Nat) (x1 : Int32) (x2 : Int32), Mo h (f_K_shared_15 N   h th x1 x2) := by
  intro h th x1 x2
  unfold f_K_shared_15
  exact mo_K_shared_16 N   h th x1 x2 (0 : Int32)
theorem mo_K_shared (N : Nat) (h : hS) (th : Nat) (x1 : Int32) (x2 : Int32) : Mo h (f_K_shared N h th x1 x2) := by
  unfold f_K_shared
  refine Mo_ite ?_ ?_
  · exact mo_K_shared_15 N   h th x1 x2
  · refine Mo_ite ?_ ?_
    · exact mo_K_shared_15 N   h th x1 x2
    · exact mo_K_shared_16 N   h th x1 x2 (1 : Int32)
theorem mo_K_stretch_22 (N : Nat)  : ∀  (h : hS) (th : Nat) (x2 : Int32), Mo h (f_K_stretch_22 N   h th x2) := by
  intro h th x2
  unfold f_K_stretch_22
  refine Mo_gR (fun v1 => ?_)
  refine Mo_cv (fun a => (Sh.mo (sh_Trail_wayTo N h a x2))) (fun v2 h3 => ?_)
  exact Mo_some
theorem mo_K_stretch_10 (N : Nat)  : ∀  (h : hS) (th : Nat) (x2 : Int32) (a3 : Option Nat), Mo h (f_K_stretch_10 N   h th x2 a3) := by
  intro h th x2 a3
  unfold f_K_stretch_10
  refine Mo_gR (fun v1 => ?_)
  refine Mo_gR (fun v2 => ?_)
  refine Mo_cv (fun a => (mo_Trail_lay N h a a3 v2)) (fun v3 h4 => ?_)
  exact mo_K_stretch_22 N   h4 th x2
theorem mo_K_stretch_5 (N : Nat)  : ∀  (h : hS) (th : Nat) (x2 : Int32) (y0 : Option Nat), Mo h (f_K_stretch_5 N   h th x2 y0) := by
  intro h th x2 y0
  unfold f_K_stretch_5
  refine Mo_clT (mo_K_needX N h x2) (fun v1 h2 => ?_)
  exact mo_K_stretch_10 N   h2 th x2 y0
theorem mo_K_stretch (N : Nat) (h : hS) (th : Nat) (x1 : Int32) (x2 : Int32) : Mo h (f_K_stretch N h th x1 x2) := by
  unfold f_K_stretch
  refine Mo_cvT (fun a => (mo_K_chainOf N h a x1)) (fun v1 h2 => ?_)
  exact mo_K_stretch_5 N   h2 th x2 v1
theorem mo_K_leads_134 (N : Nat)  : ∀  (h : hS) (y0 : Int32), Mo h (f_K_leads_134 N   h y0) := by
  intro h y0
  unfold f_K_leads_134
  exact Mo_some
theorem mo_K_leads_103 (N : Nat) {rc60 : hS → Nat → Int32 → Int32 → Int32 → Int32 → Option ((Int32 ⊕ Nat) × hS)} (hsh60 : ∀ (h : hS) (th : Nat) (x3 : Int32) (x4 : Int32) (x5 : Int32) (x6 : Int32), Mo h (rc60 h th x3 x4 x5 x6)) : ∀  (h : hS) (th : Nat) (x3 : Int32) (x4 : Int32) (x5 : Int32) (x6 : Int32), Mo h (f_K_leads_103 N rc60  h th x3 x4 x5 x6) := by
  intro h th x3 x4 x5 x6
  unfold f_K_leads_103
  refine Mo_gR (fun v1 => ?_)
  refine Mo_cv (fun a => (Sh.mo (sh_Walk_goOn N h a ))) (fun v2 h3 => ?_)
  refine Mo_gR (fun v4 => ?_)
  refine Mo_cv (fun a => (Sh.mo (sh_Walk_goOn N h3 a ))) (fun v5 h6 => ?_)
  refine Mo_bn (fun v7 => ?_)
  exact hsh60 h6 th x3 x4 x5 v7
theorem mo_K_leads_98 (N : Nat) {rc60 : hS → Nat → Int32 → Int32 → Int32 → Int32 → Option ((Int32 ⊕ Nat) × hS)} (hsh60 : ∀ (h : hS) (th : Nat) (x3 : Int32) (x4 : Int32) (x5 : Int32) (x6 : Int32), Mo h (rc60 h th x3 x4 x5 x6)) : ∀  (h : hS) (th : Nat) (x3 : Int32) (x4 : Int32) (x6 : Int32) (y0 : Int32), Mo h (f_K_leads_98 N rc60  h th x3 x4 x6 y0) := by
  intro h th x3 x4 x6 y0
  unfold f_K_leads_98
  refine Mo_bn (fun v1 => ?_)
  exact mo_K_leads_103 N hsh60  h th x3 v1 y0 x6
theorem mo_K_leads_60 (N : Nat)  : ∀ (n : Nat) (h : hS) (th : Nat) (x3 : Int32) (x4 : Int32) (x5 : Int32) (x6 : Int32), Mo h (f_K_leads_60 N  n h th x3 x4 x5 x6) := by
  intro n
  induction n with
  | zero =>
    intro h th x3 x4 x5 x6
    exact Mo_none
  | succ n ih =>
    intro h th x3 x4 x5 x6
    unfold f_K_leads_60
    refine Mo_ite ?_ ?_
    · refine Mo_ite ?_ ?_
      · exact mo_K_leads_134 N   h x4
      · exact mo_K_leads_134 N   h x5
    · refine Mo_gR (fun v1 => ?_)
      refine Mo_gJ (fun v2 => ?_)
      refine Mo_gR (fun v3 => ?_)
      refine Mo_gJ (fun v4 => ?_)
      refine Mo_ite ?_ ?_
      · exact mo_K_leads_103 N ih  h th x3 x4 x5 x6
      · refine Mo_ite ?_ ?_
        · exact mo_K_leads_98 N ih  h th x3 x4 x6 x6
        · exact mo_K_leads_98 N ih  h th x3 x4 x6 x5
theorem mo_K_leads_47 (N : Nat)  : ∀  (h : hS) (th : Nat) (x3 : Int32), Mo h (f_K_leads_47 N   h th x3) := by
  intro h th x3
  unfold f_K_leads_47
  exact mo_K_leads_60 N  N h th x3 (0 : Int32) (-10000000 : Int32) (-500 : Int32)
theorem mo_K_leads_44 (N : Nat)  : ∀  (h : hS) (th : Nat) (x3 : Int32) (y0 : Int32), Mo h (f_K_leads_44 N   h th x3 y0) := by
  intro h th x3 y0
  unfold f_K_leads_44
  refine Mo_clT (mo_K_needSuch N h y0) (fun v1 h2 => ?_)
  exact mo_K_leads_47 N   h2 th x3
theorem mo_K_leads_39 (N : Nat)  : ∀  (h : hS) (th : Nat) (x3 : Int32), Mo h (f_K_leads_39 N   h th x3) := by
  intro h th x3
  unfold f_K_leads_39
  exact mo_K_leads_44 N   h th x3 (1 : Int32)
theorem mo_K_leads_24 (N : Nat)  : ∀  (h : hS) (th : Nat) (x3 : Int32) (y0 : Option Nat) (y1 : Option Nat), Mo h (f_K_leads_24 N   h th x3 y0 y1) := by
  intro h th x3 y0 y1
  unfold f_K_leads_24
  refine Mo_cv (fun a => (Sh.mo (sh_Walk_startAt N h a y1 (-500 : Int32)))) (fun v1 h2 => ?_)
  refine Mo_ite ?_ ?_
  · exact mo_K_leads_39 N   h2 th x3
  · refine Mo_ite ?_ ?_
    · exact mo_K_leads_39 N   h2 th x3
    · exact mo_K_leads_44 N   h2 th x3 (0 : Int32)
theorem mo_K_leads_9 (N : Nat)  : ∀  (h : hS) (th : Nat) (x2 : Int32) (x3 : Int32) (y0 : Option Nat) (y1 : Option Nat), Mo h (f_K_leads_9 N   h th x2 x3 y0 y1) := by
  intro h th x2 x3 y0 y1
  unfold f_K_leads_9
  refine Mo_cv (fun a => (Sh.mo (sh_Walk_startAt N h a y1 (-500 : Int32)))) (fun v1 h2 => ?_)
  refine Mo_gR (fun v3 => ?_)
  refine Mo_cvT (fun a => (mo_K_curveOf N h2 a x2)) (fun v4 h5 => ?_)
  exact mo_K_leads_24 N   h5 th x3 v3 v4
theorem mo_K_leads (N : Nat) (h : hS) (th : Nat) (x1 : Int32) (x2 : Int32) (x3 : Int32) : Mo h (f_K_leads N h th x1 x2 x3) := by
  unfold f_K_leads
  refine Mo_gR (fun v1 => ?_)
  refine Mo_cvT (fun a => (mo_K_curveOf N h a x1)) (fun v2 h3 => ?_)
  exact mo_K_leads_9 N   h3 th x2 x3 v1 v2
theorem mo_K_against_71 (N : Nat)  : ∀  (h : hS) , Mo h (f_K_against_71 N   h ) := by
  intro h 
  unfold f_K_against_71
  exact Mo_some
theorem mo_K_against_107 (N : Nat)  : ∀  (h : hS) (y0 : Int64), Mo h (f_K_against_107 N   h y0) := by
  intro h y0
  unfold f_K_against_107
  exact Mo_some
theorem mo_K_against_46 (N : Nat)  : ∀  (h : hS) (x2 : Int32) (x3 : Int32) (a4 : Option Nat), Mo h (f_K_against_46 N   h x2 x3 a4) := by
  intro h x2 x3 a4
  unfold f_K_against_46
  refine Mo_gI (fun v1 => ?_)
  refine Mo_ite ?_ ?_
  · exact mo_K_against_71 N   h 
  · refine Mo_gI (fun v2 => ?_)
    refine Mo_gI (fun v3 => ?_)
    refine Mo_ite ?_ ?_
    · refine Mo_cv (fun a => (Sh.mo (sh_Curve_nearestToZero N h a x2))) (fun v4 h5 => ?_)
      refine Mo_ite ?_ ?_
      · refine Mo_cv (fun a => (Sh.mo (sh_Curve_valueAt N h5 a v4))) (fun v6 h7 => ?_)
        exact mo_K_against_107 N   h7 ((x2.toInt64 * v4.toInt64) - v6)
      · exact mo_K_against_107 N   h5 v4.toInt64
    · exact mo_K_against_71 N   h 
theorem mo_K_against_43 (N : Nat)  : ∀  (h : hS) (x2 : Int32) (x3 : Int32) (a4 : Option Nat) (y0 : Int32), Mo h (f_K_against_43 N   h x2 x3 a4 y0) := by
  intro h x2 x3 a4 y0
  unfold f_K_against_43
  refine Mo_clT (mo_K_needFit N h y0) (fun v1 h2 => ?_)
  exact mo_K_against_46 N   h2 x2 x3 a4
theorem mo_K_against_42 (N : Nat)  : ∀  (h : hS) (x2 : Int32) (x3 : Int32) (a4 : Option Nat), Mo h (f_K_against_42 N   h x2 x3 a4) := by
  intro h x2 x3 a4
  unfold f_K_against_42
  exact mo_K_against_43 N   h x2 x3 a4 (0 : Int32)
theorem mo_K_against_24 (N : Nat)  : ∀  (h : hS) (x2 : Int32) (x3 : Int32) (a4 : Option Nat), Mo h (f_K_against_24 N   h x2 x3 a4) := by
  intro h x2 x3 a4
  unfold f_K_against_24
  refine Mo_ite ?_ ?_
  · exact mo_K_against_42 N   h x2 x3 a4
  · refine Mo_ite ?_ ?_
    · exact mo_K_against_42 N   h x2 x3 a4
    · exact mo_K_against_43 N   h x2 x3 a4 (1 : Int32)
theorem mo_K_against_21 (N : Nat)  : ∀  (h : hS) (x2 : Int32) (x3 : Int32) (a4 : Option Nat) (y0 : Int32), Mo h (f_K_against_21 N   h x2 x3 a4 y0) := by
  intro h x2 x3 a4 y0
  unfold f_K_against_21
  refine Mo_clT (mo_K_needSuch N h y0) (fun v1 h2 => ?_)
  exact mo_K_against_24 N   h2 x2 x3 a4
theorem mo_K_against_16 (N : Nat)  : ∀  (h : hS) (x2 : Int32) (x3 : Int32) (a4 : Option Nat), Mo h (f_K_against_16 N   h x2 x3 a4) := by
  intro h x2 x3 a4
  unfold f_K_against_16
  exact mo_K_against_21 N   h x2 x3 a4 (1 : Int32)
theorem mo_K_against_5 (N : Nat)  : ∀  (h : hS) (x2 : Int32) (x3 : Int32) (y0 : Option Nat), Mo h (f_K_against_5 N   h x2 x3 y0) := by
  intro h x2 x3 y0
  unfold f_K_against_5
  refine Mo_ite ?_ ?_
  · exact mo_K_against_16 N   h x2 x3 y0
  · refine Mo_ite ?_ ?_
    · exact mo_K_against_16 N   h x2 x3 y0
    · exact mo_K_against_21 N   h x2 x3 y0 (0 : Int32)
theorem mo_K_against (N : Nat) (h : hS) (th : Nat) (x1 : Int32) (x2 : Int32) (x3 : Int32) : Mo h (f_K_against N h th x1 x2 x3) := by
  unfold f_K_against
  refine Mo_cvT (fun a => (mo_K_curveOf N h a x1)) (fun v1 h2 => ?_)
  exact mo_K_against_5 N   h2 x2 x3 v1
theorem mo_K_meet_80 (N : Nat) {rc39 : hS → Nat → Int32 → Int32 → Option ((Int32 ⊕ Nat) × hS)} (hsh39 : ∀ (h : hS) (th : Nat) (x3 : Int32) (x4 : Int32), Mo h (rc39 h th x3 x4)) : ∀  (h : hS) (th : Nat) (x3 : Int32) (x4 : Int32), Mo h (f_K_meet_80 N rc39  h th x3 x4) := by
  intro h th x3 x4
  unfold f_K_meet_80
  refine Mo_gR (fun v1 => ?_)
  refine Mo_cv (fun a => (Sh.mo (sh_Walk_goOn N h a ))) (fun v2 h3 => ?_)
  refine Mo_gR (fun v4 => ?_)
  refine Mo_cv (fun a => (Sh.mo (sh_Walk_goOn N h3 a ))) (fun v5 h6 => ?_)
  refine Mo_bn (fun v7 => ?_)
  exact hsh39 h6 th x3 v7
theorem mo_K_meet_39 (N : Nat)  : ∀ (n : Nat) (h : hS) (th : Nat) (x3 : Int32) (x4 : Int32), Mo h (f_K_meet_39 N  n h th x3 x4) := by
  intro n
  induction n with
  | zero =>
    intro h th x3 x4
    exact Mo_none
  | succ n ih =>
    intro h th x3 x4
    unfold f_K_meet_39
    refine Mo_ite ?_ ?_
    · exact Mo_some
    · refine Mo_gR (fun v1 => ?_)
      refine Mo_gJ (fun v2 => ?_)
      refine Mo_gR (fun v3 => ?_)
      refine Mo_gJ (fun v4 => ?_)
      refine Mo_ite ?_ ?_
      · refine Mo_ite ?_ ?_
        · exact mo_K_meet_80 N ih  h th x3 x4
        · exact mo_K_meet_80 N ih  h th x4 x4
      · exact mo_K_meet_80 N ih  h th x3 x4
theorem mo_K_meet_24 (N : Nat)  : ∀  (h : hS) (th : Nat) (y0 : Option Nat) (y1 : Option Nat), Mo h (f_K_meet_24 N   h th y0 y1) := by
  intro h th y0 y1
  unfold f_K_meet_24
  refine Mo_cv (fun a => (Sh.mo (sh_Walk_startAt N h a y1 (-1000 : Int32)))) (fun v1 h2 => ?_)
  exact mo_K_meet_39 N  N h2 th (-10000000 : Int32) (-1000 : Int32)
theorem mo_K_meet_9 (N : Nat)  : ∀  (h : hS) (th : Nat) (x2 : Int32) (y0 : Option Nat) (y1 : Option Nat), Mo h (f_K_meet_9 N   h th x2 y0 y1) := by
  intro h th x2 y0 y1
  unfold f_K_meet_9
  refine Mo_cv (fun a => (Sh.mo (sh_Walk_startAt N h a y1 (-1000 : Int32)))) (fun v1 h2 => ?_)
  refine Mo_gR (fun v3 => ?_)
  refine Mo_cvT (fun a => (mo_K_curveOf N h2 a x2)) (fun v4 h5 => ?_)
  exact mo_K_meet_24 N   h5 th v3 v4
theorem mo_K_meet (N : Nat) (h : hS) (th : Nat) (x1 : Int32) (x2 : Int32) : Mo h (f_K_meet N h th x1 x2) := by
  unfold f_K_meet
  refine Mo_gR (fun v1 => ?_)
  refine Mo_cvT (fun a => (mo_K_curveOf N h a x1)) (fun v2 h3 => ?_)
  exact mo_K_meet_9 N   h3 th x2 v1 v2
theorem mo_K_heaviest_102 (N : Nat) {rc63 : hS → Nat → Int32 → Int32 → Option Nat → Int32 → Option ((Int32 ⊕ Nat) × hS)} (hsh63 : ∀ (h : hS) (th : Nat) (x2 : Int32) (x3 : Int32) (a4 : Option Nat) (x5 : Int32), Mo h (rc63 h th x2 x3 a4 x5)) : ∀  (h : hS) (th : Nat) (x2 : Int32) (x3 : Int32) (a4 : Option Nat) (x5 : Int32), Mo h (f_K_heaviest_102 N rc63  h th x2 x3 a4 x5) := by
  intro h th x2 x3 a4 x5
  unfold f_K_heaviest_102
  refine Mo_bn (fun v1 => ?_)
  exact hsh63 h th x2 x3 a4 v1
theorem mo_K_heaviest_80 (N : Nat) {rc63 : hS → Nat → Int32 → Int32 → Option Nat → Int32 → Option ((Int32 ⊕ Nat) × hS)} (hsh63 : ∀ (h : hS) (th : Nat) (x2 : Int32) (x3 : Int32) (a4 : Option Nat) (x5 : Int32), Mo h (rc63 h th x2 x3 a4 x5)) : ∀  (h : hS) (th : Nat) (x2 : Int32) (x3 : Int32) (a4 : Option Nat) (x5 : Int32) (y0 : Int32), Mo h (f_K_heaviest_80 N rc63  h th x2 x3 a4 x5 y0) := by
  intro h th x2 x3 a4 x5 y0
  unfold f_K_heaviest_80
  refine Mo_ite ?_ ?_
  · exact mo_K_heaviest_102 N hsh63  h th x2 x3 a4 x5
  · refine Mo_gR (fun v1 => ?_)
    refine Mo_gR (fun v2 => ?_)
    refine Mo_gJ (fun v3 => ?_)
    refine Mo_ite ?_ ?_
    · exact mo_K_heaviest_102 N hsh63  h th x2 x3 a4 x5
    · exact Mo_some
theorem mo_K_heaviest_63 (N : Nat)  : ∀ (n : Nat) (h : hS) (th : Nat) (x2 : Int32) (x3 : Int32) (a4 : Option Nat) (x5 : Int32), Mo h (f_K_heaviest_63 N  n h th x2 x3 a4 x5) := by
  intro n
  induction n with
  | zero =>
    intro h th x2 x3 a4 x5
    exact Mo_none
  | succ n ih =>
    intro h th x2 x3 a4 x5
    unfold f_K_heaviest_63
    refine Mo_ite ?_ ?_
    · exact Mo_some
    · refine Mo_gR (fun v1 => ?_)
      refine Mo_cv (fun a => (mo_Bench_goThrough N h a a4 x2 x5)) (fun v2 h3 => ?_)
      exact mo_K_heaviest_80 N ih  h3 th x2 x3 a4 x5 v2
theorem mo_K_heaviest_59 (N : Nat)  : ∀  (h : hS) (th : Nat) (x2 : Int32) (x3 : Int32) (a4 : Option Nat), Mo h (f_K_heaviest_59 N   h th x2 x3 a4) := by
  intro h th x2 x3 a4
  unfold f_K_heaviest_59
  exact mo_K_heaviest_63 N  N h th x2 x3 a4 (40 : Int32)
theorem mo_K_heaviest_47 (N : Nat)  : ∀  (h : hS) (th : Nat) (x2 : Int32) (x3 : Int32) (y0 : Option Nat), Mo h (f_K_heaviest_47 N   h th x2 x3 y0) := by
  intro h th x2 x3 y0
  unfold f_K_heaviest_47
  refine Mo_gR (fun v1 => ?_)
  refine Mo_cv (fun a => (mo_Bench_standAhead N h a y0 x2)) (fun v2 h3 => ?_)
  exact mo_K_heaviest_59 N   h3 th x2 x3 y0
theorem mo_K_heaviest_42 (N : Nat)  : ∀  (h : hS) (th : Nat) (x1 : Int32) (x2 : Int32) (x3 : Int32), Mo h (f_K_heaviest_42 N   h th x1 x2 x3) := by
  intro h th x1 x2 x3
  unfold f_K_heaviest_42
  refine Mo_cvT (fun a => (mo_K_chainOf N h a x1)) (fun v1 h2 => ?_)
  exact mo_K_heaviest_47 N   h2 th x2 x3 v1
theorem mo_K_heaviest_39 (N : Nat)  : ∀  (h : hS) (th : Nat) (x1 : Int32) (x2 : Int32) (x3 : Int32) (y0 : Int32), Mo h (f_K_heaviest_39 N   h th x1 x2 x3 y0) := by
  intro h th x1 x2 x3 y0
  unfold f_K_heaviest_39
  refine Mo_clT (mo_K_needFit N h y0) (fun v1 h2 => ?_)
  exact mo_K_heaviest_42 N   h2 th x1 x2 x3
theorem mo_K_heaviest_38 (N : Nat)  : ∀  (h : hS) (th : Nat) (x1 : Int32) (x2 : Int32) (x3 : Int32), Mo h (f_K_heaviest_38 N   h th x1 x2 x3) := by
  intro h th x1 x2 x3
  unfold f_K_heaviest_38
  exact mo_K_heaviest_39 N   h th x1 x2 x3 (0 : Int32)
theorem mo_K_heaviest_21 (N : Nat)  : ∀  (h : hS) (th : Nat) (x1 : Int32) (x2 : Int32) (x3 : Int32), Mo h (f_K_heaviest_21 N   h th x1 x2 x3) := by
  intro h th x1 x2 x3
  unfold f_K_heaviest_21
  refine Mo_ite ?_ ?_
  · exact mo_K_heaviest_38 N   h th x1 x2 x3
  · refine Mo_ite ?_ ?_
    · exact mo_K_heaviest_38 N   h th x1 x2 x3
    · exact mo_K_heaviest_39 N   h th x1 x2 x3 (1 : Int32)
theorem mo_K_heaviest_18 (N : Nat)  : ∀  (h : hS) (th : Nat) (x1 : Int32) (x2 : Int32) (x3 : Int32) (y0 : Int32), Mo h (f_K_heaviest_18 N   h th x1 x2 x3 y0) := by
  intro h th x1 x2 x3 y0
  unfold f_K_heaviest_18
  refine Mo_clT (mo_K_needSuch N h y0) (fun v1 h2 => ?_)
  exact mo_K_heaviest_21 N   h2 th x1 x2 x3
theorem mo_K_heaviest_6 (N : Nat)  : ∀  (h : hS) (th : Nat) (x1 : Int32) (x2 : Int32) (x3 : Int32) (y0 : Option Nat), Mo h (f_K_heaviest_6 N   h th x1 x2 x3 y0) := by
  intro h th x1 x2 x3 y0
  unfold f_K_heaviest_6
  refine Mo_gI (fun v1 => ?_)
  refine Mo_ite ?_ ?_
  · exact mo_K_heaviest_18 N   h th x1 x2 x3 (0 : Int32)
  · exact mo_K_heaviest_18 N   h th x1 x2 x3 (1 : Int32)
theorem mo_K_heaviest (N : Nat) (h : hS) (th : Nat) (x1 : Int32) (x2 : Int32) (x3 : Int32) : Mo h (f_K_heaviest N h th x1 x2 x3) := by
  unfold f_K_heaviest
  refine Mo_cvT (fun a => (mo_K_stepOf N h a x1 x2)) (fun v1 h2 => ?_)
  exact mo_K_heaviest_6 N   h2 th x1 x2 x3 v1
theorem mo_K_sparedBy_19 (N : Nat)  : ∀  (h : hS) (th : Nat) (a2 : Option Nat) (y0 : Int32), Mo h (f_K_sparedBy_19 N   h th a2 y0) := by
  intro h th a2 y0
  unfold f_K_sparedBy_19
  refine Mo_ite ?_ ?_
  · exact Mo_some
  · refine Mo_gJ (fun v1 => ?_)
    refine Mo_gR (fun v2 => ?_)
    refine Mo_gR (fun v3 => ?_)
    refine Mo_gJ (fun v4 => ?_)
    exact Mo_some
theorem mo_K_sparedBy_9 (N : Nat)  : ∀  (h : hS) (th : Nat) (a1 : Option Nat) (a2 : Option Nat) (x3 : Int32), Mo h (f_K_sparedBy_9 N   h th a1 a2 x3) := by
  intro h th a1 a2 x3
  unfold f_K_sparedBy_9
  refine Mo_gR (fun v1 => ?_)
  refine Mo_cv (fun a => (mo_Bench_goThrough N h a a1 x3 (-1 : Int32))) (fun v2 h3 => ?_)
  exact mo_K_sparedBy_19 N   h3 th a2 v2
theorem mo_K_sparedBy (N : Nat) (h : hS) (th : Nat) (a1 : Option Nat) (a2 : Option Nat) (x3 : Int32) : Mo h (f_K_sparedBy N h th a1 a2 x3) := by
  unfold f_K_sparedBy
  refine Mo_gR (fun v1 => ?_)
  refine Mo_cv (fun a => (mo_Bench_standAhead N h a a1 x3)) (fun v2 h3 => ?_)
  exact mo_K_sparedBy_9 N   h3 th a1 a2 x3
theorem mo_K_spared_22 (N : Nat)  : ∀  (h : hS) (y0 : Int64), Mo h (f_K_spared_22 N   h y0) := by
  intro h y0
  unfold f_K_spared_22
  exact Mo_some
theorem mo_K_spared_18 (N : Nat)  : ∀  (h : hS) (x2 : Int32) (y0 : Option Nat) (y1 : Option Nat) (y2 : Option Nat), Mo h (f_K_spared_18 N   h x2 y0 y1 y2) := by
  intro h x2 y0 y1 y2
  unfold f_K_spared_18
  refine Mo_cv (fun a => (mo_K_sparedBy N h a y1 y2 x2)) (fun v1 h2 => ?_)
  exact mo_K_spared_22 N   h2 v1
theorem mo_K_spared_13 (N : Nat)  : ∀  (h : hS) (th : Nat) (x1 : Int32) (x2 : Int32) (y0 : Option Nat) (y1 : Option Nat), Mo h (f_K_spared_13 N   h th x1 x2 y0 y1) := by
  intro h th x1 x2 y0 y1
  unfold f_K_spared_13
  refine Mo_cvT (fun a => (mo_K_curveOf N h a x1)) (fun v1 h2 => ?_)
  exact mo_K_spared_18 N   h2 x2 y0 y1 v1
theorem mo_K_spared_6 (N : Nat)  : ∀  (h : hS) (th : Nat) (x1 : Int32) (x2 : Int32) (y0 : Option Nat), Mo h (f_K_spared_6 N   h th x1 x2 y0) := by
  intro h th x1 x2 y0
  unfold f_K_spared_6
  refine Mo_cvT (fun a => (mo_K_chainOf N h a x1)) (fun v1 h2 => ?_)
  exact mo_K_spared_13 N   h2 th x1 x2 (some th) v1
theorem mo_K_spared (N : Nat) (h : hS) (th : Nat) (x1 : Int32) (x2 : Int32) : Mo h (f_K_spared N h th x1 x2) := by
  unfold f_K_spared
  refine Mo_cvT (fun a => (mo_K_stepOf N h a x1 x2)) (fun v1 h2 => ?_)
  exact mo_K_spared_6 N   h2 th x1 x2 v1
theorem mo_K_dearest_57 (N : Nat) {rc14 : hS → Nat → Int32 → Option Nat → Int32 → Int64 → Int32 → Option ((Int32 ⊕ Nat) × hS)} (hsh14 : ∀ (h : hS) (th : Nat) (x1 : Int32) (a2 : Option Nat) (x3 : Int32) (x4 : Int64) (x6 : Int32), Mo h (rc14 h th x1 a2 x3 x4 x6)) : ∀  (h : hS) (th : Nat) (x1 : Int32) (a2 : Option Nat) (x3 : Int32) (x4 : Int64) (x6 : Int32), Mo h (f_K_dearest_57 N rc14  h th x1 a2 x3 x4 x6) := by
  intro h th x1 a2 x3 x4 x6
  unfold f_K_dearest_57
  refine Mo_bn (fun v1 => ?_)
  exact hsh14 h th x1 a2 x3 x4 v1
theorem mo_K_dearest_50 (N : Nat) {rc14 : hS → Nat → Int32 → Option Nat → Int32 → Int64 → Int32 → Option ((Int32 ⊕ Nat) × hS)} (hsh14 : ∀ (h : hS) (th : Nat) (x1 : Int32) (a2 : Option Nat) (x3 : Int32) (x4 : Int64) (x6 : Int32), Mo h (rc14 h th x1 a2 x3 x4 x6)) : ∀  (h : hS) (th : Nat) (x1 : Int32) (a2 : Option Nat) (x6 : Int32) (x7 : Int64), Mo h (f_K_dearest_50 N rc14  h th x1 a2 x6 x7) := by
  intro h th x1 a2 x6 x7
  unfold f_K_dearest_50
  exact mo_K_dearest_57 N hsh14  h th x1 a2 x6 x7 x6
theorem mo_K_dearest_35 (N : Nat) {rc14 : hS → Nat → Int32 → Option Nat → Int32 → Int64 → Int32 → Option ((Int32 ⊕ Nat) × hS)} (hsh14 : ∀ (h : hS) (th : Nat) (x1 : Int32) (a2 : Option Nat) (x3 : Int32) (x4 : Int64) (x6 : Int32), Mo h (rc14 h th x1 a2 x3 x4 x6)) : ∀  (h : hS) (th : Nat) (x1 : Int32) (a2 : Option Nat) (x3 : Int32) (x4 : Int64) (x6 : Int32) (y0 : Int64), Mo h (f_K_dearest_35 N rc14  h th x1 a2 x3 x4 x6 y0) := by
  intro h th x1 a2 x3 x4 x6 y0
  unfold f_K_dearest_35
  refine Mo_ite ?_ ?_
  · exact mo_K_dearest_50 N hsh14  h th x1 a2 x6 y0
  · refine Mo_ite ?_ ?_
    · exact mo_K_dearest_57 N hsh14  h th x1 a2 x3 x4 x6
    · exact mo_K_dearest_50 N hsh14  h th x1 a2 x6 y0
theorem mo_K_dearest_30 (N : Nat) {rc14 : hS → Nat → Int32 → Option Nat → Int32 → Int64 → Int32 → Option ((Int32 ⊕ Nat) × hS)} (hsh14 : ∀ (h : hS) (th : Nat) (x1 : Int32) (a2 : Option Nat) (x3 : Int32) (x4 : Int64) (x6 : Int32), Mo h (rc14 h th x1 a2 x3 x4 x6)) : ∀  (h : hS) (th : Nat) (x1 : Int32) (a2 : Option Nat) (x3 : Int32) (x4 : Int64) (x6 : Int32) (y0 : Option Nat) (y1 : Option Nat) (y2 : Option Nat), Mo h (f_K_dearest_30 N rc14  h th x1 a2 x3 x4 x6 y0 y1 y2) := by
  intro h th x1 a2 x3 x4 x6 y0 y1 y2
  unfold f_K_dearest_30
  refine Mo_cv (fun a => (mo_K_sparedBy N h a y1 y2 x6)) (fun v1 h2 => ?_)
  exact mo_K_dearest_35 N hsh14  h2 th x1 a2 x3 x4 x6 v1
theorem mo_K_dearest_14 (N : Nat)  : ∀ (n : Nat) (h : hS) (th : Nat) (x1 : Int32) (a2 : Option Nat) (x3 : Int32) (x4 : Int64) (x6 : Int32), Mo h (f_K_dearest_14 N  n h th x1 a2 x3 x4 x6) := by
  intro n
  induction n with
  | zero =>
    intro h th x1 a2 x3 x4 x6
    exact Mo_none
  | succ n ih =>
    intro h th x1 a2 x3 x4 x6
    unfold f_K_dearest_14
    refine Mo_gI (fun v1 => ?_)
    refine Mo_ite ?_ ?_
    · exact Mo_some
    · refine Mo_cvT (fun a => (mo_K_curveOf N h a x1)) (fun v2 h3 => ?_)
      exact mo_K_dearest_30 N ih  h3 th x1 a2 x3 x4 x6 (some th) a2 v2
theorem mo_K_dearest_5 (N : Nat)  : ∀  (h : hS) (th : Nat) (x1 : Int32) (y0 : Option Nat), Mo h (f_K_dearest_5 N   h th x1 y0) := by
  intro h th x1 y0
  unfold f_K_dearest_5
  exact mo_K_dearest_14 N  N h th x1 y0 (-1 : Int32) (0 : Int64) (0 : Int32)
theorem mo_K_dearest (N : Nat) (h : hS) (th : Nat) (x1 : Int32) : Mo h (f_K_dearest N h th x1) := by
  unfold f_K_dearest
  refine Mo_cvT (fun a => (mo_K_chainOf N h a x1)) (fun v1 h2 => ?_)
  exact mo_K_dearest_5 N   h2 th x1 v1
theorem mo_K_gap_37 (N : Nat)  : ∀ (n : Nat) (h : hS) (th : Nat) (x3 : Int64) (x5 : Int32), Mo h (f_K_gap_37 N  n h th x3 x5) := by
  intro n
  induction n with
  | zero =>
    intro h th x3 x5
    exact Mo_none
  | succ n ih =>
    intro h th x3 x5
    unfold f_K_gap_37
    refine Mo_ite ?_ ?_
    · exact Mo_some
    · refine Mo_gR (fun v1 => ?_)
      refine Mo_gJ (fun v2 => ?_)
      refine Mo_gR (fun v3 => ?_)
      refine Mo_gJ (fun v4 => ?_)
      refine Mo_bn (fun v5 => ?_)
      refine Mo_gR (fun v6 => ?_)
      refine Mo_cv (fun a => (Sh.mo (sh_Walk_goOn N h a ))) (fun v7 h8 => ?_)
      refine Mo_gR (fun v9 => ?_)
      refine Mo_cv (fun a => (Sh.mo (sh_Walk_goOn N h8 a ))) (fun v10 h11 => ?_)
      refine Mo_bn (fun v12 => ?_)
      exact ih h11 th v5 v12
theorem mo_K_gap_24 (N : Nat)  : ∀  (h : hS) (th : Nat) (y0 : Option Nat) (y1 : Option Nat), Mo h (f_K_gap_24 N   h th y0 y1) := by
  intro h th y0 y1
  unfold f_K_gap_24
  refine Mo_cv (fun a => (Sh.mo (sh_Walk_startAt N h a y1 (-500 : Int32)))) (fun v1 h2 => ?_)
  exact mo_K_gap_37 N  N h2 th (0 : Int64) (-500 : Int32)
theorem mo_K_gap_9 (N : Nat)  : ∀  (h : hS) (th : Nat) (x2 : Int32) (y0 : Option Nat) (y1 : Option Nat), Mo h (f_K_gap_9 N   h th x2 y0 y1) := by
  intro h th x2 y0 y1
  unfold f_K_gap_9
  refine Mo_cv (fun a => (Sh.mo (sh_Walk_startAt N h a y1 (-500 : Int32)))) (fun v1 h2 => ?_)
  refine Mo_gR (fun v3 => ?_)
  refine Mo_cvT (fun a => (mo_K_curveOf N h2 a x2)) (fun v4 h5 => ?_)
  exact mo_K_gap_24 N   h5 th v3 v4
theorem mo_K_gap (N : Nat) (h : hS) (th : Nat) (x1 : Int32) (x2 : Int32) : Mo h (f_K_gap N h th x1 x2) := by
  unfold f_K_gap
  refine Mo_gR (fun v1 => ?_)
  refine Mo_cvT (fun a => (mo_K_curveOf N h a x1)) (fun v2 h3 => ?_)
  exact mo_K_gap_9 N   h3 th x2 v1 v2
theorem mo_K_alike_21 (N : Nat)  : ∀  (h : hS) (y0 : Int32), Mo h (f_K_alike_21 N   h y0) := by
  intro h y0
  unfold f_K_alike_21
  exact Mo_some
theorem mo_K_alike_10 (N : Nat)  : ∀  (h : hS) (y0 : Option Nat) (y1 : Option Nat), Mo h (f_K_alike_10 N   h y0 y1) := by
  intro h y0 y1
  unfold f_K_alike_10
  refine Mo_cv (fun a => (Sh.mo (sh_Curve_isSameAs N h a y1))) (fun v1 h2 => ?_)
  refine Mo_ite ?_ ?_
  · exact mo_K_alike_21 N   h2 (0 : Int32)
  · exact mo_K_alike_21 N   h2 (1 : Int32)
theorem mo_K_alike_5 (N : Nat)  : ∀  (h : hS) (th : Nat) (x2 : Int32) (y0 : Option Nat), Mo h (f_K_alike_5 N   h th x2 y0) := by
  intro h th x2 y0
  unfold f_K_alike_5
  refine Mo_cvT (fun a => (mo_K_curveOf N h a x2)) (fun v1 h2 => ?_)
  exact mo_K_alike_10 N   h2 y0 v1
theorem mo_K_alike (N : Nat) (h : hS) (th : Nat) (x1 : Int32) (x2 : Int32) : Mo h (f_K_alike N h th x1 x2) := by
  unfold f_K_alike
  refine Mo_cvT (fun a => (mo_K_curveOf N h a x1)) (fun v1 h2 => ?_)
  exact mo_K_alike_5 N   h2 th x2 v1
theorem mo_K_told_81 (N : Nat)  : ∀  (h : hS) (th : Nat), Mo h (f_K_told_81 N   h th) := by
  intro h th
  unfold f_K_told_81
  refine Mo_gR (fun v1 => ?_)
  refine Mo_gI (fun v2 => ?_)
  exact Mo_some
theorem mo_K_told_78 (N : Nat)  : ∀  (h : hS) (th : Nat) (y0 : Int32), Mo h (f_K_told_78 N   h th y0) := by
  intro h th y0
  unfold f_K_told_78
  refine Mo_clT (mo_K_needSuch N h y0) (fun v1 h2 => ?_)
  exact mo_K_told_81 N   h2 th
theorem mo_K_told_77 (N : Nat)  : ∀  (h : hS) (th : Nat), Mo h (f_K_told_77 N   h th) := by
  intro h th
  unfold f_K_told_77
  exact mo_K_told_78 N   h th (0 : Int32)
theorem mo_K_told_17 (N : Nat)  : ∀ (n : Nat) (h : hS) (th : Nat) (x2 : Int32) (a3 : Option Nat) (x4 : Int32), Mo h (f_K_told_17 N  n h th x2 a3 x4) := by
  intro n
  induction n with
  | zero =>
    intro h th x2 a3 x4
    exact Mo_none
  | succ n ih =>
    intro h th x2 a3 x4
    unfold f_K_told_17
    refine Mo_gI (fun v1 => ?_)
    refine Mo_ite ?_ ?_
    · refine Mo_ite ?_ ?_
      · refine Mo_gR (fun v4 => ?_)
        refine Mo_gI (fun v5 => ?_)
        exact Mo_some
      · refine Mo_ite ?_ ?_
        · exact mo_K_told_77 N   h th
        · refine Mo_gR (fun v2 => ?_)
          refine Mo_gI (fun v3 => ?_)
          refine Mo_ite ?_ ?_
          · exact mo_K_told_77 N   h th
          · exact mo_K_told_78 N   h th (1 : Int32)
    · refine Mo_gR (fun v6 => ?_)
      refine Mo_cv (fun a => (Sh.mo (sh_Chain_stepAt N h a x4))) (fun v7 h8 => ?_)
      refine Mo_cv (fun a => (Sh.mo (sh_Teller_putStep N h8 a v7))) (fun v9 h10 => ?_)
      refine Mo_bn (fun v11 => ?_)
      exact ih h10 th x2 a3 v11
theorem mo_K_told_5 (N : Nat)  : ∀  (h : hS) (th : Nat) (x2 : Int32) (y0 : Option Nat), Mo h (f_K_told_5 N   h th x2 y0) := by
  intro h th x2 y0
  unfold f_K_told_5
  refine Mo_gR (fun v1 => ?_)
  refine Mo_cv (fun a => (Sh.mo (sh_Teller_listenFor N h a x2))) (fun v2 h3 => ?_)
  exact mo_K_told_17 N  N h3 th x2 y0 (0 : Int32)
theorem mo_K_told (N : Nat) (h : hS) (th : Nat) (x1 : Int32) (x2 : Int32) : Mo h (f_K_told N h th x1 x2) := by
  unfold f_K_told
  refine Mo_cvT (fun a => (mo_K_chainOf N h a x1)) (fun v1 h2 => ?_)
  exact mo_K_told_5 N   h2 th x2 v1
theorem sh_K_areNumbersOf_50 (N : Nat)  : ∀  (h : hS) (y0 : Int32), Sh h (f_K_areNumbersOf_50 N   h y0) := by
  intro h y0
  unfold f_K_areNumbersOf_50
  exact Sh_bz Sh_some
theorem sh_K_areNumbersOf_45 (N : Nat)  : ∀  (h : hS) , Sh h (f_K_areNumbersOf_45 N   h ) := by
  intro h 
  unfold f_K_areNumbersOf_45
  exact sh_K_areNumbersOf_50 N   h (1 : Int32)
theorem sh_K_areNumbersOf_49 (N : Nat)  : ∀  (h : hS) , Sh h (f_K_areNumbersOf_49 N   h ) := by
  intro h 
  unfold f_K_areNumbersOf_49
  exact sh_K_areNumbersOf_50 N   h (0 : Int32)
theorem sh_K_areNumbersOf_30 (N : Nat)  : ∀  (h : hS) (x2 : Int32) (x3 : Int32), Sh h (f_K_areNumbersOf_30 N   h x2 x3) := by
  intro h x2 x3
  unfold f_K_areNumbersOf_30
  refine Sh_ite ?_ ?_
  · exact sh_K_areNumbersOf_45 N   h 
  · refine Sh_ite ?_ ?_
    · exact sh_K_areNumbersOf_49 N   h 
    · refine Sh_ite ?_ ?_
      · exact sh_K_areNumbersOf_49 N   h 
      · exact sh_K_areNumbersOf_45 N   h 
theorem sh_K_areNumbersOf_28 (N : Nat)  : ∀  (h : hS) , Sh h (f_K_areNumbersOf_28 N   h ) := by
  intro h 
  unfold f_K_areNumbersOf_28
  exact Sh_bz Sh_some
theorem sh_K_areNumbersOf (N : Nat) (h : hS) (x0 : Int32) (x1 : Int32) (x2 : Int32) : Sh h (f_K_areNumbersOf N h x0 x1 x2) := by
  unfold f_K_areNumbersOf
  refine Sh_cl (sh_K_numbersOf N h x0) (fun v1 h2 => ?_)
  refine Sh_ite ?_ ?_
  · exact sh_K_areNumbersOf_30 N   h2 x2 v1
  · refine Sh_bn (fun v3 => ?_)
    refine Sh_aI (fun v4 => ?_)
    refine Sh_ite ?_ ?_
    · exact sh_K_areNumbersOf_28 N   h2 
    · refine Sh_bn (fun v5 => ?_)
      refine Sh_aI (fun v6 => ?_)
      refine Sh_ite ?_ ?_
      · exact sh_K_areNumbersOf_30 N   h2 x2 v1
      · exact sh_K_areNumbersOf_28 N   h2 
theorem mo_K_isTellable_24 (N : Nat)  : ∀  (h : hS) , Mo h (f_K_isTellable_24 N   h ) := by
  intro h 
  unfold f_K_isTellable_24
  exact Mo_bz Mo_some
theorem mo_K_isTellable_55 (N : Nat)  : ∀  (h : hS) (y0 : Int32), Mo h (f_K_isTellable_55 N   h y0) := by
  intro h y0
  unfold f_K_isTellable_55
  exact Mo_bz Mo_some
theorem mo_K_isTellable_54 (N : Nat)  : ∀  (h : hS) , Mo h (f_K_isTellable_54 N   h ) := by
  intro h 
  unfold f_K_isTellable_54
  exact mo_K_isTellable_55 N   h (0 : Int32)
theorem mo_K_isTellable_42 (N : Nat)  : ∀  (h : hS) (y0 : Option Nat), Mo h (f_K_isTellable_42 N   h y0) := by
  intro h y0
  unfold f_K_isTellable_42
  refine Mo_gI (fun v1 => ?_)
  refine Mo_ite ?_ ?_
  · exact mo_K_isTellable_54 N   h 
  · exact mo_K_isTellable_55 N   h (1 : Int32)
theorem mo_K_isTellable_37 (N : Nat)  : ∀  (h : hS) (th : Nat) (x1 : Int32), Mo h (f_K_isTellable_37 N   h th x1) := by
  intro h th x1
  unfold f_K_isTellable_37
  refine Mo_cv (fun a => (Mo_fN (mo_K_chainOf N h a x1))) (fun v1 h2 => ?_)
  exact mo_K_isTellable_42 N   h2 v1
theorem mo_K_isTellable (N : Nat) (h : hS) (th : Nat) (x1 : Int32) (x2 : Int32) (x3 : Int32) (x4 : Int32) : Mo h (f_K_isTellable N h th x1 x2 x3 x4) := by
  unfold f_K_isTellable
  refine Mo_cl (Sh.mo (sh_K_isCost N h x1)) (fun v1 h2 => ?_)
  refine Mo_ite ?_ ?_
  · exact mo_K_isTellable_24 N   h2 
  · refine Mo_cl (Sh.mo (sh_K_isKind N h2 x2)) (fun v3 h4 => ?_)
    refine Mo_ite ?_ ?_
    · exact mo_K_isTellable_24 N   h4 
    · refine Mo_cl (Sh.mo (sh_K_areNumbersOf N h4 x2 x3 x4)) (fun v5 h6 => ?_)
      refine Mo_ite ?_ ?_
      · exact mo_K_isTellable_24 N   h6 
      · refine Mo_ite ?_ ?_
        · refine Mo_ite ?_ ?_
          · exact mo_K_isTellable_54 N   h6 
          · exact mo_K_isTellable_37 N   h6 th x1
        · exact mo_K_isTellable_37 N   h6 th x1
theorem sh_K_refuseAct (N : Nat) (h : hS) (th : Nat) : Sh h (f_K_refuseAct N h th) := by
  unfold f_K_refuseAct
  refine Sh_gR (fun v1 => ?_)
  refine Sh_gR (fun v2 => ?_)
  refine Sh_aI (fun v3 => ?_)
  refine Sh_uI (fun h4 => ?_)
  exact Sh_some
theorem mo_K_does_89 (N : Nat)  : ∀  (h : hS) (y0 : Int32), Mo h (f_K_does_89 N   h y0) := by
  intro h y0
  unfold f_K_does_89
  exact Mo_some
theorem mo_K_does_84 (N : Nat)  : ∀  (h : hS) (th : Nat) (x1 : Int32), Mo h (f_K_does_84 N   h th x1) := by
  intro h th x1
  unfold f_K_does_84
  refine Mo_cv (fun a => (mo_K_become N h a x1)) (fun v1 h2 => ?_)
  exact mo_K_does_89 N   h2 v1
theorem mo_K_does_68 (N : Nat)  : ∀  (h : hS) (th : Nat) (x1 : Int32) (a5 : Option Nat), Mo h (f_K_does_68 N   h th x1 a5) := by
  intro h th x1 a5
  unfold f_K_does_68
  refine Mo_gR (fun v1 => ?_)
  refine Mo_gR (fun v2 => ?_)
  refine Mo_gI (fun v3 => ?_)
  refine Mo_cv (fun a => (mo_Chain_insert N h a v3 a5)) (fun v4 h5 => ?_)
  exact mo_K_does_84 N   h5 th x1
theorem mo_K_does_65 (N : Nat)  : ∀  (h : hS) (th : Nat) (x1 : Int32) (a5 : Option Nat) (y0 : Option Nat) (y1 : Option Nat), Mo h (f_K_does_65 N   h th x1 a5 y0 y1) := by
  intro h th x1 a5 y0 y1
  unfold f_K_does_65
  refine Mo_cv (fun a => (mo_Chain_take N h a y1)) (fun v1 h2 => ?_)
  exact mo_K_does_68 N   h2 th x1 a5
theorem mo_K_does_48 (N : Nat)  : ∀  (h : hS) (th : Nat) (x1 : Int32) (a5 : Option Nat) (y0 : Int32), Mo h (f_K_does_48 N   h th x1 a5 y0) := by
  intro h th x1 a5 y0
  unfold f_K_does_48
  refine Mo_ite ?_ ?_
  · refine Mo_cv (fun a => (Sh.mo (sh_K_refuseAct N h a ))) (fun v4 h5 => ?_)
    exact Mo_some
  · refine Mo_gR (fun v1 => ?_)
    refine Mo_cv (fun a => (Mo_fN (mo_K_chainOf N h a x1))) (fun v2 h3 => ?_)
    exact mo_K_does_65 N   h3 th x1 a5 v1 v2
theorem mo_K_does_39 (N : Nat)  : ∀  (h : hS) (th : Nat) (x1 : Int32) (a5 : Option Nat), Mo h (f_K_does_39 N   h th x1 a5) := by
  intro h th x1 a5
  unfold f_K_does_39
  refine Mo_gR (fun v1 => ?_)
  refine Mo_cv (fun a => (mo_Bench_applyStep N h a a5)) (fun v2 h3 => ?_)
  exact mo_K_does_48 N   h3 th x1 a5 v2
theorem mo_K_does_36 (N : Nat)  : ∀  (h : hS) (th : Nat) (x1 : Int32) (a5 : Option Nat) (y0 : Option Nat) (y1 : Option Nat), Mo h (f_K_does_36 N   h th x1 a5 y0 y1) := by
  intro h th x1 a5 y0 y1
  unfold f_K_does_36
  refine Mo_cv (fun a => (mo_Bench_startWith N h a y1)) (fun v1 h2 => ?_)
  exact mo_K_does_39 N   h2 th x1 a5
theorem mo_K_does_25 (N : Nat)  : ∀  (h : hS) (th : Nat) (x1 : Int32) (y0 : Option Nat), Mo h (f_K_does_25 N   h th x1 y0) := by
  intro h th x1 y0
  unfold f_K_does_25
  refine Mo_gR (fun v1 => ?_)
  refine Mo_cv (fun a => (Mo_fN (mo_K_curveOf N h a x1))) (fun v2 h3 => ?_)
  exact mo_K_does_36 N   h3 th x1 y0 v1 v2
theorem mo_K_does_9 (N : Nat)  : ∀  (h : hS) (th : Nat) (x1 : Int32) (x2 : Int32) (x3 : Int32) (x4 : Int32) (y0 : Int32), Mo h (f_K_does_9 N   h th x1 x2 x3 x4 y0) := by
  intro h th x1 x2 x3 x4 y0
  unfold f_K_does_9
  refine Mo_ite ?_ ?_
  · refine Mo_cv (fun a => (Sh.mo (sh_K_refuseAct N h a ))) (fun v3 h4 => ?_)
    exact Mo_some
  · refine Mo_cv (fun a => (mo_K_newStep N h a x2 x3 x4)) (fun v1 h2 => ?_)
    exact mo_K_does_25 N   h2 th x1 v1
theorem mo_K_does (N : Nat) (h : hS) (th : Nat) (x1 : Int32) (x2 : Int32) (x3 : Int32) (x4 : Int32) : Mo h (f_K_does N h th x1 x2 x3 x4) := by
  unfold f_K_does
  refine Mo_cv (fun a => (mo_K_isTellable N h a x1 x2 x3 x4)) (fun v1 h2 => ?_)
  exact mo_K_does_9 N   h2 th x1 x2 x3 x4 v1
theorem mo_K_becomeUnlessTooMuch_26 (N : Nat)  : ∀  (h : hS) (y0 : Int32), Mo h (f_K_becomeUnlessTooMuch_26 N   h y0) := by
  intro h y0
  unfold f_K_becomeUnlessTooMuch_26
  exact Mo_some
theorem mo_K_becomeUnlessTooMuch_19 (N : Nat)  : ∀  (h : hS) (y0 : Int32), Mo h (f_K_becomeUnlessTooMuch_19 N   h y0) := by
  intro h y0
  unfold f_K_becomeUnlessTooMuch_19
  exact mo_K_becomeUnlessTooMuch_26 N   h y0
theorem mo_K_becomeUnlessTooMuch_11 (N : Nat)  : ∀  (h : hS) (th : Nat) (x1 : Int32) (y0 : Int32), Mo h (f_K_becomeUnlessTooMuch_11 N   h th x1 y0) := by
  intro h th x1 y0
  unfold f_K_becomeUnlessTooMuch_11
  refine Mo_ite ?_ ?_
  · refine Mo_cv (fun a => (Sh.mo (sh_K_refuseAct N h a ))) (fun v1 h2 => ?_)
    exact mo_K_becomeUnlessTooMuch_26 N   h2 v1
  · refine Mo_cv (fun a => (mo_K_become N h a x1)) (fun v3 h4 => ?_)
    exact mo_K_becomeUnlessTooMuch_19 N   h4 v3
theorem mo_K_becomeUnlessTooMuch (N : Nat) (h : hS) (th : Nat) (x1 : Int32) : Mo h (f_K_becomeUnlessTooMuch N h th x1) := by
  unfold f_K_becomeUnlessTooMuch
  refine Mo_gR (fun v1 => ?_)
  refine Mo_gR (fun v2 => ?_)
  refine Mo_cv (fun a => (mo_Bench_build N h a v2)) (fun v3 h4 => ?_)
  exact mo_K_becomeUnlessTooMuch_11 N   h4 th x1 v3
theorem mo_K_puts_38 (N : Nat)  : ∀  (h : hS) (th : Nat), Mo h (f_K_puts_38 N   h th) := by
  intro h th
  unfold f_K_puts_38
  refine Mo_cv (fun a => (Sh.mo (sh_K_refuseAct N h a ))) (fun v1 h2 => ?_)
  exact Mo_some
theorem mo_K_puts_74 (N : Nat)  : ∀  (h : hS) (y0 : Int32), Mo h (f_K_puts_74 N   h y0) := by
  intro h y0
  unfold f_K_puts_74
  exact Mo_some
theorem mo_K_puts_69 (N : Nat)  : ∀  (h : hS) (th : Nat) (x1 : Int32), Mo h (f_K_puts_69 N   h th x1) := by
  intro h th x1
  unfold f_K_puts_69
  refine Mo_cv (fun a => (mo_K_becomeUnlessTooMuch N h a x1)) (fun v1 h2 => ?_)
  exact mo_K_puts_74 N   h2 v1
theorem mo_K_puts_66 (N : Nat)  : ∀  (h : hS) (th : Nat) (x1 : Int32) (y0 : Option Nat) (y1 : Int32) (y2 : Option Nat), Mo h (f_K_puts_66 N   h th x1 y0 y1 y2) := by
  intro h th x1 y0 y1 y2
  unfold f_K_puts_66
  refine Mo_cv (fun a => (mo_Chain_insert N h a y1 y2)) (fun v1 h2 => ?_)
  exact mo_K_puts_69 N   h2 th x1
theorem mo_K_puts_52 (N : Nat)  : ∀  (h : hS) (th : Nat) (x1 : Int32) (x2 : Int32) (x3 : Int32) (x4 : Int32) (x5 : Int32), Mo h (f_K_puts_52 N   h th x1 x2 x3 x4 x5) := by
  intro h th x1 x2 x3 x4 x5
  unfold f_K_puts_52
  refine Mo_gR (fun v1 => ?_)
  refine Mo_cv (fun a => (mo_K_newStep N h a x3 x4 x5)) (fun v2 h3 => ?_)
  exact mo_K_puts_66 N   h3 th x1 v1 x2 v2
theorem mo_K_puts_23 (N : Nat)  : ∀  (h : hS) (th : Nat) (x1 : Int32) (x2 : Int32) (x3 : Int32) (x4 : Int32) (x5 : Int32) (y0 : Option Nat), Mo h (f_K_puts_23 N   h th x1 x2 x3 x4 x5 y0) := by
  intro h th x1 x2 x3 x4 x5 y0
  unfold f_K_puts_23
  refine Mo_ite ?_ ?_
  · exact mo_K_puts_38 N   h th
  · refine Mo_gI (fun v1 => ?_)
    refine Mo_ite ?_ ?_
    · refine Mo_gR (fun v2 => ?_)
      refine Mo_cv (fun a => (mo_Chain_take N h a y0)) (fun v3 h4 => ?_)
      exact mo_K_puts_52 N   h4 th x1 x2 x3 x4 x5
    · exact mo_K_puts_38 N   h th
theorem mo_K_puts_10 (N : Nat)  : ∀  (h : hS) (th : Nat) (x1 : Int32) (x2 : Int32) (x3 : Int32) (x4 : Int32) (x5 : Int32) (y0 : Int32), Mo h (f_K_puts_10 N   h th x1 x2 x3 x4 x5 y0) := by
  intro h th x1 x2 x3 x4 x5 y0
  unfold f_K_puts_10
  refine Mo_ite ?_ ?_
  · refine Mo_cv (fun a => (Sh.mo (sh_K_refuseAct N h a ))) (fun v3 h4 => ?_)
    exact Mo_some
  · refine Mo_cv (fun a => (Mo_fN (mo_K_chainOf N h a x1))) (fun v1 h2 => ?_)
    exact mo_K_puts_23 N   h2 th x1 x2 x3 x4 x5 v1
theorem mo_K_puts (N : Nat) (h : hS) (th : Nat) (x1 : Int32) (x2 : Int32) (x3 : Int32) (x4 : Int32) (x5 : Int32) : Mo h (f_K_puts N h th x1 x2 x3 x4 x5) := by
  unfold f_K_puts
  refine Mo_cv (fun a => (mo_K_isTellable N h a x1 x3 x4 x5)) (fun v1 h2 => ?_)
  exact mo_K_puts_10 N   h2 th x1 x2 x3 x4 x5 v1
set_option maxRecDepth 20000 in
set_option maxHeartbeats 4000000 in
theorem b_K_shared_59 {p : Program} {l : Launch} {e : Env} {s : State} {m : MethodId} {args : Array Value} {below : List Frame} {meth : Method} {c : Code} {D : va_G} {cy : cyT} {z : Nat} (C : MX p s m args meth c cX11_shared 5 ((some .long)) RX11 (Cond.code yX11_shared cX11_shared 5 ((some .long)) :: GW)) (hst : l.stackTraces = false) (hxt : ∀ x ∈ c.exceptionTable.toList, False) (N : Nat) (n0 s0 : Nat) (hn0 : s.heap.size = n0) {r : (Int64 ⊕ Nat)} {g : hS} {rc28 : hS → Nat → Int32 → Int32 → Int32 → Int32 → Option ((Int64 ⊕ Nat) × hS)} (hsh28 : ∀ (h : hS) (th : Nat) (x1 : Int32) (x2 : Int32) (x3 : Int32) (x4 : Int32), Mo h (rc28 h th x1 x2 x3 x4)) (hrc28 : ∀ (cells slots : Nat) (h : hS) (th : Nat) (x1 : Int32) (x2 : Int32) (x3 : Int32) (x4 : Int32) (H : Heap) (locs : List Loc) (ls : Array Slot), wd D cy z s cells h H locs → h_s h = s0 + slots → lv_has ls 5 [(0, .ref th), (1, .int x1), (2, .int x2), (3, .int x3), (4, .int x4)] → rc28 h th x1 x2 x3 x4 = some (r, g) → W p l e { frames := 9, cells := h_x g - n0, slots := h_s g - s0, locals := 144 } s m args below meth c H locs cells slots (eT D cy z rJ r g below args s (h_x g - n0) (h_s g - s0)) (F0 m 28 ls [])) : ∀  (cells slots : Nat) (h : hS) (th : Nat) (x1 : Int32) (x2 : Int32) (x3 : Int32) (x4 : Int32) (H : Heap) (locs : List Loc) (ls : Array Slot), wd D cy z s cells h H locs → h_s h = s0 + slots → lv_has ls 5 [(0, .ref th), (1, .int x1), (2, .int x2), (3, .int x3), (4, .int x4)] → f_K_shared_59 N rc28  h th x1 x2 x3 x4 = some (r, g) → W p l e { frames := 9, cells := h_x g - n0, slots := h_s g - s0, locals := 144 } s m args below meth c H locs cells slots (eT D cy z rJ r g below args s (h_x g - n0) (h_s g - s0)) (F0 m 59 ls []) := by
  obtain ⟨hx, hb, hr, hml, hown, hts, hlk⟩ := id C
  intro cells slots h th x1 x2 x3 x4 H locs ls w hsl hl hE
  have hcc : cells ≤ h_x g - n0 ∧ slots ≤ h_s g - s0 := by
    have q1 := mo_K_shared_59 N hsh28 h th x1 x2 x3 x4 _ _ hE
    have q2 := wd_x w
    have q3 := q1.1
    have q4 := q1.2.1
    omega
  unfold f_K_shared_59 at hE
  obtain ⟨v1, ev1, e1⟩ := bn_some hE
  refine lv_iinc (v := v1) (lv' := [(4, .int v1), (0, .ref th), (1, .int x1), (2, .int x2), (3, .int x3)]) hx hb dX11_shared_59 hl (k := 4) rfl (by rw [ev1]; rfl) (by decide) rfl (fun ls hl => ?_)
  refine lv_goto (tgt := 28) hx hb dX11_shared_62 (by decide) ?_
  exact hrc28 _ _ h th x1 x2 x3 v1 _ _ ls w hsl (lv_sub hl [1, 2, 3, 4, 0] rfl) e1
set_option maxRecDepth 20000 in
set_option maxHeartbeats 4000000 in
theorem b_K_shared_55 {p : Program} {l : Launch} {e : Env} {s : State} {m : MethodId} {args : Array Value} {below : List Frame} {meth : Method} {c : Code} {D : va_G} {cy : cyT} {z : Nat} (C : MX p s m args meth c cX11_shared 5 ((some .long)) RX11 (Cond.code yX11_shared cX11_shared 5 ((some .long)) :: GW)) (hst : l.stackTraces = false) (hxt : ∀ x ∈ c.exceptionTable.toList, False) (N : Nat) (n0 s0 : Nat) (hn0 : s.heap.size = n0) {r : (Int64 ⊕ Nat)} {g : hS} {rc28 : hS → Nat → Int32 → Int32 → Int32 → Int32 → Option ((Int64 ⊕ Nat) × hS)} (hsh28 : ∀ (h : hS) (th : Nat) (x1 : Int32) (x2 : Int32) (x3 : Int32) (x4 : Int32), Mo h (rc28 h th x1 x2 x3 x4)) (hrc28 : ∀ (cells slots : Nat) (h : hS) (th : Nat) (x1 : Int32) (x2 : Int32) (x3 : Int32) (x4 : Int32) (H : Heap) (locs : List Loc) (ls : Array Slot), wd D cy z s cells h H locs → h_s h = s0 + slots → lv_has ls 5 [(0, .ref th), (1, .int x1), (2, .int x2), (3, .int x3), (4, .int x4)] → rc28 h th x1 x2 x3 x4 = some (r, g) → W p l e { frames := 9, cells := h_x g - n0, slots := h_s g - s0, locals := 144 } s m args below meth c H locs cells slots (eT D cy z rJ r g below args s (h_x g - n0) (h_s g - s0)) (F0 m 28 ls [])) : ∀  (cells slots : Nat) (h : hS) (th : Nat) (x1 : Int32) (x2 : Int32) (x3 : Int32) (x4 : Int32) (y0 : Option Nat) (y1 : Int32) (y2 : Option Nat) (H : Heap) (locs : List Loc) (ls : Array Slot), wd D cy z s cells h H locs → h_s h = s0 + slots → lv_has ls 5 [(0, .ref th), (1, .int x1), (2, .int x2), (3, .int x3), (4, .int x4)] → f_K_shared_55 N rc28  h th x1 x2 x3 x4 y0 y1 y2 = some (r, g) → W p l e { frames := 9, cells := h_x g - n0, slots := h_s g - s0, locals := 144 } s m args below meth c H locs cells slots (eT D cy z rJ r g below args s (h_x g - n0) (h_s g - s0)) (F0 m 55 ls [va_rf y2, .int y1, va_rf y0]) := by
  obtain ⟨hx, hb, hr, hml, hown, hts, hlk⟩ := id C
  intro cells slots h th x1 x2 x3 x4 y0 y1 y2 H locs ls w hsl hl hE
  have hcc : cells ≤ h_x g - n0 ∧ slots ≤ h_s g - s0 := by
    have q1 := mo_K_shared_55 N hsh28 h th x1 x2 x3 x4 y0 y1 y2 _ _ hE
    have q2 := wd_x w
    have q3 := q1.1
    have q4 := q1.2.1
    omega
  unfold f_K_shared_55 at hE
  refine w_uR (kd := 63) (t0 := 7) (ci := 3) (r := y0) (v := y2) C w rfl (by decide) rfl (by decide) dX11_shared_55 hE (fun h1 H locs w hsh1 e1 => ?_)
  have hsl := hsh1.2.2.2.trans hsl
  obtain ⟨v2, ev2, e2⟩ := bn_some e1
  refine lv_iinc (v := v2) (lv' := [(3, .int v2), (0, .ref th), (1, .int x1), (2, .int x2), (4, .int x4)]) hx hb dX11_shared_56 hl (k := 3) rfl (by rw [ev2]; rfl) (by decide) rfl (fun ls hl => ?_)
  exact b_K_shared_59 C hst hxt N n0 s0 hn0 hsh28 hrc28  _ _ h1 th x1 x2 v2 x4 _ _ ls w hsl (lv_sub hl [1, 2, 3, 0, 4] rfl) e2
set_option maxRecDepth 20000 in
set_option maxHeartbeats 4000000 in
theorem b_K_shared_28 {p : Program} {l : Launch} {e : Env} {s : State} {m : MethodId} {args : Array Value} {below : List Frame} {meth : Method} {c : Code} {D : va_G} {cy : cyT} {z : Nat} (C : MX p s m args meth c cX11_shared 5 ((some .long)) RX11 (Cond.code yX11_shared cX11_shared 5 ((some .long)) :: GW)) (hst : l.stackTraces = false) (hxt : ∀ x ∈ c.exceptionTable.toList, False) (N : Nat) (n0 s0 : Nat) (hn0 : s.heap.size = n0) {r : (Int64 ⊕ Nat)} {g : hS}  : ∀ (n : Nat) (cells slots : Nat) (h : hS) (th : Nat) (x1 : Int32) (x2 : Int32) (x3 : Int32) (x4 : Int32) (H : Heap) (locs : List Loc) (ls : Array Slot), wd D cy z s cells h H locs → h_s h = s0 + slots → lv_has ls 5 [(0, .ref th), (1, .int x1), (2, .int x2), (3, .int x3), (4, .int x4)] → f_K_shared_28 N  n h th x1 x2 x3 x4 = some (r, g) → W p l e { frames := 9, cells := h_x g - n0, slots := h_s g - s0, locals := 144 } s m args below meth c H locs cells slots (eT D cy z rJ r g below args s (h_x g - n0) (h_s g - s0)) (F0 m 28 ls []) := by
  obtain ⟨hx, hb, hr, hml, hown, hts, hlk⟩ := id C
  intro n
  induction n with
  | zero =>
    intro cells slots h th x1 x2 x3 x4 H locs ls w hsl hl hE
    cases hE
  | succ n ih =>
    intro cells slots h th x1 x2 x3 x4 H locs ls w hsl hl hE
    have hcc : cells ≤ h_x g - n0 ∧ slots ≤ h_s g - s0 := by
      have q1 := mo_K_shared_28 N  (n + 1) h th x1 x2 x3 x4 _ _ hE
      have q2 := wd_x w
      have q3 := q1.1
      have q4 := q1.2.1
      omega
    unfold f_K_shared_28 at hE
    refine lv_iload hx hb dX11_shared_28 (lv_at hl 4 rfl) ?_
    refine lv_iconst (v := 4) hx hb dX11_shared_30 (by decide) ?_
    refine w_icmp_ge (tgt := 65) C dX11_shared_31 (by decide) hE (fun hc e1 => ?_) (fun hc e1 => ?_)
    · refine lv_aload_n hx hb dX11_shared_65 rfl (lv_at hl 0 rfl) ?_
      refine lv_iload_n hx hb dX11_shared_66 rfl (lv_at hl 3 rfl) ?_
      refine lv_iload_n hx hb dX11_shared_67 rfl (lv_at hl 2 rfl) ?_
      refine w_VJ GW_good (n := 2) (F := 5) (Lc := 116) (o := some th) (av := [.int x3, .int x2]) (rest := []) C w rfl (by decide) (fun a r g hf => k_K_sharedValue l D cy z N h a x3 x2 r g hf) gw_42_22 gw_42_23 gw_43_0 gw_1_2 gw_43_1 (by decide +kernel) ⟨Nat.le_of_ble_eq_true rfl, Nat.le_of_ble_eq_true rfl⟩ rfl hl.1 rfl (Nat.le_of_ble_eq_true rfl) dX11_shared_68 (fun a => (sh_K_sharedValue N h a x3 x2)) ⟨hcc.1, hcc.2⟩ e1 (fun v1 h2 H locs w hsh2 e2 => ?_)
      have hsl := hsh2.2.2.2.trans hsl
      refine W.widen (k := h_x g - n0) (n := h_s g - s0) hcc.1 hcc.2 ?_
      exact w_lretT C w e2 dX11_shared_71
    · refine lv_iload_n hx hb dX11_shared_34 rfl (lv_at hl 1 rfl) ?_
      refine lv_iload hx hb dX11_shared_35 (lv_at hl 4 rfl) ?_
      refine lv_ishr hx hb dX11_shared_37 ?_
      refine lv_iconst (v := 1) hx hb dX11_shared_38 (by decide) ?_
      refine lv_iand hx hb dX11_shared_39 ?_
      refine lv_iconst (v := 1) hx hb dX11_shared_40 (by decide) ?_
      refine w_icmp_ne (tgt := 59) C dX11_shared_41 (by decide) e1 (fun hc e3 => ?_) (fun hc e3 => ?_)
      · exact b_K_shared_59 C hst hxt N n0 s0 hn0 (mo_K_shared_28 N  n) ih  _ _ h th x1 x2 x3 x4 _ _ ls w hsl (lv_sub hl [0, 1, 2, 3, 4] rfl) e3
      · refine lv_aload_n hx hb dX11_shared_44 rfl (lv_at hl 0 rfl) ?_
        refine w_gR (r := some th) (ci := 12) (k := 14) C w rfl (by decide) (GF_wsX110 _) (by decide) rfl (List.mem_cons_of_mem _ gw_2_20) rfl dX11_shared_45 e3 (fun v3 e4 => ?_)
        refine lv_iload_n hx hb dX11_shared_48 rfl (lv_at hl 3 rfl) ?_
        refine lv_aload_n hx hb dX11_shared_49 rfl (lv_at hl 0 rfl) ?_
        refine lv_iload hx hb dX11_shared_50 (lv_at hl 4 rfl) ?_
        refine w_VTR GW_good (n := 1) (F := 8) (Lc := 122) (ob := some th) (av := [.int x4]) (rest := [.int x3, va_rf v3]) hxt hn0 hsl C w rfl (by decide) (fun a r g hf => k_K_curveOf l hst D cy z N h a x4 r g hf) gw_16_2 gw_16_3 gw_16_4 gw_1_2 gw_16_5 (by decide +kernel) ⟨Nat.le_of_ble_eq_true rfl, Nat.le_of_ble_eq_true rfl⟩ rfl hl.1 rfl (cat_le (Nat.le_of_ble_eq_true rfl)) dX11_shared_52 (fun a => (mo_K_curveOf N h a x4)) (fun v4 h5 => mo_K_shared_55 N (mo_K_shared_28 N  n)  h5 th x1 x2 x3 x4 v3 x3 v4) e4 (fun v4 h5 H locs w hsh5 e5 => ?_)
        exact b_K_shared_55 C hst hxt N n0 s0 hn0 (mo_K_shared_28 N  n) ih  _ _ h5 th x1 x2 x3 x4 v3 x3 v4 _ _ ls w (by have u5 := hsh5.2.1; have u8 := hsl; omega) (lv_sub hl [0, 1, 2, 3, 4] rfl) e5
set_option maxRecDepth 20000 in
set_option maxHeartbeats 4000000 in
theorem b_K_shared_23 {p : Program} {l : Launch} {e : Env} {s : State} {m : MethodId} {args : Array Value} {below : List Frame} {meth : Method} {c : Code} {D : va_G} {cy : cyT} {z : Nat} (C : MX p s m args meth c cX11_shared 5 ((some .long)) RX11 (Cond.code yX11_shared cX11_shared 5 ((some .long)) :: GW)) (hst : l.stackTraces = false) (hxt : ∀ x ∈ c.exceptionTable.toList, False) (N : Nat) (n0 s0 : Nat) (hn0 : s.heap.size = n0) {r : (Int64 ⊕ Nat)} {g : hS}  : ∀  (cells slots : Nat) (h : hS) (th : Nat) (x1 : Int32) (x2 : Int32) (H : Heap) (locs : List Loc) (ls : Array Slot), wd D cy z s cells h H locs → h_s h = s0 + slots → lv_has ls 5 [(0, .ref th), (1, .int x1), (2, .int x2)] → f_K_shared_23 N   h th x1 x2 = some (r, g) → W p l e { frames := 9, cells := h_x g - n0, slots := h_s g - s0, locals := 144 } s m args below meth c H locs cells slots (eT D cy z rJ r g below args s (h_x g - n0) (h_s g - s0)) (F0 m 23 ls []) := by
  obtain ⟨hx, hb, hr, hml, hown, hts, hlk⟩ := id C
  intro cells slots h th x1 x2 H locs ls w hsl hl hE
  have hcc : cells ≤ h_x g - n0 ∧ slots ≤ h_s g - s0 := by
    have q1 := mo_K_shared_23 N  h th x1 x2 _ _ hE
    have q2 := wd_x w
    have q3 := q1.1
    have q4 := q1.2.1
    omega
  unfold f_K_shared_23 at hE
  refine lv_iconst (v := 0) hx hb dX11_shared_23 (by decide) ?_
  refine lv_istore_n (lv' := [(3, .int (0 : Int32)), (0, .ref th), (1, .int x1), (2, .int x2)]) hx hb dX11_shared_24 rfl hl (by decide) rfl (fun ls hl => ?_)
  refine lv_iconst (v := 0) hx hb dX11_shared_25 (by decide) ?_
  refine lv_istore (lv' := [(4, .int (0 : Int32)), (3, .int (0 : Int32)), (0, .ref th), (1, .int x1), (2, .int x2)]) hx hb dX11_shared_26 hl (by decide) rfl (fun ls hl => ?_)
  exact b_K_shared_28 C hst hxt N n0 s0 hn0  N _ _ h th x1 x2 (0 : Int32) (0 : Int32) _ _ ls w hsl (lv_sub hl [2, 3, 4, 1, 0] rfl) hE
set_option maxRecDepth 20000 in
set_option maxHeartbeats 4000000 in
theorem b_K_shared_19 {p : Program} {l : Launch} {e : Env} {s : State} {m : MethodId} {args : Array Value} {below : List Frame} {meth : Method} {c : Code} {D : va_G} {cy : cyT} {z : Nat} (C : MX p s m args meth c cX11_shared 5 ((some .long)) RX11 (Cond.code yX11_shared cX11_shared 5 ((some .long)) :: GW)) (hst : l.stackTraces = false) (hxt : ∀ x ∈ c.exceptionTable.toList, False) (N : Nat) (n0 s0 : Nat) (hn0 : s.heap.size = n0) {r : (Int64 ⊕ Nat)} {g : hS}  : ∀  (cells slots : Nat) (h : hS) (th : Nat) (x1 : Int32) (x2 : Int32) (H : Heap) (locs : List Loc) (ls : Array Slot), wd D cy z s cells h H locs → h_s h = s0 + slots → lv_has ls 5 [(0, .ref th), (1, .int x1), (2, .int x2)] → f_K_shared_19 N   h th x1 x2 = some (r, g) → W p l e { frames := 9, cells := h_x g - n0, slots := h_s g - s0, locals := 144 } s m args below meth c H locs cells slots (eT D cy z rJ r g below args s (h_x g - n0) (h_s g - s0)) (F0 m 19 ls []) := by
  obtain ⟨hx, hb, hr, hml, hown, hts, hlk⟩ := id C
  intro cells slots h th x1 x2 H locs ls w hsl hl hE
  have hcc : cells ≤ h_x g - n0 ∧ slots ≤ h_s g - s0 := by
    have q1 := mo_K_shared_19 N  h th x1 x2 _ _ hE
    have q2 := wd_x w
    have q3 := q1.1
    have q4 := q1.2.1
    omega
  unfold f_K_shared_19 at hE
  refine lv_iload_n hx hb dX11_shared_19 rfl (lv_at hl 2 rfl) ?_
  refine w_STV GW_good (n := 1) (F := 7) (Lc := 102) (av := [.int x2]) (rest := []) hxt hn0 hsl C w (fun r g hf => k_K_needX l hst D cy z N h x2 r g hf) gw_34_9 gw_34_10 gw_1_2 gw_34_11 (by decide +kernel) ⟨Nat.le_of_ble_eq_true rfl, Nat.le_of_ble_eq_true rfl⟩ rfl hl.1 rfl (Nat.le_of_ble_eq_true rfl) dX11_shared_20 (mo_K_needX N h x2) (fun v1 h2 => mo_K_shared_23 N   h2 th x1 x2) hE (fun v1 h2 H locs w hsh2 e1 => ?_)
  exact b_K_shared_23 C hst hxt N n0 s0 hn0   _ _ h2 th x1 x2 _ _ ls w (by have u5 := hsh2.2.1; have u8 := hsl; omega) (lv_sub hl [0, 1, 2] rfl) e1
set_option maxRecDepth 20000 in
set_option maxHeartbeats 4000000 in
theorem b_K_shared_16 {p : Program} {l : Launch} {e : Env} {s : State} {m : MethodId} {args : Array Value} {below : List Frame} {meth : Method} {c : Code} {D : va_G} {cy : cyT} {z : Nat} (C : MX p s m args meth c cX11_shared 5 ((some .long)) RX11 (Cond.code yX11_shared cX11_shared 5 ((some .long)) :: GW)) (hst : l.stackTraces = false) (hxt : ∀ x ∈ c.exceptionTable.toList, False) (N : Nat) (n0 s0 : Nat) (hn0 : s.heap.size = n0) {r : (Int64 ⊕ Nat)} {g : hS}  : ∀  (cells slots : Nat) (h : hS) (th : Nat) (x1 : Int32) (x2 : Int32) (y0 : Int32) (H : Heap) (locs : List Loc) (ls : Array Slot), wd D cy z s cells h H locs → h_s h = s0 + slots → lv_has ls 5 [(0, .ref th), (1, .int x1), (2, .int x2)] → f_K_shared_16 N   h th x1 x2 y0 = some (r, g) → W p l e { frames := 9, cells := h_x g - n0, slots := h_s g - s0, locals := 144 } s m args below meth c H locs cells slots (eT D cy z rJ r g below args s (h_x g - n0) (h_s g - s0)) (F0 m 16 ls [.int y0]) := by
  obtain ⟨hx, hb, hr, hml, hown, hts, hlk⟩ := id C
  intro cells slots h th x1 x2 y0 H locs ls w hsl hl hE
  have hcc : cells ≤ h_x g - n0 ∧ slots ≤ h_s g - s0 := by
    have q1 := mo_K_shared_16 N  h th x1 x2 y0 _ _ hE
    have q2 := wd_x w
    have q3 := q1.1
    have q4 := q1.2.1
    omega
  unfold f_K_shared_16 at hE
  refine w_STV GW_good (n := 1) (F := 6) (Lc := 82) (av := [.int y0]) (rest := []) hxt hn0 hsl C w (fun r g hf => k_K_needFit l hst D cy z N h y0 r g hf) gw_9_20 gw_9_21 gw_1_2 gw_9_22 (by decide +kernel) ⟨Nat.le_of_ble_eq_true rfl, Nat.le_of_ble_eq_true rfl⟩ rfl hl.1 rfl (Nat.le_of_ble_eq_true rfl) dX11_shared_16 (mo_K_needFit N h y0) (fun v1 h2 => mo_K_shared_19 N   h2 th x1 x2) hE (fun v1 h2 H locs w hsh2 e1 => ?_)
  exact b_K_shared_19 C hst hxt N n0 s0 hn0   _ _ h2 th x1 x2 _ _ ls w (by have u5 := hsh2.2.1; have u8 := hsl; omega) (lv_sub hl [0, 1, 2] rfl) e1
set_option maxRecDepth 20000 in
set_option maxHeartbeats 4000000 in
theorem b_K_shared_15 {p : Program} {l : Launch} {e : Env} {s : State} {m : MethodId} {args : Array Value} {below : List Frame} {meth : Method} {c : Code} {D : va_G} {cy : cyT} {z : Nat} (C : MX p s m args meth c cX11_shared 5 ((some .long)) RX11 (Cond.code yX11_shared cX11_shared 5 ((some .long)) :: GW)) (hst : l.stackTraces = false) (hxt : ∀ x ∈ c.exceptionTable.toList, False) (N : Nat) (n0 s0 : Nat) (hn0 : s.heap.size = n0) {r : (Int64 ⊕ Nat)} {g : hS}  : ∀  (cells slots : Nat) (h : hS) (th : Nat) (x1 : Int32) (x2 : Int32) (H : Heap) (locs : List Loc) (ls : Array Slot), wd D cy z s cells h H locs → h_s h = s0 + slots → lv_has ls 5 [(0, .ref th), (1, .int x1), (2, .int x2)] → f_K_shared_15 N   h th x1 x2 = some (r, g) → W p l e { frames := 9, cells := h_x g - n0, slots := h_s g - s0, locals := 144 } s m args below meth c H locs cells slots (eT D cy z rJ r g below args s (h_x g - n0) (h_s g - s0)) (F0 m 15 ls []) := by
  obtain ⟨hx, hb, hr, hml, hown, hts, hlk⟩ := id C
  intro cells slots h th x1 x2 H locs ls w hsl hl hE
  have hcc : cells ≤ h_x g - n0 ∧ slots ≤ h_s g - s0 := by
    have q1 := mo_K_shared_15 N  h th x1 x2 _ _ hE
    have q2 := wd_x w
    have q3 := q1.1
    have q4 := q1.2.1
    omega
  unfold f_K_shared_15 at hE
  refine lv_iconst (v := 0) hx hb dX11_shared_15 (by decide) ?_
  exact b_K_shared_16 C hst hxt N n0 s0 hn0   _ _ h th x1 x2 (0 : Int32) _ _ ls w hsl (lv_sub hl [0, 1, 2] rfl) hE
set_option maxRecDepth 20000 in
set_option maxHeartbeats 4000000 in
theorem k_K_shared (l : Launch) (hst : l.stackTraces = false) (D : va_G) (cy : cyT) (z : Nat) (N : Nat) (h : hS) (th : Nat) (x1 : Int32) (x2 : Int32) (r : (Int64 ⊕ Nat)) (g : hS) (hE : f_K_shared N h th x1 x2 = some (r, g)) : ctT l yX11_shared (Cond.code yX11_shared cX11_shared 5 ((some .long)) :: GW) { frames := 9, cells := h_x g - h_x h, slots := h_s g - h_s h, locals := 144 } D cy z h [.ref th, .int x1, .int x2] rJ r g := by
  refine ctT_of (cc := cX11_shared) (maxL := 5) (ret := (some .long)) (by decide) ?_
  intro p e s m args below meth c s₁ B hml hxt hv
  obtain ⟨rfl, hw⟩ := hv
  have C : MX p s m ([.ref th, .int x1, .int x2] : List Value).toArray meth c cX11_shared 5 ((some .long)) RX11 (Cond.code yX11_shared cX11_shared 5 ((some .long)) :: GW) := ⟨B.exec, B.bytes, B.returns, hml, findClass_of_methodNamed B.named, atoms_spec (ws := Cond.code yX11_shared cX11_shared 5 ((some .long)) :: GW) B.pre, B.notSynchronized⟩
  obtain ⟨hx, hb, hr, hml, hown, hts, hlk⟩ := id C
  have w := wd_of hw
  have hsl : h_s h = h_s h + 0 := rfl
  have hn0 : s.heap.size = h_x h := (wd_x w).1
  obtain ⟨ls, hen, hl⟩ : ∃ ls : Array Slot, entryFrame m ([.ref th, .int x1, .int x2] : List Value).toArray 5 = F0 m 0 ls [] ∧ lv_has ls 5 [(0, .ref th), (1, .int x1), (2, .int x2)] := by
    exact ⟨_, lg_entry_eq _ _ _, lv_entry _ (Nat.le_of_ble_eq_true rfl)⟩
  rw [hen]
  have hcc : 0 ≤ h_x g - h_x h ∧ 0 ≤ h_s g - h_s h := ⟨Nat.zero_le _, Nat.zero_le _⟩
  unfold f_K_shared at hE
  refine lv_iload_n hx hb dX11_shared_0 rfl (lv_at hl 1 rfl) ?_
  refine lv_iconst (v := 1) hx hb dX11_shared_1 (by decide) ?_
  refine w_icmp_lt (tgt := 15) C dX11_shared_2 (by decide) hE (fun hc e1 => ?_) (fun hc e1 => ?_)
  · exact b_K_shared_15 C hst hxt N (h_x h) (h_s h) hn0   _ _ h th x1 x2 _ _ ls w hsl (lv_sub hl [0, 1, 2] rfl) e1
  · refine lv_iload_n hx hb dX11_shared_5 rfl (lv_at hl 1 rfl) ?_
    refine lv_bipush (v := 15) hx hb dX11_shared_6 (by decide) ?_
    refine w_icmp_gt (tgt := 15) C dX11_shared_8 (by decide) e1 (fun hc e2 => ?_) (fun hc e2 => ?_)
    · exact b_K_shared_15 C hst hxt N (h_x h) (h_s h) hn0   _ _ h th x1 x2 _ _ ls w hsl (lv_sub hl [0, 1, 2] rfl) e2
    · refine lv_iconst (v := 1) hx hb dX11_shared_11 (by decide) ?_
      refine lv_goto (tgt := 16) hx hb dX11_shared_12 (by decide) ?_
      exact b_K_shared_16 C hst hxt N (h_x h) (h_s h) hn0   _ _ h th x1 x2 (1 : Int32) _ _ ls w hsl (lv_sub hl [0, 1, 2] rfl) e2
set_option maxRecDepth 20000 in
set_option maxHeartbeats 4000000 in
theorem b_K_stretch_22 {p : Program} {l : Launch} {e : Env} {s : State} {m : MethodId} {args : Array Value} {below : List Frame} {meth : Method} {c : Code} {D : va_G} {cy : cyT} {z : Nat} (C : MX p s m args meth c cX11_stretch 4 ((some .int)) RX11 (Cond.code yX11_stretch cX11_stretch 4 ((some .int)) :: GW)) (hst : l.stackTraces = false) (hxt : ∀ x ∈ c.exceptionTable.toList, False) (N : Nat) (n0 s0 : Nat) (hn0 : s.heap.size = n0) {r : (Int32 ⊕ Nat)} {g : hS}  : ∀  (cells slots : Nat) (h : hS) (th : Nat) (x2 : Int32) (H : Heap) (locs : List Loc) (ls : Array Slot), wd D cy z s cells h H locs → h_s h = s0 + slots → lv_has ls 4 [(0, .ref th), (2, .int x2)] → f_K_stretch_22 N   h th x2 = some (r, g) → W p l e { frames := 9, cells := h_x g - n0, slots := h_s g - s0, locals := 165 } s m args below meth c H locs cells slots (eT D cy z rI r g below args s (h_x g - n0) (h_s g - s0)) (F0 m 22 ls []) := by
  obtain ⟨hx, hb, hr, hml, hown, hts, hlk⟩ := id C
  intro cells slots h th x2 H locs ls w hsl hl hE
  have hcc : cells ≤ h_x g - n0 ∧ slots ≤ h_s g - s0 := by
    have q1 := mo_K_stretch_22 N  h th x2 _ _ hE
    have q2 := wd_x w
    have q3 := q1.1
    have q4 := q1.2.1
    omega
  unfold f_K_stretch_22 at hE
  refine lv_aload_n hx hb dX11_stretch_22 rfl (lv_at hl 0 rfl) ?_
  refine w_gR (r := some th) (ci := 12) (k := 6) C w rfl (by decide) (GF_wsX110 _) (by decide) rfl (List.mem_cons_of_mem _ gw_2_9) rfl dX11_stretch_23 hE (fun v1 e1 => ?_)
  refine lv_iload_n hx hb dX11_stretch_26 rfl (lv_at hl 1 rfl) ?_
  refine w_VI GW_good (n := 1) (F := 3) (Lc := 89) (o := v1) (av := [.int x2]) (rest := []) C w rfl (by decide) (fun a r g hf => k_Trail_wayTo l D cy z N h a x2 r g hf) gw_46_8 gw_46_9 gw_46_10 gw_2_8 gw_46_11 (by decide +kernel) ⟨Nat.le_of_ble_eq_true rfl, Nat.le_of_ble_eq_true rfl⟩ rfl hl.1 rfl (Nat.le_of_ble_eq_true rfl) dX11_stretch_27 (fun a => (sh_Trail_wayTo N h a x2)) ⟨hcc.1, hcc.2⟩ e1 (fun v2 h3 H locs w hsh3 e2 => ?_)
  have hsl := hsh3.2.2.2.trans hsl
  refine W.widen (k := h_x g - n0) (n := h_s g - s0) hcc.1 hcc.2 ?_
  exact w_iretT C w e2 dX11_stretch_30
set_option maxRecDepth 20000 in
set_option maxHeartbeats 4000000 in
theorem b_K_stretch_10 {p : Program} {l : Launch} {e : Env} {s : State} {m : MethodId} {args : Array Value} {below : List Frame} {meth : Method} {c : Code} {D : va_G} {cy : cyT} {z : Nat} (C : MX p s m args meth c cX11_stretch 4 ((some .int)) RX11 (Cond.code yX11_stretch cX11_stretch 4 ((some .int)) :: GW)) (hst : l.stackTraces = false) (hxt : ∀ x ∈ c.exceptionTable.toList, False) (N : Nat) (n0 s0 : Nat) (hn0 : s.heap.size = n0) {r : (Int32 ⊕ Nat)} {g : hS}  : ∀  (cells slots : Nat) (h : hS) (th : Nat) (x2 : Int32) (a3 : Option Nat) (H : Heap) (locs : List Loc) (ls : Array Slot), wd D cy z s cells h H locs → h_s h = s0 + slots → lv_has ls 4 [(0, .ref th), (2, .int x2), (3, va_rf a3)] → f_K_stretch_10 N   h th x2 a3 = some (r, g) → W p l e { frames := 9, cells := h_x g - n0, slots := h_s g - s0, locals := 165 } s m args below meth c H locs cells slots (eT D cy z rI r g below args s (h_x g - n0) (h_s g - s0)) (F0 m 10 ls []) := by
  obtain ⟨hx, hb, hr, hml, hown, hts, hlk⟩ := id C
  intro cells slots h th x2 a3 H locs ls w hsl hl hE
  have hcc : cells ≤ h_x g - n0 ∧ slots ≤ h_s g - s0 := by
    have q1 := mo_K_stretch_10 N  h th x2 a3 _ _ hE
    have q2 := wd_x w
    have q3 := q1.1
    have q4 := q1.2.1
    omega
  unfold f_K_stretch_10 at hE
  refine lv_aload_n hx hb dX11_stretch_10 rfl (lv_at hl 0 rfl) ?_
  refine w_gR (r := some th) (ci := 12) (k := 6) C w rfl (by decide) (GF_wsX110 _) (by decide) rfl (List.mem_cons_of_mem _ gw_2_9) rfl dX11_stretch_11 hE (fun v1 e1 => ?_)
  refine w_aload_n C dX11_stretch_14 rfl (lv_at hl 2 rfl) ?_
  refine lv_aload_n hx hb dX11_stretch_15 rfl (lv_at hl 0 rfl) ?_
  refine w_gR (r := some th) (ci := 12) (k := 4) C w rfl (by decide) (GF_wsX110 _) (by decide) rfl (List.mem_cons_of_mem _ gw_2_1) rfl dX11_stretch_16 e1 (fun v2 e2 => ?_)
  refine w_VAV GW_good (n := 2) (F := 5) (Lc := 142) (o := v1) (av := [va_rf a3, va_rf v2]) (rest := []) C w rfl (by decide) (fun a r g hf => k_Trail_lay l D cy z N h a a3 v2 r g hf) gw_39_10 gw_39_11 gw_39_12 gw_2_8 gw_39_13 (by decide +kernel) ⟨Nat.le_of_ble_eq_true rfl, Nat.le_of_ble_eq_true rfl⟩ rfl hl.1 rfl (Nat.le_of_ble_eq_true rfl) dX11_stretch_19 (fun a => (mo_Trail_lay N h a a3 v2)) (fun a v3 h4 q1 q2 => by have u1 := (mo_Trail_lay N h a a3 v2) _ _ q1; have u2 := mo_K_stretch_22 N   h4 th x2 _ _ q2; have u3 := wd_x w; have u4 := u1.1; have u5 := u1.2.1; have u6 := u2.1; have u7 := u2.2.1; show cells + _ ≤ h_x g - n0 ∧ slots + _ ≤ h_s g - s0; omega) e2 (fun v3 h4 H locs w hsh4 e3 => ?_)
  exact b_K_stretch_22 C hst hxt N n0 s0 hn0   _ _ h4 th x2 _ _ ls w (by have u5 := hsh4.2.1; have u8 := hsl; omega) (lv_sub hl [0, 1] rfl) e3
set_option maxRecDepth 20000 in
set_option maxHeartbeats 4000000 in
theorem b_K_stretch_5 {p : Program} {l : Launch} {e : Env} {s : State} {m : MethodId} {args : Array Value} {below : List Frame} {meth : Method} {c : Code} {D : va_G} {cy : cyT} {z : Nat} (C : MX p s m args meth c cX11_stretch 4 ((some .int)) RX11 (Cond.code yX11_stretch cX11_stretch 4 ((some .int)) :: GW)) (hst : l.stackTraces = false) (hxt : ∀ x ∈ c.exceptionTable.toList, False) (N : Nat) (n0 s0 : Nat) (hn0 : s.heap.size = n0) {r : (Int32 ⊕ Nat)} {g : hS}  : ∀  (cells slots : Nat) (h : hS) (th : Nat) (x2 : Int32) (y0 : Option Nat) (H : Heap) (locs : List Loc) (ls : Array Slot), wd D cy z s cells h H locs → h_s h = s0 + slots → lv_has ls 4 [(0, .ref th), (2, .int x2)] → f_K_stretch_5 N   h th x2 y0 = some (r, g) → W p l e { frames := 9, cells := h_x g - n0, slots := h_s g - s0, locals := 165 } s m args below meth c H locs cells slots (eT D cy z rI r g below args s (h_x g - n0) (h_s g - s0)) (F0 m 5 ls [va_rf y0]) := by
  obtain ⟨hx, hb, hr, hml, hown, hts, hlk⟩ := id C
  intro cells slots h th x2 y0 H locs ls w hsl hl hE
  have hcc : cells ≤ h_x g - n0 ∧ slots ≤ h_s g - s0 := by
    have q1 := mo_K_stretch_5 N  h th x2 y0 _ _ hE
    have q2 := wd_x w
    have q3 := q1.1
    have q4 := q1.2.1
    omega
  unfold f_K_stretch_5 at hE
  refine w_astore_n (r := y0) (lv' := [(3, va_rf y0), (0, .ref th), (2, .int x2)]) C dX11_stretch_5 rfl hl (by decide) rfl (fun ls hl => ?_)
  refine lv_iload_n hx hb dX11_stretch_6 rfl (lv_at hl 2 rfl) ?_
  refine w_STV GW_good (n := 1) (F := 7) (Lc := 102) (av := [.int x2]) (rest := []) hxt hn0 hsl C w (fun r g hf => k_K_needX l hst D cy z N h x2 r g hf) gw_34_9 gw_34_10 gw_1_2 gw_34_11 (by decide +kernel) ⟨Nat.le_of_ble_eq_true rfl, Nat.le_of_ble_eq_true rfl⟩ rfl hl.1 rfl (Nat.le_of_ble_eq_true rfl) dX11_stretch_7 (mo_K_needX N h x2) (fun v1 h2 => mo_K_stretch_10 N   h2 th x2 y0) hE (fun v1 h2 H locs w hsh2 e1 => ?_)
  exact b_K_stretch_10 C hst hxt N n0 s0 hn0   _ _ h2 th x2 y0 _ _ ls w (by have u5 := hsh2.2.1; have u8 := hsl; omega) (lv_sub hl [1, 2, 0] rfl) e1
set_option maxRecDepth 20000 in
set_option maxHeartbeats 4000000 in
theorem k_K_stretch (l : Launch) (hst : l.stackTraces = false) (D : va_G) (cy : cyT) (z : Nat) (N : Nat) (h : hS) (th : Nat) (x1 : Int32) (x2 : Int32) (r : (Int32 ⊕ Nat)) (g : hS) (hE : f_K_stretch N h th x1 x2 = some (r, g)) : ctT l yX11_stretch (Cond.code yX11_stretch cX11_stretch 4 ((some .int)) :: GW) { frames := 9, cells := h_x g - h_x h, slots := h_s g - h_s h, locals := 165 } D cy z h [.ref th, .int x1, .int x2] rI r g := by
  refine ctT_of (cc := cX11_stretch) (maxL := 4) (ret := (some .int)) (by decide) ?_
  intro p e s m args below meth c s₁ B hml hxt hv
  obtain ⟨rfl, hw⟩ := hv
  have C : MX p s m ([.ref th, .int x1, .int x2] : List Value).toArray meth c cX11_stretch 4 ((some .int)) RX11 (Cond.code yX11_stretch cX11_stretch 4 ((some .int)) :: GW) := ⟨B.exec, B.bytes, B.returns, hml, findClass_of_methodNamed B.named, atoms_spec (ws := Cond.code yX11_stretch cX11_stretch 4 ((some .int)) :: GW) B.pre, B.notSynchronized⟩
  obtain ⟨hx, hb, hr, hml, hown, hts, hlk⟩ := id C
  have w := wd_of hw
  have hsl : h_s h = h_s h + 0 := rfl
  have hn0 : s.heap.size = h_x h := (wd_x w).1
  obtain ⟨ls, hen, hl⟩ : ∃ ls : Array Slot, entryFrame m ([.ref th, .int x1, .int x2] : List Value).toArray 4 = F0 m 0 ls [] ∧ lv_has ls 4 [(0, .ref th), (1, .int x1), (2, .int x2)] := by
    exact ⟨_, lg_entry_eq _ _ _, lv_entry _ (Nat.le_of_ble_eq_true rfl)⟩
  rw [hen]
  have hcc : 0 ≤ h_x g - h_x h ∧ 0 ≤ h_s g - h_s h := ⟨Nat.zero_le _, Nat.zero_le _⟩
  unfold f_K_stretch at hE
  refine lv_aload_n hx hb dX11_stretch_0 rfl (lv_at hl 0 rfl) ?_
  refine lv_iload_n hx hb dX11_stretch_1 rfl (lv_at hl 1 rfl) ?_
  refine w_VTR GW_good (n := 1) (F := 8) (Lc := 122) (ob := some th) (av := [.int x1]) (rest := []) hxt hn0 hsl C w rfl (by decide) (fun a r g hf => k_K_chainOf l hst D cy z N h a x1 r g hf) gw_32_8 gw_32_9 gw_32_10 gw_1_2 gw_32_11 (by decide +kernel) ⟨Nat.le_of_ble_eq_true rfl, Nat.le_of_ble_eq_true rfl⟩ rfl hl.1 rfl (Nat.le_of_ble_eq_true rfl) dX11_stretch_2 (fun a => (mo_K_chainOf N h a x1)) (fun v1 h2 => mo_K_stretch_5 N   h2 th x2 v1) hE (fun v1 h2 H locs w hsh2 e1 => ?_)
  exact b_K_stretch_5 C hst hxt N (h_x h) (h_s h) hn0   _ _ h2 th x2 v1 _ _ ls w (by have u5 := hsh2.2.1; have u8 := hsl; omega) (lv_sub hl [0, 2] rfl) e1
set_option maxRecDepth 20000 in
set_option maxHeartbeats 4000000 in
theorem b_K_leads_134 {p : Program} {l : Launch} {e : Env} {s : State} {m : MethodId} {args : Array Value} {below : List Frame} {meth : Method} {c : Code} {D : va_G} {cy : cyT} {z : Nat} (C : MX p s m args meth c cX11_leads 7 ((some .int)) RX11 (Cond.code yX11_leads cX11_leads 7 ((some .int)) :: GW)) (hst : l.stackTraces = false) (hxt : ∀ x ∈ c.exceptionTable.toList, False) (N : Nat) (n0 s0 : Nat) (hn0 : s.heap.size = n0) {r : (Int32 ⊕ Nat)} {g : hS}  : ∀  (cells slots : Nat) (h : hS) (y0 : Int32) (H : Heap) (locs : List Loc) (ls : Array Slot), wd D cy z s cells h H locs → h_s h = s0 + slots → lv_has ls 7 [] → f_K_leads_134 N   h y0 = some (r, g) → W p l e { frames := 9, cells := h_x g - n0, slots := h_s g - s0, locals := 143 } s m args below meth c H locs cells slots (eT D cy z rI r g below args s (h_x g - n0) (h_s g - s0)) (F0 m 134 ls [.int y0]) := by
  obtain ⟨hx, hb, hr, hml, hown, hts, hlk⟩ := id C
  intro cells slots h y0 H locs ls w hsl hl hE
  have hcc : cells ≤ h_x g - n0 ∧ slots ≤ h_s g - s0 := by
    have q1 := mo_K_leads_134 N  h y0 _ _ hE
    have q2 := wd_x w
    have q3 := q1.1
    have q4 := q1.2.1
    omega
  unfold f_K_leads_134 at hE
  refine W.widen (k := h_x g - n0) (n := h_s g - s0) hcc.1 hcc.2 ?_
  exact w_iretT C w hE dX11_leads_134
set_option maxRecDepth 20000 in
set_option maxHeartbeats 4000000 in
theorem b_K_leads_103 {p : Program} {l : Launch} {e : Env} {s : State} {m : MethodId} {args : Array Value} {below : List Frame} {meth : Method} {c : Code} {D : va_G} {cy : cyT} {z : Nat} (C : MX p s m args meth c cX11_leads 7 ((some .int)) RX11 (Cond.code yX11_leads cX11_leads 7 ((some .int)) :: GW)) (hst : l.stackTraces = false) (hxt : ∀ x ∈ c.exceptionTable.toList, False) (N : Nat) (n0 s0 : Nat) (hn0 : s.heap.size = n0) {r : (Int32 ⊕ Nat)} {g : hS} {rc60 : hS → Nat → Int32 → Int32 → Int32 → Int32 → Option ((Int32 ⊕ Nat) × hS)} (hsh60 : ∀ (h : hS) (th : Nat) (x3 : Int32) (x4 : Int32) (x5 : Int32) (x6 : Int32), Mo h (rc60 h th x3 x4 x5 x6)) (hrc60 : ∀ (cells slots : Nat) (h : hS) (th : Nat) (x3 : Int32) (x4 : Int32) (x5 : Int32) (x6 : Int32) (H : Heap) (locs : List Loc) (ls : Array Slot), wd D cy z s cells h H locs → h_s h = s0 + slots → lv_has ls 7 [(0, .ref th), (3, .int x3), (4, .int x4), (5, .int x5), (6, .int x6)] → rc60 h th x3 x4 x5 x6 = some (r, g) → W p l e { frames := 9, cells := h_x g - n0, slots := h_s g - s0, locals := 143 } s m args below meth c H locs cells slots (eT D cy z rI r g below args s (h_x g - n0) (h_s g - s0)) (F0 m 60 ls [])) : ∀  (cells slots : Nat) (h : hS) (th : Nat) (x3 : Int32) (x4 : Int32) (x5 : Int32) (x6 : Int32) (H : Heap) (locs : List Loc) (ls : Array Slot), wd D cy z s cells h H locs → h_s h = s0 + slots → lv_has ls 7 [(0, .ref th), (3, .int x3), (4, .int x4), (5, .int x5), (6, .int x6)] → f_K_leads_103 N rc60  h th x3 x4 x5 x6 = some (r, g) → W p l e { frames := 9, cells := h_x g - n0, slots := h_s g - s0, locals := 143 } s m args below meth c H locs cells slots (eT D cy z rI r g below args s (h_x g - n0) (h_s g - s0)) (F0 m 103 ls []) := by
  obtain ⟨hx, hb, hr, hml, hown, hts, hlk⟩ := id C
  intro cells slots h th x3 x4 x5 x6 H locs ls w hsl hl hE
  have hcc : cells ≤ h_x g - n0 ∧ slots ≤ h_s g - s0 := by
    have q1 := mo_K_leads_103 N hsh60 h th x3 x4 x5 x6 _ _ hE
    have q2 := wd_x w
    have q3 := q1.1
    have q4 := q1.2.1
    omega
  unfold f_K_leads_103 at hE
  refine lv_aload_n hx hb dX11_leads_103 rfl (lv_at hl 0 rfl) ?_
  refine w_gR (r := some th) (ci := 12) (k := 9) C w rfl (by decide) (GF_wsX110 _) (by decide) rfl (List.mem_cons_of_mem _ gw_3_2) rfl dX11_leads_104 hE (fun v1 e1 => ?_)
  refine w_VV GW_good (n := 0) (F := 1) (Lc := 21) (o := v1) (av := []) (rest := []) C w rfl (by decide) (fun a r g hf => k_Walk_goOn l D cy z N h a  r g hf) gw_47_15 gw_47_16 gw_47_17 gw_3_1 gw_47_18 (by decide +kernel) ⟨Nat.le_of_ble_eq_true rfl, Nat.le_of_ble_eq_true rfl⟩ rfl hl.1 rfl (Nat.le_of_ble_eq_true rfl) dX11_leads_107 (fun a => (sh_Walk_goOn N h a )) ⟨hcc.1, hcc.2⟩ e1 (fun v2 h3 H locs w hsh3 e2 => ?_)
  have hsl := hsh3.2.2.2.trans hsl
  refine lv_aload_n hx hb dX11_leads_110 rfl (lv_at hl 0 rfl) ?_
  refine w_gR (r := some th) (ci := 12) (k := 10) C w rfl (by decide) (GF_wsX110 _) (by decide) rfl (List.mem_cons_of_mem _ gw_3_3) rfl dX11_leads_111 e2 (fun v4 e3 => ?_)
  refine w_VV GW_good (n := 0) (F := 1) (Lc := 21) (o := v4) (av := []) (rest := []) C w rfl (by decide) (fun a r g hf => k_Walk_goOn l D cy z N h3 a  r g hf) gw_47_15 gw_47_16 gw_47_17 gw_3_1 gw_47_18 (by decide +kernel) ⟨Nat.le_of_ble_eq_true rfl, Nat.le_of_ble_eq_true rfl⟩ rfl hl.1 rfl (Nat.le_of_ble_eq_true rfl) dX11_leads_114 (fun a => (sh_Walk_goOn N h3 a )) ⟨hcc.1, hcc.2⟩ e3 (fun v5 h6 H locs w hsh6 e4 => ?_)
  have hsl := hsh6.2.2.2.trans hsl
  obtain ⟨v7, ev7, e5⟩ := bn_some e4
  refine lv_iinc (v := v7) (lv' := [(6, .int v7), (0, .ref th), (3, .int x3), (4, .int x4), (5, .int x5)]) hx hb dX11_leads_117 hl (k := 4) rfl (by rw [ev7]; rfl) (by decide) rfl (fun ls hl => ?_)
  refine lv_goto (tgt := 60) hx hb dX11_leads_120 (by decide) ?_
  exact hrc60 _ _ h6 th x3 x4 x5 v7 _ _ ls w hsl (lv_sub hl [1, 2, 3, 4, 0] rfl) e5
set_option maxRecDepth 20000 in
set_option maxHeartbeats 4000000 in
theorem b_K_leads_98 {p : Program} {l : Launch} {e : Env} {s : State} {m : MethodId} {args : Array Value} {below : List Frame} {meth : Method} {c : Code} {D : va_G} {cy : cyT} {z : Nat} (C : MX p s m args meth c cX11_leads 7 ((some .int)) RX11 (Cond.code yX11_leads cX11_leads 7 ((some .int)) :: GW)) (hst : l.stackTraces = false) (hxt : ∀ x ∈ c.exceptionTable.toList, False) (N : Nat) (n0 s0 : Nat) (hn0 : s.heap.size = n0) {r : (Int32 ⊕ Nat)} {g : hS} {rc60 : hS → Nat → Int32 → Int32 → Int32 → Int32 → Option ((Int32 ⊕ Nat) × hS)} (hsh60 : ∀ (h : hS) (th : Nat) (x3 : Int32) (x4 : Int32) (x5 : Int32) (x6 : Int32), Mo h (rc60 h th x3 x4 x5 x6)) (hrc60 : ∀ (cells slots : Nat) (h : hS) (th : Nat) (x3 : Int32) (x4 : Int32) (x5 : Int32) (x6 : Int32) (H : Heap) (locs : List Loc) (ls : Array Slot), wd D cy z s cells h H locs → h_s h = s0 + slots → lv_has ls 7 [(0, .ref th), (3, .int x3), (4, .int x4), (5, .int x5), (6, .int x6)] → rc60 h th x3 x4 x5 x6 = some (r, g) → W p l e { frames := 9, cells := h_x g - n0, slots := h_s g - s0, locals := 143 } s m args below meth c H locs cells slots (eT D cy z rI r g below args s (h_x g - n0) (h_s g - s0)) (F0 m 60 ls [])) : ∀  (cells slots : Nat) (h : hS) (th : Nat) (x3 : Int32) (x4 : Int32) (x6 : Int32) (y0 : Int32) (H : Heap) (locs : List Loc) (ls : Array Slot), wd D cy z s cells h H locs → h_s h = s0 + slots → lv_has ls 7 [(0, .ref th), (3, .int x3), (4, .int x4), (6, .int x6)] → f_K_leads_98 N rc60  h th x3 x4 x6 y0 = some (r, g) → W p l e { frames := 9, cells := h_x g - n0, slots := h_s g - s0, locals := 143 } s m args below meth c H locs cells slots (eT D cy z rI r g below args s (h_x g - n0) (h_s g - s0)) (F0 m 98 ls [.int y0]) := by
  obtain ⟨hx, hb, hr, hml, hown, hts, hlk⟩ := id C
  intro cells slots h th x3 x4 x6 y0 H locs ls w hsl hl hE
  have hcc : cells ≤ h_x g - n0 ∧ slots ≤ h_s g - s0 := by
    have q1 := mo_K_leads_98 N hsh60 h th x3 x4 x6 y0 _ _ hE
    have q2 := wd_x w
    have q3 := q1.1
    have q4 := q1.2.1
    omega
  unfold f_K_leads_98 at hE
  refine lv_istore (lv' := [(5, .int y0), (0, .ref th), (3, .int x3), (4, .int x4), (6, .int x6)]) hx hb dX11_leads_98 hl (by decide) rfl (fun ls hl => ?_)
  obtain ⟨v1, ev1, e1⟩ := bn_some hE
  refine lv_iinc (v := v1) (lv' := [(4, .int v1), (5, .int y0), (0, .ref th), (3, .int x3), (6, .int x6)]) hx hb dX11_leads_100 hl (k := 3) rfl (by rw [ev1]; rfl) (by decide) rfl (fun ls hl => ?_)
  exact b_K_leads_103 C hst hxt N n0 s0 hn0 hsh60 hrc60  _ _ h th x3 v1 y0 x6 _ _ ls w hsl (lv_sub hl [2, 3, 0, 1, 4] rfl) e1
set_option maxRecDepth 20000 in
set_option maxHeartbeats 4000000 in
theorem b_K_leads_60 {p : Program} {l : Launch} {e : Env} {s : State} {m : MethodId} {args : Array Value} {below : List Frame} {meth : Method} {c : Code} {D : va_G} {cy : cyT} {z : Nat} (C : MX p s m args meth c cX11_leads 7 ((some .int)) RX11 (Cond.code yX11_leads cX11_leads 7 ((some .int)) :: GW)) (hst : l.stackTraces = false) (hxt : ∀ x ∈ c.exceptionTable.toList, False) (N : Nat) (n0 s0 : Nat) (hn0 : s.heap.size = n0) {r : (Int32 ⊕ Nat)} {g : hS}  : ∀ (n : Nat) (cells slots : Nat) (h : hS) (th : Nat) (x3 : Int32) (x4 : Int32) (x5 : Int32) (x6 : Int32) (H : Heap) (locs : List Loc) (ls : Array Slot), wd D cy z s cells h H locs → h_s h = s0 + slots → lv_has ls 7 [(0, .ref th), (3, .int x3), (4, .int x4), (5, .int x5), (6, .int x6)] → f_K_leads_60 N  n h th x3 x4 x5 x6 = some (r, g) → W p l e { frames := 9, cells := h_x g - n0, slots := h_s g - s0, locals := 143 } s m args below meth c H locs cells slots (eT D cy z rI r g below args s (h_x g - n0) (h_s g - s0)) (F0 m 60 ls []) := by
  obtain ⟨hx, hb, hr, hml, hown, hts, hlk⟩ := id C
  intro n
  induction n with
  | zero =>
    intro cells slots h th x3 x4 x5 x6 H locs ls w hsl hl hE
    cases hE
  | succ n ih =>
    intro cells slots h th x3 x4 x5 x6 H locs ls w hsl hl hE
    have hcc : cells ≤ h_x g - n0 ∧ slots ≤ h_s g - s0 := by
      have q1 := mo_K_leads_60 N  (n + 1) h th x3 x4 x5 x6 _ _ hE
      have q2 := wd_x w
      have q3 := q1.1
      have q4 := q1.2.1
      omega
    unfold f_K_leads_60 at hE
    refine lv_iload hx hb dX11_leads_60 (lv_at hl 4 rfl) ?_
    refine lv_sipush (v := 500) hx hb dX11_leads_62 (by decide) ?_
    refine w_icmp_gt (tgt := 123) C dX11_leads_65 (by decide) hE (fun hc e1 => ?_) (fun hc e1 => ?_)
    · refine lv_iload_n hx hb dX11_leads_123 rfl (lv_at hl 1 rfl) ?_
      refine w_if_ne (tgt := 132) C dX11_leads_124 (by decide) e1 (fun hc e2 => ?_) (fun hc e2 => ?_)
      · refine lv_iload hx hb dX11_leads_132 (lv_at hl 3 rfl) ?_
        exact b_K_leads_134 C hst hxt N n0 s0 hn0   _ _ h x5 _ _ ls w hsl (lv_sub hl [] rfl) e2
      · refine lv_iload hx hb dX11_leads_127 (lv_at hl 2 rfl) ?_
        refine lv_goto (tgt := 134) hx hb dX11_leads_129 (by decide) ?_
        exact b_K_leads_134 C hst hxt N n0 s0 hn0   _ _ h x4 _ _ ls w hsl (lv_sub hl [] rfl) e2
    · refine lv_aload_n hx hb dX11_leads_68 rfl (lv_at hl 0 rfl) ?_
      refine w_gR (r := some th) (ci := 12) (k := 9) C w rfl (by decide) (GF_wsX110 _) (by decide) rfl (List.mem_cons_of_mem _ gw_3_2) rfl dX11_leads_69 e1 (fun v1 e3 => ?_)
      refine w_gJ (r := v1) (ci := 11) (k := 4) C w rfl (by decide) (GF_wsX100 _) (by decide) rfl (List.mem_cons_of_mem _ gw_47_0) rfl dX11_leads_72 e3 (fun v2 e4 => ?_)
      refine lv_aload_n hx hb dX11_leads_75 rfl (lv_at hl 0 rfl) ?_
      refine w_gR (r := some th) (ci := 12) (k := 10) C w rfl (by decide) (GF_wsX110 _) (by decide) rfl (List.mem_cons_of_mem _ gw_3_3) rfl dX11_leads_76 e4 (fun v3 e5 => ?_)
      refine w_gJ (r := v3) (ci := 11) (k := 4) C w rfl (by decide) (GF_wsX100 _) (by decide) rfl (List.mem_cons_of_mem _ gw_47_0) rfl dX11_leads_79 e5 (fun v4 e6 => ?_)
      refine W.lcmp hx hb dX11_leads_82 ?_
      refine w_if_ge (tgt := 103) C dX11_leads_83 (by decide) e6 (fun hc e7 => ?_) (fun hc e7 => ?_)
      · exact b_K_leads_103 C hst hxt N n0 s0 hn0 (mo_K_leads_60 N  n) ih  _ _ h th x3 x4 x5 x6 _ _ ls w hsl (lv_sub hl [0, 1, 2, 3, 4] rfl) e7
      · refine lv_iload hx hb dX11_leads_86 (lv_at hl 2 rfl) ?_
        refine w_if_ne (tgt := 96) C dX11_leads_88 (by decide) e7 (fun hc e8 => ?_) (fun hc e8 => ?_)
        · refine lv_iload hx hb dX11_leads_96 (lv_at hl 3 rfl) ?_
          exact b_K_leads_98 C hst hxt N n0 s0 hn0 (mo_K_leads_60 N  n) ih  _ _ h th x3 x4 x6 x5 _ _ ls w hsl (lv_sub hl [0, 1, 2, 4] rfl) e8
        · refine lv_iload hx hb dX11_leads_91 (lv_at hl 4 rfl) ?_
          refine lv_goto (tgt := 98) hx hb dX11_leads_93 (by decide) ?_
          exact b_K_leads_98 C hst hxt N n0 s0 hn0 (mo_K_leads_60 N  n) ih  _ _ h th x3 x4 x6 x6 _ _ ls w hsl (lv_sub hl [0, 1, 2, 4] rfl) e8
set_option maxRecDepth 20000 in
set_option maxHeartbeats 4000000 in
theorem b_K_leads_47 {p : Program} {l : Launch} {e : Env} {s : State} {m : MethodId} {args : Array Value} {below : List Frame} {meth : Method} {c : Code} {D : va_G} {cy : cyT} {z : Nat} (C : MX p s m args meth c cX11_leads 7 ((some .int)) RX11 (Cond.code yX11_leads cX11_leads 7 ((some .int)) :: GW)) (hst : l.stackTraces = false) (hxt : ∀ x ∈ c.exceptionTable.toList, False) (N : Nat) (n0 s0 : Nat) (hn0 : s.heap.size = n0) {r : (Int32 ⊕ Nat)} {g : hS}  : ∀  (cells slots : Nat) (h : hS) (th : Nat) (x3 : Int32) (H : Heap) (locs : List Loc) (ls : Array Slot), wd D cy z s cells h H locs → h_s h = s0 + slots → lv_has ls 7 [(0, .ref th), (3, .int x3)] → f_K_leads_47 N   h th x3 = some (r, g) → W p l e { frames := 9, cells := h_x g - n0, slots := h_s g - s0, locals := 143 } s m args below meth c H locs cells slots (eT D cy z rI r g below args s (h_x g - n0) (h_s g - s0)) (F0 m 47 ls []) := by
  obtain ⟨hx, hb, hr, hml, hown, hts, hlk⟩ := id C
  intro cells slots h th x3 H locs ls w hsl hl hE
  have hcc : cells ≤ h_x g - n0 ∧ slots ≤ h_s g - s0 := by
    have q1 := mo_K_leads_47 N  h th x3 _ _ hE
    have q2 := wd_x w
    have q3 := q1.1
    have q4 := q1.2.1
    omega
  unfold f_K_leads_47 at hE
  refine lv_iconst (v := 0) hx hb dX11_leads_47 (by decide) ?_
  refine lv_istore (lv' := [(4, .int (0 : Int32)), (0, .ref th), (3, .int x3)]) hx hb dX11_leads_48 hl (by decide) rfl (fun ls hl => ?_)
  refine lv_ldcw hx hb hown (hts _ (List.mem_cons_of_mem _ gw_36_13)) dX11_leads_50 ?_
  refine lv_istore (lv' := [(5, .int (-10000000 : Int32)), (4, .int (0 : Int32)), (0, .ref th), (3, .int x3)]) hx hb dX11_leads_53 hl (by decide) rfl (fun ls hl => ?_)
  refine lv_sipush (v := -500) hx hb dX11_leads_55 (by decide) ?_
  refine lv_istore (lv' := [(6, .int (-500 : Int32)), (5, .int (-10000000 : Int32)), (4, .int (0 : Int32)), (0, .ref th), (3, .int x3)]) hx hb dX11_leads_58 hl (by decide) rfl (fun ls hl => ?_)
  exact b_K_leads_60 C hst hxt N n0 s0 hn0  N _ _ h th x3 (0 : Int32) (-10000000 : Int32) (-500 : Int32) _ _ ls w hsl (lv_sub hl [3, 4, 2, 1, 0] rfl) hE
set_option maxRecDepth 20000 in
set_option maxHeartbeats 4000000 in
theorem b_K_leads_44 {p : Program} {l : Launch} {e : Env} {s : State} {m : MethodId} {args : Array Value} {below : List Frame} {meth : Method} {c : Code} {D : va_G} {cy : cyT} {z : Nat} (C : MX p s m args meth c cX11_leads 7 ((some .int)) RX11 (Cond.code yX11_leads cX11_leads 7 ((some .int)) :: GW)) (hst : l.stackTraces = false) (hxt : ∀ x ∈ c.exceptionTable.toList, False) (N : Nat) (n0 s0 : Nat) (hn0 : s.heap.size = n0) {r : (Int32 ⊕ Nat)} {g : hS}  : ∀  (cells slots : Nat) (h : hS) (th : Nat) (x3 : Int32) (y0 : Int32) (H : Heap) (locs : List Loc) (ls : Array Slot), wd D cy z s cells h H locs → h_s h = s0 + slots → lv_has ls 7 [(0, .ref th), (3, .int x3)] → f_K_leads_44 N   h th x3 y0 = some (r, g) → W p l e { frames := 9, cells := h_x g - n0, slots := h_s g - s0, locals := 143 } s m args below meth c H locs cells slots (eT D cy z rI r g below args s (h_x g - n0) (h_s g - s0)) (F0 m 44 ls [.int y0]) := by
  obtain ⟨hx, hb, hr, hml, hown, hts, hlk⟩ := id C
  intro cells slots h th x3 y0 H locs ls w hsl hl hE
  have hcc : cells ≤ h_x g - n0 ∧ slots ≤ h_s g - s0 := by
    have q1 := mo_K_leads_44 N  h th x3 y0 _ _ hE
    have q2 := wd_x w
    have q3 := q1.1
    have q4 := q1.2.1
    omega
  unfold f_K_leads_44 at hE
  refine w_STV GW_good (n := 1) (F := 6) (Lc := 82) (av := [.int y0]) (rest := []) hxt hn0 hsl C w (fun r g hf => k_K_needSuch l hst D cy z N h y0 r g hf) gw_9_15 gw_9_16 gw_1_2 gw_9_17 (by decide +kernel) ⟨Nat.le_of_ble_eq_true rfl, Nat.le_of_ble_eq_true rfl⟩ rfl hl.1 rfl (Nat.le_of_ble_eq_true rfl) dX11_leads_44 (mo_K_needSuch N h y0) (fun v1 h2 => mo_K_leads_47 N   h2 th x3) hE (fun v1 h2 H locs w hsh2 e1 => ?_)
  exact b_K_leads_47 C hst hxt N n0 s0 hn0   _ _ h2 th x3 _ _ ls w (by have u5 := hsh2.2.1; have u8 := hsl; omega) (lv_sub hl [0, 1] rfl) e1
set_option maxRecDepth 20000 in
set_option maxHeartbeats 4000000 in
theorem b_K_leads_39 {p : Program} {l : Launch} {e : Env} {s : State} {m : MethodId} {args : Array Value} {below : List Frame} {meth : Method} {c : Code} {D : va_G} {cy : cyT} {z : Nat} (C : MX p s m args meth c cX11_leads 7 ((some .int)) RX11 (Cond.code yX11_leads cX11_leads 7 ((some .int)) :: GW)) (hst : l.stackTraces = false) (hxt : ∀ x ∈ c.exceptionTable.toList, False) (N : Nat) (n0 s0 : Nat) (hn0 : s.heap.size = n0) {r : (Int32 ⊕ Nat)} {g : hS}  : ∀  (cells slots : Nat) (h : hS) (th : Nat) (x3 : Int32) (H : Heap) (locs : List Loc) (ls : Array Slot), wd D cy z s cells h H locs → h_s h = s0 + slots → lv_has ls 7 [(0, .ref th), (3, .int x3)] → f_K_leads_39 N   h th x3 = some (r, g) → W p l e { frames := 9, cells := h_x g - n0, slots := h_s g - s0, locals := 143 } s m args below meth c H locs cells slots (eT D cy z rI r g below args s (h_x g - n0) (h_s g - s0)) (F0 m 39 ls []) := by
  obtain ⟨hx, hb, hr, hml, hown, hts, hlk⟩ := id C
  intro cells slots h th x3 H locs ls w hsl hl hE
  have hcc : cells ≤ h_x g - n0 ∧ slots ≤ h_s g - s0 := by
    have q1 := mo_K_leads_39 N  h th x3 _ _ hE
    have q2 := wd_x w
    have q3 := q1.1
    have q4 := q1.2.1
    omega
  unfold f_K_leads_39 at hE
  refine lv_iconst (v := 1) hx hb dX11_leads_39 (by decide) ?_
  refine lv_goto (tgt := 44) hx hb dX11_leads_40 (by decide) ?_
  exact b_K_leads_44 C hst hxt N n0 s0 hn0   _ _ h th x3 (1 : Int32) _ _ ls w hsl (lv_sub hl [0, 1] rfl) hE
set_option maxRecDepth 20000 in
set_option maxHeartbeats 4000000 in
theorem b_K_leads_24 {p : Program} {l : Launch} {e : Env} {s : State} {m : MethodId} {args : Array Value} {below : List Frame} {meth : Method} {c : Code} {D : va_G} {cy : cyT} {z : Nat} (C : MX p s m args meth c cX11_leads 7 ((some .int)) RX11 (Cond.code yX11_leads cX11_leads 7 ((some .int)) :: GW)) (hst : l.stackTraces = false) (hxt : ∀ x ∈ c.exceptionTable.toList, False) (N : Nat) (n0 s0 : Nat) (hn0 : s.heap.size = n0) {r : (Int32 ⊕ Nat)} {g : hS}  : ∀  (cells slots : Nat) (h : hS) (th : Nat) (x3 : Int32) (y0 : Option Nat) (y1 : Option Nat) (H : Heap) (locs : List Loc) (ls : Array Slot), wd D cy z s cells h H locs → h_s h = s0 + slots → lv_has ls 7 [(0, .ref th), (3, .int x3)] → f_K_leads_24 N   h th x3 y0 y1 = some (r, g) → W p l e { frames := 9, cells := h_x g - n0, slots := h_s g - s0, locals := 143 } s m args below meth c H locs cells slots (eT D cy z rI r g below args s (h_x g - n0) (h_s g - s0)) (F0 m 24 ls [va_rf y1, va_rf y0]) := by
  obtain ⟨hx, hb, hr, hml, hown, hts, hlk⟩ := id C
  intro cells slots h th x3 y0 y1 H locs ls w hsl hl hE
  have hcc : cells ≤ h_x g - n0 ∧ slots ≤ h_s g - s0 := by
    have q1 := mo_K_leads_24 N  h th x3 y0 y1 _ _ hE
    have q2 := wd_x w
    have q3 := q1.1
    have q4 := q1.2.1
    omega
  unfold f_K_leads_24 at hE
  refine lv_sipush (v := -500) hx hb dX11_leads_24 (by decide) ?_
  refine w_VV GW_good (n := 2) (F := 2) (Lc := 73) (o := y0) (av := [va_rf y1, .int (-500 : Int32)]) (rest := []) C w rfl (by decide) (fun a r g hf => k_Walk_startAt l D cy z N h a y1 (-500 : Int32) r g hf) gw_47_1 gw_47_2 gw_47_3 gw_3_1 gw_47_4 (by decide +kernel) ⟨Nat.le_of_ble_eq_true rfl, Nat.le_of_ble_eq_true rfl⟩ rfl hl.1 rfl (Nat.le_of_ble_eq_true rfl) dX11_leads_27 (fun a => (sh_Walk_startAt N h a y1 (-500 : Int32))) ⟨hcc.1, hcc.2⟩ hE (fun v1 h2 H locs w hsh2 e1 => ?_)
  have hsl := hsh2.2.2.2.trans hsl
  refine lv_iload_n hx hb dX11_leads_30 rfl (lv_at hl 1 rfl) ?_
  refine w_if_eq (tgt := 39) C dX11_leads_31 (by decide) e1 (fun hc e2 => ?_) (fun hc e2 => ?_)
  · exact b_K_leads_39 C hst hxt N n0 s0 hn0   _ _ h2 th x3 _ _ ls w hsl (lv_sub hl [0, 1] rfl) e2
  · refine lv_iload_n hx hb dX11_leads_34 rfl (lv_at hl 1 rfl) ?_
    refine lv_iconst (v := 1) hx hb dX11_leads_35 (by decide) ?_
    refine w_icmp_ne (tgt := 43) C dX11_leads_36 (by decide) e2 (fun hc e3 => ?_) (fun hc e3 => ?_)
    · refine lv_iconst (v := 0) hx hb dX11_leads_43 (by decide) ?_
      exact b_K_leads_44 C hst hxt N n0 s0 hn0   _ _ h2 th x3 (0 : Int32) _ _ ls w hsl (lv_sub hl [0, 1] rfl) e3
    · exact b_K_leads_39 C hst hxt N n0 s0 hn0   _ _ h2 th x3 _ _ ls w hsl (lv_sub hl [0, 1] rfl) e3
set_option maxRecDepth 20000 in
set_option maxHeartbeats 4000000 in
theorem b_K_leads_9 {p : Program} {l : Launch} {e : Env} {s : State} {m : MethodId} {args : Array Value} {below : List Frame} {meth : Method} {c : Code} {D : va_G} {cy : cyT} {z : Nat} (C : MX p s m args meth c cX11_leads 7 ((some .int)) RX11 (Cond.code yX11_leads cX11_leads 7 ((some .int)) :: GW)) (hst : l.stackTraces = false) (hxt : ∀ x ∈ c.exceptionTable.toList, False) (N : Nat) (n0 s0 : Nat) (hn0 : s.heap.size = n0) {r : (Int32 ⊕ Nat)} {g : hS}  : ∀  (cells slots : Nat) (h : hS) (th : Nat) (x2 : Int32) (x3 : Int32) (y0 : Option Nat) (y1 : Option Nat) (H : Heap) (locs : List Loc) (ls : Array Slot), wd D cy z s cells h H locs → h_s h = s0 + slots → lv_has ls 7 [(0, .ref th), (2, .int x2), (3, .int x3)] → f_K_leads_9 N   h th x2 x3 y0 y1 = some (r, g) → W p l e { frames := 9, cells := h_x g - n0, slots := h_s g - s0, locals := 143 } s m args below meth c H locs cells slots (eT D cy z rI r g below args s (h_x g - n0) (h_s g - s0)) (F0 m 9 ls [va_rf y1, va_rf y0]) := by
  obtain ⟨hx, hb, hr, hml, hown, hts, hlk⟩ := id C
  intro cells slots h th x2 x3 y0 y1 H locs ls w hsl hl hE
  have hcc : cells ≤ h_x g - n0 ∧ slots ≤ h_s g - s0 := by
    have q1 := mo_K_leads_9 N  h th x2 x3 y0 y1 _ _ hE
    have q2 := wd_x w
    have q3 := q1.1
    have q4 := q1.2.1
    omega
  unfold f_K_leads_9 at hE
  refine lv_sipush (v := -500) hx hb dX11_leads_9 (by decide) ?_
  refine w_VV GW_good (n := 2) (F := 2) (Lc := 73) (o := y0) (av := [va_rf y1, .int (-500 : Int32)]) (rest := []) C w rfl (by decide) (fun a r g hf => k_Walk_startAt l D cy z N h a y1 (-500 : Int32) r g hf) gw_47_1 gw_47_2 gw_47_3 gw_3_1 gw_47_4 (by decide +kernel) ⟨Nat.le_of_ble_eq_true rfl, Nat.le_of_ble_eq_true rfl⟩ rfl hl.1 rfl (Nat.le_of_ble_eq_true rfl) dX11_leads_12 (fun a => (sh_Walk_startAt N h a y1 (-500 : Int32))) ⟨hcc.1, hcc.2⟩ hE (fun v1 h2 H locs w hsh2 e1 => ?_)
  have hsl := hsh2.2.2.2.trans hsl
  refine lv_aload_n hx hb dX11_leads_15 rfl (lv_at hl 0 rfl) ?_
  refine w_gR (r := some th) (ci := 12) (k := 10) C w rfl (by decide) (GF_wsX110 _) (by decide) rfl (List.mem_cons_of_mem _ gw_3_3) rfl dX11_leads_16 e1 (fun v3 e2 => ?_)
  refine lv_aload_n hx hb dX11_leads_19 rfl (lv_at hl 0 rfl) ?_
  refine lv_iload_n hx hb dX11_leads_20 rfl (lv_at hl 1 rfl) ?_
  refine w_VTR GW_good (n := 1) (F := 8) (Lc := 122) (ob := some th) (av := [.int x2]) (rest := [va_rf v3]) hxt hn0 hsl C w rfl (by decide) (fun a r g hf => k_K_curveOf l hst D cy z N h2 a x2 r g hf) gw_16_2 gw_16_3 gw_16_4 gw_1_2 gw_16_5 (by decide +kernel) ⟨Nat.le_of_ble_eq_true rfl, Nat.le_of_ble_eq_true rfl⟩ rfl hl.1 rfl (cat_le (Nat.le_of_ble_eq_true rfl)) dX11_leads_21 (fun a => (mo_K_curveOf N h2 a x2)) (fun v4 h5 => mo_K_leads_24 N   h5 th x3 v3 v4) e2 (fun v4 h5 H locs w hsh5 e3 => ?_)
  exact b_K_leads_24 C hst hxt N n0 s0 hn0   _ _ h5 th x3 v3 v4 _ _ ls w (by have u5 := hsh5.2.1; have u8 := hsl; omega) (lv_sub hl [0, 2] rfl) e3
set_option maxRecDepth 20000 in
set_option maxHeartbeats 4000000 in
theorem k_K_leads (l : Launch) (hst : l.stackTraces = false) (D : va_G) (cy : cyT) (z : Nat) (N : Nat) (h : hS) (th : Nat) (x1 : Int32) (x2 : Int32) (x3 : Int32) (r : (Int32 ⊕ Nat)) (g : hS) (hE : f_K_leads N h th x1 x2 x3 = some (r, g)) : ctT l yX11_leads (Cond.code yX11_leads cX11_leads 7 ((some .int)) :: GW) { frames := 9, cells := h_x g - h_x h, slots := h_s g - h_s h, locals := 143 } D cy z h [.ref th, .int x1, .int x2, .int x3] rI r g := by
  refine ctT_of (cc := cX11_leads) (maxL := 7) (ret := (some .int)) (by decide) ?_
  intro p e s m args below meth c s₁ B hml hxt hv
  obtain ⟨rfl, hw⟩ := hv
  have C : MX p s m ([.ref th, .int x1, .int x2, .int x3] : List Value).toArray meth c cX11_leads 7 ((some .int)) RX11 (Cond.code yX11_leads cX11_leads 7 ((some .int)) :: GW) := ⟨B.exec, B.bytes, B.returns, hml, findClass_of_methodNamed B.named, atoms_spec (ws := Cond.code yX11_leads cX11_leads 7 ((some .int)) :: GW) B.pre, B.notSynchronized⟩
  obtain ⟨hx, hb, hr, hml, hown, hts, hlk⟩ := id C
  have w := wd_of hw
  have hsl : h_s h = h_s h + 0 := rfl
  have hn0 : s.heap.size = h_x h := (wd_x w).1
  obtain ⟨ls, hen, hl⟩ : ∃ ls : Array Slot, entryFrame m ([.ref th, .int x1, .int x2, .int x3] : List Value).toArray 7 = F0 m 0 ls [] ∧ lv_has ls 7 [(0, .ref th), (1, .int x1), (2, .int x2), (3, .int x3)] := by
    exact ⟨_, lg_entry_eq _ _ _, lv_entry _ (Nat.le_of_ble_eq_true rfl)⟩
  rw [hen]
  have hcc : 0 ≤ h_x g - h_x h ∧ 0 ≤ h_s g - h_s h := ⟨Nat.zero_le _, Nat.zero_le _⟩
  unfold f_K_leads at hE
  refine lv_aload_n hx hb dX11_leads_0 rfl (lv_at hl 0 rfl) ?_
  refine w_gR (r := some th) (ci := 12) (k := 9) C w rfl (by decide) (GF_wsX110 _) (by decide) rfl (List.mem_cons_of_mem _ gw_3_2) rfl dX11_leads_1 hE (fun v1 e1 => ?_)
  refine lv_aload_n hx hb dX11_leads_4 rfl (lv_at hl 0 rfl) ?_
  refine lv_iload_n hx hb dX11_leads_5 rfl (lv_at hl 1 rfl) ?_
  refine w_VTR GW_good (n := 1) (F := 8) (Lc := 122) (ob := some th) (av := [.int x1]) (rest := [va_rf v1]) hxt hn0 hsl C w rfl (by decide) (fun a r g hf => k_K_curveOf l hst D cy z N h a x1 r g hf) gw_16_2 gw_16_3 gw_16_4 gw_1_2 gw_16_5 (by decide +kernel) ⟨Nat.le_of_ble_eq_true rfl, Nat.le_of_ble_eq_true rfl⟩ rfl hl.1 rfl (cat_le (Nat.le_of_ble_eq_true rfl)) dX11_leads_6 (fun a => (mo_K_curveOf N h a x1)) (fun v2 h3 => mo_K_leads_9 N   h3 th x2 x3 v1 v2) e1 (fun v2 h3 H locs w hsh3 e2 => ?_)
  exact b_K_leads_9 C hst hxt N (h_x h) (h_s h) hn0   _ _ h3 th x2 x3 v1 v2 _ _ ls w (by have u5 := hsh3.2.1; have u8 := hsl; omega) (lv_sub hl [0, 2, 3] rfl) e2
set_option maxRecDepth 20000 in
set_option maxHeartbeats 4000000 in
theorem b_K_against_71 {p : Program} {l : Launch} {e : Env} {s : State} {m : MethodId} {args : Array Value} {below : List Frame} {meth : Method} {c : Code} {D : va_G} {cy : cyT} {z : Nat} (C : MX p s m args meth c cX11_against 6 ((some .long)) RX11 (Cond.code yX11_against cX11_against 6 ((some .long)) :: GW)) (hst : l.stackTraces = false) (hxt : ∀ x ∈ c.exceptionTable.toList, False) (N : Nat) (n0 s0 : Nat) (hn0 : s.heap.size = n0) {r : (Int64 ⊕ Nat)} {g : hS}  : ∀  (cells slots : Nat) (h : hS)  (H : Heap) (locs : List Loc) (ls : Array Slot), wd D cy z s cells h H locs → h_s h = s0 + slots → lv_has ls 6 [] → f_K_against_71 N   h  = some (r, g) → W p l e { frames := 9, cells := h_x g - n0, slots := h_s g - s0, locals := 143 } s m args below meth c H locs cells slots (eT D cy z rJ r g below args s (h_x g - n0) (h_s g - s0)) (F0 m 71 ls []) := by
  obtain ⟨hx, hb, hr, hml, hown, hts, hlk⟩ := id C
  intro cells slots h  H locs ls w hsl hl hE
  have hcc : cells ≤ h_x g - n0 ∧ slots ≤ h_s g - s0 := by
    have q1 := mo_K_against_71 N  h  _ _ hE
    have q2 := wd_x w
    have q3 := q1.1
    have q4 := q1.2.1
    omega
  unfold f_K_against_71 at hE
  refine lv_ldc2 hx hb hown (hts _ (List.mem_cons_of_mem _ gw_48_16)) dX11_against_71 ?_
  refine W.widen (k := h_x g - n0) (n := h_s g - s0) hcc.1 hcc.2 ?_
  exact w_lretT C w hE dX11_against_74
set_option maxRecDepth 20000 in
set_option maxHeartbeats 4000000 in
theorem b_K_against_107 {p : Program} {l : Launch} {e : Env} {s : State} {m : MethodId} {args : Array Value} {below : List Frame} {meth : Method} {c : Code} {D : va_G} {cy : cyT} {z : Nat} (C : MX p s m args meth c cX11_against 6 ((some .long)) RX11 (Cond.code yX11_against cX11_against 6 ((some .long)) :: GW)) (hst : l.stackTraces = false) (hxt : ∀ x ∈ c.exceptionTable.toList, False) (N : Nat) (n0 s0 : Nat) (hn0 : s.heap.size = n0) {r : (Int64 ⊕ Nat)} {g : hS}  : ∀  (cells slots : Nat) (h : hS) (y0 : Int64) (H : Heap) (locs : List Loc) (ls : Array Slot), wd D cy z s cells h H locs → h_s h = s0 + slots → lv_has ls 6 [] → f_K_against_107 N   h y0 = some (r, g) → W p l e { frames := 9, cells := h_x g - n0, slots := h_s g - s0, locals := 143 } s m args below meth c H locs cells slots (eT D cy z rJ r g below args s (h_x g - n0) (h_s g - s0)) (F0 m 107 ls [.long y0]) := by
  obtain ⟨hx, hb, hr, hml, hown, hts, hlk⟩ := id C
  intro cells slots h y0 H locs ls w hsl hl hE
  have hcc : cells ≤ h_x g - n0 ∧ slots ≤ h_s g - s0 := by
    have q1 := mo_K_against_107 N  h y0 _ _ hE
    have q2 := wd_x w
    have q3 := q1.1
    have q4 := q1.2.1
    omega
  unfold f_K_against_107 at hE
  refine W.widen (k := h_x g - n0) (n := h_s g - s0) hcc.1 hcc.2 ?_
  exact w_lretT C w hE dX11_against_107
set_option maxRecDepth 20000 in
set_option maxHeartbeats 4000000 in
theorem b_K_against_46 {p : Program} {l : Launch} {e : Env} {s : State} {m : MethodId} {args : Array Value} {below : List Frame} {meth : Method} {c : Code} {D : va_G} {cy : cyT} {z : Nat} (C : MX p s m args meth c cX11_against 6 ((some .long)) RX11 (Cond.code yX11_against cX11_against 6 ((some .long)) :: GW)) (hst : l.stackTraces = false) (hxt : ∀ x ∈ c.exceptionTable.toList, False) (N : Nat) (n0 s0 : Nat) (hn0 : s.heap.size = n0) {r : (Int64 ⊕ Nat)} {g : hS}  : ∀  (cells slots : Nat) (h : hS) (x2 : Int32) (x3 : Int32) (a4 : Option Nat) (H : Heap) (locs : List Loc) (ls : Array Slot), wd D cy z s cells h H locs → h_s h = s0 + slots → lv_has ls 6 [(2, .int x2), (3, .int x3), (4, va_rf a4)] → f_K_against_46 N   h x2 x3 a4 = some (r, g) → W p l e { frames := 9, cells := h_x g - n0, slots := h_s g - s0, locals := 143 } s m args below meth c H locs cells slots (eT D cy z rJ r g below args s (h_x g - n0) (h_s g - s0)) (F0 m 46 ls []) := by
  obtain ⟨hx, hb, hr, hml, hown, hts, hlk⟩ := id C
  intro cells slots h x2 x3 a4 H locs ls w hsl hl hE
  have hcc : cells ≤ h_x g - n0 ∧ slots ≤ h_s g - s0 := by
    have q1 := mo_K_against_46 N  h x2 x3 a4 _ _ hE
    have q2 := wd_x w
    have q3 := q1.1
    have q4 := q1.2.1
    omega
  unfold f_K_against_46 at hE
  refine lv_iload_n hx hb dX11_against_46 rfl (lv_at hl 0 rfl) ?_
  refine w_aload C dX11_against_47 (lv_at hl 2 rfl) ?_
  refine w_gI (r := a4) (ci := 3) (k := 2) C w rfl (by decide) (GF_wsX20 _) (by decide) rfl (List.mem_cons_of_mem _ gw_43_6) rfl dX11_against_49 hE (fun v1 e1 => ?_)
  refine lv_ineg hx hb dX11_against_52 ?_
  refine w_icmp_lt (tgt := 71) C dX11_against_53 (by decide) e1 (fun hc e2 => ?_) (fun hc e2 => ?_)
  · exact b_K_against_71 C hst hxt N n0 s0 hn0   _ _ h  _ _ ls w hsl (lv_sub hl [] rfl) e2
  · refine lv_iload_n hx hb dX11_against_56 rfl (lv_at hl 0 rfl) ?_
    refine w_aload C dX11_against_57 (lv_at hl 2 rfl) ?_
    refine w_gI (r := a4) (ci := 3) (k := 3) C w rfl (by decide) (GF_wsX20 _) (by decide) rfl (List.mem_cons_of_mem _ gw_35_23) rfl dX11_against_59 e2 (fun v2 e3 => ?_)
    refine w_aload C dX11_against_62 (lv_at hl 2 rfl) ?_
    refine w_gI (r := a4) (ci := 3) (k := 2) C w rfl (by decide) (GF_wsX20 _) (by decide) rfl (List.mem_cons_of_mem _ gw_43_6) rfl dX11_against_64 e3 (fun v3 e4 => ?_)
    refine lv_isub hx hb dX11_against_67 ?_
    refine w_icmp_le (tgt := 75) C dX11_against_68 (by decide) e4 (fun hc e5 => ?_) (fun hc e5 => ?_)
    · refine w_aload C dX11_against_75 (lv_at hl 2 rfl) ?_
      refine lv_iload_n hx hb dX11_against_77 rfl (lv_at hl 0 rfl) ?_
      refine w_VI GW_good (n := 1) (F := 3) (Lc := 66) (o := a4) (av := [.int x2]) (rest := []) C w rfl (by decide) (fun a r g hf => k_Curve_nearestToZero l D cy z N h a x2 r g hf) gw_36_23 gw_37_0 gw_37_1 gw_2_22 gw_37_2 (by decide +kernel) ⟨Nat.le_of_ble_eq_true rfl, Nat.le_of_ble_eq_true rfl⟩ rfl hl.1 rfl (Nat.le_of_ble_eq_true rfl) dX11_against_78 (fun a => (sh_Curve_nearestToZero N h a x2)) ⟨hcc.1, hcc.2⟩ e5 (fun v4 h5 H locs w hsh5 e6 => ?_)
      have hsl := hsh5.2.2.2.trans hsl
      refine lv_istore (lv' := [(5, .int v4), (2, .int x2), (3, .int x3), (4, va_rf a4)]) hx hb dX11_against_81 hl (by decide) (by cases a4 <;> rfl) (fun ls hl => ?_)
      refine lv_iload_n hx hb dX11_against_83 rfl (lv_at hl 2 rfl) ?_
      refine w_if_ne (tgt := 104) C dX11_against_84 (by decide) e6 (fun hc e7 => ?_) (fun hc e7 => ?_)
      · refine lv_iload hx hb dX11_against_104 (lv_at hl 0 rfl) ?_
        refine lv_i2l hx hb dX11_against_106 rfl ?_
        exact b_K_against_107 C hst hxt N n0 s0 hn0   _ _ h5 v4.toInt64 _ _ ls w hsl (lv_sub hl [] rfl) e7
      · refine lv_iload_n hx hb dX11_against_87 rfl (lv_at hl 1 rfl) ?_
        refine lv_i2l hx hb dX11_against_88 rfl ?_
        refine lv_iload hx hb dX11_against_89 (lv_at hl 0 rfl) ?_
        refine lv_i2l hx hb dX11_against_91 rfl ?_
        refine lv_lmul hx hb dX11_against_92 ?_
        refine w_aload C dX11_against_93 (lv_at hl 3 rfl) ?_
        refine lv_iload hx hb dX11_against_95 (lv_at hl 0 rfl) ?_
        refine w_VJ GW_good (n := 1) (F := 1) (Lc := 44) (o := a4) (av := [.int v4]) (rest := [.long (x2.toInt64 * v4.toInt64)]) C w rfl (by decide) (fun a r g hf => k_Curve_valueAt l D cy z N h5 a v4 r g hf) gw_34_17 gw_22_1 gw_22_2 gw_2_22 gw_22_3 (by decide +kernel) ⟨Nat.le_of_ble_eq_true rfl, Nat.le_of_ble_eq_true rfl⟩ rfl hl.1 rfl (Nat.le_of_ble_eq_true rfl) dX11_against_97 (fun a => (sh_Curve_valueAt N h5 a v4)) ⟨hcc.1, hcc.2⟩ e7 (fun v6 h7 H locs w hsh7 e8 => ?_)
        have hsl := hsh7.2.2.2.trans hsl
        refine lv_lsub hx hb dX11_against_100 ?_
        refine lv_goto (tgt := 107) hx hb dX11_against_101 (by decide) ?_
        exact b_K_against_107 C hst hxt N n0 s0 hn0   _ _ h7 ((x2.toInt64 * v4.toInt64) - v6) _ _ ls w hsl (lv_sub hl [] rfl) e8
    · exact b_K_against_71 C hst hxt N n0 s0 hn0   _ _ h  _ _ ls w hsl (lv_sub hl [] rfl) e5
set_option maxRecDepth 20000 in
set_option maxHeartbeats 4000000 in
theorem b_K_against_43 {p : Program} {l : Launch} {e : Env} {s : State} {m : MethodId} {args : Array Value} {below : List Frame} {meth : Method} {c : Code} {D : va_G} {cy : cyT} {z : Nat} (C : MX p s m args meth c cX11_against 6 ((some .long)) RX11 (Cond.code yX11_against cX11_against 6 ((some .long)) :: GW)) (hst : l.stackTraces = false) (hxt : ∀ x ∈ c.exceptionTable.toList, False) (N : Nat) (n0 s0 : Nat) (hn0 : s.heap.size = n0) {r : (Int64 ⊕ Nat)} {g : hS}  : ∀  (cells slots : Nat) (h : hS) (x2 : Int32) (x3 : Int32) (a4 : Option Nat) (y0 : Int32) (H : Heap) (locs : List Loc) (ls : Array Slot), wd D cy z s cells h H locs → h_s h = s0 + slots → lv_has ls 6 [(2, .int x2), (3, .int x3), (4, va_rf a4)] → f_K_against_43 N   h x2 x3 a4 y0 = some (r, g) → W p l e { frames := 9, cells := h_x g - n0, slots := h_s g - s0, locals := 143 } s m args below meth c H locs cells slots (eT D cy z rJ r g below args s (h_x g - n0) (h_s g - s0)) (F0 m 43 ls [.int y0]) := by
  obtain ⟨hx, hb, hr, hml, hown, hts, hlk⟩ := id C
  intro cells slots h x2 x3 a4 y0 H locs ls w hsl hl hE
  have hcc : cells ≤ h_x g - n0 ∧ slots ≤ h_s g - s0 := by
    have q1 := mo_K_against_43 N  h x2 x3 a4 y0 _ _ hE
    have q2 := wd_x w
    have q3 := q1.1
    have q4 := q1.2.1
    omega
  unfold f_K_against_43 at hE
  refine w_STV GW_good (n := 1) (F := 6) (Lc := 82) (av := [.int y0]) (rest := []) hxt hn0 hsl C w (fun r g hf => k_K_needFit l hst D cy z N h y0 r g hf) gw_9_20 gw_9_21 gw_1_2 gw_9_22 (by decide +kernel) ⟨Nat.le_of_ble_eq_true rfl, Nat.le_of_ble_eq_true rfl⟩ rfl hl.1 rfl (Nat.le_of_ble_eq_true rfl) dX11_against_43 (mo_K_needFit N h y0) (fun v1 h2 => mo_K_against_46 N   h2 x2 x3 a4) hE (fun v1 h2 H locs w hsh2 e1 => ?_)
  exact b_K_against_46 C hst hxt N n0 s0 hn0   _ _ h2 x2 x3 a4 _ _ ls w (by have u5 := hsh2.2.1; have u8 := hsl; omega) (lv_sub hl [0, 1, 2] rfl) e1
set_option maxRecDepth 20000 in
set_option maxHeartbeats 4000000 in
theorem b_K_against_42 {p : Program} {l : Launch} {e : Env} {s : State} {m : MethodId} {args : Array Value} {below : List Frame} {meth : Method} {c : Code} {D : va_G} {cy : cyT} {z : Nat} (C : MX p s m args meth c cX11_against 6 ((some .long)) RX11 (Cond.code yX11_against cX11_against 6 ((some .long)) :: GW)) (hst : l.stackTraces = false) (hxt : ∀ x ∈ c.exceptionTable.toList, False) (N : Nat) (n0 s0 : Nat) (hn0 : s.heap.size = n0) {r : (Int64 ⊕ Nat)} {g : hS}  : ∀  (cells slots : Nat) (h : hS) (x2 : Int32) (x3 : Int32) (a4 : Option Nat) (H : Heap) (locs : List Loc) (ls : Array Slot), wd D cy z s cells h H locs → h_s h = s0 + slots → lv_has ls 6 [(2, .int x2), (3, .int x3), (4, va_rf a4)] → f_K_against_42 N   h x2 x3 a4 = some (r, g) → W p l e { frames := 9, cells := h_x g - n0, slots := h_s g - s0, locals := 143 } s m args below meth c H locs cells slots (eT D cy z rJ r g below args s (h_x g - n0) (h_s g - s0)) (F0 m 42 ls []) := by
  obtain ⟨hx, hb, hr, hml, hown, hts, hlk⟩ := id C
  intro cells slots h x2 x3 a4 H locs ls w hsl hl hE
  have hcc : cells ≤ h_x g - n0 ∧ slots ≤ h_s g - s0 := by
    have q1 := mo_K_against_42 N  h x2 x3 a4 _ _ hE
    have q2 := wd_x w
    have q3 := q1.1
    have q4 := q1.2.1
    omega
  unfold f_K_against_42 at hE
  refine lv_iconst (v := 0) hx hb dX11_against_42 (by decide) ?_
  exact b_K_against_43 C hst hxt N n0 s0 hn0   _ _ h x2 x3 a4 (0 : Int32) _ _ ls w hsl (lv_sub hl [0, 1, 2] rfl) hE
set_option maxRecDepth 20000 in
set_option maxHeartbeats 4000000 in
theorem b_K_against_24 {p : Program} {l : Launch} {e : Env} {s : State} {m : MethodId} {args : Array Value} {below : List Frame} {meth : Method} {c : Code} {D : va_G} {cy : cyT} {z : Nat} (C : MX p s m args meth c cX11_against 6 ((some .long)) RX11 (Cond.code yX11_against cX11_against 6 ((some .long)) :: GW)) (hst : l.stackTraces = false) (hxt : ∀ x ∈ c.exceptionTable.toList, False) (N : Nat) (n0 s0 : Nat) (hn0 : s.heap.size = n0) {r : (Int64 ⊕ Nat)} {g : hS}  : ∀  (cells slots : Nat) (h : hS) (x2 : Int32) (x3 : Int32) (a4 : Option Nat) (H : Heap) (locs : List Loc) (ls : Array Slot), wd D cy z s cells h H locs → h_s h = s0 + slots → lv_has ls 6 [(2, .int x2), (3, .int x3), (4, va_rf a4)] → f_K_against_24 N   h x2 x3 a4 = some (r, g) → W p l e { frames := 9, cells := h_x g - n0, slots := h_s g - s0, locals := 143 } s m args below meth c H locs cells slots (eT D cy z rJ r g below args s (h_x g - n0) (h_s g - s0)) (F0 m 24 ls []) := by
  obtain ⟨hx, hb, hr, hml, hown, hts, hlk⟩ := id C
  intro cells slots h x2 x3 a4 H locs ls w hsl hl hE
  have hcc : cells ≤ h_x g - n0 ∧ slots ≤ h_s g - s0 := by
    have q1 := mo_K_against_24 N  h x2 x3 a4 _ _ hE
    have q2 := wd_x w
    have q3 := q1.1
    have q4 := q1.2.1
    omega
  unfold f_K_against_24 at hE
  refine lv_iload_n hx hb dX11_against_24 rfl (lv_at hl 0 rfl) ?_
  refine lv_sipush (v := -200) hx hb dX11_against_25 (by decide) ?_
  refine w_icmp_lt (tgt := 42) C dX11_against_28 (by decide) hE (fun hc e1 => ?_) (fun hc e1 => ?_)
  · exact b_K_against_42 C hst hxt N n0 s0 hn0   _ _ h x2 x3 a4 _ _ ls w hsl (lv_sub hl [0, 1, 2] rfl) e1
  · refine lv_iload_n hx hb dX11_against_31 rfl (lv_at hl 0 rfl) ?_
    refine lv_sipush (v := 200) hx hb dX11_against_32 (by decide) ?_
    refine w_icmp_gt (tgt := 42) C dX11_against_35 (by decide) e1 (fun hc e2 => ?_) (fun hc e2 => ?_)
    · exact b_K_against_42 C hst hxt N n0 s0 hn0   _ _ h x2 x3 a4 _ _ ls w hsl (lv_sub hl [0, 1, 2] rfl) e2
    · refine lv_iconst (v := 1) hx hb dX11_against_38 (by decide) ?_
      refine lv_goto (tgt := 43) hx hb dX11_against_39 (by decide) ?_
      exact b_K_against_43 C hst hxt N n0 s0 hn0   _ _ h x2 x3 a4 (1 : Int32) _ _ ls w hsl (lv_sub hl [0, 1, 2] rfl) e2
set_option maxRecDepth 20000 in
set_option maxHeartbeats 4000000 in
theorem b_K_against_21 {p : Program} {l : Launch} {e : Env} {s : State} {m : MethodId} {args : Array Value} {below : List Frame} {meth : Method} {c : Code} {D : va_G} {cy : cyT} {z : Nat} (C : MX p s m args meth c cX11_against 6 ((some .long)) RX11 (Cond.code yX11_against cX11_against 6 ((some .long)) :: GW)) (hst : l.stackTraces = false) (hxt : ∀ x ∈ c.exceptionTable.toList, False) (N : Nat) (n0 s0 : Nat) (hn0 : s.heap.size = n0) {r : (Int64 ⊕ Nat)} {g : hS}  : ∀  (cells slots : Nat) (h : hS) (x2 : Int32) (x3 : Int32) (a4 : Option Nat) (y0 : Int32) (H : Heap) (locs : List Loc) (ls : Array Slot), wd D cy z s cells h H locs → h_s h = s0 + slots → lv_has ls 6 [(2, .int x2), (3, .int x3), (4, va_rf a4)] → f_K_against_21 N   h x2 x3 a4 y0 = some (r, g) → W p l e { frames := 9, cells := h_x g - n0, slots := h_s g - s0, locals := 143 } s m args below meth c H locs cells slots (eT D cy z rJ r g below args s (h_x g - n0) (h_s g - s0)) (F0 m 21 ls [.int y0]) := by
  obtain ⟨hx, hb, hr, hml, hown, hts, hlk⟩ := id C
  intro cells slots h x2 x3 a4 y0 H locs ls w hsl hl hE
  have hcc : cells ≤ h_x g - n0 ∧ slots ≤ h_s g - s0 := by
    have q1 := mo_K_against_21 N  h x2 x3 a4 y0 _ _ hE
    have q2 := wd_x w
    have q3 := q1.1
    have q4 := q1.2.1
    omega
  unfold f_K_against_21 at hE
  refine w_STV GW_good (n := 1) (F := 6) (Lc := 82) (av := [.int y0]) (rest := []) hxt hn0 hsl C w (fun r g hf => k_K_needSuch l hst D cy z N h y0 r g hf) gw_9_15 gw_9_16 gw_1_2 gw_9_17 (by decide +kernel) ⟨Nat.le_of_ble_eq_true rfl, Nat.le_of_ble_eq_true rfl⟩ rfl hl.1 rfl (Nat.le_of_ble_eq_true rfl) dX11_against_21 (mo_K_needSuch N h y0) (fun v1 h2 => mo_K_against_24 N   h2 x2 x3 a4) hE (fun v1 h2 H locs w hsh2 e1 => ?_)
  exact b_K_against_24 C hst hxt N n0 s0 hn0   _ _ h2 x2 x3 a4 _ _ ls w (by have u5 := hsh2.2.1; have u8 := hsl; omega) (lv_sub hl [0, 1, 2] rfl) e1
set_option maxRecDepth 20000 in
set_option maxHeartbeats 4000000 in
theorem b_K_against_16 {p : Program} {l : Launch} {e : Env} {s : State} {m : MethodId} {args : Array Value} {below : List Frame} {meth : Method} {c : Code} {D : va_G} {cy : cyT} {z : Nat} (C : MX p s m args meth c cX11_against 6 ((some .long)) RX11 (Cond.code yX11_against cX11_against 6 ((some .long)) :: GW)) (hst : l.stackTraces = false) (hxt : ∀ x ∈ c.exceptionTable.toList, False) (N : Nat) (n0 s0 : Nat) (hn0 : s.heap.size = n0) {r : (Int64 ⊕ Nat)} {g : hS}  : ∀  (cells slots : Nat) (h : hS) (x2 : Int32) (x3 : Int32) (a4 : Option Nat) (H : Heap) (locs : List Loc) (ls : Array Slot), wd D cy z s cells h H locs → h_s h = s0 + slots → lv_has ls 6 [(2, .int x2), (3, .int x3), (4, va_rf a4)] → f_K_against_16 N   h x2 x3 a4 = some (r, g) → W p l e { frames := 9, cells := h_x g - n0, slots := h_s g - s0, locals := 143 } s m args below meth c H locs cells slots (eT D cy z rJ r g below args s (h_x g - n0) (h_s g - s0)) (F0 m 16 ls []) := by
  obtain ⟨hx, hb, hr, hml, hown, hts, hlk⟩ := id C
  intro cells slots h x2 x3 a4 H locs ls w hsl hl hE
  have hcc : cells ≤ h_x g - n0 ∧ slots ≤ h_s g - s0 := by
    have q1 := mo_K_against_16 N  h x2 x3 a4 _ _ hE
    have q2 := wd_x w
    have q3 := q1.1
    have q4 := q1.2.1
    omega
  unfold f_K_against_16 at hE
  refine lv_iconst (v := 1) hx hb dX11_against_16 (by decide) ?_
  refine lv_goto (tgt := 21) hx hb dX11_against_17 (by decide) ?_
  exact b_K_against_21 C hst hxt N n0 s0 hn0   _ _ h x2 x3 a4 (1 : Int32) _ _ ls w hsl (lv_sub hl [0, 1, 2] rfl) hE
set_option maxRecDepth 20000 in
set_option maxHeartbeats 4000000 in
theorem b_K_against_5 {p : Program} {l : Launch} {e : Env} {s : State} {m : MethodId} {args : Array Value} {below : List Frame} {meth : Method} {c : Code} {D : va_G} {cy : cyT} {z : Nat} (C : MX p s m args meth c cX11_against 6 ((some .long)) RX11 (Cond.code yX11_against cX11_against 6 ((some .long)) :: GW)) (hst : l.stackTraces = false) (hxt : ∀ x ∈ c.exceptionTable.toList, False) (N : Nat) (n0 s0 : Nat) (hn0 : s.heap.size = n0) {r : (Int64 ⊕ Nat)} {g : hS}  : ∀  (cells slots : Nat) (h : hS) (x2 : Int32) (x3 : Int32) (y0 : Option Nat) (H : Heap) (locs : List Loc) (ls : Array Slot), wd D cy z s cells h H locs → h_s h = s0 + slots → lv_has ls 6 [(2, .int x2), (3, .int x3)] → f_K_against_5 N   h x2 x3 y0 = some (r, g) → W p l e { frames := 9, cells := h_x g - n0, slots := h_s g - s0, locals := 143 } s m args below meth c H locs cells slots (eT D cy z rJ r g below args s (h_x g - n0) (h_s g - s0)) (F0 m 5 ls [va_rf y0]) := by
  obtain ⟨hx, hb, hr, hml, hown, hts, hlk⟩ := id C
  intro cells slots h x2 x3 y0 H locs ls w hsl hl hE
  have hcc : cells ≤ h_x g - n0 ∧ slots ≤ h_s g - s0 := by
    have q1 := mo_K_against_5 N  h x2 x3 y0 _ _ hE
    have q2 := wd_x w
    have q3 := q1.1
    have q4 := q1.2.1
    omega
  unfold f_K_against_5 at hE
  refine w_astore (r := y0) (lv' := [(4, va_rf y0), (2, .int x2), (3, .int x3)]) C dX11_against_5 hl (by decide) rfl (fun ls hl => ?_)
  refine lv_iload_n hx hb dX11_against_7 rfl (lv_at hl 2 rfl) ?_
  refine w_if_eq (tgt := 16) C dX11_against_8 (by decide) hE (fun hc e1 => ?_) (fun hc e1 => ?_)
  · exact b_K_against_16 C hst hxt N n0 s0 hn0   _ _ h x2 x3 y0 _ _ ls w hsl (lv_sub hl [1, 2, 0] rfl) e1
  · refine lv_iload_n hx hb dX11_against_11 rfl (lv_at hl 2 rfl) ?_
    refine lv_iconst (v := 1) hx hb dX11_against_12 (by decide) ?_
    refine w_icmp_ne (tgt := 20) C dX11_against_13 (by decide) e1 (fun hc e2 => ?_) (fun hc e2 => ?_)
    · refine lv_iconst (v := 0) hx hb dX11_against_20 (by decide) ?_
      exact b_K_against_21 C hst hxt N n0 s0 hn0   _ _ h x2 x3 y0 (0 : Int32) _ _ ls w hsl (lv_sub hl [1, 2, 0] rfl) e2
    · exact b_K_against_16 C hst hxt N n0 s0 hn0   _ _ h x2 x3 y0 _ _ ls w hsl (lv_sub hl [1, 2, 0] rfl) e2
set_option maxRecDepth 20000 in
set_option maxHeartbeats 4000000 in
theorem k_K_against (l : Launch) (hst : l.stackTraces = false) (D : va_G) (cy : cyT) (z : Nat) (N : Nat) (h : hS) (th : Nat) (x1 : Int32) (x2 : Int32) (x3 : Int32) (r : (Int64 ⊕ Nat)) (g : hS) (hE : f_K_against N h th x1 x2 x3 = some (r, g)) : ctT l yX11_against (Cond.code yX11_against cX11_against 6 ((some .long)) :: GW) { frames := 9, cells := h_x g - h_x h, slots := h_s g - h_s h, locals := 143 } D cy z h [.ref th, .int x1, .int x2, .int x3] rJ r g := by
  refine ctT_of (cc := cX11_against) (maxL := 6) (ret := (some .long)) (by decide) ?_
  intro p e s m args below meth c s₁ B hml hxt hv
  obtain ⟨rfl, hw⟩ := hv
  have C : MX p s m ([.ref th, .int x1, .int x2, .int x3] : List Value).toArray meth c cX11_against 6 ((some .long)) RX11 (Cond.code yX11_against cX11_against 6 ((some .long)) :: GW) := ⟨B.exec, B.bytes, B.returns, hml, findClass_of_methodNamed B.named, atoms_spec (ws := Cond.code yX11_against cX11_against 6 ((some .long)) :: GW) B.pre, B.notSynchronized⟩
  obtain ⟨hx, hb, hr, hml, hown, hts, hlk⟩ := id C
  have w := wd_of hw
  have hsl : h_s h = h_s h + 0 := rfl
  have hn0 : s.heap.size = h_x h := (wd_x w).1
  obtain ⟨ls, hen, hl⟩ : ∃ ls : Array Slot, entryFrame m ([.ref th, .int x1, .int x2, .int x3] : List Value).toArray 6 = F0 m 0 ls [] ∧ lv_has ls 6 [(0, .ref th), (1, .int x1), (2, .int x2), (3, .int x3)] := by
    exact ⟨_, lg_entry_eq _ _ _, lv_entry _ (Nat.le_of_ble_eq_true rfl)⟩
  rw [hen]
  have hcc : 0 ≤ h_x g - h_x h ∧ 0 ≤ h_s g - h_s h := ⟨Nat.zero_le _, Nat.zero_le _⟩
  unfold f_K_against at hE
  refine lv_aload_n hx hb dX11_against_0 rfl (lv_at hl 0 rfl) ?_
  refine lv_iload_n hx hb dX11_against_1 rfl (lv_at hl 1 rfl) ?_
  refine w_VTR GW_good (n := 1) (F := 8) (Lc := 122) (ob := some th) (av := [.int x1]) (rest := []) hxt hn0 hsl C w rfl (by decide) (fun a r g hf => k_K_curveOf l hst D cy z N h a x1 r g hf) gw_16_2 gw_16_3 gw_16_4 gw_1_2 gw_16_5 (by decide +kernel) ⟨Nat.le_of_ble_eq_true rfl, Nat.le_of_ble_eq_true rfl⟩ rfl hl.1 rfl (Nat.le_of_ble_eq_true rfl) dX11_against_2 (fun a => (mo_K_curveOf N h a x1)) (fun v1 h2 => mo_K_against_5 N   h2 x2 x3 v1) hE (fun v1 h2 H locs w hsh2 e1 => ?_)
  exact b_K_against_5 C hst hxt N (h_x h) (h_s h) hn0   _ _ h2 x2 x3 v1 _ _ ls w (by have u5 := hsh2.2.1; have u8 := hsl; omega) (lv_sub hl [2, 3] rfl) e1
set_option maxRecDepth 20000 in
set_option maxHeartbeats 4000000 in
theorem b_K_meet_80 {p : Program} {l : Launch} {e : Env} {s : State} {m : MethodId} {args : Array Value} {below : List Frame} {meth : Method} {c : Code} {D : va_G} {cy : cyT} {z : Nat} (C : MX p s m args meth c cX11_meet 5 ((some .int)) RX11 (Cond.code yX11_meet cX11_meet 5 ((some .int)) :: GW)) (hst : l.stackTraces = false) (hxt : ∀ x ∈ c.exceptionTable.toList, False) (N : Nat) (n0 s0 : Nat) (hn0 : s.heap.size = n0) {r : (Int32 ⊕ Nat)} {g : hS} {rc39 : hS → Nat → Int32 → Int32 → Option ((Int32 ⊕ Nat) × hS)} (hsh39 : ∀ (h : hS) (th : Nat) (x3 : Int32) (x4 : Int32), Mo h (rc39 h th x3 x4)) (hrc39 : ∀ (cells slots : Nat) (h : hS) (th : Nat) (x3 : Int32) (x4 : Int32) (H : Heap) (locs : List Loc) (ls : Array Slot), wd D cy z s cells h H locs → h_s h = s0 + slots → lv_has ls 5 [(0, .ref th), (3, .int x3), (4, .int x4)] → rc39 h th x3 x4 = some (r, g) → W p l e { frames := 9, cells := h_x g - n0, slots := h_s g - s0, locals := 143 } s m args below meth c H locs cells slots (eT D cy z rI r g below args s (h_x g - n0) (h_s g - s0)) (F0 m 39 ls [])) : ∀  (cells slots : Nat) (h : hS) (th : Nat) (x3 : Int32) (x4 : Int32) (H : Heap) (locs : List Loc) (ls : Array Slot), wd D cy z s cells h H locs → h_s h = s0 + slots → lv_has ls 5 [(0, .ref th), (3, .int x3), (4, .int x4)] → f_K_meet_80 N rc39  h th x3 x4 = some (r, g) → W p l e { frames := 9, cells := h_x g - n0, slots := h_s g - s0, locals := 143 } s m args below meth c H locs cells slots (eT D cy z rI r g below args s (h_x g - n0) (h_s g - s0)) (F0 m 80 ls []) := by
  obtain ⟨hx, hb, hr, hml, hown, hts, hlk⟩ := id C
  intro cells slots h th x3 x4 H locs ls w hsl hl hE
  have hcc : cells ≤ h_x g - n0 ∧ slots ≤ h_s g - s0 := by
    have q1 := mo_K_meet_80 N hsh39 h th x3 x4 _ _ hE
    have q2 := wd_x w
    have q3 := q1.1
    have q4 := q1.2.1
    omega
  unfold f_K_meet_80 at hE
  refine lv_aload_n hx hb dX11_meet_80 rfl (lv_at hl 0 rfl) ?_
  refine w_gR (r := some th) (ci := 12) (k := 9) C w rfl (by decide) (GF_wsX110 _) (by decide) rfl (List.mem_cons_of_mem _ gw_3_2) rfl dX11_meet_81 hE (fun v1 e1 => ?_)
  refine w_VV GW_good (n := 0) (F := 1) (Lc := 21) (o := v1) (av := []) (rest := []) C w rfl (by decide) (fun a r g hf => k_Walk_goOn l D cy z N h a  r g hf) gw_47_15 gw_47_16 gw_47_17 gw_3_1 gw_47_18 (by decide +kernel) ⟨Nat.le_of_ble_eq_true rfl, Nat.le_of_ble_eq_true rfl⟩ rfl hl.1 rfl (Nat.le_of_ble_eq_true rfl) dX11_meet_84 (fun a => (sh_Walk_goOn N h a )) ⟨hcc.1, hcc.2⟩ e1 (fun v2 h3 H locs w hsh3 e2 => ?_)
  have hsl := hsh3.2.2.2.trans hsl
  refine lv_aload_n hx hb dX11_meet_87 rfl (lv_at hl 0 rfl) ?_
  refine w_gR (r := some th) (ci := 12) (k := 10) C w rfl (by decide) (GF_wsX110 _) (by decide) rfl (List.mem_cons_of_mem _ gw_3_3) rfl dX11_meet_88 e2 (fun v4 e3 => ?_)
  refine w_VV GW_good (n := 0) (F := 1) (Lc := 21) (o := v4) (av := []) (rest := []) C w rfl (by decide) (fun a r g hf => k_Walk_goOn l D cy z N h3 a  r g hf) gw_47_15 gw_47_16 gw_47_17 gw_3_1 gw_47_18 (by decide +kernel) ⟨Nat.le_of_ble_eq_true rfl, Nat.le_of_ble_eq_true rfl⟩ rfl hl.1 rfl (Nat.le_of_ble_eq_true rfl) dX11_meet_91 (fun a => (sh_Walk_goOn N h3 a )) ⟨hcc.1, hcc.2⟩ e3 (fun v5 h6 H locs w hsh6 e4 => ?_)
  have hsl := hsh6.2.2.2.trans hsl
  obtain ⟨v7, ev7, e5⟩ := bn_some e4
  refine lv_iinc (v := v7) (lv' := [(4, .int v7), (0, .ref th), (3, .int x3)]) hx hb dX11_meet_94 hl (k := 2) rfl (by rw [ev7]; rfl) (by decide) rfl (fun ls hl => ?_)
  refine lv_goto (tgt := 39) hx hb dX11_meet_97 (by decide) ?_
  exact hrc39 _ _ h6 th x3 v7 _ _ ls w hsl (lv_sub hl [1, 2, 0] rfl) e5
set_option maxRecDepth 20000 in
set_option maxHeartbeats 4000000 in
theorem b_K_meet_39 {p : Program} {l : Launch} {e : Env} {s : State} {m : MethodId} {args : Array Value} {below : List Frame} {meth : Method} {c : Code} {D : va_G} {cy : cyT} {z : Nat} (C : MX p s m args meth c cX11_meet 5 ((some .int)) RX11 (Cond.code yX11_meet cX11_meet 5 ((some .int)) :: GW)) (hst : l.stackTraces = false) (hxt : ∀ x ∈ c.exceptionTable.toList, False) (N : Nat) (n0 s0 : Nat) (hn0 : s.heap.size = n0) {r : (Int32 ⊕ Nat)} {g : hS}  : ∀ (n : Nat) (cells slots : Nat) (h : hS) (th : Nat) (x3 : Int32) (x4 : Int32) (H : Heap) (locs : List Loc) (ls : Array Slot), wd D cy z s cells h H locs → h_s h = s0 + slots → lv_has ls 5 [(0, .ref th), (3, .int x3), (4, .int x4)] → f_K_meet_39 N  n h th x3 x4 = some (r, g) → W p l e { frames := 9, cells := h_x g - n0, slots := h_s g - s0, locals := 143 } s m args below meth c H locs cells slots (eT D cy z rI r g below args s (h_x g - n0) (h_s g - s0)) (F0 m 39 ls []) := by
  obtain ⟨hx, hb, hr, hml, hown, hts, hlk⟩ := id C
  intro n
  induction n with
  | zero =>
    intro cells slots h th x3 x4 H locs ls w hsl hl hE
    cases hE
  | succ n ih =>
    intro cells slots h th x3 x4 H locs ls w hsl hl hE
    have hcc : cells ≤ h_x g - n0 ∧ slots ≤ h_s g - s0 := by
      have q1 := mo_K_meet_39 N  (n + 1) h th x3 x4 _ _ hE
      have q2 := wd_x w
      have q3 := q1.1
      have q4 := q1.2.1
      omega
    unfold f_K_meet_39 at hE
    refine lv_iload hx hb dX11_meet_39 (lv_at hl 2 rfl) ?_
    refine lv_sipush (v := 1000) hx hb dX11_meet_41 (by decide) ?_
    refine w_icmp_gt (tgt := 100) C dX11_meet_44 (by decide) hE (fun hc e1 => ?_) (fun hc e1 => ?_)
    · refine lv_iload_n hx hb dX11_meet_100 rfl (lv_at hl 1 rfl) ?_
      refine W.widen (k := h_x g - n0) (n := h_s g - s0) hcc.1 hcc.2 ?_
      exact w_iretT C w e1 dX11_meet_101
    · refine lv_aload_n hx hb dX11_meet_47 rfl (lv_at hl 0 rfl) ?_
      refine w_gR (r := some th) (ci := 12) (k := 9) C w rfl (by decide) (GF_wsX110 _) (by decide) rfl (List.mem_cons_of_mem _ gw_3_2) rfl dX11_meet_48 e1 (fun v1 e2 => ?_)
      refine w_gJ (r := v1) (ci := 11) (k := 4) C w rfl (by decide) (GF_wsX100 _) (by decide) rfl (List.mem_cons_of_mem _ gw_47_0) rfl dX11_meet_51 e2 (fun v2 e3 => ?_)
      refine lv_aload_n hx hb dX11_meet_54 rfl (lv_at hl 0 rfl) ?_
      refine w_gR (r := some th) (ci := 12) (k := 10) C w rfl (by decide) (GF_wsX110 _) (by decide) rfl (List.mem_cons_of_mem _ gw_3_3) rfl dX11_meet_55 e3 (fun v3 e4 => ?_)
      refine w_gJ (r := v3) (ci := 11) (k := 4) C w rfl (by decide) (GF_wsX100 _) (by decide) rfl (List.mem_cons_of_mem _ gw_47_0) rfl dX11_meet_58 e4 (fun v4 e5 => ?_)
      refine W.lcmp hx hb dX11_meet_61 ?_
      refine w_if_ne (tgt := 80) C dX11_meet_62 (by decide) e5 (fun hc e6 => ?_) (fun hc e6 => ?_)
      · exact b_K_meet_80 C hst hxt N n0 s0 hn0 (mo_K_meet_39 N  n) ih  _ _ h th x3 x4 _ _ ls w hsl (lv_sub hl [0, 1, 2] rfl) e6
      · refine lv_iload hx hb dX11_meet_65 (lv_at hl 2 rfl) ?_
        refine w_mabs C hl.1 (List.mem_cons_of_mem _ gw_49_16) (List.mem_cons_of_mem _ gw_41_6) (List.mem_cons_of_mem _ gw_10_7) (List.mem_cons_of_mem _ gw_41_7) (Nat.le_of_ble_eq_true rfl) (Nat.le_of_ble_eq_true rfl) hcc.1 hcc.2 dX11_meet_67 ?_
        refine lv_iload_n hx hb dX11_meet_70 rfl (lv_at hl 1 rfl) ?_
        refine w_mabs C hl.1 (List.mem_cons_of_mem _ gw_49_16) (List.mem_cons_of_mem _ gw_41_6) (List.mem_cons_of_mem _ gw_10_7) (List.mem_cons_of_mem _ gw_41_7) (Nat.le_of_ble_eq_true rfl) (Nat.le_of_ble_eq_true rfl) hcc.1 hcc.2 dX11_meet_71 ?_
        refine w_icmp_ge (tgt := 80) C dX11_meet_74 (by decide) e6 (fun hc e7 => ?_) (fun hc e7 => ?_)
        · exact b_K_meet_80 C hst hxt N n0 s0 hn0 (mo_K_meet_39 N  n) ih  _ _ h th x3 x4 _ _ ls w hsl (lv_sub hl [0, 1, 2] rfl) e7
        · refine lv_iload hx hb dX11_meet_77 (lv_at hl 2 rfl) ?_
          refine lv_istore_n (lv' := [(3, .int x4), (0, .ref th), (4, .int x4)]) hx hb dX11_meet_79 rfl hl (by decide) rfl (fun ls hl => ?_)
          exact b_K_meet_80 C hst hxt N n0 s0 hn0 (mo_K_meet_39 N  n) ih  _ _ h th x4 x4 _ _ ls w hsl (lv_sub hl [1, 0, 2] rfl) e7
set_option maxRecDepth 20000 in
set_option maxHeartbeats 4000000 in
theorem b_K_meet_24 {p : Program} {l : Launch} {e : Env} {s : State} {m : MethodId} {args : Array Value} {below : List Frame} {meth : Method} {c : Code} {D : va_G} {cy : cyT} {z : Nat} (C : MX p s m args meth c cX11_meet 5 ((some .int)) RX11 (Cond.code yX11_meet cX11_meet 5 ((some .int)) :: GW)) (hst : l.stackTraces = false) (hxt : ∀ x ∈ c.exceptionTable.toList, False) (N : Nat) (n0 s0 : Nat) (hn0 : s.heap.size = n0) {r : (Int32 ⊕ Nat)} {g : hS}  : ∀  (cells slots : Nat) (h : hS) (th : Nat) (y0 : Option Nat) (y1 : Option Nat) (H : Heap) (locs : List Loc) (ls : Array Slot), wd D cy z s cells h H locs → h_s h = s0 + slots → lv_has ls 5 [(0, .ref th)] → f_K_meet_24 N   h th y0 y1 = some (r, g) → W p l e { frames := 9, cells := h_x g - n0, slots := h_s g - s0, locals := 143 } s m args below meth c H locs cells slots (eT D cy z rI r g below args s (h_x g - n0) (h_s g - s0)) (F0 m 24 ls [va_rf y1, va_rf y0]) := by
  obtain ⟨hx, hb, hr, hml, hown, hts, hlk⟩ := id C
  intro cells slots h th y0 y1 H locs ls w hsl hl hE
  have hcc : cells ≤ h_x g - n0 ∧ slots ≤ h_s g - s0 := by
    have q1 := mo_K_meet_24 N  h th y0 y1 _ _ hE
    have q2 := wd_x w
    have q3 := q1.1
    have q4 := q1.2.1
    omega
  unfold f_K_meet_24 at hE
  refine lv_sipush (v := -1000) hx hb dX11_meet_24 (by decide) ?_
  refine w_VV GW_good (n := 2) (F := 2) (Lc := 73) (o := y0) (av := [va_rf y1, .int (-1000 : Int32)]) (rest := []) C w rfl (by decide) (fun a r g hf => k_Walk_startAt l D cy z N h a y1 (-1000 : Int32) r g hf) gw_47_1 gw_47_2 gw_47_3 gw_3_1 gw_47_4 (by decide +kernel) ⟨Nat.le_of_ble_eq_true rfl, Nat.le_of_ble_eq_true rfl⟩ rfl hl.1 rfl (Nat.le_of_ble_eq_true rfl) dX11_meet_27 (fun a => (sh_Walk_startAt N h a y1 (-1000 : Int32))) ⟨hcc.1, hcc.2⟩ hE (fun v1 h2 H locs w hsh2 e1 => ?_)
  have hsl := hsh2.2.2.2.trans hsl
  refine lv_ldcw hx hb hown (hts _ (List.mem_cons_of_mem _ gw_36_13)) dX11_meet_30 ?_
  refine lv_istore_n (lv' := [(3, .int (-10000000 : Int32)), (0, .ref th)]) hx hb dX11_meet_33 rfl hl (by decide) rfl (fun ls hl => ?_)
  refine lv_sipush (v := -1000) hx hb dX11_meet_34 (by decide) ?_
  refine lv_istore (lv' := [(4, .int (-1000 : Int32)), (3, .int (-10000000 : Int32)), (0, .ref th)]) hx hb dX11_meet_37 hl (by decide) rfl (fun ls hl => ?_)
  exact b_K_meet_39 C hst hxt N n0 s0 hn0  N _ _ h2 th (-10000000 : Int32) (-1000 : Int32) _ _ ls w hsl (lv_sub hl [2, 1, 0] rfl) e1
set_option maxRecDepth 20000 in
set_option maxHeartbeats 4000000 in
theorem b_K_meet_9 {p : Program} {l : Launch} {e : Env} {s : State} {m : MethodId} {args : Array Value} {below : List Frame} {meth : Method} {c : Code} {D : va_G} {cy : cyT} {z : Nat} (C : MX p s m args meth c cX11_meet 5 ((some .int)) RX11 (Cond.code yX11_meet cX11_meet 5 ((some .int)) :: GW)) (hst : l.stackTraces = false) (hxt : ∀ x ∈ c.exceptionTable.toList, False) (N : Nat) (n0 s0 : Nat) (hn0 : s.heap.size = n0) {r : (Int32 ⊕ Nat)} {g : hS}  : ∀  (cells slots : Nat) (h : hS) (th : Nat) (x2 : Int32) (y0 : Option Nat) (y1 : Option Nat) (H : Heap) (locs : List Loc) (ls : Array Slot), wd D cy z s cells h H locs → h_s h = s0 + slots → lv_has ls 5 [(0, .ref th), (2, .int x2)] → f_K_meet_9 N   h th x2 y0 y1 = some (r, g) → W p l e { frames := 9, cells := h_x g - n0, slots := h_s g - s0, locals := 143 } s m args below meth c H locs cells slots (eT D cy z rI r g below args s (h_x g - n0) (h_s g - s0)) (F0 m 9 ls [va_rf y1, va_rf y0]) := by
  obtain ⟨hx, hb, hr, hml, hown, hts, hlk⟩ := id C
  intro cells slots h th x2 y0 y1 H locs ls w hsl hl hE
  have hcc : cells ≤ h_x g - n0 ∧ slots ≤ h_s g - s0 := by
    have q1 := mo_K_meet_9 N  h th x2 y0 y1 _ _ hE
    have q2 := wd_x w
    have q3 := q1.1
    have q4 := q1.2.1
    omega
  unfold f_K_meet_9 at hE
  refine lv_sipush (v := -1000) hx hb dX11_meet_9 (by decide) ?_
  refine w_VV GW_good (n := 2) (F := 2) (Lc := 73) (o := y0) (av := [va_rf y1, .int (-1000 : Int32)]) (rest := []) C w rfl (by decide) (fun a r g hf => k_Walk_startAt l D cy z N h a y1 (-1000 : Int32) r g hf) gw_47_1 gw_47_2 gw_47_3 gw_3_1 gw_47_4 (by decide +kernel) ⟨Nat.le_of_ble_eq_true rfl, Nat.le_of_ble_eq_true rfl⟩ rfl hl.1 rfl (Nat.le_of_ble_eq_true rfl) dX11_meet_12 (fun a => (sh_Walk_startAt N h a y1 (-1000 : Int32))) ⟨hcc.1, hcc.2⟩ hE (fun v1 h2 H locs w hsh2 e1 => ?_)
  have hsl := hsh2.2.2.2.trans hsl
  refine lv_aload_n hx hb dX11_meet_15 rfl (lv_at hl 0 rfl) ?_
  refine w_gR (r := some th) (ci := 12) (k := 10) C w rfl (by decide) (GF_wsX110 _) (by decide) rfl (List.mem_cons_of_mem _ gw_3_3) rfl dX11_meet_16 e1 (fun v3 e2 => ?_)
  refine lv_aload_n hx hb dX11_meet_19 rfl (lv_at hl 0 rfl) ?_
  refine lv_iload_n hx hb dX11_meet_20 rfl (lv_at hl 1 rfl) ?_
  refine w_VTR GW_good (n := 1) (F := 8) (Lc := 122) (ob := some th) (av := [.int x2]) (rest := [va_rf v3]) hxt hn0 hsl C w rfl (by decide) (fun a r g hf => k_K_curveOf l hst D cy z N h2 a x2 r g hf) gw_16_2 gw_16_3 gw_16_4 gw_1_2 gw_16_5 (by decide +kernel) ⟨Nat.le_of_ble_eq_true rfl, Nat.le_of_ble_eq_true rfl⟩ rfl hl.1 rfl (cat_le (Nat.le_of_ble_eq_true rfl)) dX11_meet_21 (fun a => (mo_K_curveOf N h2 a x2)) (fun v4 h5 => mo_K_meet_24 N   h5 th v3 v4) e2 (fun v4 h5 H locs w hsh5 e3 => ?_)
  exact b_K_meet_24 C hst hxt N n0 s0 hn0   _ _ h5 th v3 v4 _ _ ls w (by have u5 := hsh5.2.1; have u8 := hsl; omega) (lv_sub hl [0] rfl) e3
set_option maxRecDepth 20000 in
set_option maxHeartbeats 4000000 in
theorem k_K_meet (l : Launch) (hst : l.stackTraces = false) (D : va_G) (cy : cyT) (z : Nat) (N : Nat) (h : hS) (th : Nat) (x1 : Int32) (x2 : Int32) (r : (Int32 ⊕ Nat)) (g : hS) (hE : f_K_meet N h th x1 x2 = some (r, g)) : ctT l yX11_meet (Cond.code yX11_meet cX11_meet 5 ((some .int)) :: GW) { frames := 9, cells := h_x g - h_x h, slots := h_s g - h_s h, locals := 143 } D cy z h [.ref th, .int x1, .int x2] rI r g := by
  refine ctT_of (cc := cX11_meet) (maxL := 5) (ret := (some .int)) (by decide) ?_
  intro p e s m args below meth c s₁ B hml hxt hv
  obtain ⟨rfl, hw⟩ := hv
  have C : MX p s m ([.ref th, .int x1, .int x2] : List Value).toArray meth c cX11_meet 5 ((some .int)) RX11 (Cond.code yX11_meet cX11_meet 5 ((some .int)) :: GW) := ⟨B.exec, B.bytes, B.returns, hml, findClass_of_methodNamed B.named, atoms_spec (ws := Cond.code yX11_meet cX11_meet 5 ((some .int)) :: GW) B.pre, B.notSynchronized⟩
  obtain ⟨hx, hb, hr, hml, hown, hts, hlk⟩ := id C
  have w := wd_of hw
  have hsl : h_s h = h_s h + 0 := rfl
  have hn0 : s.heap.size = h_x h := (wd_x w).1
  obtain ⟨ls, hen, hl⟩ : ∃ ls : Array Slot, entryFrame m ([.ref th, .int x1, .int x2] : List Value).toArray 5 = F0 m 0 ls [] ∧ lv_has ls 5 [(0, .ref th), (1, .int x1), (2, .int x2)] := by
    exact ⟨_, lg_entry_eq _ _ _, lv_entry _ (Nat.le_of_ble_eq_true rfl)⟩
  rw [hen]
  have hcc : 0 ≤ h_x g - h_x h ∧ 0 ≤ h_s g - h_s h := ⟨Nat.zero_le _, Nat.zero_le _⟩
  unfold f_K_meet at hE
  refine lv_aload_n hx hb dX11_meet_0 rfl (lv_at hl 0 rfl) ?_
  refine w_gR (r := some th) (ci := 12) (k := 9) C w rfl (by decide) (GF_wsX110 _) (by decide) rfl (List.mem_cons_of_mem _ gw_3_2) rfl dX11_meet_1 hE (fun v1 e1 => ?_)
  refine lv_aload_n hx hb dX11_meet_4 rfl (lv_at hl 0 rfl) ?_
  refine lv_iload_n hx hb dX11_meet_5 rfl (lv_at hl 1 rfl) ?_
  refine w_VTR GW_good (n := 1) (F := 8) (Lc := 122) (ob := some th) (av := [.int x1]) (rest := [va_rf v1]) hxt hn0 hsl C w rfl (by decide) (fun a r g hf => k_K_curveOf l hst D cy z N h a x1 r g hf) gw_16_2 gw_16_3 gw_16_4 gw_1_2 gw_16_5 (by decide +kernel) ⟨Nat.le_of_ble_eq_true rfl, Nat.le_of_ble_eq_true rfl⟩ rfl hl.1 rfl (cat_le (Nat.le_of_ble_eq_true rfl)) dX11_meet_6 (fun a => (mo_K_curveOf N h a x1)) (fun v2 h3 => mo_K_meet_9 N   h3 th x2 v1 v2) e1 (fun v2 h3 H locs w hsh3 e2 => ?_)
  exact b_K_meet_9 C hst hxt N (h_x h) (h_s h) hn0   _ _ h3 th x2 v1 v2 _ _ ls w (by have u5 := hsh3.2.1; have u8 := hsl; omega) (lv_sub hl [0, 2] rfl) e2
set_option maxRecDepth 20000 in
set_option maxHeartbeats 4000000 in
theorem b_K_heaviest_102 {p : Program} {l : Launch} {e : Env} {s : State} {m : MethodId} {args : Array Value} {below : List Frame} {meth : Method} {c : Code} {D : va_G} {cy : cyT} {z : Nat} (C : MX p s m args meth c cX11_heaviest 6 ((some .int)) RX11 (Cond.code yX11_heaviest cX11_heaviest 6 ((some .int)) :: GW)) (hst : l.stackTraces = false) (hxt : ∀ x ∈ c.exceptionTable.toList, False) (N : Nat) (n0 s0 : Nat) (hn0 : s.heap.size = n0) {r : (Int32 ⊕ Nat)} {g : hS} {rc63 : hS → Nat → Int32 → Int32 → Option Nat → Int32 → Option ((Int32 ⊕ Nat) × hS)} (hsh63 : ∀ (h : hS) (th : Nat) (x2 : Int32) (x3 : Int32) (a4 : Option Nat) (x5 : Int32), Mo h (rc63 h th x2 x3 a4 x5)) (hrc63 : ∀ (cells slots : Nat) (h : hS) (th : Nat) (x2 : Int32) (x3 : Int32) (a4 : Option Nat) (x5 : Int32) (H : Heap) (locs : List Loc) (ls : Array Slot), wd D cy z s cells h H locs → h_s h = s0 + slots → lv_has ls 6 [(0, .ref th), (2, .int x2), (3, .int x3), (4, va_rf a4), (5, .int x5)] → rc63 h th x2 x3 a4 x5 = some (r, g) → W p l e { frames := 10, cells := h_x g - n0, slots := h_s g - s0, locals := 167 } s m args below meth c H locs cells slots (eT D cy z rI r g below args s (h_x g - n0) (h_s g - s0)) (F0 m 63 ls [])) : ∀  (cells slots : Nat) (h : hS) (th : Nat) (x2 : Int32) (x3 : Int32) (a4 : Option Nat) (x5 : Int32) (H : Heap) (locs : List Loc) (ls : Array Slot), wd D cy z s cells h H locs → h_s h = s0 + slots → lv_has ls 6 [(0, .ref th), (2, .int x2), (3, .int x3), (4, va_rf a4), (5, .int x5)] → f_K_heaviest_102 N rc63  h th x2 x3 a4 x5 = some (r, g) → W p l e { frames := 10, cells := h_x g - n0, slots := h_s g - s0, locals := 167 } s m args below meth c H locs cells slots (eT D cy z rI r g below args s (h_x g - n0) (h_s g - s0)) (F0 m 102 ls []) := by
  obtain ⟨hx, hb, hr, hml, hown, hts, hlk⟩ := id C
  intro cells slots h th x2 x3 a4 x5 H locs ls w hsl hl hE
  have hcc : cells ≤ h_x g - n0 ∧ slots ≤ h_s g - s0 := by
    have q1 := mo_K_heaviest_102 N hsh63 h th x2 x3 a4 x5 _ _ hE
    have q2 := wd_x w
    have q3 := q1.1
    have q4 := q1.2.1
    omega
  unfold f_K_heaviest_102 at hE
  obtain ⟨v1, ev1, e1⟩ := bn_some hE
  refine lv_iinc (v := v1) (lv' := [(5, .int v1), (0, .ref th), (2, .int x2), (3, .int x3), (4, va_rf a4)]) hx hb dX11_heaviest_102 hl (k := 4) rfl (by rw [ev1]; rfl) (by decide) (by cases a4 <;> rfl) (fun ls hl => ?_)
  refine lv_goto (tgt := 63) hx hb dX11_heaviest_105 (by decide) ?_
  exact hrc63 _ _ h th x2 x3 a4 v1 _ _ ls w hsl (lv_sub hl [1, 2, 3, 4, 0] rfl) e1
set_option maxRecDepth 20000 in
set_option maxHeartbeats 4000000 in
theorem b_K_heaviest_80 {p : Program} {l : Launch} {e : Env} {s : State} {m : MethodId} {args : Array Value} {below : List Frame} {meth : Method} {c : Code} {D : va_G} {cy : cyT} {z : Nat} (C : MX p s m args meth c cX11_heaviest 6 ((some .int)) RX11 (Cond.code yX11_heaviest cX11_heaviest 6 ((some .int)) :: GW)) (hst : l.stackTraces = false) (hxt : ∀ x ∈ c.exceptionTable.toList, False) (N : Nat) (n0 s0 : Nat) (hn0 : s.heap.size = n0) {r : (Int32 ⊕ Nat)} {g : hS} {rc63 : hS → Nat → Int32 → Int32 → Option Nat → Int32 → Option ((Int32 ⊕ Nat) × hS)} (hsh63 : ∀ (h : hS) (th : Nat) (x2 : Int32) (x3 : Int32) (a4 : Option Nat) (x5 : Int32), Mo h (rc63 h th x2 x3 a4 x5)) (hrc63 : ∀ (cells slots : Nat) (h : hS) (th : Nat) (x2 : Int32) (x3 : Int32) (a4 : Option Nat) (x5 : Int32) (H : Heap) (locs : List Loc) (ls : Array Slot), wd D cy z s cells h H locs → h_s h = s0 + slots → lv_has ls 6 [(0, .ref th), (2, .int x2), (3, .int x3), (4, va_rf a4), (5, .int x5)] → rc63 h th x2 x3 a4 x5 = some (r, g) → W p l e { frames := 10, cells := h_x g - n0, slots := h_s g - s0, locals := 167 } s m args below meth c H locs cells slots (eT D cy z rI r g below args s (h_x g - n0) (h_s g - s0)) (F0 m 63 ls [])) : ∀  (cells slots : Nat) (h : hS) (th : Nat) (x2 : Int32) (x3 : Int32) (a4 : Option Nat) (x5 : Int32) (y0 : Int32) (H : Heap) (locs : List Loc) (ls : Array Slot), wd D cy z s cells h H locs → h_s h = s0 + slots → lv_has ls 6 [(0, .ref th), (2, .int x2), (3, .int x3), (4, va_rf a4), (5, .int x5)] → f_K_heaviest_80 N rc63  h th x2 x3 a4 x5 y0 = some (r, g) → W p l e { frames := 10, cells := h_x g - n0, slots := h_s g - s0, locals := 167 } s m args below meth c H locs cells slots (eT D cy z rI r g below args s (h_x g - n0) (h_s g - s0)) (F0 m 80 ls [.int y0]) := by
  obtain ⟨hx, hb, hr, hml, hown, hts, hlk⟩ := id C
  intro cells slots h th x2 x3 a4 x5 y0 H locs ls w hsl hl hE
  have hcc : cells ≤ h_x g - n0 ∧ slots ≤ h_s g - s0 := by
    have q1 := mo_K_heaviest_80 N hsh63 h th x2 x3 a4 x5 y0 _ _ hE
    have q2 := wd_x w
    have q3 := q1.1
    have q4 := q1.2.1
    omega
  unfold f_K_heaviest_80 at hE
  refine w_if_eq (tgt := 102) C dX11_heaviest_80 (by decide) hE (fun hc e1 => ?_) (fun hc e1 => ?_)
  · exact b_K_heaviest_102 C hst hxt N n0 s0 hn0 hsh63 hrc63  _ _ h th x2 x3 a4 x5 _ _ ls w hsl (lv_sub hl [0, 1, 2, 3, 4] rfl) e1
  · refine lv_aload_n hx hb dX11_heaviest_83 rfl (lv_at hl 0 rfl) ?_
    refine w_gR (r := some th) (ci := 12) (k := 4) C w rfl (by decide) (GF_wsX110 _) (by decide) rfl (List.mem_cons_of_mem _ gw_2_1) rfl dX11_heaviest_84 e1 (fun v1 e2 => ?_)
    refine w_gR (r := v1) (ci := 1) (k := 0) C w rfl (by decide) (GF_wsX00 _) (by decide) rfl (List.mem_cons_of_mem _ gw_23_9) rfl dX11_heaviest_87 e2 (fun v2 e3 => ?_)
    refine w_gJ (r := v2) (ci := 3) (k := 4) C w rfl (by decide) (GF_wsX20 _) (by decide) rfl (List.mem_cons_of_mem _ gw_35_10) rfl dX11_heaviest_90 e3 (fun v3 e4 => ?_)
    refine lv_iload_n hx hb dX11_heaviest_93 rfl (lv_at hl 2 rfl) ?_
    refine lv_i2l hx hb dX11_heaviest_94 rfl ?_
    refine W.lcmp hx hb dX11_heaviest_95 ?_
    refine w_if_gt (tgt := 102) C dX11_heaviest_96 (by decide) e4 (fun hc e5 => ?_) (fun hc e5 => ?_)
    · exact b_K_heaviest_102 C hst hxt N n0 s0 hn0 hsh63 hrc63  _ _ h th x2 x3 a4 x5 _ _ ls w hsl (lv_sub hl [0, 1, 2, 3, 4] rfl) e5
    · refine lv_iload hx hb dX11_heaviest_99 (lv_at hl 4 rfl) ?_
      refine W.widen (k := h_x g - n0) (n := h_s g - s0) hcc.1 hcc.2 ?_
      exact w_iretT C w e5 dX11_heaviest_101
set_option maxRecDepth 20000 in
set_option maxHeartbeats 4000000 in
theorem b_K_heaviest_63 {p : Program} {l : Launch} {e : Env} {s : State} {m : MethodId} {args : Array Value} {below : List Frame} {meth : Method} {c : Code} {D : va_G} {cy : cyT} {z : Nat} (C : MX p s m args meth c cX11_heaviest 6 ((some .int)) RX11 (Cond.code yX11_heaviest cX11_heaviest 6 ((some .int)) :: GW)) (hst : l.stackTraces = false) (hxt : ∀ x ∈ c.exceptionTable.toList, False) (N : Nat) (n0 s0 : Nat) (hn0 : s.heap.size = n0) {r : (Int32 ⊕ Nat)} {g : hS}  : ∀ (n : Nat) (cells slots : Nat) (h : hS) (th : Nat) (x2 : Int32) (x3 : Int32) (a4 : Option Nat) (x5 : Int32) (H : Heap) (locs : List Loc) (ls : Array Slot), wd D cy z s cells h H locs → h_s h = s0 + slots → lv_has ls 6 [(0, .ref th), (2, .int x2), (3, .int x3), (4, va_rf a4), (5, .int x5)] → f_K_heaviest_63 N  n h th x2 x3 a4 x5 = some (r, g) → W p l e { frames := 10, cells := h_x g - n0, slots := h_s g - s0, locals := 167 } s m args below meth c H locs cells slots (eT D cy z rI r g below args s (h_x g - n0) (h_s g - s0)) (F0 m 63 ls []) := by
  obtain ⟨hx, hb, hr, hml, hown, hts, hlk⟩ := id C
  intro n
  induction n with
  | zero =>
    intro cells slots h th x2 x3 a4 x5 H locs ls w hsl hl hE
    cases hE
  | succ n ih =>
    intro cells slots h th x2 x3 a4 x5 H locs ls w hsl hl hE
    have hcc : cells ≤ h_x g - n0 ∧ slots ≤ h_s g - s0 := by
      have q1 := mo_K_heaviest_63 N  (n + 1) h th x2 x3 a4 x5 _ _ hE
      have q2 := wd_x w
      have q3 := q1.1
      have q4 := q1.2.1
      omega
    unfold f_K_heaviest_63 at hE
    refine lv_iload hx hb dX11_heaviest_63 (lv_at hl 4 rfl) ?_
    refine w_if_lt (tgt := 108) C dX11_heaviest_65 (by decide) hE (fun hc e1 => ?_) (fun hc e1 => ?_)
    · refine lv_iconst (v := -1) hx hb dX11_heaviest_108 (by decide) ?_
      refine W.widen (k := h_x g - n0) (n := h_s g - s0) hcc.1 hcc.2 ?_
      exact w_iretT C w e1 dX11_heaviest_109
    · refine lv_aload_n hx hb dX11_heaviest_68 rfl (lv_at hl 0 rfl) ?_
      refine w_gR (r := some th) (ci := 12) (k := 4) C w rfl (by decide) (GF_wsX110 _) (by decide) rfl (List.mem_cons_of_mem _ gw_2_1) rfl dX11_heaviest_69 e1 (fun v1 e2 => ?_)
      refine w_aload C dX11_heaviest_72 (lv_at hl 3 rfl) ?_
      refine lv_iload_n hx hb dX11_heaviest_74 rfl (lv_at hl 1 rfl) ?_
      refine lv_iload hx hb dX11_heaviest_75 (lv_at hl 4 rfl) ?_
      refine w_VAI GW_good (n := 3) (F := 5) (Lc := 142) (o := v1) (av := [va_rf a4, .int x2, .int x5]) (rest := []) C w rfl (by decide) (fun a r g hf => k_Bench_goThrough l D cy z N h a a4 x2 x5 r g hf) gw_50_10 gw_50_11 gw_50_12 gw_2_0 gw_50_13 (by decide +kernel) ⟨Nat.le_of_ble_eq_true rfl, Nat.le_of_ble_eq_true rfl⟩ rfl hl.1 rfl (Nat.le_of_ble_eq_true rfl) dX11_heaviest_77 (fun a => (mo_Bench_goThrough N h a a4 x2 x5)) (fun a v2 h3 q1 q2 => by have u1 := (mo_Bench_goThrough N h a a4 x2 x5) _ _ q1; have u2 := mo_K_heaviest_80 N (mo_K_heaviest_63 N  n)  h3 th x2 x3 a4 x5 v2 _ _ q2; have u3 := wd_x w; have u4 := u1.1; have u5 := u1.2.1; have u6 := u2.1; have u7 := u2.2.1; show cells + _ ≤ h_x g - n0 ∧ slots + _ ≤ h_s g - s0; omega) e2 (fun v2 h3 H locs w hsh3 e3 => ?_)
      exact b_K_heaviest_80 C hst hxt N n0 s0 hn0 (mo_K_heaviest_63 N  n) ih  _ _ h3 th x2 x3 a4 x5 v2 _ _ ls w (by have u5 := hsh3.2.1; have u8 := hsl; omega) (lv_sub hl [0, 1, 2, 3, 4] rfl) e3
set_option maxRecDepth 20000 in
set_option maxHeartbeats 4000000 in
theorem b_K_heaviest_59 {p : Program} {l : Launch} {e : Env} {s : State} {m : MethodId} {args : Array Value} {below : List Frame} {meth : Method} {c : Code} {D : va_G} {cy : cyT} {z : Nat} (C : MX p s m args meth c cX11_heaviest 6 ((some .int)) RX11 (Cond.code yX11_heaviest cX11_heaviest 6 ((some .int)) :: GW)) (hst : l.stackTraces = false) (hxt : ∀ x ∈ c.exceptionTable.toList, False) (N : Nat) (n0 s0 : Nat) (hn0 : s.heap.size = n0) {r : (Int32 ⊕ Nat)} {g : hS}  : ∀  (cells slots : Nat) (h : hS) (th : Nat) (x2 : Int32) (x3 : Int32) (a4 : Option Nat) (H : Heap) (locs : List Loc) (ls : Array Slot), wd D cy z s cells h H locs → h_s h = s0 + slots → lv_has ls 6 [(0, .ref th), (2, .int x2), (3, .int x3), (4, va_rf a4)] → f_K_heaviest_59 N   h th x2 x3 a4 = some (r, g) → W p l e { frames := 10, cells := h_x g - n0, slots := h_s g - s0, locals := 167 } s m args below meth c H locs cells slots (eT D cy z rI r g below args s (h_x g - n0) (h_s g - s0)) (F0 m 59 ls []) := by
  obtain ⟨hx, hb, hr, hml, hown, hts, hlk⟩ := id C
  intro cells slots h th x2 x3 a4 H locs ls w hsl hl hE
  have hcc : cells ≤ h_x g - n0 ∧ slots ≤ h_s g - s0 := by
    have q1 := mo_K_heaviest_59 N  h th x2 x3 a4 _ _ hE
    have q2 := wd_x w
    have q3 := q1.1
    have q4 := q1.2.1
    omega
  unfold f_K_heaviest_59 at hE
  refine lv_bipush (v := 40) hx hb dX11_heaviest_59 (by decide) ?_
  refine lv_istore (lv' := [(5, .int (40 : Int32)), (0, .ref th), (2, .int x2), (3, .int x3), (4, va_rf a4)]) hx hb dX11_heaviest_61 hl (by decide) (by cases a4 <;> rfl) (fun ls hl => ?_)
  exact b_K_heaviest_63 C hst hxt N n0 s0 hn0  N _ _ h th x2 x3 a4 (40 : Int32) _ _ ls w hsl (lv_sub hl [1, 2, 3, 4, 0] rfl) hE
set_option maxRecDepth 20000 in
set_option maxHeartbeats 4000000 in
theorem b_K_heaviest_47 {p : Program} {l : Launch} {e : Env} {s : State} {m : MethodId} {args : Array Value} {below : List Frame} {meth : Method} {c : Code} {D : va_G} {cy : cyT} {z : Nat} (C : MX p s m args meth c cX11_heaviest 6 ((some .int)) RX11 (Cond.code yX11_heaviest cX11_heaviest 6 ((some .int)) :: GW)) (hst : l.stackTraces = false) (hxt : ∀ x ∈ c.exceptionTable.toList, False) (N : Nat) (n0 s0 : Nat) (hn0 : s.heap.size = n0) {r : (Int32 ⊕ Nat)} {g : hS}  : ∀  (cells slots : Nat) (h : hS) (th : Nat) (x2 : Int32) (x3 : Int32) (y0 : Option Nat) (H : Heap) (locs : List Loc) (ls : Array Slot), wd D cy z s cells h H locs → h_s h = s0 + slots → lv_has ls 6 [(0, .ref th), (2, .int x2), (3, .int x3)] → f_K_heaviest_47 N   h th x2 x3 y0 = some (r, g) → W p l e { frames := 10, cells := h_x g - n0, slots := h_s g - s0, locals := 167 } s m args below meth c H locs cells slots (eT D cy z rI r g below args s (h_x g - n0) (h_s g - s0)) (F0 m 47 ls [va_rf y0]) := by
  obtain ⟨hx, hb, hr, hml, hown, hts, hlk⟩ := id C
  intro cells slots h th x2 x3 y0 H locs ls w hsl hl hE
  have hcc : cells ≤ h_x g - n0 ∧ slots ≤ h_s g - s0 := by
    have q1 := mo_K_heaviest_47 N  h th x2 x3 y0 _ _ hE
    have q2 := wd_x w
    have q3 := q1.1
    have q4 := q1.2.1
    omega
  unfold f_K_heaviest_47 at hE
  refine w_astore (r := y0) (lv' := [(4, va_rf y0), (0, .ref th), (2, .int x2), (3, .int x3)]) C dX11_heaviest_47 hl (by decide) rfl (fun ls hl => ?_)
  refine lv_aload_n hx hb dX11_heaviest_49 rfl (lv_at hl 1 rfl) ?_
  refine w_gR (r := some th) (ci := 12) (k := 4) C w rfl (by decide) (GF_wsX110 _) (by decide) rfl (List.mem_cons_of_mem _ gw_2_1) rfl dX11_heaviest_50 hE (fun v1 e1 => ?_)
  refine w_aload C dX11_heaviest_53 (lv_at hl 0 rfl) ?_
  refine lv_iload_n hx hb dX11_heaviest_55 rfl (lv_at hl 2 rfl) ?_
  refine w_VAV GW_good (n := 2) (F := 5) (Lc := 142) (o := v1) (av := [va_rf y0, .int x2]) (rest := []) C w rfl (by decide) (fun a r g hf => k_Bench_standAhead l D cy z N h a y0 x2 r g hf) gw_50_5 gw_50_6 gw_50_7 gw_2_0 gw_50_8 (by decide +kernel) ⟨Nat.le_of_ble_eq_true rfl, Nat.le_of_ble_eq_true rfl⟩ rfl hl.1 rfl (Nat.le_of_ble_eq_true rfl) dX11_heaviest_56 (fun a => (mo_Bench_standAhead N h a y0 x2)) (fun a v2 h3 q1 q2 => by have u1 := (mo_Bench_standAhead N h a y0 x2) _ _ q1; have u2 := mo_K_heaviest_59 N   h3 th x2 x3 y0 _ _ q2; have u3 := wd_x w; have u4 := u1.1; have u5 := u1.2.1; have u6 := u2.1; have u7 := u2.2.1; show cells + _ ≤ h_x g - n0 ∧ slots + _ ≤ h_s g - s0; omega) e1 (fun v2 h3 H locs w hsh3 e2 => ?_)
  exact b_K_heaviest_59 C hst hxt N n0 s0 hn0   _ _ h3 th x2 x3 y0 _ _ ls w (by have u5 := hsh3.2.1; have u8 := hsl; omega) (lv_sub hl [1, 2, 3, 0] rfl) e2
set_option maxRecDepth 20000 in
set_option maxHeartbeats 4000000 in
theorem b_K_heaviest_42 {p : Program} {l : Launch} {e : Env} {s : State} {m : MethodId} {args : Array Value} {below : List Frame} {meth : Method} {c : Code} {D : va_G} {cy : cyT} {z : Nat} (C : MX p s m args meth c cX11_heaviest 6 ((some .int)) RX11 (Cond.code yX11_heaviest cX11_heaviest 6 ((some .int)) :: GW)) (hst : l.stackTraces = false) (hxt : ∀ x ∈ c.exceptionTable.toList, False) (N : Nat) (n0 s0 : Nat) (hn0 : s.heap.size = n0) {r : (Int32 ⊕ Nat)} {g : hS}  : ∀  (cells slots : Nat) (h : hS) (th : Nat) (x1 : Int32) (x2 : Int32) (x3 : Int32) (H : Heap) (locs : List Loc) (ls : Array Slot), wd D cy z s cells h H locs → h_s h = s0 + slots → lv_has ls 6 [(0, .ref th), (1, .int x1), (2, .int x2), (3, .int x3)] → f_K_heaviest_42 N   h th x1 x2 x3 = some (r, g) → W p l e { frames := 10, cells := h_x g - n0, slots := h_s g - s0, locals := 167 } s m args below meth c H locs cells slots (eT D cy z rI r g below args s (h_x g - n0) (h_s g - s0)) (F0 m 42 ls []) := by
  obtain ⟨hx, hb, hr, hml, hown, hts, hlk⟩ := id C
  intro cells slots h th x1 x2 x3 H locs ls w hsl hl hE
  have hcc : cells ≤ h_x g - n0 ∧ slots ≤ h_s g - s0 := by
    have q1 := mo_K_heaviest_42 N  h th x1 x2 x3 _ _ hE
    have q2 := wd_x w
    have q3 := q1.1
    have q4 := q1.2.1
    omega
  unfold f_K_heaviest_42 at hE
  refine lv_aload_n hx hb dX11_heaviest_42 rfl (lv_at hl 0 rfl) ?_
  refine lv_iload_n hx hb dX11_heaviest_43 rfl (lv_at hl 1 rfl) ?_
  refine w_VTR GW_good (n := 1) (F := 8) (Lc := 122) (ob := some th) (av := [.int x1]) (rest := []) hxt hn0 hsl C w rfl (by decide) (fun a r g hf => k_K_chainOf l hst D cy z N h a x1 r g hf) gw_32_8 gw_32_9 gw_32_10 gw_1_2 gw_32_11 (by decide +kernel) ⟨Nat.le_of_ble_eq_true rfl, Nat.le_of_ble_eq_true rfl⟩ rfl hl.1 rfl (Nat.le_of_ble_eq_true rfl) dX11_heaviest_44 (fun a => (mo_K_chainOf N h a x1)) (fun v1 h2 => mo_K_heaviest_47 N   h2 th x2 x3 v1) hE (fun v1 h2 H locs w hsh2 e1 => ?_)
  exact b_K_heaviest_47 C hst hxt N n0 s0 hn0   _ _ h2 th x2 x3 v1 _ _ ls w (by have u5 := hsh2.2.1; have u8 := hsl; omega) (lv_sub hl [0, 2, 3] rfl) e1
set_option maxRecDepth 20000 in
set_option maxHeartbeats 4000000 in
theorem b_K_heaviest_39 {p : Program} {l : Launch} {e : Env} {s : State} {m : MethodId} {args : Array Value} {below : List Frame} {meth : Method} {c : Code} {D : va_G} {cy : cyT} {z : Nat} (C : MX p s m args meth c cX11_heaviest 6 ((some .int)) RX11 (Cond.code yX11_heaviest cX11_heaviest 6 ((some .int)) :: GW)) (hst : l.stackTraces = false) (hxt : ∀ x ∈ c.exceptionTable.toList, False) (N : Nat) (n0 s0 : Nat) (hn0 : s.heap.size = n0) {r : (Int32 ⊕ Nat)} {g : hS}  : ∀  (cells slots : Nat) (h : hS) (th : Nat) (x1 : Int32) (x2 : Int32) (x3 : Int32) (y0 : Int32) (H : Heap) (locs : List Loc) (ls : Array Slot), wd D cy z s cells h H locs → h_s h = s0 + slots → lv_has ls 6 [(0, .ref th), (1, .int x1), (2, .int x2), (3, .int x3)] → f_K_heaviest_39 N   h th x1 x2 x3 y0 = some (r, g) → W p l e { frames := 10, cells := h_x g - n0, slots := h_s g - s0, locals := 167 } s m args below meth c H locs cells slots (eT D cy z rI r g below args s (h_x g - n0) (h_s g - s0)) (F0 m 39 ls [.int y0]) := by
  obtain ⟨hx, hb, hr, hml, hown, hts, hlk⟩ := id C
  intro cells slots h th x1 x2 x3 y0 H locs ls w hsl hl hE
  have hcc : cells ≤ h_x g - n0 ∧ slots ≤ h_s g - s0 := by
    have q1 := mo_K_heaviest_39 N  h th x1 x2 x3 y0 _ _ hE
    have q2 := wd_x w
    have q3 := q1.1
    have q4 := q1.2.1
    omega
  unfold f_K_heaviest_39 at hE
  refine w_STV GW_good (n := 1) (F := 6) (Lc := 82) (av := [.int y0]) (rest := []) hxt hn0 hsl C w (fun r g hf => k_K_needFit l hst D cy z N h y0 r g hf) gw_9_20 gw_9_21 gw_1_2 gw_9_22 (by decide +kernel) ⟨Nat.le_of_ble_eq_true rfl, Nat.le_of_ble_eq_true rfl⟩ rfl hl.1 rfl (Nat.le_of_ble_eq_true rfl) dX11_heaviest_39 (mo_K_needFit N h y0) (fun v1 h2 => mo_K_heaviest_42 N   h2 th x1 x2 x3) hE (fun v1 h2 H locs w hsh2 e1 => ?_)
  exact b_K_heaviest_42 C hst hxt N n0 s0 hn0   _ _ h2 th x1 x2 x3 _ _ ls w (by have u5 := hsh2.2.1; have u8 := hsl; omega) (lv_sub hl [0, 1, 2, 3] rfl) e1
set_option maxRecDepth 20000 in
set_option maxHeartbeats 4000000 in
theorem b_K_heaviest_38 {p : Program} {l : Launch} {e : Env} {s : State} {m : MethodId} {args : Array Value} {below : List Frame} {meth : Method} {c : Code} {D : va_G} {cy : cyT} {z : Nat} (C : MX p s m args meth c cX11_heaviest 6 ((some .int)) RX11 (Cond.code yX11_heaviest cX11_heaviest 6 ((some .int)) :: GW)) (hst : l.stackTraces = false) (hxt : ∀ x ∈ c.exceptionTable.toList, False) (N : Nat) (n0 s0 : Nat) (hn0 : s.heap.size = n0) {r : (Int32 ⊕ Nat)} {g : hS}  : ∀  (cells slots : Nat) (h : hS) (th : Nat) (x1 : Int32) (x2 : Int32) (x3 : Int32) (H : Heap) (locs : List Loc) (ls : Array Slot), wd D cy z s cells h H locs → h_s h = s0 + slots → lv_has ls 6 [(0, .ref th), (1, .int x1), (2, .int x2), (3, .int x3)] → f_K_heaviest_38 N   h th x1 x2 x3 = some (r, g) → W p l e { frames := 10, cells := h_x g - n0, slots := h_s g - s0, locals := 167 } s m args below meth c H locs cells slots (eT D cy z rI r g below args s (h_x g - n0) (h_s g - s0)) (F0 m 38 ls []) := by
  obtain ⟨hx, hb, hr, hml, hown, hts, hlk⟩ := id C
  intro cells slots h th x1 x2 x3 H locs ls w hsl hl hE
  have hcc : cells ≤ h_x g - n0 ∧ slots ≤ h_s g - s0 := by
    have q1 := mo_K_heaviest_38 N  h th x1 x2 x3 _ _ hE
    have q2 := wd_x w
    have q3 := q1.1
    have q4 := q1.2.1
    omega
  unfold f_K_heaviest_38 at hE
  refine lv_iconst (v := 0) hx hb dX11_heaviest_38 (by decide) ?_
  exact b_K_heaviest_39 C hst hxt N n0 s0 hn0   _ _ h th x1 x2 x3 (0 : Int32) _ _ ls w hsl (lv_sub hl [0, 1, 2, 3] rfl) hE
set_option maxRecDepth 20000 in
set_option maxHeartbeats 4000000 in
theorem b_K_heaviest_21 {p : Program} {l : Launch} {e : Env} {s : State} {m : MethodId} {args : Array Value} {below : List Frame} {meth : Method} {c : Code} {D : va_G} {cy : cyT} {z : Nat} (C : MX p s m args meth c cX11_heaviest 6 ((some .int)) RX11 (Cond.code yX11_heaviest cX11_heaviest 6 ((some .int)) :: GW)) (hst : l.stackTraces = false) (hxt : ∀ x ∈ c.exceptionTable.toList, False) (N : Nat) (n0 s0 : Nat) (hn0 : s.heap.size = n0) {r : (Int32 ⊕ Nat)} {g : hS}  : ∀  (cells slots : Nat) (h : hS) (th : Nat) (x1 : Int32) (x2 : Int32) (x3 : Int32) (H : Heap) (locs : List Loc) (ls : Array Slot), wd D cy z s cells h H locs → h_s h = s0 + slots → lv_has ls 6 [(0, .ref th), (1, .int x1), (2, .int x2), (3, .int x3)] → f_K_heaviest_21 N   h th x1 x2 x3 = some (r, g) → W p l e { frames := 10, cells := h_x g - n0, slots := h_s g - s0, locals := 167 } s m args below meth c H locs cells slots (eT D cy z rI r g below args s (h_x g - n0) (h_s g - s0)) (F0 m 21 ls []) := by
  obtain ⟨hx, hb, hr, hml, hown, hts, hlk⟩ := id C
  intro cells slots h th x1 x2 x3 H locs ls w hsl hl hE
  have hcc : cells ≤ h_x g - n0 ∧ slots ≤ h_s g - s0 := by
    have q1 := mo_K_heaviest_21 N  h th x1 x2 x3 _ _ hE
    have q2 := wd_x w
    have q3 := q1.1
    have q4 := q1.2.1
    omega
  unfold f_K_heaviest_21 at hE
  refine lv_iload_n hx hb dX11_heaviest_21 rfl (lv_at hl 3 rfl) ?_
  refine w_if_lt (tgt := 38) C dX11_heaviest_22 (by decide) hE (fun hc e1 => ?_) (fun hc e1 => ?_)
  · exact b_K_heaviest_38 C hst hxt N n0 s0 hn0   _ _ h th x1 x2 x3 _ _ ls w hsl (lv_sub hl [0, 1, 2, 3] rfl) e1
  · refine lv_iload_n hx hb dX11_heaviest_25 rfl (lv_at hl 3 rfl) ?_
    refine lv_i2l hx hb dX11_heaviest_26 rfl ?_
    refine lv_ldc2 hx hb hown (hts _ (List.mem_cons_of_mem _ gw_50_4)) dX11_heaviest_27 ?_
    refine W.lcmp hx hb dX11_heaviest_30 ?_
    refine w_if_gt (tgt := 38) C dX11_heaviest_31 (by decide) e1 (fun hc e2 => ?_) (fun hc e2 => ?_)
    · exact b_K_heaviest_38 C hst hxt N n0 s0 hn0   _ _ h th x1 x2 x3 _ _ ls w hsl (lv_sub hl [0, 1, 2, 3] rfl) e2
    · refine lv_iconst (v := 1) hx hb dX11_heaviest_34 (by decide) ?_
      refine lv_goto (tgt := 39) hx hb dX11_heaviest_35 (by decide) ?_
      exact b_K_heaviest_39 C hst hxt N n0 s0 hn0   _ _ h th x1 x2 x3 (1 : Int32) _ _ ls w hsl (lv_sub hl [0, 1, 2, 3] rfl) e2
set_option maxRecDepth 20000 in
set_option maxHeartbeats 4000000 in
theorem b_K_heaviest_18 {p : Program} {l : Launch} {e : Env} {s : State} {m : MethodId} {args : Array Value} {below : List Frame} {meth : Method} {c : Code} {D : va_G} {cy : cyT} {z : Nat} (C : MX p s m args meth c cX11_heaviest 6 ((some .int)) RX11 (Cond.code yX11_heaviest cX11_heaviest 6 ((some .int)) :: GW)) (hst : l.stackTraces = false) (hxt : ∀ x ∈ c.exceptionTable.toList, False) (N : Nat) (n0 s0 : Nat) (hn0 : s.heap.size = n0) {r : (Int32 ⊕ Nat)} {g : hS}  : ∀  (cells slots : Nat) (h : hS) (th : Nat) (x1 : Int32) (x2 : Int32) (x3 : Int32) (y0 : Int32) (H : Heap) (locs : List Loc) (ls : Array Slot), wd D cy z s cells h H locs → h_s h = s0 + slots → lv_has ls 6 [(0, .ref th), (1, .int x1), (2, .int x2), (3, .int x3)] → f_K_heaviest_18 N   h th x1 x2 x3 y0 = some (r, g) → W p l e { frames := 10, cells := h_x g - n0, slots := h_s g - s0, locals := 167 } s m args below meth c H locs cells slots (eT D cy z rI r g below args s (h_x g - n0) (h_s g - s0)) (F0 m 18 ls [.int y0]) := by
  obtain ⟨hx, hb, hr, hml, hown, hts, hlk⟩ := id C
  intro cells slots h th x1 x2 x3 y0 H locs ls w hsl hl hE
  have hcc : cells ≤ h_x g - n0 ∧ slots ≤ h_s g - s0 := by
    have q1 := mo_K_heaviest_18 N  h th x1 x2 x3 y0 _ _ hE
    have q2 := wd_x w
    have q3 := q1.1
    have q4 := q1.2.1
    omega
  unfold f_K_heaviest_18 at hE
  refine w_STV GW_good (n := 1) (F := 6) (Lc := 82) (av := [.int y0]) (rest := []) hxt hn0 hsl C w (fun r g hf => k_K_needSuch l hst D cy z N h y0 r g hf) gw_9_15 gw_9_16 gw_1_2 gw_9_17 (by decide +kernel) ⟨Nat.le_of_ble_eq_true rfl, Nat.le_of_ble_eq_true rfl⟩ rfl hl.1 rfl (Nat.le_of_ble_eq_true rfl) dX11_heaviest_18 (mo_K_needSuch N h y0) (fun v1 h2 => mo_K_heaviest_21 N   h2 th x1 x2 x3) hE (fun v1 h2 H locs w hsh2 e1 => ?_)
  exact b_K_heaviest_21 C hst hxt N n0 s0 hn0   _ _ h2 th x1 x2 x3 _ _ ls w (by have u5 := hsh2.2.1; have u8 := hsl; omega) (lv_sub hl [0, 1, 2, 3] rfl) e1
set_option maxRecDepth 20000 in
set_option maxHeartbeats 4000000 in
theorem b_K_heaviest_6 {p : Program} {l : Launch} {e : Env} {s : State} {m : MethodId} {args : Array Value} {below : List Frame} {meth : Method} {c : Code} {D : va_G} {cy : cyT} {z : Nat} (C : MX p s m args meth c cX11_heaviest 6 ((some .int)) RX11 (Cond.code yX11_heaviest cX11_heaviest 6 ((some .int)) :: GW)) (hst : l.stackTraces = false) (hxt : ∀ x ∈ c.exceptionTable.toList, False) (N : Nat) (n0 s0 : Nat) (hn0 : s.heap.size = n0) {r : (Int32 ⊕ Nat)} {g : hS}  : ∀  (cells slots : Nat) (h : hS) (th : Nat) (x1 : Int32) (x2 : Int32) (x3 : Int32) (y0 : Option Nat) (H : Heap) (locs : List Loc) (ls : Array Slot), wd D cy z s cells h H locs → h_s h = s0 + slots → lv_has ls 6 [(0, .ref th), (1, .int x1), (2, .int x2), (3, .int x3)] → f_K_heaviest_6 N   h th x1 x2 x3 y0 = some (r, g) → W p l e { frames := 10, cells := h_x g - n0, slots := h_s g - s0, locals := 167 } s m args below meth c H locs cells slots (eT D cy z rI r g below args s (h_x g - n0) (h_s g - s0)) (F0 m 6 ls [va_rf y0]) := by
  obtain ⟨hx, hb, hr, hml, hown, hts, hlk⟩ := id C
  intro cells slots h th x1 x2 x3 y0 H locs ls w hsl hl hE
  have hcc : cells ≤ h_x g - n0 ∧ slots ≤ h_s g - s0 := by
    have q1 := mo_K_heaviest_6 N  h th x1 x2 x3 y0 _ _ hE
    have q2 := wd_x w
    have q3 := q1.1
    have q4 := q1.2.1
    omega
  unfold f_K_heaviest_6 at hE
  refine w_gI (r := y0) (ci := 8) (k := 0) C w rfl (by decide) (GF_wsX70 _) (by decide) rfl (List.mem_cons_of_mem _ gw_33_1) rfl dX11_heaviest_6 hE (fun v1 e1 => ?_)
  refine lv_iconst (v := 2) hx hb dX11_heaviest_9 (by decide) ?_
  refine w_icmp_gt (tgt := 17) C dX11_heaviest_10 (by decide) e1 (fun hc e2 => ?_) (fun hc e2 => ?_)
  · refine lv_iconst (v := 0) hx hb dX11_heaviest_17 (by decide) ?_
    exact b_K_heaviest_18 C hst hxt N n0 s0 hn0   _ _ h th x1 x2 x3 (0 : Int32) _ _ ls w hsl (lv_sub hl [0, 1, 2, 3] rfl) e2
  · refine lv_iconst (v := 1) hx hb dX11_heaviest_13 (by decide) ?_
    refine lv_goto (tgt := 18) hx hb dX11_heaviest_14 (by decide) ?_
    exact b_K_heaviest_18 C hst hxt N n0 s0 hn0   _ _ h th x1 x2 x3 (1 : Int32) _ _ ls w hsl (lv_sub hl [0, 1, 2, 3] rfl) e2
set_option maxRecDepth 20000 in
set_option maxHeartbeats 4000000 in
theorem k_K_heaviest (l : Launch) (hst : l.stackTraces = false) (D : va_G) (cy : cyT) (z : Nat) (N : Nat) (h : hS) (th : Nat) (x1 : Int32) (x2 : Int32) (x3 : Int32) (r : (Int32 ⊕ Nat)) (g : hS) (hE : f_K_heaviest N h th x1 x2 x3 = some (r, g)) : ctT l yX11_heaviest (Cond.code yX11_heaviest cX11_heaviest 6 ((some .int)) :: GW) { frames := 10, cells := h_x g - h_x h, slots := h_s g - h_s h, locals := 167 } D cy z h [.ref th, .int x1, .int x2, .int x3] rI r g := by
  refine ctT_of (cc := cX11_heaviest) (maxL := 6) (ret := (some .int)) (by decide) ?_
  intro p e s m args below meth c s₁ B hml hxt hv
  obtain ⟨rfl, hw⟩ := hv
  have C : MX p s m ([.ref th, .int x1, .int x2, .int x3] : List Value).toArray meth c cX11_heaviest 6 ((some .int)) RX11 (Cond.code yX11_heaviest cX11_heaviest 6 ((some .int)) :: GW) := ⟨B.exec, B.bytes, B.returns, hml, findClass_of_methodNamed B.named, atoms_spec (ws := Cond.code yX11_heaviest cX11_heaviest 6 ((some .int)) :: GW) B.pre, B.notSynchronized⟩
  obtain ⟨hx, hb, hr, hml, hown, hts, hlk⟩ := id C
  have w := wd_of hw
  have hsl : h_s h = h_s h + 0 := rfl
  have hn0 : s.heap.size = h_x h := (wd_x w).1
  obtain ⟨ls, hen, hl⟩ : ∃ ls : Array Slot, entryFrame m ([.ref th, .int x1, .int x2, .int x3] : List Value).toArray 6 = F0 m 0 ls [] ∧ lv_has ls 6 [(0, .ref th), (1, .int x1), (2, .int x2), (3, .int x3)] := by
    exact ⟨_, lg_entry_eq _ _ _, lv_entry _ (Nat.le_of_ble_eq_true rfl)⟩
  rw [hen]
  have hcc : 0 ≤ h_x g - h_x h ∧ 0 ≤ h_s g - h_s h := ⟨Nat.zero_le _, Nat.zero_le _⟩
  unfold f_K_heaviest at hE
  refine lv_aload_n hx hb dX11_heaviest_0 rfl (lv_at hl 0 rfl) ?_
  refine lv_iload_n hx hb dX11_heaviest_1 rfl (lv_at hl 1 rfl) ?_
  refine lv_iload_n hx hb dX11_heaviest_2 rfl (lv_at hl 2 rfl) ?_
  refine w_VTR GW_good (n := 2) (F := 9) (Lc := 143) (ob := some th) (av := [.int x1, .int x2]) (rest := []) hxt hn0 hsl C w rfl (by decide) (fun a r g hf => k_K_stepOf l hst D cy z N h a x1 x2 r g hf) gw_33_4 gw_33_5 gw_33_6 gw_1_2 gw_33_7 (by decide +kernel) ⟨Nat.le_of_ble_eq_true rfl, Nat.le_of_ble_eq_true rfl⟩ rfl hl.1 rfl (Nat.le_of_ble_eq_true rfl) dX11_heaviest_3 (fun a => (mo_K_stepOf N h a x1 x2)) (fun v1 h2 => mo_K_heaviest_6 N   h2 th x1 x2 x3 v1) hE (fun v1 h2 H locs w hsh2 e1 => ?_)
  exact b_K_heaviest_6 C hst hxt N (h_x h) (h_s h) hn0   _ _ h2 th x1 x2 x3 v1 _ _ ls w (by have u5 := hsh2.2.1; have u8 := hsl; omega) (lv_sub hl [0, 1, 2, 3] rfl) e1
set_option maxRecDepth 20000 in
set_option maxHeartbeats 4000000 in
theorem b_K_sparedBy_19 {p : Program} {l : Launch} {e : Env} {s : State} {m : MethodId} {args : Array Value} {below : List Frame} {meth : Method} {c : Code} {D : va_G} {cy : cyT} {z : Nat} (C : MX p s m args meth c cX11_sparedBy 4 ((some .long)) RX11 (Cond.code yX11_sparedBy cX11_sparedBy 4 ((some .long)) :: GW)) (N : Nat) (n0 s0 : Nat) (hn0 : s.heap.size = n0) {r : Int64} {g : hS}  : ∀  (cells slots : Nat) (h : hS) (th : Nat) (a2 : Option Nat) (y0 : Int32) (H : Heap) (locs : List Loc) (ls : Array Slot), wd D cy z s cells h H locs → h_s h = s0 + slots → lv_has ls 4 [(0, .ref th), (2, va_rf a2)] → f_K_sparedBy_19 N   h th a2 y0 = some (r, g) → W p l e { frames := 6, cells := h_x g - n0, slots := h_s g - s0, locals := 167 } s m args below meth c H locs cells slots (MQ below (eQ D cy z (rJ r) g) args s (h_x g - n0) (h_s g - s0) (fun q => z ≤ q)) (F0 m 19 ls [.int y0]) := by
  obtain ⟨hx, hb, hr, hml, hown, hts, hlk⟩ := id C
  intro cells slots h th a2 y0 H locs ls w hsl hl hE
  have hcc : cells ≤ h_x g - n0 ∧ slots ≤ h_s g - s0 := by
    have q1 := mo_K_sparedBy_19 N  h th a2 y0 _ _ hE
    have q2 := wd_x w
    have q3 := q1.1
    have q4 := q1.2.1
    omega
  unfold f_K_sparedBy_19 at hE
  refine w_if_ne (tgt := 26) C dX11_sparedBy_19 (by decide) hE (fun hc e1 => ?_) (fun hc e1 => ?_)
  · refine w_aload_n C dX11_sparedBy_26 rfl (lv_at hl 1 rfl) ?_
    refine w_gJ (r := a2) (ci := 3) (k := 4) C w rfl (by decide) (GF_wsX20 _) (by decide) rfl (List.mem_cons_of_mem _ gw_35_10) rfl dX11_sparedBy_27 e1 (fun v1 e2 => ?_)
    refine lv_aload_n hx hb dX11_sparedBy_30 rfl (lv_at hl 0 rfl) ?_
    refine w_gR (r := some th) (ci := 12) (k := 4) C w rfl (by decide) (GF_wsX110 _) (by decide) rfl (List.mem_cons_of_mem _ gw_2_1) rfl dX11_sparedBy_31 e2 (fun v2 e3 => ?_)
    refine w_gR (r := v2) (ci := 1) (k := 0) C w rfl (by decide) (GF_wsX00 _) (by decide) rfl (List.mem_cons_of_mem _ gw_23_9) rfl dX11_sparedBy_34 e3 (fun v3 e4 => ?_)
    refine w_gJ (r := v3) (ci := 3) (k := 4) C w rfl (by decide) (GF_wsX20 _) (by decide) rfl (List.mem_cons_of_mem _ gw_35_10) rfl dX11_sparedBy_37 e4 (fun v4 e5 => ?_)
    refine lv_lsub hx hb dX11_sparedBy_40 ?_
    refine W.widen (k := h_x g - n0) (n := h_s g - s0) hcc.1 hcc.2 ?_
    exact w_lret C w e5 dX11_sparedBy_41
  · refine lv_ldc2 hx hb hown (hts _ (List.mem_cons_of_mem _ gw_51_13)) dX11_sparedBy_22 ?_
    refine W.widen (k := h_x g - n0) (n := h_s g - s0) hcc.1 hcc.2 ?_
    exact w_lret C w e1 dX11_sparedBy_25
set_option maxRecDepth 20000 in
set_option maxHeartbeats 4000000 in
theorem b_K_sparedBy_9 {p : Program} {l : Launch} {e : Env} {s : State} {m : MethodId} {args : Array Value} {below : List Frame} {meth : Method} {c : Code} {D : va_G} {cy : cyT} {z : Nat} (C : MX p s m args meth c cX11_sparedBy 4 ((some .long)) RX11 (Cond.code yX11_sparedBy cX11_sparedBy 4 ((some .long)) :: GW)) (N : Nat) (n0 s0 : Nat) (hn0 : s.heap.size = n0) {r : Int64} {g : hS}  : ∀  (cells slots : Nat) (h : hS) (th : Nat) (a1 : Option Nat) (a2 : Option Nat) (x3 : Int32) (H : Heap) (locs : List Loc) (ls : Array Slot), wd D cy z s cells h H locs → h_s h = s0 + slots → lv_has ls 4 [(0, .ref th), (1, va_rf a1), (2, va_rf a2), (3, .int x3)] → f_K_sparedBy_9 N   h th a1 a2 x3 = some (r, g) → W p l e { frames := 6, cells := h_x g - n0, slots := h_s g - s0, locals := 167 } s m args below meth c H locs cells slots (MQ below (eQ D cy z (rJ r) g) args s (h_x g - n0) (h_s g - s0) (fun q => z ≤ q)) (F0 m 9 ls []) := by
  obtain ⟨hx, hb, hr, hml, hown, hts, hlk⟩ := id C
  intro cells slots h th a1 a2 x3 H locs ls w hsl hl hE
  have hcc : cells ≤ h_x g - n0 ∧ slots ≤ h_s g - s0 := by
    have q1 := mo_K_sparedBy_9 N  h th a1 a2 x3 _ _ hE
    have q2 := wd_x w
    have q3 := q1.1
    have q4 := q1.2.1
    omega
  unfold f_K_sparedBy_9 at hE
  refine lv_aload_n hx hb dX11_sparedBy_9 rfl (lv_at hl 0 rfl) ?_
  refine w_gR (r := some th) (ci := 12) (k := 4) C w rfl (by decide) (GF_wsX110 _) (by decide) rfl (List.mem_cons_of_mem _ gw_2_1) rfl dX11_sparedBy_10 hE (fun v1 e1 => ?_)
  refine w_aload_n C dX11_sparedBy_13 rfl (lv_at hl 1 rfl) ?_
  refine lv_iload_n hx hb dX11_sparedBy_14 rfl (lv_at hl 3 rfl) ?_
  refine lv_iconst (v := -1) hx hb dX11_sparedBy_15 (by decide) ?_
  refine w_VAI GW_good (n := 3) (F := 5) (Lc := 142) (o := v1) (av := [va_rf a1, .int x3, .int (-1 : Int32)]) (rest := []) C w rfl (by decide) (fun a r g hf => k_Bench_goThrough l D cy z N h a a1 x3 (-1 : Int32) r g hf) gw_50_10 gw_50_11 gw_50_12 gw_2_0 gw_50_13 (by decide +kernel) ⟨Nat.le_of_ble_eq_true rfl, Nat.le_of_ble_eq_true rfl⟩ rfl hl.1 rfl (Nat.le_of_ble_eq_true rfl) dX11_sparedBy_16 (fun a => (mo_Bench_goThrough N h a a1 x3 (-1 : Int32))) (fun a v2 h3 q1 q2 => by have u1 := (mo_Bench_goThrough N h a a1 x3 (-1 : Int32)) _ _ q1; have u2 := mo_K_sparedBy_19 N   h3 th a2 v2 _ _ q2; have u3 := wd_x w; have u4 := u1.1; have u5 := u1.2.1; have u6 := u2.1; have u7 := u2.2.1; show cells + _ ≤ h_x g - n0 ∧ slots + _ ≤ h_s g - s0; omega) e1 (fun v2 h3 H locs w hsh3 e2 => ?_)
  exact b_K_sparedBy_19 C N n0 s0 hn0   _ _ h3 th a2 v2 _ _ ls w (by have u5 := hsh3.2.1; have u8 := hsl; omega) (lv_sub hl [0, 2] rfl) e2
set_option maxRecDepth 20000 in
set_option maxHeartbeats 4000000 in
theorem k_K_sparedBy (l : Launch) (D : va_G) (cy : cyT) (z : Nat) (N : Nat) (h : hS) (th : Nat) (a1 : Option Nat) (a2 : Option Nat) (x3 : Int32) (r : Int64) (g : hS) (hE : f_K_sparedBy N h th a1 a2 x3 = some (r, g)) : ct l yX11_sparedBy (Cond.code yX11_sparedBy cX11_sparedBy 4 ((some .long)) :: GW) { frames := 6, cells := h_x g - h_x h, slots := h_s g - h_s h, locals := 167 } D cy z h [.ref th, va_rf a1, va_rf a2, .int x3] (rJ r) g := by
  refine Met.ofW (cc := cX11_sparedBy) (maxL := 4) (ret := (some .long)) (by decide) rfl ?_
  intro p e s m args below meth c s₁ B hml hv
  obtain ⟨rfl, hw⟩ := hv
  have C : MX p s m ([.ref th, va_rf a1, va_rf a2, .int x3] : List Value).toArray meth c cX11_sparedBy 4 ((some .long)) RX11 (Cond.code yX11_sparedBy cX11_sparedBy 4 ((some .long)) :: GW) := ⟨B.exec, B.bytes, B.returns, hml, findClass_of_methodNamed B.named, atoms_spec (ws := Cond.code yX11_sparedBy cX11_sparedBy 4 ((some .long)) :: GW) B.pre, B.notSynchronized⟩
  obtain ⟨hx, hb, hr, hml, hown, hts, hlk⟩ := id C
  have w := wd_of hw
  have hsl : h_s h = h_s h + 0 := rfl
  have hn0 : s.heap.size = h_x h := (wd_x w).1
  obtain ⟨ls, hen, hl⟩ : ∃ ls : Array Slot, entryFrame m ([.ref th, va_rf a1, va_rf a2, .int x3] : List Value).toArray 4 = F0 m 0 ls [] ∧ lv_has ls 4 [(0, .ref th), (1, va_rf a1), (2, va_rf a2), (3, .int x3)] := by
    cases a1 <;> cases a2 <;> exact ⟨_, lg_entry_eq _ _ _, lv_entry _ (Nat.le_of_ble_eq_true rfl)⟩
  rw [hen]
  have hcc : 0 ≤ h_x g - h_x h ∧ 0 ≤ h_s g - h_s h := ⟨Nat.zero_le _, Nat.zero_le _⟩
  unfold f_K_sparedBy at hE
  refine lv_aload_n hx hb dX11_sparedBy_0 rfl (lv_at hl 0 rfl) ?_
  refine w_gR (r := some th) (ci := 12) (k := 4) C w rfl (by decide) (GF_wsX110 _) (by decide) rfl (List.mem_cons_of_mem _ gw_2_1) rfl dX11_sparedBy_1 hE (fun v1 e1 => ?_)
  refine w_aload_n C dX11_sparedBy_4 rfl (lv_at hl 1 rfl) ?_
  refine lv_iload_n hx hb dX11_sparedBy_5 rfl (lv_at hl 3 rfl) ?_
  refine w_VAV GW_good (n := 2) (F := 5) (Lc := 142) (o := v1) (av := [va_rf a1, .int x3]) (rest := []) C w rfl (by decide) (fun a r g hf => k_Bench_standAhead l D cy z N h a a1 x3 r g hf) gw_50_5 gw_50_6 gw_50_7 gw_2_0 gw_50_8 (by decide +kernel) ⟨Nat.le_of_ble_eq_true rfl, Nat.le_of_ble_eq_true rfl⟩ rfl hl.1 rfl (Nat.le_of_ble_eq_true rfl) dX11_sparedBy_6 (fun a => (mo_Bench_standAhead N h a a1 x3)) (fun a v2 h3 q1 q2 => by have u1 := (mo_Bench_standAhead N h a a1 x3) _ _ q1; have u2 := mo_K_sparedBy_9 N   h3 th a1 a2 x3 _ _ q2; have u3 := wd_x w; have u4 := u1.1; have u5 := u1.2.1; have u6 := u2.1; have u7 := u2.2.1; show 0 + _ ≤ h_x g - (h_x h) ∧ 0 + _ ≤ h_s g - (h_s h); omega) e1 (fun v2 h3 H locs w hsh3 e2 => ?_)
  exact b_K_sparedBy_9 C N (h_x h) (h_s h) hn0   _ _ h3 th a1 a2 x3 _ _ ls w (by have u5 := hsh3.2.1; have u8 := hsl; omega) (lv_sub hl [0, 1, 2, 3] rfl) e2
set_option maxRecDepth 20000 in
set_option maxHeartbeats 4000000 in
theorem b_K_spared_22 {p : Program} {l : Launch} {e : Env} {s : State} {m : MethodId} {args : Array Value} {below : List Frame} {meth : Method} {c : Code} {D : va_G} {cy : cyT} {z : Nat} (C : MX p s m args meth c cX11_spared 3 ((some .long)) RX11 (Cond.code yX11_spared cX11_spared 3 ((some .long)) :: GW)) (hst : l.stackTraces = false) (hxt : ∀ x ∈ c.exceptionTable.toList, False) (N : Nat) (n0 s0 : Nat) (hn0 : s.heap.size = n0) {r : (Int64 ⊕ Nat)} {g : hS}  : ∀  (cells slots : Nat) (h : hS) (y0 : Int64) (H : Heap) (locs : List Loc) (ls : Array Slot), wd D cy z s cells h H locs → h_s h = s0 + slots → lv_has ls 3 [] → f_K_spared_22 N   h y0 = some (r, g) → W p l e { frames := 10, cells := h_x g - n0, slots := h_s g - s0, locals := 190 } s m args below meth c H locs cells slots (eT D cy z rJ r g below args s (h_x g - n0) (h_s g - s0)) (F0 m 22 ls [.long y0]) := by
  obtain ⟨hx, hb, hr, hml, hown, hts, hlk⟩ := id C
  intro cells slots h y0 H locs ls w hsl hl hE
  have hcc : cells ≤ h_x g - n0 ∧ slots ≤ h_s g - s0 := by
    have q1 := mo_K_spared_22 N  h y0 _ _ hE
    have q2 := wd_x w
    have q3 := q1.1
    have q4 := q1.2.1
    omega
  unfold f_K_spared_22 at hE
  refine W.widen (k := h_x g - n0) (n := h_s g - s0) hcc.1 hcc.2 ?_
  exact w_lretT C w hE dX11_spared_22
set_option maxRecDepth 20000 in
set_option maxHeartbeats 4000000 in
theorem b_K_spared_18 {p : Program} {l : Launch} {e : Env} {s : State} {m : MethodId} {args : Array Value} {below : List Frame} {meth : Method} {c : Code} {D : va_G} {cy : cyT} {z : Nat} (C : MX p s m args meth c cX11_spared 3 ((some .long)) RX11 (Cond.code yX11_spared cX11_spared 3 ((some .long)) :: GW)) (hst : l.stackTraces = false) (hxt : ∀ x ∈ c.exceptionTable.toList, False) (N : Nat) (n0 s0 : Nat) (hn0 : s.heap.size = n0) {r : (Int64 ⊕ Nat)} {g : hS}  : ∀  (cells slots : Nat) (h : hS) (x2 : Int32) (y0 : Option Nat) (y1 : Option Nat) (y2 : Option Nat) (H : Heap) (locs : List Loc) (ls : Array Slot), wd D cy z s cells h H locs → h_s h = s0 + slots → lv_has ls 3 [(2, .int x2)] → f_K_spared_18 N   h x2 y0 y1 y2 = some (r, g) → W p l e { frames := 10, cells := h_x g - n0, slots := h_s g - s0, locals := 190 } s m args below meth c H locs cells slots (eT D cy z rJ r g below args s (h_x g - n0) (h_s g - s0)) (F0 m 18 ls [va_rf y2, va_rf y1, va_rf y0]) := by
  obtain ⟨hx, hb, hr, hml, hown, hts, hlk⟩ := id C
  intro cells slots h x2 y0 y1 y2 H locs ls w hsl hl hE
  have hcc : cells ≤ h_x g - n0 ∧ slots ≤ h_s g - s0 := by
    have q1 := mo_K_spared_18 N  h x2 y0 y1 y2 _ _ hE
    have q2 := wd_x w
    have q3 := q1.1
    have q4 := q1.2.1
    omega
  unfold f_K_spared_18 at hE
  refine lv_iload_n hx hb dX11_spared_18 rfl (lv_at hl 0 rfl) ?_
  refine w_VAJ GW_good (n := 3) (F := 6) (Lc := 167) (o := y0) (av := [va_rf y1, va_rf y2, .int x2]) (rest := []) C w rfl (by decide) (fun a r g hf => k_K_sparedBy l D cy z N h a y1 y2 x2 r g hf) gw_51_9 gw_51_10 gw_51_11 gw_1_2 gw_51_12 (by decide +kernel) ⟨Nat.le_of_ble_eq_true rfl, Nat.le_of_ble_eq_true rfl⟩ rfl hl.1 rfl (Nat.le_of_ble_eq_true rfl) dX11_spared_19 (fun a => (mo_K_sparedBy N h a y1 y2 x2)) (fun a v1 h2 q1 q2 => by have u1 := (mo_K_sparedBy N h a y1 y2 x2) _ _ q1; have u2 := mo_K_spared_22 N   h2 v1 _ _ q2; have u3 := wd_x w; have u4 := u1.1; have u5 := u1.2.1; have u6 := u2.1; have u7 := u2.2.1; show cells + _ ≤ h_x g - n0 ∧ slots + _ ≤ h_s g - s0; omega) hE (fun v1 h2 H locs w hsh2 e1 => ?_)
  exact b_K_spared_22 C hst hxt N n0 s0 hn0   _ _ h2 v1 _ _ ls w (by have u5 := hsh2.2.1; have u8 := hsl; omega) (lv_sub hl [] rfl) e1
set_option maxRecDepth 20000 in
set_option maxHeartbeats 4000000 in
theorem b_K_spared_13 {p : Program} {l : Launch} {e : Env} {s : State} {m : MethodId} {args : Array Value} {below : List Frame} {meth : Method} {c : Code} {D : va_G} {cy : cyT} {z : Nat} (C : MX p s m args meth c cX11_spared 3 ((some .long)) RX11 (Cond.code yX11_spared cX11_spared 3 ((some .long)) :: GW)) (hst : l.stackTraces = false) (hxt : ∀ x ∈ c.exceptionTable.toList, False) (N : Nat) (n0 s0 : Nat) (hn0 : s.heap.size = n0) {r : (Int64 ⊕ Nat)} {g : hS}  : ∀  (cells slots : Nat) (h : hS) (th : Nat) (x1 : Int32) (x2 : Int32) (y0 : Option Nat) (y1 : Option Nat) (H : Heap) (locs : List Loc) (ls : Array Slot), wd D cy z s cells h H locs → h_s h = s0 + slots → lv_has ls 3 [(0, .ref th), (1, .int x1), (2, .int x2)] → f_K_spared_13 N   h th x1 x2 y0 y1 = some (r, g) → W p l e { frames := 10, cells := h_x g - n0, slots := h_s g - s0, locals := 190 } s m args below meth c H locs cells slots (eT D cy z rJ r g below args s (h_x g - n0) (h_s g - s0)) (F0 m 13 ls [va_rf y1, va_rf y0]) := by
  obtain ⟨hx, hb, hr, hml, hown, hts, hlk⟩ := id C
  intro cells slots h th x1 x2 y0 y1 H locs ls w hsl hl hE
  have hcc : cells ≤ h_x g - n0 ∧ slots ≤ h_s g - s0 := by
    have q1 := mo_K_spared_13 N  h th x1 x2 y0 y1 _ _ hE
    have q2 := wd_x w
    have q3 := q1.1
    have q4 := q1.2.1
    omega
  unfold f_K_spared_13 at hE
  refine lv_aload_n hx hb dX11_spared_13 rfl (lv_at hl 0 rfl) ?_
  refine lv_iload_n hx hb dX11_spared_14 rfl (lv_at hl 1 rfl) ?_
  refine w_VTR GW_good (n := 1) (F := 8) (Lc := 122) (ob := some th) (av := [.int x1]) (rest := [va_rf y1, va_rf y0]) hxt hn0 hsl C w rfl (by decide) (fun a r g hf => k_K_curveOf l hst D cy z N h a x1 r g hf) gw_16_2 gw_16_3 gw_16_4 gw_1_2 gw_16_5 (by decide +kernel) ⟨Nat.le_of_ble_eq_true rfl, Nat.le_of_ble_eq_true rfl⟩ rfl hl.1 rfl (cat_le (Nat.le_of_ble_eq_true rfl)) dX11_spared_15 (fun a => (mo_K_curveOf N h a x1)) (fun v1 h2 => mo_K_spared_18 N   h2 x2 y0 y1 v1) hE (fun v1 h2 H locs w hsh2 e1 => ?_)
  exact b_K_spared_18 C hst hxt N n0 s0 hn0   _ _ h2 x2 y0 y1 v1 _ _ ls w (by have u5 := hsh2.2.1; have u8 := hsl; omega) (lv_sub hl [2] rfl) e1
set_option maxRecDepth 20000 in
set_option maxHeartbeats 4000000 in
theorem b_K_spared_6 {p : Program} {l : Launch} {e : Env} {s : State} {m : MethodId} {args : Array Value} {below : List Frame} {meth : Method} {c : Code} {D : va_G} {cy : cyT} {z : Nat} (C : MX p s m args meth c cX11_spared 3 ((some .long)) RX11 (Cond.code yX11_spared cX11_spared 3 ((some .long)) :: GW)) (hst : l.stackTraces = false) (hxt : ∀ x ∈ c.exceptionTable.toList, False) (N : Nat) (n0 s0 : Nat) (hn0 : s.heap.size = n0) {r : (Int64 ⊕ Nat)} {g : hS}  : ∀  (cells slots : Nat) (h : hS) (th : Nat) (x1 : Int32) (x2 : Int32) (y0 : Option Nat) (H : Heap) (locs : List Loc) (ls : Array Slot), wd D cy z s cells h H locs → h_s h = s0 + slots → lv_has ls 3 [(0, .ref th), (1, .int x1), (2, .int x2)] → f_K_spared_6 N   h th x1 x2 y0 = some (r, g) → W p l e { frames := 10, cells := h_x g - n0, slots := h_s g - s0, locals := 190 } s m args below meth c H locs cells slots (eT D cy z rJ r g below args s (h_x g - n0) (h_s g - s0)) (F0 m 6 ls [va_rf y0]) := by
  obtain ⟨hx, hb, hr, hml, hown, hts, hlk⟩ := id C
  intro cells slots h th x1 x2 y0 H locs ls w hsl hl hE
  have hcc : cells ≤ h_x g - n0 ∧ slots ≤ h_s g - s0 := by
    have q1 := mo_K_spared_6 N  h th x1 x2 y0 _ _ hE
    have q2 := wd_x w
    have q3 := q1.1
    have q4 := q1.2.1
    omega
  unfold f_K_spared_6 at hE
  refine lv_pop hx hb dX11_spared_6 (va_rf_cat _) ?_
  refine lv_aload_n hx hb dX11_spared_7 rfl (lv_at hl 0 rfl) ?_
  refine lv_aload_n hx hb dX11_spared_8 rfl (lv_at hl 0 rfl) ?_
  refine lv_iload_n hx hb dX11_spared_9 rfl (lv_at hl 1 rfl) ?_
  refine w_VTR GW_good (n := 1) (F := 8) (Lc := 122) (ob := some th) (av := [.int x1]) (rest := [.ref th]) hxt hn0 hsl C w rfl (by decide) (fun a r g hf => k_K_chainOf l hst D cy z N h a x1 r g hf) gw_32_8 gw_32_9 gw_32_10 gw_1_2 gw_32_11 (by decide +kernel) ⟨Nat.le_of_ble_eq_true rfl, Nat.le_of_ble_eq_true rfl⟩ rfl hl.1 rfl (Nat.le_of_ble_eq_true rfl) dX11_spared_10 (fun a => (mo_K_chainOf N h a x1)) (fun v1 h2 => mo_K_spared_13 N   h2 th x1 x2 (some th) v1) hE (fun v1 h2 H locs w hsh2 e1 => ?_)
  exact b_K_spared_13 C hst hxt N n0 s0 hn0   _ _ h2 th x1 x2 (some th) v1 _ _ ls w (by have u5 := hsh2.2.1; have u8 := hsl; omega) (lv_sub hl [0, 1, 2] rfl) e1
set_option maxRecDepth 20000 in
set_option maxHeartbeats 4000000 in
theorem k_K_spared (l : Launch) (hst : l.stackTraces = false) (D : va_G) (cy : cyT) (z : Nat) (N : Nat) (h : hS) (th : Nat) (x1 : Int32) (x2 : Int32) (r : (Int64 ⊕ Nat)) (g : hS) (hE : f_K_spared N h th x1 x2 = some (r, g)) : ctT l yX11_spared (Cond.code yX11_spared cX11_spared 3 ((some .long)) :: GW) { frames := 10, cells := h_x g - h_x h, slots := h_s g - h_s h, locals := 190 } D cy z h [.ref th, .int x1, .int x2] rJ r g := by
  refine ctT_of (cc := cX11_spared) (maxL := 3) (ret := (some .long)) (by decide) ?_
  intro p e s m args below meth c s₁ B hml hxt hv
  obtain ⟨rfl, hw⟩ := hv
  have C : MX p s m ([.ref th, .int x1, .int x2] : List Value).toArray meth c cX11_spared 3 ((some .long)) RX11 (Cond.code yX11_spared cX11_spared 3 ((some .long)) :: GW) := ⟨B.exec, B.bytes, B.returns, hml, findClass_of_methodNamed B.named, atoms_spec (ws := Cond.code yX11_spared cX11_spared 3 ((some .long)) :: GW) B.pre, B.notSynchronized⟩
  obtain ⟨hx, hb, hr, hml, hown, hts, hlk⟩ := id C
  have w := wd_of hw
  have hsl : h_s h = h_s h + 0 := rfl
  have hn0 : s.heap.size = h_x h := (wd_x w).1
  obtain ⟨ls, hen, hl⟩ : ∃ ls : Array Slot, entryFrame m ([.ref th, .int x1, .int x2] : List Value).toArray 3 = F0 m 0 ls [] ∧ lv_has ls 3 [(0, .ref th), (1, .int x1), (2, .int x2)] := by
    exact ⟨_, lg_entry_eq _ _ _, lv_entry _ (Nat.le_of_ble_eq_true rfl)⟩
  rw [hen]
  have hcc : 0 ≤ h_x g - h_x h ∧ 0 ≤ h_s g - h_s h := ⟨Nat.zero_le _, Nat.zero_le _⟩
  unfold f_K_spared at hE
  refine lv_aload_n hx hb dX11_spared_0 rfl (lv_at hl 0 rfl) ?_
  refine lv_iload_n hx hb dX11_spared_1 rfl (lv_at hl 1 rfl) ?_
  refine lv_iload_n hx hb dX11_spared_2 rfl (lv_at hl 2 rfl) ?_
  refine w_VTR GW_good (n := 2) (F := 9) (Lc := 143) (ob := some th) (av := [.int x1, .int x2]) (rest := []) hxt hn0 hsl C w rfl (by decide) (fun a r g hf => k_K_stepOf l hst D cy z N h a x1 x2 r g hf) gw_33_4 gw_33_5 gw_33_6 gw_1_2 gw_33_7 (by decide +kernel) ⟨Nat.le_of_ble_eq_true rfl, Nat.le_of_ble_eq_true rfl⟩ rfl hl.1 rfl (Nat.le_of_ble_eq_true rfl) dX11_spared_3 (fun a => (mo_K_stepOf N h a x1 x2)) (fun v1 h2 => mo_K_spared_6 N   h2 th x1 x2 v1) hE (fun v1 h2 H locs w hsh2 e1 => ?_)
  exact b_K_spared_6 C hst hxt N (h_x h) (h_s h) hn0   _ _ h2 th x1 x2 v1 _ _ ls w (by have u5 := hsh2.2.1; have u8 := hsl; omega) (lv_sub hl [0, 1, 2] rfl) e1
set_option maxRecDepth 20000 in
set_option maxHeartbeats 4000000 in
theorem b_K_dearest_57 {p : Program} {l : Launch} {e : Env} {s : State} {m : MethodId} {args : Array Value} {below : List Frame} {meth : Method} {c : Code} {D : va_G} {cy : cyT} {z : Nat} (C : MX p s m args meth c cX11_dearest 9 ((some .int)) RX11 (Cond.code yX11_dearest cX11_dearest 9 ((some .int)) :: GW)) (hst : l.stackTraces = false) (hxt : ∀ x ∈ c.exceptionTable.toList, False) (N : Nat) (n0 s0 : Nat) (hn0 : s.heap.size = n0) {r : (Int32 ⊕ Nat)} {g : hS} {rc14 : hS → Nat → Int32 → Option Nat → Int32 → Int64 → Int32 → Option ((Int32 ⊕ Nat) × hS)} (hsh14 : ∀ (h : hS) (th : Nat) (x1 : Int32) (a2 : Option Nat) (x3 : Int32) (x4 : Int64) (x6 : Int32), Mo h (rc14 h th x1 a2 x3 x4 x6)) (hrc14 : ∀ (cells slots : Nat) (h : hS) (th : Nat) (x1 : Int32) (a2 : Option Nat) (x3 : Int32) (x4 : Int64) (x6 : Int32) (H : Heap) (locs : List Loc) (ls : Array Slot), wd D cy z s cells h H locs → h_s h = s0 + slots → lv_has ls 9 [(0, .ref th), (1, .int x1), (2, va_rf a2), (3, .int x3), (4, .long x4), (6, .int x6)] → rc14 h th x1 a2 x3 x4 x6 = some (r, g) → W p l e { frames := 9, cells := h_x g - n0, slots := h_s g - s0, locals := 190 } s m args below meth c H locs cells slots (eT D cy z rI r g below args s (h_x g - n0) (h_s g - s0)) (F0 m 14 ls [])) : ∀  (cells slots : Nat) (h : hS) (th : Nat) (x1 : Int32) (a2 : Option Nat) (x3 : Int32) (x4 : Int64) (x6 : Int32) (H : Heap) (locs : List Loc) (ls : Array Slot), wd D cy z s cells h H locs → h_s h = s0 + slots → lv_has ls 9 [(0, .ref th), (1, .int x1), (2, va_rf a2), (3, .int x3), (4, .long x4), (6, .int x6)] → f_K_dearest_57 N rc14  h th x1 a2 x3 x4 x6 = some (r, g) → W p l e { frames := 9, cells := h_x g - n0, slots := h_s g - s0, locals := 190 } s m args below meth c H locs cells slots (eT D cy z rI r g below args s (h_x g - n0) (h_s g - s0)) (F0 m 57 ls []) := by
  obtain ⟨hx, hb, hr, hml, hown, hts, hlk⟩ := id C
  intro cells slots h th x1 a2 x3 x4 x6 H locs ls w hsl hl hE
  have hcc : cells ≤ h_x g - n0 ∧ slots ≤ h_s g - s0 := by
    have q1 := mo_K_dearest_57 N hsh14 h th x1 a2 x3 x4 x6 _ _ hE
    have q2 := wd_x w
    have q3 := q1.1
    have q4 := q1.2.1
    omega
  unfold f_K_dearest_57 at hE
  obtain ⟨v1, ev1, e1⟩ := bn_some hE
  refine lv_iinc (v := v1) (lv' := [(6, .int v1), (0, .ref th), (1, .int x1), (2, va_rf a2), (3, .int x3), (4, .long x4)]) hx hb dX11_dearest_57 hl (k := 5) rfl (by rw [ev1]; rfl) (by decide) rfl (fun ls hl => ?_)
  refine lv_goto (tgt := 14) hx hb dX11_dearest_60 (by decide) ?_
  exact hrc14 _ _ h th x1 a2 x3 x4 v1 _ _ ls w hsl (lv_sub hl [1, 2, 3, 4, 5, 0] rfl) e1
set_option maxRecDepth 20000 in
set_option maxHeartbeats 4000000 in
theorem b_K_dearest_50 {p : Program} {l : Launch} {e : Env} {s : State} {m : MethodId} {args : Array Value} {below : List Frame} {meth : Method} {c : Code} {D : va_G} {cy : cyT} {z : Nat} (C : MX p s m args meth c cX11_dearest 9 ((some .int)) RX11 (Cond.code yX11_dearest cX11_dearest 9 ((some .int)) :: GW)) (hst : l.stackTraces = false) (hxt : ∀ x ∈ c.exceptionTable.toList, False) (N : Nat) (n0 s0 : Nat) (hn0 : s.heap.size = n0) {r : (Int32 ⊕ Nat)} {g : hS} {rc14 : hS → Nat → Int32 → Option Nat → Int32 → Int64 → Int32 → Option ((Int32 ⊕ Nat) × hS)} (hsh14 : ∀ (h : hS) (th : Nat) (x1 : Int32) (a2 : Option Nat) (x3 : Int32) (x4 : Int64) (x6 : Int32), Mo h (rc14 h th x1 a2 x3 x4 x6)) (hrc14 : ∀ (cells slots : Nat) (h : hS) (th : Nat) (x1 : Int32) (a2 : Option Nat) (x3 : Int32) (x4 : Int64) (x6 : Int32) (H : Heap) (locs : List Loc) (ls : Array Slot), wd D cy z s cells h H locs → h_s h = s0 + slots → lv_has ls 9 [(0, .ref th), (1, .int x1), (2, va_rf a2), (3, .int x3), (4, .long x4), (6, .int x6)] → rc14 h th x1 a2 x3 x4 x6 = some (r, g) → W p l e { frames := 9, cells := h_x g - n0, slots := h_s g - s0, locals := 190 } s m args below meth c H locs cells slots (eT D cy z rI r g below args s (h_x g - n0) (h_s g - s0)) (F0 m 14 ls [])) : ∀  (cells slots : Nat) (h : hS) (th : Nat) (x1 : Int32) (a2 : Option Nat) (x6 : Int32) (x7 : Int64) (H : Heap) (locs : List Loc) (ls : Array Slot), wd D cy z s cells h H locs → h_s h = s0 + slots → lv_has ls 9 [(0, .ref th), (1, .int x1), (2, va_rf a2), (6, .int x6), (7, .long x7)] → f_K_dearest_50 N rc14  h th x1 a2 x6 x7 = some (r, g) → W p l e { frames := 9, cells := h_x g - n0, slots := h_s g - s0, locals := 190 } s m args below meth c H locs cells slots (eT D cy z rI r g below args s (h_x g - n0) (h_s g - s0)) (F0 m 50 ls []) := by
  obtain ⟨hx, hb, hr, hml, hown, hts, hlk⟩ := id C
  intro cells slots h th x1 a2 x6 x7 H locs ls w hsl hl hE
  have hcc : cells ≤ h_x g - n0 ∧ slots ≤ h_s g - s0 := by
    have q1 := mo_K_dearest_50 N hsh14 h th x1 a2 x6 x7 _ _ hE
    have q2 := wd_x w
    have q3 := q1.1
    have q4 := q1.2.1
    omega
  unfold f_K_dearest_50 at hE
  refine lv_iload hx hb dX11_dearest_50 (lv_at hl 3 rfl) ?_
  refine lv_istore_n (lv' := [(3, .int x6), (0, .ref th), (1, .int x1), (2, va_rf a2), (6, .int x6), (7, .long x7)]) hx hb dX11_dearest_52 rfl hl (by decide) (by cases a2 <;> rfl) (fun ls hl => ?_)
  refine lv_lload hx hb dX11_dearest_53 (lv_at hl 5 rfl) ?_
  refine lv_lstore (lv' := [(4, .long x7), (3, .int x6), (0, .ref th), (1, .int x1), (2, va_rf a2), (6, .int x6), (7, .long x7)]) hx hb dX11_dearest_55 hl (by decide) rfl (fun ls hl => ?_)
  exact b_K_dearest_57 C hst hxt N n0 s0 hn0 hsh14 hrc14  _ _ h th x1 a2 x6 x7 x6 _ _ ls w hsl (lv_sub hl [2, 3, 4, 1, 0, 5] rfl) hE
set_option maxRecDepth 20000 in
set_option maxHeartbeats 4000000 in
theorem b_K_dearest_35 {p : Program} {l : Launch} {e : Env} {s : State} {m : MethodId} {args : Array Value} {below : List Frame} {meth : Method} {c : Code} {D : va_G} {cy : cyT} {z : Nat} (C : MX p s m args meth c cX11_dearest 9 ((some .int)) RX11 (Cond.code yX11_dearest cX11_dearest 9 ((some .int)) :: GW)) (hst : l.stackTraces = false) (hxt : ∀ x ∈ c.exceptionTable.toList, False) (N : Nat) (n0 s0 : Nat) (hn0 : s.heap.size = n0) {r : (Int32 ⊕ Nat)} {g : hS} {rc14 : hS → Nat → Int32 → Option Nat → Int32 → Int64 → Int32 → Option ((Int32 ⊕ Nat) × hS)} (hsh14 : ∀ (h : hS) (th : Nat) (x1 : Int32) (a2 : Option Nat) (x3 : Int32) (x4 : Int64) (x6 : Int32), Mo h (rc14 h th x1 a2 x3 x4 x6)) (hrc14 : ∀ (cells slots : Nat) (h : hS) (th : Nat) (x1 : Int32) (a2 : Option Nat) (x3 : Int32) (x4 : Int64) (x6 : Int32) (H : Heap) (locs : List Loc) (ls : Array Slot), wd D cy z s cells h H locs → h_s h = s0 + slots → lv_has ls 9 [(0, .ref th), (1, .int x1), (2, va_rf a2), (3, .int x3), (4, .long x4), (6, .int x6)] → rc14 h th x1 a2 x3 x4 x6 = some (r, g) → W p l e { frames := 9, cells := h_x g - n0, slots := h_s g - s0, locals := 190 } s m args below meth c H locs cells slots (eT D cy z rI r g below args s (h_x g - n0) (h_s g - s0)) (F0 m 14 ls [])) : ∀  (cells slots : Nat) (h : hS) (th : Nat) (x1 : Int32) (a2 : Option Nat) (x3 : Int32) (x4 : Int64) (x6 : Int32) (y0 : Int64) (H : Heap) (locs : List Loc) (ls : Array Slot), wd D cy z s cells h H locs → h_s h = s0 + slots → lv_has ls 9 [(0, .ref th), (1, .int x1), (2, va_rf a2), (3, .int x3), (4, .long x4), (6, .int x6)] → f_K_dearest_35 N rc14  h th x1 a2 x3 x4 x6 y0 = some (r, g) → W p l e { frames := 9, cells := h_x g - n0, slots := h_s g - s0, locals := 190 } s m args below meth c H locs cells slots (eT D cy z rI r g below args s (h_x g - n0) (h_s g - s0)) (F0 m 35 ls [.long y0]) := by
  obtain ⟨hx, hb, hr, hml, hown, hts, hlk⟩ := id C
  intro cells slots h th x1 a2 x3 x4 x6 y0 H locs ls w hsl hl hE
  have hcc : cells ≤ h_x g - n0 ∧ slots ≤ h_s g - s0 := by
    have q1 := mo_K_dearest_35 N hsh14 h th x1 a2 x3 x4 x6 y0 _ _ hE
    have q2 := wd_x w
    have q3 := q1.1
    have q4 := q1.2.1
    omega
  unfold f_K_dearest_35 at hE
  refine lv_lstore (lv' := [(7, .long y0), (0, .ref th), (1, .int x1), (2, va_rf a2), (3, .int x3), (4, .long x4), (6, .int x6)]) hx hb dX11_dearest_35 hl (by decide) rfl (fun ls hl => ?_)
  refine lv_iload_n hx hb dX11_dearest_37 rfl (lv_at hl 4 rfl) ?_
  refine lv_iconst (v := -1) hx hb dX11_dearest_38 (by decide) ?_
  refine w_icmp_eq (tgt := 50) C dX11_dearest_39 (by decide) hE (fun hc e1 => ?_) (fun hc e1 => ?_)
  · exact b_K_dearest_50 C hst hxt N n0 s0 hn0 hsh14 hrc14  _ _ h th x1 a2 x6 y0 _ _ ls w hsl (lv_sub hl [1, 2, 3, 6, 0] rfl) e1
  · refine lv_lload hx hb dX11_dearest_42 (lv_at hl 0 rfl) ?_
    refine lv_lload hx hb dX11_dearest_44 (lv_at hl 5 rfl) ?_
    refine W.lcmp hx hb dX11_dearest_46 ?_
    refine w_if_le (tgt := 57) C dX11_dearest_47 (by decide) e1 (fun hc e2 => ?_) (fun hc e2 => ?_)
    · exact b_K_dearest_57 C hst hxt N n0 s0 hn0 hsh14 hrc14  _ _ h th x1 a2 x3 x4 x6 _ _ ls w hsl (lv_sub hl [1, 2, 3, 4, 5, 6] rfl) e2
    · exact b_K_dearest_50 C hst hxt N n0 s0 hn0 hsh14 hrc14  _ _ h th x1 a2 x6 y0 _ _ ls w hsl (lv_sub hl [1, 2, 3, 6, 0] rfl) e2
set_option maxRecDepth 20000 in
set_option maxHeartbeats 4000000 in
theorem b_K_dearest_30 {p : Program} {l : Launch} {e : Env} {s : State} {m : MethodId} {args : Array Value} {below : List Frame} {meth : Method} {c : Code} {D : va_G} {cy : cyT} {z : Nat} (C : MX p s m args meth c cX11_dearest 9 ((some .int)) RX11 (Cond.code yX11_dearest cX11_dearest 9 ((some .int)) :: GW)) (hst : l.stackTraces = false) (hxt : ∀ x ∈ c.exceptionTable.toList, False) (N : Nat) (n0 s0 : Nat) (hn0 : s.heap.size = n0) {r : (Int32 ⊕ Nat)} {g : hS} {rc14 : hS → Nat → Int32 → Option Nat → Int32 → Int64 → Int32 → Option ((Int32 ⊕ Nat) × hS)} (hsh14 : ∀ (h : hS) (th : Nat) (x1 : Int32) (a2 : Option Nat) (x3 : Int32) (x4 : Int64) (x6 : Int32), Mo h (rc14 h th x1 a2 x3 x4 x6)) (hrc14 : ∀ (cells slots : Nat) (h : hS) (th : Nat) (x1 : Int32) (a2 : Option Nat) (x3 : Int32) (x4 : Int64) (x6 : Int32) (H : Heap) (locs : List Loc) (ls : Array Slot), wd D cy z s cells h H locs → h_s h = s0 + slots → lv_has ls 9 [(0, .ref th), (1, .int x1), (2, va_rf a2), (3, .int x3), (4, .long x4), (6, .int x6)] → rc14 h th x1 a2 x3 x4 x6 = some (r, g) → W p l e { frames := 9, cells := h_x g - n0, slots := h_s g - s0, locals := 190 } s m args below meth c H locs cells slots (eT D cy z rI r g below args s (h_x g - n0) (h_s g - s0)) (F0 m 14 ls [])) : ∀  (cells slots : Nat) (h : hS) (th : Nat) (x1 : Int32) (a2 : Option Nat) (x3 : Int32) (x4 : Int64) (x6 : Int32) (y0 : Option Nat) (y1 : Option Nat) (y2 : Option Nat) (H : Heap) (locs : List Loc) (ls : Array Slot), wd D cy z s cells h H locs → h_s h = s0 + slots → lv_has ls 9 [(0, .ref th), (1, .int x1), (2, va_rf a2), (3, .int x3), (4, .long x4), (6, .int x6)] → f_K_dearest_30 N rc14  h th x1 a2 x3 x4 x6 y0 y1 y2 = some (r, g) → W p l e { frames := 9, cells := h_x g - n0, slots := h_s g - s0, locals := 190 } s m args below meth c H locs cells slots (eT D cy z rI r g below args s (h_x g - n0) (h_s g - s0)) (F0 m 30 ls [va_rf y2, va_rf y1, va_rf y0]) := by
  obtain ⟨hx, hb, hr, hml, hown, hts, hlk⟩ := id C
  intro cells slots h th x1 a2 x3 x4 x6 y0 y1 y2 H locs ls w hsl hl hE
  have hcc : cells ≤ h_x g - n0 ∧ slots ≤ h_s g - s0 := by
    have q1 := mo_K_dearest_30 N hsh14 h th x1 a2 x3 x4 x6 y0 y1 y2 _ _ hE
    have q2 := wd_x w
    have q3 := q1.1
    have q4 := q1.2.1
    omega
  unfold f_K_dearest_30 at hE
  refine lv_iload hx hb dX11_dearest_30 (lv_at hl 5 rfl) ?_
  refine w_VAJ GW_good (n := 3) (F := 6) (Lc := 167) (o := y0) (av := [va_rf y1, va_rf y2, .int x6]) (rest := []) C w rfl (by decide) (fun a r g hf => k_K_sparedBy l D cy z N h a y1 y2 x6 r g hf) gw_51_9 gw_51_10 gw_51_11 gw_1_2 gw_51_12 (by decide +kernel) ⟨Nat.le_of_ble_eq_true rfl, Nat.le_of_ble_eq_true rfl⟩ rfl hl.1 rfl (Nat.le_of_ble_eq_true rfl) dX11_dearest_32 (fun a => (mo_K_sparedBy N h a y1 y2 x6)) (fun a v1 h2 q1 q2 => by have u1 := (mo_K_sparedBy N h a y1 y2 x6) _ _ q1; have u2 := mo_K_dearest_35 N hsh14  h2 th x1 a2 x3 x4 x6 v1 _ _ q2; have u3 := wd_x w; have u4 := u1.1; have u5 := u1.2.1; have u6 := u2.1; have u7 := u2.2.1; show cells + _ ≤ h_x g - n0 ∧ slots + _ ≤ h_s g - s0; omega) hE (fun v1 h2 H locs w hsh2 e1 => ?_)
  exact b_K_dearest_35 C hst hxt N n0 s0 hn0 hsh14 hrc14  _ _ h2 th x1 a2 x3 x4 x6 v1 _ _ ls w (by have u5 := hsh2.2.1; have u8 := hsl; omega) (lv_sub hl [0, 1, 2, 3, 4, 5] rfl) e1
set_option maxRecDepth 20000 in
set_option maxHeartbeats 4000000 in
theorem b_K_dearest_14 {p : Program} {l : Launch} {e : Env} {s : State} {m : MethodId} {args : Array Value} {below : List Frame} {meth : Method} {c : Code} {D : va_G} {cy : cyT} {z : Nat} (C : MX p s m args meth c cX11_dearest 9 ((some .int)) RX11 (Cond.code yX11_dearest cX11_dearest 9 ((some .int)) :: GW)) (hst : l.stackTraces = false) (hxt : ∀ x ∈ c.exceptionTable.toList, False) (N : Nat) (n0 s0 : Nat) (hn0 : s.heap.size = n0) {r : (Int32 ⊕ Nat)} {g : hS}  : ∀ (n : Nat) (cells slots : Nat) (h : hS) (th : Nat) (x1 : Int32) (a2 : Option Nat) (x3 : Int32) (x4 : Int64) (x6 : Int32) (H : Heap) (locs : List Loc) (ls : Array Slot), wd D cy z s cells h H locs → h_s h = s0 + slots → lv_has ls 9 [(0, .ref th), (1, .int x1), (2, va_rf a2), (3, .int x3), (4, .long x4), (6, .int x6)] → f_K_dearest_14 N  n h th x1 a2 x3 x4 x6 = some (r, g) → W p l e { frames := 9, cells := h_x g - n0, slots := h_s g - s0, locals := 190 } s m args below meth c H locs cells slots (eT D cy z rI r g below args s (h_x g - n0) (h_s g - s0)) (F0 m 14 ls []) := by
  obtain ⟨hx, hb, hr, hml, hown, hts, hlk⟩ := id C
  intro n
  induction n with
  | zero =>
    intro cells slots h th x1 a2 x3 x4 x6 H locs ls w hsl hl hE
    cases hE
  | succ n ih =>
    intro cells slots h th x1 a2 x3 x4 x6 H locs ls w hsl hl hE
    have hcc : cells ≤ h_x g - n0 ∧ slots ≤ h_s g - s0 := by
      have q1 := mo_K_dearest_14 N  (n + 1) h th x1 a2 x3 x4 x6 _ _ hE
      have q2 := wd_x w
      have q3 := q1.1
      have q4 := q1.2.1
      omega
    unfold f_K_dearest_14 at hE
    refine lv_iload hx hb dX11_dearest_14 (lv_at hl 5 rfl) ?_
    refine w_aload_n C dX11_dearest_16 rfl (lv_at hl 2 rfl) ?_
    refine w_gI (r := a2) (ci := 2) (k := 1) C w rfl (by decide) (GF_wsX10 _) (by decide) rfl (List.mem_cons_of_mem _ gw_23_10) rfl dX11_dearest_17 hE (fun v1 e1 => ?_)
    refine w_icmp_ge (tgt := 63) C dX11_dearest_20 (by decide) e1 (fun hc e2 => ?_) (fun hc e2 => ?_)
    · refine lv_iload_n hx hb dX11_dearest_63 rfl (lv_at hl 3 rfl) ?_
      refine W.widen (k := h_x g - n0) (n := h_s g - s0) hcc.1 hcc.2 ?_
      exact w_iretT C w e2 dX11_dearest_64
    · refine lv_aload_n hx hb dX11_dearest_23 rfl (lv_at hl 0 rfl) ?_
      refine w_aload_n C dX11_dearest_24 rfl (lv_at hl 2 rfl) ?_
      refine lv_aload_n hx hb dX11_dearest_25 rfl (lv_at hl 0 rfl) ?_
      refine lv_iload_n hx hb dX11_dearest_26 rfl (lv_at hl 1 rfl) ?_
      refine w_VTR GW_good (n := 1) (F := 8) (Lc := 122) (ob := some th) (av := [.int x1]) (rest := [va_rf a2, .ref th]) hxt hn0 hsl C w rfl (by decide) (fun a r g hf => k_K_curveOf l hst D cy z N h a x1 r g hf) gw_16_2 gw_16_3 gw_16_4 gw_1_2 gw_16_5 (by decide +kernel) ⟨Nat.le_of_ble_eq_true rfl, Nat.le_of_ble_eq_true rfl⟩ rfl hl.1 rfl (cat_le (Nat.le_of_ble_eq_true rfl)) dX11_dearest_27 (fun a => (mo_K_curveOf N h a x1)) (fun v2 h3 => mo_K_dearest_30 N (mo_K_dearest_14 N  n)  h3 th x1 a2 x3 x4 x6 (some th) a2 v2) e2 (fun v2 h3 H locs w hsh3 e3 => ?_)
      exact b_K_dearest_30 C hst hxt N n0 s0 hn0 (mo_K_dearest_14 N  n) ih  _ _ h3 th x1 a2 x3 x4 x6 (some th) a2 v2 _ _ ls w (by have u5 := hsh3.2.1; have u8 := hsl; omega) (lv_sub hl [0, 1, 2, 3, 4, 5] rfl) e3
set_option maxRecDepth 20000 in
set_option maxHeartbeats 4000000 in
theorem b_K_dearest_5 {p : Program} {l : Launch} {e : Env} {s : State} {m : MethodId} {args : Array Value} {below : List Frame} {meth : Method} {c : Code} {D : va_G} {cy : cyT} {z : Nat} (C : MX p s m args meth c cX11_dearest 9 ((some .int)) RX11 (Cond.code yX11_dearest cX11_dearest 9 ((some .int)) :: GW)) (hst : l.stackTraces = false) (hxt : ∀ x ∈ c.exceptionTable.toList, False) (N : Nat) (n0 s0 : Nat) (hn0 : s.heap.size = n0) {r : (Int32 ⊕ Nat)} {g : hS}  : ∀  (cells slots : Nat) (h : hS) (th : Nat) (x1 : Int32) (y0 : Option Nat) (H : Heap) (locs : List Loc) (ls : Array Slot), wd D cy z s cells h H locs → h_s h = s0 + slots → lv_has ls 9 [(0, .ref th), (1, .int x1)] → f_K_dearest_5 N   h th x1 y0 = some (r, g) → W p l e { frames := 9, cells := h_x g - n0, slots := h_s g - s0, locals := 190 } s m args below meth c H locs cells slots (eT D cy z rI r g below args s (h_x g - n0) (h_s g - s0)) (F0 m 5 ls [va_rf y0]) := by
  obtain ⟨hx, hb, hr, hml, hown, hts, hlk⟩ := id C
  intro cells slots h th x1 y0 H locs ls w hsl hl hE
  have hcc : cells ≤ h_x g - n0 ∧ slots ≤ h_s g - s0 := by
    have q1 := mo_K_dearest_5 N  h th x1 y0 _ _ hE
    have q2 := wd_x w
    have q3 := q1.1
    have q4 := q1.2.1
    omega
  unfold f_K_dearest_5 at hE
  refine w_astore_n (r := y0) (lv' := [(2, va_rf y0), (0, .ref th), (1, .int x1)]) C dX11_dearest_5 rfl hl (by decide) rfl (fun ls hl => ?_)
  refine lv_iconst (v := -1) hx hb dX11_dearest_6 (by decide) ?_
  refine lv_istore_n (lv' := [(3, .int (-1 : Int32)), (2, va_rf y0), (0, .ref th), (1, .int x1)]) hx hb dX11_dearest_7 rfl hl (by decide) (by cases y0 <;> rfl) (fun ls hl => ?_)
  refine lv_lconst (v := 0) hx hb dX11_dearest_8 (by decide) ?_
  refine lv_lstore (lv' := [(4, .long (0 : Int64)), (3, .int (-1 : Int32)), (2, va_rf y0), (0, .ref th), (1, .int x1)]) hx hb dX11_dearest_9 hl (by decide) rfl (fun ls hl => ?_)
  refine lv_iconst (v := 0) hx hb dX11_dearest_11 (by decide) ?_
  refine lv_istore (lv' := [(6, .int (0 : Int32)), (4, .long (0 : Int64)), (3, .int (-1 : Int32)), (2, va_rf y0), (0, .ref th), (1, .int x1)]) hx hb dX11_dearest_12 hl (by decide) rfl (fun ls hl => ?_)
  exact b_K_dearest_14 C hst hxt N n0 s0 hn0  N _ _ h th x1 y0 (-1 : Int32) (0 : Int64) (0 : Int32) _ _ ls w hsl (lv_sub hl [4, 5, 3, 2, 1, 0] rfl) hE
set_option maxRecDepth 20000 in
set_option maxHeartbeats 4000000 in
theorem k_K_dearest (l : Launch) (hst : l.stackTraces = false) (D : va_G) (cy : cyT) (z : Nat) (N : Nat) (h : hS) (th : Nat) (x1 : Int32) (r : (Int32 ⊕ Nat)) (g : hS) (hE : f_K_dearest N h th x1 = some (r, g)) : ctT l yX11_dearest (Cond.code yX11_dearest cX11_dearest 9 ((some .int)) :: GW) { frames := 9, cells := h_x g - h_x h, slots := h_s g - h_s h, locals := 190 } D cy z h [.ref th, .int x1] rI r g := by
  refine ctT_of (cc := cX11_dearest) (maxL := 9) (ret := (some .int)) (by decide) ?_
  intro p e s m args below meth c s₁ B hml hxt hv
  obtain ⟨rfl, hw⟩ := hv
  have C : MX p s m ([.ref th, .int x1] : List Value).toArray meth c cX11_dearest 9 ((some .int)) RX11 (Cond.code yX11_dearest cX11_dearest 9 ((some .int)) :: GW) := ⟨B.exec, B.bytes, B.returns, hml, findClass_of_methodNamed B.named, atoms_spec (ws := Cond.code yX11_dearest cX11_dearest 9 ((some .int)) :: GW) B.pre, B.notSynchronized⟩
  obtain ⟨hx, hb, hr, hml, hown, hts, hlk⟩ := id C
  have w := wd_of hw
  have hsl : h_s h = h_s h + 0 := rfl
  have hn0 : s.heap.size = h_x h := (wd_x w).1
  obtain ⟨ls, hen, hl⟩ : ∃ ls : Array Slot, entryFrame m ([.ref th, .int x1] : List Value).toArray 9 = F0 m 0 ls [] ∧ lv_has ls 9 [(0, .ref th), (1, .int x1)] := by
    exact ⟨_, lg_entry_eq _ _ _, lv_entry _ (Nat.le_of_ble_eq_true rfl)⟩
  rw [hen]
  have hcc : 0 ≤ h_x g - h_x h ∧ 0 ≤ h_s g - h_s h := ⟨Nat.zero_le _, Nat.zero_le _⟩
  unfold f_K_dearest at hE
  refine lv_aload_n hx hb dX11_dearest_0 rfl (lv_at hl 0 rfl) ?_
  refine lv_iload_n hx hb dX11_dearest_1 rfl (lv_at hl 1 rfl) ?_
  refine w_VTR GW_good (n := 1) (F := 8) (Lc := 122) (ob := some th) (av := [.int x1]) (rest := []) hxt hn0 hsl C w rfl (by decide) (fun a r g hf => k_K_chainOf l hst D cy z N h a x1 r g hf) gw_32_8 gw_32_9 gw_32_10 gw_1_2 gw_32_11 (by decide +kernel) ⟨Nat.le_of_ble_eq_true rfl, Nat.le_of_ble_eq_true rfl⟩ rfl hl.1 rfl (Nat.le_of_ble_eq_true rfl) dX11_dearest_2 (fun a => (mo_K_chainOf N h a x1)) (fun v1 h2 => mo_K_dearest_5 N   h2 th x1 v1) hE (fun v1 h2 H locs w hsh2 e1 => ?_)
  exact b_K_dearest_5 C hst hxt N (h_x h) (h_s h) hn0   _ _ h2 th x1 v1 _ _ ls w (by have u5 := hsh2.2.1; have u8 := hsl; omega) (lv_sub hl [0, 1] rfl) e1
set_option maxRecDepth 20000 in
set_option maxHeartbeats 4000000 in
theorem b_K_gap_37 {p : Program} {l : Launch} {e : Env} {s : State} {m : MethodId} {args : Array Value} {below : List Frame} {meth : Method} {c : Code} {D : va_G} {cy : cyT} {z : Nat} (C : MX p s m args meth c cX11_gap 6 ((some .long)) RX11 (Cond.code yX11_gap cX11_gap 6 ((some .long)) :: GW)) (hst : l.stackTraces = false) (hxt : ∀ x ∈ c.exceptionTable.toList, False) (N : Nat) (n0 s0 : Nat) (hn0 : s.heap.size = n0) {r : (Int64 ⊕ Nat)} {g : hS}  : ∀ (n : Nat) (cells slots : Nat) (h : hS) (th : Nat) (x3 : Int64) (x5 : Int32) (H : Heap) (locs : List Loc) (ls : Array Slot), wd D cy z s cells h H locs → h_s h = s0 + slots → lv_has ls 6 [(0, .ref th), (3, .long x3), (5, .int x5)] → f_K_gap_37 N  n h th x3 x5 = some (r, g) → W p l e { frames := 9, cells := h_x g - n0, slots := h_s g - s0, locals := 143 } s m args below meth c H locs cells slots (eT D cy z rJ r g below args s (h_x g - n0) (h_s g - s0)) (F0 m 37 ls []) := by
  obtain ⟨hx, hb, hr, hml, hown, hts, hlk⟩ := id C
  intro n
  induction n with
  | zero =>
    intro cells slots h th x3 x5 H locs ls w hsl hl hE
    cases hE
  | succ n ih =>
    intro cells slots h th x3 x5 H locs ls w hsl hl hE
    have hcc : cells ≤ h_x g - n0 ∧ slots ≤ h_s g - s0 := by
      have q1 := mo_K_gap_37 N  (n + 1) h th x3 x5 _ _ hE
      have q2 := wd_x w
      have q3 := q1.1
      have q4 := q1.2.1
      omega
    unfold f_K_gap_37 at hE
    refine lv_iload hx hb dX11_gap_37 (lv_at hl 2 rfl) ?_
    refine lv_sipush (v := 500) hx hb dX11_gap_39 (by decide) ?_
    refine w_icmp_gt (tgt := 88) C dX11_gap_42 (by decide) hE (fun hc e1 => ?_) (fun hc e1 => ?_)
    · refine lv_lload_n hx hb dX11_gap_88 rfl (lv_at hl 1 rfl) ?_
      refine W.widen (k := h_x g - n0) (n := h_s g - s0) hcc.1 hcc.2 ?_
      exact w_lretT C w e1 dX11_gap_89
    · refine lv_lload_n hx hb dX11_gap_45 rfl (lv_at hl 1 rfl) ?_
      refine lv_aload_n hx hb dX11_gap_46 rfl (lv_at hl 0 rfl) ?_
      refine w_gR (r := some th) (ci := 12) (k := 9) C w rfl (by decide) (GF_wsX110 _) (by decide) rfl (List.mem_cons_of_mem _ gw_3_2) rfl dX11_gap_47 e1 (fun v1 e2 => ?_)
      refine w_gJ (r := v1) (ci := 11) (k := 4) C w rfl (by decide) (GF_wsX100 _) (by decide) rfl (List.mem_cons_of_mem _ gw_47_0) rfl dX11_gap_50 e2 (fun v2 e3 => ?_)
      refine lv_aload_n hx hb dX11_gap_53 rfl (lv_at hl 0 rfl) ?_
      refine w_gR (r := some th) (ci := 12) (k := 10) C w rfl (by decide) (GF_wsX110 _) (by decide) rfl (List.mem_cons_of_mem _ gw_3_3) rfl dX11_gap_54 e3 (fun v3 e4 => ?_)
      refine w_gJ (r := v3) (ci := 11) (k := 4) C w rfl (by decide) (GF_wsX100 _) (by decide) rfl (List.mem_cons_of_mem _ gw_47_0) rfl dX11_gap_57 e4 (fun v4 e5 => ?_)
      refine lv_lsub hx hb dX11_gap_60 ?_
      refine w_mabsl C hl.1 (List.mem_cons_of_mem _ gw_52_21) (List.mem_cons_of_mem _ gw_52_22) (List.mem_cons_of_mem _ gw_10_7) (List.mem_cons_of_mem _ gw_52_23) (Nat.le_of_ble_eq_true rfl) (Nat.le_of_ble_eq_true rfl) hcc.1 hcc.2 dX11_gap_61 ?_
      refine w_mmaxl C hl.1 (List.mem_cons_of_mem _ gw_53_0) (List.mem_cons_of_mem _ gw_53_1) (List.mem_cons_of_mem _ gw_10_7) (List.mem_cons_of_mem _ gw_53_2) (Nat.le_of_ble_eq_true rfl) (Nat.le_of_ble_eq_true rfl) hcc.1 hcc.2 dX11_gap_64 ?_
      refine w_bnJ e5 (fun v5 e6 => ?_)
      refine lv_lstore_n (lv' := [(3, .long v5), (0, .ref th), (5, .int x5)]) hx hb dX11_gap_67 rfl hl (by decide) rfl (fun ls hl => ?_)
      refine lv_aload_n hx hb dX11_gap_68 rfl (lv_at hl 1 rfl) ?_
      refine w_gR (r := some th) (ci := 12) (k := 9) C w rfl (by decide) (GF_wsX110 _) (by decide) rfl (List.mem_cons_of_mem _ gw_3_2) rfl dX11_gap_69 e6 (fun v6 e7 => ?_)
      refine w_VV GW_good (n := 0) (F := 1) (Lc := 21) (o := v6) (av := []) (rest := []) C w rfl (by decide) (fun a r g hf => k_Walk_goOn l D cy z N h a  r g hf) gw_47_15 gw_47_16 gw_47_17 gw_3_1 gw_47_18 (by decide +kernel) ⟨Nat.le_of_ble_eq_true rfl, Nat.le_of_ble_eq_true rfl⟩ rfl hl.1 rfl (Nat.le_of_ble_eq_true rfl) dX11_gap_72 (fun a => (sh_Walk_goOn N h a )) ⟨hcc.1, hcc.2⟩ e7 (fun v7 h8 H locs w hsh8 e8 => ?_)
      have hsl := hsh8.2.2.2.trans hsl
      refine lv_aload_n hx hb dX11_gap_75 rfl (lv_at hl 1 rfl) ?_
      refine w_gR (r := some th) (ci := 12) (k := 10) C w rfl (by decide) (GF_wsX110 _) (by decide) rfl (List.mem_cons_of_mem _ gw_3_3) rfl dX11_gap_76 e8 (fun v9 e9 => ?_)
      refine w_VV GW_good (n := 0) (F := 1) (Lc := 21) (o := v9) (av := []) (rest := []) C w rfl (by decide) (fun a r g hf => k_Walk_goOn l D cy z N h8 a  r g hf) gw_47_15 gw_47_16 gw_47_17 gw_3_1 gw_47_18 (by decide +kernel) ⟨Nat.le_of_ble_eq_true rfl, Nat.le_of_ble_eq_true rfl⟩ rfl hl.1 rfl (Nat.le_of_ble_eq_true rfl) dX11_gap_79 (fun a => (sh_Walk_goOn N h8 a )) ⟨hcc.1, hcc.2⟩ e9 (fun v10 h11 H locs w hsh11 e10 => ?_)
      have hsl := hsh11.2.2.2.trans hsl
      obtain ⟨v12, ev12, e11⟩ := bn_some e10
      refine lv_iinc (v := v12) (lv' := [(5, .int v12), (3, .long v5), (0, .ref th)]) hx hb dX11_gap_82 hl (k := 2) rfl (by rw [ev12]; rfl) (by decide) rfl (fun ls hl => ?_)
      refine lv_goto (tgt := 37) hx hb dX11_gap_85 (by decide) ?_
      exact ih _ _ h11 th v5 v12 _ _ ls w hsl (lv_sub hl [2, 1, 0] rfl) e11
set_option maxRecDepth 20000 in
set_option maxHeartbeats 4000000 in
theorem b_K_gap_24 {p : Program} {l : Launch} {e : Env} {s : State} {m : MethodId} {args : Array Value} {below : List Frame} {meth : Method} {c : Code} {D : va_G} {cy : cyT} {z : Nat} (C : MX p s m args meth c cX11_gap 6 ((some .long)) RX11 (Cond.code yX11_gap cX11_gap 6 ((some .long)) :: GW)) (hst : l.stackTraces = false) (hxt : ∀ x ∈ c.exceptionTable.toList, False) (N : Nat) (n0 s0 : Nat) (hn0 : s.heap.size = n0) {r : (Int64 ⊕ Nat)} {g : hS}  : ∀  (cells slots : Nat) (h : hS) (th : Nat) (y0 : Option Nat) (y1 : Option Nat) (H : Heap) (locs : List Loc) (ls : Array Slot), wd D cy z s cells h H locs → h_s h = s0 + slots → lv_has ls 6 [(0, .ref th)] → f_K_gap_24 N   h th y0 y1 = some (r, g) → W p l e { frames := 9, cells := h_x g - n0, slots := h_s g - s0, locals := 143 } s m args below meth c H locs cells slots (eT D cy z rJ r g below args s (h_x g - n0) (h_s g - s0)) (F0 m 24 ls [va_rf y1, va_rf y0]) := by
  obtain ⟨hx, hb, hr, hml, hown, hts, hlk⟩ := id C
  intro cells slots h th y0 y1 H locs ls w hsl hl hE
  have hcc : cells ≤ h_x g - n0 ∧ slots ≤ h_s g - s0 := by
    have q1 := mo_K_gap_24 N  h th y0 y1 _ _ hE
    have q2 := wd_x w
    have q3 := q1.1
    have q4 := q1.2.1
    omega
  unfold f_K_gap_24 at hE
  refine lv_sipush (v := -500) hx hb dX11_gap_24 (by decide) ?_
  refine w_VV GW_good (n := 2) (F := 2) (Lc := 73) (o := y0) (av := [va_rf y1, .int (-500 : Int32)]) (rest := []) C w rfl (by decide) (fun a r g hf => k_Walk_startAt l D cy z N h a y1 (-500 : Int32) r g hf) gw_47_1 gw_47_2 gw_47_3 gw_3_1 gw_47_4 (by decide +kernel) ⟨Nat.le_of_ble_eq_true rfl, Nat.le_of_ble_eq_true rfl⟩ rfl hl.1 rfl (Nat.le_of_ble_eq_true rfl) dX11_gap_27 (fun a => (sh_Walk_startAt N h a y1 (-500 : Int32))) ⟨hcc.1, hcc.2⟩ hE (fun v1 h2 H locs w hsh2 e1 => ?_)
  have hsl := hsh2.2.2.2.trans hsl
  refine lv_lconst (v := 0) hx hb dX11_gap_30 (by decide) ?_
  refine lv_lstore_n (lv' := [(3, .long (0 : Int64)), (0, .ref th)]) hx hb dX11_gap_31 rfl hl (by decide) rfl (fun ls hl => ?_)
  refine lv_sipush (v := -500) hx hb dX11_gap_32 (by decide) ?_
  refine lv_istore (lv' := [(5, .int (-500 : Int32)), (3, .long (0 : Int64)), (0, .ref th)]) hx hb dX11_gap_35 hl (by decide) rfl (fun ls hl => ?_)
  exact b_K_gap_37 C hst hxt N n0 s0 hn0  N _ _ h2 th (0 : Int64) (-500 : Int32) _ _ ls w hsl (lv_sub hl [2, 1, 0] rfl) e1
set_option maxRecDepth 20000 in
set_option maxHeartbeats 4000000 in
theorem b_K_gap_9 {p : Program} {l : Launch} {e : Env} {s : State} {m : MethodId} {args : Array Value} {below : List Frame} {meth : Method} {c : Code} {D : va_G} {cy : cyT} {z : Nat} (C : MX p s m args meth c cX11_gap 6 ((some .long)) RX11 (Cond.code yX11_gap cX11_gap 6 ((some .long)) :: GW)) (hst : l.stackTraces = false) (hxt : ∀ x ∈ c.exceptionTable.toList, False) (N : Nat) (n0 s0 : Nat) (hn0 : s.heap.size = n0) {r : (Int64 ⊕ Nat)} {g : hS}  : ∀  (cells slots : Nat) (h : hS) (th : Nat) (x2 : Int32) (y0 : Option Nat) (y1 : Option Nat) (H : Heap) (locs : List Loc) (ls : Array Slot), wd D cy z s cells h H locs → h_s h = s0 + slots → lv_has ls 6 [(0, .ref th), (2, .int x2)] → f_K_gap_9 N   h th x2 y0 y1 = some (r, g) → W p l e { frames := 9, cells := h_x g - n0, slots := h_s g - s0, locals := 143 } s m args below meth c H locs cells slots (eT D cy z rJ r g below args s (h_x g - n0) (h_s g - s0)) (F0 m 9 ls [va_rf y1, va_rf y0]) := by
  obtain ⟨hx, hb, hr, hml, hown, hts, hlk⟩ := id C
  intro cells slots h th x2 y0 y1 H locs ls w hsl hl hE
  have hcc : cells ≤ h_x g - n0 ∧ slots ≤ h_s g - s0 := by
    have q1 := mo_K_gap_9 N  h th x2 y0 y1 _ _ hE
    have q2 := wd_x w
    have q3 := q1.1
    have q4 := q1.2.1
    omega
  unfold f_K_gap_9 at hE
  refine lv_sipush (v := -500) hx hb dX11_gap_9 (by decide) ?_
  refine w_VV GW_good (n := 2) (F := 2) (Lc := 73) (o := y0) (av := [va_rf y1, .int (-500 : Int32)]) (rest := []) C w rfl (by decide) (fun a r g hf => k_Walk_startAt l D cy z N h a y1 (-500 : Int32) r g hf) gw_47_1 gw_47_2 gw_47_3 gw_3_1 gw_47_4 (by decide +kernel) ⟨Nat.le_of_ble_eq_true rfl, Nat.le_of_ble_eq_true rfl⟩ rfl hl.1 rfl (Nat.le_of_ble_eq_true rfl) dX11_gap_12 (fun a => (sh_Walk_startAt N h a y1 (-500 : Int32))) ⟨hcc.1, hcc.2⟩ hE (fun v1 h2 H locs w hsh2 e1 => ?_)
  have hsl := hsh2.2.2.2.trans hsl
  refine lv_aload_n hx hb dX11_gap_15 rfl (lv_at hl 0 rfl) ?_
  refine w_gR (r := some th) (ci := 12) (k := 10) C w rfl (by decide) (GF_wsX110 _) (by decide) rfl (List.mem_cons_of_mem _ gw_3_3) rfl dX11_gap_16 e1 (fun v3 e2 => ?_)
  refine lv_aload_n hx hb dX11_gap_19 rfl (lv_at hl 0 rfl) ?_
  refine lv_iload_n hx hb dX11_gap_20 rfl (lv_at hl 1 rfl) ?_
  refine w_VTR GW_good (n := 1) (F := 8) (Lc := 122) (ob := some th) (av := [.int x2]) (rest := [va_rf v3]) hxt hn0 hsl C w rfl (by decide) (fun a r g hf => k_K_curveOf l hst D cy z N h2 a x2 r g hf) gw_16_2 gw_16_3 gw_16_4 gw_1_2 gw_16_5 (by decide +kernel) ⟨Nat.le_of_ble_eq_true rfl, Nat.le_of_ble_eq_true rfl⟩ rfl hl.1 rfl (cat_le (Nat.le_of_ble_eq_true rfl)) dX11_gap_21 (fun a => (mo_K_curveOf N h2 a x2)) (fun v4 h5 => mo_K_gap_24 N   h5 th v3 v4) e2 (fun v4 h5 H locs w hsh5 e3 => ?_)
  exact b_K_gap_24 C hst hxt N n0 s0 hn0   _ _ h5 th v3 v4 _ _ ls w (by have u5 := hsh5.2.1; have u8 := hsl; omega) (lv_sub hl [0] rfl) e3
set_option maxRecDepth 20000 in
set_option maxHeartbeats 4000000 in
theorem k_K_gap (l : Launch) (hst : l.stackTraces = false) (D : va_G) (cy : cyT) (z : Nat) (N : Nat) (h : hS) (th : Nat) (x1 : Int32) (x2 : Int32) (r : (Int64 ⊕ Nat)) (g : hS) (hE : f_K_gap N h th x1 x2 = some (r, g)) : ctT l yX11_gap (Cond.code yX11_gap cX11_gap 6 ((some .long)) :: GW) { frames := 9, cells := h_x g - h_x h, slots := h_s g - h_s h, locals := 143 } D cy z h [.ref th, .int x1, .int x2] rJ r g := by
  refine ctT_of (cc := cX11_gap) (maxL := 6) (ret := (some .long)) (by decide) ?_
  intro p e s m args below meth c s₁ B hml hxt hv
  obtain ⟨rfl, hw⟩ := hv
  have C : MX p s m ([.ref th, .int x1, .int x2] : List Value).toArray meth c cX11_gap 6 ((some .long)) RX11 (Cond.code yX11_gap cX11_gap 6 ((some .long)) :: GW) := ⟨B.exec, B.bytes, B.returns, hml, findClass_of_methodNamed B.named, atoms_spec (ws := Cond.code yX11_gap cX11_gap 6 ((some .long)) :: GW) B.pre, B.notSynchronized⟩
  obtain ⟨hx, hb, hr, hml, hown, hts, hlk⟩ := id C
  have w := wd_of hw
  have hsl : h_s h = h_s h + 0 := rfl
  have hn0 : s.heap.size = h_x h := (wd_x w).1
  obtain ⟨ls, hen, hl⟩ : ∃ ls : Array Slot, entryFrame m ([.ref th, .int x1, .int x2] : List Value).toArray 6 = F0 m 0 ls [] ∧ lv_has ls 6 [(0, .ref th), (1, .int x1), (2, .int x2)] := by
    exact ⟨_, lg_entry_eq _ _ _, lv_entry _ (Nat.le_of_ble_eq_true rfl)⟩
  rw [hen]
  have hcc : 0 ≤ h_x g - h_x h ∧ 0 ≤ h_s g - h_s h := ⟨Nat.zero_le _, Nat.zero_le _⟩
  unfold f_K_gap at hE
  refine lv_aload_n hx hb dX11_gap_0 rfl (lv_at hl 0 rfl) ?_
  refine w_gR (r := some th) (ci := 12) (k := 9) C w rfl (by decide) (GF_wsX110 _) (by decide) rfl (List.mem_cons_of_mem _ gw_3_2) rfl dX11_gap_1 hE (fun v1 e1 => ?_)
  refine lv_aload_n hx hb dX11_gap_4 rfl (lv_at hl 0 rfl) ?_
  refine lv_iload_n hx hb dX11_gap_5 rfl (lv_at hl 1 rfl) ?_
  refine w_VTR GW_good (n := 1) (F := 8) (Lc := 122) (ob := some th) (av := [.int x1]) (rest := [va_rf v1]) hxt hn0 hsl C w rfl (by decide) (fun a r g hf => k_K_curveOf l hst D cy z N h a x1 r g hf) gw_16_2 gw_16_3 gw_16_4 gw_1_2 gw_16_5 (by decide +kernel) ⟨Nat.le_of_ble_eq_true rfl, Nat.le_of_ble_eq_true rfl⟩ rfl hl.1 rfl (cat_le (Nat.le_of_ble_eq_true rfl)) dX11_gap_6 (fun a => (mo_K_curveOf N h a x1)) (fun v2 h3 => mo_K_gap_9 N   h3 th x2 v1 v2) e1 (fun v2 h3 H locs w hsh3 e2 => ?_)
  exact b_K_gap_9 C hst hxt N (h_x h) (h_s h) hn0   _ _ h3 th x2 v1 v2 _ _ ls w (by have u5 := hsh3.2.1; have u8 := hsl; omega) (lv_sub hl [0, 2] rfl) e2
set_option maxRecDepth 20000 in
set_option maxHeartbeats 4000000 in
theorem b_K_alike_21 {p : Program} {l : Launch} {e : Env} {s : State} {m : MethodId} {args : Array Value} {below : List Frame} {meth : Method} {c : Code} {D : va_G} {cy : cyT} {z : Nat} (C : MX p s m args meth c cX11_alike 3 ((some .int)) RX11 (Cond.code yX11_alike cX11_alike 3 ((some .int)) :: GW)) (hst : l.stackTraces = false) (hxt : ∀ x ∈ c.exceptionTable.toList, False) (N : Nat) (n0 s0 : Nat) (hn0 : s.heap.size = n0) {r : (Int32 ⊕ Nat)} {g : hS}  : ∀  (cells slots : Nat) (h : hS) (y0 : Int32) (H : Heap) (locs : List Loc) (ls : Array Slot), wd D cy z s cells h H locs → h_s h = s0 + slots → lv_has ls 3 [] → f_K_alike_21 N   h y0 = some (r, g) → W p l e { frames := 9, cells := h_x g - n0, slots := h_s g - s0, locals := 143 } s m args below meth c H locs cells slots (eT D cy z rI r g below args s (h_x g - n0) (h_s g - s0)) (F0 m 21 ls [.int y0]) := by
  obtain ⟨hx, hb, hr, hml, hown, hts, hlk⟩ := id C
  intro cells slots h y0 H locs ls w hsl hl hE
  have hcc : cells ≤ h_x g - n0 ∧ slots ≤ h_s g - s0 := by
    have q1 := mo_K_alike_21 N  h y0 _ _ hE
    have q2 := wd_x w
    have q3 := q1.1
    have q4 := q1.2.1
    omega
  unfold f_K_alike_21 at hE
  refine W.widen (k := h_x g - n0) (n := h_s g - s0) hcc.1 hcc.2 ?_
  exact w_iretT C w hE dX11_alike_21
set_option maxRecDepth 20000 in
set_option maxHeartbeats 4000000 in
theorem b_K_alike_10 {p : Program} {l : Launch} {e : Env} {s : State} {m : MethodId} {args : Array Value} {below : List Frame} {meth : Method} {c : Code} {D : va_G} {cy : cyT} {z : Nat} (C : MX p s m args meth c cX11_alike 3 ((some .int)) RX11 (Cond.code yX11_alike cX11_alike 3 ((some .int)) :: GW)) (hst : l.stackTraces = false) (hxt : ∀ x ∈ c.exceptionTable.toList, False) (N : Nat) (n0 s0 : Nat) (hn0 : s.heap.size = n0) {r : (Int32 ⊕ Nat)} {g : hS}  : ∀  (cells slots : Nat) (h : hS) (y0 : Option Nat) (y1 : Option Nat) (H : Heap) (locs : List Loc) (ls : Array Slot), wd D cy z s cells h H locs → h_s h = s0 + slots → lv_has ls 3 [] → f_K_alike_10 N   h y0 y1 = some (r, g) → W p l e { frames := 9, cells := h_x g - n0, slots := h_s g - s0, locals := 143 } s m args below meth c H locs cells slots (eT D cy z rI r g below args s (h_x g - n0) (h_s g - s0)) (F0 m 10 ls [va_rf y1, va_rf y0]) := by
  obtain ⟨hx, hb, hr, hml, hown, hts, hlk⟩ := id C
  intro cells slots h y0 y1 H locs ls w hsl hl hE
  have hcc : cells ≤ h_x g - n0 ∧ slots ≤ h_s g - s0 := by
    have q1 := mo_K_alike_10 N  h y0 y1 _ _ hE
    have q2 := wd_x w
    have q3 := q1.1
    have q4 := q1.2.1
    omega
  unfold f_K_alike_10 at hE
  refine w_VI GW_good (n := 1) (F := 1) (Lc := 21) (o := y0) (av := [va_rf y1]) (rest := []) C w rfl (by decide) (fun a r g hf => k_Curve_isSameAs l D cy z N h a y1 r g hf) gw_53_16 gw_53_17 gw_53_18 gw_2_22 gw_53_19 (by decide +kernel) ⟨Nat.le_of_ble_eq_true rfl, Nat.le_of_ble_eq_true rfl⟩ rfl hl.1 rfl (Nat.le_of_ble_eq_true rfl) dX11_alike_10 (fun a => (sh_Curve_isSameAs N h a y1)) ⟨hcc.1, hcc.2⟩ hE (fun v1 h2 H locs w hsh2 e1 => ?_)
  have hsl := hsh2.2.2.2.trans hsl
  refine w_if_eq (tgt := 20) C dX11_alike_13 (by decide) e1 (fun hc e2 => ?_) (fun hc e2 => ?_)
  · refine lv_iconst (v := 0) hx hb dX11_alike_20 (by decide) ?_
    exact b_K_alike_21 C hst hxt N n0 s0 hn0   _ _ h2 (0 : Int32) _ _ ls w hsl (lv_sub hl [] rfl) e2
  · refine lv_iconst (v := 1) hx hb dX11_alike_16 (by decide) ?_
    refine lv_goto (tgt := 21) hx hb dX11_alike_17 (by decide) ?_
    exact b_K_alike_21 C hst hxt N n0 s0 hn0   _ _ h2 (1 : Int32) _ _ ls w hsl (lv_sub hl [] rfl) e2
set_option maxRecDepth 20000 in
set_option maxHeartbeats 4000000 in
theorem b_K_alike_5 {p : Program} {l : Launch} {e : Env} {s : State} {m : MethodId} {args : Array Value} {below : List Frame} {meth : Method} {c : Code} {D : va_G} {cy : cyT} {z : Nat} (C : MX p s m args meth c cX11_alike 3 ((some .int)) RX11 (Cond.code yX11_alike cX11_alike 3 ((some .int)) :: GW)) (hst : l.stackTraces = false) (hxt : ∀ x ∈ c.exceptionTable.toList, False) (N : Nat) (n0 s0 : Nat) (hn0 : s.heap.size = n0) {r : (Int32 ⊕ Nat)} {g : hS}  : ∀  (cells slots : Nat) (h : hS) (th : Nat) (x2 : Int32) (y0 : Option Nat) (H : Heap) (locs : List Loc) (ls : Array Slot), wd D cy z s cells h H locs → h_s h = s0 + slots → lv_has ls 3 [(0, .ref th), (2, .int x2)] → f_K_alike_5 N   h th x2 y0 = some (r, g) → W p l e { frames := 9, cells := h_x g - n0, slots := h_s g - s0, locals := 143 } s m args below meth c H locs cells slots (eT D cy z rI r g below args s (h_x g - n0) (h_s g - s0)) (F0 m 5 ls [va_rf y0]) := by
  obtain ⟨hx, hb, hr, hml, hown, hts, hlk⟩ := id C
  intro cells slots h th x2 y0 H locs ls w hsl hl hE
  have hcc : cells ≤ h_x g - n0 ∧ slots ≤ h_s g - s0 := by
    have q1 := mo_K_alike_5 N  h th x2 y0 _ _ hE
    have q2 := wd_x w
    have q3 := q1.1
    have q4 := q1.2.1
    omega
  unfold f_K_alike_5 at hE
  refine lv_aload_n hx hb dX11_alike_5 rfl (lv_at hl 0 rfl) ?_
  refine lv_iload_n hx hb dX11_alike_6 rfl (lv_at hl 1 rfl) ?_
  refine w_VTR GW_good (n := 1) (F := 8) (Lc := 122) (ob := some th) (av := [.int x2]) (rest := [va_rf y0]) hxt hn0 hsl C w rfl (by decide) (fun a r g hf => k_K_curveOf l hst D cy z N h a x2 r g hf) gw_16_2 gw_16_3 gw_16_4 gw_1_2 gw_16_5 (by decide +kernel) ⟨Nat.le_of_ble_eq_true rfl, Nat.le_of_ble_eq_true rfl⟩ rfl hl.1 rfl (cat_le (Nat.le_of_ble_eq_true rfl)) dX11_alike_7 (fun a => (mo_K_curveOf N h a x2)) (fun v1 h2 => mo_K_alike_10 N   h2 y0 v1) hE (fun v1 h2 H locs w hsh2 e1 => ?_)
  exact b_K_alike_10 C hst hxt N n0 s0 hn0   _ _ h2 y0 v1 _ _ ls w (by have u5 := hsh2.2.1; have u8 := hsl; omega) (lv_sub hl [] rfl) e1
set_option maxRecDepth 20000 in
set_option maxHeartbeats 4000000 in
theorem k_K_alike (l : Launch) (hst : l.stackTraces = false) (D : va_G) (cy : cyT) (z : Nat) (N : Nat) (h : hS) (th : Nat) (x1 : Int32) (x2 : Int32) (r : (Int32 ⊕ Nat)) (g : hS) (hE : f_K_alike N h th x1 x2 = some (r, g)) : ctT l yX11_alike (Cond.code yX11_alike cX11_alike 3 ((some .int)) :: GW) { frames := 9, cells := h_x g - h_x h, slots := h_s g - h_s h, locals := 143 } D cy z h [.ref th, .int x1, .int x2] rI r g := by
  refine ctT_of (cc := cX11_alike) (maxL := 3) (ret := (some .int)) (by decide) ?_
  intro p e s m args below meth c s₁ B hml hxt hv
  obtain ⟨rfl, hw⟩ := hv
  have C : MX p s m ([.ref th, .int x1, .int x2] : List Value).toArray meth c cX11_alike 3 ((some .int)) RX11 (Cond.code yX11_alike cX11_alike 3 ((some .int)) :: GW) := ⟨B.exec, B.bytes, B.returns, hml, findClass_of_methodNamed B.named, atoms_spec (ws := Cond.code yX11_alike cX11_alike 3 ((some .int)) :: GW) B.pre, B.notSynchronized⟩
  obtain ⟨hx, hb, hr, hml, hown, hts, hlk⟩ := id C
  have w := wd_of hw
  have hsl : h_s h = h_s h + 0 := rfl
  have hn0 : s.heap.size = h_x h := (wd_x w).1
  obtain ⟨ls, hen, hl⟩ : ∃ ls : Array Slot, entryFrame m ([.ref th, .int x1, .int x2] : List Value).toArray 3 = F0 m 0 ls [] ∧ lv_has ls 3 [(0, .ref th), (1, .int x1), (2, .int x2)] := by
    exact ⟨_, lg_entry_eq _ _ _, lv_entry _ (Nat.le_of_ble_eq_true rfl)⟩
  rw [hen]
  have hcc : 0 ≤ h_x g - h_x h ∧ 0 ≤ h_s g - h_s h := ⟨Nat.zero_le _, Nat.zero_le _⟩
  unfold f_K_alike at hE
  refine lv_aload_n hx hb dX11_alike_0 rfl (lv_at hl 0 rfl) ?_
  refine lv_iload_n hx hb dX11_alike_1 rfl (lv_at hl 1 rfl) ?_
  refine w_VTR GW_good (n := 1) (F := 8) (Lc := 122) (ob := some th) (av := [.int x1]) (rest := []) hxt hn0 hsl C w rfl (by decide) (fun a r g hf => k_K_curveOf l hst D cy z N h a x1 r g hf) gw_16_2 gw_16_3 gw_16_4 gw_1_2 gw_16_5 (by decide +kernel) ⟨Nat.le_of_ble_eq_true rfl, Nat.le_of_ble_eq_true rfl⟩ rfl hl.1 rfl (Nat.le_of_ble_eq_true rfl) dX11_alike_2 (fun a => (mo_K_curveOf N h a x1)) (fun v1 h2 => mo_K_alike_5 N   h2 th x2 v1) hE (fun v1 h2 H locs w hsh2 e1 => ?_)
  exact b_K_alike_5 C hst hxt N (h_x h) (h_s h) hn0   _ _ h2 th x2 v1 _ _ ls w (by have u5 := hsh2.2.1; have u8 := hsl; omega) (lv_sub hl [0, 2] rfl) e1
set_option maxRecDepth 20000 in
set_option maxHeartbeats 4000000 in
theorem b_K_told_81 {p : Program} {l : Launch} {e : Env} {s : State} {m : MethodId} {args : Array Value} {below : List Frame} {meth : Method} {c : Code} {D : va_G} {cy : cyT} {z : Nat} (C : MX p s m args meth c cX11_told 5 ((some .int)) RX11 (Cond.code yX11_told cX11_told 5 ((some .int)) :: GW)) (hst : l.stackTraces = false) (hxt : ∀ x ∈ c.exceptionTable.toList, False) (N : Nat) (n0 s0 : Nat) (hn0 : s.heap.size = n0) {r : (Int32 ⊕ Nat)} {g : hS}  : ∀  (cells slots : Nat) (h : hS) (th : Nat) (H : Heap) (locs : List Loc) (ls : Array Slot), wd D cy z s cells h H locs → h_s h = s0 + slots → lv_has ls 5 [(0, .ref th)] → f_K_told_81 N   h th = some (r, g) → W p l e { frames := 9, cells := h_x g - n0, slots := h_s g - s0, locals := 143 } s m args below meth c H locs cells slots (eT D cy z rI r g below args s (h_x g - n0) (h_s g - s0)) (F0 m 81 ls []) := by
  obtain ⟨hx, hb, hr, hml, hown, hts, hlk⟩ := id C
  intro cells slots h th H locs ls w hsl hl hE
  have hcc : cells ≤ h_x g - n0 ∧ slots ≤ h_s g - s0 := by
    have q1 := mo_K_told_81 N  h th _ _ hE
    have q2 := wd_x w
    have q3 := q1.1
    have q4 := q1.2.1
    omega
  unfold f_K_told_81 at hE
  refine lv_aload_n hx hb dX11_told_81 rfl (lv_at hl 0 rfl) ?_
  refine w_gR (r := some th) (ci := 12) (k := 7) C w rfl (by decide) (GF_wsX110 _) (by decide) rfl (List.mem_cons_of_mem _ gw_2_13) rfl dX11_told_82 hE (fun v1 e1 => ?_)
  refine w_gI (r := v1) (ci := 9) (k := 2) C w rfl (by decide) (GF_wsX80 _) (by decide) rfl (List.mem_cons_of_mem _ gw_54_8) rfl dX11_told_85 e1 (fun v2 e2 => ?_)
  refine W.widen (k := h_x g - n0) (n := h_s g - s0) hcc.1 hcc.2 ?_
  exact w_iretT C w e2 dX11_told_88
set_option maxRecDepth 20000 in
set_option maxHeartbeats 4000000 in
theorem b_K_told_78 {p : Program} {l : Launch} {e : Env} {s : State} {m : MethodId} {args : Array Value} {below : List Frame} {meth : Method} {c : Code} {D : va_G} {cy : cyT} {z : Nat} (C : MX p s m args meth c cX11_told 5 ((some .int)) RX11 (Cond.code yX11_told cX11_told 5 ((some .int)) :: GW)) (hst : l.stackTraces = false) (hxt : ∀ x ∈ c.exceptionTable.toList, False) (N : Nat) (n0 s0 : Nat) (hn0 : s.heap.size = n0) {r : (Int32 ⊕ Nat)} {g : hS}  : ∀  (cells slots : Nat) (h : hS) (th : Nat) (y0 : Int32) (H : Heap) (locs : List Loc) (ls : Array Slot), wd D cy z s cells h H locs → h_s h = s0 + slots → lv_has ls 5 [(0, .ref th)] → f_K_told_78 N   h th y0 = some (r, g) → W p l e { frames := 9, cells := h_x g - n0, slots := h_s g - s0, locals := 143 } s m args below meth c H locs cells slots (eT D cy z rI r g below args s (h_x g - n0) (h_s g - s0)) (F0 m 78 ls [.int y0]) := by
  obtain ⟨hx, hb, hr, hml, hown, hts, hlk⟩ := id C
  intro cells slots h th y0 H locs ls w hsl hl hE
  have hcc : cells ≤ h_x g - n0 ∧ slots ≤ h_s g - s0 := by
    have q1 := mo_K_told_78 N  h th y0 _ _ hE
    have q2 := wd_x w
    have q3 := q1.1
    have q4 := q1.2.1
    omega
  unfold f_K_told_78 at hE
  refine w_STV GW_good (n := 1) (F := 6) (Lc := 82) (av := [.int y0]) (rest := []) hxt hn0 hsl C w (fun r g hf => k_K_needSuch l hst D cy z N h y0 r g hf) gw_9_15 gw_9_16 gw_1_2 gw_9_17 (by decide +kernel) ⟨Nat.le_of_ble_eq_true rfl, Nat.le_of_ble_eq_true rfl⟩ rfl hl.1 rfl (Nat.le_of_ble_eq_true rfl) dX11_told_78 (mo_K_needSuch N h y0) (fun v1 h2 => mo_K_told_81 N   h2 th) hE (fun v1 h2 H locs w hsh2 e1 => ?_)
  exact b_K_told_81 C hst hxt N n0 s0 hn0   _ _ h2 th _ _ ls w (by have u5 := hsh2.2.1; have u8 := hsl; omega) (lv_sub hl [0] rfl) e1
set_option maxRecDepth 20000 in
set_option maxHeartbeats 4000000 in
theorem b_K_told_77 {p : Program} {l : Launch} {e : Env} {s : State} {m : MethodId} {args : Array Value} {below : List Frame} {meth : Method} {c : Code} {D : va_G} {cy : cyT} {z : Nat} (C : MX p s m args meth c cX11_told 5 ((some .int)) RX11 (Cond.code yX11_told cX11_told 5 ((some .int)) :: GW)) (hst : l.stackTraces = false) (hxt : ∀ x ∈ c.exceptionTable.toList, False) (N : Nat) (n0 s0 : Nat) (hn0 : s.heap.size = n0) {r : (Int32 ⊕ Nat)} {g : hS}  : ∀  (cells slots : Nat) (h : hS) (th : Nat) (H : Heap) (locs : List Loc) (ls : Array Slot), wd D cy z s cells h H locs → h_s h = s0 + slots → lv_has ls 5 [(0, .ref th)] → f_K_told_77 N   h th = some (r, g) → W p l e { frames := 9, cells := h_x g - n0, slots := h_s g - s0, locals := 143 } s m args below meth c H locs cells slots (eT D cy z rI r g below args s (h_x g - n0) (h_s g - s0)) (F0 m 77 ls []) := by
  obtain ⟨hx, hb, hr, hml, hown, hts, hlk⟩ := id C
  intro cells slots h th H locs ls w hsl hl hE
  have hcc : cells ≤ h_x g - n0 ∧ slots ≤ h_s g - s0 := by
    have q1 := mo_K_told_77 N  h th _ _ hE
    have q2 := wd_x w
    have q3 := q1.1
    have q4 := q1.2.1
    omega
  unfold f_K_told_77 at hE
  refine lv_iconst (v := 0) hx hb dX11_told_77 (by decide) ?_
  exact b_K_told_78 C hst hxt N n0 s0 hn0   _ _ h th (0 : Int32) _ _ ls w hsl (lv_sub hl [0] rfl) hE
set_option maxRecDepth 20000 in
set_option maxHeartbeats 4000000 in
theorem b_K_told_17 {p : Program} {l : Launch} {e : Env} {s : State} {m : MethodId} {args : Array Value} {below : List Frame} {meth : Method} {c : Code} {D : va_G} {cy : cyT} {z : Nat} (C : MX p s m args meth c cX11_told 5 ((some .int)) RX11 (Cond.code yX11_told cX11_told 5 ((some .int)) :: GW)) (hst : l.stackTraces = false) (hxt : ∀ x ∈ c.exceptionTable.toList, False) (N : Nat) (n0 s0 : Nat) (hn0 : s.heap.size = n0) {r : (Int32 ⊕ Nat)} {g : hS}  : ∀ (n : Nat) (cells slots : Nat) (h : hS) (th : Nat) (x2 : Int32) (a3 : Option Nat) (x4 : Int32) (H : Heap) (locs : List Loc) (ls : Array Slot), wd D cy z s cells h H locs → h_s h = s0 + slots → lv_has ls 5 [(0, .ref th), (2, .int x2), (3, va_rf a3), (4, .int x4)] → f_K_told_17 N  n h th x2 a3 x4 = some (r, g) → W p l e { frames := 9, cells := h_x g - n0, slots := h_s g - s0, locals := 143 } s m args below meth c H locs cells slots (eT D cy z rI r g below args s (h_x g - n0) (h_s g - s0)) (F0 m 17 ls []) := by
  obtain ⟨hx, hb, hr, hml, hown, hts, hlk⟩ := id C
  intro n
  induction n with
  | zero =>
    intro cells slots h th x2 a3 x4 H locs ls w hsl hl hE
    cases hE
  | succ n ih =>
    intro cells slots h th x2 a3 x4 H locs ls w hsl hl hE
    have hcc : cells ≤ h_x g - n0 ∧ slots ≤ h_s g - s0 := by
      have q1 := mo_K_told_17 N  (n + 1) h th x2 a3 x4 _ _ hE
      have q2 := wd_x w
      have q3 := q1.1
      have q4 := q1.2.1
      omega
    unfold f_K_told_17 at hE
    refine lv_iload hx hb dX11_told_17 (lv_at hl 3 rfl) ?_
    refine w_aload_n C dX11_told_19 rfl (lv_at hl 2 rfl) ?_
    refine w_gI (r := a3) (ci := 2) (k := 1) C w rfl (by decide) (GF_wsX10 _) (by decide) rfl (List.mem_cons_of_mem _ gw_23_10) rfl dX11_told_20 hE (fun v1 e1 => ?_)
    refine w_icmp_ge (tgt := 45) C dX11_told_23 (by decide) e1 (fun hc e2 => ?_) (fun hc e2 => ?_)
    · refine lv_iload_n hx hb dX11_told_45 rfl (lv_at hl 1 rfl) ?_
      refine lv_iconst (v := -1) hx hb dX11_told_46 (by decide) ?_
      refine w_icmp_ne (tgt := 58) C dX11_told_47 (by decide) e2 (fun hc e3 => ?_) (fun hc e3 => ?_)
      · refine lv_iload_n hx hb dX11_told_58 rfl (lv_at hl 1 rfl) ?_
        refine w_if_lt (tgt := 77) C dX11_told_59 (by decide) e3 (fun hc e4 => ?_) (fun hc e4 => ?_)
        · exact b_K_told_77 C hst hxt N n0 s0 hn0   _ _ h th _ _ ls w hsl (lv_sub hl [0] rfl) e4
        · refine lv_iload_n hx hb dX11_told_62 rfl (lv_at hl 1 rfl) ?_
          refine lv_aload_n hx hb dX11_told_63 rfl (lv_at hl 0 rfl) ?_
          refine w_gR (r := some th) (ci := 12) (k := 7) C w rfl (by decide) (GF_wsX110 _) (by decide) rfl (List.mem_cons_of_mem _ gw_2_13) rfl dX11_told_64 e4 (fun v2 e5 => ?_)
          refine w_gI (r := v2) (ci := 9) (k := 1) C w rfl (by decide) (GF_wsX80 _) (by decide) rfl (List.mem_cons_of_mem _ gw_54_7) rfl dX11_told_67 e5 (fun v3 e6 => ?_)
          refine w_icmp_ge (tgt := 77) C dX11_told_70 (by decide) e6 (fun hc e7 => ?_) (fun hc e7 => ?_)
          · exact b_K_told_77 C hst hxt N n0 s0 hn0   _ _ h th _ _ ls w hsl (lv_sub hl [0] rfl) e7
          · refine lv_iconst (v := 1) hx hb dX11_told_73 (by decide) ?_
            refine lv_goto (tgt := 78) hx hb dX11_told_74 (by decide) ?_
            exact b_K_told_78 C hst hxt N n0 s0 hn0   _ _ h th (1 : Int32) _ _ ls w hsl (lv_sub hl [0] rfl) e7
      · refine lv_aload_n hx hb dX11_told_50 rfl (lv_at hl 0 rfl) ?_
        refine w_gR (r := some th) (ci := 12) (k := 7) C w rfl (by decide) (GF_wsX110 _) (by decide) rfl (List.mem_cons_of_mem _ gw_2_13) rfl dX11_told_51 e3 (fun v4 e8 => ?_)
        refine w_gI (r := v4) (ci := 9) (k := 1) C w rfl (by decide) (GF_wsX80 _) (by decide) rfl (List.mem_cons_of_mem _ gw_54_7) rfl dX11_told_54 e8 (fun v5 e9 => ?_)
        refine W.widen (k := h_x g - n0) (n := h_s g - s0) hcc.1 hcc.2 ?_
        exact w_iretT C w e9 dX11_told_57
    · refine lv_aload_n hx hb dX11_told_26 rfl (lv_at hl 0 rfl) ?_
      refine w_gR (r := some th) (ci := 12) (k := 7) C w rfl (by decide) (GF_wsX110 _) (by decide) rfl (List.mem_cons_of_mem _ gw_2_13) rfl dX11_told_27 e2 (fun v6 e10 => ?_)
      refine w_aload_n C dX11_told_30 rfl (lv_at hl 2 rfl) ?_
      refine lv_iload hx hb dX11_told_31 (lv_at hl 3 rfl) ?_
      refine w_VR GW_good (n := 1) (F := 0) (Lc := 0) (o := a3) (av := [.int x4]) (rest := [va_rf v6]) C w rfl (by decide) (fun a r g hf => k_Chain_stepAt l D cy z N h a x4 r g hf) gw_33_8 gw_20_7 gw_20_8 gw_3_6 gw_20_9 (by decide +kernel) ⟨Nat.le_of_ble_eq_true rfl, Nat.le_of_ble_eq_true rfl⟩ rfl hl.1 rfl (cat_le (Nat.le_of_ble_eq_true rfl)) dX11_told_33 (fun a => (sh_Chain_stepAt N h a x4)) ⟨hcc.1, hcc.2⟩ e10 (fun v7 h8 H locs w hsh8 e11 => ?_)
      have hsl := hsh8.2.2.2.trans hsl
      refine w_VV GW_good (n := 1) (F := 4) (Lc := 85) (o := v6) (av := [va_rf v7]) (rest := []) C w rfl (by decide) (fun a r g hf => k_Teller_putStep l D cy z N h8 a v7 r g hf) gw_54_16 gw_54_17 gw_54_18 gw_2_12 gw_54_19 (by decide +kernel) ⟨Nat.le_of_ble_eq_true rfl, Nat.le_of_ble_eq_true rfl⟩ rfl hl.1 rfl (Nat.le_of_ble_eq_true rfl) dX11_told_36 (fun a => (sh_Teller_putStep N h8 a v7)) ⟨hcc.1, hcc.2⟩ e11 (fun v9 h10 H locs w hsh10 e12 => ?_)
      have hsl := hsh10.2.2.2.trans hsl
      obtain ⟨v11, ev11, e13⟩ := bn_some e12
      refine lv_iinc (v := v11) (lv' := [(4, .int v11), (0, .ref th), (2, .int x2), (3, va_rf a3)]) hx hb dX11_told_39 hl (k := 3) rfl (by rw [ev11]; rfl) (by decide) (by cases a3 <;> rfl) (fun ls hl => ?_)
      refine lv_goto (tgt := 17) hx hb dX11_told_42 (by decide) ?_
      exact ih _ _ h10 th x2 a3 v11 _ _ ls w hsl (lv_sub hl [1, 2, 3, 0] rfl) e13
set_option maxRecDepth 20000 in
set_option maxHeartbeats 4000000 in
theorem b_K_told_5 {p : Program} {l : Launch} {e : Env} {s : State} {m : MethodId} {args : Array Value} {below : List Frame} {meth : Method} {c : Code} {D : va_G} {cy : cyT} {z : Nat} (C : MX p s m args meth c cX11_told 5 ((some .int)) RX11 (Cond.code yX11_told cX11_told 5 ((some .int)) :: GW)) (hst : l.stackTraces = false) (hxt : ∀ x ∈ c.exceptionTable.toList, False) (N : Nat) (n0 s0 : Nat) (hn0 : s.heap.size = n0) {r : (Int32 ⊕ Nat)} {g : hS}  : ∀  (cells slots : Nat) (h : hS) (th : Nat) (x2 : Int32) (y0 : Option Nat) (H : Heap) (locs : List Loc) (ls : Array Slot), wd D cy z s cells h H locs → h_s h = s0 + slots → lv_has ls 5 [(0, .ref th), (2, .int x2)] → f_K_told_5 N   h th x2 y0 = some (r, g) → W p l e { frames := 9, cells := h_x g - n0, slots := h_s g - s0, locals := 143 } s m args below meth c H locs cells slots (eT D cy z rI r g below args s (h_x g - n0) (h_s g - s0)) (F0 m 5 ls [va_rf y0]) := by
  obtain ⟨hx, hb, hr, hml, hown, hts, hlk⟩ := id C
  intro cells slots h th x2 y0 H locs ls w hsl hl hE
  have hcc : cells ≤ h_x g - n0 ∧ slots ≤ h_s g - s0 := by
    have q1 := mo_K_told_5 N  h th x2 y0 _ _ hE
    have q2 := wd_x w
    have q3 := q1.1
    have q4 := q1.2.1
    omega
  unfold f_K_told_5 at hE
  refine w_astore_n (r := y0) (lv' := [(3, va_rf y0), (0, .ref th), (2, .int x2)]) C dX11_told_5 rfl hl (by decide) rfl (fun ls hl => ?_)
  refine lv_aload_n hx hb dX11_told_6 rfl (lv_at hl 1 rfl) ?_
  refine w_gR (r := some th) (ci := 12) (k := 7) C w rfl (by decide) (GF_wsX110 _) (by decide) rfl (List.mem_cons_of_mem _ gw_2_13) rfl dX11_told_7 hE (fun v1 e1 => ?_)
  refine lv_iload_n hx hb dX11_told_10 rfl (lv_at hl 2 rfl) ?_
  refine w_VV GW_good (n := 1) (F := 0) (Lc := 0) (o := v1) (av := [.int x2]) (rest := []) C w rfl (by decide) (fun a r g hf => k_Teller_listenFor l D cy z N h a x2 r g hf) gw_54_9 gw_54_10 gw_54_11 gw_2_12 gw_54_12 (by decide +kernel) ⟨Nat.le_of_ble_eq_true rfl, Nat.le_of_ble_eq_true rfl⟩ rfl hl.1 rfl (Nat.le_of_ble_eq_true rfl) dX11_told_11 (fun a => (sh_Teller_listenFor N h a x2)) ⟨hcc.1, hcc.2⟩ e1 (fun v2 h3 H locs w hsh3 e2 => ?_)
  have hsl := hsh3.2.2.2.trans hsl
  refine lv_iconst (v := 0) hx hb dX11_told_14 (by decide) ?_
  refine lv_istore (lv' := [(4, .int (0 : Int32)), (3, va_rf y0), (0, .ref th), (2, .int x2)]) hx hb dX11_told_15 hl (by decide) (by cases y0 <;> rfl) (fun ls hl => ?_)
  exact b_K_told_17 C hst hxt N n0 s0 hn0  N _ _ h3 th x2 y0 (0 : Int32) _ _ ls w hsl (lv_sub hl [2, 3, 1, 0] rfl) e2
set_option maxRecDepth 20000 in
set_option maxHeartbeats 4000000 in
theorem k_K_told (l : Launch) (hst : l.stackTraces = false) (D : va_G) (cy : cyT) (z : Nat) (N : Nat) (h : hS) (th : Nat) (x1 : Int32) (x2 : Int32) (r : (Int32 ⊕ Nat)) (g : hS) (hE : f_K_told N h th x1 x2 = some (r, g)) : ctT l yX11_told (Cond.code yX11_told cX11_told 5 ((some .int)) :: GW) { frames := 9, cells := h_x g - h_x h, slots := h_s g - h_s h, locals := 143 } D cy z h [.ref th, .int x1, .int x2] rI r g := by
  refine ctT_of (cc := cX11_told) (maxL := 5) (ret := (some .int)) (by decide) ?_
  intro p e s m args below meth c s₁ B hml hxt hv
  obtain ⟨rfl, hw⟩ := hv
  have C : MX p s m ([.ref th, .int x1, .int x2] : List Value).toArray meth c cX11_told 5 ((some .int)) RX11 (Cond.code yX11_told cX11_told 5 ((some .int)) :: GW) := ⟨B.exec, B.bytes, B.returns, hml, findClass_of_methodNamed B.named, atoms_spec (ws := Cond.code yX11_told cX11_told 5 ((some .int)) :: GW) B.pre, B.notSynchronized⟩
  obtain ⟨hx, hb, hr, hml, hown, hts, hlk⟩ := id C
  have w := wd_of hw
  have hsl : h_s h = h_s h + 0 := rfl
  have hn0 : s.heap.size = h_x h := (wd_x w).1
  obtain ⟨ls, hen, hl⟩ : ∃ ls : Array Slot, entryFrame m ([.ref th, .int x1, .int x2] : List Value).toArray 5 = F0 m 0 ls [] ∧ lv_has ls 5 [(0, .ref th), (1, .int x1), (2, .int x2)] := by
    exact ⟨_, lg_entry_eq _ _ _, lv_entry _ (Nat.le_of_ble_eq_true rfl)⟩
  rw [hen]
  have hcc : 0 ≤ h_x g - h_x h ∧ 0 ≤ h_s g - h_s h := ⟨Nat.zero_le _, Nat.zero_le _⟩
  unfold f_K_told at hE
  refine lv_aload_n hx hb dX11_told_0 rfl (lv_at hl 0 rfl) ?_
  refine lv_iload_n hx hb dX11_told_1 rfl (lv_at hl 1 rfl) ?_
  refine w_VTR GW_good (n := 1) (F := 8) (Lc := 122) (ob := some th) (av := [.int x1]) (rest := []) hxt hn0 hsl C w rfl (by decide) (fun a r g hf => k_K_chainOf l hst D cy z N h a x1 r g hf) gw_32_8 gw_32_9 gw_32_10 gw_1_2 gw_32_11 (by decide +kernel) ⟨Nat.le_of_ble_eq_true rfl, Nat.le_of_ble_eq_true rfl⟩ rfl hl.1 rfl (Nat.le_of_ble_eq_true rfl) dX11_told_2 (fun a => (mo_K_chainOf N h a x1)) (fun v1 h2 => mo_K_told_5 N   h2 th x2 v1) hE (fun v1 h2 H locs w hsh2 e1 => ?_)
  exact b_K_told_5 C hst hxt N (h_x h) (h_s h) hn0   _ _ h2 th x2 v1 _ _ ls w (by have u5 := hsh2.2.1; have u8 := hsl; omega) (lv_sub hl [0, 2] rfl) e1
set_option maxRecDepth 20000 in
set_option maxHeartbeats 4000000 in
theorem b_K_areNumbersOf_50 {p : Program} {l : Launch} {e : Env} {s : State} {m : MethodId} {args : Array Value} {below : List Frame} {meth : Method} {c : Code} {D : va_G} {cy : cyT} {z : Nat} (C : MX p s m args meth c cX11_areNumbersOf 4 ((some .boolean)) RX11 (Cond.code yX11_areNumbersOf cX11_areNumbersOf 4 ((some .boolean)) :: GW)) (N : Nat) {r : Int32} {g : hS}  : ∀  (h : hS) (y0 : Int32) (H : Heap) (locs : List Loc) (ls : Array Slot), wd D cy z s 0 h H locs → lv_has ls 4 [] → f_K_areNumbersOf_50 N   h y0 = some (r, g) → W p l e { frames := 2, cells := 0, slots := 0, locals := 40 } s m args below meth c H locs 0 0 (MQ below (eQ D cy z (rI r) g) args s 0 0 (fun q => z ≤ q)) (F0 m 50 ls [.int y0]) := by
  obtain ⟨hx, hb, hr, hml, hown, hts, hlk⟩ := id C
  intro  h y0 H locs ls w  hl hE
  unfold f_K_areNumbersOf_50 at hE
  exact w_zret C w hE dX11_areNumbersOf_50
set_option maxRecDepth 20000 in
set_option maxHeartbeats 4000000 in
theorem b_K_areNumbersOf_45 {p : Program} {l : Launch} {e : Env} {s : State} {m : MethodId} {args : Array Value} {below : List Frame} {meth : Method} {c : Code} {D : va_G} {cy : cyT} {z : Nat} (C : MX p s m args meth c cX11_areNumbersOf 4 ((some .boolean)) RX11 (Cond.code yX11_areNumbersOf cX11_areNumbersOf 4 ((some .boolean)) :: GW)) (N : Nat) {r : Int32} {g : hS}  : ∀  (h : hS)  (H : Heap) (locs : List Loc) (ls : Array Slot), wd D cy z s 0 h H locs → lv_has ls 4 [] → f_K_areNumbersOf_45 N   h  = some (r, g) → W p l e { frames := 2, cells := 0, slots := 0, locals := 40 } s m args below meth c H locs 0 0 (MQ below (eQ D cy z (rI r) g) args s 0 0 (fun q => z ≤ q)) (F0 m 45 ls []) := by
  obtain ⟨hx, hb, hr, hml, hown, hts, hlk⟩ := id C
  intro  h  H locs ls w  hl hE
  unfold f_K_areNumbersOf_45 at hE
  refine lv_iconst (v := 1) hx hb dX11_areNumbersOf_45 (by decide) ?_
  refine lv_goto (tgt := 50) hx hb dX11_areNumbersOf_46 (by decide) ?_
  exact b_K_areNumbersOf_50 C N     h (1 : Int32) _ _ ls w  (lv_sub hl [] rfl) hE
set_option maxRecDepth 20000 in
set_option maxHeartbeats 4000000 in
theorem b_K_areNumbersOf_49 {p : Program} {l : Launch} {e : Env} {s : State} {m : MethodId} {args : Array Value} {below : List Frame} {meth : Method} {c : Code} {D : va_G} {cy : cyT} {z : Nat} (C : MX p s m args meth c cX11_areNumbersOf 4 ((some .boolean)) RX11 (Cond.code yX11_areNumbersOf cX11_areNumbersOf 4 ((some .boolean)) :: GW)) (N : Nat) {r : Int32} {g : hS}  : ∀  (h : hS)  (H : Heap) (locs : List Loc) (ls : Array Slot), wd D cy z s 0 h H locs → lv_has ls 4 [] → f_K_areNumbersOf_49 N   h  = some (r, g) → W p l e { frames := 2, cells := 0, slots := 0, locals := 40 } s m args below meth c H locs 0 0 (MQ below (eQ D cy z (rI r) g) args s 0 0 (fun q => z ≤ q)) (F0 m 49 ls []) := by
  obtain ⟨hx, hb, hr, hml, hown, hts, hlk⟩ := id C
  intro  h  H locs ls w  hl hE
  unfold f_K_areNumbersOf_49 at hE
  refine lv_iconst (v := 0) hx hb dX11_areNumbersOf_49 (by decide) ?_
  exact b_K_areNumbersOf_50 C N     h (0 : Int32) _ _ ls w  (lv_sub hl [] rfl) hE
set_option maxRecDepth 20000 in
set_option maxHeartbeats 4000000 in
theorem b_K_areNumbersOf_30 {p : Program} {l : Launch} {e : Env} {s : State} {m : MethodId} {args : Array Value} {below : List Frame} {meth : Method} {c : Code} {D : va_G} {cy : cyT} {z : Nat} (C : MX p s m args meth c cX11_areNumbersOf 4 ((some .boolean)) RX11 (Cond.code yX11_areNumbersOf cX11_areNumbersOf 4 ((some .boolean)) :: GW)) (N : Nat) {r : Int32} {g : hS}  : ∀  (h : hS) (x2 : Int32) (x3 : Int32) (H : Heap) (locs : List Loc) (ls : Array Slot), wd D cy z s 0 h H locs → lv_has ls 4 [(2, .int x2), (3, .int x3)] → f_K_areNumbersOf_30 N   h x2 x3 = some (r, g) → W p l e { frames := 2, cells := 0, slots := 0, locals := 40 } s m args below meth c H locs 0 0 (MQ below (eQ D cy z (rI r) g) args s 0 0 (fun q => z ≤ q)) (F0 m 30 ls []) := by
  obtain ⟨hx, hb, hr, hml, hown, hts, hlk⟩ := id C
  intro  h x2 x3 H locs ls w  hl hE
  unfold f_K_areNumbersOf_30 at hE
  refine lv_iload_n hx hb dX11_areNumbersOf_30 rfl (lv_at hl 1 rfl) ?_
  refine lv_iconst (v := 2) hx hb dX11_areNumbersOf_31 (by decide) ?_
  refine w_icmp_lt (tgt := 45) C dX11_areNumbersOf_32 (by decide) hE (fun hc e1 => ?_) (fun hc e1 => ?_)
  · exact b_K_areNumbersOf_45 C N     h  _ _ ls w  (lv_sub hl [] rfl) e1
  · refine lv_iload_n hx hb dX11_areNumbersOf_35 rfl (lv_at hl 0 rfl) ?_
    refine w_if_lt (tgt := 49) C dX11_areNumbersOf_36 (by decide) e1 (fun hc e2 => ?_) (fun hc e2 => ?_)
    · exact b_K_areNumbersOf_49 C N     h  _ _ ls w  (lv_sub hl [] rfl) e2
    · refine lv_iload_n hx hb dX11_areNumbersOf_39 rfl (lv_at hl 0 rfl) ?_
      refine lv_bipush (v := 99) hx hb dX11_areNumbersOf_40 (by decide) ?_
      refine w_icmp_gt (tgt := 49) C dX11_areNumbersOf_42 (by decide) e2 (fun hc e3 => ?_) (fun hc e3 => ?_)
      · exact b_K_areNumbersOf_49 C N     h  _ _ ls w  (lv_sub hl [] rfl) e3
      · exact b_K_areNumbersOf_45 C N     h  _ _ ls w  (lv_sub hl [] rfl) e3
set_option maxRecDepth 20000 in
set_option maxHeartbeats 4000000 in
theorem b_K_areNumbersOf_28 {p : Program} {l : Launch} {e : Env} {s : State} {m : MethodId} {args : Array Value} {below : List Frame} {meth : Method} {c : Code} {D : va_G} {cy : cyT} {z : Nat} (C : MX p s m args meth c cX11_areNumbersOf 4 ((some .boolean)) RX11 (Cond.code yX11_areNumbersOf cX11_areNumbersOf 4 ((some .boolean)) :: GW)) (N : Nat) {r : Int32} {g : hS}  : ∀  (h : hS)  (H : Heap) (locs : List Loc) (ls : Array Slot), wd D cy z s 0 h H locs → lv_has ls 4 [] → f_K_areNumbersOf_28 N   h  = some (r, g) → W p l e { frames := 2, cells := 0, slots := 0, locals := 40 } s m args below meth c H locs 0 0 (MQ below (eQ D cy z (rI r) g) args s 0 0 (fun q => z ≤ q)) (F0 m 28 ls []) := by
  obtain ⟨hx, hb, hr, hml, hown, hts, hlk⟩ := id C
  intro  h  H locs ls w  hl hE
  unfold f_K_areNumbersOf_28 at hE
  refine lv_iconst (v := 0) hx hb dX11_areNumbersOf_28 (by decide) ?_
  exact w_zret C w hE dX11_areNumbersOf_29
set_option maxRecDepth 20000 in
set_option maxHeartbeats 4000000 in
theorem k_K_areNumbersOf (l : Launch) (D : va_G) (cy : cyT) (z : Nat) (N : Nat) (h : hS) (x0 : Int32) (x1 : Int32) (x2 : Int32) (r : Int32) (g : hS) (hE : f_K_areNumbersOf N h x0 x1 x2 = some (r, g)) : ct l yX11_areNumbersOf (Cond.code yX11_areNumbersOf cX11_areNumbersOf 4 ((some .boolean)) :: GW) { frames := 2, cells := 0, slots := 0, locals := 40 } D cy z h [.int x0, .int x1, .int x2] (rI r) g := by
  refine Met.ofW (cc := cX11_areNumbersOf) (maxL := 4) (ret := (some .boolean)) (by decide) rfl ?_
  intro p e s m args below meth c s₁ B hml hv
  obtain ⟨rfl, hw⟩ := hv
  have C : MX p s m ([.int x0, .int x1, .int x2] : List Value).toArray meth c cX11_areNumbersOf 4 ((some .boolean)) RX11 (Cond.code yX11_areNumbersOf cX11_areNumbersOf 4 ((some .boolean)) :: GW) := ⟨B.exec, B.bytes, B.returns, hml, findClass_of_methodNamed B.named, atoms_spec (ws := Cond.code yX11_areNumbersOf cX11_areNumbersOf 4 ((some .boolean)) :: GW) B.pre, B.notSynchronized⟩
  obtain ⟨hx, hb, hr, hml, hown, hts, hlk⟩ := id C
  have w := wd_of hw
  obtain ⟨ls, hen, hl⟩ : ∃ ls : Array Slot, entryFrame m ([.int x0, .int x1, .int x2] : List Value).toArray 4 = F0 m 0 ls [] ∧ lv_has ls 4 [(0, .int x0), (1, .int x1), (2, .int x2)] := by
    exact ⟨_, lg_entry_eq _ _ _, lv_entry _ (Nat.le_of_ble_eq_true rfl)⟩
  rw [hen]
  unfold f_K_areNumbersOf at hE
  refine lv_iload_n hx hb dX11_areNumbersOf_0 rfl (lv_at hl 0 rfl) ?_
  refine w_SI GW_good (n := 1) (F := 1) (Lc := 20) (av := [.int x0]) (rest := []) C w (fun r g hf => k_K_numbersOf l D cy z N h x0 r g hf) gw_16_1 gw_14_6 gw_1_2 gw_14_7 (by decide +kernel) ⟨Nat.le_of_ble_eq_true rfl, Nat.le_of_ble_eq_true rfl⟩ rfl hl.1 rfl (Nat.le_of_ble_eq_true rfl) dX11_areNumbersOf_1 (sh_K_numbersOf N h x0) ⟨by decide, by decide⟩ hE (fun v1 h2 H locs w hsh2 e1 => ?_)
  refine lv_istore_n (lv' := [(3, .int v1), (0, .int x0), (1, .int x1), (2, .int x2)]) hx hb dX11_areNumbersOf_4 rfl hl (by decide) rfl (fun ls hl => ?_)
  refine lv_iload_n hx hb dX11_areNumbersOf_5 rfl (lv_at hl 0 rfl) ?_
  refine lv_iconst (v := 1) hx hb dX11_areNumbersOf_6 (by decide) ?_
  refine w_icmp_lt (tgt := 30) C dX11_areNumbersOf_7 (by decide) e1 (fun hc e2 => ?_) (fun hc e2 => ?_)
  · exact b_K_areNumbersOf_30 C N     h2 x2 v1 _ _ ls w  (lv_sub hl [3, 0] rfl) e2
  · refine lv_iload_n hx hb dX11_areNumbersOf_10 rfl (lv_at hl 2 rfl) ?_
    refine w_gsR (k := 2) C w (List.mem_of_getElem? (i := 3) rfl) (List.mem_cons_of_mem _ gw_56_20) rfl dX11_areNumbersOf_11 e2 (fun v3 e3 => ?_)
    refine lv_iload_n hx hb dX11_areNumbersOf_14 rfl (lv_at hl 1 rfl) ?_
    refine w_aI56 (r := v3) C w dX11_areNumbersOf_15 e3 (fun v4 e4 => ?_)
    refine w_icmp_lt (tgt := 28) C dX11_areNumbersOf_16 (by decide) e4 (fun hc e5 => ?_) (fun hc e5 => ?_)
    · exact b_K_areNumbersOf_28 C N     h2  _ _ ls w  (lv_sub hl [] rfl) e5
    · refine lv_iload_n hx hb dX11_areNumbersOf_19 rfl (lv_at hl 2 rfl) ?_
      refine w_gsR (k := 3) C w (List.mem_of_getElem? (i := 4) rfl) (List.mem_cons_of_mem _ gw_56_21) rfl dX11_areNumbersOf_20 e5 (fun v5 e6 => ?_)
      refine lv_iload_n hx hb dX11_areNumbersOf_23 rfl (lv_at hl 1 rfl) ?_
      refine w_aI56 (r := v5) C w dX11_areNumbersOf_24 e6 (fun v6 e7 => ?_)
      refine w_icmp_le (tgt := 30) C dX11_areNumbersOf_25 (by decide) e7 (fun hc e8 => ?_) (fun hc e8 => ?_)
      · exact b_K_areNumbersOf_30 C N     h2 x2 v1 _ _ ls w  (lv_sub hl [3, 0] rfl) e8
      · exact b_K_areNumbersOf_28 C N     h2  _ _ ls w  (lv_sub hl [] rfl) e8
set_option maxRecDepth 20000 in
set_option maxHeartbeats 4000000 in
theorem b_K_isTellable_24 {p : Program} {l : Launch} {e : Env} {s : State} {m : MethodId} {args : Array Value} {below : List Frame} {meth : Method} {c : Code} {D : va_G} {cy : cyT} {z : Nat} (C : MX p s m args meth c cX11_isTellable 5 ((some .boolean)) RX11 (Cond.code yX11_isTellable cX11_isTellable 5 ((some .boolean)) :: GW)) (hst : l.stackTraces = false) (N : Nat) (n0 s0 : Nat) (hn0 : s.heap.size = n0) {r : Int32} {g : hS}  : ∀  (cells slots : Nat) (h : hS)  (H : Heap) (locs : List Loc) (ls : Array Slot), wd D cy z s cells h H locs → h_s h = s0 + slots → lv_has ls 5 [] → f_K_isTellable_24 N   h  = some (r, g) → W p l e { frames := 9, cells := h_x g - n0, slots := h_s g - s0, locals := 143 } s m args below meth c H locs cells slots (MQ below (eQ D cy z (rI r) g) args s (h_x g - n0) (h_s g - s0) (fun q => z ≤ q)) (F0 m 24 ls []) := by
  obtain ⟨hx, hb, hr, hml, hown, hts, hlk⟩ := id C
  intro cells slots h  H locs ls w hsl hl hE
  have hcc : cells ≤ h_x g - n0 ∧ slots ≤ h_s g - s0 := by
    have q1 := mo_K_isTellable_24 N  h  _ _ hE
    have q2 := wd_x w
    have q3 := q1.1
    have q4 := q1.2.1
    omega
  unfold f_K_isTellable_24 at hE
  refine lv_iconst (v := 0) hx hb dX11_isTellable_24 (by decide) ?_
  refine W.widen (k := h_x g - n0) (n := h_s g - s0) hcc.1 hcc.2 ?_
  exact w_zret C w hE dX11_isTellable_25
set_option maxRecDepth 20000 in
set_option maxHeartbeats 4000000 in
theorem b_K_isTellable_55 {p : Program} {l : Launch} {e : Env} {s : State} {m : MethodId} {args : Array Value} {below : List Frame} {meth : Method} {c : Code} {D : va_G} {cy : cyT} {z : Nat} (C : MX p s m args meth c cX11_isTellable 5 ((some .boolean)) RX11 (Cond.code yX11_isTellable cX11_isTellable 5 ((some .boolean)) :: GW)) (hst : l.stackTraces = false) (N : Nat) (n0 s0 : Nat) (hn0 : s.heap.size = n0) {r : Int32} {g : hS}  : ∀  (cells slots : Nat) (h : hS) (y0 : Int32) (H : Heap) (locs : List Loc) (ls : Array Slot), wd D cy z s cells h H locs → h_s h = s0 + slots → lv_has ls 5 [] → f_K_isTellable_55 N   h y0 = some (r, g) → W p l e { frames := 9, cells := h_x g - n0, slots := h_s g - s0, locals := 143 } s m args below meth c H locs cells slots (MQ below (eQ D cy z (rI r) g) args s (h_x g - n0) (h_s g - s0) (fun q => z ≤ q)) (F0 m 55 ls [.int y0]) := by
  obtain ⟨hx, hb, hr, hml, hown, hts, hlk⟩ := id C
  intro cells slots h y0 H locs ls w hsl hl hE
  have hcc : cells ≤ h_x g - n0 ∧ slots ≤ h_s g - s0 := by
    have q1 := mo_K_isTellable_55 N  h y0 _ _ hE
    have q2 := wd_x w
    have q3 := q1.1
    have q4 := q1.2.1
    omega
  unfold f_K_isTellable_55 at hE
  refine W.widen (k := h_x g - n0) (n := h_s g - s0) hcc.1 hcc.2 ?_
  exact w_zret C w hE dX11_isTellable_55
set_option maxRecDepth 20000 in
set_option maxHeartbeats 4000000 in
theorem b_K_isTellable_54 {p : Program} {l : Launch} {e : Env} {s : State} {m : MethodId} {args : Array Value} {below : List Frame} {meth : Method} {c : Code} {D : va_G} {cy : cyT} {z : Nat} (C : MX p s m args meth c cX11_isTellable 5 ((some .boolean)) RX11 (Cond.code yX11_isTellable cX11_isTellable 5 ((some .boolean)) :: GW)) (hst : l.stackTraces = false) (N : Nat) (n0 s0 : Nat) (hn0 : s.heap.size = n0) {r : Int32} {g : hS}  : ∀  (cells slots : Nat) (h : hS)  (H : Heap) (locs : List Loc) (ls : Array Slot), wd D cy z s cells h H locs → h_s h = s0 + slots → lv_has ls 5 [] → f_K_isTellable_54 N   h  = some (r, g) → W p l e { frames := 9, cells := h_x g - n0, slots := h_s g - s0, locals := 143 } s m args below meth c H locs cells slots (MQ below (eQ D cy z (rI r) g) args s (h_x g - n0) (h_s g - s0) (fun q => z ≤ q)) (F0 m 54 ls []) := by
  obtain ⟨hx, hb, hr, hml, hown, hts, hlk⟩ := id C
  intro cells slots h  H locs ls w hsl hl hE
  have hcc : cells ≤ h_x g - n0 ∧ slots ≤ h_s g - s0 := by
    have q1 := mo_K_isTellable_54 N  h  _ _ hE
    have q2 := wd_x w
    have q3 := q1.1
    have q4 := q1.2.1
    omega
  unfold f_K_isTellable_54 at hE
  refine lv_iconst (v := 0) hx hb dX11_isTellable_54 (by decide) ?_
  exact b_K_isTellable_55 C hst N n0 s0 hn0   _ _ h (0 : Int32) _ _ ls w hsl (lv_sub hl [] rfl) hE
set_option maxRecDepth 20000 in
set_option maxHeartbeats 4000000 in
theorem b_K_isTellable_42 {p : Program} {l : Launch} {e : Env} {s : State} {m : MethodId} {args : Array Value} {below : List Frame} {meth : Method} {c : Code} {D : va_G} {cy : cyT} {z : Nat} (C : MX p s m args meth c cX11_isTellable 5 ((some .boolean)) RX11 (Cond.code yX11_isTellable cX11_isTellable 5 ((some .boolean)) :: GW)) (hst : l.stackTraces = false) (N : Nat) (n0 s0 : Nat) (hn0 : s.heap.size = n0) {r : Int32} {g : hS}  : ∀  (cells slots : Nat) (h : hS) (y0 : Option Nat) (H : Heap) (locs : List Loc) (ls : Array Slot), wd D cy z s cells h H locs → h_s h = s0 + slots → lv_has ls 5 [] → f_K_isTellable_42 N   h y0 = some (r, g) → W p l e { frames := 9, cells := h_x g - n0, slots := h_s g - s0, locals := 143 } s m args below meth c H locs cells slots (MQ below (eQ D cy z (rI r) g) args s (h_x g - n0) (h_s g - s0) (fun q => z ≤ q)) (F0 m 42 ls [va_rf y0]) := by
  obtain ⟨hx, hb, hr, hml, hown, hts, hlk⟩ := id C
  intro cells slots h y0 H locs ls w hsl hl hE
  have hcc : cells ≤ h_x g - n0 ∧ slots ≤ h_s g - s0 := by
    have q1 := mo_K_isTellable_42 N  h y0 _ _ hE
    have q2 := wd_x w
    have q3 := q1.1
    have q4 := q1.2.1
    omega
  unfold f_K_isTellable_42 at hE
  refine w_gI (r := y0) (ci := 2) (k := 1) C w rfl (by decide) (GF_wsX10 _) (by decide) rfl (List.mem_cons_of_mem _ gw_23_10) rfl dX11_isTellable_42 hE (fun v1 e1 => ?_)
  refine lv_bipush (v := 40) hx hb dX11_isTellable_45 (by decide) ?_
  refine w_icmp_ge (tgt := 54) C dX11_isTellable_47 (by decide) e1 (fun hc e2 => ?_) (fun hc e2 => ?_)
  · exact b_K_isTellable_54 C hst N n0 s0 hn0   _ _ h  _ _ ls w hsl (lv_sub hl [] rfl) e2
  · refine lv_iconst (v := 1) hx hb dX11_isTellable_50 (by decide) ?_
    refine lv_goto (tgt := 55) hx hb dX11_isTellable_51 (by decide) ?_
    exact b_K_isTellable_55 C hst N n0 s0 hn0   _ _ h (1 : Int32) _ _ ls w hsl (lv_sub hl [] rfl) e2
set_option maxRecDepth 20000 in
set_option maxHeartbeats 4000000 in
theorem b_K_isTellable_37 {p : Program} {l : Launch} {e : Env} {s : State} {m : MethodId} {args : Array Value} {below : List Frame} {meth : Method} {c : Code} {D : va_G} {cy : cyT} {z : Nat} (C : MX p s m args meth c cX11_isTellable 5 ((some .boolean)) RX11 (Cond.code yX11_isTellable cX11_isTellable 5 ((some .boolean)) :: GW)) (hst : l.stackTraces = false) (N : Nat) (n0 s0 : Nat) (hn0 : s.heap.size = n0) {r : Int32} {g : hS}  : ∀  (cells slots : Nat) (h : hS) (th : Nat) (x1 : Int32) (H : Heap) (locs : List Loc) (ls : Array Slot), wd D cy z s cells h H locs → h_s h = s0 + slots → lv_has ls 5 [(0, .ref th), (1, .int x1)] → f_K_isTellable_37 N   h th x1 = some (r, g) → W p l e { frames := 9, cells := h_x g - n0, slots := h_s g - s0, locals := 143 } s m args below meth c H locs cells slots (MQ below (eQ D cy z (rI r) g) args s (h_x g - n0) (h_s g - s0) (fun q => z ≤ q)) (F0 m 37 ls []) := by
  obtain ⟨hx, hb, hr, hml, hown, hts, hlk⟩ := id C
  intro cells slots h th x1 H locs ls w hsl hl hE
  have hcc : cells ≤ h_x g - n0 ∧ slots ≤ h_s g - s0 := by
    have q1 := mo_K_isTellable_37 N  h th x1 _ _ hE
    have q2 := wd_x w
    have q3 := q1.1
    have q4 := q1.2.1
    omega
  unfold f_K_isTellable_37 at hE
  refine lv_aload_n hx hb dX11_isTellable_37 rfl (lv_at hl 0 rfl) ?_
  refine lv_iload_n hx hb dX11_isTellable_38 rfl (lv_at hl 1 rfl) ?_
  refine w_VAR GW_good (n := 1) (F := 8) (Lc := 122) (o := some th) (av := [.int x1]) (rest := []) C w rfl (by decide) (fun a r g hf => k_K_chainOf l hst D cy z N h a x1 (Sum.inl r) g (fN_some hf)) gw_32_8 gw_32_9 gw_32_10 gw_1_2 gw_32_11 (by decide +kernel) ⟨Nat.le_of_ble_eq_true rfl, Nat.le_of_ble_eq_true rfl⟩ rfl hl.1 rfl (Nat.le_of_ble_eq_true rfl) dX11_isTellable_39 (fun a => (Mo_fN (mo_K_chainOf N h a x1))) (fun a v1 h2 q1 q2 => by have u1 := (Mo_fN (mo_K_chainOf N h a x1)) _ _ q1; have u2 := mo_K_isTellable_42 N   h2 v1 _ _ q2; have u3 := wd_x w; have u4 := u1.1; have u5 := u1.2.1; have u6 := u2.1; have u7 := u2.2.1; show cells + _ ≤ h_x g - n0 ∧ slots + _ ≤ h_s g - s0; omega) hE (fun v1 h2 H locs w hsh2 e1 => ?_)
  exact b_K_isTellable_42 C hst N n0 s0 hn0   _ _ h2 v1 _ _ ls w (by have u5 := hsh2.2.1; have u8 := hsl; omega) (lv_sub hl [] rfl) e1
set_option maxRecDepth 20000 in
set_option maxHeartbeats 4000000 in
theorem k_K_isTellable (l : Launch) (hst : l.stackTraces = false) (D : va_G) (cy : cyT) (z : Nat) (N : Nat) (h : hS) (th : Nat) (x1 : Int32) (x2 : Int32) (x3 : Int32) (x4 : Int32) (r : Int32) (g : hS) (hE : f_K_isTellable N h th x1 x2 x3 x4 = some (r, g)) : ct l yX11_isTellable (Cond.code yX11_isTellable cX11_isTellable 5 ((some .boolean)) :: GW) { frames := 9, cells := h_x g - h_x h, slots := h_s g - h_s h, locals := 143 } D cy z h [.ref th, .int x1, .int x2, .int x3, .int x4] (rI r) g := by
  refine Met.ofW (cc := cX11_isTellable) (maxL := 5) (ret := (some .boolean)) (by decide) rfl ?_
  intro p e s m args below meth c s₁ B hml hv
  obtain ⟨rfl, hw⟩ := hv
  have C : MX p s m ([.ref th, .int x1, .int x2, .int x3, .int x4] : List Value).toArray meth c cX11_isTellable 5 ((some .boolean)) RX11 (Cond.code yX11_isTellable cX11_isTellable 5 ((some .boolean)) :: GW) := ⟨B.exec, B.bytes, B.returns, hml, findClass_of_methodNamed B.named, atoms_spec (ws := Cond.code yX11_isTellable cX11_isTellable 5 ((some .boolean)) :: GW) B.pre, B.notSynchronized⟩
  obtain ⟨hx, hb, hr, hml, hown, hts, hlk⟩ := id C
  have w := wd_of hw
  have hsl : h_s h = h_s h + 0 := rfl
  have hn0 : s.heap.size = h_x h := (wd_x w).1
  obtain ⟨ls, hen, hl⟩ : ∃ ls : Array Slot, entryFrame m ([.ref th, .int x1, .int x2, .int x3, .int x4] : List Value).toArray 5 = F0 m 0 ls [] ∧ lv_has ls 5 [(0, .ref th), (1, .int x1), (2, .int x2), (3, .int x3), (4, .int x4)] := by
    exact ⟨_, lg_entry_eq _ _ _, lv_entry _ (Nat.le_of_ble_eq_true rfl)⟩
  rw [hen]
  have hcc : 0 ≤ h_x g - h_x h ∧ 0 ≤ h_s g - h_s h := ⟨Nat.zero_le _, Nat.zero_le _⟩
  unfold f_K_isTellable at hE
  refine lv_iload_n hx hb dX11_isTellable_0 rfl (lv_at hl 1 rfl) ?_
  refine w_SI GW_good (n := 1) (F := 0) (Lc := 0) (av := [.int x1]) (rest := []) C w (fun r g hf => k_K_isCost l D cy z N h x1 r g hf) gw_9_12 gw_9_13 gw_1_2 gw_9_14 (by decide +kernel) ⟨Nat.le_of_ble_eq_true rfl, Nat.le_of_ble_eq_true rfl⟩ rfl hl.1 rfl (Nat.le_of_ble_eq_true rfl) dX11_isTellable_1 (sh_K_isCost N h x1) ⟨hcc.1, hcc.2⟩ hE (fun v1 h2 H locs w hsh2 e1 => ?_)
  have hsl := hsh2.2.2.2.trans hsl
  refine w_if_eq (tgt := 24) C dX11_isTellable_4 (by decide) e1 (fun hc e2 => ?_) (fun hc e2 => ?_)
  · exact b_K_isTellable_24 C hst N (h_x h) (h_s h) hn0   _ _ h2  _ _ ls w hsl (lv_sub hl [] rfl) e2
  · refine lv_iload_n hx hb dX11_isTellable_7 rfl (lv_at hl 2 rfl) ?_
    refine w_SI GW_good (n := 1) (F := 0) (Lc := 0) (av := [.int x2]) (rest := []) C w (fun r g hf => k_K_isKind l D cy z N h2 x2 r g hf) gw_14_9 gw_14_10 gw_1_2 gw_14_11 (by decide +kernel) ⟨Nat.le_of_ble_eq_true rfl, Nat.le_of_ble_eq_true rfl⟩ rfl hl.1 rfl (Nat.le_of_ble_eq_true rfl) dX11_isTellable_8 (sh_K_isKind N h2 x2) ⟨hcc.1, hcc.2⟩ e2 (fun v3 h4 H locs w hsh4 e3 => ?_)
    have hsl := hsh4.2.2.2.trans hsl
    refine w_if_eq (tgt := 24) C dX11_isTellable_11 (by decide) e3 (fun hc e4 => ?_) (fun hc e4 => ?_)
    · exact b_K_isTellable_24 C hst N (h_x h) (h_s h) hn0   _ _ h4  _ _ ls w hsl (lv_sub hl [] rfl) e4
    · refine lv_iload_n hx hb dX11_isTellable_14 rfl (lv_at hl 2 rfl) ?_
      refine lv_iload_n hx hb dX11_isTellable_15 rfl (lv_at hl 3 rfl) ?_
      refine lv_iload hx hb dX11_isTellable_16 (lv_at hl 4 rfl) ?_
      refine w_SI GW_good (n := 3) (F := 2) (Lc := 40) (av := [.int x2, .int x3, .int x4]) (rest := []) C w (fun r g hf => k_K_areNumbersOf l D cy z N h4 x2 x3 x4 r g hf) gw_56_17 gw_56_18 gw_1_2 gw_56_19 (by decide +kernel) ⟨Nat.le_of_ble_eq_true rfl, Nat.le_of_ble_eq_true rfl⟩ rfl hl.1 rfl (Nat.le_of_ble_eq_true rfl) dX11_isTellable_18 (sh_K_areNumbersOf N h4 x2 x3 x4) ⟨hcc.1, hcc.2⟩ e4 (fun v5 h6 H locs w hsh6 e5 => ?_)
      have hsl := hsh6.2.2.2.trans hsl
      refine w_if_ne (tgt := 26) C dX11_isTellable_21 (by decide) e5 (fun hc e6 => ?_) (fun hc e6 => ?_)
      · refine lv_iload_n hx hb dX11_isTellable_26 rfl (lv_at hl 2 rfl) ?_
        refine lv_bipush (v := 8) hx hb dX11_isTellable_27 (by decide) ?_
        refine w_icmp_ne (tgt := 37) C dX11_isTellable_29 (by decide) e6 (fun hc e7 => ?_) (fun hc e7 => ?_)
        · exact b_K_isTellable_37 C hst N (h_x h) (h_s h) hn0   _ _ h6 th x1 _ _ ls w hsl (lv_sub hl [0, 1] rfl) e7
        · refine lv_iload_n hx hb dX11_isTellable_32 rfl (lv_at hl 3 rfl) ?_
          refine lv_iload_n hx hb dX11_isTellable_33 rfl (lv_at hl 1 rfl) ?_
          refine w_icmp_eq (tgt := 54) C dX11_isTellable_34 (by decide) e7 (fun hc e8 => ?_) (fun hc e8 => ?_)
          · exact b_K_isTellable_54 C hst N (h_x h) (h_s h) hn0   _ _ h6  _ _ ls w hsl (lv_sub hl [] rfl) e8
          · exact b_K_isTellable_37 C hst N (h_x h) (h_s h) hn0   _ _ h6 th x1 _ _ ls w hsl (lv_sub hl [0, 1] rfl) e8
      · exact b_K_isTellable_24 C hst N (h_x h) (h_s h) hn0   _ _ h6  _ _ ls w hsl (lv_sub hl [] rfl) e6
set_option maxRecDepth 20000 in
set_option maxHeartbeats 4000000 in
theorem k_K_refuseAct (l : Launch) (D : va_G) (cy : cyT) (z : Nat) (N : Nat) (h : hS) (th : Nat) (r : Int32) (g : hS) (hE : f_K_refuseAct N h th = some (r, g)) : ct l yX11_refuseAct (Cond.code yX11_refuseAct cX11_refuseAct 1 ((some .int)) :: GW) { frames := 0, cells := 0, slots := 0, locals := 0 } D cy z h [.ref th] (rI r) g := by
  refine Met.ofW (cc := cX11_refuseAct) (maxL := 1) (ret := (some .int)) (by decide) rfl ?_
  intro p e s m args below meth c s₁ B hml hv
  obtain ⟨rfl, hw⟩ := hv
  have C : MX p s m ([.ref th] : List Value).toArray meth c cX11_refuseAct 1 ((some .int)) RX11 (Cond.code yX11_refuseAct cX11_refuseAct 1 ((some .int)) :: GW) := ⟨B.exec, B.bytes, B.returns, hml, findClass_of_methodNamed B.named, atoms_spec (ws := Cond.code yX11_refuseAct cX11_refuseAct 1 ((some .int)) :: GW) B.pre, B.notSynchronized⟩
  obtain ⟨hx, hb, hr, hml, hown, hts, hlk⟩ := id C
  have w := wd_of hw
  obtain ⟨ls, hen, hl⟩ : ∃ ls : Array Slot, entryFrame m ([.ref th] : List Value).toArray 1 = F0 m 0 ls [] ∧ lv_has ls 1 [(0, .ref th)] := by
    exact ⟨_, lg_entry_eq _ _ _, lv_entry _ (Nat.le_of_ble_eq_true rfl)⟩
  rw [hen]
  unfold f_K_refuseAct at hE
  refine lv_aload_n hx hb dX11_refuseAct_0 rfl (lv_at hl 0 rfl) ?_
  refine w_gR (r := some th) (ci := 12) (k := 16) C w rfl (by decide) (GF_wsX110 _) (by decide) rfl (List.mem_cons_of_mem _ gw_3_11) rfl dX11_refuseAct_1 hE (fun v1 e1 => ?_)
  refine w_gR (r := v1) (ci := 7) (k := 7) C w rfl (by decide) (GF_wsX60 _) (by decide) rfl (List.mem_cons_of_mem _ gw_15_5) rfl dX11_refuseAct_4 e1 (fun v2 e2 => ?_)
  refine lv_iconst (v := 1) hx hb dX11_refuseAct_7 (by decide) ?_
  refine lv_dup2_11 hx hb dX11_refuseAct_8 rfl (va_rf_cat _) ?_
  refine w_aI (r := v2) C w dX11_refuseAct_9 e2 (fun v3 e3 => ?_)
  refine lv_iconst (v := 1) hx hb dX11_refuseAct_10 (by decide) ?_
  refine lv_iadd hx hb dX11_refuseAct_11 ?_
  refine w_uI (r := v2) C w dX11_refuseAct_12 e3 (fun h4 H locs w hsh4 e4 => ?_)
  refine lv_iconst (v := -1) hx hb dX11_refuseAct_13 (by decide) ?_
  exact w_iret C w e4 dX11_refuseAct_14
set_option maxRecDepth 20000 in
set_option maxHeartbeats 4000000 in
theorem b_K_does_89 {p : Program} {l : Launch} {e : Env} {s : State} {m : MethodId} {args : Array Value} {below : List Frame} {meth : Method} {c : Code} {D : va_G} {cy : cyT} {z : Nat} (C : MX p s m args meth c cX11_does 6 ((some .int)) RX11 (Cond.code yX11_does cX11_does 6 ((some .int)) :: GW)) (hst : l.stackTraces = false) (N : Nat) (n0 s0 : Nat) (hn0 : s.heap.size = n0) {r : Int32} {g : hS}  : ∀  (cells slots : Nat) (h : hS) (y0 : Int32) (H : Heap) (locs : List Loc) (ls : Array Slot), wd D cy z s cells h H locs → h_s h = s0 + slots → lv_has ls 6 [] → f_K_does_89 N   h y0 = some (r, g) → W p l e { frames := 10, cells := h_x g - n0, slots := h_s g - s0, locals := 168 } s m args below meth c H locs cells slots (MQ below (eQ D cy z (rI r) g) args s (h_x g - n0) (h_s g - s0) (fun q => z ≤ q)) (F0 m 89 ls [.int y0]) := by
  obtain ⟨hx, hb, hr, hml, hown, hts, hlk⟩ := id C
  intro cells slots h y0 H locs ls w hsl hl hE
  have hcc : cells ≤ h_x g - n0 ∧ slots ≤ h_s g - s0 := by
    have q1 := mo_K_does_89 N  h y0 _ _ hE
    have q2 := wd_x w
    have q3 := q1.1
    have q4 := q1.2.1
    omega
  unfold f_K_does_89 at hE
  refine W.widen (k := h_x g - n0) (n := h_s g - s0) hcc.1 hcc.2 ?_
  exact w_iret C w hE dX11_does_89
set_option maxRecDepth 20000 in
set_option maxHeartbeats 4000000 in
theorem b_K_does_84 {p : Program} {l : Launch} {e : Env} {s : State} {m : MethodId} {args : Array Value} {below : List Frame} {meth : Method} {c : Code} {D : va_G} {cy : cyT} {z : Nat} (C : MX p s m args meth c cX11_does 6 ((some .int)) RX11 (Cond.code yX11_does cX11_does 6 ((some .int)) :: GW)) (hst : l.stackTraces = false) (N : Nat) (n0 s0 : Nat) (hn0 : s.heap.size = n0) {r : Int32} {g : hS}  : ∀  (cells slots : Nat) (h : hS) (th : Nat) (x1 : Int32) (H : Heap) (locs : List Loc) (ls : Array Slot), wd D cy z s cells h H locs → h_s h = s0 + slots → lv_has ls 6 [(0, .ref th), (1, .int x1)] → f_K_does_84 N   h th x1 = some (r, g) → W p l e { frames := 10, cells := h_x g - n0, slots := h_s g - s0, locals := 168 } s m args below meth c H locs cells slots (MQ below (eQ D cy z (rI r) g) args s (h_x g - n0) (h_s g - s0) (fun q => z ≤ q)) (F0 m 84 ls []) := by
  obtain ⟨hx, hb, hr, hml, hown, hts, hlk⟩ := id C
  intro cells slots h th x1 H locs ls w hsl hl hE
  have hcc : cells ≤ h_x g - n0 ∧ slots ≤ h_s g - s0 := by
    have q1 := mo_K_does_84 N  h th x1 _ _ hE
    have q2 := wd_x w
    have q3 := q1.1
    have q4 := q1.2.1
    omega
  unfold f_K_does_84 at hE
  refine lv_aload_n hx hb dX11_does_84 rfl (lv_at hl 0 rfl) ?_
  refine lv_iload_n hx hb dX11_does_85 rfl (lv_at hl 1 rfl) ?_
  refine w_VAI GW_good (n := 1) (F := 9) (Lc := 143) (o := some th) (av := [.int x1]) (rest := []) C w rfl (by decide) (fun a r g hf => k_K_become l hst D cy z N h a x1 r g hf) gw_23_5 gw_23_6 gw_23_7 gw_1_2 gw_23_8 (by decide +kernel) ⟨Nat.le_of_ble_eq_true rfl, Nat.le_of_ble_eq_true rfl⟩ rfl hl.1 rfl (Nat.le_of_ble_eq_true rfl) dX11_does_86 (fun a => (mo_K_become N h a x1)) (fun a v1 h2 q1 q2 => by have u1 := (mo_K_become N h a x1) _ _ q1; have u2 := mo_K_does_89 N   h2 v1 _ _ q2; have u3 := wd_x w; have u4 := u1.1; have u5 := u1.2.1; have u6 := u2.1; have u7 := u2.2.1; show cells + _ ≤ h_x g - n0 ∧ slots + _ ≤ h_s g - s0; omega) hE (fun v1 h2 H locs w hsh2 e1 => ?_)
  exact b_K_does_89 C hst N n0 s0 hn0   _ _ h2 v1 _ _ ls w (by have u5 := hsh2.2.1; have u8 := hsl; omega) (lv_sub hl [] rfl) e1
set_option maxRecDepth 20000 in
set_option maxHeartbeats 4000000 in
theorem b_K_does_68 {p : Program} {l : Launch} {e : Env} {s : State} {m : MethodId} {args : Array Value} {below : List Frame} {meth : Method} {c : Code} {D : va_G} {cy : cyT} {z : Nat} (C : MX p s m args meth c cX11_does 6 ((some .int)) RX11 (Cond.code yX11_does cX11_does 6 ((some .int)) :: GW)) (hst : l.stackTraces = false) (N : Nat) (n0 s0 : Nat) (hn0 : s.heap.size = n0) {r : Int32} {g : hS}  : ∀  (cells slots : Nat) (h : hS) (th : Nat) (x1 : Int32) (a5 : Option Nat) (H : Heap) (locs : List Loc) (ls : Array Slot), wd D cy z s cells h H locs → h_s h = s0 + slots → lv_has ls 6 [(0, .ref th), (1, .int x1), (5, va_rf a5)] → f_K_does_68 N   h th x1 a5 = some (r, g) → W p l e { frames := 10, cells := h_x g - n0, slots := h_s g - s0, locals := 168 } s m args below meth c H locs cells slots (MQ below (eQ D cy z (rI r) g) args s (h_x g - n0) (h_s g - s0) (fun q => z ≤ q)) (F0 m 68 ls []) := by
  obtain ⟨hx, hb, hr, hml, hown, hts, hlk⟩ := id C
  intro cells slots h th x1 a5 H locs ls w hsl hl hE
  have hcc : cells ≤ h_x g - n0 ∧ slots ≤ h_s g - s0 := by
    have q1 := mo_K_does_68 N  h th x1 a5 _ _ hE
    have q2 := wd_x w
    have q3 := q1.1
    have q4 := q1.2.1
    omega
  unfold f_K_does_68 at hE
  refine lv_aload_n hx hb dX11_does_68 rfl (lv_at hl 0 rfl) ?_
  refine w_gR (r := some th) (ci := 12) (k := 15) C w rfl (by decide) (GF_wsX110 _) (by decide) rfl (List.mem_cons_of_mem _ gw_3_7) rfl dX11_does_69 hE (fun v1 e1 => ?_)
  refine lv_aload_n hx hb dX11_does_72 rfl (lv_at hl 0 rfl) ?_
  refine w_gR (r := some th) (ci := 12) (k := 15) C w rfl (by decide) (GF_wsX110 _) (by decide) rfl (List.mem_cons_of_mem _ gw_3_7) rfl dX11_does_73 e1 (fun v2 e2 => ?_)
  refine w_gI (r := v2) (ci := 2) (k := 1) C w rfl (by decide) (GF_wsX10 _) (by decide) rfl (List.mem_cons_of_mem _ gw_23_10) rfl dX11_does_76 e2 (fun v3 e3 => ?_)
  refine w_aload C dX11_does_79 (lv_at hl 2 rfl) ?_
  refine w_VAV GW_good (n := 2) (F := 1) (Lc := 23) (o := v1) (av := [.int v3, va_rf a5]) (rest := []) C w rfl (by decide) (fun a r g hf => k_Chain_insert l D cy z N h a v3 a5 r g hf) gw_19_9 gw_19_10 gw_19_11 gw_3_6 gw_19_12 (by decide +kernel) ⟨Nat.le_of_ble_eq_true rfl, Nat.le_of_ble_eq_true rfl⟩ rfl hl.1 rfl (Nat.le_of_ble_eq_true rfl) dX11_does_81 (fun a => (mo_Chain_insert N h a v3 a5)) (fun a v4 h5 q1 q2 => by have u1 := (mo_Chain_insert N h a v3 a5) _ _ q1; have u2 := mo_K_does_84 N   h5 th x1 _ _ q2; have u3 := wd_x w; have u4 := u1.1; have u5 := u1.2.1; have u6 := u2.1; have u7 := u2.2.1; show cells + _ ≤ h_x g - n0 ∧ slots + _ ≤ h_s g - s0; omega) e3 (fun v4 h5 H locs w hsh5 e4 => ?_)
  exact b_K_does_84 C hst N n0 s0 hn0   _ _ h5 th x1 _ _ ls w (by have u5 := hsh5.2.1; have u8 := hsl; omega) (lv_sub hl [0, 1] rfl) e4
set_option maxRecDepth 20000 in
set_option maxHeartbeats 4000000 in
theorem b_K_does_65 {p : Program} {l : Launch} {e : Env} {s : State} {m : MethodId} {args : Array Value} {below : List Frame} {meth : Method} {c : Code} {D : va_G} {cy : cyT} {z : Nat} (C : MX p s m args meth c cX11_does 6 ((some .int)) RX11 (Cond.code yX11_does cX11_does 6 ((some .int)) :: GW)) (hst : l.stackTraces = false) (N : Nat) (n0 s0 : Nat) (hn0 : s.heap.size = n0) {r : Int32} {g : hS}  : ∀  (cells slots : Nat) (h : hS) (th : Nat) (x1 : Int32) (a5 : Option Nat) (y0 : Option Nat) (y1 : Option Nat) (H : Heap) (locs : List Loc) (ls : Array Slot), wd D cy z s cells h H locs → h_s h = s0 + slots → lv_has ls 6 [(0, .ref th), (1, .int x1), (5, va_rf a5)] → f_K_does_65 N   h th x1 a5 y0 y1 = some (r, g) → W p l e { frames := 10, cells := h_x g - n0, slots := h_s g - s0, locals := 168 } s m args below meth c H locs cells slots (MQ below (eQ D cy z (rI r) g) args s (h_x g - n0) (h_s g - s0) (fun q => z ≤ q)) (F0 m 65 ls [va_rf y1, va_rf y0]) := by
  obtain ⟨hx, hb, hr, hml, hown, hts, hlk⟩ := id C
  intro cells slots h th x1 a5 y0 y1 H locs ls w hsl hl hE
  have hcc : cells ≤ h_x g - n0 ∧ slots ≤ h_s g - s0 := by
    have q1 := mo_K_does_65 N  h th x1 a5 y0 y1 _ _ hE
    have q2 := wd_x w
    have q3 := q1.1
    have q4 := q1.2.1
    omega
  unfold f_K_does_65 at hE
  refine w_VAV GW_good (n := 1) (F := 1) (Lc := 44) (o := y0) (av := [va_rf y1]) (rest := []) C w rfl (by decide) (fun a r g hf => k_Chain_take l D cy z N h a y1 r g hf) gw_57_7 gw_24_0 gw_24_1 gw_3_6 gw_24_2 (by decide +kernel) ⟨Nat.le_of_ble_eq_true rfl, Nat.le_of_ble_eq_true rfl⟩ rfl hl.1 rfl (Nat.le_of_ble_eq_true rfl) dX11_does_65 (fun a => (mo_Chain_take N h a y1)) (fun a v1 h2 q1 q2 => by have u1 := (mo_Chain_take N h a y1) _ _ q1; have u2 := mo_K_does_68 N   h2 th x1 a5 _ _ q2; have u3 := wd_x w; have u4 := u1.1; have u5 := u1.2.1; have u6 := u2.1; have u7 := u2.2.1; show cells + _ ≤ h_x g - n0 ∧ slots + _ ≤ h_s g - s0; omega) hE (fun v1 h2 H locs w hsh2 e1 => ?_)
  exact b_K_does_68 C hst N n0 s0 hn0   _ _ h2 th x1 a5 _ _ ls w (by have u5 := hsh2.2.1; have u8 := hsl; omega) (lv_sub hl [0, 1, 2] rfl) e1
set_option maxRecDepth 20000 in
set_option maxHeartbeats 4000000 in
theorem b_K_does_48 {p : Program} {l : Launch} {e : Env} {s : State} {m : MethodId} {args : Array Value} {below : List Frame} {meth : Method} {c : Code} {D : va_G} {cy : cyT} {z : Nat} (C : MX p s m args meth c cX11_does 6 ((some .int)) RX11 (Cond.code yX11_does cX11_does 6 ((some .int)) :: GW)) (hst : l.stackTraces = false) (N : Nat) (n0 s0 : Nat) (hn0 : s.heap.size = n0) {r : Int32} {g : hS}  : ∀  (cells slots : Nat) (h : hS) (th : Nat) (x1 : Int32) (a5 : Option Nat) (y0 : Int32) (H : Heap) (locs : List Loc) (ls : Array Slot), wd D cy z s cells h H locs → h_s h = s0 + slots → lv_has ls 6 [(0, .ref th), (1, .int x1), (5, va_rf a5)] → f_K_does_48 N   h th x1 a5 y0 = some (r, g) → W p l e { frames := 10, cells := h_x g - n0, slots := h_s g - s0, locals := 168 } s m args below meth c H locs cells slots (MQ below (eQ D cy z (rI r) g) args s (h_x g - n0) (h_s g - s0) (fun q => z ≤ q)) (F0 m 48 ls [.int y0]) := by
  obtain ⟨hx, hb, hr, hml, hown, hts, hlk⟩ := id C
  intro cells slots h th x1 a5 y0 H locs ls w hsl hl hE
  have hcc : cells ≤ h_x g - n0 ∧ slots ≤ h_s g - s0 := by
    have q1 := mo_K_does_48 N  h th x1 a5 y0 _ _ hE
    have q2 := wd_x w
    have q3 := q1.1
    have q4 := q1.2.1
    omega
  unfold f_K_does_48 at hE
  refine w_if_ne (tgt := 56) C dX11_does_48 (by decide) hE (fun hc e1 => ?_) (fun hc e1 => ?_)
  · refine lv_aload_n hx hb dX11_does_56 rfl (lv_at hl 0 rfl) ?_
    refine w_gR (r := some th) (ci := 12) (k := 15) C w rfl (by decide) (GF_wsX110 _) (by decide) rfl (List.mem_cons_of_mem _ gw_3_7) rfl dX11_does_57 e1 (fun v1 e2 => ?_)
    refine lv_aload_n hx hb dX11_does_60 rfl (lv_at hl 0 rfl) ?_
    refine lv_iload_n hx hb dX11_does_61 rfl (lv_at hl 1 rfl) ?_
    refine w_VAR GW_good (n := 1) (F := 8) (Lc := 122) (o := some th) (av := [.int x1]) (rest := [va_rf v1]) C w rfl (by decide) (fun a r g hf => k_K_chainOf l hst D cy z N h a x1 (Sum.inl r) g (fN_some hf)) gw_32_8 gw_32_9 gw_32_10 gw_1_2 gw_32_11 (by decide +kernel) ⟨Nat.le_of_ble_eq_true rfl, Nat.le_of_ble_eq_true rfl⟩ rfl hl.1 rfl (cat_le (Nat.le_of_ble_eq_true rfl)) dX11_does_62 (fun a => (Mo_fN (mo_K_chainOf N h a x1))) (fun a v2 h3 q1 q2 => by have u1 := (Mo_fN (mo_K_chainOf N h a x1)) _ _ q1; have u2 := mo_K_does_65 N   h3 th x1 a5 v1 v2 _ _ q2; have u3 := wd_x w; have u4 := u1.1; have u5 := u1.2.1; have u6 := u2.1; have u7 := u2.2.1; show cells + _ ≤ h_x g - n0 ∧ slots + _ ≤ h_s g - s0; omega) e2 (fun v2 h3 H locs w hsh3 e3 => ?_)
    exact b_K_does_65 C hst N n0 s0 hn0   _ _ h3 th x1 a5 v1 v2 _ _ ls w (by have u5 := hsh3.2.1; have u8 := hsl; omega) (lv_sub hl [0, 1, 2] rfl) e3
  · refine lv_aload_n hx hb dX11_does_51 rfl (lv_at hl 0 rfl) ?_
    refine w_VI GW_good (n := 0) (F := 0) (Lc := 0) (o := some th) (av := []) (rest := []) C w rfl (by decide) (fun a r g hf => k_K_refuseAct l D cy z N h a  r g hf) gw_56_22 gw_56_23 gw_57_0 gw_1_2 gw_57_1 (by decide +kernel) ⟨Nat.le_of_ble_eq_true rfl, Nat.le_of_ble_eq_true rfl⟩ rfl hl.1 rfl (Nat.le_of_ble_eq_true rfl) dX11_does_52 (fun a => (sh_K_refuseAct N h a )) ⟨hcc.1, hcc.2⟩ e1 (fun v4 h5 H locs w hsh5 e4 => ?_)
    have hsl := hsh5.2.2.2.trans hsl
    refine W.widen (k := h_x g - n0) (n := h_s g - s0) hcc.1 hcc.2 ?_
    exact w_iret C w e4 dX11_does_55
set_option maxRecDepth 20000 in
set_option maxHeartbeats 4000000 in
theorem b_K_does_39 {p : Program} {l : Launch} {e : Env} {s : State} {m : MethodId} {args : Array Value} {below : List Frame} {meth : Method} {c : Code} {D : va_G} {cy : cyT} {z : Nat} (C : MX p s m args meth c cX11_does 6 ((some .int)) RX11 (Cond.code yX11_does cX11_does 6 ((some .int)) :: GW)) (hst : l.stackTraces = false) (N : Nat) (n0 s0 : Nat) (hn0 : s.heap.size = n0) {r : Int32} {g : hS}  : ∀  (cells slots : Nat) (h : hS) (th : Nat) (x1 : Int32) (a5 : Option Nat) (H : Heap) (locs : List Loc) (ls : Array Slot), wd D cy z s cells h H locs → h_s h = s0 + slots → lv_has ls 6 [(0, .ref th), (1, .int x1), (5, va_rf a5)] → f_K_does_39 N   h th x1 a5 = some (r, g) → W p l e { frames := 10, cells := h_x g - n0, slots := h_s g - s0, locals := 168 } s m args below meth c H locs cells slots (MQ below (eQ D cy z (rI r) g) args s (h_x g - n0) (h_s g - s0) (fun q => z ≤ q)) (F0 m 39 ls []) := by
  obtain ⟨hx, hb, hr, hml, hown, hts, hlk⟩ := id C
  intro cells slots h th x1 a5 H locs ls w hsl hl hE
  have hcc : cells ≤ h_x g - n0 ∧ slots ≤ h_s g - s0 := by
    have q1 := mo_K_does_39 N  h th x1 a5 _ _ hE
    have q2 := wd_x w
    have q3 := q1.1
    have q4 := q1.2.1
    omega
  unfold f_K_does_39 at hE
  refine lv_aload_n hx hb dX11_does_39 rfl (lv_at hl 0 rfl) ?_
  refine w_gR (r := some th) (ci := 12) (k := 4) C w rfl (by decide) (GF_wsX110 _) (by decide) rfl (List.mem_cons_of_mem _ gw_2_1) rfl dX11_does_40 hE (fun v1 e1 => ?_)
  refine w_aload C dX11_does_43 (lv_at hl 2 rfl) ?_
  refine w_VAI GW_good (n := 1) (F := 4) (Lc := 121) (o := v1) (av := [va_rf a5]) (rest := []) C w rfl (by decide) (fun a r g hf => k_Bench_applyStep l D cy z N h a a5 r g hf) gw_57_6 gw_20_11 gw_20_12 gw_2_0 gw_20_13 (by decide +kernel) ⟨Nat.le_of_ble_eq_true rfl, Nat.le_of_ble_eq_true rfl⟩ rfl hl.1 rfl (Nat.le_of_ble_eq_true rfl) dX11_does_45 (fun a => (mo_Bench_applyStep N h a a5)) (fun a v2 h3 q1 q2 => by have u1 := (mo_Bench_applyStep N h a a5) _ _ q1; have u2 := mo_K_does_48 N   h3 th x1 a5 v2 _ _ q2; have u3 := wd_x w; have u4 := u1.1; have u5 := u1.2.1; have u6 := u2.1; have u7 := u2.2.1; show cells + _ ≤ h_x g - n0 ∧ slots + _ ≤ h_s g - s0; omega) e1 (fun v2 h3 H locs w hsh3 e2 => ?_)
  exact b_K_does_48 C hst N n0 s0 hn0   _ _ h3 th x1 a5 v2 _ _ ls w (by have u5 := hsh3.2.1; have u8 := hsl; omega) (lv_sub hl [0, 1, 2] rfl) e2
set_option maxRecDepth 20000 in
set_option maxHeartbeats 4000000 in
theorem b_K_does_36 {p : Program} {l : Launch} {e : Env} {s : State} {m : MethodId} {args : Array Value} {below : List Frame} {meth : Method} {c : Code} {D : va_G} {cy : cyT} {z : Nat} (C : MX p s m args meth c cX11_does 6 ((some .int)) RX11 (Cond.code yX11_does cX11_does 6 ((some .int)) :: GW)) (hst : l.stackTraces = false) (N : Nat) (n0 s0 : Nat) (hn0 : s.heap.size = n0) {r : Int32} {g : hS}  : ∀  (cells slots : Nat) (h : hS) (th : Nat) (x1 : Int32) (a5 : Option Nat) (y0 : Option Nat) (y1 : Option Nat) (H : Heap) (locs : List Loc) (ls : Array Slot), wd D cy z s cells h H locs → h_s h = s0 + slots → lv_has ls 6 [(0, .ref th), (1, .int x1), (5, va_rf a5)] → f_K_does_36 N   h th x1 a5 y0 y1 = some (r, g) → W p l e { frames := 10, cells := h_x g - n0, slots := h_s g - s0, locals := 168 } s m args below meth c H locs cells slots (MQ below (eQ D cy z (rI r) g) args s (h_x g - n0) (h_s g - s0) (fun q => z ≤ q)) (F0 m 36 ls [va_rf y1, va_rf y0]) := by
  obtain ⟨hx, hb, hr, hml, hown, hts, hlk⟩ := id C
  intro cells slots h th x1 a5 y0 y1 H locs ls w hsl hl hE
  have hcc : cells ≤ h_x g - n0 ∧ slots ≤ h_s g - s0 := by
    have q1 := mo_K_does_36 N  h th x1 a5 y0 y1 _ _ hE
    have q2 := wd_x w
    have q3 := q1.1
    have q4 := q1.2.1
    omega
  unfold f_K_does_36 at hE
  refine w_VAV GW_good (n := 1) (F := 2) (Lc := 81) (o := y0) (av := [va_rf y1]) (rest := []) C w rfl (by decide) (fun a r g hf => k_Bench_startWith l D cy z N h a y1 r g hf) gw_57_2 gw_57_3 gw_57_4 gw_2_0 gw_57_5 (by decide +kernel) ⟨Nat.le_of_ble_eq_true rfl, Nat.le_of_ble_eq_true rfl⟩ rfl hl.1 rfl (Nat.le_of_ble_eq_true rfl) dX11_does_36 (fun a => (mo_Bench_startWith N h a y1)) (fun a v1 h2 q1 q2 => by have u1 := (mo_Bench_startWith N h a y1) _ _ q1; have u2 := mo_K_does_39 N   h2 th x1 a5 _ _ q2; have u3 := wd_x w; have u4 := u1.1; have u5 := u1.2.1; have u6 := u2.1; have u7 := u2.2.1; show cells + _ ≤ h_x g - n0 ∧ slots + _ ≤ h_s g - s0; omega) hE (fun v1 h2 H locs w hsh2 e1 => ?_)
  exact b_K_does_39 C hst N n0 s0 hn0   _ _ h2 th x1 a5 _ _ ls w (by have u5 := hsh2.2.1; have u8 := hsl; omega) (lv_sub hl [0, 1, 2] rfl) e1
set_option maxRecDepth 20000 in
set_option maxHeartbeats 4000000 in
theorem b_K_does_25 {p : Program} {l : Launch} {e : Env} {s : State} {m : MethodId} {args : Array Value} {below : List Frame} {meth : Method} {c : Code} {D : va_G} {cy : cyT} {z : Nat} (C : MX p s m args meth c cX11_does 6 ((some .int)) RX11 (Cond.code yX11_does cX11_does 6 ((some .int)) :: GW)) (hst : l.stackTraces = false) (N : Nat) (n0 s0 : Nat) (hn0 : s.heap.size = n0) {r : Int32} {g : hS}  : ∀  (cells slots : Nat) (h : hS) (th : Nat) (x1 : Int32) (y0 : Option Nat) (H : Heap) (locs : List Loc) (ls : Array Slot), wd D cy z s cells h H locs → h_s h = s0 + slots → lv_has ls 6 [(0, .ref th), (1, .int x1)] → f_K_does_25 N   h th x1 y0 = some (r, g) → W p l e { frames := 10, cells := h_x g - n0, slots := h_s g - s0, locals := 168 } s m args below meth c H locs cells slots (MQ below (eQ D cy z (rI r) g) args s (h_x g - n0) (h_s g - s0) (fun q => z ≤ q)) (F0 m 25 ls [va_rf y0]) := by
  obtain ⟨hx, hb, hr, hml, hown, hts, hlk⟩ := id C
  intro cells slots h th x1 y0 H locs ls w hsl hl hE
  have hcc : cells ≤ h_x g - n0 ∧ slots ≤ h_s g - s0 := by
    have q1 := mo_K_does_25 N  h th x1 y0 _ _ hE
    have q2 := wd_x w
    have q3 := q1.1
    have q4 := q1.2.1
    omega
  unfold f_K_does_25 at hE
  refine w_astore (r := y0) (lv' := [(5, va_rf y0), (0, .ref th), (1, .int x1)]) C dX11_does_25 hl (by decide) rfl (fun ls hl => ?_)
  refine lv_aload_n hx hb dX11_does_27 rfl (lv_at hl 1 rfl) ?_
  refine w_gR (r := some th) (ci := 12) (k := 4) C w rfl (by decide) (GF_wsX110 _) (by decide) rfl (List.mem_cons_of_mem _ gw_2_1) rfl dX11_does_28 hE (fun v1 e1 => ?_)
  refine lv_aload_n hx hb dX11_does_31 rfl (lv_at hl 1 rfl) ?_
  refine lv_iload_n hx hb dX11_does_32 rfl (lv_at hl 2 rfl) ?_
  refine w_VAR GW_good (n := 1) (F := 8) (Lc := 122) (o := some th) (av := [.int x1]) (rest := [va_rf v1]) C w rfl (by decide) (fun a r g hf => k_K_curveOf l hst D cy z N h a x1 (Sum.inl r) g (fN_some hf)) gw_16_2 gw_16_3 gw_16_4 gw_1_2 gw_16_5 (by decide +kernel) ⟨Nat.le_of_ble_eq_true rfl, Nat.le_of_ble_eq_true rfl⟩ rfl hl.1 rfl (cat_le (Nat.le_of_ble_eq_true rfl)) dX11_does_33 (fun a => (Mo_fN (mo_K_curveOf N h a x1))) (fun a v2 h3 q1 q2 => by have u1 := (Mo_fN (mo_K_curveOf N h a x1)) _ _ q1; have u2 := mo_K_does_36 N   h3 th x1 y0 v1 v2 _ _ q2; have u3 := wd_x w; have u4 := u1.1; have u5 := u1.2.1; have u6 := u2.1; have u7 := u2.2.1; show cells + _ ≤ h_x g - n0 ∧ slots + _ ≤ h_s g - s0; omega) e1 (fun v2 h3 H locs w hsh3 e2 => ?_)
  exact b_K_does_36 C hst N n0 s0 hn0   _ _ h3 th x1 y0 v1 v2 _ _ ls w (by have u5 := hsh3.2.1; have u8 := hsl; omega) (lv_sub hl [1, 2, 0] rfl) e2
set_option maxRecDepth 20000 in
set_option maxHeartbeats 4000000 in
theorem b_K_does_9 {p : Program} {l : Launch} {e : Env} {s : State} {m : MethodId} {args : Array Value} {below : List Frame} {meth : Method} {c : Code} {D : va_G} {cy : cyT} {z : Nat} (C : MX p s m args meth c cX11_does 6 ((some .int)) RX11 (Cond.code yX11_does cX11_does 6 ((some .int)) :: GW)) (hst : l.stackTraces = false) (N : Nat) (n0 s0 : Nat) (hn0 : s.heap.size = n0) {r : Int32} {g : hS}  : ∀  (cells slots : Nat) (h : hS) (th : Nat) (x1 : Int32) (x2 : Int32) (x3 : Int32) (x4 : Int32) (y0 : Int32) (H : Heap) (locs : List Loc) (ls : Array Slot), wd D cy z s cells h H locs → h_s h = s0 + slots → lv_has ls 6 [(0, .ref th), (1, .int x1), (2, .int x2), (3, .int x3), (4, .int x4)] → f_K_does_9 N   h th x1 x2 x3 x4 y0 = some (r, g) → W p l e { frames := 10, cells := h_x g - n0, slots := h_s g - s0, locals := 168 } s m args below meth c H locs cells slots (MQ below (eQ D cy z (rI r) g) args s (h_x g - n0) (h_s g - s0) (fun q => z ≤ q)) (F0 m 9 ls [.int y0]) := by
  obtain ⟨hx, hb, hr, hml, hown, hts, hlk⟩ := id C
  intro cells slots h th x1 x2 x3 x4 y0 H locs ls w hsl hl hE
  have hcc : cells ≤ h_x g - n0 ∧ slots ≤ h_s g - s0 := by
    have q1 := mo_K_does_9 N  h th x1 x2 x3 x4 y0 _ _ hE
    have q2 := wd_x w
    have q3 := q1.1
    have q4 := q1.2.1
    omega
  unfold f_K_does_9 at hE
  refine w_if_ne (tgt := 17) C dX11_does_9 (by decide) hE (fun hc e1 => ?_) (fun hc e1 => ?_)
  · refine lv_aload_n hx hb dX11_does_17 rfl (lv_at hl 0 rfl) ?_
    refine lv_iload_n hx hb dX11_does_18 rfl (lv_at hl 2 rfl) ?_
    refine lv_iload_n hx hb dX11_does_19 rfl (lv_at hl 3 rfl) ?_
    refine lv_iload hx hb dX11_does_20 (lv_at hl 4 rfl) ?_
    refine w_VAR GW_good (n := 3) (F := 9) (Lc := 143) (o := some th) (av := [.int x2, .int x3, .int x4]) (rest := []) C w rfl (by decide) (fun a r g hf => k_K_newStep l hst D cy z N h a x2 x3 x4 r g hf) gw_15_18 gw_15_19 gw_15_20 gw_1_2 gw_15_21 (by decide +kernel) ⟨Nat.le_of_ble_eq_true rfl, Nat.le_of_ble_eq_true rfl⟩ rfl hl.1 rfl (Nat.le_of_ble_eq_true rfl) dX11_does_22 (fun a => (mo_K_newStep N h a x2 x3 x4)) (fun a v1 h2 q1 q2 => by have u1 := (mo_K_newStep N h a x2 x3 x4) _ _ q1; have u2 := mo_K_does_25 N   h2 th x1 v1 _ _ q2; have u3 := wd_x w; have u4 := u1.1; have u5 := u1.2.1; have u6 := u2.1; have u7 := u2.2.1; show cells + _ ≤ h_x g - n0 ∧ slots + _ ≤ h_s g - s0; omega) e1 (fun v1 h2 H locs w hsh2 e2 => ?_)
    exact b_K_does_25 C hst N n0 s0 hn0   _ _ h2 th x1 v1 _ _ ls w (by have u5 := hsh2.2.1; have u8 := hsl; omega) (lv_sub hl [0, 1] rfl) e2
  · refine lv_aload_n hx hb dX11_does_12 rfl (lv_at hl 0 rfl) ?_
    refine w_VI GW_good (n := 0) (F := 0) (Lc := 0) (o := some th) (av := []) (rest := []) C w rfl (by decide) (fun a r g hf => k_K_refuseAct l D cy z N h a  r g hf) gw_56_22 gw_56_23 gw_57_0 gw_1_2 gw_57_1 (by decide +kernel) ⟨Nat.le_of_ble_eq_true rfl, Nat.le_of_ble_eq_true rfl⟩ rfl hl.1 rfl (Nat.le_of_ble_eq_true rfl) dX11_does_13 (fun a => (sh_K_refuseAct N h a )) ⟨hcc.1, hcc.2⟩ e1 (fun v3 h4 H locs w hsh4 e3 => ?_)
    have hsl := hsh4.2.2.2.trans hsl
    refine W.widen (k := h_x g - n0) (n := h_s g - s0) hcc.1 hcc.2 ?_
    exact w_iret C w e3 dX11_does_16
set_option maxRecDepth 20000 in
set_option maxHeartbeats 4000000 in
theorem k_K_does (l : Launch) (hst : l.stackTraces = false) (D : va_G) (cy : cyT) (z : Nat) (N : Nat) (h : hS) (th : Nat) (x1 : Int32) (x2 : Int32) (x3 : Int32) (x4 : Int32) (r : Int32) (g : hS) (hE : f_K_does N h th x1 x2 x3 x4 = some (r, g)) : ct l yX11_does (Cond.code yX11_does cX11_does 6 ((some .int)) :: GW) { frames := 10, cells := h_x g - h_x h, slots := h_s g - h_s h, locals := 168 } D cy z h [.ref th, .int x1, .int x2, .int x3, .int x4] (rI r) g := by
  refine Met.ofW (cc := cX11_does) (maxL := 6) (ret := (some .int)) (by decide) rfl ?_
  intro p e s m args below meth c s₁ B hml hv
  obtain ⟨rfl, hw⟩ := hv
  have C : MX p s m ([.ref th, .int x1, .int x2, .int x3, .int x4] : List Value).toArray meth c cX11_does 6 ((some .int)) RX11 (Cond.code yX11_does cX11_does 6 ((some .int)) :: GW) := ⟨B.exec, B.bytes, B.returns, hml, findClass_of_methodNamed B.named, atoms_spec (ws := Cond.code yX11_does cX11_does 6 ((some .int)) :: GW) B.pre, B.notSynchronized⟩
  obtain ⟨hx, hb, hr, hml, hown, hts, hlk⟩ := id C
  have w := wd_of hw
  have hsl : h_s h = h_s h + 0 := rfl
  have hn0 : s.heap.size = h_x h := (wd_x w).1
  obtain ⟨ls, hen, hl⟩ : ∃ ls : Array Slot, entryFrame m ([.ref th, .int x1, .int x2, .int x3, .int x4] : List Value).toArray 6 = F0 m 0 ls [] ∧ lv_has ls 6 [(0, .ref th), (1, .int x1), (2, .int x2), (3, .int x3), (4, .int x4)] := by
    exact ⟨_, lg_entry_eq _ _ _, lv_entry _ (Nat.le_of_ble_eq_true rfl)⟩
  rw [hen]
  have hcc : 0 ≤ h_x g - h_x h ∧ 0 ≤ h_s g - h_s h := ⟨Nat.zero_le _, Nat.zero_le _⟩
  unfold f_K_does at hE
  refine lv_aload_n hx hb dX11_does_0 rfl (lv_at hl 0 rfl) ?_
  refine lv_iload_n hx hb dX11_does_1 rfl (lv_at hl 1 rfl) ?_
  refine lv_iload_n hx hb dX11_does_2 rfl (lv_at hl 2 rfl) ?_
  refine lv_iload_n hx hb dX11_does_3 rfl (lv_at hl 3 rfl) ?_
  refine lv_iload hx hb dX11_does_4 (lv_at hl 4 rfl) ?_
  refine w_VAI GW_good (n := 4) (F := 9) (Lc := 143) (o := some th) (av := [.int x1, .int x2, .int x3, .int x4]) (rest := []) C w rfl (by decide) (fun a r g hf => k_K_isTellable l hst D cy z N h a x1 x2 x3 x4 r g hf) gw_56_13 gw_56_14 gw_56_15 gw_1_2 gw_56_16 (by decide +kernel) ⟨Nat.le_of_ble_eq_true rfl, Nat.le_of_ble_eq_true rfl⟩ rfl hl.1 rfl (Nat.le_of_ble_eq_true rfl) dX11_does_6 (fun a => (mo_K_isTellable N h a x1 x2 x3 x4)) (fun a v1 h2 q1 q2 => by have u1 := (mo_K_isTellable N h a x1 x2 x3 x4) _ _ q1; have u2 := mo_K_does_9 N   h2 th x1 x2 x3 x4 v1 _ _ q2; have u3 := wd_x w; have u4 := u1.1; have u5 := u1.2.1; have u6 := u2.1; have u7 := u2.2.1; show 0 + _ ≤ h_x g - (h_x h) ∧ 0 + _ ≤ h_s g - (h_s h); omega) hE (fun v1 h2 H locs w hsh2 e1 => ?_)
  exact b_K_does_9 C hst N (h_x h) (h_s h) hn0   _ _ h2 th x1 x2 x3 x4 v1 _ _ ls w (by have u5 := hsh2.2.1; have u8 := hsl; omega) (lv_sub hl [0, 1, 2, 3, 4] rfl) e1
set_option maxRecDepth 20000 in
set_option maxHeartbeats 4000000 in
theorem b_K_becomeUnlessTooMuch_26 {p : Program} {l : Launch} {e : Env} {s : State} {m : MethodId} {args : Array Value} {below : List Frame} {meth : Method} {c : Code} {D : va_G} {cy : cyT} {z : Nat} (C : MX p s m args meth c cX11_becomeUnlessTooMuch 2 ((some .int)) RX11 (Cond.code yX11_becomeUnlessTooMuch cX11_becomeUnlessTooMuch 2 ((some .int)) :: GW)) (hst : l.stackTraces = false) (N : Nat) (n0 s0 : Nat) (hn0 : s.heap.size = n0) {r : Int32} {g : hS}  : ∀  (cells slots : Nat) (h : hS) (y0 : Int32) (H : Heap) (locs : List Loc) (ls : Array Slot), wd D cy z s cells h H locs → h_s h = s0 + slots → lv_has ls 2 [] → f_K_becomeUnlessTooMuch_26 N   h y0 = some (r, g) → W p l e { frames := 10, cells := h_x g - n0, slots := h_s g - s0, locals := 164 } s m args below meth c H locs cells slots (MQ below (eQ D cy z (rI r) g) args s (h_x g - n0) (h_s g - s0) (fun q => z ≤ q)) (F0 m 26 ls [.int y0]) := by
  obtain ⟨hx, hb, hr, hml, hown, hts, hlk⟩ := id C
  intro cells slots h y0 H locs ls w hsl hl hE
  have hcc : cells ≤ h_x g - n0 ∧ slots ≤ h_s g - s0 := by
    have q1 := mo_K_becomeUnlessTooMuch_26 N  h y0 _ _ hE
    have q2 := wd_x w
    have q3 := q1.1
    have q4 := q1.2.1
    omega
  unfold f_K_becomeUnlessTooMuch_26 at hE
  refine W.widen (k := h_x g - n0) (n := h_s g - s0) hcc.1 hcc.2 ?_
  exact w_iret C w hE dX11_becomeUnlessTooMuch_26
set_option maxRecDepth 20000 in
set_option maxHeartbeats 4000000 in
theorem b_K_becomeUnlessTooMuch_19 {p : Program} {l : Launch} {e : Env} {s : State} {m : MethodId} {args : Array Value} {below : List Frame} {meth : Method} {c : Code} {D : va_G} {cy : cyT} {z : Nat} (C : MX p s m args meth c cX11_becomeUnlessTooMuch 2 ((some .int)) RX11 (Cond.code yX11_becomeUnlessTooMuch cX11_becomeUnlessTooMuch 2 ((some .int)) :: GW)) (hst : l.stackTraces = false) (N : Nat) (n0 s0 : Nat) (hn0 : s.heap.size = n0) {r : Int32} {g : hS}  : ∀  (cells slots : Nat) (h : hS) (y0 : Int32) (H : Heap) (locs : List Loc) (ls : Array Slot), wd D cy z s cells h H locs → h_s h = s0 + slots → lv_has ls 2 [] → f_K_becomeUnlessTooMuch_19 N   h y0 = some (r, g) → W p l e { frames := 10, cells := h_x g - n0, slots := h_s g - s0, locals := 164 } s m args below meth c H locs cells slots (MQ below (eQ D cy z (rI r) g) args s (h_x g - n0) (h_s g - s0) (fun q => z ≤ q)) (F0 m 19 ls [.int y0]) := by
  obtain ⟨hx, hb, hr, hml, hown, hts, hlk⟩ := id C
  intro cells slots h y0 H locs ls w hsl hl hE
  have hcc : cells ≤ h_x g - n0 ∧ slots ≤ h_s g - s0 := by
    have q1 := mo_K_becomeUnlessTooMuch_19 N  h y0 _ _ hE
    have q2 := wd_x w
    have q3 := q1.1
    have q4 := q1.2.1
    omega
  unfold f_K_becomeUnlessTooMuch_19 at hE
  refine lv_goto (tgt := 26) hx hb dX11_becomeUnlessTooMuch_19 (by decide) ?_
  exact b_K_becomeUnlessTooMuch_26 C hst N n0 s0 hn0   _ _ h y0 _ _ ls w hsl (lv_sub hl [] rfl) hE
set_option maxRecDepth 20000 in
set_option maxHeartbeats 4000000 in
theorem b_K_becomeUnlessTooMuch_11 {p : Program} {l : Launch} {e : Env} {s : State} {m : MethodId} {args : Array Value} {below : List Frame} {meth : Method} {c : Code} {D : va_G} {cy : cyT} {z : Nat} (C : MX p s m args meth c cX11_becomeUnlessTooMuch 2 ((some .int)) RX11 (Cond.code yX11_becomeUnlessTooMuch cX11_becomeUnlessTooMuch 2 ((some .int)) :: GW)) (hst : l.stackTraces = false) (N : Nat) (n0 s0 : Nat) (hn0 : s.heap.size = n0) {r : Int32} {g : hS}  : ∀  (cells slots : Nat) (h : hS) (th : Nat) (x1 : Int32) (y0 : Int32) (H : Heap) (locs : List Loc) (ls : Array Slot), wd D cy z s cells h H locs → h_s h = s0 + slots → lv_has ls 2 [(0, .ref th), (1, .int x1)] → f_K_becomeUnlessTooMuch_11 N   h th x1 y0 = some (r, g) → W p l e { frames := 10, cells := h_x g - n0, slots := h_s g - s0, locals := 164 } s m args below meth c H locs cells slots (MQ below (eQ D cy z (rI r) g) args s (h_x g - n0) (h_s g - s0) (fun q => z ≤ q)) (F0 m 11 ls [.int y0]) := by
  obtain ⟨hx, hb, hr, hml, hown, hts, hlk⟩ := id C
  intro cells slots h th x1 y0 H locs ls w hsl hl hE
  have hcc : cells ≤ h_x g - n0 ∧ slots ≤ h_s g - s0 := by
    have q1 := mo_K_becomeUnlessTooMuch_11 N  h th x1 y0 _ _ hE
    have q2 := wd_x w
    have q3 := q1.1
    have q4 := q1.2.1
    omega
  unfold f_K_becomeUnlessTooMuch_11 at hE
  refine w_if_eq (tgt := 22) C dX11_becomeUnlessTooMuch_11 (by decide) hE (fun hc e1 => ?_) (fun hc e1 => ?_)
  · refine lv_aload_n hx hb dX11_becomeUnlessTooMuch_22 rfl (lv_at hl 0 rfl) ?_
    refine w_VI GW_good (n := 0) (F := 0) (Lc := 0) (o := some th) (av := []) (rest := []) C w rfl (by decide) (fun a r g hf => k_K_refuseAct l D cy z N h a  r g hf) gw_56_22 gw_56_23 gw_57_0 gw_1_2 gw_57_1 (by decide +kernel) ⟨Nat.le_of_ble_eq_true rfl, Nat.le_of_ble_eq_true rfl⟩ rfl hl.1 rfl (Nat.le_of_ble_eq_true rfl) dX11_becomeUnlessTooMuch_23 (fun a => (sh_K_refuseAct N h a )) ⟨hcc.1, hcc.2⟩ e1 (fun v1 h2 H locs w hsh2 e2 => ?_)
    have hsl := hsh2.2.2.2.trans hsl
    exact b_K_becomeUnlessTooMuch_26 C hst N n0 s0 hn0   _ _ h2 v1 _ _ ls w hsl (lv_sub hl [] rfl) e2
  · refine lv_aload_n hx hb dX11_becomeUnlessTooMuch_14 rfl (lv_at hl 0 rfl) ?_
    refine lv_iload_n hx hb dX11_becomeUnlessTooMuch_15 rfl (lv_at hl 1 rfl) ?_
    refine w_VAI GW_good (n := 1) (F := 9) (Lc := 143) (o := some th) (av := [.int x1]) (rest := []) C w rfl (by decide) (fun a r g hf => k_K_become l hst D cy z N h a x1 r g hf) gw_23_5 gw_23_6 gw_23_7 gw_1_2 gw_23_8 (by decide +kernel) ⟨Nat.le_of_ble_eq_true rfl, Nat.le_of_ble_eq_true rfl⟩ rfl hl.1 rfl (Nat.le_of_ble_eq_true rfl) dX11_becomeUnlessTooMuch_16 (fun a => (mo_K_become N h a x1)) (fun a v3 h4 q1 q2 => by have u1 := (mo_K_become N h a x1) _ _ q1; have u2 := mo_K_becomeUnlessTooMuch_19 N   h4 v3 _ _ q2; have u3 := wd_x w; have u4 := u1.1; have u5 := u1.2.1; have u6 := u2.1; have u7 := u2.2.1; show cells + _ ≤ h_x g - n0 ∧ slots + _ ≤ h_s g - s0; omega) e1 (fun v3 h4 H locs w hsh4 e3 => ?_)
    exact b_K_becomeUnlessTooMuch_19 C hst N n0 s0 hn0   _ _ h4 v3 _ _ ls w (by have u5 := hsh4.2.1; have u8 := hsl; omega) (lv_sub hl [] rfl) e3
set_option maxRecDepth 20000 in
set_option maxHeartbeats 4000000 in
theorem k_K_becomeUnlessTooMuch (l : Launch) (hst : l.stackTraces = false) (D : va_G) (cy : cyT) (z : Nat) (N : Nat) (h : hS) (th : Nat) (x1 : Int32) (r : Int32) (g : hS) (hE : f_K_becomeUnlessTooMuch N h th x1 = some (r, g)) : ct l yX11_becomeUnlessTooMuch (Cond.code yX11_becomeUnlessTooMuch cX11_becomeUnlessTooMuch 2 ((some .int)) :: GW) { frames := 10, cells := h_x g - h_x h, slots := h_s g - h_s h, locals := 164 } D cy z h [.ref th, .int x1] (rI r) g := by
  refine Met.ofW (cc := cX11_becomeUnlessTooMuch) (maxL := 2) (ret := (some .int)) (by decide) rfl ?_
  intro p e s m args below meth c s₁ B hml hv
  obtain ⟨rfl, hw⟩ := hv
  have C : MX p s m ([.ref th, .int x1] : List Value).toArray meth c cX11_becomeUnlessTooMuch 2 ((some .int)) RX11 (Cond.code yX11_becomeUnlessTooMuch cX11_becomeUnlessTooMuch 2 ((some .int)) :: GW) := ⟨B.exec, B.bytes, B.returns, hml, findClass_of_methodNamed B.named, atoms_spec (ws := Cond.code yX11_becomeUnlessTooMuch cX11_becomeUnlessTooMuch 2 ((some .int)) :: GW) B.pre, B.notSynchronized⟩
  obtain ⟨hx, hb, hr, hml, hown, hts, hlk⟩ := id C
  have w := wd_of hw
  have hsl : h_s h = h_s h + 0 := rfl
  have hn0 : s.heap.size = h_x h := (wd_x w).1
  obtain ⟨ls, hen, hl⟩ : ∃ ls : Array Slot, entryFrame m ([.ref th, .int x1] : List Value).toArray 2 = F0 m 0 ls [] ∧ lv_has ls 2 [(0, .ref th), (1, .int x1)] := by
    exact ⟨_, lg_entry_eq _ _ _, lv_entry _ (Nat.le_of_ble_eq_true rfl)⟩
  rw [hen]
  have hcc : 0 ≤ h_x g - h_x h ∧ 0 ≤ h_s g - h_s h := ⟨Nat.zero_le _, Nat.zero_le _⟩
  unfold f_K_becomeUnlessTooMuch at hE
  refine lv_aload_n hx hb dX11_becomeUnlessTooMuch_0 rfl (lv_at hl 0 rfl) ?_
  refine w_gR (r := some th) (ci := 12) (k := 4) C w rfl (by decide) (GF_wsX110 _) (by decide) rfl (List.mem_cons_of_mem _ gw_2_1) rfl dX11_becomeUnlessTooMuch_1 hE (fun v1 e1 => ?_)
  refine lv_aload_n hx hb dX11_becomeUnlessTooMuch_4 rfl (lv_at hl 0 rfl) ?_
  refine w_gR (r := some th) (ci := 12) (k := 15) C w rfl (by decide) (GF_wsX110 _) (by decide) rfl (List.mem_cons_of_mem _ gw_3_7) rfl dX11_becomeUnlessTooMuch_5 e1 (fun v2 e2 => ?_)
  refine w_VAI GW_good (n := 1) (F := 5) (Lc := 142) (o := v1) (av := [va_rf v2]) (rest := []) C w rfl (by decide) (fun a r g hf => k_Bench_build l D cy z N h a v2 r g hf) gw_19_17 gw_19_18 gw_19_19 gw_2_0 gw_19_20 (by decide +kernel) ⟨Nat.le_of_ble_eq_true rfl, Nat.le_of_ble_eq_true rfl⟩ rfl hl.1 rfl (Nat.le_of_ble_eq_true rfl) dX11_becomeUnlessTooMuch_8 (fun a => (mo_Bench_build N h a v2)) (fun a v3 h4 q1 q2 => by have u1 := (mo_Bench_build N h a v2) _ _ q1; have u2 := mo_K_becomeUnlessTooMuch_11 N   h4 th x1 v3 _ _ q2; have u3 := wd_x w; have u4 := u1.1; have u5 := u1.2.1; have u6 := u2.1; have u7 := u2.2.1; show 0 + _ ≤ h_x g - (h_x h) ∧ 0 + _ ≤ h_s g - (h_s h); omega) e2 (fun v3 h4 H locs w hsh4 e3 => ?_)
  exact b_K_becomeUnlessTooMuch_11 C hst N (h_x h) (h_s h) hn0   _ _ h4 th x1 v3 _ _ ls w (by have u5 := hsh4.2.1; have u8 := hsl; omega) (lv_sub hl [0, 1] rfl) e3
set_option maxRecDepth 20000 in
set_option maxHeartbeats 4000000 in
theorem b_K_puts_38 {p : Program} {l : Launch} {e : Env} {s : State} {m : MethodId} {args : Array Value} {below : List Frame} {meth : Method} {c : Code} {D : va_G} {cy : cyT} {z : Nat} (C : MX p s m args meth c cX11_puts 7 ((some .int)) RX11 (Cond.code yX11_puts cX11_puts 7 ((some .int)) :: GW)) (hst : l.stackTraces = false) (N : Nat) (n0 s0 : Nat) (hn0 : s.heap.size = n0) {r : Int32} {g : hS}  : ∀  (cells slots : Nat) (h : hS) (th : Nat) (H : Heap) (locs : List Loc) (ls : Array Slot), wd D cy z s cells h H locs → h_s h = s0 + slots → lv_has ls 7 [(0, .ref th)] → f_K_puts_38 N   h th = some (r, g) → W p l e { frames := 11, cells := h_x g - n0, slots := h_s g - s0, locals := 185 } s m args below meth c H locs cells slots (MQ below (eQ D cy z (rI r) g) args s (h_x g - n0) (h_s g - s0) (fun q => z ≤ q)) (F0 m 38 ls []) := by
  obtain ⟨hx, hb, hr, hml, hown, hts, hlk⟩ := id C
  intro cells slots h th H locs ls w hsl hl hE
  have hcc : cells ≤ h_x g - n0 ∧ slots ≤ h_s g - s0 := by
    have q1 := mo_K_puts_38 N  h th _ _ hE
    have q2 := wd_x w
    have q3 := q1.1
    have q4 := q1.2.1
    omega
  unfold f_K_puts_38 at hE
  refine lv_aload_n hx hb dX11_puts_38 rfl (lv_at hl 0 rfl) ?_
  refine w_VI GW_good (n := 0) (F := 0) (Lc := 0) (o := some th) (av := []) (rest := []) C w rfl (by decide) (fun a r g hf => k_K_refuseAct l D cy z N h a  r g hf) gw_56_22 gw_56_23 gw_57_0 gw_1_2 gw_57_1 (by decide +kernel) ⟨Nat.le_of_ble_eq_true rfl, Nat.le_of_ble_eq_true rfl⟩ rfl hl.1 rfl (Nat.le_of_ble_eq_true rfl) dX11_puts_39 (fun a => (sh_K_refuseAct N h a )) ⟨hcc.1, hcc.2⟩ hE (fun v1 h2 H locs w hsh2 e1 => ?_)
  have hsl := hsh2.2.2.2.trans hsl
  refine W.widen (k := h_x g - n0) (n := h_s g - s0) hcc.1 hcc.2 ?_
  exact w_iret C w e1 dX11_puts_42
set_option maxRecDepth 20000 in
set_option maxHeartbeats 4000000 in
theorem b_K_puts_74 {p : Program} {l : Launch} {e : Env} {s : State} {m : MethodId} {args : Array Value} {below : List Frame} {meth : Method} {c : Code} {D : va_G} {cy : cyT} {z : Nat} (C : MX p s m args meth c cX11_puts 7 ((some .int)) RX11 (Cond.code yX11_puts cX11_puts 7 ((some .int)) :: GW)) (hst : l.stackTraces = false) (N : Nat) (n0 s0 : Nat) (hn0 : s.heap.size = n0) {r : Int32} {g : hS}  : ∀  (cells slots : Nat) (h : hS) (y0 : Int32) (H : Heap) (locs : List Loc) (ls : Array Slot), wd D cy z s cells h H locs → h_s h = s0 + slots → lv_has ls 7 [] → f_K_puts_74 N   h y0 = some (r, g) → W p l e { frames := 11, cells := h_x g - n0, slots := h_s g - s0, locals := 185 } s m args below meth c H locs cells slots (MQ below (eQ D cy z (rI r) g) args s (h_x g - n0) (h_s g - s0) (fun q => z ≤ q)) (F0 m 74 ls [.int y0]) := by
  obtain ⟨hx, hb, hr, hml, hown, hts, hlk⟩ := id C
  intro cells slots h y0 H locs ls w hsl hl hE
  have hcc : cells ≤ h_x g - n0 ∧ slots ≤ h_s g - s0 := by
    have q1 := mo_K_puts_74 N  h y0 _ _ hE
    have q2 := wd_x w
    have q3 := q1.1
    have q4 := q1.2.1
    omega
  unfold f_K_puts_74 at hE
  refine W.widen (k := h_x g - n0) (n := h_s g - s0) hcc.1 hcc.2 ?_
  exact w_iret C w hE dX11_puts_74
set_option maxRecDepth 20000 in
set_option maxHeartbeats 4000000 in
theorem b_K_puts_69 {p : Program} {l : Launch} {e : Env} {s : State} {m : MethodId} {args : Array Value} {below : List Frame} {meth : Method} {c : Code} {D : va_G} {cy : cyT} {z : Nat} (C : MX p s m args meth c cX11_puts 7 ((some .int)) RX11 (Cond.code yX11_puts cX11_puts 7 ((some .int)) :: GW)) (hst : l.stackTraces = false) (N : Nat) (n0 s0 : Nat) (hn0 : s.heap.size = n0) {r : Int32} {g : hS}  : ∀  (cells slots : Nat) (h : hS) (th : Nat) (x1 : Int32) (H : Heap) (locs : List Loc) (ls : Array Slot), wd D cy z s cells h H locs → h_s h = s0 + slots → lv_has ls 7 [(0, .ref th), (1, .int x1)] → f_K_puts_69 N   h th x1 = some (r, g) → W p l e { frames := 11, cells := h_x g - n0, slots := h_s g - s0, locals := 185 } s m args below meth c H locs cells slots (MQ below (eQ D cy z (rI r) g) args s (h_x g - n0) (h_s g - s0) (fun q => z ≤ q)) (F0 m 69 ls []) := by
  obtain ⟨hx, hb, hr, hml, hown, hts, hlk⟩ := id C
  intro cells slots h th x1 H locs ls w hsl hl hE
  have hcc : cells ≤ h_x g - n0 ∧ slots ≤ h_s g - s0 := by
    have q1 := mo_K_puts_69 N  h th x1 _ _ hE
    have q2 := wd_x w
    have q3 := q1.1
    have q4 := q1.2.1
    omega
  unfold f_K_puts_69 at hE
  refine lv_aload_n hx hb dX11_puts_69 rfl (lv_at hl 0 rfl) ?_
  refine lv_iload_n hx hb dX11_puts_70 rfl (lv_at hl 1 rfl) ?_
  refine w_VAI GW_good (n := 1) (F := 10) (Lc := 164) (o := some th) (av := [.int x1]) (rest := []) C w rfl (by decide) (fun a r g hf => k_K_becomeUnlessTooMuch l hst D cy z N h a x1 r g hf) gw_58_11 gw_58_12 gw_58_13 gw_1_2 gw_58_14 (by decide +kernel) ⟨Nat.le_of_ble_eq_true rfl, Nat.le_of_ble_eq_true rfl⟩ rfl hl.1 rfl (Nat.le_of_ble_eq_true rfl) dX11_puts_71 (fun a => (mo_K_becomeUnlessTooMuch N h a x1)) (fun a v1 h2 q1 q2 => by have u1 := (mo_K_becomeUnlessTooMuch N h a x1) _ _ q1; have u2 := mo_K_puts_74 N   h2 v1 _ _ q2; have u3 := wd_x w; have u4 := u1.1; have u5 := u1.2.1; have u6 := u2.1; have u7 := u2.2.1; show cells + _ ≤ h_x g - n0 ∧ slots + _ ≤ h_s g - s0; omega) hE (fun v1 h2 H locs w hsh2 e1 => ?_)
  exact b_K_puts_74 C hst N n0 s0 hn0   _ _ h2 v1 _ _ ls w (by have u5 := hsh2.2.1; have u8 := hsl; omega) (lv_sub hl [] rfl) e1
set_option maxRecDepth 20000 in
set_option maxHeartbeats 4000000 in
theorem b_K_puts_66 {p : Program} {l : Launch} {e : Env} {s : State} {m : MethodId} {args : Array Value} {below : List Frame} {meth : Method} {c : Code} {D : va_G} {cy : cyT} {z : Nat} (C : MX p s m args meth c cX11_puts 7 ((some .int)) RX11 (Cond.code yX11_puts cX11_puts 7 ((some .int)) :: GW)) (hst : l.stackTraces = false) (N : Nat) (n0 s0 : Nat) (hn0 : s.heap.size = n0) {r : Int32} {g : hS}  : ∀  (cells slots : Nat) (h : hS) (th : Nat) (x1 : Int32) (y0 : Option Nat) (y1 : Int32) (y2 : Option Nat) (H : Heap) (locs : List Loc) (ls : Array Slot), wd D cy z s cells h H locs → h_s h = s0 + slots → lv_has ls 7 [(0, .ref th), (1, .int x1)] → f_K_puts_66 N   h th x1 y0 y1 y2 = some (r, g) → W p l e { frames := 11, cells := h_x g - n0, slots := h_s g - s0, locals := 185 } s m args below meth c H locs cells slots (MQ below (eQ D cy z (rI r) g) args s (h_x g - n0) (h_s g - s0) (fun q => z ≤ q)) (F0 m 66 ls [va_rf y2, .int y1, va_rf y0]) := by
  obtain ⟨hx, hb, hr, hml, hown, hts, hlk⟩ := id C
  intro cells slots h th x1 y0 y1 y2 H locs ls w hsl hl hE
  have hcc : cells ≤ h_x g - n0 ∧ slots ≤ h_s g - s0 := by
    have q1 := mo_K_puts_66 N  h th x1 y0 y1 y2 _ _ hE
    have q2 := wd_x w
    have q3 := q1.1
    have q4 := q1.2.1
    omega
  unfold f_K_puts_66 at hE
  refine w_VAV GW_good (n := 2) (F := 1) (Lc := 23) (o := y0) (av := [.int y1, va_rf y2]) (rest := []) C w rfl (by decide) (fun a r g hf => k_Chain_insert l D cy z N h a y1 y2 r g hf) gw_19_9 gw_19_10 gw_19_11 gw_3_6 gw_19_12 (by decide +kernel) ⟨Nat.le_of_ble_eq_true rfl, Nat.le_of_ble_eq_true rfl⟩ rfl hl.1 rfl (Nat.le_of_ble_eq_true rfl) dX11_puts_66 (fun a => (mo_Chain_insert N h a y1 y2)) (fun a v1 h2 q1 q2 => by have u1 := (mo_Chain_insert N h a y1 y2) _ _ q1; have u2 := mo_K_puts_69 N   h2 th x1 _ _ q2; have u3 := wd_x w; have u4 := u1.1; have u5 := u1.2.1; have u6 := u2.1; have u7 := u2.2.1; show cells + _ ≤ h_x g - n0 ∧ slots + _ ≤ h_s g - s0; omega) hE (fun v1 h2 H locs w hsh2 e1 => ?_)
  exact b_K_puts_69 C hst N n0 s0 hn0   _ _ h2 th x1 _ _ ls w (by have u5 := hsh2.2.1; have u8 := hsl; omega) (lv_sub hl [0, 1] rfl) e1
set_option maxRecDepth 20000 in
set_option maxHeartbeats 4000000 in
theorem b_K_puts_52 {p : Program} {l : Launch} {e : Env} {s : State} {m : MethodId} {args : Array Value} {below : List Frame} {meth : Method} {c : Code} {D : va_G} {cy : cyT} {z : Nat} (C : MX p s m args meth c cX11_puts 7 ((some .int)) RX11 (Cond.code yX11_puts cX11_puts 7 ((some .int)) :: GW)) (hst : l.stackTraces = false) (N : Nat) (n0 s0 : Nat) (hn0 : s.heap.size = n0) {r : Int32} {g : hS}  : ∀  (cells slots : Nat) (h : hS) (th : Nat) (x1 : Int32) (x2 : Int32) (x3 : Int32) (x4 : Int32) (x5 : Int32) (H : Heap) (locs : List Loc) (ls : Array Slot), wd D cy z s cells h H locs → h_s h = s0 + slots → lv_has ls 7 [(0, .ref th), (1, .int x1), (2, .int x2), (3, .int x3), (4, .int x4), (5, .int x5)] → f_K_puts_52 N   h th x1 x2 x3 x4 x5 = some (r, g) → W p l e { frames := 11, cells := h_x g - n0, slots := h_s g - s0, locals := 185 } s m args below meth c H locs cells slots (MQ below (eQ D cy z (rI r) g) args s (h_x g - n0) (h_s g - s0) (fun q => z ≤ q)) (F0 m 52 ls []) := by
  obtain ⟨hx, hb, hr, hml, hown, hts, hlk⟩ := id C
  intro cells slots h th x1 x2 x3 x4 x5 H locs ls w hsl hl hE
  have hcc : cells ≤ h_x g - n0 ∧ slots ≤ h_s g - s0 := by
    have q1 := mo_K_puts_52 N  h th x1 x2 x3 x4 x5 _ _ hE
    have q2 := wd_x w
    have q3 := q1.1
    have q4 := q1.2.1
    omega
  unfold f_K_puts_52 at hE
  refine lv_aload_n hx hb dX11_puts_52 rfl (lv_at hl 0 rfl) ?_
  refine w_gR (r := some th) (ci := 12) (k := 15) C w rfl (by decide) (GF_wsX110 _) (by decide) rfl (List.mem_cons_of_mem _ gw_3_7) rfl dX11_puts_53 hE (fun v1 e1 => ?_)
  refine lv_iload_n hx hb dX11_puts_56 rfl (lv_at hl 2 rfl) ?_
  refine lv_aload_n hx hb dX11_puts_57 rfl (lv_at hl 0 rfl) ?_
  refine lv_iload_n hx hb dX11_puts_58 rfl (lv_at hl 3 rfl) ?_
  refine lv_iload hx hb dX11_puts_59 (lv_at hl 4 rfl) ?_
  refine lv_iload hx hb dX11_puts_61 (lv_at hl 5 rfl) ?_
  refine w_VAR GW_good (n := 3) (F := 9) (Lc := 143) (o := some th) (av := [.int x3, .int x4, .int x5]) (rest := [.int x2, va_rf v1]) C w rfl (by decide) (fun a r g hf => k_K_newStep l hst D cy z N h a x3 x4 x5 r g hf) gw_15_18 gw_15_19 gw_15_20 gw_1_2 gw_15_21 (by decide +kernel) ⟨Nat.le_of_ble_eq_true rfl, Nat.le_of_ble_eq_true rfl⟩ rfl hl.1 rfl (cat_le (Nat.le_of_ble_eq_true rfl)) dX11_puts_63 (fun a => (mo_K_newStep N h a x3 x4 x5)) (fun a v2 h3 q1 q2 => by have u1 := (mo_K_newStep N h a x3 x4 x5) _ _ q1; have u2 := mo_K_puts_66 N   h3 th x1 v1 x2 v2 _ _ q2; have u3 := wd_x w; have u4 := u1.1; have u5 := u1.2.1; have u6 := u2.1; have u7 := u2.2.1; show cells + _ ≤ h_x g - n0 ∧ slots + _ ≤ h_s g - s0; omega) e1 (fun v2 h3 H locs w hsh3 e2 => ?_)
  exact b_K_puts_66 C hst N n0 s0 hn0   _ _ h3 th x1 v1 x2 v2 _ _ ls w (by have u5 := hsh3.2.1; have u8 := hsl; omega) (lv_sub hl [0, 1] rfl) e2
set_option maxRecDepth 20000 in
set_option maxHeartbeats 4000000 in
theorem b_K_puts_23 {p : Program} {l : Launch} {e : Env} {s : State} {m : MethodId} {args : Array Value} {below : List Frame} {meth : Method} {c : Code} {D : va_G} {cy : cyT} {z : Nat} (C : MX p s m args meth c cX11_puts 7 ((some .int)) RX11 (Cond.code yX11_puts cX11_puts 7 ((some .int)) :: GW)) (hst : l.stackTraces = false) (N : Nat) (n0 s0 : Nat) (hn0 : s.heap.size = n0) {r : Int32} {g : hS}  : ∀  (cells slots : Nat) (h : hS) (th : Nat) (x1 : Int32) (x2 : Int32) (x3 : Int32) (x4 : Int32) (x5 : Int32) (y0 : Option Nat) (H : Heap) (locs : List Loc) (ls : Array Slot), wd D cy z s cells h H locs → h_s h = s0 + slots → lv_has ls 7 [(0, .ref th), (1, .int x1), (2, .int x2), (3, .int x3), (4, .int x4), (5, .int x5)] → f_K_puts_23 N   h th x1 x2 x3 x4 x5 y0 = some (r, g) → W p l e { frames := 11, cells := h_x g - n0, slots := h_s g - s0, locals := 185 } s m args below meth c H locs cells slots (MQ below (eQ D cy z (rI r) g) args s (h_x g - n0) (h_s g - s0) (fun q => z ≤ q)) (F0 m 23 ls [va_rf y0]) := by
  obtain ⟨hx, hb, hr, hml, hown, hts, hlk⟩ := id C
  intro cells slots h th x1 x2 x3 x4 x5 y0 H locs ls w hsl hl hE
  have hcc : cells ≤ h_x g - n0 ∧ slots ≤ h_s g - s0 := by
    have q1 := mo_K_puts_23 N  h th x1 x2 x3 x4 x5 y0 _ _ hE
    have q2 := wd_x w
    have q3 := q1.1
    have q4 := q1.2.1
    omega
  unfold f_K_puts_23 at hE
  refine w_astore (r := y0) (lv' := [(6, va_rf y0), (0, .ref th), (1, .int x1), (2, .int x2), (3, .int x3), (4, .int x4), (5, .int x5)]) C dX11_puts_23 hl (by decide) rfl (fun ls hl => ?_)
  refine lv_iload_n hx hb dX11_puts_25 rfl (lv_at hl 3 rfl) ?_
  refine w_if_lt (tgt := 38) C dX11_puts_26 (by decide) hE (fun hc e1 => ?_) (fun hc e1 => ?_)
  · exact b_K_puts_38 C hst N n0 s0 hn0   _ _ h th _ _ ls w hsl (lv_sub hl [1] rfl) e1
  · refine lv_iload_n hx hb dX11_puts_29 rfl (lv_at hl 3 rfl) ?_
    refine w_aload C dX11_puts_30 (lv_at hl 0 rfl) ?_
    refine w_gI (r := y0) (ci := 2) (k := 1) C w rfl (by decide) (GF_wsX10 _) (by decide) rfl (List.mem_cons_of_mem _ gw_23_10) rfl dX11_puts_32 e1 (fun v1 e2 => ?_)
    refine w_icmp_le (tgt := 43) C dX11_puts_35 (by decide) e2 (fun hc e3 => ?_) (fun hc e3 => ?_)
    · refine lv_aload_n hx hb dX11_puts_43 rfl (lv_at hl 1 rfl) ?_
      refine w_gR (r := some th) (ci := 12) (k := 15) C w rfl (by decide) (GF_wsX110 _) (by decide) rfl (List.mem_cons_of_mem _ gw_3_7) rfl dX11_puts_44 e3 (fun v2 e4 => ?_)
      refine w_aload C dX11_puts_47 (lv_at hl 0 rfl) ?_
      refine w_VAV GW_good (n := 1) (F := 1) (Lc := 44) (o := v2) (av := [va_rf y0]) (rest := []) C w rfl (by decide) (fun a r g hf => k_Chain_take l D cy z N h a y0 r g hf) gw_57_7 gw_24_0 gw_24_1 gw_3_6 gw_24_2 (by decide +kernel) ⟨Nat.le_of_ble_eq_true rfl, Nat.le_of_ble_eq_true rfl⟩ rfl hl.1 rfl (Nat.le_of_ble_eq_true rfl) dX11_puts_49 (fun a => (mo_Chain_take N h a y0)) (fun a v3 h4 q1 q2 => by have u1 := (mo_Chain_take N h a y0) _ _ q1; have u2 := mo_K_puts_52 N   h4 th x1 x2 x3 x4 x5 _ _ q2; have u3 := wd_x w; have u4 := u1.1; have u5 := u1.2.1; have u6 := u2.1; have u7 := u2.2.1; show cells + _ ≤ h_x g - n0 ∧ slots + _ ≤ h_s g - s0; omega) e4 (fun v3 h4 H locs w hsh4 e5 => ?_)
      exact b_K_puts_52 C hst N n0 s0 hn0   _ _ h4 th x1 x2 x3 x4 x5 _ _ ls w (by have u5 := hsh4.2.1; have u8 := hsl; omega) (lv_sub hl [1, 2, 3, 4, 5, 6] rfl) e5
    · exact b_K_puts_38 C hst N n0 s0 hn0   _ _ h th _ _ ls w hsl (lv_sub hl [1] rfl) e3
set_option maxRecDepth 20000 in
set_option maxHeartbeats 4000000 in
theorem b_K_puts_10 {p : Program} {l : Launch} {e : Env} {s : State} {m : MethodId} {args : Array Value} {below : List Frame} {meth : Method} {c : Code} {D : va_G} {cy : cyT} {z : Nat} (C : MX p s m args meth c cX11_puts 7 ((some .int)) RX11 (Cond.code yX11_puts cX11_puts 7 ((some .int)) :: GW)) (hst : l.stackTraces = false) (N : Nat) (n0 s0 : Nat) (hn0 : s.heap.size = n0) {r : Int32} {g : hS}  : ∀  (cells slots : Nat) (h : hS) (th : Nat) (x1 : Int32) (x2 : Int32) (x3 : Int32) (x4 : Int32) (x5 : Int32) (y0 : Int32) (H : Heap) (locs : List Loc) (ls : Array Slot), wd D cy z s cells h H locs → h_s h = s0 + slots → lv_has ls 7 [(0, .ref th), (1, .int x1), (2, .int x2), (3, .int x3), (4, .int x4), (5, .int x5)] → f_K_puts_10 N   h th x1 x2 x3 x4 x5 y0 = some (r, g) → W p l e { frames := 11, cells := h_x g - n0, slots := h_s g - s0, locals := 185 } s m args below meth c H locs cells slots (MQ below (eQ D cy z (rI r) g) args s (h_x g - n0) (h_s g - s0) (fun q => z ≤ q)) (F0 m 10 ls [.int y0]) := by
  obtain ⟨hx, hb, hr, hml, hown, hts, hlk⟩ := id C
  intro cells slots h th x1 x2 x3 x4 x5 y0 H locs ls w hsl hl hE
  have hcc : cells ≤ h_x g - n0 ∧ slots ≤ h_s g - s0 := by
    have q1 := mo_K_puts_10 N  h th x1 x2 x3 x4 x5 y0 _ _ hE
    have q2 := wd_x w
    have q3 := q1.1
    have q4 := q1.2.1
    omega
  unfold f_K_puts_10 at hE
  refine w_if_ne (tgt := 18) C dX11_puts_10 (by decide) hE (fun hc e1 => ?_) (fun hc e1 => ?_)
  · refine lv_aload_n hx hb dX11_puts_18 rfl (lv_at hl 0 rfl) ?_
    refine lv_iload_n hx hb dX11_puts_19 rfl (lv_at hl 1 rfl) ?_
    refine w_VAR GW_good (n := 1) (F := 8) (Lc := 122) (o := some th) (av := [.int x1]) (rest := []) C w rfl (by decide) (fun a r g hf => k_K_chainOf l hst D cy z N h a x1 (Sum.inl r) g (fN_some hf)) gw_32_8 gw_32_9 gw_32_10 gw_1_2 gw_32_11 (by decide +kernel) ⟨Nat.le_of_ble_eq_true rfl, Nat.le_of_ble_eq_true rfl⟩ rfl hl.1 rfl (Nat.le_of_ble_eq_true rfl) dX11_puts_20 (fun a => (Mo_fN (mo_K_chainOf N h a x1))) (fun a v1 h2 q1 q2 => by have u1 := (Mo_fN (mo_K_chainOf N h a x1)) _ _ q1; have u2 := mo_K_puts_23 N   h2 th x1 x2 x3 x4 x5 v1 _ _ q2; have u3 := wd_x w; have u4 := u1.1; have u5 := u1.2.1; have u6 := u2.1; have u7 := u2.2.1; show cells + _ ≤ h_x g - n0 ∧ slots + _ ≤ h_s g - s0; omega) e1 (fun v1 h2 H locs w hsh2 e2 => ?_)
    exact b_K_puts_23 C hst N n0 s0 hn0   _ _ h2 th x1 x2 x3 x4 x5 v1 _ _ ls w (by have u5 := hsh2.2.1; have u8 := hsl; omega) (lv_sub hl [0, 1, 2, 3, 4, 5] rfl) e2
  · refine lv_aload_n hx hb dX11_puts_13 rfl (lv_at hl 0 rfl) ?_
    refine w_VI GW_good (n := 0) (F := 0) (Lc := 0) (o := some th) (av := []) (rest := []) C w rfl (by decide) (fun a r g hf => k_K_refuseAct l D cy z N h a  r g hf) gw_56_22 gw_56_23 gw_57_0 gw_1_2 gw_57_1 (by decide +kernel) ⟨Nat.le_of_ble_eq_true rfl, Nat.le_of_ble_eq_true rfl⟩ rfl hl.1 rfl (Nat.le_of_ble_eq_true rfl) dX11_puts_14 (fun a => (sh_K_refuseAct N h a )) ⟨hcc.1, hcc.2⟩ e1 (fun v3 h4 H locs w hsh4 e3 => ?_)
    have hsl := hsh4.2.2.2.trans hsl
    refine W.widen (k := h_x g - n0) (n := h_s g - s0) hcc.1 hcc.2 ?_
    exact w_iret C w e3 dX11_puts_17
set_option maxRecDepth 20000 in
set_option maxHeartbeats 4000000 in
theorem k_K_puts (l : Launch) (hst : l.stackTraces = false) (D : va_G) (cy : cyT) (z : Nat) (N : Nat) (h : hS) (th : Nat) (x1 : Int32) (x2 : Int32) (x3 : Int32) (x4 : Int32) (x5 : Int32) (r : Int32) (g : hS) (hE : f_K_puts N h th x1 x2 x3 x4 x5 = some (r, g)) : ct l yX11_puts (Cond.code yX11_puts cX11_puts 7 ((some .int)) :: GW) { frames := 11, cells := h_x g - h_x h, slots := h_s g - h_s h, locals := 185 } D cy z h [.ref th, .int x1, .int x2, .int x3, .int x4, .int x5] (rI r) g := by
  refine Met.ofW (cc := cX11_puts) (maxL := 7) (ret := (some .int)) (by decide) rfl ?_
  intro p e s m args below meth c s₁ B hml hv
  obtain ⟨rfl, hw⟩ := hv
  have C : MX p s m ([.ref th, .int x1, .int x2, .int x3, .int x4, .int x5] : List Value).toArray meth c cX11_puts 7 ((some .int)) RX11 (Cond.code yX11_puts cX11_puts 7 ((some .int)) :: GW) := ⟨B.exec, B.bytes, B.returns, hml, findClass_of_methodNamed B.named, atoms_spec (ws := Cond.code yX11_puts cX11_puts 7 ((some .int)) :: GW) B.pre, B.notSynchronized⟩
  obtain ⟨hx, hb, hr, hml, hown, hts, hlk⟩ := id C
  have w := wd_of hw
  have hsl : h_s h = h_s h + 0 := rfl
  have hn0 : s.heap.size = h_x h := (wd_x w).1
  obtain ⟨ls, hen, hl⟩ : ∃ ls : Array Slot, entryFrame m ([.ref th, .int x1, .int x2, .int x3, .int x4, .int x5] : List Value).toArray 7 = F0 m 0 ls [] ∧ lv_has ls 7 [(0, .ref th), (1, .int x1), (2, .int x2), (3, .int x3), (4, .int x4), (5, .int x5)] := by
    exact ⟨_, lg_entry_eq _ _ _, lv_entry _ (Nat.le_of_ble_eq_true rfl)⟩
  rw [hen]
  have hcc : 0 ≤ h_x g - h_x h ∧ 0 ≤ h_s g - h_s h := ⟨Nat.zero_le _, Nat.zero_le _⟩
  unfold f_K_puts at hE
  refine lv_aload_n hx hb dX11_puts_0 rfl (lv_at hl 0 rfl) ?_
  refine lv_iload_n hx hb dX11_puts_1 rfl (lv_at hl 1 rfl) ?_
  refine lv_iload_n hx hb dX11_puts_2 rfl (lv_at hl 3 rfl) ?_
  refine lv_iload hx hb dX11_puts_3 (lv_at hl 4 rfl) ?_
  refine lv_iload hx hb dX11_puts_5 (lv_at hl 5 rfl) ?_
  refine w_VAI GW_good (n := 4) (F := 9) (Lc := 143) (o := some th) (av := [.int x1, .int x3, .int x4, .int x5]) (rest := []) C w rfl (by decide) (fun a r g hf => k_K_isTellable l hst D cy z N h a x1 x3 x4 x5 r g hf) gw_56_13 gw_56_14 gw_56_15 gw_1_2 gw_56_16 (by decide +kernel) ⟨Nat.le_of_ble_eq_true rfl, Nat.le_of_ble_eq_true rfl⟩ rfl hl.1 rfl (Nat.le_of_ble_eq_true rfl) dX11_puts_7 (fun a => (mo_K_isTellable N h a x1 x3 x4 x5)) (fun a v1 h2 q1 q2 => by have u1 := (mo_K_isTellable N h a x1 x3 x4 x5) _ _ q1; have u2 := mo_K_puts_10 N   h2 th x1 x2 x3 x4 x5 v1 _ _ q2; have u3 := wd_x w; have u4 := u1.1; have u5 := u1.2.1; have u6 := u2.1; have u7 := u2.2.1; show 0 + _ ≤ h_x g - (h_x h) ∧ 0 + _ ≤ h_s g - (h_s h); omega) hE (fun v1 h2 H locs w hsh2 e1 => ?_)
  exact b_K_puts_10 C hst N (h_x h) (h_s h) hn0   _ _ h2 th x1 x2 x3 x4 x5 v1 _ _ ls w (by have u5 := hsh2.2.1; have u8 := hsl; omega) (lv_sub hl [0, 1, 2, 3, 4, 5] rfl) e1
