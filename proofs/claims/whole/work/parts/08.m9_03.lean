def f_M_onTop_145 (N : Nat)  (h : hS) (th : Nat) (x1 : Int32) (x2 : Int32) : Option (Int32 × hS) := cv h (some th) 0 (fun a => f_M_tell N h a x1) fun _ h2 => gR h2 (some th) 0 7 fun v3 => aR h2 60 v3 x2 fun v4 => gR h2 (some th) 0 4 fun v5 => nn v4 fun q6 => nn v5 fun q7 => cl (f_M_copyTo N h2 q6 q7) fun _ h9 => gR h9 (some th) 0 16 fun v10 => uI h9 v10 x1 x2 fun h11 => some (x2, h11)
def f_M_onTop_144 (N : Nat)  (h : hS) (th : Nat) (x1 : Int32) (x2 : Int32) (y0 : Option Nat) (y1 : Int32) (y2 : Option Nat) : Option (Int32 × hS) := uA h y0 y1 y2 fun h1 => f_M_onTop_145 N   h1 th x1 x2
def f_M_onTop_110 (N : Nat)  : Nat → hS → Nat → Int32 → Int32 → Option (Int32 × hS)
  | 0 => fun _ _ _ _ => none
  | n + 1 => fun h th x1 x2 => gR h (some th) 0 8 fun v1 => aI h 53 v1 x2 fun v2 => if v2 = (0 : Int32) then (gR h (some th) 0 7 fun v3 => aR h 60 v3 x2 fun v4 => if v4 = none then (gR h (some th) 0 7 fun v5 => nwA h 50 (10003 : Int32) fun q6 h7 => f_M_onTop_144 N   h7 th x1 x2 v5 x2 (some q6)) else (f_M_onTop_145 N   h th x1 x2)) else (bn (x2 + (1 : Int32)) fun v8 => f_M_onTop_110 N  n h th x1 v8)
def f_M_onTop_102 (N : Nat) (rc75 : hS → Nat → Int32 → Int32 → Option (Int32 × hS)) (h : hS) (th : Nat) (x1 : Int32) (x2 : Int32) : Option (Int32 × hS) := bn (x2 + (1 : Int32)) fun v1 => rc75 h th x1 v1
def f_M_onTop_75 (N : Nat)  : Nat → hS → Nat → Int32 → Int32 → Option (Int32 × hS)
  | 0 => fun _ _ _ _ => none
  | n + 1 => fun h th x1 x2 => if (4 : Int32) ≤ x2 then (f_M_onTop_110 N  N h th x1 (0 : Int32)) else (gR h (some th) 0 16 fun v1 => aI h 50 v1 x2 fun v2 => if v2 = (-1 : Int32) then (f_M_onTop_102 N (f_M_onTop_75 N  n)  h th x1 x2) else (gR h (some th) 0 8 fun v3 => gR h (some th) 0 16 fun v4 => aI h 50 v4 x2 fun v5 => uZ h v3 v5 (1 : Int32) fun h6 => f_M_onTop_102 N (f_M_onTop_75 N  n)  h6 th x1 x2))
def f_M_onTop_19 (N : Nat)  : Nat → hS → Nat → Int32 → Int32 → Option (Int32 × hS)
  | 0 => fun _ _ _ _ => none
  | n + 1 => fun h th x1 x2 => gR h (some th) 0 8 fun v1 => lnA h 53 v1 fun v2 => if v2 ≤ x2 then (gR h (some th) 0 2 fun v3 => nn v3 fun q4 => cv h (some th) 0 (fun a => f_M_names N h a q4) fun _ h6 => gR h6 (some th) 0 42 fun v7 => nn v7 fun q8 => cv h6 (some th) 0 (fun a => f_M_names N h6 a q8) fun _ h10 => gR h10 (some th) 0 52 fun v11 => nn v11 fun q12 => cv h10 (some th) 0 (fun a => f_M_names N h10 a q12) fun _ h14 => gR h14 (some th) 0 53 fun v15 => nn v15 fun q16 => cv h14 (some th) 0 (fun a => f_M_names N h14 a q16) fun _ h18 => f_M_onTop_75 N  N h18 th x1 (0 : Int32)) else (gR h (some th) 0 8 fun v19 => uZ h v19 x2 (0 : Int32) fun h20 => bn (x2 + (1 : Int32)) fun v21 => f_M_onTop_19 N  n h20 th x1 v21)
def f_M_onTop (N : Nat) (h : hS) (th : Nat) (x1 : Int32) : Option (Int32 × hS) := gR h (some th) 0 16 fun v1 => aI h 50 v1 x1 fun v2 => if v2 = (-1 : Int32) then (f_M_onTop_19 N  N h th x1 (0 : Int32)) else (gR h (some th) 0 16 fun v3 => aI h 50 v3 x1 fun v4 => some (v4, h))
def f_M_laysOnTop_43 (N : Nat) (rc6 : hS → Nat → Nat → Int32 → Option (Unit × hS)) (h : hS) (th : Nat) (a1 : Nat) (x2 : Int32) : Option (Unit × hS) := bn (x2 + (1 : Int32)) fun v1 => rc6 h th a1 v1
def f_M_laysOnTop_42 (N : Nat) (rc6 : hS → Nat → Nat → Int32 → Option (Unit × hS)) (h : hS) (th : Nat) (a1 : Nat) (x2 : Int32) (y0 : Option Nat) (y1 : Int32) (y2 : Int32) : Option (Unit × hS) := uI h y0 y1 y2 fun h1 => f_M_laysOnTop_43 N rc6  h1 th a1 x2
def f_M_laysOnTop_6 (N : Nat)  : Nat → hS → Nat → Nat → Int32 → Option (Unit × hS)
  | 0 => fun _ _ _ _ => none
  | n + 1 => fun h th a1 x2 => aI h 50 (some a1) (0 : Int32) fun v1 => if v1 ≤ x2 then (some ((), h)) else (aI h 50 (some a1) ((1 : Int32) + ((4 : Int32) * x2)) fun v2 => if v2 = (8 : Int32) then (aI h 50 (some a1) ((2 : Int32) + ((4 : Int32) * x2)) fun v3 => cv h (some th) 0 (fun a => f_M_onTop N h a v3) fun v4 h5 => f_M_laysOnTop_42 N (f_M_laysOnTop_6 N  n)  h5 th a1 x2 (some a1) ((4 : Int32) + ((4 : Int32) * x2)) v4) else (f_M_laysOnTop_43 N (f_M_laysOnTop_6 N  n)  h th a1 x2))
def f_M_laysOnTop (N : Nat) (h : hS) (th : Nat) (a1 : Nat) : Option (Unit × hS) := cv h (some th) 0 (fun a => f_M_forgetLaid N h a ) fun _ h2 => f_M_laysOnTop_6 N  N h2 th a1 (0 : Int32)
def f_M_puts_50 (N : Nat)  (h : hS) (th : Nat) : Option (Int32 × hS) := cv h (some th) 0 (fun a => f_M_refuse N h a (1 : Int32)) fun v1 h2 => some (v1, h2)
def f_M_puts_248 (N : Nat)  (h : hS) (th : Nat) (x1 : Int32) (y0 : Option Nat) (y1 : Int32) (y2 : Int32) : Option (Int32 × hS) := uI h y0 y1 y2 fun h1 => cv h1 (some th) 0 (fun a => f_M_becomes N h1 a x1) fun v2 h3 => some (v2, h3)
def f_M_puts_244 (N : Nat)  (h : hS) (th : Nat) (x1 : Int32) (y0 : Option Nat) (y1 : Int32) (y2 : Int32) : Option (Int32 × hS) := f_M_puts_248 N   h th x1 y0 y1 y2
def f_M_puts_218 (N : Nat)  (h : hS) (th : Nat) (x1 : Int32) (x2 : Int32) (x3 : Int32) (x4 : Int32) (y0 : Option Nat) (y1 : Int32) (y2 : Int32) : Option (Int32 × hS) := uI h y0 y1 y2 fun h1 => cv h1 (some th) 0 (fun a => f_M_forgetLaid N h1 a ) fun _ h3 => gR h3 (some th) 0 18 fun v4 => if x3 = (8 : Int32) then (cv h3 (some th) 0 (fun a => f_M_onTop N h3 a x4) fun v5 h6 => f_M_puts_244 N   h6 th x1 v4 ((4 : Int32) + ((4 : Int32) * x2)) v5) else (f_M_puts_248 N   h3 th x1 v4 ((4 : Int32) + ((4 : Int32) * x2)) (0 : Int32))
def f_M_puts_197 (N : Nat)  (h : hS) (th : Nat) (x1 : Int32) (x2 : Int32) (x3 : Int32) (x4 : Int32) (x5 : Int32) (x6 : Int32) (y0 : Option Nat) (y1 : Int32) (y2 : Int32) : Option (Int32 × hS) := uI h y0 y1 y2 fun h1 => gR h1 (some th) 0 18 fun v2 => if x6 = (0 : Int32) then (f_M_puts_218 N   h1 th x1 x2 x3 x4 v2 ((3 : Int32) + ((4 : Int32) * x2)) (0 : Int32)) else (f_M_puts_218 N   h1 th x1 x2 x3 x4 v2 ((3 : Int32) + ((4 : Int32) * x2)) x5)
def f_M_puts_191 (N : Nat)  (h : hS) (th : Nat) (x1 : Int32) (x2 : Int32) (x3 : Int32) (x4 : Int32) (x5 : Int32) (x6 : Int32) (y0 : Option Nat) (y1 : Int32) : Option (Int32 × hS) := f_M_puts_197 N   h th x1 x2 x3 x4 x5 x6 y0 y1 (0 : Int32)
def f_M_puts_120 (N : Nat)  : Nat → hS → Nat → Int32 → Int32 → Int32 → Int32 → Int32 → Int32 → Int32 → Option (Int32 × hS)
  | 0 => fun _ _ _ _ _ _ _ _ _ => none
  | n + 1 => fun h th x1 x2 x3 x4 x5 x6 x7 => if x7 ≤ ((4 : Int32) * x2) then (gR h (some th) 0 18 fun v1 => aI h 50 v1 (0 : Int32) fun v2 => uI h v1 (0 : Int32) (v2 + (1 : Int32)) fun h3 => gR h3 (some th) 0 18 fun v4 => uI h3 v4 ((1 : Int32) + ((4 : Int32) * x2)) x3 fun h5 => gR h5 (some th) 0 18 fun v6 => if x3 = (5 : Int32) then (f_M_puts_191 N   h5 th x1 x2 x3 x4 x5 x6 v6 ((2 : Int32) + ((4 : Int32) * x2))) else (if x3 = (6 : Int32) then (f_M_puts_191 N   h5 th x1 x2 x3 x4 x5 x6 v6 ((2 : Int32) + ((4 : Int32) * x2))) else (f_M_puts_197 N   h5 th x1 x2 x3 x4 x5 x6 v6 ((2 : Int32) + ((4 : Int32) * x2)) x4))) else (gR h (some th) 0 18 fun v7 => gR h (some th) 0 18 fun v8 => aI h 50 v8 x7 fun v9 => uI h v7 ((4 : Int32) + x7) v9 fun h10 => bn (x7 + (-1 : Int32)) fun v11 => f_M_puts_120 N  n h10 th x1 x2 x3 x4 x5 x6 v11)
def f_M_puts_76 (N : Nat)  : Nat → hS → Nat → Int32 → Int32 → Int32 → Int32 → Int32 → Int32 → Int32 → Option (Int32 × hS)
  | 0 => fun _ _ _ _ _ _ _ _ _ => none
  | n + 1 => fun h th x1 x2 x3 x4 x5 x6 x7 => if (161 : Int32) ≤ x7 then (gR h (some th) 0 18 fun v1 => aI h 50 v1 (0 : Int32) fun v2 => bn (((4 : Int32) * v2)) fun v3 => f_M_puts_120 N  N h th x1 x2 x3 x4 x5 x6 v3) else (gR h (some th) 0 18 fun v4 => gR h (some th) 0 2 fun v5 => aI h 50 v5 (((161 : Int32) * x1) + x7) fun v6 => uI h v4 x7 v6 fun h7 => bn (x7 + (1 : Int32)) fun v8 => f_M_puts_76 N  n h7 th x1 x2 x3 x4 x5 x6 v8)
def f_M_puts_71 (N : Nat)  (h : hS) (th : Nat) (x1 : Int32) (x2 : Int32) (x3 : Int32) (x4 : Int32) (x5 : Int32) (y0 : Int32) : Option (Int32 × hS) := f_M_puts_76 N  N h th x1 x2 x3 x4 x5 y0 (0 : Int32)
def f_M_puts_66 (N : Nat)  (h : hS) (th : Nat) (x1 : Int32) (x2 : Int32) (x3 : Int32) (x4 : Int32) (x5 : Int32) : Option (Int32 × hS) := f_M_puts_71 N   h th x1 x2 x3 x4 x5 (1 : Int32)
def f_M_puts (N : Nat) (h : hS) (th : Nat) (x1 : Int32) (x2 : Int32) (x3 : Int32) (x4 : Int32) (x5 : Int32) : Option (Int32 × hS) := pI h (some th) 0 1 (0 : Int32) fun h1 => cv h1 (some th) 0 (fun a => f_M_isCost N h1 a x1) fun v2 h3 => if v2 = (0 : Int32) then (f_M_puts_50 N   h3 th) else (cv h3 (some th) 0 (fun a => f_M_steps N h3 a x1) fun v4 h5 => cl (f_M_isIn N h5 x2.toInt64 (0 : Int64) v4.toInt64) fun v6 h7 => if v6 = (0 : Int32) then (f_M_puts_50 N   h7 th) else (cl (f_M_isStepTold N h7 x1 x3 x4 x5) fun v8 h9 => if v8 = (0 : Int32) then (f_M_puts_50 N   h9 th) else (cv h9 (some th) 0 (fun a => f_M_steps N h9 a x1) fun v10 h11 => if v10 = (40 : Int32) then (f_M_puts_50 N   h11 th) else (if x3 ≤ (2 : Int32) then (f_M_puts_66 N   h11 th x1 x2 x3 x4 x5) else (if x3 = (4 : Int32) then (f_M_puts_66 N   h11 th x1 x2 x3 x4 x5) else (f_M_puts_71 N   h11 th x1 x2 x3 x4 x5 (0 : Int32)))))))
def f_M_does_35 (N : Nat)  (h : hS) (y0 : Int32) : Option (Int32 × hS) := some (y0, h)
def f_M_does_22 (N : Nat)  (h : hS) (y0 : Int32) : Option (Int32 × hS) := f_M_does_35 N   h y0
def f_M_does (N : Nat) (h : hS) (th : Nat) (x1 : Int32) (x2 : Int32) (x3 : Int32) (x4 : Int32) : Option (Int32 × hS) := cv h (some th) 0 (fun a => f_M_isCost N h a x1) fun v1 h2 => if v1 = (0 : Int32) then (cv h2 (some th) 0 (fun a => f_M_puts N h2 a x1 (0 : Int32) x2 x3 x4) fun v3 h4 => f_M_does_35 N   h4 v3) else (cv h2 (some th) 0 (fun a => f_M_steps N h2 a x1) fun v5 h6 => cv h6 (some th) 0 (fun a => f_M_puts N h6 a x1 v5 x2 x3 x4) fun v7 h8 => f_M_does_22 N   h8 v7)
theorem mo_M_onTop_145 (N : Nat)  : ∀  (h : hS) (th : Nat) (x1 : Int32) (x2 : Int32), Mo h (f_M_onTop_145 N   h th x1 x2) := by
  intro h th x1 x2
  unfold f_M_onTop_145
  refine Mo_cv (fun a => (Sh.mo (sh_M_tell N h a x1))) (fun v1 h2 => ?_)
  refine Mo_gR (fun v3 => ?_)
  refine Mo_aR (fun v4 => ?_)
  refine Mo_gR (fun v5 => ?_)
  refine Mo_nn (fun q6 => ?_)
  refine Mo_nn (fun q7 => ?_)
  refine Mo_cl (Sh.mo (sh_M_copyTo N h2 q6 q7)) (fun v8 h9 => ?_)
  refine Mo_gR (fun v10 => ?_)
  refine Mo_uI (fun h11 => ?_)
  exact Mo_some
theorem mo_M_onTop_144 (N : Nat)  : ∀  (h : hS) (th : Nat) (x1 : Int32) (x2 : Int32) (y0 : Option Nat) (y1 : Int32) (y2 : Option Nat), Mo h (f_M_onTop_144 N   h th x1 x2 y0 y1 y2) := by
  intro h th x1 x2 y0 y1 y2
  unfold f_M_onTop_144
  refine Mo_uA (fun h1 => ?_)
  exact mo_M_onTop_145 N   h1 th x1 x2
theorem mo_M_onTop_110 (N : Nat)  : ∀ (n : Nat) (h : hS) (th : Nat) (x1 : Int32) (x2 : Int32), Mo h (f_M_onTop_110 N  n h th x1 x2) := by
  intro n
  induction n with
  | zero =>
    intro h th x1 x2
    exact Mo_none
  | succ n ih =>
    intro h th x1 x2
    unfold f_M_onTop_110
    refine Mo_gR (fun v1 => ?_)
    refine Mo_aI (fun v2 => ?_)
    refine Mo_ite ?_ ?_
    · refine Mo_gR (fun v3 => ?_)
      refine Mo_aR (fun v4 => ?_)
      refine Mo_ite ?_ ?_
      · refine Mo_gR (fun v5 => ?_)
        refine Mo_nwA (fun q6 h7 => ?_)
        exact mo_M_onTop_144 N   h7 th x1 x2 v5 x2 (some q6)
      · exact mo_M_onTop_145 N   h th x1 x2
    · refine Mo_bn (fun v8 => ?_)
      exact ih h th x1 v8
theorem mo_M_onTop_102 (N : Nat) {rc75 : hS → Nat → Int32 → Int32 → Option (Int32 × hS)} (hsh75 : ∀ (h : hS) (th : Nat) (x1 : Int32) (x2 : Int32), Mo h (rc75 h th x1 x2)) : ∀  (h : hS) (th : Nat) (x1 : Int32) (x2 : Int32), Mo h (f_M_onTop_102 N rc75  h th x1 x2) := by
  intro h th x1 x2
  unfold f_M_onTop_102
  refine Mo_bn (fun v1 => ?_)
  exact hsh75 h th x1 v1
theorem mo_M_onTop_75 (N : Nat)  : ∀ (n : Nat) (h : hS) (th : Nat) (x1 : Int32) (x2 : Int32), Mo h (f_M_onTop_75 N  n h th x1 x2) := by
  intro n
  induction n with
  | zero =>
    intro h th x1 x2
    exact Mo_none
  | succ n ih =>
    intro h th x1 x2
    unfold f_M_onTop_75
    refine Mo_ite ?_ ?_
    · exact mo_M_onTop_110 N  N h th x1 (0 : Int32)
    · refine Mo_gR (fun v1 => ?_)
      refine Mo_aI (fun v2 => ?_)
      refine Mo_ite ?_ ?_
      · exact mo_M_onTop_102 N ih  h th x1 x2
      · refine Mo_gR (fun v3 => ?_)
        refine Mo_gR (fun v4 => ?_)
        refine Mo_aI (fun v5 => ?_)
        refine Mo_uZ (fun h6 => ?_)
        exact mo_M_onTop_102 N ih  h6 th x1 x2
theorem mo_M_onTop_19 (N : Nat)  : ∀ (n : Nat) (h : hS) (th : Nat) (x1 : Int32) (x2 : Int32), Mo h (f_M_onTop_19 N  n h th x1 x2) := by
  intro n
  induction n with
  | zero =>
    intro h th x1 x2
    exact Mo_none
  | succ n ih =>
    intro h th x1 x2
    unfold f_M_onTop_19
    refine Mo_gR (fun v1 => ?_)
    refine Mo_lnA (fun v2 => ?_)
    refine Mo_ite ?_ ?_
    · refine Mo_gR (fun v3 => ?_)
      refine Mo_nn (fun q4 => ?_)
      refine Mo_cv (fun a => (Sh.mo (sh_M_names N h a q4))) (fun v5 h6 => ?_)
      refine Mo_gR (fun v7 => ?_)
      refine Mo_nn (fun q8 => ?_)
      refine Mo_cv (fun a => (Sh.mo (sh_M_names N h6 a q8))) (fun v9 h10 => ?_)
      refine Mo_gR (fun v11 => ?_)
      refine Mo_nn (fun q12 => ?_)
      refine Mo_cv (fun a => (Sh.mo (sh_M_names N h10 a q12))) (fun v13 h14 => ?_)
      refine Mo_gR (fun v15 => ?_)
      refine Mo_nn (fun q16 => ?_)
      refine Mo_cv (fun a => (Sh.mo (sh_M_names N h14 a q16))) (fun v17 h18 => ?_)
      exact mo_M_onTop_75 N  N h18 th x1 (0 : Int32)
    · refine Mo_gR (fun v19 => ?_)
      refine Mo_uZ (fun h20 => ?_)
      refine Mo_bn (fun v21 => ?_)
      exact ih h20 th x1 v21
theorem mo_M_onTop (N : Nat) (h : hS) (th : Nat) (x1 : Int32) : Mo h (f_M_onTop N h th x1) := by
  unfold f_M_onTop
  refine Mo_gR (fun v1 => ?_)
  refine Mo_aI (fun v2 => ?_)
  refine Mo_ite ?_ ?_
  · exact mo_M_onTop_19 N  N h th x1 (0 : Int32)
  · refine Mo_gR (fun v3 => ?_)
    refine Mo_aI (fun v4 => ?_)
    exact Mo_some
theorem mo_M_laysOnTop_43 (N : Nat) {rc6 : hS → Nat → Nat → Int32 → Option (Unit × hS)} (hsh6 : ∀ (h : hS) (th : Nat) (a1 : Nat) (x2 : Int32), Mo h (rc6 h th a1 x2)) : ∀  (h : hS) (th : Nat) (a1 : Nat) (x2 : Int32), Mo h (f_M_laysOnTop_43 N rc6  h th a1 x2) := by
  intro h th a1 x2
  unfold f_M_laysOnTop_43
  refine Mo_bn (fun v1 => ?_)
  exact hsh6 h th a1 v1
theorem mo_M_laysOnTop_42 (N : Nat) {rc6 : hS → Nat → Nat → Int32 → Option (Unit × hS)} (hsh6 : ∀ (h : hS) (th : Nat) (a1 : Nat) (x2 : Int32), Mo h (rc6 h th a1 x2)) : ∀  (h : hS) (th : Nat) (a1 : Nat) (x2 : Int32) (y0 : Option Nat) (y1 : Int32) (y2 : Int32), Mo h (f_M_laysOnTop_42 N rc6  h th a1 x2 y0 y1 y2) := by
  intro h th a1 x2 y0 y1 y2
  unfold f_M_laysOnTop_42
  refine Mo_uI (fun h1 => ?_)
  exact mo_M_laysOnTop_43 N hsh6  h1 th a1 x2
theorem mo_M_laysOnTop_6 (N : Nat)  : ∀ (n : Nat) (h : hS) (th : Nat) (a1 : Nat) (x2 : Int32), Mo h (f_M_laysOnTop_6 N  n h th a1 x2) := by
  intro n
  induction n with
  | zero =>
    intro h th a1 x2
    exact Mo_none
  | succ n ih =>
    intro h th a1 x2
    unfold f_M_laysOnTop_6
    refine Mo_aI (fun v1 => ?_)
    refine Mo_ite ?_ ?_
    · exact Mo_some
    · refine Mo_aI (fun v2 => ?_)
      refine Mo_ite ?_ ?_
      · refine Mo_aI (fun v3 => ?_)
        refine Mo_cv (fun a => (mo_M_onTop N h a v3)) (fun v4 h5 => ?_)
        exact mo_M_laysOnTop_42 N ih  h5 th a1 x2 (some a1) ((4 : Int32) + ((4 : Int32) * x2)) v4
      · exact mo_M_laysOnTop_43 N ih  h th a1 x2
theorem mo_M_laysOnTop (N : Nat) (h : hS) (th : Nat) (a1 : Nat) : Mo h (f_M_laysOnTop N h th a1) := by
  unfold f_M_laysOnTop
  refine Mo_cv (fun a => (Sh.mo (sh_M_forgetLaid N h a ))) (fun v1 h2 => ?_)
  exact mo_M_laysOnTop_6 N  N h2 th a1 (0 : Int32)
theorem mo_M_puts_50 (N : Nat)  : ∀  (h : hS) (th : Nat), Mo h (f_M_puts_50 N   h th) := by
  intro h th
  unfold f_M_puts_50
  refine Mo_cv (fun a => (Sh.mo (sh_M_refuse N h a (1 : Int32)))) (fun v1 h2 => ?_)
  exact Mo_some
theorem mo_M_puts_248 (N : Nat)  : ∀  (h : hS) (th : Nat) (x1 : Int32) (y0 : Option Nat) (y1 : Int32) (y2 : Int32), Mo h (f_M_puts_248 N   h th x1 y0 y1 y2) := by
  intro h th x1 y0 y1 y2
  unfold f_M_puts_248
  refine Mo_uI (fun h1 => ?_)
  refine Mo_cv (fun a => (Sh.mo (sh_M_becomes N h1 a x1))) (fun v2 h3 => ?_)
  exact Mo_some
theorem mo_M_puts_244 (N : Nat)  : ∀  (h : hS) (th : Nat) (x1 : Int32) (y0 : Option Nat) (y1 : Int32) (y2 : Int32), Mo h (f_M_puts_244 N   h th x1 y0 y1 y2) := by
  intro h th x1 y0 y1 y2
  unfold f_M_puts_244
  exact mo_M_puts_248 N   h th x1 y0 y1 y2
theorem mo_M_puts_218 (N : Nat)  : ∀  (h : hS) (th : Nat) (x1 : Int32) (x2 : Int32) (x3 : Int32) (x4 : Int32) (y0 : Option Nat) (y1 : Int32) (y2 : Int32), Mo h (f_M_puts_218 N   h th x1 x2 x3 x4 y0 y1 y2) := by
  intro h th x1 x2 x3 x4 y0 y1 y2
  unfold f_M_puts_218
  refine Mo_uI (fun h1 => ?_)
  refine Mo_cv (fun a => (Sh.mo (sh_M_forgetLaid N h1 a ))) (fun v2 h3 => ?_)
  refine Mo_gR (fun v4 => ?_)
  refine Mo_ite ?_ ?_
  · refine Mo_cv (fun a => (mo_M_onTop N h3 a x4)) (fun v5 h6 => ?_)
    exact mo_M_puts_244 N   h6 th x1 v4 ((4 : Int32) + ((4 : Int32) * x2)) v5
  · exact mo_M_puts_248 N   h3 th x1 v4 ((4 : Int32) + ((4 : Int32) * x2)) (0 : Int32)
theorem mo_M_puts_197 (N : Nat)  : ∀  (h : hS) (th : Nat) (x1 : Int32) (x2 : Int32) (x3 : Int32) (x4 : Int32) (x5 : Int32) (x6 : Int32) (y0 : Option Nat) (y1 : Int32) (y2 : Int32), Mo h (f_M_puts_197 N   h th x1 x2 x3 x4 x5 x6 y0 y1 y2) := by
  intro h th x1 x2 x3 x4 x5 x6 y0 y1 y2
  unfold f_M_puts_197
  refine Mo_uI (fun h1 => ?_)
  refine Mo_gR (fun v2 => ?_)
  refine Mo_ite ?_ ?_
  · exact mo_M_puts_218 N   h1 th x1 x2 x3 x4 v2 ((3 : Int32) + ((4 : Int32) * x2)) (0 : Int32)
  · exact mo_M_puts_218 N   h1 th x1 x2 x3 x4 v2 ((3 : Int32) + ((4 : Int32) * x2)) x5
theorem mo_M_puts_191 (N : Nat)  : ∀  (h : hS) (th : Nat) (x1 : Int32) (x2 : Int32) (x3 : Int32) (x4 : Int32) (x5 : Int32) (x6 : Int32) (y0 : Option Nat) (y1 : Int32), Mo h (f_M_puts_191 N   h th x1 x2 x3 x4 x5 x6 y0 y1) := by
  intro h th x1 x2 x3 x4 x5 x6 y0 y1
  unfold f_M_puts_191
  exact mo_M_puts_197 N   h th x1 x2 x3 x4 x5 x6 y0 y1 (0 : Int32)
theorem mo_M_puts_120 (N : Nat)  : ∀ (n : Nat) (h : hS) (th : Nat) (x1 : Int32) (x2 : Int32) (x3 : Int32) (x4 : Int32) (x5 : Int32) (x6 : Int32) (x7 : Int32), Mo h (f_M_puts_120 N  n h th x1 x2 x3 x4 x5 x6 x7) := by
  intro n
  induction n with
  | zero =>
    intro h th x1 x2 x3 x4 x5 x6 x7
    exact Mo_none
  | succ n ih =>
    intro h th x1 x2 x3 x4 x5 x6 x7
    unfold f_M_puts_120
    refine Mo_ite ?_ ?_
    · refine Mo_gR (fun v1 => ?_)
      refine Mo_aI (fun v2 => ?_)
      refine Mo_uI (fun h3 => ?_)
      refine Mo_gR (fun v4 => ?_)
      refine Mo_uI (fun h5 => ?_)
      refine Mo_gR (fun v6 => ?_)
      refine Mo_ite ?_ ?_
      · exact mo_M_puts_191 N   h5 th x1 x2 x3 x4 x5 x6 v6 ((2 : Int32) + ((4 : Int32) * x2))
      · refine Mo_ite ?_ ?_
        · exact mo_M_puts_191 N   h5 th x1 x2 x3 x4 x5 x6 v6 ((2 : Int32) + ((4 : Int32) * x2))
        · exact mo_M_puts_197 N   h5 th x1 x2 x3 x4 x5 x6 v6 ((2 : Int32) + ((4 : Int32) * x2)) x4
    · refine Mo_gR (fun v7 => ?_)
      refine Mo_gR (fun v8 => ?_)
      refine Mo_aI (fun v9 => ?_)
      refine Mo_uI (fun h10 => ?_)
      refine Mo_bn (fun v11 => ?_)
      exact ih h10 th x1 x2 x3 x4 x5 x6 v11
theorem mo_M_puts_76 (N : Nat)  : ∀ (n : Nat) (h : hS) (th : Nat) (x1 : Int32) (x2 : Int32) (x3 : Int32) (x4 : Int32) (x5 : Int32) (x6 : Int32) (x7 : Int32), Mo h (f_M_puts_76 N  n h th x1 x2 x3 x4 x5 x6 x7) := by
  intro n
  induction n with
  | zero =>
    intro h th x1 x2 x3 x4 x5 x6 x7
    exact Mo_none
  | succ n ih =>
    intro h th x1 x2 x3 x4 x5 x6 x7
    unfold f_M_puts_76
    refine Mo_ite ?_ ?_
    · refine Mo_gR (fun v1 => ?_)
      refine Mo_aI (fun v2 => ?_)
      refine Mo_bn (fun v3 => ?_)
      exact mo_M_puts_120 N  N h th x1 x2 x3 x4 x5 x6 v3
    · refine Mo_gR (fun v4 => ?_)
      refine Mo_gR (fun v5 => ?_)
      refine Mo_aI (fun v6 => ?_)
      refine Mo_uI (fun h7 => ?_)
      refine Mo_bn (fun v8 => ?_)
      exact ih h7 th x1 x2 x3 x4 x5 x6 v8
theorem mo_M_puts_71 (N : Nat)  : ∀  (h : hS) (th : Nat) (x1 : Int32) (x2 : Int32) (x3 : Int32) (x4 : Int32) (x5 : Int32) (y0 : Int32), Mo h (f_M_puts_71 N   h th x1 x2 x3 x4 x5 y0) := by
  intro h th x1 x2 x3 x4 x5 y0
  unfold f_M_puts_71
  exact mo_M_puts_76 N  N h th x1 x2 x3 x4 x5 y0 (0 : Int32)
theorem mo_M_puts_66 (N : Nat)  : ∀  (h : hS) (th : Nat) (x1 : Int32) (x2 : Int32) (x3 : Int32) (x4 : Int32) (x5 : Int32), Mo h (f_M_puts_66 N   h th x1 x2 x3 x4 x5) := by
  intro h th x1 x2 x3 x4 x5
  unfold f_M_puts_66
  exact mo_M_puts_71 N   h th x1 x2 x3 x4 x5 (1 : Int32)
theorem mo_M_puts (N : Nat) (h : hS) (th : Nat) (x1 : Int32) (x2 : Int32) (x3 : Int32) (x4 : Int32) (x5 : Int32) : Mo h (f_M_puts N h th x1 x2 x3 x4 x5) := by
  unfold f_M_puts
  refine Mo_pI (fun h1 => ?_)
  refine Mo_cv (fun a => (Sh.mo (sh_M_isCost N h1 a x1))) (fun v2 h3 => ?_)
  refine Mo_ite ?_ ?_
  · exact mo_M_puts_50 N   h3 th
  · refine Mo_cv (fun a => (Sh.mo (sh_M_steps N h3 a x1))) (fun v4 h5 => ?_)
    refine Mo_cl (Sh.mo (sh_M_isIn N h5 x2.toInt64 (0 : Int64) v4.toInt64)) (fun v6 h7 => ?_)
    refine Mo_ite ?_ ?_
    · exact mo_M_puts_50 N   h7 th
    · refine Mo_cl (Sh.mo (sh_M_isStepTold N h7 x1 x3 x4 x5)) (fun v8 h9 => ?_)
      refine Mo_ite ?_ ?_
      · exact mo_M_puts_50 N   h9 th
      · refine Mo_cv (fun a => (Sh.mo (sh_M_steps N h9 a x1))) (fun v10 h11 => ?_)
        refine Mo_ite ?_ ?_
        · exact mo_M_puts_50 N   h11 th
        · refine Mo_ite ?_ ?_
          · exact mo_M_puts_66 N   h11 th x1 x2 x3 x4 x5
          · refine Mo_ite ?_ ?_
            · exact mo_M_puts_66 N   h11 th x1 x2 x3 x4 x5
            · exact mo_M_puts_71 N   h11 th x1 x2 x3 x4 x5 (0 : Int32)
theorem mo_M_does_35 (N : Nat)  : ∀  (h : hS) (y0 : Int32), Mo h (f_M_does_35 N   h y0) := by
  intro h y0
  unfold f_M_does_35
  exact Mo_some
theorem mo_M_does_22 (N : Nat)  : ∀  (h : hS) (y0 : Int32), Mo h (f_M_does_22 N   h y0) := by
  intro h y0
  unfold f_M_does_22
  exact mo_M_does_35 N   h y0
theorem mo_M_does (N : Nat) (h : hS) (th : Nat) (x1 : Int32) (x2 : Int32) (x3 : Int32) (x4 : Int32) : Mo h (f_M_does N h th x1 x2 x3 x4) := by
  unfold f_M_does
  refine Mo_cv (fun a => (Sh.mo (sh_M_isCost N h a x1))) (fun v1 h2 => ?_)
  refine Mo_ite ?_ ?_
  · refine Mo_cv (fun a => (mo_M_puts N h2 a x1 (0 : Int32) x2 x3 x4)) (fun v3 h4 => ?_)
    exact mo_M_does_35 N   h4 v3
  · refine Mo_cv (fun a => (Sh.mo (sh_M_steps N h2 a x1))) (fun v5 h6 => ?_)
    refine Mo_cv (fun a => (mo_M_puts N h6 a x1 v5 x2 x3 x4)) (fun v7 h8 => ?_)
    exact mo_M_does_22 N   h8 v7
set_option maxRecDepth 20000 in
set_option maxHeartbeats 4000000 in
theorem b_M_onTop_145 {p : Program} {l : Launch} {e : Env} {s : State} {m : MethodId} {args : Array Value} {below : List Frame} {meth : Method} {c : Code} {D : va_G} {cy : cyT} {z : Nat} (C : MX p s m args meth c cX12_onTop 3 ((some .int)) RX12 (Cond.code yX12_onTop cX12_onTop 3 ((some .int)) :: GW)) (N : Nat) (n0 s0 : Nat) (hn0 : s.heap.size = n0) {r : Int32} {g : hS}  : ∀  (cells slots : Nat) (h : hS) (th : Nat) (x1 : Int32) (x2 : Int32) (H : Heap) (locs : List Loc) (ls : Array Slot), wd D cy z s cells h H locs → h_s h = s0 + slots → lv_has ls 3 [(0, .ref th), (1, .int x1), (2, .int x2)] → f_M_onTop_145 N   h th x1 x2 = some (r, g) → W p l e { frames := 7, cells := h_x g - n0, slots := h_s g - s0, locals := 193 } s m args below meth c H locs cells slots (MQ below (eQ D cy z (rI r) g) args s (h_x g - n0) (h_s g - s0) (fun q => z ≤ q)) (F0 m 145 ls []) := by
  obtain ⟨hx, hb, hr, hml, hown, hts, hlk⟩ := id C
  intro cells slots h th x1 x2 H locs ls w hsl hl hE
  have hcc : cells ≤ h_x g - n0 ∧ slots ≤ h_s g - s0 := by
    have q1 := mo_M_onTop_145 N  h th x1 x2 _ _ hE
    have q2 := wd_x w
    have q3 := q1.1
    have q4 := q1.2.1
    omega
  unfold f_M_onTop_145 at hE
  refine lv_aload_n hx hb dX12_onTop_145 rfl (lv_at hl 0 rfl) ?_
  refine lv_iload_n hx hb dX12_onTop_146 rfl (lv_at hl 1 rfl) ?_
  refine w_VV GW_good (n := 1) (F := 6) (Lc := 171) (o := some th) (av := [.int x1]) (rest := []) C w rfl (by decide) (fun a r g hf => k_M_tell l D cy z N h a x1 r g hf) gw_28_9 gw_28_10 gw_28_11 gw_1_5 gw_28_12 (by decide +kernel) ⟨Nat.le_of_ble_eq_true rfl, Nat.le_of_ble_eq_true rfl⟩ rfl hl.1 rfl (Nat.le_of_ble_eq_true rfl) dX12_onTop_147 (fun a => (sh_M_tell N h a x1)) ⟨hcc.1, hcc.2⟩ hE (fun v1 h2 H locs w hsh2 e1 => ?_)
  have hsl := hsh2.2.2.2.trans hsl
  refine lv_aload_n hx hb dX12_onTop_150 rfl (lv_at hl 0 rfl) ?_
  refine w_gR (r := some th) (ci := 0) (k := 7) C w rfl (by decide) (GF_wsX120 _) (by decide) rfl (List.mem_cons_of_mem _ gw_7_3) rfl dX12_onTop_151 e1 (fun v3 e2 => ?_)
  refine lv_iload_n hx hb dX12_onTop_154 rfl (lv_at hl 2 rfl) ?_
  refine w_aR60 (r := v3) C w dX12_onTop_155 e2 (fun v4 e3 => ?_)
  refine lv_aload_n hx hb dX12_onTop_156 rfl (lv_at hl 0 rfl) ?_
  refine w_gR (r := some th) (ci := 0) (k := 4) C w rfl (by decide) (GF_wsX120 _) (by decide) rfl (List.mem_cons_of_mem _ gw_6_23) rfl dX12_onTop_157 e3 (fun v5 e4 => ?_)
  obtain ⟨q6, eq6, e5⟩ := nn_some e4
  subst eq6
  obtain ⟨q7, eq7, e6⟩ := nn_some e5
  subst eq7
  refine w_SV GW_good (n := 2) (F := 0) (Lc := 0) (av := [.ref q6, .ref q7]) (rest := []) C w (fun r g hf => k_M_copyTo l D cy z N h2 q6 q7 r g hf) gw_30_4 gw_30_5 gw_1_5 gw_30_6 (by decide +kernel) ⟨Nat.le_of_ble_eq_true rfl, Nat.le_of_ble_eq_true rfl⟩ rfl hl.1 rfl (Nat.le_of_ble_eq_true rfl) dX12_onTop_160 (sh_M_copyTo N h2 q6 q7) ⟨hcc.1, hcc.2⟩ e6 (fun v8 h9 H locs w hsh9 e7 => ?_)
  have hsl := hsh9.2.2.2.trans hsl
  refine lv_aload_n hx hb dX12_onTop_163 rfl (lv_at hl 0 rfl) ?_
  refine w_gR (r := some th) (ci := 0) (k := 16) C w rfl (by decide) (GF_wsX120 _) (by decide) rfl (List.mem_cons_of_mem _ gw_7_10) rfl dX12_onTop_164 e7 (fun v10 e8 => ?_)
  refine lv_iload_n hx hb dX12_onTop_167 rfl (lv_at hl 1 rfl) ?_
  refine lv_iload_n hx hb dX12_onTop_168 rfl (lv_at hl 2 rfl) ?_
  refine w_uI (r := v10) C w dX12_onTop_169 e8 (fun h11 H locs w hsh11 e9 => ?_)
  have hsl := hsh11.2.2.2.trans hsl
  refine lv_iload_n hx hb dX12_onTop_170 rfl (lv_at hl 2 rfl) ?_
  refine W.widen (k := h_x g - n0) (n := h_s g - s0) hcc.1 hcc.2 ?_
  exact w_iret C w e9 dX12_onTop_171
set_option maxRecDepth 20000 in
set_option maxHeartbeats 4000000 in
theorem b_M_onTop_144 {p : Program} {l : Launch} {e : Env} {s : State} {m : MethodId} {args : Array Value} {below : List Frame} {meth : Method} {c : Code} {D : va_G} {cy : cyT} {z : Nat} (C : MX p s m args meth c cX12_onTop 3 ((some .int)) RX12 (Cond.code yX12_onTop cX12_onTop 3 ((some .int)) :: GW)) (N : Nat) (n0 s0 : Nat) (hn0 : s.heap.size = n0) {r : Int32} {g : hS}  : ∀  (cells slots : Nat) (h : hS) (th : Nat) (x1 : Int32) (x2 : Int32) (y0 : Option Nat) (y1 : Int32) (y2 : Option Nat) (H : Heap) (locs : List Loc) (ls : Array Slot), wd D cy z s cells h H locs → h_s h = s0 + slots → lv_has ls 3 [(0, .ref th), (1, .int x1), (2, .int x2)] → f_M_onTop_144 N   h th x1 x2 y0 y1 y2 = some (r, g) → W p l e { frames := 7, cells := h_x g - n0, slots := h_s g - s0, locals := 193 } s m args below meth c H locs cells slots (MQ below (eQ D cy z (rI r) g) args s (h_x g - n0) (h_s g - s0) (fun q => z ≤ q)) (F0 m 144 ls [va_rf y2, .int y1, va_rf y0]) := by
  obtain ⟨hx, hb, hr, hml, hown, hts, hlk⟩ := id C
  intro cells slots h th x1 x2 y0 y1 y2 H locs ls w hsl hl hE
  have hcc : cells ≤ h_x g - n0 ∧ slots ≤ h_s g - s0 := by
    have q1 := mo_M_onTop_144 N  h th x1 x2 y0 y1 y2 _ _ hE
    have q2 := wd_x w
    have q3 := q1.1
    have q4 := q1.2.1
    omega
  unfold f_M_onTop_144 at hE
  refine w_uA (r := y0) (v := y2) C w dX12_onTop_144 hE (fun h1 H locs w hsh1 e1 => ?_)
  have hsl := hsh1.2.2.2.trans hsl
  exact b_M_onTop_145 C N n0 s0 hn0   _ _ h1 th x1 x2 _ _ ls w hsl (lv_sub hl [0, 1, 2] rfl) e1
set_option maxRecDepth 20000 in
set_option maxHeartbeats 4000000 in
theorem b_M_onTop_110 {p : Program} {l : Launch} {e : Env} {s : State} {m : MethodId} {args : Array Value} {below : List Frame} {meth : Method} {c : Code} {D : va_G} {cy : cyT} {z : Nat} (C : MX p s m args meth c cX12_onTop 3 ((some .int)) RX12 (Cond.code yX12_onTop cX12_onTop 3 ((some .int)) :: GW)) (N : Nat) (n0 s0 : Nat) (hn0 : s.heap.size = n0) {r : Int32} {g : hS}  : ∀ (n : Nat) (cells slots : Nat) (h : hS) (th : Nat) (x1 : Int32) (x2 : Int32) (H : Heap) (locs : List Loc) (ls : Array Slot), wd D cy z s cells h H locs → h_s h = s0 + slots → lv_has ls 3 [(0, .ref th), (1, .int x1), (2, .int x2)] → f_M_onTop_110 N  n h th x1 x2 = some (r, g) → W p l e { frames := 7, cells := h_x g - n0, slots := h_s g - s0, locals := 193 } s m args below meth c H locs cells slots (MQ below (eQ D cy z (rI r) g) args s (h_x g - n0) (h_s g - s0) (fun q => z ≤ q)) (F0 m 110 ls []) := by
  obtain ⟨hx, hb, hr, hml, hown, hts, hlk⟩ := id C
  intro n
  induction n with
  | zero =>
    intro cells slots h th x1 x2 H locs ls w hsl hl hE
    cases hE
  | succ n ih =>
    intro cells slots h th x1 x2 H locs ls w hsl hl hE
    have hcc : cells ≤ h_x g - n0 ∧ slots ≤ h_s g - s0 := by
      have q1 := mo_M_onTop_110 N  (n + 1) h th x1 x2 _ _ hE
      have q2 := wd_x w
      have q3 := q1.1
      have q4 := q1.2.1
      omega
    unfold f_M_onTop_110 at hE
    refine lv_aload_n hx hb dX12_onTop_110 rfl (lv_at hl 0 rfl) ?_
    refine w_gR (r := some th) (ci := 0) (k := 8) C w rfl (by decide) (GF_wsX120 _) (by decide) rfl (List.mem_cons_of_mem _ gw_7_5) rfl dX12_onTop_111 hE (fun v1 e1 => ?_)
    refine lv_iload_n hx hb dX12_onTop_114 rfl (lv_at hl 2 rfl) ?_
    refine w_aZ (r := v1) C w dX12_onTop_115 e1 (fun v2 e2 => ?_)
    refine w_if_eq (tgt := 125) C dX12_onTop_116 (by decide) e2 (fun hc e3 => ?_) (fun hc e3 => ?_)
    · refine lv_aload_n hx hb dX12_onTop_125 rfl (lv_at hl 0 rfl) ?_
      refine w_gR (r := some th) (ci := 0) (k := 7) C w rfl (by decide) (GF_wsX120 _) (by decide) rfl (List.mem_cons_of_mem _ gw_7_3) rfl dX12_onTop_126 e3 (fun v3 e4 => ?_)
      refine lv_iload_n hx hb dX12_onTop_129 rfl (lv_at hl 2 rfl) ?_
      refine w_aR60 (r := v3) C w dX12_onTop_130 e4 (fun v4 e5 => ?_)
      refine w_nonnull (r := v4) (tgt := 145) C dX12_onTop_131 (by decide) e5 (fun hc e6 => ?_) (fun hc e6 => ?_)
      · exact b_M_onTop_145 C N n0 s0 hn0   _ _ h th x1 x2 _ _ ls w hsl (lv_sub hl [0, 1, 2] rfl) e6
      · refine lv_aload_n hx hb dX12_onTop_134 rfl (lv_at hl 0 rfl) ?_
        refine w_gR (r := some th) (ci := 0) (k := 7) C w rfl (by decide) (GF_wsX120 _) (by decide) rfl (List.mem_cons_of_mem _ gw_7_3) rfl dX12_onTop_135 e6 (fun v5 e7 => ?_)
        refine lv_iload_n hx hb dX12_onTop_138 rfl (lv_at hl 2 rfl) ?_
        refine lv_sipush (v := 10003) hx hb dX12_onTop_139 (by decide) ?_
        have hm := mo_M_onTop_144 N   (nw h 50 (10003 : Int32).toNatClampNeg (10003 : Int32).toNatClampNeg) th x1 x2 v5 x2 (some (h_x h)) _ _ (nwA_some e7).2
        have hm1 := hm.1
        have hm2 := hm.2.1
        rw [h_x_nw] at hm1
        rw [h_s_nw] at hm2
        have hwx := wd_x w
        refine w_nwI C w (List.mem_cons_of_mem _ gw_2_16) dX12_onTop_142 e7 (by show cells + 1 ≤ h_x g - n0; omega) (by show slots + _ ≤ h_s g - s0; omega) (fun H w e8 => ?_)
        exact b_M_onTop_144 C N n0 s0 hn0   (cells + 1) (slots + (10003 : Int32).toNatClampNeg) (nw h 50 (10003 : Int32).toNatClampNeg (10003 : Int32).toNatClampNeg) th x1 x2 v5 x2 (some (h_x h)) _ _ ls w (by rw [h_s_nw, hsl]; omega) (lv_sub hl [0, 1, 2] rfl) e8
    · obtain ⟨v8, ev8, e9⟩ := bn_some e3
      refine lv_iinc (v := v8) (lv' := [(2, .int v8), (0, .ref th), (1, .int x1)]) hx hb dX12_onTop_119 hl (k := 2) rfl (by rw [ev8]; rfl) (by decide) rfl (fun ls hl => ?_)
      refine lv_goto (tgt := 110) hx hb dX12_onTop_122 (by decide) ?_
      exact ih _ _ h th x1 v8 _ _ ls w hsl (lv_sub hl [1, 2, 0] rfl) e9
set_option maxRecDepth 20000 in
set_option maxHeartbeats 4000000 in
theorem b_M_onTop_102 {p : Program} {l : Launch} {e : Env} {s : State} {m : MethodId} {args : Array Value} {below : List Frame} {meth : Method} {c : Code} {D : va_G} {cy : cyT} {z : Nat} (C : MX p s m args meth c cX12_onTop 3 ((some .int)) RX12 (Cond.code yX12_onTop cX12_onTop 3 ((some .int)) :: GW)) (N : Nat) (n0 s0 : Nat) (hn0 : s.heap.size = n0) {r : Int32} {g : hS} {rc75 : hS → Nat → Int32 → Int32 → Option (Int32 × hS)} (hsh75 : ∀ (h : hS) (th : Nat) (x1 : Int32) (x2 : Int32), Mo h (rc75 h th x1 x2)) (hrc75 : ∀ (cells slots : Nat) (h : hS) (th : Nat) (x1 : Int32) (x2 : Int32) (H : Heap) (locs : List Loc) (ls : Array Slot), wd D cy z s cells h H locs → h_s h = s0 + slots → lv_has ls 3 [(0, .ref th), (1, .int x1), (2, .int x2)] → rc75 h th x1 x2 = some (r, g) → W p l e { frames := 7, cells := h_x g - n0, slots := h_s g - s0, locals := 193 } s m args below meth c H locs cells slots (MQ below (eQ D cy z (rI r) g) args s (h_x g - n0) (h_s g - s0) (fun q => z ≤ q)) (F0 m 75 ls [])) : ∀  (cells slots : Nat) (h : hS) (th : Nat) (x1 : Int32) (x2 : Int32) (H : Heap) (locs : List Loc) (ls : Array Slot), wd D cy z s cells h H locs → h_s h = s0 + slots → lv_has ls 3 [(0, .ref th), (1, .int x1), (2, .int x2)] → f_M_onTop_102 N rc75  h th x1 x2 = some (r, g) → W p l e { frames := 7, cells := h_x g - n0, slots := h_s g - s0, locals := 193 } s m args below meth c H locs cells slots (MQ below (eQ D cy z (rI r) g) args s (h_x g - n0) (h_s g - s0) (fun q => z ≤ q)) (F0 m 102 ls []) := by
  obtain ⟨hx, hb, hr, hml, hown, hts, hlk⟩ := id C
  intro cells slots h th x1 x2 H locs ls w hsl hl hE
  have hcc : cells ≤ h_x g - n0 ∧ slots ≤ h_s g - s0 := by
    have q1 := mo_M_onTop_102 N hsh75 h th x1 x2 _ _ hE
    have q2 := wd_x w
    have q3 := q1.1
    have q4 := q1.2.1
    omega
  unfold f_M_onTop_102 at hE
  obtain ⟨v1, ev1, e1⟩ := bn_some hE
  refine lv_iinc (v := v1) (lv' := [(2, .int v1), (0, .ref th), (1, .int x1)]) hx hb dX12_onTop_102 hl (k := 2) rfl (by rw [ev1]; rfl) (by decide) rfl (fun ls hl => ?_)
  refine lv_goto (tgt := 75) hx hb dX12_onTop_105 (by decide) ?_
  exact hrc75 _ _ h th x1 v1 _ _ ls w hsl (lv_sub hl [1, 2, 0] rfl) e1
set_option maxRecDepth 20000 in
set_option maxHeartbeats 4000000 in
theorem b_M_onTop_75 {p : Program} {l : Launch} {e : Env} {s : State} {m : MethodId} {args : Array Value} {below : List Frame} {meth : Method} {c : Code} {D : va_G} {cy : cyT} {z : Nat} (C : MX p s m args meth c cX12_onTop 3 ((some .int)) RX12 (Cond.code yX12_onTop cX12_onTop 3 ((some .int)) :: GW)) (N : Nat) (n0 s0 : Nat) (hn0 : s.heap.size = n0) {r : Int32} {g : hS}  : ∀ (n : Nat) (cells slots : Nat) (h : hS) (th : Nat) (x1 : Int32) (x2 : Int32) (H : Heap) (locs : List Loc) (ls : Array Slot), wd D cy z s cells h H locs → h_s h = s0 + slots → lv_has ls 3 [(0, .ref th), (1, .int x1), (2, .int x2)] → f_M_onTop_75 N  n h th x1 x2 = some (r, g) → W p l e { frames := 7, cells := h_x g - n0, slots := h_s g - s0, locals := 193 } s m args below meth c H locs cells slots (MQ below (eQ D cy z (rI r) g) args s (h_x g - n0) (h_s g - s0) (fun q => z ≤ q)) (F0 m 75 ls []) := by
  obtain ⟨hx, hb, hr, hml, hown, hts, hlk⟩ := id C
  intro n
  induction n with
  | zero =>
    intro cells slots h th x1 x2 H locs ls w hsl hl hE
    cases hE
  | succ n ih =>
    intro cells slots h th x1 x2 H locs ls w hsl hl hE
    have hcc : cells ≤ h_x g - n0 ∧ slots ≤ h_s g - s0 := by
      have q1 := mo_M_onTop_75 N  (n + 1) h th x1 x2 _ _ hE
      have q2 := wd_x w
      have q3 := q1.1
      have q4 := q1.2.1
      omega
    unfold f_M_onTop_75 at hE
    refine lv_iload_n hx hb dX12_onTop_75 rfl (lv_at hl 2 rfl) ?_
    refine lv_iconst (v := 4) hx hb dX12_onTop_76 (by decide) ?_
    refine w_icmp_ge (tgt := 108) C dX12_onTop_77 (by decide) hE (fun hc e1 => ?_) (fun hc e1 => ?_)
    · refine lv_iconst (v := 0) hx hb dX12_onTop_108 (by decide) ?_
      refine lv_istore_n (lv' := [(2, .int (0 : Int32)), (0, .ref th), (1, .int x1)]) hx hb dX12_onTop_109 rfl hl (by decide) rfl (fun ls hl => ?_)
      exact b_M_onTop_110 C N n0 s0 hn0  N _ _ h th x1 (0 : Int32) _ _ ls w hsl (lv_sub hl [1, 2, 0] rfl) e1
    · refine lv_aload_n hx hb dX12_onTop_80 rfl (lv_at hl 0 rfl) ?_
      refine w_gR (r := some th) (ci := 0) (k := 16) C w rfl (by decide) (GF_wsX120 _) (by decide) rfl (List.mem_cons_of_mem _ gw_7_10) rfl dX12_onTop_81 e1 (fun v1 e2 => ?_)
      refine lv_iload_n hx hb dX12_onTop_84 rfl (lv_at hl 2 rfl) ?_
      refine w_aI (r := v1) C w dX12_onTop_85 e2 (fun v2 e3 => ?_)
      refine lv_iconst (v := -1) hx hb dX12_onTop_86 (by decide) ?_
      refine w_icmp_eq (tgt := 102) C dX12_onTop_87 (by decide) e3 (fun hc e4 => ?_) (fun hc e4 => ?_)
      · exact b_M_onTop_102 C N n0 s0 hn0 (mo_M_onTop_75 N  n) ih  _ _ h th x1 x2 _ _ ls w hsl (lv_sub hl [0, 1, 2] rfl) e4
      · refine lv_aload_n hx hb dX12_onTop_90 rfl (lv_at hl 0 rfl) ?_
        refine w_gR (r := some th) (ci := 0) (k := 8) C w rfl (by decide) (GF_wsX120 _) (by decide) rfl (List.mem_cons_of_mem _ gw_7_5) rfl dX12_onTop_91 e4 (fun v3 e5 => ?_)
        refine lv_aload_n hx hb dX12_onTop_94 rfl (lv_at hl 0 rfl) ?_
        refine w_gR (r := some th) (ci := 0) (k := 16) C w rfl (by decide) (GF_wsX120 _) (by decide) rfl (List.mem_cons_of_mem _ gw_7_10) rfl dX12_onTop_95 e5 (fun v4 e6 => ?_)
        refine lv_iload_n hx hb dX12_onTop_98 rfl (lv_at hl 2 rfl) ?_
        refine w_aI (r := v4) C w dX12_onTop_99 e6 (fun v5 e7 => ?_)
        refine lv_iconst (v := 1) hx hb dX12_onTop_100 (by decide) ?_
        refine w_uZ (r := v3) C w dX12_onTop_101 e7 (fun h6 H locs w hsh6 e8 => ?_)
        have hsl := hsh6.2.2.2.trans hsl
        exact b_M_onTop_102 C N n0 s0 hn0 (mo_M_onTop_75 N  n) ih  _ _ h6 th x1 x2 _ _ ls w hsl (lv_sub hl [0, 1, 2] rfl) e8
set_option maxRecDepth 20000 in
set_option maxHeartbeats 4000000 in
theorem b_M_onTop_19 {p : Program} {l : Launch} {e : Env} {s : State} {m : MethodId} {args : Array Value} {below : List Frame} {meth : Method} {c : Code} {D : va_G} {cy : cyT} {z : Nat} (C : MX p s m args meth c cX12_onTop 3 ((some .int)) RX12 (Cond.code yX12_onTop cX12_onTop 3 ((some .int)) :: GW)) (N : Nat) (n0 s0 : Nat) (hn0 : s.heap.size = n0) {r : Int32} {g : hS}  : ∀ (n : Nat) (cells slots : Nat) (h : hS) (th : Nat) (x1 : Int32) (x2 : Int32) (H : Heap) (locs : List Loc) (ls : Array Slot), wd D cy z s cells h H locs → h_s h = s0 + slots → lv_has ls 3 [(0, .ref th), (1, .int x1), (2, .int x2)] → f_M_onTop_19 N  n h th x1 x2 = some (r, g) → W p l e { frames := 7, cells := h_x g - n0, slots := h_s g - s0, locals := 193 } s m args below meth c H locs cells slots (MQ below (eQ D cy z (rI r) g) args s (h_x g - n0) (h_s g - s0) (fun q => z ≤ q)) (F0 m 19 ls []) := by
  obtain ⟨hx, hb, hr, hml, hown, hts, hlk⟩ := id C
  intro n
  induction n with
  | zero =>
    intro cells slots h th x1 x2 H locs ls w hsl hl hE
    cases hE
  | succ n ih =>
    intro cells slots h th x1 x2 H locs ls w hsl hl hE
    have hcc : cells ≤ h_x g - n0 ∧ slots ≤ h_s g - s0 := by
      have q1 := mo_M_onTop_19 N  (n + 1) h th x1 x2 _ _ hE
      have q2 := wd_x w
      have q3 := q1.1
      have q4 := q1.2.1
      omega
    unfold f_M_onTop_19 at hE
    refine lv_iload_n hx hb dX12_onTop_19 rfl (lv_at hl 2 rfl) ?_
    refine lv_aload_n hx hb dX12_onTop_20 rfl (lv_at hl 0 rfl) ?_
    refine w_gR (r := some th) (ci := 0) (k := 8) C w rfl (by decide) (GF_wsX120 _) (by decide) rfl (List.mem_cons_of_mem _ gw_7_5) rfl dX12_onTop_21 hE (fun v1 e1 => ?_)
    refine w_lenZ (r := v1) C w dX12_onTop_24 e1 (fun v2 e2 => ?_)
    refine w_icmp_ge (tgt := 41) C dX12_onTop_25 (by decide) e2 (fun hc e3 => ?_) (fun hc e3 => ?_)
    · refine lv_aload_n hx hb dX12_onTop_41 rfl (lv_at hl 0 rfl) ?_
      refine lv_aload_n hx hb dX12_onTop_42 rfl (lv_at hl 0 rfl) ?_
      refine w_gR (r := some th) (ci := 0) (k := 2) C w rfl (by decide) (GF_wsX120 _) (by decide) rfl (List.mem_cons_of_mem _ gw_6_21) rfl dX12_onTop_43 e3 (fun v3 e4 => ?_)
      obtain ⟨q4, eq4, e5⟩ := nn_some e4
      subst eq4
      refine w_VV GW_good (n := 1) (F := 0) (Lc := 0) (o := some th) (av := [.ref q4]) (rest := []) C w rfl (by decide) (fun a r g hf => k_M_names l D cy z N h a q4 r g hf) gw_28_5 gw_28_6 gw_28_7 gw_1_5 gw_28_8 (by decide +kernel) ⟨Nat.le_of_ble_eq_true rfl, Nat.le_of_ble_eq_true rfl⟩ rfl hl.1 rfl (Nat.le_of_ble_eq_true rfl) dX12_onTop_46 (fun a => (sh_M_names N h a q4)) ⟨hcc.1, hcc.2⟩ e5 (fun v5 h6 H locs w hsh6 e6 => ?_)
      have hsl := hsh6.2.2.2.trans hsl
      refine lv_aload_n hx hb dX12_onTop_49 rfl (lv_at hl 0 rfl) ?_
      refine lv_aload_n hx hb dX12_onTop_50 rfl (lv_at hl 0 rfl) ?_
      refine w_gR (r := some th) (ci := 0) (k := 42) C w rfl (by decide) (GF_wsX120 _) (by decide) rfl (List.mem_cons_of_mem _ gw_7_20) rfl dX12_onTop_51 e6 (fun v7 e7 => ?_)
      obtain ⟨q8, eq8, e8⟩ := nn_some e7
      subst eq8
      refine w_VV GW_good (n := 1) (F := 0) (Lc := 0) (o := some th) (av := [.ref q8]) (rest := []) C w rfl (by decide) (fun a r g hf => k_M_names l D cy z N h6 a q8 r g hf) gw_28_5 gw_28_6 gw_28_7 gw_1_5 gw_28_8 (by decide +kernel) ⟨Nat.le_of_ble_eq_true rfl, Nat.le_of_ble_eq_true rfl⟩ rfl hl.1 rfl (Nat.le_of_ble_eq_true rfl) dX12_onTop_54 (fun a => (sh_M_names N h6 a q8)) ⟨hcc.1, hcc.2⟩ e8 (fun v9 h10 H locs w hsh10 e9 => ?_)
      have hsl := hsh10.2.2.2.trans hsl
      refine lv_aload_n hx hb dX12_onTop_57 rfl (lv_at hl 0 rfl) ?_
      refine lv_aload_n hx hb dX12_onTop_58 rfl (lv_at hl 0 rfl) ?_
      refine w_gR (r := some th) (ci := 0) (k := 52) C w rfl (by decide) (GF_wsX120 _) (by decide) rfl (List.mem_cons_of_mem _ gw_8_1) rfl dX12_onTop_59 e9 (fun v11 e10 => ?_)
      obtain ⟨q12, eq12, e11⟩ := nn_some e10
      subst eq12
      refine w_VV GW_good (n := 1) (F := 0) (Lc := 0) (o := some th) (av := [.ref q12]) (rest := []) C w rfl (by decide) (fun a r g hf => k_M_names l D cy z N h10 a q12 r g hf) gw_28_5 gw_28_6 gw_28_7 gw_1_5 gw_28_8 (by decide +kernel) ⟨Nat.le_of_ble_eq_true rfl, Nat.le_of_ble_eq_true rfl⟩ rfl hl.1 rfl (Nat.le_of_ble_eq_true rfl) dX12_onTop_62 (fun a => (sh_M_names N h10 a q12)) ⟨hcc.1, hcc.2⟩ e11 (fun v13 h14 H locs w hsh14 e12 => ?_)
      have hsl := hsh14.2.2.2.trans hsl
      refine lv_aload_n hx hb dX12_onTop_65 rfl (lv_at hl 0 rfl) ?_
      refine lv_aload_n hx hb dX12_onTop_66 rfl (lv_at hl 0 rfl) ?_
      refine w_gR (r := some th) (ci := 0) (k := 53) C w rfl (by decide) (GF_wsX120 _) (by decide) rfl (List.mem_cons_of_mem _ gw_8_2) rfl dX12_onTop_67 e12 (fun v15 e13 => ?_)
      obtain ⟨q16, eq16, e14⟩ := nn_some e13
      subst eq16
      refine w_VV GW_good (n := 1) (F := 0) (Lc := 0) (o := some th) (av := [.ref q16]) (rest := []) C w rfl (by decide) (fun a r g hf => k_M_names l D cy z N h14 a q16 r g hf) gw_28_5 gw_28_6 gw_28_7 gw_1_5 gw_28_8 (by decide +kernel) ⟨Nat.le_of_ble_eq_true rfl, Nat.le_of_ble_eq_true rfl⟩ rfl hl.1 rfl (Nat.le_of_ble_eq_true rfl) dX12_onTop_70 (fun a => (sh_M_names N h14 a q16)) ⟨hcc.1, hcc.2⟩ e14 (fun v17 h18 H locs w hsh18 e15 => ?_)
      have hsl := hsh18.2.2.2.trans hsl
      refine lv_iconst (v := 0) hx hb dX12_onTop_73 (by decide) ?_
      refine lv_istore_n (lv' := [(2, .int (0 : Int32)), (0, .ref th), (1, .int x1)]) hx hb dX12_onTop_74 rfl hl (by decide) rfl (fun ls hl => ?_)
      exact b_M_onTop_75 C N n0 s0 hn0  N _ _ h18 th x1 (0 : Int32) _ _ ls w hsl (lv_sub hl [1, 2, 0] rfl) e15
    · refine lv_aload_n hx hb dX12_onTop_28 rfl (lv_at hl 0 rfl) ?_
      refine w_gR (r := some th) (ci := 0) (k := 8) C w rfl (by decide) (GF_wsX120 _) (by decide) rfl (List.mem_cons_of_mem _ gw_7_5) rfl dX12_onTop_29 e3 (fun v19 e16 => ?_)
      refine lv_iload_n hx hb dX12_onTop_32 rfl (lv_at hl 2 rfl) ?_
      refine lv_iconst (v := 0) hx hb dX12_onTop_33 (by decide) ?_
      refine w_uZ (r := v19) C w dX12_onTop_34 e16 (fun h20 H locs w hsh20 e17 => ?_)
      have hsl := hsh20.2.2.2.trans hsl
      obtain ⟨v21, ev21, e18⟩ := bn_some e17
      refine lv_iinc (v := v21) (lv' := [(2, .int v21), (0, .ref th), (1, .int x1)]) hx hb dX12_onTop_35 hl (k := 2) rfl (by rw [ev21]; rfl) (by decide) rfl (fun ls hl => ?_)
      refine lv_goto (tgt := 19) hx hb dX12_onTop_38 (by decide) ?_
      exact ih _ _ h20 th x1 v21 _ _ ls w hsl (lv_sub hl [1, 2, 0] rfl) e18
set_option maxRecDepth 20000 in
set_option maxHeartbeats 4000000 in
theorem k_M_onTop (l : Launch) (D : va_G) (cy : cyT) (z : Nat) (N : Nat) (h : hS) (th : Nat) (x1 : Int32) (r : Int32) (g : hS) (hE : f_M_onTop N h th x1 = some (r, g)) : ct l yX12_onTop (Cond.code yX12_onTop cX12_onTop 3 ((some .int)) :: GW) { frames := 7, cells := h_x g - h_x h, slots := h_s g - h_s h, locals := 193 } D cy z h [.ref th, .int x1] (rI r) g := by
  refine Met.ofW (cc := cX12_onTop) (maxL := 3) (ret := (some .int)) (by decide) rfl ?_
  intro p e s m args below meth c s₁ B hml hv
  obtain ⟨rfl, hw⟩ := hv
  have C : MX p s m ([.ref th, .int x1] : List Value).toArray meth c cX12_onTop 3 ((some .int)) RX12 (Cond.code yX12_onTop cX12_onTop 3 ((some .int)) :: GW) := ⟨B.exec, B.bytes, B.returns, hml, findClass_of_methodNamed B.named, atoms_spec (ws := Cond.code yX12_onTop cX12_onTop 3 ((some .int)) :: GW) B.pre, B.notSynchronized⟩
  obtain ⟨hx, hb, hr, hml, hown, hts, hlk⟩ := id C
  have w := wd_of hw
  have hsl : h_s h = h_s h + 0 := rfl
  have hn0 : s.heap.size = h_x h := (wd_x w).1
  obtain ⟨ls, hen, hl⟩ : ∃ ls : Array Slot, entryFrame m ([.ref th, .int x1] : List Value).toArray 3 = F0 m 0 ls [] ∧ lv_has ls 3 [(0, .ref th), (1, .int x1)] := by
    exact ⟨_, lg_entry_eq _ _ _, lv_entry _ (Nat.le_of_ble_eq_true rfl)⟩
  rw [hen]
  have hcc : 0 ≤ h_x g - h_x h ∧ 0 ≤ h_s g - h_s h := ⟨Nat.zero_le _, Nat.zero_le _⟩
  unfold f_M_onTop at hE
  refine lv_aload_n hx hb dX12_onTop_0 rfl (lv_at hl 0 rfl) ?_
  refine w_gR (r := some th) (ci := 0) (k := 16) C w rfl (by decide) (GF_wsX120 _) (by decide) rfl (List.mem_cons_of_mem _ gw_7_10) rfl dX12_onTop_1 hE (fun v1 e1 => ?_)
  refine lv_iload_n hx hb dX12_onTop_4 rfl (lv_at hl 1 rfl) ?_
  refine w_aI (r := v1) C w dX12_onTop_5 e1 (fun v2 e2 => ?_)
  refine lv_iconst (v := -1) hx hb dX12_onTop_6 (by decide) ?_
  refine w_icmp_eq (tgt := 17) C dX12_onTop_7 (by decide) e2 (fun hc e3 => ?_) (fun hc e3 => ?_)
  · refine lv_iconst (v := 0) hx hb dX12_onTop_17 (by decide) ?_
    refine lv_istore_n (lv' := [(2, .int (0 : Int32)), (0, .ref th), (1, .int x1)]) hx hb dX12_onTop_18 rfl hl (by decide) rfl (fun ls hl => ?_)
    exact b_M_onTop_19 C N (h_x h) (h_s h) hn0  N _ _ h th x1 (0 : Int32) _ _ ls w hsl (lv_sub hl [1, 2, 0] rfl) e3
  · refine lv_aload_n hx hb dX12_onTop_10 rfl (lv_at hl 0 rfl) ?_
    refine w_gR (r := some th) (ci := 0) (k := 16) C w rfl (by decide) (GF_wsX120 _) (by decide) rfl (List.mem_cons_of_mem _ gw_7_10) rfl dX12_onTop_11 e3 (fun v3 e4 => ?_)
    refine lv_iload_n hx hb dX12_onTop_14 rfl (lv_at hl 1 rfl) ?_
    refine w_aI (r := v3) C w dX12_onTop_15 e4 (fun v4 e5 => ?_)
    refine W.widen (k := h_x g - (h_x h)) (n := h_s g - (h_s h)) hcc.1 hcc.2 ?_
    exact w_iret C w e5 dX12_onTop_16
set_option maxRecDepth 20000 in
set_option maxHeartbeats 4000000 in
theorem b_M_laysOnTop_43 {p : Program} {l : Launch} {e : Env} {s : State} {m : MethodId} {args : Array Value} {below : List Frame} {meth : Method} {c : Code} {D : va_G} {cy : cyT} {z : Nat} (C : MX p s m args meth c cX12_laysOnTop 3 (none) RX12 (Cond.code yX12_laysOnTop cX12_laysOnTop 3 (none) :: GW)) (N : Nat) (n0 s0 : Nat) (hn0 : s.heap.size = n0) {r : Unit} {g : hS} {rc6 : hS → Nat → Nat → Int32 → Option (Unit × hS)} (hsh6 : ∀ (h : hS) (th : Nat) (a1 : Nat) (x2 : Int32), Mo h (rc6 h th a1 x2)) (hrc6 : ∀ (cells slots : Nat) (h : hS) (th : Nat) (a1 : Nat) (x2 : Int32) (H : Heap) (locs : List Loc) (ls : Array Slot), wd D cy z s cells h H locs → h_s h = s0 + slots → lv_has ls 3 [(0, .ref th), (1, .ref a1), (2, .int x2)] → rc6 h th a1 x2 = some (r, g) → W p l e { frames := 8, cells := h_x g - n0, slots := h_s g - s0, locals := 215 } s m args below meth c H locs cells slots (MQ below (eQ D cy z (rV r) g) args s (h_x g - n0) (h_s g - s0) (fun q => z ≤ q)) (F0 m 6 ls [])) : ∀  (cells slots : Nat) (h : hS) (th : Nat) (a1 : Nat) (x2 : Int32) (H : Heap) (locs : List Loc) (ls : Array Slot), wd D cy z s cells h H locs → h_s h = s0 + slots → lv_has ls 3 [(0, .ref th), (1, .ref a1), (2, .int x2)] → f_M_laysOnTop_43 N rc6  h th a1 x2 = some (r, g) → W p l e { frames := 8, cells := h_x g - n0, slots := h_s g - s0, locals := 215 } s m args below meth c H locs cells slots (MQ below (eQ D cy z (rV r) g) args s (h_x g - n0) (h_s g - s0) (fun q => z ≤ q)) (F0 m 43 ls []) := by
  obtain ⟨hx, hb, hr, hml, hown, hts, hlk⟩ := id C
  intro cells slots h th a1 x2 H locs ls w hsl hl hE
  have hcc : cells ≤ h_x g - n0 ∧ slots ≤ h_s g - s0 := by
    have q1 := mo_M_laysOnTop_43 N hsh6 h th a1 x2 _ _ hE
    have q2 := wd_x w
    have q3 := q1.1
    have q4 := q1.2.1
    omega
  unfold f_M_laysOnTop_43 at hE
  obtain ⟨v1, ev1, e1⟩ := bn_some hE
  refine lv_iinc (v := v1) (lv' := [(2, .int v1), (0, .ref th), (1, .ref a1)]) hx hb dX12_laysOnTop_43 hl (k := 2) rfl (by rw [ev1]; rfl) (by decide) rfl (fun ls hl => ?_)
  refine lv_goto (tgt := 6) hx hb dX12_laysOnTop_46 (by decide) ?_
  exact hrc6 _ _ h th a1 v1 _ _ ls w hsl (lv_sub hl [1, 2, 0] rfl) e1
set_option maxRecDepth 20000 in
set_option maxHeartbeats 4000000 in
theorem b_M_laysOnTop_42 {p : Program} {l : Launch} {e : Env} {s : State} {m : MethodId} {args : Array Value} {below : List Frame} {meth : Method} {c : Code} {D : va_G} {cy : cyT} {z : Nat} (C : MX p s m args meth c cX12_laysOnTop 3 (none) RX12 (Cond.code yX12_laysOnTop cX12_laysOnTop 3 (none) :: GW)) (N : Nat) (n0 s0 : Nat) (hn0 : s.heap.size = n0) {r : Unit} {g : hS} {rc6 : hS → Nat → Nat → Int32 → Option (Unit × hS)} (hsh6 : ∀ (h : hS) (th : Nat) (a1 : Nat) (x2 : Int32), Mo h (rc6 h th a1 x2)) (hrc6 : ∀ (cells slots : Nat) (h : hS) (th : Nat) (a1 : Nat) (x2 : Int32) (H : Heap) (locs : List Loc) (ls : Array Slot), wd D cy z s cells h H locs → h_s h = s0 + slots → lv_has ls 3 [(0, .ref th), (1, .ref a1), (2, .int x2)] → rc6 h th a1 x2 = some (r, g) → W p l e { frames := 8, cells := h_x g - n0, slots := h_s g - s0, locals := 215 } s m args below meth c H locs cells slots (MQ below (eQ D cy z (rV r) g) args s (h_x g - n0) (h_s g - s0) (fun q => z ≤ q)) (F0 m 6 ls [])) : ∀  (cells slots : Nat) (h : hS) (th : Nat) (a1 : Nat) (x2 : Int32) (y0 : Option Nat) (y1 : Int32) (y2 : Int32) (H : Heap) (locs : List Loc) (ls : Array Slot), wd D cy z s cells h H locs → h_s h = s0 + slots → lv_has ls 3 [(0, .ref th), (1, .ref a1), (2, .int x2)] → f_M_laysOnTop_42 N rc6  h th a1 x2 y0 y1 y2 = some (r, g) → W p l e { frames := 8, cells := h_x g - n0, slots := h_s g - s0, locals := 215 } s m args below meth c H locs cells slots (MQ below (eQ D cy z (rV r) g) args s (h_x g - n0) (h_s g - s0) (fun q => z ≤ q)) (F0 m 42 ls [.int y2, .int y1, va_rf y0]) := by
  obtain ⟨hx, hb, hr, hml, hown, hts, hlk⟩ := id C
  intro cells slots h th a1 x2 y0 y1 y2 H locs ls w hsl hl hE
  have hcc : cells ≤ h_x g - n0 ∧ slots ≤ h_s g - s0 := by
    have q1 := mo_M_laysOnTop_42 N hsh6 h th a1 x2 y0 y1 y2 _ _ hE
    have q2 := wd_x w
    have q3 := q1.1
    have q4 := q1.2.1
    omega
  unfold f_M_laysOnTop_42 at hE
  refine w_uI (r := y0) C w dX12_laysOnTop_42 hE (fun h1 H locs w hsh1 e1 => ?_)
  have hsl := hsh1.2.2.2.trans hsl
  exact b_M_laysOnTop_43 C N n0 s0 hn0 hsh6 hrc6  _ _ h1 th a1 x2 _ _ ls w hsl (lv_sub hl [0, 1, 2] rfl) e1
set_option maxRecDepth 20000 in
set_option maxHeartbeats 4000000 in
theorem b_M_laysOnTop_6 {p : Program} {l : Launch} {e : Env} {s : State} {m : MethodId} {args : Array Value} {below : List Frame} {meth : Method} {c : Code} {D : va_G} {cy : cyT} {z : Nat} (C : MX p s m args meth c cX12_laysOnTop 3 (none) RX12 (Cond.code yX12_laysOnTop cX12_laysOnTop 3 (none) :: GW)) (N : Nat) (n0 s0 : Nat) (hn0 : s.heap.size = n0) {r : Unit} {g : hS}  : ∀ (n : Nat) (cells slots : Nat) (h : hS) (th : Nat) (a1 : Nat) (x2 : Int32) (H : Heap) (locs : List Loc) (ls : Array Slot), wd D cy z s cells h H locs → h_s h = s0 + slots → lv_has ls 3 [(0, .ref th), (1, .ref a1), (2, .int x2)] → f_M_laysOnTop_6 N  n h th a1 x2 = some (r, g) → W p l e { frames := 8, cells := h_x g - n0, slots := h_s g - s0, locals := 215 } s m args below meth c H locs cells slots (MQ below (eQ D cy z (rV r) g) args s (h_x g - n0) (h_s g - s0) (fun q => z ≤ q)) (F0 m 6 ls []) := by
  obtain ⟨hx, hb, hr, hml, hown, hts, hlk⟩ := id C
  intro n
  induction n with
  | zero =>
    intro cells slots h th a1 x2 H locs ls w hsl hl hE
    cases hE
  | succ n ih =>
    intro cells slots h th a1 x2 H locs ls w hsl hl hE
    have hcc : cells ≤ h_x g - n0 ∧ slots ≤ h_s g - s0 := by
      have q1 := mo_M_laysOnTop_6 N  (n + 1) h th a1 x2 _ _ hE
      have q2 := wd_x w
      have q3 := q1.1
      have q4 := q1.2.1
      omega
    unfold f_M_laysOnTop_6 at hE
    refine lv_iload_n hx hb dX12_laysOnTop_6 rfl (lv_at hl 2 rfl) ?_
    refine lv_aload_n hx hb dX12_laysOnTop_7 rfl (lv_at hl 1 rfl) ?_
    refine lv_iconst (v := 0) hx hb dX12_laysOnTop_8 (by decide) ?_
    refine w_aI (r := some a1) C w dX12_laysOnTop_9 hE (fun v1 e1 => ?_)
    refine w_icmp_ge (tgt := 49) C dX12_laysOnTop_10 (by decide) e1 (fun hc e2 => ?_) (fun hc e2 => ?_)
    · refine W.widen (k := h_x g - n0) (n := h_s g - s0) hcc.1 hcc.2 ?_
      exact w_vret C w e2 dX12_laysOnTop_49
    · refine lv_aload_n hx hb dX12_laysOnTop_13 rfl (lv_at hl 1 rfl) ?_
      refine lv_iconst (v := 1) hx hb dX12_laysOnTop_14 (by decide) ?_
      refine lv_iconst (v := 4) hx hb dX12_laysOnTop_15 (by decide) ?_
      refine lv_iload_n hx hb dX12_laysOnTop_16 rfl (lv_at hl 2 rfl) ?_
      refine lv_imul hx hb dX12_laysOnTop_17 ?_
      refine lv_iadd hx hb dX12_laysOnTop_18 ?_
      refine w_aI (r := some a1) C w dX12_laysOnTop_19 e2 (fun v2 e3 => ?_)
      refine lv_bipush (v := 8) hx hb dX12_laysOnTop_20 (by decide) ?_
      refine w_icmp_ne (tgt := 43) C dX12_laysOnTop_22 (by decide) e3 (fun hc e4 => ?_) (fun hc e4 => ?_)
      · exact b_M_laysOnTop_43 C N n0 s0 hn0 (mo_M_laysOnTop_6 N  n) ih  _ _ h th a1 x2 _ _ ls w hsl (lv_sub hl [0, 1, 2] rfl) e4
      · refine lv_aload_n hx hb dX12_laysOnTop_25 rfl (lv_at hl 1 rfl) ?_
        refine lv_iconst (v := 4) hx hb dX12_laysOnTop_26 (by decide) ?_
        refine lv_iconst (v := 4) hx hb dX12_laysOnTop_27 (by decide) ?_
        refine lv_iload_n hx hb dX12_laysOnTop_28 rfl (lv_at hl 2 rfl) ?_
        refine lv_imul hx hb dX12_laysOnTop_29 ?_
        refine lv_iadd hx hb dX12_laysOnTop_30 ?_
        refine lv_aload_n hx hb dX12_laysOnTop_31 rfl (lv_at hl 0 rfl) ?_
        refine lv_aload_n hx hb dX12_laysOnTop_32 rfl (lv_at hl 1 rfl) ?_
        refine lv_iconst (v := 2) hx hb dX12_laysOnTop_33 (by decide) ?_
        refine lv_iconst (v := 4) hx hb dX12_laysOnTop_34 (by decide) ?_
        refine lv_iload_n hx hb dX12_laysOnTop_35 rfl (lv_at hl 2 rfl) ?_
        refine lv_imul hx hb dX12_laysOnTop_36 ?_
        refine lv_iadd hx hb dX12_laysOnTop_37 ?_
        refine w_aI (r := some a1) C w dX12_laysOnTop_38 e4 (fun v3 e5 => ?_)
        refine w_VAI GW_good (n := 1) (F := 7) (Lc := 193) (o := some th) (av := [.int v3]) (rest := [.int ((4 : Int32) + ((4 : Int32) * x2)), .ref a1]) C w rfl (by decide) (fun a r g hf => k_M_onTop l D cy z N h a v3 r g hf) gw_28_1 gw_28_2 gw_28_3 gw_1_5 gw_28_4 (by decide +kernel) ⟨Nat.le_of_ble_eq_true rfl, Nat.le_of_ble_eq_true rfl⟩ rfl hl.1 rfl (Nat.le_of_ble_eq_true rfl) dX12_laysOnTop_39 (fun a => (mo_M_onTop N h a v3)) (fun a v4 h5 q1 q2 => by have u1 := (mo_M_onTop N h a v3) _ _ q1; have u2 := mo_M_laysOnTop_42 N (mo_M_laysOnTop_6 N  n)  h5 th a1 x2 (some a1) ((4 : Int32) + ((4 : Int32) * x2)) v4 _ _ q2; have u3 := wd_x w; have u4 := u1.1; have u5 := u1.2.1; have u6 := u2.1; have u7 := u2.2.1; show cells + _ ≤ h_x g - n0 ∧ slots + _ ≤ h_s g - s0; omega) e5 (fun v4 h5 H locs w hsh5 e6 => ?_)
        exact b_M_laysOnTop_42 C N n0 s0 hn0 (mo_M_laysOnTop_6 N  n) ih  _ _ h5 th a1 x2 (some a1) ((4 : Int32) + ((4 : Int32) * x2)) v4 _ _ ls w (by have u5 := hsh5.2.1; rw [hsl] at u5 ⊢; omega) (lv_sub hl [0, 1, 2] rfl) e6
set_option maxRecDepth 20000 in
set_option maxHeartbeats 4000000 in
theorem k_M_laysOnTop (l : Launch) (D : va_G) (cy : cyT) (z : Nat) (N : Nat) (h : hS) (th : Nat) (a1 : Nat) (r : Unit) (g : hS) (hE : f_M_laysOnTop N h th a1 = some (r, g)) : ct l yX12_laysOnTop (Cond.code yX12_laysOnTop cX12_laysOnTop 3 (none) :: GW) { frames := 8, cells := h_x g - h_x h, slots := h_s g - h_s h, locals := 215 } D cy z h [.ref th, .ref a1] (rV r) g := by
  refine Met.ofW (cc := cX12_laysOnTop) (maxL := 3) (ret := none) (by decide) rfl ?_
  intro p e s m args below meth c s₁ B hml hv
  obtain ⟨rfl, hw⟩ := hv
  have C : MX p s m ([.ref th, .ref a1] : List Value).toArray meth c cX12_laysOnTop 3 (none) RX12 (Cond.code yX12_laysOnTop cX12_laysOnTop 3 (none) :: GW) := ⟨B.exec, B.bytes, B.returns, hml, findClass_of_methodNamed B.named, atoms_spec (ws := Cond.code yX12_laysOnTop cX12_laysOnTop 3 (none) :: GW) B.pre, B.notSynchronized⟩
  obtain ⟨hx, hb, hr, hml, hown, hts, hlk⟩ := id C
  have w := wd_of hw
  have hsl : h_s h = h_s h + 0 := rfl
  have hn0 : s.heap.size = h_x h := (wd_x w).1
  obtain ⟨ls, hen, hl⟩ : ∃ ls : Array Slot, entryFrame m ([.ref th, .ref a1] : List Value).toArray 3 = F0 m 0 ls [] ∧ lv_has ls 3 [(0, .ref th), (1, .ref a1)] := by
    exact ⟨_, lg_entry_eq _ _ _, lv_entry _ (Nat.le_of_ble_eq_true rfl)⟩
  rw [hen]
  have hcc : 0 ≤ h_x g - h_x h ∧ 0 ≤ h_s g - h_s h := ⟨Nat.zero_le _, Nat.zero_le _⟩
  unfold f_M_laysOnTop at hE
  refine lv_aload_n hx hb dX12_laysOnTop_0 rfl (lv_at hl 0 rfl) ?_
  refine w_VV GW_good (n := 0) (F := 0) (Lc := 0) (o := some th) (av := []) (rest := []) C w rfl (by decide) (fun a r g hf => k_M_forgetLaid l D cy z N h a  r g hf) gw_27_21 gw_27_22 gw_27_23 gw_1_5 gw_28_0 (by decide +kernel) ⟨Nat.le_of_ble_eq_true rfl, Nat.le_of_ble_eq_true rfl⟩ rfl hl.1 rfl (Nat.le_of_ble_eq_true rfl) dX12_laysOnTop_1 (fun a => (sh_M_forgetLaid N h a )) ⟨hcc.1, hcc.2⟩ hE (fun v1 h2 H locs w hsh2 e1 => ?_)
  have hsl := hsh2.2.2.2.trans hsl
  refine lv_iconst (v := 0) hx hb dX12_laysOnTop_4 (by decide) ?_
  refine lv_istore_n (lv' := [(2, .int (0 : Int32)), (0, .ref th), (1, .ref a1)]) hx hb dX12_laysOnTop_5 rfl hl (by decide) rfl (fun ls hl => ?_)
  exact b_M_laysOnTop_6 C N (h_x h) (h_s h) hn0  N _ _ h2 th a1 (0 : Int32) _ _ ls w hsl (lv_sub hl [1, 2, 0] rfl) e1
set_option maxRecDepth 20000 in
set_option maxHeartbeats 4000000 in
theorem b_M_puts_50 {p : Program} {l : Launch} {e : Env} {s : State} {m : MethodId} {args : Array Value} {below : List Frame} {meth : Method} {c : Code} {D : va_G} {cy : cyT} {z : Nat} (C : MX p s m args meth c cX12_puts 8 ((some .int)) RX12 (Cond.code yX12_puts cX12_puts 8 ((some .int)) :: GW)) (N : Nat) (n0 s0 : Nat) (hn0 : s.heap.size = n0) {r : Int32} {g : hS}  : ∀  (cells slots : Nat) (h : hS) (th : Nat) (H : Heap) (locs : List Loc) (ls : Array Slot), wd D cy z s cells h H locs → h_s h = s0 + slots → lv_has ls 8 [(0, .ref th)] → f_M_puts_50 N   h th = some (r, g) → W p l e { frames := 8, cells := h_x g - n0, slots := h_s g - s0, locals := 215 } s m args below meth c H locs cells slots (MQ below (eQ D cy z (rI r) g) args s (h_x g - n0) (h_s g - s0) (fun q => z ≤ q)) (F0 m 50 ls []) := by
  obtain ⟨hx, hb, hr, hml, hown, hts, hlk⟩ := id C
  intro cells slots h th H locs ls w hsl hl hE
  have hcc : cells ≤ h_x g - n0 ∧ slots ≤ h_s g - s0 := by
    have q1 := mo_M_puts_50 N  h th _ _ hE
    have q2 := wd_x w
    have q3 := q1.1
    have q4 := q1.2.1
    omega
  unfold f_M_puts_50 at hE
  refine lv_aload_n hx hb dX12_puts_50 rfl (lv_at hl 0 rfl) ?_
  refine lv_iconst (v := 1) hx hb dX12_puts_51 (by decide) ?_
  refine w_VI GW_good (n := 1) (F := 0) (Lc := 0) (o := some th) (av := [.int (1 : Int32)]) (rest := []) C w rfl (by decide) (fun a r g hf => k_M_refuse l D cy z N h a (1 : Int32) r g hf) gw_57_23 gw_58_0 gw_58_1 gw_1_5 gw_58_2 (by decide +kernel) ⟨Nat.le_of_ble_eq_true rfl, Nat.le_of_ble_eq_true rfl⟩ rfl hl.1 rfl (Nat.le_of_ble_eq_true rfl) dX12_puts_52 (fun a => (sh_M_refuse N h a (1 : Int32))) ⟨hcc.1, hcc.2⟩ hE (fun v1 h2 H locs w hsh2 e1 => ?_)
  have hsl := hsh2.2.2.2.trans hsl
  refine W.widen (k := h_x g - n0) (n := h_s g - s0) hcc.1 hcc.2 ?_
  exact w_iret C w e1 dX12_puts_55
set_option maxRecDepth 20000 in
set_option maxHeartbeats 4000000 in
theorem b_M_puts_248 {p : Program} {l : Launch} {e : Env} {s : State} {m : MethodId} {args : Array Value} {below : List Frame} {meth : Method} {c : Code} {D : va_G} {cy : cyT} {z : Nat} (C : MX p s m args meth c cX12_puts 8 ((some .int)) RX12 (Cond.code yX12_puts cX12_puts 8 ((some .int)) :: GW)) (N : Nat) (n0 s0 : Nat) (hn0 : s.heap.size = n0) {r : Int32} {g : hS}  : ∀  (cells slots : Nat) (h : hS) (th : Nat) (x1 : Int32) (y0 : Option Nat) (y1 : Int32) (y2 : Int32) (H : Heap) (locs : List Loc) (ls : Array Slot), wd D cy z s cells h H locs → h_s h = s0 + slots → lv_has ls 8 [(0, .ref th), (1, .int x1)] → f_M_puts_248 N   h th x1 y0 y1 y2 = some (r, g) → W p l e { frames := 8, cells := h_x g - n0, slots := h_s g - s0, locals := 215 } s m args below meth c H locs cells slots (MQ below (eQ D cy z (rI r) g) args s (h_x g - n0) (h_s g - s0) (fun q => z ≤ q)) (F0 m 248 ls [.int y2, .int y1, va_rf y0]) := by
  obtain ⟨hx, hb, hr, hml, hown, hts, hlk⟩ := id C
  intro cells slots h th x1 y0 y1 y2 H locs ls w hsl hl hE
  have hcc : cells ≤ h_x g - n0 ∧ slots ≤ h_s g - s0 := by
    have q1 := mo_M_puts_248 N  h th x1 y0 y1 y2 _ _ hE
    have q2 := wd_x w
    have q3 := q1.1
    have q4 := q1.2.1
    omega
  unfold f_M_puts_248 at hE
  refine w_uI (r := y0) C w dX12_puts_248 hE (fun h1 H locs w hsh1 e1 => ?_)
  have hsl := hsh1.2.2.2.trans hsl
  refine lv_aload_n hx hb dX12_puts_249 rfl (lv_at hl 0 rfl) ?_
  refine lv_iload_n hx hb dX12_puts_250 rfl (lv_at hl 1 rfl) ?_
  refine w_VI GW_good (n := 1) (F := 6) (Lc := 171) (o := some th) (av := [.int x1]) (rest := []) C w rfl (by decide) (fun a r g hf => k_M_becomes l D cy z N h1 a x1 r g hf) gw_58_3 gw_58_4 gw_58_5 gw_1_5 gw_58_6 (by decide +kernel) ⟨Nat.le_of_ble_eq_true rfl, Nat.le_of_ble_eq_true rfl⟩ rfl hl.1 rfl (Nat.le_of_ble_eq_true rfl) dX12_puts_251 (fun a => (sh_M_becomes N h1 a x1)) ⟨hcc.1, hcc.2⟩ e1 (fun v2 h3 H locs w hsh3 e2 => ?_)
  have hsl := hsh3.2.2.2.trans hsl
  refine W.widen (k := h_x g - n0) (n := h_s g - s0) hcc.1 hcc.2 ?_
  exact w_iret C w e2 dX12_puts_254
set_option maxRecDepth 20000 in
set_option maxHeartbeats 4000000 in
theorem b_M_puts_244 {p : Program} {l : Launch} {e : Env} {s : State} {m : MethodId} {args : Array Value} {below : List Frame} {meth : Method} {c : Code} {D : va_G} {cy : cyT} {z : Nat} (C : MX p s m args meth c cX12_puts 8 ((some .int)) RX12 (Cond.code yX12_puts cX12_puts 8 ((some .int)) :: GW)) (N : Nat) (n0 s0 : Nat) (hn0 : s.heap.size = n0) {r : Int32} {g : hS}  : ∀  (cells slots : Nat) (h : hS) (th : Nat) (x1 : Int32) (y0 : Option Nat) (y1 : Int32) (y2 : Int32) (H : Heap) (locs : List Loc) (ls : Array Slot), wd D cy z s cells h H locs → h_s h = s0 + slots → lv_has ls 8 [(0, .ref th), (1, .int x1)] → f_M_puts_244 N   h th x1 y0 y1 y2 = some (r, g) → W p l e { frames := 8, cells := h_x g - n0, slots := h_s g - s0, locals := 215 } s m args below meth c H locs cells slots (MQ below (eQ D cy z (rI r) g) args s (h_x g - n0) (h_s g - s0) (fun q => z ≤ q)) (F0 m 244 ls [.int y2, .int y1, va_rf y0]) := by
  obtain ⟨hx, hb, hr, hml, hown, hts, hlk⟩ := id C
  intro cells slots h th x1 y0 y1 y2 H locs ls w hsl hl hE
  have hcc : cells ≤ h_x g - n0 ∧ slots ≤ h_s g - s0 := by
    have q1 := mo_M_puts_244 N  h th x1 y0 y1 y2 _ _ hE
    have q2 := wd_x w
    have q3 := q1.1
    have q4 := q1.2.1
    omega
  unfold f_M_puts_244 at hE
  refine lv_goto (tgt := 248) hx hb dX12_puts_244 (by decide) ?_
  exact b_M_puts_248 C N n0 s0 hn0   _ _ h th x1 y0 y1 y2 _ _ ls w hsl (lv_sub hl [0, 1] rfl) hE
set_option maxRecDepth 20000 in
set_option maxHeartbeats 4000000 in
theorem b_M_puts_218 {p : Program} {l : Launch} {e : Env} {s : State} {m : MethodId} {args : Array Value} {below : List Frame} {meth : Method} {c : Code} {D : va_G} {cy : cyT} {z : Nat} (C : MX p s m args meth c cX12_puts 8 ((some .int)) RX12 (Cond.code yX12_puts cX12_puts 8 ((some .int)) :: GW)) (N : Nat) (n0 s0 : Nat) (hn0 : s.heap.size = n0) {r : Int32} {g : hS}  : ∀  (cells slots : Nat) (h : hS) (th : Nat) (x1 : Int32) (x2 : Int32) (x3 : Int32) (x4 : Int32) (y0 : Option Nat) (y1 : Int32) (y2 : Int32) (H : Heap) (locs : List Loc) (ls : Array Slot), wd D cy z s cells h H locs → h_s h = s0 + slots → lv_has ls 8 [(0, .ref th), (1, .int x1), (2, .int x2), (3, .int x3), (4, .int x4)] → f_M_puts_218 N   h th x1 x2 x3 x4 y0 y1 y2 = some (r, g) → W p l e { frames := 8, cells := h_x g - n0, slots := h_s g - s0, locals := 215 } s m args below meth c H locs cells slots (MQ below (eQ D cy z (rI r) g) args s (h_x g - n0) (h_s g - s0) (fun q => z ≤ q)) (F0 m 218 ls [.int y2, .int y1, va_rf y0]) := by
  obtain ⟨hx, hb, hr, hml, hown, hts, hlk⟩ := id C
  intro cells slots h th x1 x2 x3 x4 y0 y1 y2 H locs ls w hsl hl hE
  have hcc : cells ≤ h_x g - n0 ∧ slots ≤ h_s g - s0 := by
    have q1 := mo_M_puts_218 N  h th x1 x2 x3 x4 y0 y1 y2 _ _ hE
    have q2 := wd_x w
    have q3 := q1.1
    have q4 := q1.2.1
    omega
  unfold f_M_puts_218 at hE
  refine w_uI (r := y0) C w dX12_puts_218 hE (fun h1 H locs w hsh1 e1 => ?_)
  have hsl := hsh1.2.2.2.trans hsl
  refine lv_aload_n hx hb dX12_puts_219 rfl (lv_at hl 0 rfl) ?_
  refine w_VV GW_good (n := 0) (F := 0) (Lc := 0) (o := some th) (av := []) (rest := []) C w rfl (by decide) (fun a r g hf => k_M_forgetLaid l D cy z N h1 a  r g hf) gw_27_21 gw_27_22 gw_27_23 gw_1_5 gw_28_0 (by decide +kernel) ⟨Nat.le_of_ble_eq_true rfl, Nat.le_of_ble_eq_true rfl⟩ rfl hl.1 rfl (Nat.le_of_ble_eq_true rfl) dX12_puts_220 (fun a => (sh_M_forgetLaid N h1 a )) ⟨hcc.1, hcc.2⟩ e1 (fun v2 h3 H locs w hsh3 e2 => ?_)
  have hsl := hsh3.2.2.2.trans hsl
  refine lv_aload_n hx hb dX12_puts_223 rfl (lv_at hl 0 rfl) ?_
  refine w_gR (r := some th) (ci := 0) (k := 18) C w rfl (by decide) (GF_wsX120 _) (by decide) rfl (List.mem_cons_of_mem _ gw_7_12) rfl dX12_puts_224 e2 (fun v4 e3 => ?_)
  refine lv_iconst (v := 4) hx hb dX12_puts_227 (by decide) ?_
  refine lv_iconst (v := 4) hx hb dX12_puts_228 (by decide) ?_
  refine lv_iload_n hx hb dX12_puts_229 rfl (lv_at hl 2 rfl) ?_
  refine lv_imul hx hb dX12_puts_230 ?_
  refine lv_iadd hx hb dX12_puts_231 ?_
  refine lv_iload_n hx hb dX12_puts_232 rfl (lv_at hl 3 rfl) ?_
  refine lv_bipush (v := 8) hx hb dX12_puts_233 (by decide) ?_
  refine w_icmp_ne (tgt := 247) C dX12_puts_235 (by decide) e3 (fun hc e4 => ?_) (fun hc e4 => ?_)
  · refine lv_iconst (v := 0) hx hb dX12_puts_247 (by decide) ?_
    exact b_M_puts_248 C N n0 s0 hn0   _ _ h3 th x1 v4 ((4 : Int32) + ((4 : Int32) * x2)) (0 : Int32) _ _ ls w hsl (lv_sub hl [0, 1] rfl) e4
  · refine lv_aload_n hx hb dX12_puts_238 rfl (lv_at hl 0 rfl) ?_
    refine lv_iload hx hb dX12_puts_239 (lv_at hl 4 rfl) ?_
    refine w_VAI GW_good (n := 1) (F := 7) (Lc := 193) (o := some th) (av := [.int x4]) (rest := [.int ((4 : Int32) + ((4 : Int32) * x2)), va_rf v4]) C w rfl (by decide) (fun a r g hf => k_M_onTop l D cy z N h3 a x4 r g hf) gw_28_1 gw_28_2 gw_28_3 gw_1_5 gw_28_4 (by decide +kernel) ⟨Nat.le_of_ble_eq_true rfl, Nat.le_of_ble_eq_true rfl⟩ rfl hl.1 rfl (cat_le (Nat.le_of_ble_eq_true rfl)) dX12_puts_241 (fun a => (mo_M_onTop N h3 a x4)) (fun a v5 h6 q1 q2 => by have u1 := (mo_M_onTop N h3 a x4) _ _ q1; have u2 := mo_M_puts_244 N   h6 th x1 v4 ((4 : Int32) + ((4 : Int32) * x2)) v5 _ _ q2; have u3 := wd_x w; have u4 := u1.1; have u5 := u1.2.1; have u6 := u2.1; have u7 := u2.2.1; show cells + _ ≤ h_x g - n0 ∧ slots + _ ≤ h_s g - s0; omega) e4 (fun v5 h6 H locs w hsh6 e5 => ?_)
    exact b_M_puts_244 C N n0 s0 hn0   _ _ h6 th x1 v4 ((4 : Int32) + ((4 : Int32) * x2)) v5 _ _ ls w (by have u5 := hsh6.2.1; rw [hsl] at u5 ⊢; omega) (lv_sub hl [0, 1] rfl) e5
set_option maxRecDepth 20000 in
set_option maxHeartbeats 4000000 in
theorem b_M_puts_197 {p : Program} {l : Launch} {e : Env} {s : State} {m : MethodId} {args : Array Value} {below : List Frame} {meth : Method} {c : Code} {D : va_G} {cy : cyT} {z : Nat} (C : MX p s m args meth c cX12_puts 8 ((some .int)) RX12 (Cond.code yX12_puts cX12_puts 8 ((some .int)) :: GW)) (N : Nat) (n0 s0 : Nat) (hn0 : s.heap.size = n0) {r : Int32} {g : hS}  : ∀  (cells slots : Nat) (h : hS) (th : Nat) (x1 : Int32) (x2 : Int32) (x3 : Int32) (x4 : Int32) (x5 : Int32) (x6 : Int32) (y0 : Option Nat) (y1 : Int32) (y2 : Int32) (H : Heap) (locs : List Loc) (ls : Array Slot), wd D cy z s cells h H locs → h_s h = s0 + slots → lv_has ls 8 [(0, .ref th), (1, .int x1), (2, .int x2), (3, .int x3), (4, .int x4), (5, .int x5), (6, .int x6)] → f_M_puts_197 N   h th x1 x2 x3 x4 x5 x6 y0 y1 y2 = some (r, g) → W p l e { frames := 8, cells := h_x g - n0, slots := h_s g - s0, locals := 215 } s m args below meth c H locs cells slots (MQ below (eQ D cy z (rI r) g) args s (h_x g - n0) (h_s g - s0) (fun q => z ≤ q)) (F0 m 197 ls [.int y2, .int y1, va_rf y0]) := by
  obtain ⟨hx, hb, hr, hml, hown, hts, hlk⟩ := id C
  intro cells slots h th x1 x2 x3 x4 x5 x6 y0 y1 y2 H locs ls w hsl hl hE
  have hcc : cells ≤ h_x g - n0 ∧ slots ≤ h_s g - s0 := by
    have q1 := mo_M_puts_197 N  h th x1 x2 x3 x4 x5 x6 y0 y1 y2 _ _ hE
    have q2 := wd_x w
    have q3 := q1.1
    have q4 := q1.2.1
    omega
  unfold f_M_puts_197 at hE
  refine w_uI (r := y0) C w dX12_puts_197 hE (fun h1 H locs w hsh1 e1 => ?_)
  have hsl := hsh1.2.2.2.trans hsl
  refine lv_aload_n hx hb dX12_puts_198 rfl (lv_at hl 0 rfl) ?_
  refine w_gR (r := some th) (ci := 0) (k := 18) C w rfl (by decide) (GF_wsX120 _) (by decide) rfl (List.mem_cons_of_mem _ gw_7_12) rfl dX12_puts_199 e1 (fun v2 e2 => ?_)
  refine lv_iconst (v := 3) hx hb dX12_puts_202 (by decide) ?_
  refine lv_iconst (v := 4) hx hb dX12_puts_203 (by decide) ?_
  refine lv_iload_n hx hb dX12_puts_204 rfl (lv_at hl 2 rfl) ?_
  refine lv_imul hx hb dX12_puts_205 ?_
  refine lv_iadd hx hb dX12_puts_206 ?_
  refine lv_iload hx hb dX12_puts_207 (lv_at hl 6 rfl) ?_
  refine w_if_eq (tgt := 217) C dX12_puts_209 (by decide) e2 (fun hc e3 => ?_) (fun hc e3 => ?_)
  · refine lv_iconst (v := 0) hx hb dX12_puts_217 (by decide) ?_
    exact b_M_puts_218 C N n0 s0 hn0   _ _ h1 th x1 x2 x3 x4 v2 ((3 : Int32) + ((4 : Int32) * x2)) (0 : Int32) _ _ ls w hsl (lv_sub hl [0, 1, 2, 3, 4] rfl) e3
  · refine lv_iload hx hb dX12_puts_212 (lv_at hl 5 rfl) ?_
    refine lv_goto (tgt := 218) hx hb dX12_puts_214 (by decide) ?_
    exact b_M_puts_218 C N n0 s0 hn0   _ _ h1 th x1 x2 x3 x4 v2 ((3 : Int32) + ((4 : Int32) * x2)) x5 _ _ ls w hsl (lv_sub hl [0, 1, 2, 3, 4] rfl) e3
set_option maxRecDepth 20000 in
set_option maxHeartbeats 4000000 in
theorem b_M_puts_191 {p : Program} {l : Launch} {e : Env} {s : State} {m : MethodId} {args : Array Value} {below : List Frame} {meth : Method} {c : Code} {D : va_G} {cy : cyT} {z : Nat} (C : MX p s m args meth c cX12_puts 8 ((some .int)) RX12 (Cond.code yX12_puts cX12_puts 8 ((some .int)) :: GW)) (N : Nat) (n0 s0 : Nat) (hn0 : s.heap.size = n0) {r : Int32} {g : hS}  : ∀  (cells slots : Nat) (h : hS) (th : Nat) (x1 : Int32) (x2 : Int32) (x3 : Int32) (x4 : Int32) (x5 : Int32) (x6 : Int32) (y0 : Option Nat) (y1 : Int32) (H : Heap) (locs : List Loc) (ls : Array Slot), wd D cy z s cells h H locs → h_s h = s0 + slots → lv_has ls 8 [(0, .ref th), (1, .int x1), (2, .int x2), (3, .int x3), (4, .int x4), (5, .int x5), (6, .int x6)] → f_M_puts_191 N   h th x1 x2 x3 x4 x5 x6 y0 y1 = some (r, g) → W p l e { frames := 8, cells := h_x g - n0, slots := h_s g - s0, locals := 215 } s m args below meth c H locs cells slots (MQ below (eQ D cy z (rI r) g) args s (h_x g - n0) (h_s g - s0) (fun q => z ≤ q)) (F0 m 191 ls [.int y1, va_rf y0]) := by
  obtain ⟨hx, hb, hr, hml, hown, hts, hlk⟩ := id C
  intro cells slots h th x1 x2 x3 x4 x5 x6 y0 y1 H locs ls w hsl hl hE
  have hcc : cells ≤ h_x g - n0 ∧ slots ≤ h_s g - s0 := by
    have q1 := mo_M_puts_191 N  h th x1 x2 x3 x4 x5 x6 y0 y1 _ _ hE
    have q2 := wd_x w
    have q3 := q1.1
    have q4 := q1.2.1
    omega
  unfold f_M_puts_191 at hE
  refine lv_iconst (v := 0) hx hb dX12_puts_191 (by decide) ?_
  refine lv_goto (tgt := 197) hx hb dX12_puts_192 (by decide) ?_
  exact b_M_puts_197 C N n0 s0 hn0   _ _ h th x1 x2 x3 x4 x5 x6 y0 y1 (0 : Int32) _ _ ls w hsl (lv_sub hl [0, 1, 2, 3, 4, 5, 6] rfl) hE
set_option maxRecDepth 20000 in
set_option maxHeartbeats 4000000 in
theorem b_M_puts_120 {p : Program} {l : Launch} {e : Env} {s : State} {m : MethodId} {args : Array Value} {below : List Frame} {meth : Method} {c : Code} {D : va_G} {cy : cyT} {z : Nat} (C : MX p s m args meth c cX12_puts 8 ((some .int)) RX12 (Cond.code yX12_puts cX12_puts 8 ((some .int)) :: GW)) (N : Nat) (n0 s0 : Nat) (hn0 : s.heap.size = n0) {r : Int32} {g : hS}  : ∀ (n : Nat) (cells slots : Nat) (h : hS) (th : Nat) (x1 : Int32) (x2 : Int32) (x3 : Int32) (x4 : Int32) (x5 : Int32) (x6 : Int32) (x7 : Int32) (H : Heap) (locs : List Loc) (ls : Array Slot), wd D cy z s cells h H locs → h_s h = s0 + slots → lv_has ls 8 [(0, .ref th), (1, .int x1), (2, .int x2), (3, .int x3), (4, .int x4), (5, .int x5), (6, .int x6), (7, .int x7)] → f_M_puts_120 N  n h th x1 x2 x3 x4 x5 x6 x7 = some (r, g) → W p l e { frames := 8, cells := h_x g - n0, slots := h_s g - s0, locals := 215 } s m args below meth c H locs cells slots (MQ below (eQ D cy z (rI r) g) args s (h_x g - n0) (h_s g - s0) (fun q => z ≤ q)) (F0 m 120 ls []) := by
  obtain ⟨hx, hb, hr, hml, hown, hts, hlk⟩ := id C
  intro n
  induction n with
  | zero =>
    intro cells slots h th x1 x2 x3 x4 x5 x6 x7 H locs ls w hsl hl hE
    cases hE
  | succ n ih =>
    intro cells slots h th x1 x2 x3 x4 x5 x6 x7 H locs ls w hsl hl hE
    have hcc : cells ≤ h_x g - n0 ∧ slots ≤ h_s g - s0 := by
      have q1 := mo_M_puts_120 N  (n + 1) h th x1 x2 x3 x4 x5 x6 x7 _ _ hE
      have q2 := wd_x w
      have q3 := q1.1
      have q4 := q1.2.1
      omega
    unfold f_M_puts_120 at hE
    refine lv_iload hx hb dX12_puts_120 (lv_at hl 7 rfl) ?_
    refine lv_iconst (v := 4) hx hb dX12_puts_122 (by decide) ?_
    refine lv_iload_n hx hb dX12_puts_123 rfl (lv_at hl 2 rfl) ?_
    refine lv_imul hx hb dX12_puts_124 ?_
    refine w_icmp_le (tgt := 150) C dX12_puts_125 (by decide) hE (fun hc e1 => ?_) (fun hc e1 => ?_)
    · refine lv_aload_n hx hb dX12_puts_150 rfl (lv_at hl 0 rfl) ?_
      refine w_gR (r := some th) (ci := 0) (k := 18) C w rfl (by decide) (GF_wsX120 _) (by decide) rfl (List.mem_cons_of_mem _ gw_7_12) rfl dX12_puts_151 e1 (fun v1 e2 => ?_)
      refine lv_iconst (v := 0) hx hb dX12_puts_154 (by decide) ?_
      refine lv_dup2_11 hx hb dX12_puts_155 rfl (va_rf_cat _) ?_
      refine w_aI (r := v1) C w dX12_puts_156 e2 (fun v2 e3 => ?_)
      refine lv_iconst (v := 1) hx hb dX12_puts_157 (by decide) ?_
      refine lv_iadd hx hb dX12_puts_158 ?_
      refine w_uI (r := v1) C w dX12_puts_159 e3 (fun h3 H locs w hsh3 e4 => ?_)
      have hsl := hsh3.2.2.2.trans hsl
      refine lv_aload_n hx hb dX12_puts_160 rfl (lv_at hl 0 rfl) ?_
      refine w_gR (r := some th) (ci := 0) (k := 18) C w rfl (by decide) (GF_wsX120 _) (by decide) rfl (List.mem_cons_of_mem _ gw_7_12) rfl dX12_puts_161 e4 (fun v4 e5 => ?_)
      refine lv_iconst (v := 1) hx hb dX12_puts_164 (by decide) ?_
      refine lv_iconst (v := 4) hx hb dX12_puts_165 (by decide) ?_
      refine lv_iload_n hx hb dX12_puts_166 rfl (lv_at hl 2 rfl) ?_
      refine lv_imul hx hb dX12_puts_167 ?_
      refine lv_iadd hx hb dX12_puts_168 ?_
      refine lv_iload_n hx hb dX12_puts_169 rfl (lv_at hl 3 rfl) ?_
      refine w_uI (r := v4) C w dX12_puts_170 e5 (fun h5 H locs w hsh5 e6 => ?_)
      have hsl := hsh5.2.2.2.trans hsl
      refine lv_aload_n hx hb dX12_puts_171 rfl (lv_at hl 0 rfl) ?_
      refine w_gR (r := some th) (ci := 0) (k := 18) C w rfl (by decide) (GF_wsX120 _) (by decide) rfl (List.mem_cons_of_mem _ gw_7_12) rfl dX12_puts_172 e6 (fun v6 e7 => ?_)
      refine lv_iconst (v := 2) hx hb dX12_puts_175 (by decide) ?_
      refine lv_iconst (v := 4) hx hb dX12_puts_176 (by decide) ?_
      refine lv_iload_n hx hb dX12_puts_177 rfl (lv_at hl 2 rfl) ?_
      refine lv_imul hx hb dX12_puts_178 ?_
      refine lv_iadd hx hb dX12_puts_179 ?_
      refine lv_iload_n hx hb dX12_puts_180 rfl (lv_at hl 3 rfl) ?_
      refine lv_iconst (v := 5) hx hb dX12_puts_181 (by decide) ?_
      refine w_icmp_eq (tgt := 191) C dX12_puts_182 (by decide) e7 (fun hc e8 => ?_) (fun hc e8 => ?_)
      · exact b_M_puts_191 C N n0 s0 hn0   _ _ h5 th x1 x2 x3 x4 x5 x6 v6 ((2 : Int32) + ((4 : Int32) * x2)) _ _ ls w hsl (lv_sub hl [0, 1, 2, 3, 4, 5, 6] rfl) e8
      · refine lv_iload_n hx hb dX12_puts_185 rfl (lv_at hl 3 rfl) ?_
        refine lv_bipush (v := 6) hx hb dX12_puts_186 (by decide) ?_
        refine w_icmp_ne (tgt := 195) C dX12_puts_188 (by decide) e8 (fun hc e9 => ?_) (fun hc e9 => ?_)
        · refine lv_iload hx hb dX12_puts_195 (lv_at hl 4 rfl) ?_
          exact b_M_puts_197 C N n0 s0 hn0   _ _ h5 th x1 x2 x3 x4 x5 x6 v6 ((2 : Int32) + ((4 : Int32) * x2)) x4 _ _ ls w hsl (lv_sub hl [0, 1, 2, 3, 4, 5, 6] rfl) e9
        · exact b_M_puts_191 C N n0 s0 hn0   _ _ h5 th x1 x2 x3 x4 x5 x6 v6 ((2 : Int32) + ((4 : Int32) * x2)) _ _ ls w hsl (lv_sub hl [0, 1, 2, 3, 4, 5, 6] rfl) e9
    · refine lv_aload_n hx hb dX12_puts_128 rfl (lv_at hl 0 rfl) ?_
      refine w_gR (r := some th) (ci := 0) (k := 18) C w rfl (by decide) (GF_wsX120 _) (by decide) rfl (List.mem_cons_of_mem _ gw_7_12) rfl dX12_puts_129 e1 (fun v7 e10 => ?_)
      refine lv_iconst (v := 4) hx hb dX12_puts_132 (by decide) ?_
      refine lv_iload hx hb dX12_puts_133 (lv_at hl 7 rfl) ?_
      refine lv_iadd hx hb dX12_puts_135 ?_
      refine lv_aload_n hx hb dX12_puts_136 rfl (lv_at hl 0 rfl) ?_
      refine w_gR (r := some th) (ci := 0) (k := 18) C w rfl (by decide) (GF_wsX120 _) (by decide) rfl (List.mem_cons_of_mem _ gw_7_12) rfl dX12_puts_137 e10 (fun v8 e11 => ?_)
      refine lv_iload hx hb dX12_puts_140 (lv_at hl 7 rfl) ?_
      refine w_aI (r := v8) C w dX12_puts_142 e11 (fun v9 e12 => ?_)
      refine w_uI (r := v7) C w dX12_puts_143 e12 (fun h10 H locs w hsh10 e13 => ?_)
      have hsl := hsh10.2.2.2.trans hsl
      obtain ⟨v11, ev11, e14⟩ := bn_some e13
      refine lv_iinc (v := v11) (lv' := [(7, .int v11), (0, .ref th), (1, .int x1), (2, .int x2), (3, .int x3), (4, .int x4), (5, .int x5), (6, .int x6)]) hx hb dX12_puts_144 hl (k := 7) rfl (by rw [ev11]; rfl) (by decide) rfl (fun ls hl => ?_)
      refine lv_goto (tgt := 120) hx hb dX12_puts_147 (by decide) ?_
      exact ih _ _ h10 th x1 x2 x3 x4 x5 x6 v11 _ _ ls w hsl (lv_sub hl [1, 2, 3, 4, 5, 6, 7, 0] rfl) e14
set_option maxRecDepth 20000 in
set_option maxHeartbeats 4000000 in
theorem b_M_puts_76 {p : Program} {l : Launch} {e : Env} {s : State} {m : MethodId} {args : Array Value} {below : List Frame} {meth : Method} {c : Code} {D : va_G} {cy : cyT} {z : Nat} (C : MX p s m args meth c cX12_puts 8 ((some .int)) RX12 (Cond.code yX12_puts cX12_puts 8 ((some .int)) :: GW)) (N : Nat) (n0 s0 : Nat) (hn0 : s.heap.size = n0) {r : Int32} {g : hS}  : ∀ (n : Nat) (cells slots : Nat) (h : hS) (th : Nat) (x1 : Int32) (x2 : Int32) (x3 : Int32) (x4 : Int32) (x5 : Int32) (x6 : Int32) (x7 : Int32) (H : Heap) (locs : List Loc) (ls : Array Slot), wd D cy z s cells h H locs → h_s h = s0 + slots → lv_has ls 8 [(0, .ref th), (1, .int x1), (2, .int x2), (3, .int x3), (4, .int x4), (5, .int x5), (6, .int x6), (7, .int x7)] → f_M_puts_76 N  n h th x1 x2 x3 x4 x5 x6 x7 = some (r, g) → W p l e { frames := 8, cells := h_x g - n0, slots := h_s g - s0, locals := 215 } s m args below meth c H locs cells slots (MQ below (eQ D cy z (rI r) g) args s (h_x g - n0) (h_s g - s0) (fun q => z ≤ q)) (F0 m 76 ls []) := by
  obtain ⟨hx, hb, hr, hml, hown, hts, hlk⟩ := id C
  intro n
  induction n with
  | zero =>
    intro cells slots h th x1 x2 x3 x4 x5 x6 x7 H locs ls w hsl hl hE
    cases hE
  | succ n ih =>
    intro cells slots h th x1 x2 x3 x4 x5 x6 x7 H locs ls w hsl hl hE
    have hcc : cells ≤ h_x g - n0 ∧ slots ≤ h_s g - s0 := by
      have q1 := mo_M_puts_76 N  (n + 1) h th x1 x2 x3 x4 x5 x6 x7 _ _ hE
      have q2 := wd_x w
      have q3 := q1.1
      have q4 := q1.2.1
      omega
    unfold f_M_puts_76 at hE
    refine lv_iload hx hb dX12_puts_76 (lv_at hl 7 rfl) ?_
    refine lv_sipush (v := 161) hx hb dX12_puts_78 (by decide) ?_
    refine w_icmp_ge (tgt := 110) C dX12_puts_81 (by decide) hE (fun hc e1 => ?_) (fun hc e1 => ?_)
    · refine lv_iconst (v := 4) hx hb dX12_puts_110 (by decide) ?_
      refine lv_aload_n hx hb dX12_puts_111 rfl (lv_at hl 0 rfl) ?_
      refine w_gR (r := some th) (ci := 0) (k := 18) C w rfl (by decide) (GF_wsX120 _) (by decide) rfl (List.mem_cons_of_mem _ gw_7_12) rfl dX12_puts_112 e1 (fun v1 e2 => ?_)
      refine lv_iconst (v := 0) hx hb dX12_puts_115 (by decide) ?_
      refine w_aI (r := v1) C w dX12_puts_116 e2 (fun v2 e3 => ?_)
      refine lv_imul hx hb dX12_puts_117 ?_
      refine w_bnI e3 (fun v3 e4 => ?_)
      refine lv_istore (lv' := [(7, .int v3), (0, .ref th), (1, .int x1), (2, .int x2), (3, .int x3), (4, .int x4), (5, .int x5), (6, .int x6)]) hx hb dX12_puts_118 hl (by decide) rfl (fun ls hl => ?_)
      exact b_M_puts_120 C N n0 s0 hn0  N _ _ h th x1 x2 x3 x4 x5 x6 v3 _ _ ls w hsl (lv_sub hl [1, 2, 3, 4, 5, 6, 7, 0] rfl) e4
    · refine lv_aload_n hx hb dX12_puts_84 rfl (lv_at hl 0 rfl) ?_
      refine w_gR (r := some th) (ci := 0) (k := 18) C w rfl (by decide) (GF_wsX120 _) (by decide) rfl (List.mem_cons_of_mem _ gw_7_12) rfl dX12_puts_85 e1 (fun v4 e5 => ?_)
      refine lv_iload hx hb dX12_puts_88 (lv_at hl 7 rfl) ?_
      refine lv_aload_n hx hb dX12_puts_90 rfl (lv_at hl 0 rfl) ?_
      refine w_gR (r := some th) (ci := 0) (k := 2) C w rfl (by decide) (GF_wsX120 _) (by decide) rfl (List.mem_cons_of_mem _ gw_6_21) rfl dX12_puts_91 e5 (fun v5 e6 => ?_)
      refine lv_sipush (v := 161) hx hb dX12_puts_94 (by decide) ?_
      refine lv_iload_n hx hb dX12_puts_97 rfl (lv_at hl 1 rfl) ?_
      refine lv_imul hx hb dX12_puts_98 ?_
      refine lv_iload hx hb dX12_puts_99 (lv_at hl 7 rfl) ?_
      refine lv_iadd hx hb dX12_puts_101 ?_
      refine w_aI (r := v5) C w dX12_puts_102 e6 (fun v6 e7 => ?_)
      refine w_uI (r := v4) C w dX12_puts_103 e7 (fun h7 H locs w hsh7 e8 => ?_)
      have hsl := hsh7.2.2.2.trans hsl
      obtain ⟨v8, ev8, e9⟩ := bn_some e8
      refine lv_iinc (v := v8) (lv' := [(7, .int v8), (0, .ref th), (1, .int x1), (2, .int x2), (3, .int x3), (4, .int x4), (5, .int x5), (6, .int x6)]) hx hb dX12_puts_104 hl (k := 7) rfl (by rw [ev8]; rfl) (by decide) rfl (fun ls hl => ?_)
      refine lv_goto (tgt := 76) hx hb dX12_puts_107 (by decide) ?_
      exact ih _ _ h7 th x1 x2 x3 x4 x5 x6 v8 _ _ ls w hsl (lv_sub hl [1, 2, 3, 4, 5, 6, 7, 0] rfl) e9
set_option maxRecDepth 20000 in
set_option maxHeartbeats 4000000 in
theorem b_M_puts_71 {p : Program} {l : Launch} {e : Env} {s : State} {m : MethodId} {args : Array Value} {below : List Frame} {meth : Method} {c : Code} {D : va_G} {cy : cyT} {z : Nat} (C : MX p s m args meth c cX12_puts 8 ((some .int)) RX12 (Cond.code yX12_puts cX12_puts 8 ((some .int)) :: GW)) (N : Nat) (n0 s0 : Nat) (hn0 : s.heap.size = n0) {r : Int32} {g : hS}  : ∀  (cells slots : Nat) (h : hS) (th : Nat) (x1 : Int32) (x2 : Int32) (x3 : Int32) (x4 : Int32) (x5 : Int32) (y0 : Int32) (H : Heap) (locs : List Loc) (ls : Array Slot), wd D cy z s cells h H locs → h_s h = s0 + slots → lv_has ls 8 [(0, .ref th), (1, .int x1), (2, .int x2), (3, .int x3), (4, .int x4), (5, .int x5)] → f_M_puts_71 N   h th x1 x2 x3 x4 x5 y0 = some (r, g) → W p l e { frames := 8, cells := h_x g - n0, slots := h_s g - s0, locals := 215 } s m args below meth c H locs cells slots (MQ below (eQ D cy z (rI r) g) args s (h_x g - n0) (h_s g - s0) (fun q => z ≤ q)) (F0 m 71 ls [.int y0]) := by
  obtain ⟨hx, hb, hr, hml, hown, hts, hlk⟩ := id C
  intro cells slots h th x1 x2 x3 x4 x5 y0 H locs ls w hsl hl hE
  have hcc : cells ≤ h_x g - n0 ∧ slots ≤ h_s g - s0 := by
    have q1 := mo_M_puts_71 N  h th x1 x2 x3 x4 x5 y0 _ _ hE
    have q2 := wd_x w
    have q3 := q1.1
    have q4 := q1.2.1
    omega
  unfold f_M_puts_71 at hE
  refine lv_istore (lv' := [(6, .int y0), (0, .ref th), (1, .int x1), (2, .int x2), (3, .int x3), (4, .int x4), (5, .int x5)]) hx hb dX12_puts_71 hl (by decide) rfl (fun ls hl => ?_)
  refine lv_iconst (v := 0) hx hb dX12_puts_73 (by decide) ?_
  refine lv_istore (lv' := [(7, .int (0 : Int32)), (6, .int y0), (0, .ref th), (1, .int x1), (2, .int x2), (3, .int x3), (4, .int x4), (5, .int x5)]) hx hb dX12_puts_74 hl (by decide) rfl (fun ls hl => ?_)
  exact b_M_puts_76 C N n0 s0 hn0  N _ _ h th x1 x2 x3 x4 x5 y0 (0 : Int32) _ _ ls w hsl (lv_sub hl [2, 3, 4, 5, 6, 7, 1, 0] rfl) hE
set_option maxRecDepth 20000 in
set_option maxHeartbeats 4000000 in
theorem b_M_puts_66 {p : Program} {l : Launch} {e : Env} {s : State} {m : MethodId} {args : Array Value} {below : List Frame} {meth : Method} {c : Code} {D : va_G} {cy : cyT} {z : Nat} (C : MX p s m args meth c cX12_puts 8 ((some .int)) RX12 (Cond.code yX12_puts cX12_puts 8 ((some .int)) :: GW)) (N : Nat) (n0 s0 : Nat) (hn0 : s.heap.size = n0) {r : Int32} {g : hS}  : ∀  (cells slots : Nat) (h : hS) (th : Nat) (x1 : Int32) (x2 : Int32) (x3 : Int32) (x4 : Int32) (x5 : Int32) (H : Heap) (locs : List Loc) (ls : Array Slot), wd D cy z s cells h H locs → h_s h = s0 + slots → lv_has ls 8 [(0, .ref th), (1, .int x1), (2, .int x2), (3, .int x3), (4, .int x4), (5, .int x5)] → f_M_puts_66 N   h th x1 x2 x3 x4 x5 = some (r, g) → W p l e { frames := 8, cells := h_x g - n0, slots := h_s g - s0, locals := 215 } s m args below meth c H locs cells slots (MQ below (eQ D cy z (rI r) g) args s (h_x g - n0) (h_s g - s0) (fun q => z ≤ q)) (F0 m 66 ls []) := by
  obtain ⟨hx, hb, hr, hml, hown, hts, hlk⟩ := id C
  intro cells slots h th x1 x2 x3 x4 x5 H locs ls w hsl hl hE
  have hcc : cells ≤ h_x g - n0 ∧ slots ≤ h_s g - s0 := by
    have q1 := mo_M_puts_66 N  h th x1 x2 x3 x4 x5 _ _ hE
    have q2 := wd_x w
    have q3 := q1.1
    have q4 := q1.2.1
    omega
  unfold f_M_puts_66 at hE
  refine lv_iconst (v := 1) hx hb dX12_puts_66 (by decide) ?_
  refine lv_goto (tgt := 71) hx hb dX12_puts_67 (by decide) ?_
  exact b_M_puts_71 C N n0 s0 hn0   _ _ h th x1 x2 x3 x4 x5 (1 : Int32) _ _ ls w hsl (lv_sub hl [0, 1, 2, 3, 4, 5] rfl) hE
set_option maxRecDepth 20000 in
set_option maxHeartbeats 4000000 in
theorem k_M_puts (l : Launch) (D : va_G) (cy : cyT) (z : Nat) (N : Nat) (h : hS) (th : Nat) (x1 : Int32) (x2 : Int32) (x3 : Int32) (x4 : Int32) (x5 : Int32) (r : Int32) (g : hS) (hE : f_M_puts N h th x1 x2 x3 x4 x5 = some (r, g)) : ct l yX12_puts (Cond.code yX12_puts cX12_puts 8 ((some .int)) :: GW) { frames := 8, cells := h_x g - h_x h, slots := h_s g - h_s h, locals := 215 } D cy z h [.ref th, .int x1, .int x2, .int x3, .int x4, .int x5] (rI r) g := by
  refine Met.ofW (cc := cX12_puts) (maxL := 8) (ret := (some .int)) (by decide) rfl ?_
  intro p e s m args below meth c s₁ B hml hv
  obtain ⟨rfl, hw⟩ := hv
  have C : MX p s m ([.ref th, .int x1, .int x2, .int x3, .int x4, .int x5] : List Value).toArray meth c cX12_puts 8 ((some .int)) RX12 (Cond.code yX12_puts cX12_puts 8 ((some .int)) :: GW) := ⟨B.exec, B.bytes, B.returns, hml, findClass_of_methodNamed B.named, atoms_spec (ws := Cond.code yX12_puts cX12_puts 8 ((some .int)) :: GW) B.pre, B.notSynchronized⟩
  obtain ⟨hx, hb, hr, hml, hown, hts, hlk⟩ := id C
  have w := wd_of hw
  have hsl : h_s h = h_s h + 0 := rfl
  have hn0 : s.heap.size = h_x h := (wd_x w).1
  obtain ⟨ls, hen, hl⟩ : ∃ ls : Array Slot, entryFrame m ([.ref th, .int x1, .int x2, .int x3, .int x4, .int x5] : List Value).toArray 8 = F0 m 0 ls [] ∧ lv_has ls 8 [(0, .ref th), (1, .int x1), (2, .int x2), (3, .int x3), (4, .int x4), (5, .int x5)] := by
    exact ⟨_, lg_entry_eq _ _ _, lv_entry _ (Nat.le_of_ble_eq_true rfl)⟩
  rw [hen]
  have hcc : 0 ≤ h_x g - h_x h ∧ 0 ≤ h_s g - h_s h := ⟨Nat.zero_le _, Nat.zero_le _⟩
  unfold f_M_puts at hE
  refine lv_aload_n hx hb dX12_puts_0 rfl (lv_at hl 0 rfl) ?_
  refine lv_iconst (v := 0) hx hb dX12_puts_1 (by decide) ?_
  refine w_pI (r := some th) (ci := 0) (k := 1) C w rfl (by decide) (by unfold roK; omega) (GF_wsX120 _) tyX12 tyX12_ok nmX12 (by decide) rfl (List.mem_cons_of_mem _ gw_8_18) rfl rfl (tyX12_ok 1 (by decide)) dX12_puts_2 hE (fun h1 H locs w hsh1 e1 => ?_)
  have hsl := hsh1.2.2.2.trans hsl
  refine lv_aload_n hx hb dX12_puts_5 rfl (lv_at hl 0 rfl) ?_
  refine lv_iload_n hx hb dX12_puts_6 rfl (lv_at hl 1 rfl) ?_
  refine w_VI GW_good (n := 1) (F := 1) (Lc := 25) (o := some th) (av := [.int x1]) (rest := []) C w rfl (by decide) (fun a r g hf => k_M_isCost l D cy z N h1 a x1 r g hf) gw_24_20 gw_24_21 gw_24_22 gw_1_5 gw_24_23 (by decide +kernel) ⟨Nat.le_of_ble_eq_true rfl, Nat.le_of_ble_eq_true rfl⟩ rfl hl.1 rfl (Nat.le_of_ble_eq_true rfl) dX12_puts_7 (fun a => (sh_M_isCost N h1 a x1)) ⟨hcc.1, hcc.2⟩ e1 (fun v2 h3 H locs w hsh3 e2 => ?_)
  have hsl := hsh3.2.2.2.trans hsl
  refine w_if_eq (tgt := 50) C dX12_puts_10 (by decide) e2 (fun hc e3 => ?_) (fun hc e3 => ?_)
  · exact b_M_puts_50 C N (h_x h) (h_s h) hn0   _ _ h3 th _ _ ls w hsl (lv_sub hl [0] rfl) e3
  · refine lv_iload_n hx hb dX12_puts_13 rfl (lv_at hl 2 rfl) ?_
    refine lv_i2l hx hb dX12_puts_14 rfl ?_
    refine lv_lconst (v := 0) hx hb dX12_puts_15 (by decide) ?_
    refine lv_aload_n hx hb dX12_puts_16 rfl (lv_at hl 0 rfl) ?_
    refine lv_iload_n hx hb dX12_puts_17 rfl (lv_at hl 1 rfl) ?_
    refine w_VI GW_good (n := 1) (F := 0) (Lc := 0) (o := some th) (av := [.int x1]) (rest := [.long (0 : Int64), .long x2.toInt64]) C w rfl (by decide) (fun a r g hf => k_M_steps l D cy z N h3 a x1 r g hf) gw_33_18 gw_33_19 gw_33_20 gw_1_5 gw_33_21 (by decide +kernel) ⟨Nat.le_of_ble_eq_true rfl, Nat.le_of_ble_eq_true rfl⟩ rfl hl.1 rfl (Nat.le_of_ble_eq_true rfl) dX12_puts_18 (fun a => (sh_M_steps N h3 a x1)) ⟨hcc.1, hcc.2⟩ e3 (fun v4 h5 H locs w hsh5 e4 => ?_)
    have hsl := hsh5.2.2.2.trans hsl
    refine lv_i2l hx hb dX12_puts_21 rfl ?_
    refine w_SI GW_good (n := 3) (F := 0) (Lc := 0) (av := [.long x2.toInt64, .long (0 : Int64), .long v4.toInt64]) (rest := []) C w (fun r g hf => k_M_isIn l D cy z N h5 x2.toInt64 (0 : Int64) v4.toInt64 r g hf) gw_25_1 gw_25_2 gw_1_5 gw_25_3 (by decide +kernel) ⟨Nat.le_of_ble_eq_true rfl, Nat.le_of_ble_eq_true rfl⟩ rfl hl.1 rfl (Nat.le_of_ble_eq_true rfl) dX12_puts_22 (sh_M_isIn N h5 x2.toInt64 (0 : Int64) v4.toInt64) ⟨hcc.1, hcc.2⟩ e4 (fun v6 h7 H locs w hsh7 e5 => ?_)
    have hsl := hsh7.2.2.2.trans hsl
    refine w_if_eq (tgt := 50) C dX12_puts_25 (by decide) e5 (fun hc e6 => ?_) (fun hc e6 => ?_)
    · exact b_M_puts_50 C N (h_x h) (h_s h) hn0   _ _ h7 th _ _ ls w hsl (lv_sub hl [0] rfl) e6
    · refine lv_iload_n hx hb dX12_puts_28 rfl (lv_at hl 1 rfl) ?_
      refine lv_iload_n hx hb dX12_puts_29 rfl (lv_at hl 3 rfl) ?_
      refine lv_iload hx hb dX12_puts_30 (lv_at hl 4 rfl) ?_
      refine lv_iload hx hb dX12_puts_32 (lv_at hl 5 rfl) ?_
      refine w_SI GW_good (n := 4) (F := 1) (Lc := 25) (av := [.int x1, .int x3, .int x4, .int x5]) (rest := []) C w (fun r g hf => k_M_isStepTold l D cy z N h7 x1 x3 x4 x5 r g hf) gw_57_16 gw_57_17 gw_1_5 gw_57_18 (by decide +kernel) ⟨Nat.le_of_ble_eq_true rfl, Nat.le_of_ble_eq_true rfl⟩ rfl hl.1 rfl (Nat.le_of_ble_eq_true rfl) dX12_puts_34 (sh_M_isStepTold N h7 x1 x3 x4 x5) ⟨hcc.1, hcc.2⟩ e6 (fun v8 h9 H locs w hsh9 e7 => ?_)
      have hsl := hsh9.2.2.2.trans hsl
      refine w_if_eq (tgt := 50) C dX12_puts_37 (by decide) e7 (fun hc e8 => ?_) (fun hc e8 => ?_)
      · exact b_M_puts_50 C N (h_x h) (h_s h) hn0   _ _ h9 th _ _ ls w hsl (lv_sub hl [0] rfl) e8
      · refine lv_aload_n hx hb dX12_puts_40 rfl (lv_at hl 0 rfl) ?_
        refine lv_iload_n hx hb dX12_puts_41 rfl (lv_at hl 1 rfl) ?_
        refine w_VI GW_good (n := 1) (F := 0) (Lc := 0) (o := some th) (av := [.int x1]) (rest := []) C w rfl (by decide) (fun a r g hf => k_M_steps l D cy z N h9 a x1 r g hf) gw_33_18 gw_33_19 gw_33_20 gw_1_5 gw_33_21 (by decide +kernel) ⟨Nat.le_of_ble_eq_true rfl, Nat.le_of_ble_eq_true rfl⟩ rfl hl.1 rfl (Nat.le_of_ble_eq_true rfl) dX12_puts_42 (fun a => (sh_M_steps N h9 a x1)) ⟨hcc.1, hcc.2⟩ e8 (fun v10 h11 H locs w hsh11 e9 => ?_)
        have hsl := hsh11.2.2.2.trans hsl
        refine lv_bipush (v := 40) hx hb dX12_puts_45 (by decide) ?_
        refine w_icmp_ne (tgt := 56) C dX12_puts_47 (by decide) e9 (fun hc e10 => ?_) (fun hc e10 => ?_)
        · refine lv_iload_n hx hb dX12_puts_56 rfl (lv_at hl 3 rfl) ?_
          refine lv_iconst (v := 2) hx hb dX12_puts_57 (by decide) ?_
          refine w_icmp_le (tgt := 66) C dX12_puts_58 (by decide) e10 (fun hc e11 => ?_) (fun hc e11 => ?_)
          · exact b_M_puts_66 C N (h_x h) (h_s h) hn0   _ _ h11 th x1 x2 x3 x4 x5 _ _ ls w hsl (lv_sub hl [0, 1, 2, 3, 4, 5] rfl) e11
          · refine lv_iload_n hx hb dX12_puts_61 rfl (lv_at hl 3 rfl) ?_
            refine lv_iconst (v := 4) hx hb dX12_puts_62 (by decide) ?_
            refine w_icmp_ne (tgt := 70) C dX12_puts_63 (by decide) e11 (fun hc e12 => ?_) (fun hc e12 => ?_)
            · refine lv_iconst (v := 0) hx hb dX12_puts_70 (by decide) ?_
              exact b_M_puts_71 C N (h_x h) (h_s h) hn0   _ _ h11 th x1 x2 x3 x4 x5 (0 : Int32) _ _ ls w hsl (lv_sub hl [0, 1, 2, 3, 4, 5] rfl) e12
            · exact b_M_puts_66 C N (h_x h) (h_s h) hn0   _ _ h11 th x1 x2 x3 x4 x5 _ _ ls w hsl (lv_sub hl [0, 1, 2, 3, 4, 5] rfl) e12
        · exact b_M_puts_50 C N (h_x h) (h_s h) hn0   _ _ h11 th _ _ ls w hsl (lv_sub hl [0] rfl) e10
set_option maxRecDepth 20000 in
set_option maxHeartbeats 4000000 in
theorem b_M_does_35 {p : Program} {l : Launch} {e : Env} {s : State} {m : MethodId} {args : Array Value} {below : List Frame} {meth : Method} {c : Code} {D : va_G} {cy : cyT} {z : Nat} (C : MX p s m args meth c cX12_does 5 ((some .int)) RX12 (Cond.code yX12_does cX12_does 5 ((some .int)) :: GW)) (N : Nat) (n0 s0 : Nat) (hn0 : s.heap.size = n0) {r : Int32} {g : hS}  : ∀  (cells slots : Nat) (h : hS) (y0 : Int32) (H : Heap) (locs : List Loc) (ls : Array Slot), wd D cy z s cells h H locs → h_s h = s0 + slots → lv_has ls 5 [] → f_M_does_35 N   h y0 = some (r, g) → W p l e { frames := 9, cells := h_x g - n0, slots := h_s g - s0, locals := 242 } s m args below meth c H locs cells slots (MQ below (eQ D cy z (rI r) g) args s (h_x g - n0) (h_s g - s0) (fun q => z ≤ q)) (F0 m 35 ls [.int y0]) := by
  obtain ⟨hx, hb, hr, hml, hown, hts, hlk⟩ := id C
  intro cells slots h y0 H locs ls w hsl hl hE
  have hcc : cells ≤ h_x g - n0 ∧ slots ≤ h_s g - s0 := by
    have q1 := mo_M_does_35 N  h y0 _ _ hE
    have q2 := wd_x w
    have q3 := q1.1
    have q4 := q1.2.1
    omega
  unfold f_M_does_35 at hE
  refine W.widen (k := h_x g - n0) (n := h_s g - s0) hcc.1 hcc.2 ?_
  exact w_iret C w hE dX12_does_35
set_option maxRecDepth 20000 in
set_option maxHeartbeats 4000000 in
theorem b_M_does_22 {p : Program} {l : Launch} {e : Env} {s : State} {m : MethodId} {args : Array Value} {below : List Frame} {meth : Method} {c : Code} {D : va_G} {cy : cyT} {z : Nat} (C : MX p s m args meth c cX12_does 5 ((some .int)) RX12 (Cond.code yX12_does cX12_does 5 ((some .int)) :: GW)) (N : Nat) (n0 s0 : Nat) (hn0 : s.heap.size = n0) {r : Int32} {g : hS}  : ∀  (cells slots : Nat) (h : hS) (y0 : Int32) (H : Heap) (locs : List Loc) (ls : Array Slot), wd D cy z s cells h H locs → h_s h = s0 + slots → lv_has ls 5 [] → f_M_does_22 N   h y0 = some (r, g) → W p l e { frames := 9, cells := h_x g - n0, slots := h_s g - s0, locals := 242 } s m args below meth c H locs cells slots (MQ below (eQ D cy z (rI r) g) args s (h_x g - n0) (h_s g - s0) (fun q => z ≤ q)) (F0 m 22 ls [.int y0]) := by
  obtain ⟨hx, hb, hr, hml, hown, hts, hlk⟩ := id C
  intro cells slots h y0 H locs ls w hsl hl hE
  have hcc : cells ≤ h_x g - n0 ∧ slots ≤ h_s g - s0 := by
    have q1 := mo_M_does_22 N  h y0 _ _ hE
    have q2 := wd_x w
    have q3 := q1.1
    have q4 := q1.2.1
    omega
  unfold f_M_does_22 at hE
  refine lv_goto (tgt := 35) hx hb dX12_does_22 (by decide) ?_
  exact b_M_does_35 C N n0 s0 hn0   _ _ h y0 _ _ ls w hsl (lv_sub hl [] rfl) hE
set_option maxRecDepth 20000 in
set_option maxHeartbeats 4000000 in
theorem k_M_does (l : Launch) (D : va_G) (cy : cyT) (z : Nat) (N : Nat) (h : hS) (th : Nat) (x1 : Int32) (x2 : Int32) (x3 : Int32) (x4 : Int32) (r : Int32) (g : hS) (hE : f_M_does N h th x1 x2 x3 x4 = some (r, g)) : ct l yX12_does (Cond.code yX12_does cX12_does 5 ((some .int)) :: GW) { frames := 9, cells := h_x g - h_x h, slots := h_s g - h_s h, locals := 242 } D cy z h [.ref th, .int x1, .int x2, .int x3, .int x4] (rI r) g := by
  refine Met.ofW (cc := cX12_does) (maxL := 5) (ret := (some .int)) (by decide) rfl ?_
  intro p e s m args below meth c s₁ B hml hv
  obtain ⟨rfl, hw⟩ := hv
  have C : MX p s m ([.ref th, .int x1, .int x2, .int x3, .int x4] : List Value).toArray meth c cX12_does 5 ((some .int)) RX12 (Cond.code yX12_does cX12_does 5 ((some .int)) :: GW) := ⟨B.exec, B.bytes, B.returns, hml, findClass_of_methodNamed B.named, atoms_spec (ws := Cond.code yX12_does cX12_does 5 ((some .int)) :: GW) B.pre, B.notSynchronized⟩
  obtain ⟨hx, hb, hr, hml, hown, hts, hlk⟩ := id C
  have w := wd_of hw
  have hsl : h_s h = h_s h + 0 := rfl
  have hn0 : s.heap.size = h_x h := (wd_x w).1
  obtain ⟨ls, hen, hl⟩ : ∃ ls : Array Slot, entryFrame m ([.ref th, .int x1, .int x2, .int x3, .int x4] : List Value).toArray 5 = F0 m 0 ls [] ∧ lv_has ls 5 [(0, .ref th), (1, .int x1), (2, .int x2), (3, .int x3), (4, .int x4)] := by
    exact ⟨_, lg_entry_eq _ _ _, lv_entry _ (Nat.le_of_ble_eq_true rfl)⟩
  rw [hen]
  have hcc : 0 ≤ h_x g - h_x h ∧ 0 ≤ h_s g - h_s h := ⟨Nat.zero_le _, Nat.zero_le _⟩
  unfold f_M_does at hE
  refine lv_aload_n hx hb dX12_does_0 rfl (lv_at hl 0 rfl) ?_
  refine lv_iload_n hx hb dX12_does_1 rfl (lv_at hl 1 rfl) ?_
  refine w_VI GW_good (n := 1) (F := 1) (Lc := 25) (o := some th) (av := [.int x1]) (rest := []) C w rfl (by decide) (fun a r g hf => k_M_isCost l D cy z N h a x1 r g hf) gw_24_20 gw_24_21 gw_24_22 gw_1_5 gw_24_23 (by decide +kernel) ⟨Nat.le_of_ble_eq_true rfl, Nat.le_of_ble_eq_true rfl⟩ rfl hl.1 rfl (Nat.le_of_ble_eq_true rfl) dX12_does_2 (fun a => (sh_M_isCost N h a x1)) ⟨hcc.1, hcc.2⟩ hE (fun v1 h2 H locs w hsh2 e1 => ?_)
  have hsl := hsh2.2.2.2.trans hsl
  refine w_if_eq (tgt := 25) C dX12_does_5 (by decide) e1 (fun hc e2 => ?_) (fun hc e2 => ?_)
  · refine lv_aload_n hx hb dX12_does_25 rfl (lv_at hl 0 rfl) ?_
    refine lv_iload_n hx hb dX12_does_26 rfl (lv_at hl 1 rfl) ?_
    refine lv_iconst (v := 0) hx hb dX12_does_27 (by decide) ?_
    refine lv_iload_n hx hb dX12_does_28 rfl (lv_at hl 2 rfl) ?_
    refine lv_iload_n hx hb dX12_does_29 rfl (lv_at hl 3 rfl) ?_
    refine lv_iload hx hb dX12_does_30 (lv_at hl 4 rfl) ?_
    refine w_VAI GW_good (n := 5) (F := 8) (Lc := 215) (o := some th) (av := [.int x1, .int (0 : Int32), .int x2, .int x3, .int x4]) (rest := []) C w rfl (by decide) (fun a r g hf => k_M_puts l D cy z N h2 a x1 (0 : Int32) x2 x3 x4 r g hf) gw_57_12 gw_57_13 gw_57_14 gw_1_5 gw_57_15 (by decide +kernel) ⟨Nat.le_of_ble_eq_true rfl, Nat.le_of_ble_eq_true rfl⟩ rfl hl.1 rfl (Nat.le_of_ble_eq_true rfl) dX12_does_32 (fun a => (mo_M_puts N h2 a x1 (0 : Int32) x2 x3 x4)) (fun a v3 h4 q1 q2 => by have u1 := (mo_M_puts N h2 a x1 (0 : Int32) x2 x3 x4) _ _ q1; have u2 := mo_M_does_35 N   h4 v3 _ _ q2; have u3 := wd_x w; have u4 := u1.1; have u5 := u1.2.1; have u6 := u2.1; have u7 := u2.2.1; show 0 + _ ≤ h_x g - (h_x h) ∧ 0 + _ ≤ h_s g - (h_s h); omega) e2 (fun v3 h4 H locs w hsh4 e3 => ?_)
    exact b_M_does_35 C N (h_x h) (h_s h) hn0   _ _ h4 v3 _ _ ls w (by have u5 := hsh4.2.1; rw [hsl] at u5 ⊢; omega) (lv_sub hl [] rfl) e3
  · refine lv_aload_n hx hb dX12_does_8 rfl (lv_at hl 0 rfl) ?_
    refine lv_iload_n hx hb dX12_does_9 rfl (lv_at hl 1 rfl) ?_
    refine lv_aload_n hx hb dX12_does_10 rfl (lv_at hl 0 rfl) ?_
    refine lv_iload_n hx hb dX12_does_11 rfl (lv_at hl 1 rfl) ?_
    refine w_VI GW_good (n := 1) (F := 0) (Lc := 0) (o := some th) (av := [.int x1]) (rest := [.int x1, .ref th]) C w rfl (by decide) (fun a r g hf => k_M_steps l D cy z N h2 a x1 r g hf) gw_33_18 gw_33_19 gw_33_20 gw_1_5 gw_33_21 (by decide +kernel) ⟨Nat.le_of_ble_eq_true rfl, Nat.le_of_ble_eq_true rfl⟩ rfl hl.1 rfl (Nat.le_of_ble_eq_true rfl) dX12_does_12 (fun a => (sh_M_steps N h2 a x1)) ⟨hcc.1, hcc.2⟩ e2 (fun v5 h6 H locs w hsh6 e4 => ?_)
    have hsl := hsh6.2.2.2.trans hsl
    refine lv_iload_n hx hb dX12_does_15 rfl (lv_at hl 2 rfl) ?_
    refine lv_iload_n hx hb dX12_does_16 rfl (lv_at hl 3 rfl) ?_
    refine lv_iload hx hb dX12_does_17 (lv_at hl 4 rfl) ?_
    refine w_VAI GW_good (n := 5) (F := 8) (Lc := 215) (o := some th) (av := [.int x1, .int v5, .int x2, .int x3, .int x4]) (rest := []) C w rfl (by decide) (fun a r g hf => k_M_puts l D cy z N h6 a x1 v5 x2 x3 x4 r g hf) gw_57_12 gw_57_13 gw_57_14 gw_1_5 gw_57_15 (by decide +kernel) ⟨Nat.le_of_ble_eq_true rfl, Nat.le_of_ble_eq_true rfl⟩ rfl hl.1 rfl (Nat.le_of_ble_eq_true rfl) dX12_does_19 (fun a => (mo_M_puts N h6 a x1 v5 x2 x3 x4)) (fun a v7 h8 q1 q2 => by have u1 := (mo_M_puts N h6 a x1 v5 x2 x3 x4) _ _ q1; have u2 := mo_M_does_22 N   h8 v7 _ _ q2; have u3 := wd_x w; have u4 := u1.1; have u5 := u1.2.1; have u6 := u2.1; have u7 := u2.2.1; show 0 + _ ≤ h_x g - (h_x h) ∧ 0 + _ ≤ h_s g - (h_s h); omega) e4 (fun v7 h8 H locs w hsh8 e5 => ?_)
    exact b_M_does_22 C N (h_x h) (h_s h) hn0   _ _ h8 v7 _ _ ls w (by have u5 := hsh8.2.1; rw [hsl] at u5 ⊢; omega) (lv_sub hl [] rfl) e5
