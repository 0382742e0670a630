def f_M_init_311 (N : Nat)  (h : hS) (y0 : Option Nat) (y1 : Option Nat) : Option (Unit × hS) := pR h y0 0 56 y1 fun h1 => some ((), h1)
def f_M_init_303 (N : Nat)  (h : hS) (th : Nat) (y0 : Option Nat) (y1 : Option Nat) : Option (Unit × hS) := pR h y0 0 55 y1 fun h1 => nwA h1 51 (8 : Int32) fun q2 h3 => f_M_init_311 N   h3 (some th) (some q2)
def f_M_init_296 (N : Nat)  (h : hS) (th : Nat) (y0 : Option Nat) (y1 : Option Nat) : Option (Unit × hS) := pR h y0 0 54 y1 fun h1 => nwA h1 50 (3 : Int32) fun q2 h3 => f_M_init_303 N   h3 th (some th) (some q2)
def f_M_init_288 (N : Nat)  (h : hS) (th : Nat) (y0 : Option Nat) (y1 : Option Nat) : Option (Unit × hS) := pR h y0 0 53 y1 fun h1 => nwA h1 50 (8 : Int32) fun q2 h3 => f_M_init_296 N   h3 th (some th) (some q2)
def f_M_init_279 (N : Nat)  (h : hS) (th : Nat) (y0 : Option Nat) (y1 : Option Nat) : Option (Unit × hS) := pR h y0 0 52 y1 fun h1 => nwA h1 50 (25760 : Int32) fun q2 h3 => f_M_init_288 N   h3 th (some th) (some q2)
def f_M_init_270 (N : Nat)  (h : hS) (th : Nat) (y0 : Option Nat) (y1 : Option Nat) : Option (Unit × hS) := pR h y0 0 47 y1 fun h1 => nwA h1 50 (644 : Int32) fun q2 h3 => f_M_init_279 N   h3 th (some th) (some q2)
def f_M_init_261 (N : Nat)  (h : hS) (th : Nat) (y0 : Option Nat) (y1 : Option Nat) : Option (Unit × hS) := pR h y0 0 46 y1 fun h1 => nwA h1 51 (1681 : Int32) fun q2 h3 => f_M_init_270 N   h3 th (some th) (some q2)
def f_M_init_253 (N : Nat)  (h : hS) (th : Nat) (y0 : Option Nat) (y1 : Option Nat) : Option (Unit × hS) := pR h y0 0 45 y1 fun h1 => nwA h1 53 (41 : Int32) fun q2 h3 => f_M_init_261 N   h3 th (some th) (some q2)
def f_M_init_245 (N : Nat)  (h : hS) (th : Nat) (y0 : Option Nat) (y1 : Option Nat) : Option (Unit × hS) := pR h y0 0 44 y1 fun h1 => nwA h1 51 (8 : Int32) fun q2 h3 => f_M_init_253 N   h3 th (some th) (some q2)
def f_M_init_237 (N : Nat)  (h : hS) (th : Nat) (y0 : Option Nat) (y1 : Option Nat) : Option (Unit × hS) := pR h y0 0 42 y1 fun h1 => nwA h1 50 (8 : Int32) fun q2 h3 => f_M_init_245 N   h3 th (some th) (some q2)
def f_M_init_228 (N : Nat)  (h : hS) (th : Nat) (y0 : Option Nat) (y1 : Option Nat) : Option (Unit × hS) := pR h y0 0 37 y1 fun h1 => nwA h1 50 (25760 : Int32) fun q2 h3 => f_M_init_237 N   h3 th (some th) (some q2)
def f_M_init_219 (N : Nat)  (h : hS) (th : Nat) (y0 : Option Nat) (y1 : Option Nat) : Option (Unit × hS) := pR h y0 0 36 y1 fun h1 => nwA h1 51 (2001 : Int32) fun q2 h3 => f_M_init_228 N   h3 th (some th) (some q2)
def f_M_init_210 (N : Nat)  (h : hS) (th : Nat) (y0 : Option Nat) (y1 : Option Nat) : Option (Unit × hS) := pR h y0 0 34 y1 fun h1 => nwA h1 51 (2001 : Int32) fun q2 h3 => f_M_init_219 N   h3 th (some th) (some q2)
def f_M_init_201 (N : Nat)  (h : hS) (th : Nat) (y0 : Option Nat) (y1 : Option Nat) : Option (Unit × hS) := pR h y0 0 31 y1 fun h1 => nwA h1 51 (10001 : Int32) fun q2 h3 => f_M_init_210 N   h3 th (some th) (some q2)
def f_M_init_192 (N : Nat)  (h : hS) (th : Nat) (y0 : Option Nat) (y1 : Option Nat) : Option (Unit × hS) := pR h y0 0 30 y1 fun h1 => nwA h1 51 (10001 : Int32) fun q2 h3 => f_M_init_201 N   h3 th (some th) (some q2)
def f_M_init_179 (N : Nat)  (h : hS) (th : Nat) (y0 : Option Nat) (y1 : Option Nat) : Option (Unit × hS) := pR h y0 0 19 y1 fun h1 => pI h1 (some th) 0 29 (-1 : Int32) fun h2 => nwA h2 50 (41 : Int32) fun q3 h4 => f_M_init_192 N   h4 th (some th) (some q3)
def f_M_init_171 (N : Nat)  (h : hS) (th : Nat) (y0 : Option Nat) (y1 : Option Nat) : Option (Unit × hS) := pR h y0 0 18 y1 fun h1 => nwA h1 50 (40 : Int32) fun q2 h3 => f_M_init_179 N   h3 th (some th) (some q2)
def f_M_init_162 (N : Nat)  (h : hS) (th : Nat) (y0 : Option Nat) (y1 : Option Nat) : Option (Unit × hS) := pR h y0 0 17 y1 fun h1 => nwA h1 50 (644 : Int32) fun q2 h3 => f_M_init_171 N   h3 th (some th) (some q2)
def f_M_init_153 (N : Nat)  (h : hS) (th : Nat) (y0 : Option Nat) (y1 : Option Nat) : Option (Unit × hS) := pR h y0 0 16 y1 fun h1 => nwA h1 50 (600 : Int32) fun q2 h3 => f_M_init_162 N   h3 th (some th) (some q2)
def f_M_init_136 (N : Nat)  (h : hS) (th : Nat) (y0 : Option Nat) (y1 : Option Nat) : Option (Unit × hS) := pR h y0 0 11 y1 fun h1 => pI h1 (some th) 0 13 (-1 : Int32) fun h2 => pI h2 (some th) 0 14 (-1 : Int32) fun h3 => nwA h3 50 (4 : Int32) fun q4 h5 => f_M_init_153 N   h5 th (some th) (some q4)
def f_M_init_128 (N : Nat)  (h : hS) (th : Nat) (y0 : Option Nat) (y1 : Option Nat) : Option (Unit × hS) := pR h y0 0 10 y1 fun h1 => nwA h1 50 (40 : Int32) fun q2 h3 => f_M_init_136 N   h3 th (some th) (some q2)
def f_M_init_120 (N : Nat)  (h : hS) (th : Nat) (y0 : Option Nat) (y1 : Option Nat) : Option (Unit × hS) := pR h y0 0 8 y1 fun h1 => nwA h1 50 (40 : Int32) fun q2 h3 => f_M_init_128 N   h3 th (some th) (some q2)
def f_M_init_111 (N : Nat)  (h : hS) (th : Nat) (y0 : Option Nat) (y1 : Option Nat) : Option (Unit × hS) := pR h y0 0 7 y1 fun h1 => nwA h1 53 (1000 : Int32) fun q2 h3 => f_M_init_120 N   h3 th (some th) (some q2)
def f_M_init_101 (N : Nat)  (h : hS) (th : Nat) (y0 : Option Nat) (y1 : Option Nat) : Option (Unit × hS) := pR h y0 0 6 y1 fun h1 => nwA h1 60 (1000 : Int32) fun q2 h3 => f_M_init_111 N   h3 th (some th) (some q2)
def f_M_init_92 (N : Nat)  (h : hS) (th : Nat) (y0 : Option Nat) (y1 : Option Nat) : Option (Unit × hS) := pR h y0 0 5 y1 fun h1 => nwA h1 50 (10003 : Int32) fun q2 h3 => f_M_init_101 N   h3 th (some th) (some q2)
def f_M_init_83 (N : Nat)  (h : hS) (th : Nat) (y0 : Option Nat) (y1 : Option Nat) : Option (Unit × hS) := pR h y0 0 4 y1 fun h1 => nwA h1 50 (10003 : Int32) fun q2 h3 => f_M_init_92 N   h3 th (some th) (some q2)
def f_M_init_74 (N : Nat)  (h : hS) (th : Nat) (y0 : Option Nat) (y1 : Option Nat) : Option (Unit × hS) := pR h y0 0 3 y1 fun h1 => nwA h1 50 (10003 : Int32) fun q2 h3 => f_M_init_83 N   h3 th (some th) (some q2)
def f_M_init_67 (N : Nat)  (h : hS) (th : Nat) (y0 : Option Nat) (y1 : Option Nat) : Option (Unit × hS) := pR h y0 0 2 y1 fun h1 => nwA h1 50 (3 : Int32) fun q2 h3 => f_M_init_74 N   h3 th (some th) (some q2)
def f_M_init_10 (N : Nat)  (h : hS) (th : Nat) (y0 : Option Nat) (y1 : Option Nat) : Option (Unit × hS) := bn (h_r h 0 18) fun v1 => uS h y1 (0 : Int32) v1 fun h2 => bn (h_r h2 0 19) fun v3 => uS h2 y1 (1 : Int32) v3 fun h4 => bn (h_r h4 0 20) fun v5 => uS h4 y1 (2 : Int32) v5 fun h6 => bn (h_r h6 0 21) fun v7 => uS h6 y1 (3 : Int32) v7 fun h8 => bn (h_r h8 0 22) fun v9 => uS h8 y1 (4 : Int32) v9 fun h10 => bn (h_r h10 0 23) fun v11 => uS h10 y1 (5 : Int32) v11 fun h12 => bn (h_r h12 0 24) fun v13 => uS h12 y1 (6 : Int32) v13 fun h14 => bn (h_r h14 0 25) fun v15 => uS h14 y1 (7 : Int32) v15 fun h16 => bn (h_r h16 0 26) fun v17 => uS h16 y1 (8 : Int32) v17 fun h18 => pR h18 y0 0 0 y1 fun h19 => nwA h19 50 (644 : Int32) fun q20 h21 => f_M_init_67 N   h21 th (some th) (some q20)
def f_M_init (N : Nat) (h : hS) (th : Nat) : Option (Unit × hS) := nwA h 61 (9 : Int32) fun q1 h2 => f_M_init_10 N   h2 th (some th) (some q1)
theorem mo_M_init_311 (N : Nat)  : ∀  (h : hS) (y0 : Option Nat) (y1 : Option Nat), Mo h (f_M_init_311 N   h y0 y1) := by
  intro h y0 y1
  unfold f_M_init_311
  refine Mo_pR (fun h1 => ?_)
  exact Mo_some
theorem mo_M_init_303 (N : Nat)  : ∀  (h : hS) (th : Nat) (y0 : Option Nat) (y1 : Option Nat), Mo h (f_M_init_303 N   h th y0 y1) := by
  intro h th y0 y1
  unfold f_M_init_303
  refine Mo_pR (fun h1 => ?_)
  refine Mo_nwA (fun q2 h3 => ?_)
  exact mo_M_init_311 N   h3 (some th) (some q2)
theorem mo_M_init_296 (N : Nat)  : ∀  (h : hS) (th : Nat) (y0 : Option Nat) (y1 : Option Nat), Mo h (f_M_init_296 N   h th y0 y1) := by
  intro h th y0 y1
  unfold f_M_init_296
  refine Mo_pR (fun h1 => ?_)
  refine Mo_nwA (fun q2 h3 => ?_)
  exact mo_M_init_303 N   h3 th (some th) (some q2)
theorem mo_M_init_288 (N : Nat)  : ∀  (h : hS) (th : Nat) (y0 : Option Nat) (y1 : Option Nat), Mo h (f_M_init_288 N   h th y0 y1) := by
  intro h th y0 y1
  unfold f_M_init_288
  refine Mo_pR (fun h1 => ?_)
  refine Mo_nwA (fun q2 h3 => ?_)
  exact mo_M_init_296 N   h3 th (some th) (some q2)
theorem mo_M_init_279 (N : Nat)  : ∀  (h : hS) (th : Nat) (y0 : Option Nat) (y1 : Option Nat), Mo h (f_M_init_279 N   h th y0 y1) := by
  intro h th y0 y1
  unfold f_M_init_279
  refine Mo_pR (fun h1 => ?_)
  refine Mo_nwA (fun q2 h3 => ?_)
  exact mo_M_init_288 N   h3 th (some th) (some q2)
theorem mo_M_init_270 (N : Nat)  : ∀  (h : hS) (th : Nat) (y0 : Option Nat) (y1 : Option Nat), Mo h (f_M_init_270 N   h th y0 y1) := by
  intro h th y0 y1
  unfold f_M_init_270
  refine Mo_pR (fun h1 => ?_)
  refine Mo_nwA (fun q2 h3 => ?_)
  exact mo_M_init_279 N   h3 th (some th) (some q2)
theorem mo_M_init_261 (N : Nat)  : ∀  (h : hS) (th : Nat) (y0 : Option Nat) (y1 : Option Nat), Mo h (f_M_init_261 N   h th y0 y1) := by
  intro h th y0 y1
  unfold f_M_init_261
  refine Mo_pR (fun h1 => ?_)
  refine Mo_nwA (fun q2 h3 => ?_)
  exact mo_M_init_270 N   h3 th (some th) (some q2)
theorem mo_M_init_253 (N : Nat)  : ∀  (h : hS) (th : Nat) (y0 : Option Nat) (y1 : Option Nat), Mo h (f_M_init_253 N   h th y0 y1) := by
  intro h th y0 y1
  unfold f_M_init_253
  refine Mo_pR (fun h1 => ?_)
  refine Mo_nwA (fun q2 h3 => ?_)
  exact mo_M_init_261 N   h3 th (some th) (some q2)
theorem mo_M_init_245 (N : Nat)  : ∀  (h : hS) (th : Nat) (y0 : Option Nat) (y1 : Option Nat), Mo h (f_M_init_245 N   h th y0 y1) := by
  intro h th y0 y1
  unfold f_M_init_245
  refine Mo_pR (fun h1 => ?_)
  refine Mo_nwA (fun q2 h3 => ?_)
  exact mo_M_init_253 N   h3 th (some th) (some q2)
theorem mo_M_init_237 (N : Nat)  : ∀  (h : hS) (th : Nat) (y0 : Option Nat) (y1 : Option Nat), Mo h (f_M_init_237 N   h th y0 y1) := by
  intro h th y0 y1
  unfold f_M_init_237
  refine Mo_pR (fun h1 => ?_)
  refine Mo_nwA (fun q2 h3 => ?_)
  exact mo_M_init_245 N   h3 th (some th) (some q2)
theorem mo_M_init_228 (N : Nat)  : ∀  (h : hS) (th : Nat) (y0 : Option Nat) (y1 : Option Nat), Mo h (f_M_init_228 N   h th y0 y1) := by
  intro h th y0 y1
  unfold f_M_init_228
  refine Mo_pR (fun h1 => ?_)
  refine Mo_nwA (fun q2 h3 => ?_)
  exact mo_M_init_237 N   h3 th (some th) (some q2)
theorem mo_M_init_219 (N : Nat)  : ∀  (h : hS) (th : Nat) (y0 : Option Nat) (y1 : Option Nat), Mo h (f_M_init_219 N   h th y0 y1) := by
  intro h th y0 y1
  unfold f_M_init_219
  refine Mo_pR (fun h1 => ?_)
  refine Mo_nwA (fun q2 h3 => ?_)
  exact mo_M_init_228 N   h3 th (some th) (some q2)
theorem mo_M_init_210 (N : Nat)  : ∀  (h : hS) (th : Nat) (y0 : Option Nat) (y1 : Option Nat), Mo h (f_M_init_210 N   h th y0 y1) := by
  intro h th y0 y1
  unfold f_M_init_210
  refine Mo_pR (fun h1 => ?_)
  refine Mo_nwA (fun q2 h3 => ?_)
  exact mo_M_init_219 N   h3 th (some th) (some q2)
theorem mo_M_init_201 (N : Nat)  : ∀  (h : hS) (th : Nat) (y0 : Option Nat) (y1 : Option Nat), Mo h (f_M_init_201 N   h th y0 y1) := by
  intro h th y0 y1
  unfold f_M_init_201
  refine Mo_pR (fun h1 => ?_)
  refine Mo_nwA (fun q2 h3 => ?_)
  exact mo_M_init_210 N   h3 th (some th) (some q2)
theorem mo_M_init_192 (N : Nat)  : ∀  (h : hS) (th : Nat) (y0 : Option Nat) (y1 : Option Nat), Mo h (f_M_init_192 N   h th y0 y1) := by
  intro h th y0 y1
  unfold f_M_init_192
  refine Mo_pR (fun h1 => ?_)
  refine Mo_nwA (fun q2 h3 => ?_)
  exact mo_M_init_201 N   h3 th (some th) (some q2)
theorem mo_M_init_179 (N : Nat)  : ∀  (h : hS) (th : Nat) (y0 : Option Nat) (y1 : Option Nat), Mo h (f_M_init_179 N   h th y0 y1) := by
  intro h th y0 y1
  unfold f_M_init_179
  refine Mo_pR (fun h1 => ?_)
  refine Mo_pI (fun h2 => ?_)
  refine Mo_nwA (fun q3 h4 => ?_)
  exact mo_M_init_192 N   h4 th (some th) (some q3)
theorem mo_M_init_171 (N : Nat)  : ∀  (h : hS) (th : Nat) (y0 : Option Nat) (y1 : Option Nat), Mo h (f_M_init_171 N   h th y0 y1) := by
  intro h th y0 y1
  unfold f_M_init_171
  refine Mo_pR (fun h1 => ?_)
  refine Mo_nwA (fun q2 h3 => ?_)
  exact mo_M_init_179 N   h3 th (some th) (some q2)
theorem mo_M_init_162 (N : Nat)  : ∀  (h : hS) (th : Nat) (y0 : Option Nat) (y1 : Option Nat), Mo h (f_M_init_162 N   h th y0 y1) := by
  intro h th y0 y1
  unfold f_M_init_162
  refine Mo_pR (fun h1 => ?_)
  refine Mo_nwA (fun q2 h3 => ?_)
  exact mo_M_init_171 N   h3 th (some th) (some q2)
theorem mo_M_init_153 (N : Nat)  : ∀  (h : hS) (th : Nat) (y0 : Option Nat) (y1 : Option Nat), Mo h (f_M_init_153 N   h th y0 y1) := by
  intro h th y0 y1
  unfold f_M_init_153
  refine Mo_pR (fun h1 => ?_)
  refine Mo_nwA (fun q2 h3 => ?_)
  exact mo_M_init_162 N   h3 th (some th) (some q2)
theorem mo_M_init_136 (N : Nat)  : ∀  (h : hS) (th : Nat) (y0 : Option Nat) (y1 : Option Nat), Mo h (f_M_init_136 N   h th y0 y1) := by
  intro h th y0 y1
  unfold f_M_init_136
  refine Mo_pR (fun h1 => ?_)
  refine Mo_pI (fun h2 => ?_)
  refine Mo_pI (fun h3 => ?_)
  refine Mo_nwA (fun q4 h5 => ?_)
  exact mo_M_init_153 N   h5 th (some th) (some q4)
theorem mo_M_init_128 (N : Nat)  : ∀  (h : hS) (th : Nat) (y0 : Option Nat) (y1 : Option Nat), Mo h (f_M_init_128 N   h th y0 y1) := by
  intro h th y0 y1
  unfold f_M_init_128
  refine Mo_pR (fun h1 => ?_)
  refine Mo_nwA (fun q2 h3 => ?_)
  exact mo_M_init_136 N   h3 th (some th) (some q2)
theorem mo_M_init_120 (N : Nat)  : ∀  (h : hS) (th : Nat) (y0 : Option Nat) (y1 : Option Nat), Mo h (f_M_init_120 N   h th y0 y1) := by
  intro h th y0 y1
  unfold f_M_init_120
  refine Mo_pR (fun h1 => ?_)
  refine Mo_nwA (fun q2 h3 => ?_)
  exact mo_M_init_128 N   h3 th (some th) (some q2)
theorem mo_M_init_111 (N : Nat)  : ∀  (h : hS) (th : Nat) (y0 : Option Nat) (y1 : Option Nat), Mo h (f_M_init_111 N   h th y0 y1) := by
  intro h th y0 y1
  unfold f_M_init_111
  refine Mo_pR (fun h1 => ?_)
  refine Mo_nwA (fun q2 h3 => ?_)
  exact mo_M_init_120 N   h3 th (some th) (some q2)
theorem mo_M_init_101 (N : Nat)  : ∀  (h : hS) (th : Nat) (y0 : Option Nat) (y1 : Option Nat), Mo h (f_M_init_101 N   h th y0 y1) := by
  intro h th y0 y1
  unfold f_M_init_101
  refine Mo_pR (fun h1 => ?_)
  refine Mo_nwA (fun q2 h3 => ?_)
  exact mo_M_init_111 N   h3 th (some th) (some q2)
theorem mo_M_init_92 (N : Nat)  : ∀  (h : hS) (th : Nat) (y0 : Option Nat) (y1 : Option Nat), Mo h (f_M_init_92 N   h th y0 y1) := by
  intro h th y0 y1
  unfold f_M_init_92
  refine Mo_pR (fun h1 => ?_)
  refine Mo_nwA (fun q2 h3 => ?_)
  exact mo_M_init_101 N   h3 th (some th) (some q2)
theorem mo_M_init_83 (N : Nat)  : ∀  (h : hS) (th : Nat) (y0 : Option Nat) (y1 : Option Nat), Mo h (f_M_init_83 N   h th y0 y1) := by
  intro h th y0 y1
  unfold f_M_init_83
  refine Mo_pR (fun h1 => ?_)
  refine Mo_nwA (fun q2 h3 => ?_)
  exact mo_M_init_92 N   h3 th (some th) (some q2)
theorem mo_M_init_74 (N : Nat)  : ∀  (h : hS) (th : Nat) (y0 : Option Nat) (y1 : Option Nat), Mo h (f_M_init_74 N   h th y0 y1) := by
  intro h th y0 y1
  unfold f_M_init_74
  refine Mo_pR (fun h1 => ?_)
  refine Mo_nwA (fun q2 h3 => ?_)
  exact mo_M_init_83 N   h3 th (some th) (some q2)
theorem mo_M_init_67 (N : Nat)  : ∀  (h : hS) (th : Nat) (y0 : Option Nat) (y1 : Option Nat), Mo h (f_M_init_67 N   h th y0 y1) := by
  intro h th y0 y1
  unfold f_M_init_67
  refine Mo_pR (fun h1 => ?_)
  refine Mo_nwA (fun q2 h3 => ?_)
  exact mo_M_init_74 N   h3 th (some th) (some q2)
theorem mo_M_init_10 (N : Nat)  : ∀  (h : hS) (th : Nat) (y0 : Option Nat) (y1 : Option Nat), Mo h (f_M_init_10 N   h th y0 y1) := by
  intro h th y0 y1
  unfold f_M_init_10
  refine Mo_bn (fun v1 => ?_)
  refine Mo_uS (fun h2 => ?_)
  refine Mo_bn (fun v3 => ?_)
  refine Mo_uS (fun h4 => ?_)
  refine Mo_bn (fun v5 => ?_)
  refine Mo_uS (fun h6 => ?_)
  refine Mo_bn (fun v7 => ?_)
  refine Mo_uS (fun h8 => ?_)
  refine Mo_bn (fun v9 => ?_)
  refine Mo_uS (fun h10 => ?_)
  refine Mo_bn (fun v11 => ?_)
  refine Mo_uS (fun h12 => ?_)
  refine Mo_bn (fun v13 => ?_)
  refine Mo_uS (fun h14 => ?_)
  refine Mo_bn (fun v15 => ?_)
  refine Mo_uS (fun h16 => ?_)
  refine Mo_bn (fun v17 => ?_)
  refine Mo_uS (fun h18 => ?_)
  refine Mo_pR (fun h19 => ?_)
  refine Mo_nwA (fun q20 h21 => ?_)
  exact mo_M_init_67 N   h21 th (some th) (some q20)
theorem mo_M_init (N : Nat) (h : hS) (th : Nat) : Mo h (f_M_init N h th) := by
  unfold f_M_init
  refine Mo_nwA (fun q1 h2 => ?_)
  exact mo_M_init_10 N   h2 th (some th) (some q1)
set_option maxRecDepth 20000 in
set_option maxHeartbeats 4000000 in
theorem b_M_init_311 {p : Program} {l : Launch} {e : Env} {s : State} {m : MethodId} {args : Array Value} {below : List Frame} {meth : Method} {c : Code} {D : va_G} {cy : cyT} {z : Nat} (C : MX p s m args meth c cX12_init 1 (none) RX12 (Cond.code yX12_init cX12_init 1 (none) :: GW)) (hni : meth.name = "<init>") (N : Nat) (n0 s0 : Nat) (hn0 : s.heap.size = n0) {r : Unit} {g : hS}  : ∀  (cells slots : Nat) (h : hS) (y0 : Option Nat) (y1 : Option Nat) (H : Heap) (locs : List Loc) (ls : Array Slot), wd D cy z s cells h H locs → h_s h = s0 + slots → lv_has ls 1 [] → f_M_init_311 N   h y0 y1 = some (r, g) → W p l e { frames := 1, cells := h_x g - n0, slots := h_s g - s0, locals := 44 } s m args below meth c H locs cells slots (MQ below (eQ D cy z (rV r) g) args s (h_x g - n0) (h_s g - s0) (fun q => z ≤ q)) (F0 m 311 ls [va_rf y1, va_rf y0]) := by
  obtain ⟨hx, hb, hr, hml, hown, hts, hlk⟩ := id C
  intro cells slots h y0 y1 H locs ls w hsl hl hE
  have hcc : cells ≤ h_x g - n0 ∧ slots ≤ h_s g - s0 := by
    have q1 := mo_M_init_311 N  h y0 y1 _ _ hE
    have q2 := wd_x w
    have q3 := q1.1
    have q4 := q1.2.1
    omega
  unfold f_M_init_311 at hE
  refine w_pRF (r := y0) (ci := 0) (k := 56) (v := y1) (Or.inr ⟨_, rfl⟩) C w rfl (by decide) (by unfold roK; omega) (GF_wsX120 _) tyX12 tyX12_ok nmX12 (by decide) rfl (List.mem_cons_of_mem _ gw_8_5) rfl rfl hni rfl (tyX12_ok 56 (by decide)) dX12_init_311 hE (fun h1 H locs w hsh1 e1 => ?_)
  have hsl := hsh1.2.2.2.trans hsl
  refine W.widen (k := h_x g - n0) (n := h_s g - s0) hcc.1 hcc.2 ?_
  exact w_vret C w e1 dX12_init_314
set_option maxRecDepth 20000 in
set_option maxHeartbeats 4000000 in
theorem b_M_init_303 {p : Program} {l : Launch} {e : Env} {s : State} {m : MethodId} {args : Array Value} {below : List Frame} {meth : Method} {c : Code} {D : va_G} {cy : cyT} {z : Nat} (C : MX p s m args meth c cX12_init 1 (none) RX12 (Cond.code yX12_init cX12_init 1 (none) :: GW)) (hni : meth.name = "<init>") (N : Nat) (n0 s0 : Nat) (hn0 : s.heap.size = n0) {r : Unit} {g : hS}  : ∀  (cells slots : Nat) (h : hS) (th : Nat) (y0 : Option Nat) (y1 : Option Nat) (H : Heap) (locs : List Loc) (ls : Array Slot), wd D cy z s cells h H locs → h_s h = s0 + slots → lv_has ls 1 [(0, .ref th)] → f_M_init_303 N   h th y0 y1 = some (r, g) → W p l e { frames := 1, cells := h_x g - n0, slots := h_s g - s0, locals := 44 } s m args below meth c H locs cells slots (MQ below (eQ D cy z (rV r) g) args s (h_x g - n0) (h_s g - s0) (fun q => z ≤ q)) (F0 m 303 ls [va_rf y1, va_rf y0]) := by
  obtain ⟨hx, hb, hr, hml, hown, hts, hlk⟩ := id C
  intro cells slots h th y0 y1 H locs ls w hsl hl hE
  have hcc : cells ≤ h_x g - n0 ∧ slots ≤ h_s g - s0 := by
    have q1 := mo_M_init_303 N  h th y0 y1 _ _ hE
    have q2 := wd_x w
    have q3 := q1.1
    have q4 := q1.2.1
    omega
  unfold f_M_init_303 at hE
  refine w_pRF (r := y0) (ci := 0) (k := 55) (v := y1) (Or.inr ⟨_, rfl⟩) C w rfl (by decide) (by unfold roK; omega) (GF_wsX120 _) tyX12 tyX12_ok nmX12 (by decide) rfl (List.mem_cons_of_mem _ gw_8_4) rfl rfl hni rfl (tyX12_ok 55 (by decide)) dX12_init_303 hE (fun h1 H locs w hsh1 e1 => ?_)
  have hsl := hsh1.2.2.2.trans hsl
  refine lv_aload_n hx hb dX12_init_306 rfl (lv_at hl 0 rfl) ?_
  refine lv_bipush (v := 8) hx hb dX12_init_307 (by decide) ?_
  have hm := mo_M_init_311 N   (nw h1 51 (8 : Int32).toNatClampNeg (8 : Int32).toNatClampNeg) (some th) (some (h_x h1)) _ _ (nwA_some e1).2
  have hm1 := hm.1
  have hm2 := hm.2.1
  rw [h_x_nw] at hm1
  rw [h_s_nw] at hm2
  have hwx := wd_x w
  refine w_nwJ C w (List.mem_cons_of_mem _ gw_1_6) dX12_init_309 e1 (by show cells + 1 ≤ h_x g - n0; omega) (by show slots + _ ≤ h_s g - s0; omega) (fun H w e2 => ?_)
  exact b_M_init_311 C hni N n0 s0 hn0   (cells + 1) (slots + (8 : Int32).toNatClampNeg) (nw h1 51 (8 : Int32).toNatClampNeg (8 : Int32).toNatClampNeg) (some th) (some (h_x h1)) _ _ ls w (by first | (rw [h_s_nw, hsl]; done) | (rw [h_s_nw, hsl]; omega)) (lv_sub hl [] rfl) e2
set_option maxRecDepth 20000 in
set_option maxHeartbeats 4000000 in
theorem b_M_init_296 {p : Program} {l : Launch} {e : Env} {s : State} {m : MethodId} {args : Array Value} {below : List Frame} {meth : Method} {c : Code} {D : va_G} {cy : cyT} {z : Nat} (C : MX p s m args meth c cX12_init 1 (none) RX12 (Cond.code yX12_init cX12_init 1 (none) :: GW)) (hni : meth.name = "<init>") (N : Nat) (n0 s0 : Nat) (hn0 : s.heap.size = n0) {r : Unit} {g : hS}  : ∀  (cells slots : Nat) (h : hS) (th : Nat) (y0 : Option Nat) (y1 : Option Nat) (H : Heap) (locs : List Loc) (ls : Array Slot), wd D cy z s cells h H locs → h_s h = s0 + slots → lv_has ls 1 [(0, .ref th)] → f_M_init_296 N   h th y0 y1 = some (r, g) → W p l e { frames := 1, cells := h_x g - n0, slots := h_s g - s0, locals := 44 } s m args below meth c H locs cells slots (MQ below (eQ D cy z (rV r) g) args s (h_x g - n0) (h_s g - s0) (fun q => z ≤ q)) (F0 m 296 ls [va_rf y1, va_rf y0]) := by
  obtain ⟨hx, hb, hr, hml, hown, hts, hlk⟩ := id C
  intro cells slots h th y0 y1 H locs ls w hsl hl hE
  have hcc : cells ≤ h_x g - n0 ∧ slots ≤ h_s g - s0 := by
    have q1 := mo_M_init_296 N  h th y0 y1 _ _ hE
    have q2 := wd_x w
    have q3 := q1.1
    have q4 := q1.2.1
    omega
  unfold f_M_init_296 at hE
  refine w_pRF (r := y0) (ci := 0) (k := 54) (v := y1) (Or.inr ⟨_, rfl⟩) C w rfl (by decide) (by unfold roK; omega) (GF_wsX120 _) tyX12 tyX12_ok nmX12 (by decide) rfl (List.mem_cons_of_mem _ gw_8_3) rfl rfl hni rfl (tyX12_ok 54 (by decide)) dX12_init_296 hE (fun h1 H locs w hsh1 e1 => ?_)
  have hsl := hsh1.2.2.2.trans hsl
  refine lv_aload_n hx hb dX12_init_299 rfl (lv_at hl 0 rfl) ?_
  refine lv_iconst (v := 3) hx hb dX12_init_300 (by decide) ?_
  have hm := mo_M_init_303 N   (nw h1 50 (3 : Int32).toNatClampNeg (3 : Int32).toNatClampNeg) th (some th) (some (h_x h1)) _ _ (nwA_some e1).2
  have hm1 := hm.1
  have hm2 := hm.2.1
  rw [h_x_nw] at hm1
  rw [h_s_nw] at hm2
  have hwx := wd_x w
  refine w_nwI C w (List.mem_cons_of_mem _ gw_2_16) dX12_init_301 e1 (by show cells + 1 ≤ h_x g - n0; omega) (by show slots + _ ≤ h_s g - s0; omega) (fun H w e2 => ?_)
  exact b_M_init_303 C hni N n0 s0 hn0   (cells + 1) (slots + (3 : Int32).toNatClampNeg) (nw h1 50 (3 : Int32).toNatClampNeg (3 : Int32).toNatClampNeg) th (some th) (some (h_x h1)) _ _ ls w (by first | (rw [h_s_nw, hsl]; done) | (rw [h_s_nw, hsl]; omega)) (lv_sub hl [0] rfl) e2
set_option maxRecDepth 20000 in
set_option maxHeartbeats 4000000 in
theorem b_M_init_288 {p : Program} {l : Launch} {e : Env} {s : State} {m : MethodId} {args : Array Value} {below : List Frame} {meth : Method} {c : Code} {D : va_G} {cy : cyT} {z : Nat} (C : MX p s m args meth c cX12_init 1 (none) RX12 (Cond.code yX12_init cX12_init 1 (none) :: GW)) (hni : meth.name = "<init>") (N : Nat) (n0 s0 : Nat) (hn0 : s.heap.size = n0) {r : Unit} {g : hS}  : ∀  (cells slots : Nat) (h : hS) (th : Nat) (y0 : Option Nat) (y1 : Option Nat) (H : Heap) (locs : List Loc) (ls : Array Slot), wd D cy z s cells h H locs → h_s h = s0 + slots → lv_has ls 1 [(0, .ref th)] → f_M_init_288 N   h th y0 y1 = some (r, g) → W p l e { frames := 1, cells := h_x g - n0, slots := h_s g - s0, locals := 44 } s m args below meth c H locs cells slots (MQ below (eQ D cy z (rV r) g) args s (h_x g - n0) (h_s g - s0) (fun q => z ≤ q)) (F0 m 288 ls [va_rf y1, va_rf y0]) := by
  obtain ⟨hx, hb, hr, hml, hown, hts, hlk⟩ := id C
  intro cells slots h th y0 y1 H locs ls w hsl hl hE
  have hcc : cells ≤ h_x g - n0 ∧ slots ≤ h_s g - s0 := by
    have q1 := mo_M_init_288 N  h th y0 y1 _ _ hE
    have q2 := wd_x w
    have q3 := q1.1
    have q4 := q1.2.1
    omega
  unfold f_M_init_288 at hE
  refine w_pRF (r := y0) (ci := 0) (k := 53) (v := y1) (Or.inr ⟨_, rfl⟩) C w rfl (by decide) (by unfold roK; omega) (GF_wsX120 _) tyX12 tyX12_ok nmX12 (by decide) rfl (List.mem_cons_of_mem _ gw_8_2) rfl rfl hni rfl (tyX12_ok 53 (by decide)) dX12_init_288 hE (fun h1 H locs w hsh1 e1 => ?_)
  have hsl := hsh1.2.2.2.trans hsl
  refine lv_aload_n hx hb dX12_init_291 rfl (lv_at hl 0 rfl) ?_
  refine lv_bipush (v := 8) hx hb dX12_init_292 (by decide) ?_
  have hm := mo_M_init_296 N   (nw h1 50 (8 : Int32).toNatClampNeg (8 : Int32).toNatClampNeg) th (some th) (some (h_x h1)) _ _ (nwA_some e1).2
  have hm1 := hm.1
  have hm2 := hm.2.1
  rw [h_x_nw] at hm1
  rw [h_s_nw] at hm2
  have hwx := wd_x w
  refine w_nwI C w (List.mem_cons_of_mem _ gw_2_16) dX12_init_294 e1 (by show cells + 1 ≤ h_x g - n0; omega) (by show slots + _ ≤ h_s g - s0; omega) (fun H w e2 => ?_)
  exact b_M_init_296 C hni N n0 s0 hn0   (cells + 1) (slots + (8 : Int32).toNatClampNeg) (nw h1 50 (8 : Int32).toNatClampNeg (8 : Int32).toNatClampNeg) th (some th) (some (h_x h1)) _ _ ls w (by first | (rw [h_s_nw, hsl]; done) | (rw [h_s_nw, hsl]; omega)) (lv_sub hl [0] rfl) e2
set_option maxRecDepth 20000 in
set_option maxHeartbeats 4000000 in
theorem b_M_init_279 {p : Program} {l : Launch} {e : Env} {s : State} {m : MethodId} {args : Array Value} {below : List Frame} {meth : Method} {c : Code} {D : va_G} {cy : cyT} {z : Nat} (C : MX p s m args meth c cX12_init 1 (none) RX12 (Cond.code yX12_init cX12_init 1 (none) :: GW)) (hni : meth.name = "<init>") (N : Nat) (n0 s0 : Nat) (hn0 : s.heap.size = n0) {r : Unit} {g : hS}  : ∀  (cells slots : Nat) (h : hS) (th : Nat) (y0 : Option Nat) (y1 : Option Nat) (H : Heap) (locs : List Loc) (ls : Array Slot), wd D cy z s cells h H locs → h_s h = s0 + slots → lv_has ls 1 [(0, .ref th)] → f_M_init_279 N   h th y0 y1 = some (r, g) → W p l e { frames := 1, cells := h_x g - n0, slots := h_s g - s0, locals := 44 } s m args below meth c H locs cells slots (MQ below (eQ D cy z (rV r) g) args s (h_x g - n0) (h_s g - s0) (fun q => z ≤ q)) (F0 m 279 ls [va_rf y1, va_rf y0]) := by
  obtain ⟨hx, hb, hr, hml, hown, hts, hlk⟩ := id C
  intro cells slots h th y0 y1 H locs ls w hsl hl hE
  have hcc : cells ≤ h_x g - n0 ∧ slots ≤ h_s g - s0 := by
    have q1 := mo_M_init_279 N  h th y0 y1 _ _ hE
    have q2 := wd_x w
    have q3 := q1.1
    have q4 := q1.2.1
    omega
  unfold f_M_init_279 at hE
  refine w_pRF (r := y0) (ci := 0) (k := 52) (v := y1) (Or.inr ⟨_, rfl⟩) C w rfl (by decide) (by unfold roK; omega) (GF_wsX120 _) tyX12 tyX12_ok nmX12 (by decide) rfl (List.mem_cons_of_mem _ gw_8_1) rfl rfl hni rfl (tyX12_ok 52 (by decide)) dX12_init_279 hE (fun h1 H locs w hsh1 e1 => ?_)
  have hsl := hsh1.2.2.2.trans hsl
  refine lv_aload_n hx hb dX12_init_282 rfl (lv_at hl 0 rfl) ?_
  refine lv_sipush (v := 25760) hx hb dX12_init_283 (by decide) ?_
  have hm := mo_M_init_288 N   (nw h1 50 (25760 : Int32).toNatClampNeg (25760 : Int32).toNatClampNeg) th (some th) (some (h_x h1)) _ _ (nwA_some e1).2
  have hm1 := hm.1
  have hm2 := hm.2.1
  rw [h_x_nw] at hm1
  rw [h_s_nw] at hm2
  have hwx := wd_x w
  refine w_nwI C w (List.mem_cons_of_mem _ gw_2_16) dX12_init_286 e1 (by show cells + 1 ≤ h_x g - n0; omega) (by show slots + _ ≤ h_s g - s0; omega) (fun H w e2 => ?_)
  exact b_M_init_288 C hni N n0 s0 hn0   (cells + 1) (slots + (25760 : Int32).toNatClampNeg) (nw h1 50 (25760 : Int32).toNatClampNeg (25760 : Int32).toNatClampNeg) th (some th) (some (h_x h1)) _ _ ls w (by first | (rw [h_s_nw, hsl]; done) | (rw [h_s_nw, hsl]; omega)) (lv_sub hl [0] rfl) e2
set_option maxRecDepth 20000 in
set_option maxHeartbeats 4000000 in
theorem b_M_init_270 {p : Program} {l : Launch} {e : Env} {s : State} {m : MethodId} {args : Array Value} {below : List Frame} {meth : Method} {c : Code} {D : va_G} {cy : cyT} {z : Nat} (C : MX p s m args meth c cX12_init 1 (none) RX12 (Cond.code yX12_init cX12_init 1 (none) :: GW)) (hni : meth.name = "<init>") (N : Nat) (n0 s0 : Nat) (hn0 : s.heap.size = n0) {r : Unit} {g : hS}  : ∀  (cells slots : Nat) (h : hS) (th : Nat) (y0 : Option Nat) (y1 : Option Nat) (H : Heap) (locs : List Loc) (ls : Array Slot), wd D cy z s cells h H locs → h_s h = s0 + slots → lv_has ls 1 [(0, .ref th)] → f_M_init_270 N   h th y0 y1 = some (r, g) → W p l e { frames := 1, cells := h_x g - n0, slots := h_s g - s0, locals := 44 } s m args below meth c H locs cells slots (MQ below (eQ D cy z (rV r) g) args s (h_x g - n0) (h_s g - s0) (fun q => z ≤ q)) (F0 m 270 ls [va_rf y1, va_rf y0]) := by
  obtain ⟨hx, hb, hr, hml, hown, hts, hlk⟩ := id C
  intro cells slots h th y0 y1 H locs ls w hsl hl hE
  have hcc : cells ≤ h_x g - n0 ∧ slots ≤ h_s g - s0 := by
    have q1 := mo_M_init_270 N  h th y0 y1 _ _ hE
    have q2 := wd_x w
    have q3 := q1.1
    have q4 := q1.2.1
    omega
  unfold f_M_init_270 at hE
  refine w_pRF (r := y0) (ci := 0) (k := 47) (v := y1) (Or.inr ⟨_, rfl⟩) C w rfl (by decide) (by unfold roK; omega) (GF_wsX120 _) tyX12 tyX12_ok nmX12 (by decide) rfl (List.mem_cons_of_mem _ gw_8_0) rfl rfl hni rfl (tyX12_ok 47 (by decide)) dX12_init_270 hE (fun h1 H locs w hsh1 e1 => ?_)
  have hsl := hsh1.2.2.2.trans hsl
  refine lv_aload_n hx hb dX12_init_273 rfl (lv_at hl 0 rfl) ?_
  refine lv_sipush (v := 644) hx hb dX12_init_274 (by decide) ?_
  have hm := mo_M_init_279 N   (nw h1 50 (644 : Int32).toNatClampNeg (644 : Int32).toNatClampNeg) th (some th) (some (h_x h1)) _ _ (nwA_some e1).2
  have hm1 := hm.1
  have hm2 := hm.2.1
  rw [h_x_nw] at hm1
  rw [h_s_nw] at hm2
  have hwx := wd_x w
  refine w_nwI C w (List.mem_cons_of_mem _ gw_2_16) dX12_init_277 e1 (by show cells + 1 ≤ h_x g - n0; omega) (by show slots + _ ≤ h_s g - s0; omega) (fun H w e2 => ?_)
  exact b_M_init_279 C hni N n0 s0 hn0   (cells + 1) (slots + (644 : Int32).toNatClampNeg) (nw h1 50 (644 : Int32).toNatClampNeg (644 : Int32).toNatClampNeg) th (some th) (some (h_x h1)) _ _ ls w (by first | (rw [h_s_nw, hsl]; done) | (rw [h_s_nw, hsl]; omega)) (lv_sub hl [0] rfl) e2
set_option maxRecDepth 20000 in
set_option maxHeartbeats 4000000 in
theorem b_M_init_261 {p : Program} {l : Launch} {e : Env} {s : State} {m : MethodId} {args : Array Value} {below : List Frame} {meth : Method} {c : Code} {D : va_G} {cy : cyT} {z : Nat} (C : MX p s m args meth c cX12_init 1 (none) RX12 (Cond.code yX12_init cX12_init 1 (none) :: GW)) (hni : meth.name = "<init>") (N : Nat) (n0 s0 : Nat) (hn0 : s.heap.size = n0) {r : Unit} {g : hS}  : ∀  (cells slots : Nat) (h : hS) (th : Nat) (y0 : Option Nat) (y1 : Option Nat) (H : Heap) (locs : List Loc) (ls : Array Slot), wd D cy z s cells h H locs → h_s h = s0 + slots → lv_has ls 1 [(0, .ref th)] → f_M_init_261 N   h th y0 y1 = some (r, g) → W p l e { frames := 1, cells := h_x g - n0, slots := h_s g - s0, locals := 44 } s m args below meth c H locs cells slots (MQ below (eQ D cy z (rV r) g) args s (h_x g - n0) (h_s g - s0) (fun q => z ≤ q)) (F0 m 261 ls [va_rf y1, va_rf y0]) := by
  obtain ⟨hx, hb, hr, hml, hown, hts, hlk⟩ := id C
  intro cells slots h th y0 y1 H locs ls w hsl hl hE
  have hcc : cells ≤ h_x g - n0 ∧ slots ≤ h_s g - s0 := by
    have q1 := mo_M_init_261 N  h th y0 y1 _ _ hE
    have q2 := wd_x w
    have q3 := q1.1
    have q4 := q1.2.1
    omega
  unfold f_M_init_261 at hE
  refine w_pRF (r := y0) (ci := 0) (k := 46) (v := y1) (Or.inr ⟨_, rfl⟩) C w rfl (by decide) (by unfold roK; omega) (GF_wsX120 _) tyX12 tyX12_ok nmX12 (by decide) rfl (List.mem_cons_of_mem _ gw_7_23) rfl rfl hni rfl (tyX12_ok 46 (by decide)) dX12_init_261 hE (fun h1 H locs w hsh1 e1 => ?_)
  have hsl := hsh1.2.2.2.trans hsl
  refine lv_aload_n hx hb dX12_init_264 rfl (lv_at hl 0 rfl) ?_
  refine lv_sipush (v := 1681) hx hb dX12_init_265 (by decide) ?_
  have hm := mo_M_init_270 N   (nw h1 51 (1681 : Int32).toNatClampNeg (1681 : Int32).toNatClampNeg) th (some th) (some (h_x h1)) _ _ (nwA_some e1).2
  have hm1 := hm.1
  have hm2 := hm.2.1
  rw [h_x_nw] at hm1
  rw [h_s_nw] at hm2
  have hwx := wd_x w
  refine w_nwJ C w (List.mem_cons_of_mem _ gw_1_6) dX12_init_268 e1 (by show cells + 1 ≤ h_x g - n0; omega) (by show slots + _ ≤ h_s g - s0; omega) (fun H w e2 => ?_)
  exact b_M_init_270 C hni N n0 s0 hn0   (cells + 1) (slots + (1681 : Int32).toNatClampNeg) (nw h1 51 (1681 : Int32).toNatClampNeg (1681 : Int32).toNatClampNeg) th (some th) (some (h_x h1)) _ _ ls w (by first | (rw [h_s_nw, hsl]; done) | (rw [h_s_nw, hsl]; omega)) (lv_sub hl [0] rfl) e2
set_option maxRecDepth 20000 in
set_option maxHeartbeats 4000000 in
theorem b_M_init_253 {p : Program} {l : Launch} {e : Env} {s : State} {m : MethodId} {args : Array Value} {below : List Frame} {meth : Method} {c : Code} {D : va_G} {cy : cyT} {z : Nat} (C : MX p s m args meth c cX12_init 1 (none) RX12 (Cond.code yX12_init cX12_init 1 (none) :: GW)) (hni : meth.name = "<init>") (N : Nat) (n0 s0 : Nat) (hn0 : s.heap.size = n0) {r : Unit} {g : hS}  : ∀  (cells slots : Nat) (h : hS) (th : Nat) (y0 : Option Nat) (y1 : Option Nat) (H : Heap) (locs : List Loc) (ls : Array Slot), wd D cy z s cells h H locs → h_s h = s0 + slots → lv_has ls 1 [(0, .ref th)] → f_M_init_253 N   h th y0 y1 = some (r, g) → W p l e { frames := 1, cells := h_x g - n0, slots := h_s g - s0, locals := 44 } s m args below meth c H locs cells slots (MQ below (eQ D cy z (rV r) g) args s (h_x g - n0) (h_s g - s0) (fun q => z ≤ q)) (F0 m 253 ls [va_rf y1, va_rf y0]) := by
  obtain ⟨hx, hb, hr, hml, hown, hts, hlk⟩ := id C
  intro cells slots h th y0 y1 H locs ls w hsl hl hE
  have hcc : cells ≤ h_x g - n0 ∧ slots ≤ h_s g - s0 := by
    have q1 := mo_M_init_253 N  h th y0 y1 _ _ hE
    have q2 := wd_x w
    have q3 := q1.1
    have q4 := q1.2.1
    omega
  unfold f_M_init_253 at hE
  refine w_pRF (r := y0) (ci := 0) (k := 45) (v := y1) (Or.inr ⟨_, rfl⟩) C w rfl (by decide) (by unfold roK; omega) (GF_wsX120 _) tyX12 tyX12_ok nmX12 (by decide) rfl (List.mem_cons_of_mem _ gw_7_22) rfl rfl hni rfl (tyX12_ok 45 (by decide)) dX12_init_253 hE (fun h1 H locs w hsh1 e1 => ?_)
  have hsl := hsh1.2.2.2.trans hsl
  refine lv_aload_n hx hb dX12_init_256 rfl (lv_at hl 0 rfl) ?_
  refine lv_bipush (v := 41) hx hb dX12_init_257 (by decide) ?_
  have hm := mo_M_init_261 N   (nw h1 53 (41 : Int32).toNatClampNeg (41 : Int32).toNatClampNeg) th (some th) (some (h_x h1)) _ _ (nwA_some e1).2
  have hm1 := hm.1
  have hm2 := hm.2.1
  rw [h_x_nw] at hm1
  rw [h_s_nw] at hm2
  have hwx := wd_x w
  refine w_nwZ C w (List.mem_cons_of_mem _ gw_7_4) dX12_init_259 e1 (by show cells + 1 ≤ h_x g - n0; omega) (by show slots + _ ≤ h_s g - s0; omega) (fun H w e2 => ?_)
  exact b_M_init_261 C hni N n0 s0 hn0   (cells + 1) (slots + (41 : Int32).toNatClampNeg) (nw h1 53 (41 : Int32).toNatClampNeg (41 : Int32).toNatClampNeg) th (some th) (some (h_x h1)) _ _ ls w (by first | (rw [h_s_nw, hsl]; done) | (rw [h_s_nw, hsl]; omega)) (lv_sub hl [0] rfl) e2
set_option maxRecDepth 20000 in
set_option maxHeartbeats 4000000 in
theorem b_M_init_245 {p : Program} {l : Launch} {e : Env} {s : State} {m : MethodId} {args : Array Value} {below : List Frame} {meth : Method} {c : Code} {D : va_G} {cy : cyT} {z : Nat} (C : MX p s m args meth c cX12_init 1 (none) RX12 (Cond.code yX12_init cX12_init 1 (none) :: GW)) (hni : meth.name = "<init>") (N : Nat) (n0 s0 : Nat) (hn0 : s.heap.size = n0) {r : Unit} {g : hS}  : ∀  (cells slots : Nat) (h : hS) (th : Nat) (y0 : Option Nat) (y1 : Option Nat) (H : Heap) (locs : List Loc) (ls : Array Slot), wd D cy z s cells h H locs → h_s h = s0 + slots → lv_has ls 1 [(0, .ref th)] → f_M_init_245 N   h th y0 y1 = some (r, g) → W p l e { frames := 1, cells := h_x g - n0, slots := h_s g - s0, locals := 44 } s m args below meth c H locs cells slots (MQ below (eQ D cy z (rV r) g) args s (h_x g - n0) (h_s g - s0) (fun q => z ≤ q)) (F0 m 245 ls [va_rf y1, va_rf y0]) := by
  obtain ⟨hx, hb, hr, hml, hown, hts, hlk⟩ := id C
  intro cells slots h th y0 y1 H locs ls w hsl hl hE
  have hcc : cells ≤ h_x g - n0 ∧ slots ≤ h_s g - s0 := by
    have q1 := mo_M_init_245 N  h th y0 y1 _ _ hE
    have q2 := wd_x w
    have q3 := q1.1
    have q4 := q1.2.1
    omega
  unfold f_M_init_245 at hE
  refine w_pRF (r := y0) (ci := 0) (k := 44) (v := y1) (Or.inr ⟨_, rfl⟩) C w rfl (by decide) (by unfold roK; omega) (GF_wsX120 _) tyX12 tyX12_ok nmX12 (by decide) rfl (List.mem_cons_of_mem _ gw_7_21) rfl rfl hni rfl (tyX12_ok 44 (by decide)) dX12_init_245 hE (fun h1 H locs w hsh1 e1 => ?_)
  have hsl := hsh1.2.2.2.trans hsl
  refine lv_aload_n hx hb dX12_init_248 rfl (lv_at hl 0 rfl) ?_
  refine lv_bipush (v := 8) hx hb dX12_init_249 (by decide) ?_
  have hm := mo_M_init_253 N   (nw h1 51 (8 : Int32).toNatClampNeg (8 : Int32).toNatClampNeg) th (some th) (some (h_x h1)) _ _ (nwA_some e1).2
  have hm1 := hm.1
  have hm2 := hm.2.1
  rw [h_x_nw] at hm1
  rw [h_s_nw] at hm2
  have hwx := wd_x w
  refine w_nwJ C w (List.mem_cons_of_mem _ gw_1_6) dX12_init_251 e1 (by show cells + 1 ≤ h_x g - n0; omega) (by show slots + _ ≤ h_s g - s0; omega) (fun H w e2 => ?_)
  exact b_M_init_253 C hni N n0 s0 hn0   (cells + 1) (slots + (8 : Int32).toNatClampNeg) (nw h1 51 (8 : Int32).toNatClampNeg (8 : Int32).toNatClampNeg) th (some th) (some (h_x h1)) _ _ ls w (by first | (rw [h_s_nw, hsl]; done) | (rw [h_s_nw, hsl]; omega)) (lv_sub hl [0] rfl) e2
set_option maxRecDepth 20000 in
set_option maxHeartbeats 4000000 in
theorem b_M_init_237 {p : Program} {l : Launch} {e : Env} {s : State} {m : MethodId} {args : Array Value} {below : List Frame} {meth : Method} {c : Code} {D : va_G} {cy : cyT} {z : Nat} (C : MX p s m args meth c cX12_init 1 (none) RX12 (Cond.code yX12_init cX12_init 1 (none) :: GW)) (hni : meth.name = "<init>") (N : Nat) (n0 s0 : Nat) (hn0 : s.heap.size = n0) {r : Unit} {g : hS}  : ∀  (cells slots : Nat) (h : hS) (th : Nat) (y0 : Option Nat) (y1 : Option Nat) (H : Heap) (locs : List Loc) (ls : Array Slot), wd D cy z s cells h H locs → h_s h = s0 + slots → lv_has ls 1 [(0, .ref th)] → f_M_init_237 N   h th y0 y1 = some (r, g) → W p l e { frames := 1, cells := h_x g - n0, slots := h_s g - s0, locals := 44 } s m args below meth c H locs cells slots (MQ below (eQ D cy z (rV r) g) args s (h_x g - n0) (h_s g - s0) (fun q => z ≤ q)) (F0 m 237 ls [va_rf y1, va_rf y0]) := by
  obtain ⟨hx, hb, hr, hml, hown, hts, hlk⟩ := id C
  intro cells slots h th y0 y1 H locs ls w hsl hl hE
  have hcc : cells ≤ h_x g - n0 ∧ slots ≤ h_s g - s0 := by
    have q1 := mo_M_init_237 N  h th y0 y1 _ _ hE
    have q2 := wd_x w
    have q3 := q1.1
    have q4 := q1.2.1
    omega
  unfold f_M_init_237 at hE
  refine w_pRF (r := y0) (ci := 0) (k := 42) (v := y1) (Or.inr ⟨_, rfl⟩) C w rfl (by decide) (by unfold roK; omega) (GF_wsX120 _) tyX12 tyX12_ok nmX12 (by decide) rfl (List.mem_cons_of_mem _ gw_7_20) rfl rfl hni rfl (tyX12_ok 42 (by decide)) dX12_init_237 hE (fun h1 H locs w hsh1 e1 => ?_)
  have hsl := hsh1.2.2.2.trans hsl
  refine lv_aload_n hx hb dX12_init_240 rfl (lv_at hl 0 rfl) ?_
  refine lv_bipush (v := 8) hx hb dX12_init_241 (by decide) ?_
  have hm := mo_M_init_245 N   (nw h1 50 (8 : Int32).toNatClampNeg (8 : Int32).toNatClampNeg) th (some th) (some (h_x h1)) _ _ (nwA_some e1).2
  have hm1 := hm.1
  have hm2 := hm.2.1
  rw [h_x_nw] at hm1
  rw [h_s_nw] at hm2
  have hwx := wd_x w
  refine w_nwI C w (List.mem_cons_of_mem _ gw_2_16) dX12_init_243 e1 (by show cells + 1 ≤ h_x g - n0; omega) (by show slots + _ ≤ h_s g - s0; omega) (fun H w e2 => ?_)
  exact b_M_init_245 C hni N n0 s0 hn0   (cells + 1) (slots + (8 : Int32).toNatClampNeg) (nw h1 50 (8 : Int32).toNatClampNeg (8 : Int32).toNatClampNeg) th (some th) (some (h_x h1)) _ _ ls w (by first | (rw [h_s_nw, hsl]; done) | (rw [h_s_nw, hsl]; omega)) (lv_sub hl [0] rfl) e2
set_option maxRecDepth 20000 in
set_option maxHeartbeats 4000000 in
theorem b_M_init_228 {p : Program} {l : Launch} {e : Env} {s : State} {m : MethodId} {args : Array Value} {below : List Frame} {meth : Method} {c : Code} {D : va_G} {cy : cyT} {z : Nat} (C : MX p s m args meth c cX12_init 1 (none) RX12 (Cond.code yX12_init cX12_init 1 (none) :: GW)) (hni : meth.name = "<init>") (N : Nat) (n0 s0 : Nat) (hn0 : s.heap.size = n0) {r : Unit} {g : hS}  : ∀  (cells slots : Nat) (h : hS) (th : Nat) (y0 : Option Nat) (y1 : Option Nat) (H : Heap) (locs : List Loc) (ls : Array Slot), wd D cy z s cells h H locs → h_s h = s0 + slots → lv_has ls 1 [(0, .ref th)] → f_M_init_228 N   h th y0 y1 = some (r, g) → W p l e { frames := 1, cells := h_x g - n0, slots := h_s g - s0, locals := 44 } s m args below meth c H locs cells slots (MQ below (eQ D cy z (rV r) g) args s (h_x g - n0) (h_s g - s0) (fun q => z ≤ q)) (F0 m 228 ls [va_rf y1, va_rf y0]) := by
  obtain ⟨hx, hb, hr, hml, hown, hts, hlk⟩ := id C
  intro cells slots h th y0 y1 H locs ls w hsl hl hE
  have hcc : cells ≤ h_x g - n0 ∧ slots ≤ h_s g - s0 := by
    have q1 := mo_M_init_228 N  h th y0 y1 _ _ hE
    have q2 := wd_x w
    have q3 := q1.1
    have q4 := q1.2.1
    omega
  unfold f_M_init_228 at hE
  refine w_pRF (r := y0) (ci := 0) (k := 37) (v := y1) (Or.inr ⟨_, rfl⟩) C w rfl (by decide) (by unfold roK; omega) (GF_wsX120 _) tyX12 tyX12_ok nmX12 (by decide) rfl (List.mem_cons_of_mem _ gw_7_19) rfl rfl hni rfl (tyX12_ok 37 (by decide)) dX12_init_228 hE (fun h1 H locs w hsh1 e1 => ?_)
  have hsl := hsh1.2.2.2.trans hsl
  refine lv_aload_n hx hb dX12_init_231 rfl (lv_at hl 0 rfl) ?_
  refine lv_sipush (v := 25760) hx hb dX12_init_232 (by decide) ?_
  have hm := mo_M_init_237 N   (nw h1 50 (25760 : Int32).toNatClampNeg (25760 : Int32).toNatClampNeg) th (some th) (some (h_x h1)) _ _ (nwA_some e1).2
  have hm1 := hm.1
  have hm2 := hm.2.1
  rw [h_x_nw] at hm1
  rw [h_s_nw] at hm2
  have hwx := wd_x w
  refine w_nwI C w (List.mem_cons_of_mem _ gw_2_16) dX12_init_235 e1 (by show cells + 1 ≤ h_x g - n0; omega) (by show slots + _ ≤ h_s g - s0; omega) (fun H w e2 => ?_)
  exact b_M_init_237 C hni N n0 s0 hn0   (cells + 1) (slots + (25760 : Int32).toNatClampNeg) (nw h1 50 (25760 : Int32).toNatClampNeg (25760 : Int32).toNatClampNeg) th (some th) (some (h_x h1)) _ _ ls w (by first | (rw [h_s_nw, hsl]; done) | (rw [h_s_nw, hsl]; omega)) (lv_sub hl [0] rfl) e2
set_option maxRecDepth 20000 in
set_option maxHeartbeats 4000000 in
theorem b_M_init_219 {p : Program} {l : Launch} {e : Env} {s : State} {m : MethodId} {args : Array Value} {below : List Frame} {meth : Method} {c : Code} {D : va_G} {cy : cyT} {z : Nat} (C : MX p s m args meth c cX12_init 1 (none) RX12 (Cond.code yX12_init cX12_init 1 (none) :: GW)) (hni : meth.name = "<init>") (N : Nat) (n0 s0 : Nat) (hn0 : s.heap.size = n0) {r : Unit} {g : hS}  : ∀  (cells slots : Nat) (h : hS) (th : Nat) (y0 : Option Nat) (y1 : Option Nat) (H : Heap) (locs : List Loc) (ls : Array Slot), wd D cy z s cells h H locs → h_s h = s0 + slots → lv_has ls 1 [(0, .ref th)] → f_M_init_219 N   h th y0 y1 = some (r, g) → W p l e { frames := 1, cells := h_x g - n0, slots := h_s g - s0, locals := 44 } s m args below meth c H locs cells slots (MQ below (eQ D cy z (rV r) g) args s (h_x g - n0) (h_s g - s0) (fun q => z ≤ q)) (F0 m 219 ls [va_rf y1, va_rf y0]) := by
  obtain ⟨hx, hb, hr, hml, hown, hts, hlk⟩ := id C
  intro cells slots h th y0 y1 H locs ls w hsl hl hE
  have hcc : cells ≤ h_x g - n0 ∧ slots ≤ h_s g - s0 := by
    have q1 := mo_M_init_219 N  h th y0 y1 _ _ hE
    have q2 := wd_x w
    have q3 := q1.1
    have q4 := q1.2.1
    omega
  unfold f_M_init_219 at hE
  refine w_pRF (r := y0) (ci := 0) (k := 36) (v := y1) (Or.inr ⟨_, rfl⟩) C w rfl (by decide) (by unfold roK; omega) (GF_wsX120 _) tyX12 tyX12_ok nmX12 (by decide) rfl (List.mem_cons_of_mem _ gw_7_18) rfl rfl hni rfl (tyX12_ok 36 (by decide)) dX12_init_219 hE (fun h1 H locs w hsh1 e1 => ?_)
  have hsl := hsh1.2.2.2.trans hsl
  refine lv_aload_n hx hb dX12_init_222 rfl (lv_at hl 0 rfl) ?_
  refine lv_sipush (v := 2001) hx hb dX12_init_223 (by decide) ?_
  have hm := mo_M_init_228 N   (nw h1 51 (2001 : Int32).toNatClampNeg (2001 : Int32).toNatClampNeg) th (some th) (some (h_x h1)) _ _ (nwA_some e1).2
  have hm1 := hm.1
  have hm2 := hm.2.1
  rw [h_x_nw] at hm1
  rw [h_s_nw] at hm2
  have hwx := wd_x w
  refine w_nwJ C w (List.mem_cons_of_mem _ gw_1_6) dX12_init_226 e1 (by show cells + 1 ≤ h_x g - n0; omega) (by show slots + _ ≤ h_s g - s0; omega) (fun H w e2 => ?_)
  exact b_M_init_228 C hni N n0 s0 hn0   (cells + 1) (slots + (2001 : Int32).toNatClampNeg) (nw h1 51 (2001 : Int32).toNatClampNeg (2001 : Int32).toNatClampNeg) th (some th) (some (h_x h1)) _ _ ls w (by first | (rw [h_s_nw, hsl]; done) | (rw [h_s_nw, hsl]; omega)) (lv_sub hl [0] rfl) e2
set_option maxRecDepth 20000 in
set_option maxHeartbeats 4000000 in
theorem b_M_init_210 {p : Program} {l : Launch} {e : Env} {s : State} {m : MethodId} {args : Array Value} {below : List Frame} {meth : Method} {c : Code} {D : va_G} {cy : cyT} {z : Nat} (C : MX p s m args meth c cX12_init 1 (none) RX12 (Cond.code yX12_init cX12_init 1 (none) :: GW)) (hni : meth.name = "<init>") (N : Nat) (n0 s0 : Nat) (hn0 : s.heap.size = n0) {r : Unit} {g : hS}  : ∀  (cells slots : Nat) (h : hS) (th : Nat) (y0 : Option Nat) (y1 : Option Nat) (H : Heap) (locs : List Loc) (ls : Array Slot), wd D cy z s cells h H locs → h_s h = s0 + slots → lv_has ls 1 [(0, .ref th)] → f_M_init_210 N   h th y0 y1 = some (r, g) → W p l e { frames := 1, cells := h_x g - n0, slots := h_s g - s0, locals := 44 } s m args below meth c H locs cells slots (MQ below (eQ D cy z (rV r) g) args s (h_x g - n0) (h_s g - s0) (fun q => z ≤ q)) (F0 m 210 ls [va_rf y1, va_rf y0]) := by
  obtain ⟨hx, hb, hr, hml, hown, hts, hlk⟩ := id C
  intro cells slots h th y0 y1 H locs ls w hsl hl hE
  have hcc : cells ≤ h_x g - n0 ∧ slots ≤ h_s g - s0 := by
    have q1 := mo_M_init_210 N  h th y0 y1 _ _ hE
    have q2 := wd_x w
    have q3 := q1.1
    have q4 := q1.2.1
    omega
  unfold f_M_init_210 at hE
  refine w_pRF (r := y0) (ci := 0) (k := 34) (v := y1) (Or.inr ⟨_, rfl⟩) C w rfl (by decide) (by unfold roK; omega) (GF_wsX120 _) tyX12 tyX12_ok nmX12 (by decide) rfl (List.mem_cons_of_mem _ gw_7_17) rfl rfl hni rfl (tyX12_ok 34 (by decide)) dX12_init_210 hE (fun h1 H locs w hsh1 e1 => ?_)
  have hsl := hsh1.2.2.2.trans hsl
  refine lv_aload_n hx hb dX12_init_213 rfl (lv_at hl 0 rfl) ?_
  refine lv_sipush (v := 2001) hx hb dX12_init_214 (by decide) ?_
  have hm := mo_M_init_219 N   (nw h1 51 (2001 : Int32).toNatClampNeg (2001 : Int32).toNatClampNeg) th (some th) (some (h_x h1)) _ _ (nwA_some e1).2
  have hm1 := hm.1
  have hm2 := hm.2.1
  rw [h_x_nw] at hm1
  rw [h_s_nw] at hm2
  have hwx := wd_x w
  refine w_nwJ C w (List.mem_cons_of_mem _ gw_1_6) dX12_init_217 e1 (by show cells + 1 ≤ h_x g - n0; omega) (by show slots + _ ≤ h_s g - s0; omega) (fun H w e2 => ?_)
  exact b_M_init_219 C hni N n0 s0 hn0   (cells + 1) (slots + (2001 : Int32).toNatClampNeg) (nw h1 51 (2001 : Int32).toNatClampNeg (2001 : Int32).toNatClampNeg) th (some th) (some (h_x h1)) _ _ ls w (by first | (rw [h_s_nw, hsl]; done) | (rw [h_s_nw, hsl]; omega)) (lv_sub hl [0] rfl) e2
set_option maxRecDepth 20000 in
set_option maxHeartbeats 4000000 in
theorem b_M_init_201 {p : Program} {l : Launch} {e : Env} {s : State} {m : MethodId} {args : Array Value} {below : List Frame} {meth : Method} {c : Code} {D : va_G} {cy : cyT} {z : Nat} (C : MX p s m args meth c cX12_init 1 (none) RX12 (Cond.code yX12_init cX12_init 1 (none) :: GW)) (hni : meth.name = "<init>") (N : Nat) (n0 s0 : Nat) (hn0 : s.heap.size = n0) {r : Unit} {g : hS}  : ∀  (cells slots : Nat) (h : hS) (th : Nat) (y0 : Option Nat) (y1 : Option Nat) (H : Heap) (locs : List Loc) (ls : Array Slot), wd D cy z s cells h H locs → h_s h = s0 + slots → lv_has ls 1 [(0, .ref th)] → f_M_init_201 N   h th y0 y1 = some (r, g) → W p l e { frames := 1, cells := h_x g - n0, slots := h_s g - s0, locals := 44 } s m args below meth c H locs cells slots (MQ below (eQ D cy z (rV r) g) args s (h_x g - n0) (h_s g - s0) (fun q => z ≤ q)) (F0 m 201 ls [va_rf y1, va_rf y0]) := by
  obtain ⟨hx, hb, hr, hml, hown, hts, hlk⟩ := id C
  intro cells slots h th y0 y1 H locs ls w hsl hl hE
  have hcc : cells ≤ h_x g - n0 ∧ slots ≤ h_s g - s0 := by
    have q1 := mo_M_init_201 N  h th y0 y1 _ _ hE
    have q2 := wd_x w
    have q3 := q1.1
    have q4 := q1.2.1
    omega
  unfold f_M_init_201 at hE
  refine w_pRF (r := y0) (ci := 0) (k := 31) (v := y1) (Or.inr ⟨_, rfl⟩) C w rfl (by decide) (by unfold roK; omega) (GF_wsX120 _) tyX12 tyX12_ok nmX12 (by decide) rfl (List.mem_cons_of_mem _ gw_7_16) rfl rfl hni rfl (tyX12_ok 31 (by decide)) dX12_init_201 hE (fun h1 H locs w hsh1 e1 => ?_)
  have hsl := hsh1.2.2.2.trans hsl
  refine lv_aload_n hx hb dX12_init_204 rfl (lv_at hl 0 rfl) ?_
  refine lv_sipush (v := 10001) hx hb dX12_init_205 (by decide) ?_
  have hm := mo_M_init_210 N   (nw h1 51 (10001 : Int32).toNatClampNeg (10001 : Int32).toNatClampNeg) th (some th) (some (h_x h1)) _ _ (nwA_some e1).2
  have hm1 := hm.1
  have hm2 := hm.2.1
  rw [h_x_nw] at hm1
  rw [h_s_nw] at hm2
  have hwx := wd_x w
  refine w_nwJ C w (List.mem_cons_of_mem _ gw_1_6) dX12_init_208 e1 (by show cells + 1 ≤ h_x g - n0; omega) (by show slots + _ ≤ h_s g - s0; omega) (fun H w e2 => ?_)
  exact b_M_init_210 C hni N n0 s0 hn0   (cells + 1) (slots + (10001 : Int32).toNatClampNeg) (nw h1 51 (10001 : Int32).toNatClampNeg (10001 : Int32).toNatClampNeg) th (some th) (some (h_x h1)) _ _ ls w (by first | (rw [h_s_nw, hsl]; done) | (rw [h_s_nw, hsl]; omega)) (lv_sub hl [0] rfl) e2
set_option maxRecDepth 20000 in
set_option maxHeartbeats 4000000 in
theorem b_M_init_192 {p : Program} {l : Launch} {e : Env} {s : State} {m : MethodId} {args : Array Value} {below : List Frame} {meth : Method} {c : Code} {D : va_G} {cy : cyT} {z : Nat} (C : MX p s m args meth c cX12_init 1 (none) RX12 (Cond.code yX12_init cX12_init 1 (none) :: GW)) (hni : meth.name = "<init>") (N : Nat) (n0 s0 : Nat) (hn0 : s.heap.size = n0) {r : Unit} {g : hS}  : ∀  (cells slots : Nat) (h : hS) (th : Nat) (y0 : Option Nat) (y1 : Option Nat) (H : Heap) (locs : List Loc) (ls : Array Slot), wd D cy z s cells h H locs → h_s h = s0 + slots → lv_has ls 1 [(0, .ref th)] → f_M_init_192 N   h th y0 y1 = some (r, g) → W p l e { frames := 1, cells := h_x g - n0, slots := h_s g - s0, locals := 44 } s m args below meth c H locs cells slots (MQ below (eQ D cy z (rV r) g) args s (h_x g - n0) (h_s g - s0) (fun q => z ≤ q)) (F0 m 192 ls [va_rf y1, va_rf y0]) := by
  obtain ⟨hx, hb, hr, hml, hown, hts, hlk⟩ := id C
  intro cells slots h th y0 y1 H locs ls w hsl hl hE
  have hcc : cells ≤ h_x g - n0 ∧ slots ≤ h_s g - s0 := by
    have q1 := mo_M_init_192 N  h th y0 y1 _ _ hE
    have q2 := wd_x w
    have q3 := q1.1
    have q4 := q1.2.1
    omega
  unfold f_M_init_192 at hE
  refine w_pRF (r := y0) (ci := 0) (k := 30) (v := y1) (Or.inr ⟨_, rfl⟩) C w rfl (by decide) (by unfold roK; omega) (GF_wsX120 _) tyX12 tyX12_ok nmX12 (by decide) rfl (List.mem_cons_of_mem _ gw_7_15) rfl rfl hni rfl (tyX12_ok 30 (by decide)) dX12_init_192 hE (fun h1 H locs w hsh1 e1 => ?_)
  have hsl := hsh1.2.2.2.trans hsl
  refine lv_aload_n hx hb dX12_init_195 rfl (lv_at hl 0 rfl) ?_
  refine lv_sipush (v := 10001) hx hb dX12_init_196 (by decide) ?_
  have hm := mo_M_init_201 N   (nw h1 51 (10001 : Int32).toNatClampNeg (10001 : Int32).toNatClampNeg) th (some th) (some (h_x h1)) _ _ (nwA_some e1).2
  have hm1 := hm.1
  have hm2 := hm.2.1
  rw [h_x_nw] at hm1
  rw [h_s_nw] at hm2
  have hwx := wd_x w
  refine w_nwJ C w (List.mem_cons_of_mem _ gw_1_6) dX12_init_199 e1 (by show cells + 1 ≤ h_x g - n0; omega) (by show slots + _ ≤ h_s g - s0; omega) (fun H w e2 => ?_)
  exact b_M_init_201 C hni N n0 s0 hn0   (cells + 1) (slots + (10001 : Int32).toNatClampNeg) (nw h1 51 (10001 : Int32).toNatClampNeg (10001 : Int32).toNatClampNeg) th (some th) (some (h_x h1)) _ _ ls w (by first | (rw [h_s_nw, hsl]; done) | (rw [h_s_nw, hsl]; omega)) (lv_sub hl [0] rfl) e2
set_option maxRecDepth 20000 in
set_option maxHeartbeats 4000000 in
theorem b_M_init_179 {p : Program} {l : Launch} {e : Env} {s : State} {m : MethodId} {args : Array Value} {below : List Frame} {meth : Method} {c : Code} {D : va_G} {cy : cyT} {z : Nat} (C : MX p s m args meth c cX12_init 1 (none) RX12 (Cond.code yX12_init cX12_init 1 (none) :: GW)) (hni : meth.name = "<init>") (N : Nat) (n0 s0 : Nat) (hn0 : s.heap.size = n0) {r : Unit} {g : hS}  : ∀  (cells slots : Nat) (h : hS) (th : Nat) (y0 : Option Nat) (y1 : Option Nat) (H : Heap) (locs : List Loc) (ls : Array Slot), wd D cy z s cells h H locs → h_s h = s0 + slots → lv_has ls 1 [(0, .ref th)] → f_M_init_179 N   h th y0 y1 = some (r, g) → W p l e { frames := 1, cells := h_x g - n0, slots := h_s g - s0, locals := 44 } s m args below meth c H locs cells slots (MQ below (eQ D cy z (rV r) g) args s (h_x g - n0) (h_s g - s0) (fun q => z ≤ q)) (F0 m 179 ls [va_rf y1, va_rf y0]) := by
  obtain ⟨hx, hb, hr, hml, hown, hts, hlk⟩ := id C
  intro cells slots h th y0 y1 H locs ls w hsl hl hE
  have hcc : cells ≤ h_x g - n0 ∧ slots ≤ h_s g - s0 := by
    have q1 := mo_M_init_179 N  h th y0 y1 _ _ hE
    have q2 := wd_x w
    have q3 := q1.1
    have q4 := q1.2.1
    omega
  unfold f_M_init_179 at hE
  refine w_pRF (r := y0) (ci := 0) (k := 19) (v := y1) (Or.inr ⟨_, rfl⟩) C w rfl (by decide) (by unfold roK; omega) (GF_wsX120 _) tyX12 tyX12_ok nmX12 (by decide) rfl (List.mem_cons_of_mem _ gw_7_13) rfl rfl hni rfl (tyX12_ok 19 (by decide)) dX12_init_179 hE (fun h1 H locs w hsh1 e1 => ?_)
  have hsl := hsh1.2.2.2.trans hsl
  refine lv_aload_n hx hb dX12_init_182 rfl (lv_at hl 0 rfl) ?_
  refine lv_iconst (v := -1) hx hb dX12_init_183 (by decide) ?_
  refine w_pI (r := some th) (ci := 0) (k := 29) C w rfl (by decide) (by unfold roK; omega) (GF_wsX120 _) tyX12 tyX12_ok nmX12 (by decide) rfl (List.mem_cons_of_mem _ gw_7_14) rfl rfl (tyX12_ok 29 (by decide)) dX12_init_184 e1 (fun h2 H locs w hsh2 e2 => ?_)
  have hsl := hsh2.2.2.2.trans hsl
  refine lv_aload_n hx hb dX12_init_187 rfl (lv_at hl 0 rfl) ?_
  refine lv_bipush (v := 41) hx hb dX12_init_188 (by decide) ?_
  have hm := mo_M_init_192 N   (nw h2 50 (41 : Int32).toNatClampNeg (41 : Int32).toNatClampNeg) th (some th) (some (h_x h2)) _ _ (nwA_some e2).2
  have hm1 := hm.1
  have hm2 := hm.2.1
  rw [h_x_nw] at hm1
  rw [h_s_nw] at hm2
  have hwx := wd_x w
  refine w_nwI C w (List.mem_cons_of_mem _ gw_2_16) dX12_init_190 e2 (by show cells + 1 ≤ h_x g - n0; omega) (by show slots + _ ≤ h_s g - s0; omega) (fun H w e3 => ?_)
  exact b_M_init_192 C hni N n0 s0 hn0   (cells + 1) (slots + (41 : Int32).toNatClampNeg) (nw h2 50 (41 : Int32).toNatClampNeg (41 : Int32).toNatClampNeg) th (some th) (some (h_x h2)) _ _ ls w (by first | (rw [h_s_nw, hsl]; done) | (rw [h_s_nw, hsl]; omega)) (lv_sub hl [0] rfl) e3
set_option maxRecDepth 20000 in
set_option maxHeartbeats 4000000 in
theorem b_M_init_171 {p : Program} {l : Launch} {e : Env} {s : State} {m : MethodId} {args : Array Value} {below : List Frame} {meth : Method} {c : Code} {D : va_G} {cy : cyT} {z : Nat} (C : MX p s m args meth c cX12_init 1 (none) RX12 (Cond.code yX12_init cX12_init 1 (none) :: GW)) (hni : meth.name = "<init>") (N : Nat) (n0 s0 : Nat) (hn0 : s.heap.size = n0) {r : Unit} {g : hS}  : ∀  (cells slots : Nat) (h : hS) (th : Nat) (y0 : Option Nat) (y1 : Option Nat) (H : Heap) (locs : List Loc) (ls : Array Slot), wd D cy z s cells h H locs → h_s h = s0 + slots → lv_has ls 1 [(0, .ref th)] → f_M_init_171 N   h th y0 y1 = some (r, g) → W p l e { frames := 1, cells := h_x g - n0, slots := h_s g - s0, locals := 44 } s m args below meth c H locs cells slots (MQ below (eQ D cy z (rV r) g) args s (h_x g - n0) (h_s g - s0) (fun q => z ≤ q)) (F0 m 171 ls [va_rf y1, va_rf y0]) := by
  obtain ⟨hx, hb, hr, hml, hown, hts, hlk⟩ := id C
  intro cells slots h th y0 y1 H locs ls w hsl hl hE
  have hcc : cells ≤ h_x g - n0 ∧ slots ≤ h_s g - s0 := by
    have q1 := mo_M_init_171 N  h th y0 y1 _ _ hE
    have q2 := wd_x w
    have q3 := q1.1
    have q4 := q1.2.1
    omega
  unfold f_M_init_171 at hE
  refine w_pRF (r := y0) (ci := 0) (k := 18) (v := y1) (Or.inr ⟨_, rfl⟩) C w rfl (by decide) (by unfold roK; omega) (GF_wsX120 _) tyX12 tyX12_ok nmX12 (by decide) rfl (List.mem_cons_of_mem _ gw_7_12) rfl rfl hni rfl (tyX12_ok 18 (by decide)) dX12_init_171 hE (fun h1 H locs w hsh1 e1 => ?_)
  have hsl := hsh1.2.2.2.trans hsl
  refine lv_aload_n hx hb dX12_init_174 rfl (lv_at hl 0 rfl) ?_
  refine lv_bipush (v := 40) hx hb dX12_init_175 (by decide) ?_
  have hm := mo_M_init_179 N   (nw h1 50 (40 : Int32).toNatClampNeg (40 : Int32).toNatClampNeg) th (some th) (some (h_x h1)) _ _ (nwA_some e1).2
  have hm1 := hm.1
  have hm2 := hm.2.1
  rw [h_x_nw] at hm1
  rw [h_s_nw] at hm2
  have hwx := wd_x w
  refine w_nwI C w (List.mem_cons_of_mem _ gw_2_16) dX12_init_177 e1 (by show cells + 1 ≤ h_x g - n0; omega) (by show slots + _ ≤ h_s g - s0; omega) (fun H w e2 => ?_)
  exact b_M_init_179 C hni N n0 s0 hn0   (cells + 1) (slots + (40 : Int32).toNatClampNeg) (nw h1 50 (40 : Int32).toNatClampNeg (40 : Int32).toNatClampNeg) th (some th) (some (h_x h1)) _ _ ls w (by first | (rw [h_s_nw, hsl]; done) | (rw [h_s_nw, hsl]; omega)) (lv_sub hl [0] rfl) e2
set_option maxRecDepth 20000 in
set_option maxHeartbeats 4000000 in
theorem b_M_init_162 {p : Program} {l : Launch} {e : Env} {s : State} {m : MethodId} {args : Array Value} {below : List Frame} {meth : Method} {c : Code} {D : va_G} {cy : cyT} {z : Nat} (C : MX p s m args meth c cX12_init 1 (none) RX12 (Cond.code yX12_init cX12_init 1 (none) :: GW)) (hni : meth.name = "<init>") (N : Nat) (n0 s0 : Nat) (hn0 : s.heap.size = n0) {r : Unit} {g : hS}  : ∀  (cells slots : Nat) (h : hS) (th : Nat) (y0 : Option Nat) (y1 : Option Nat) (H : Heap) (locs : List Loc) (ls : Array Slot), wd D cy z s cells h H locs → h_s h = s0 + slots → lv_has ls 1 [(0, .ref th)] → f_M_init_162 N   h th y0 y1 = some (r, g) → W p l e { frames := 1, cells := h_x g - n0, slots := h_s g - s0, locals := 44 } s m args below meth c H locs cells slots (MQ below (eQ D cy z (rV r) g) args s (h_x g - n0) (h_s g - s0) (fun q => z ≤ q)) (F0 m 162 ls [va_rf y1, va_rf y0]) := by
  obtain ⟨hx, hb, hr, hml, hown, hts, hlk⟩ := id C
  intro cells slots h th y0 y1 H locs ls w hsl hl hE
  have hcc : cells ≤ h_x g - n0 ∧ slots ≤ h_s g - s0 := by
    have q1 := mo_M_init_162 N  h th y0 y1 _ _ hE
    have q2 := wd_x w
    have q3 := q1.1
    have q4 := q1.2.1
    omega
  unfold f_M_init_162 at hE
  refine w_pRF (r := y0) (ci := 0) (k := 17) (v := y1) (Or.inr ⟨_, rfl⟩) C w rfl (by decide) (by unfold roK; omega) (GF_wsX120 _) tyX12 tyX12_ok nmX12 (by decide) rfl (List.mem_cons_of_mem _ gw_7_11) rfl rfl hni rfl (tyX12_ok 17 (by decide)) dX12_init_162 hE (fun h1 H locs w hsh1 e1 => ?_)
  have hsl := hsh1.2.2.2.trans hsl
  refine lv_aload_n hx hb dX12_init_165 rfl (lv_at hl 0 rfl) ?_
  refine lv_sipush (v := 644) hx hb dX12_init_166 (by decide) ?_
  have hm := mo_M_init_171 N   (nw h1 50 (644 : Int32).toNatClampNeg (644 : Int32).toNatClampNeg) th (some th) (some (h_x h1)) _ _ (nwA_some e1).2
  have hm1 := hm.1
  have hm2 := hm.2.1
  rw [h_x_nw] at hm1
  rw [h_s_nw] at hm2
  have hwx := wd_x w
  refine w_nwI C w (List.mem_cons_of_mem _ gw_2_16) dX12_init_169 e1 (by show cells + 1 ≤ h_x g - n0; omega) (by show slots + _ ≤ h_s g - s0; omega) (fun H w e2 => ?_)
  exact b_M_init_171 C hni N n0 s0 hn0   (cells + 1) (slots + (644 : Int32).toNatClampNeg) (nw h1 50 (644 : Int32).toNatClampNeg (644 : Int32).toNatClampNeg) th (some th) (some (h_x h1)) _ _ ls w (by first | (rw [h_s_nw, hsl]; done) | (rw [h_s_nw, hsl]; omega)) (lv_sub hl [0] rfl) e2
set_option maxRecDepth 20000 in
set_option maxHeartbeats 4000000 in
theorem b_M_init_153 {p : Program} {l : Launch} {e : Env} {s : State} {m : MethodId} {args : Array Value} {below : List Frame} {meth : Method} {c : Code} {D : va_G} {cy : cyT} {z : Nat} (C : MX p s m args meth c cX12_init 1 (none) RX12 (Cond.code yX12_init cX12_init 1 (none) :: GW)) (hni : meth.name = "<init>") (N : Nat) (n0 s0 : Nat) (hn0 : s.heap.size = n0) {r : Unit} {g : hS}  : ∀  (cells slots : Nat) (h : hS) (th : Nat) (y0 : Option Nat) (y1 : Option Nat) (H : Heap) (locs : List Loc) (ls : Array Slot), wd D cy z s cells h H locs → h_s h = s0 + slots → lv_has ls 1 [(0, .ref th)] → f_M_init_153 N   h th y0 y1 = some (r, g) → W p l e { frames := 1, cells := h_x g - n0, slots := h_s g - s0, locals := 44 } s m args below meth c H locs cells slots (MQ below (eQ D cy z (rV r) g) args s (h_x g - n0) (h_s g - s0) (fun q => z ≤ q)) (F0 m 153 ls [va_rf y1, va_rf y0]) := by
  obtain ⟨hx, hb, hr, hml, hown, hts, hlk⟩ := id C
  intro cells slots h th y0 y1 H locs ls w hsl hl hE
  have hcc : cells ≤ h_x g - n0 ∧ slots ≤ h_s g - s0 := by
    have q1 := mo_M_init_153 N  h th y0 y1 _ _ hE
    have q2 := wd_x w
    have q3 := q1.1
    have q4 := q1.2.1
    omega
  unfold f_M_init_153 at hE
  refine w_pRF (r := y0) (ci := 0) (k := 16) (v := y1) (Or.inr ⟨_, rfl⟩) C w rfl (by decide) (by unfold roK; omega) (GF_wsX120 _) tyX12 tyX12_ok nmX12 (by decide) rfl (List.mem_cons_of_mem _ gw_7_10) rfl rfl hni rfl (tyX12_ok 16 (by decide)) dX12_init_153 hE (fun h1 H locs w hsh1 e1 => ?_)
  have hsl := hsh1.2.2.2.trans hsl
  refine lv_aload_n hx hb dX12_init_156 rfl (lv_at hl 0 rfl) ?_
  refine lv_sipush (v := 600) hx hb dX12_init_157 (by decide) ?_
  have hm := mo_M_init_162 N   (nw h1 50 (600 : Int32).toNatClampNeg (600 : Int32).toNatClampNeg) th (some th) (some (h_x h1)) _ _ (nwA_some e1).2
  have hm1 := hm.1
  have hm2 := hm.2.1
  rw [h_x_nw] at hm1
  rw [h_s_nw] at hm2
  have hwx := wd_x w
  refine w_nwI C w (List.mem_cons_of_mem _ gw_2_16) dX12_init_160 e1 (by show cells + 1 ≤ h_x g - n0; omega) (by show slots + _ ≤ h_s g - s0; omega) (fun H w e2 => ?_)
  exact b_M_init_162 C hni N n0 s0 hn0   (cells + 1) (slots + (600 : Int32).toNatClampNeg) (nw h1 50 (600 : Int32).toNatClampNeg (600 : Int32).toNatClampNeg) th (some th) (some (h_x h1)) _ _ ls w (by first | (rw [h_s_nw, hsl]; done) | (rw [h_s_nw, hsl]; omega)) (lv_sub hl [0] rfl) e2
set_option maxRecDepth 20000 in
set_option maxHeartbeats 4000000 in
theorem b_M_init_136 {p : Program} {l : Launch} {e : Env} {s : State} {m : MethodId} {args : Array Value} {below : List Frame} {meth : Method} {c : Code} {D : va_G} {cy : cyT} {z : Nat} (C : MX p s m args meth c cX12_init 1 (none) RX12 (Cond.code yX12_init cX12_init 1 (none) :: GW)) (hni : meth.name = "<init>") (N : Nat) (n0 s0 : Nat) (hn0 : s.heap.size = n0) {r : Unit} {g : hS}  : ∀  (cells slots : Nat) (h : hS) (th : Nat) (y0 : Option Nat) (y1 : Option Nat) (H : Heap) (locs : List Loc) (ls : Array Slot), wd D cy z s cells h H locs → h_s h = s0 + slots → lv_has ls 1 [(0, .ref th)] → f_M_init_136 N   h th y0 y1 = some (r, g) → W p l e { frames := 1, cells := h_x g - n0, slots := h_s g - s0, locals := 44 } s m args below meth c H locs cells slots (MQ below (eQ D cy z (rV r) g) args s (h_x g - n0) (h_s g - s0) (fun q => z ≤ q)) (F0 m 136 ls [va_rf y1, va_rf y0]) := by
  obtain ⟨hx, hb, hr, hml, hown, hts, hlk⟩ := id C
  intro cells slots h th y0 y1 H locs ls w hsl hl hE
  have hcc : cells ≤ h_x g - n0 ∧ slots ≤ h_s g - s0 := by
    have q1 := mo_M_init_136 N  h th y0 y1 _ _ hE
    have q2 := wd_x w
    have q3 := q1.1
    have q4 := q1.2.1
    omega
  unfold f_M_init_136 at hE
  refine w_pRF (r := y0) (ci := 0) (k := 11) (v := y1) (Or.inr ⟨_, rfl⟩) C w rfl (by decide) (by unfold roK; omega) (GF_wsX120 _) tyX12 tyX12_ok nmX12 (by decide) rfl (List.mem_cons_of_mem _ gw_7_7) rfl rfl hni rfl (tyX12_ok 11 (by decide)) dX12_init_136 hE (fun h1 H locs w hsh1 e1 => ?_)
  have hsl := hsh1.2.2.2.trans hsl
  refine lv_aload_n hx hb dX12_init_139 rfl (lv_at hl 0 rfl) ?_
  refine lv_iconst (v := -1) hx hb dX12_init_140 (by decide) ?_
  refine w_pI (r := some th) (ci := 0) (k := 13) C w rfl (by decide) (by unfold roK; omega) (GF_wsX120 _) tyX12 tyX12_ok nmX12 (by decide) rfl (List.mem_cons_of_mem _ gw_7_8) rfl rfl (tyX12_ok 13 (by decide)) dX12_init_141 e1 (fun h2 H locs w hsh2 e2 => ?_)
  have hsl := hsh2.2.2.2.trans hsl
  refine lv_aload_n hx hb dX12_init_144 rfl (lv_at hl 0 rfl) ?_
  refine lv_iconst (v := -1) hx hb dX12_init_145 (by decide) ?_
  refine w_pI (r := some th) (ci := 0) (k := 14) C w rfl (by decide) (by unfold roK; omega) (GF_wsX120 _) tyX12 tyX12_ok nmX12 (by decide) rfl (List.mem_cons_of_mem _ gw_7_9) rfl rfl (tyX12_ok 14 (by decide)) dX12_init_146 e2 (fun h3 H locs w hsh3 e3 => ?_)
  have hsl := hsh3.2.2.2.trans hsl
  refine lv_aload_n hx hb dX12_init_149 rfl (lv_at hl 0 rfl) ?_
  refine lv_iconst (v := 4) hx hb dX12_init_150 (by decide) ?_
  have hm := mo_M_init_153 N   (nw h3 50 (4 : Int32).toNatClampNeg (4 : Int32).toNatClampNeg) th (some th) (some (h_x h3)) _ _ (nwA_some e3).2
  have hm1 := hm.1
  have hm2 := hm.2.1
  rw [h_x_nw] at hm1
  rw [h_s_nw] at hm2
  have hwx := wd_x w
  refine w_nwI C w (List.mem_cons_of_mem _ gw_2_16) dX12_init_151 e3 (by show cells + 1 ≤ h_x g - n0; omega) (by show slots + _ ≤ h_s g - s0; omega) (fun H w e4 => ?_)
  exact b_M_init_153 C hni N n0 s0 hn0   (cells + 1) (slots + (4 : Int32).toNatClampNeg) (nw h3 50 (4 : Int32).toNatClampNeg (4 : Int32).toNatClampNeg) th (some th) (some (h_x h3)) _ _ ls w (by first | (rw [h_s_nw, hsl]; done) | (rw [h_s_nw, hsl]; omega)) (lv_sub hl [0] rfl) e4
set_option maxRecDepth 20000 in
set_option maxHeartbeats 4000000 in
theorem b_M_init_128 {p : Program} {l : Launch} {e : Env} {s : State} {m : MethodId} {args : Array Value} {below : List Frame} {meth : Method} {c : Code} {D : va_G} {cy : cyT} {z : Nat} (C : MX p s m args meth c cX12_init 1 (none) RX12 (Cond.code yX12_init cX12_init 1 (none) :: GW)) (hni : meth.name = "<init>") (N : Nat) (n0 s0 : Nat) (hn0 : s.heap.size = n0) {r : Unit} {g : hS}  : ∀  (cells slots : Nat) (h : hS) (th : Nat) (y0 : Option Nat) (y1 : Option Nat) (H : Heap) (locs : List Loc) (ls : Array Slot), wd D cy z s cells h H locs → h_s h = s0 + slots → lv_has ls 1 [(0, .ref th)] → f_M_init_128 N   h th y0 y1 = some (r, g) → W p l e { frames := 1, cells := h_x g - n0, slots := h_s g - s0, locals := 44 } s m args below meth c H locs cells slots (MQ below (eQ D cy z (rV r) g) args s (h_x g - n0) (h_s g - s0) (fun q => z ≤ q)) (F0 m 128 ls [va_rf y1, va_rf y0]) := by
  obtain ⟨hx, hb, hr, hml, hown, hts, hlk⟩ := id C
  intro cells slots h th y0 y1 H locs ls w hsl hl hE
  have hcc : cells ≤ h_x g - n0 ∧ slots ≤ h_s g - s0 := by
    have q1 := mo_M_init_128 N  h th y0 y1 _ _ hE
    have q2 := wd_x w
    have q3 := q1.1
    have q4 := q1.2.1
    omega
  unfold f_M_init_128 at hE
  refine w_pRF (r := y0) (ci := 0) (k := 10) (v := y1) (Or.inr ⟨_, rfl⟩) C w rfl (by decide) (by unfold roK; omega) (GF_wsX120 _) tyX12 tyX12_ok nmX12 (by decide) rfl (List.mem_cons_of_mem _ gw_7_6) rfl rfl hni rfl (tyX12_ok 10 (by decide)) dX12_init_128 hE (fun h1 H locs w hsh1 e1 => ?_)
  have hsl := hsh1.2.2.2.trans hsl
  refine lv_aload_n hx hb dX12_init_131 rfl (lv_at hl 0 rfl) ?_
  refine lv_bipush (v := 40) hx hb dX12_init_132 (by decide) ?_
  have hm := mo_M_init_136 N   (nw h1 50 (40 : Int32).toNatClampNeg (40 : Int32).toNatClampNeg) th (some th) (some (h_x h1)) _ _ (nwA_some e1).2
  have hm1 := hm.1
  have hm2 := hm.2.1
  rw [h_x_nw] at hm1
  rw [h_s_nw] at hm2
  have hwx := wd_x w
  refine w_nwI C w (List.mem_cons_of_mem _ gw_2_16) dX12_init_134 e1 (by show cells + 1 ≤ h_x g - n0; omega) (by show slots + _ ≤ h_s g - s0; omega) (fun H w e2 => ?_)
  exact b_M_init_136 C hni N n0 s0 hn0   (cells + 1) (slots + (40 : Int32).toNatClampNeg) (nw h1 50 (40 : Int32).toNatClampNeg (40 : Int32).toNatClampNeg) th (some th) (some (h_x h1)) _ _ ls w (by first | (rw [h_s_nw, hsl]; done) | (rw [h_s_nw, hsl]; omega)) (lv_sub hl [0] rfl) e2
set_option maxRecDepth 20000 in
set_option maxHeartbeats 4000000 in
theorem b_M_init_120 {p : Program} {l : Launch} {e : Env} {s : State} {m : MethodId} {args : Array Value} {below : List Frame} {meth : Method} {c : Code} {D : va_G} {cy : cyT} {z : Nat} (C : MX p s m args meth c cX12_init 1 (none) RX12 (Cond.code yX12_init cX12_init 1 (none) :: GW)) (hni : meth.name = "<init>") (N : Nat) (n0 s0 : Nat) (hn0 : s.heap.size = n0) {r : Unit} {g : hS}  : ∀  (cells slots : Nat) (h : hS) (th : Nat) (y0 : Option Nat) (y1 : Option Nat) (H : Heap) (locs : List Loc) (ls : Array Slot), wd D cy z s cells h H locs → h_s h = s0 + slots → lv_has ls 1 [(0, .ref th)] → f_M_init_120 N   h th y0 y1 = some (r, g) → W p l e { frames := 1, cells := h_x g - n0, slots := h_s g - s0, locals := 44 } s m args below meth c H locs cells slots (MQ below (eQ D cy z (rV r) g) args s (h_x g - n0) (h_s g - s0) (fun q => z ≤ q)) (F0 m 120 ls [va_rf y1, va_rf y0]) := by
  obtain ⟨hx, hb, hr, hml, hown, hts, hlk⟩ := id C
  intro cells slots h th y0 y1 H locs ls w hsl hl hE
  have hcc : cells ≤ h_x g - n0 ∧ slots ≤ h_s g - s0 := by
    have q1 := mo_M_init_120 N  h th y0 y1 _ _ hE
    have q2 := wd_x w
    have q3 := q1.1
    have q4 := q1.2.1
    omega
  unfold f_M_init_120 at hE
  refine w_pRF (r := y0) (ci := 0) (k := 8) (v := y1) (Or.inr ⟨_, rfl⟩) C w rfl (by decide) (by unfold roK; omega) (GF_wsX120 _) tyX12 tyX12_ok nmX12 (by decide) rfl (List.mem_cons_of_mem _ gw_7_5) rfl rfl hni rfl (tyX12_ok 8 (by decide)) dX12_init_120 hE (fun h1 H locs w hsh1 e1 => ?_)
  have hsl := hsh1.2.2.2.trans hsl
  refine lv_aload_n hx hb dX12_init_123 rfl (lv_at hl 0 rfl) ?_
  refine lv_bipush (v := 40) hx hb dX12_init_124 (by decide) ?_
  have hm := mo_M_init_128 N   (nw h1 50 (40 : Int32).toNatClampNeg (40 : Int32).toNatClampNeg) th (some th) (some (h_x h1)) _ _ (nwA_some e1).2
  have hm1 := hm.1
  have hm2 := hm.2.1
  rw [h_x_nw] at hm1
  rw [h_s_nw] at hm2
  have hwx := wd_x w
  refine w_nwI C w (List.mem_cons_of_mem _ gw_2_16) dX12_init_126 e1 (by show cells + 1 ≤ h_x g - n0; omega) (by show slots + _ ≤ h_s g - s0; omega) (fun H w e2 => ?_)
  exact b_M_init_128 C hni N n0 s0 hn0   (cells + 1) (slots + (40 : Int32).toNatClampNeg) (nw h1 50 (40 : Int32).toNatClampNeg (40 : Int32).toNatClampNeg) th (some th) (some (h_x h1)) _ _ ls w (by first | (rw [h_s_nw, hsl]; done) | (rw [h_s_nw, hsl]; omega)) (lv_sub hl [0] rfl) e2
set_option maxRecDepth 20000 in
set_option maxHeartbeats 4000000 in
theorem b_M_init_111 {p : Program} {l : Launch} {e : Env} {s : State} {m : MethodId} {args : Array Value} {below : List Frame} {meth : Method} {c : Code} {D : va_G} {cy : cyT} {z : Nat} (C : MX p s m args meth c cX12_init 1 (none) RX12 (Cond.code yX12_init cX12_init 1 (none) :: GW)) (hni : meth.name = "<init>") (N : Nat) (n0 s0 : Nat) (hn0 : s.heap.size = n0) {r : Unit} {g : hS}  : ∀  (cells slots : Nat) (h : hS) (th : Nat) (y0 : Option Nat) (y1 : Option Nat) (H : Heap) (locs : List Loc) (ls : Array Slot), wd D cy z s cells h H locs → h_s h = s0 + slots → lv_has ls 1 [(0, .ref th)] → f_M_init_111 N   h th y0 y1 = some (r, g) → W p l e { frames := 1, cells := h_x g - n0, slots := h_s g - s0, locals := 44 } s m args below meth c H locs cells slots (MQ below (eQ D cy z (rV r) g) args s (h_x g - n0) (h_s g - s0) (fun q => z ≤ q)) (F0 m 111 ls [va_rf y1, va_rf y0]) := by
  obtain ⟨hx, hb, hr, hml, hown, hts, hlk⟩ := id C
  intro cells slots h th y0 y1 H locs ls w hsl hl hE
  have hcc : cells ≤ h_x g - n0 ∧ slots ≤ h_s g - s0 := by
    have q1 := mo_M_init_111 N  h th y0 y1 _ _ hE
    have q2 := wd_x w
    have q3 := q1.1
    have q4 := q1.2.1
    omega
  unfold f_M_init_111 at hE
  refine w_pRF (r := y0) (ci := 0) (k := 7) (v := y1) (Or.inr ⟨_, rfl⟩) C w rfl (by decide) (by unfold roK; omega) (GF_wsX120 _) tyX12 tyX12_ok nmX12 (by decide) rfl (List.mem_cons_of_mem _ gw_7_3) rfl rfl hni rfl (tyX12_ok 7 (by decide)) dX12_init_111 hE (fun h1 H locs w hsh1 e1 => ?_)
  have hsl := hsh1.2.2.2.trans hsl
  refine lv_aload_n hx hb dX12_init_114 rfl (lv_at hl 0 rfl) ?_
  refine lv_sipush (v := 1000) hx hb dX12_init_115 (by decide) ?_
  have hm := mo_M_init_120 N   (nw h1 53 (1000 : Int32).toNatClampNeg (1000 : Int32).toNatClampNeg) th (some th) (some (h_x h1)) _ _ (nwA_some e1).2
  have hm1 := hm.1
  have hm2 := hm.2.1
  rw [h_x_nw] at hm1
  rw [h_s_nw] at hm2
  have hwx := wd_x w
  refine w_nwZ C w (List.mem_cons_of_mem _ gw_7_4) dX12_init_118 e1 (by show cells + 1 ≤ h_x g - n0; omega) (by show slots + _ ≤ h_s g - s0; omega) (fun H w e2 => ?_)
  exact b_M_init_120 C hni N n0 s0 hn0   (cells + 1) (slots + (1000 : Int32).toNatClampNeg) (nw h1 53 (1000 : Int32).toNatClampNeg (1000 : Int32).toNatClampNeg) th (some th) (some (h_x h1)) _ _ ls w (by first | (rw [h_s_nw, hsl]; done) | (rw [h_s_nw, hsl]; omega)) (lv_sub hl [0] rfl) e2
set_option maxRecDepth 20000 in
set_option maxHeartbeats 4000000 in
theorem b_M_init_101 {p : Program} {l : Launch} {e : Env} {s : State} {m : MethodId} {args : Array Value} {below : List Frame} {meth : Method} {c : Code} {D : va_G} {cy : cyT} {z : Nat} (C : MX p s m args meth c cX12_init 1 (none) RX12 (Cond.code yX12_init cX12_init 1 (none) :: GW)) (hni : meth.name = "<init>") (N : Nat) (n0 s0 : Nat) (hn0 : s.heap.size = n0) {r : Unit} {g : hS}  : ∀  (cells slots : Nat) (h : hS) (th : Nat) (y0 : Option Nat) (y1 : Option Nat) (H : Heap) (locs : List Loc) (ls : Array Slot), wd D cy z s cells h H locs → h_s h = s0 + slots → lv_has ls 1 [(0, .ref th)] → f_M_init_101 N   h th y0 y1 = some (r, g) → W p l e { frames := 1, cells := h_x g - n0, slots := h_s g - s0, locals := 44 } s m args below meth c H locs cells slots (MQ below (eQ D cy z (rV r) g) args s (h_x g - n0) (h_s g - s0) (fun q => z ≤ q)) (F0 m 101 ls [va_rf y1, va_rf y0]) := by
  obtain ⟨hx, hb, hr, hml, hown, hts, hlk⟩ := id C
  intro cells slots h th y0 y1 H locs ls w hsl hl hE
  have hcc : cells ≤ h_x g - n0 ∧ slots ≤ h_s g - s0 := by
    have q1 := mo_M_init_101 N  h th y0 y1 _ _ hE
    have q2 := wd_x w
    have q3 := q1.1
    have q4 := q1.2.1
    omega
  unfold f_M_init_101 at hE
  refine w_pRF (r := y0) (ci := 0) (k := 6) (v := y1) (Or.inr ⟨_, rfl⟩) C w rfl (by decide) (by unfold roK; omega) (GF_wsX120 _) tyX12 tyX12_ok nmX12 (by decide) rfl (List.mem_cons_of_mem _ gw_7_1) rfl rfl hni rfl (tyX12_ok 6 (by decide)) dX12_init_101 hE (fun h1 H locs w hsh1 e1 => ?_)
  have hsl := hsh1.2.2.2.trans hsl
  refine lv_aload_n hx hb dX12_init_104 rfl (lv_at hl 0 rfl) ?_
  refine lv_sipush (v := 1000) hx hb dX12_init_105 (by decide) ?_
  have hm := mo_M_init_111 N   (nw h1 60 (1000 : Int32).toNatClampNeg (1000 : Int32).toNatClampNeg) th (some th) (some (h_x h1)) _ _ (nwA_some e1).2
  have hm1 := hm.1
  have hm2 := hm.2.1
  rw [h_x_nw] at hm1
  rw [h_s_nw] at hm2
  have hwx := wd_x w
  refine w_anA C w (List.mem_cons_of_mem _ gw_7_2) dX12_init_108 e1 (by show cells + 1 ≤ h_x g - n0; omega) (by show slots + _ ≤ h_s g - s0; omega) (fun H w e2 => ?_)
  exact b_M_init_111 C hni N n0 s0 hn0   (cells + 1) (slots + (1000 : Int32).toNatClampNeg) (nw h1 60 (1000 : Int32).toNatClampNeg (1000 : Int32).toNatClampNeg) th (some th) (some (h_x h1)) _ _ ls w (by first | (rw [h_s_nw, hsl]; done) | (rw [h_s_nw, hsl]; omega)) (lv_sub hl [0] rfl) e2
set_option maxRecDepth 20000 in
set_option maxHeartbeats 4000000 in
theorem b_M_init_92 {p : Program} {l : Launch} {e : Env} {s : State} {m : MethodId} {args : Array Value} {below : List Frame} {meth : Method} {c : Code} {D : va_G} {cy : cyT} {z : Nat} (C : MX p s m args meth c cX12_init 1 (none) RX12 (Cond.code yX12_init cX12_init 1 (none) :: GW)) (hni : meth.name = "<init>") (N : Nat) (n0 s0 : Nat) (hn0 : s.heap.size = n0) {r : Unit} {g : hS}  : ∀  (cells slots : Nat) (h : hS) (th : Nat) (y0 : Option Nat) (y1 : Option Nat) (H : Heap) (locs : List Loc) (ls : Array Slot), wd D cy z s cells h H locs → h_s h = s0 + slots → lv_has ls 1 [(0, .ref th)] → f_M_init_92 N   h th y0 y1 = some (r, g) → W p l e { frames := 1, cells := h_x g - n0, slots := h_s g - s0, locals := 44 } s m args below meth c H locs cells slots (MQ below (eQ D cy z (rV r) g) args s (h_x g - n0) (h_s g - s0) (fun q => z ≤ q)) (F0 m 92 ls [va_rf y1, va_rf y0]) := by
  obtain ⟨hx, hb, hr, hml, hown, hts, hlk⟩ := id C
  intro cells slots h th y0 y1 H locs ls w hsl hl hE
  have hcc : cells ≤ h_x g - n0 ∧ slots ≤ h_s g - s0 := by
    have q1 := mo_M_init_92 N  h th y0 y1 _ _ hE
    have q2 := wd_x w
    have q3 := q1.1
    have q4 := q1.2.1
    omega
  unfold f_M_init_92 at hE
  refine w_pRF (r := y0) (ci := 0) (k := 5) (v := y1) (Or.inr ⟨_, rfl⟩) C w rfl (by decide) (by unfold roK; omega) (GF_wsX120 _) tyX12 tyX12_ok nmX12 (by decide) rfl (List.mem_cons_of_mem _ gw_7_0) rfl rfl hni rfl (tyX12_ok 5 (by decide)) dX12_init_92 hE (fun h1 H locs w hsh1 e1 => ?_)
  have hsl := hsh1.2.2.2.trans hsl
  refine lv_aload_n hx hb dX12_init_95 rfl (lv_at hl 0 rfl) ?_
  refine lv_sipush (v := 10003) hx hb dX12_init_96 (by decide) ?_
  have hm := mo_M_init_101 N   (nw h1 50 (10003 : Int32).toNatClampNeg (10003 : Int32).toNatClampNeg) th (some th) (some (h_x h1)) _ _ (nwA_some e1).2
  have hm1 := hm.1
  have hm2 := hm.2.1
  rw [h_x_nw] at hm1
  rw [h_s_nw] at hm2
  have hwx := wd_x w
  refine w_nwI C w (List.mem_cons_of_mem _ gw_2_16) dX12_init_99 e1 (by show cells + 1 ≤ h_x g - n0; omega) (by show slots + _ ≤ h_s g - s0; omega) (fun H w e2 => ?_)
  exact b_M_init_101 C hni N n0 s0 hn0   (cells + 1) (slots + (10003 : Int32).toNatClampNeg) (nw h1 50 (10003 : Int32).toNatClampNeg (10003 : Int32).toNatClampNeg) th (some th) (some (h_x h1)) _ _ ls w (by first | (rw [h_s_nw, hsl]; done) | (rw [h_s_nw, hsl]; omega)) (lv_sub hl [0] rfl) e2
set_option maxRecDepth 20000 in
set_option maxHeartbeats 4000000 in
theorem b_M_init_83 {p : Program} {l : Launch} {e : Env} {s : State} {m : MethodId} {args : Array Value} {below : List Frame} {meth : Method} {c : Code} {D : va_G} {cy : cyT} {z : Nat} (C : MX p s m args meth c cX12_init 1 (none) RX12 (Cond.code yX12_init cX12_init 1 (none) :: GW)) (hni : meth.name = "<init>") (N : Nat) (n0 s0 : Nat) (hn0 : s.heap.size = n0) {r : Unit} {g : hS}  : ∀  (cells slots : Nat) (h : hS) (th : Nat) (y0 : Option Nat) (y1 : Option Nat) (H : Heap) (locs : List Loc) (ls : Array Slot), wd D cy z s cells h H locs → h_s h = s0 + slots → lv_has ls 1 [(0, .ref th)] → f_M_init_83 N   h th y0 y1 = some (r, g) → W p l e { frames := 1, cells := h_x g - n0, slots := h_s g - s0, locals := 44 } s m args below meth c H locs cells slots (MQ below (eQ D cy z (rV r) g) args s (h_x g - n0) (h_s g - s0) (fun q => z ≤ q)) (F0 m 83 ls [va_rf y1, va_rf y0]) := by
  obtain ⟨hx, hb, hr, hml, hown, hts, hlk⟩ := id C
  intro cells slots h th y0 y1 H locs ls w hsl hl hE
  have hcc : cells ≤ h_x g - n0 ∧ slots ≤ h_s g - s0 := by
    have q1 := mo_M_init_83 N  h th y0 y1 _ _ hE
    have q2 := wd_x w
    have q3 := q1.1
    have q4 := q1.2.1
    omega
  unfold f_M_init_83 at hE
  refine w_pRF (r := y0) (ci := 0) (k := 4) (v := y1) (Or.inr ⟨_, rfl⟩) C w rfl (by decide) (by unfold roK; omega) (GF_wsX120 _) tyX12 tyX12_ok nmX12 (by decide) rfl (List.mem_cons_of_mem _ gw_6_23) rfl rfl hni rfl (tyX12_ok 4 (by decide)) dX12_init_83 hE (fun h1 H locs w hsh1 e1 => ?_)
  have hsl := hsh1.2.2.2.trans hsl
  refine lv_aload_n hx hb dX12_init_86 rfl (lv_at hl 0 rfl) ?_
  refine lv_sipush (v := 10003) hx hb dX12_init_87 (by decide) ?_
  have hm := mo_M_init_92 N   (nw h1 50 (10003 : Int32).toNatClampNeg (10003 : Int32).toNatClampNeg) th (some th) (some (h_x h1)) _ _ (nwA_some e1).2
  have hm1 := hm.1
  have hm2 := hm.2.1
  rw [h_x_nw] at hm1
  rw [h_s_nw] at hm2
  have hwx := wd_x w
  refine w_nwI C w (List.mem_cons_of_mem _ gw_2_16) dX12_init_90 e1 (by show cells + 1 ≤ h_x g - n0; omega) (by show slots + _ ≤ h_s g - s0; omega) (fun H w e2 => ?_)
  exact b_M_init_92 C hni N n0 s0 hn0   (cells + 1) (slots + (10003 : Int32).toNatClampNeg) (nw h1 50 (10003 : Int32).toNatClampNeg (10003 : Int32).toNatClampNeg) th (some th) (some (h_x h1)) _ _ ls w (by first | (rw [h_s_nw, hsl]; done) | (rw [h_s_nw, hsl]; omega)) (lv_sub hl [0] rfl) e2
set_option maxRecDepth 20000 in
set_option maxHeartbeats 4000000 in
theorem b_M_init_74 {p : Program} {l : Launch} {e : Env} {s : State} {m : MethodId} {args : Array Value} {below : List Frame} {meth : Method} {c : Code} {D : va_G} {cy : cyT} {z : Nat} (C : MX p s m args meth c cX12_init 1 (none) RX12 (Cond.code yX12_init cX12_init 1 (none) :: GW)) (hni : meth.name = "<init>") (N : Nat) (n0 s0 : Nat) (hn0 : s.heap.size = n0) {r : Unit} {g : hS}  : ∀  (cells slots : Nat) (h : hS) (th : Nat) (y0 : Option Nat) (y1 : Option Nat) (H : Heap) (locs : List Loc) (ls : Array Slot), wd D cy z s cells h H locs → h_s h = s0 + slots → lv_has ls 1 [(0, .ref th)] → f_M_init_74 N   h th y0 y1 = some (r, g) → W p l e { frames := 1, cells := h_x g - n0, slots := h_s g - s0, locals := 44 } s m args below meth c H locs cells slots (MQ below (eQ D cy z (rV r) g) args s (h_x g - n0) (h_s g - s0) (fun q => z ≤ q)) (F0 m 74 ls [va_rf y1, va_rf y0]) := by
  obtain ⟨hx, hb, hr, hml, hown, hts, hlk⟩ := id C
  intro cells slots h th y0 y1 H locs ls w hsl hl hE
  have hcc : cells ≤ h_x g - n0 ∧ slots ≤ h_s g - s0 := by
    have q1 := mo_M_init_74 N  h th y0 y1 _ _ hE
    have q2 := wd_x w
    have q3 := q1.1
    have q4 := q1.2.1
    omega
  unfold f_M_init_74 at hE
  refine w_pRF (r := y0) (ci := 0) (k := 3) (v := y1) (Or.inr ⟨_, rfl⟩) C w rfl (by decide) (by unfold roK; omega) (GF_wsX120 _) tyX12 tyX12_ok nmX12 (by decide) rfl (List.mem_cons_of_mem _ gw_6_22) rfl rfl hni rfl (tyX12_ok 3 (by decide)) dX12_init_74 hE (fun h1 H locs w hsh1 e1 => ?_)
  have hsl := hsh1.2.2.2.trans hsl
  refine lv_aload_n hx hb dX12_init_77 rfl (lv_at hl 0 rfl) ?_
  refine lv_sipush (v := 10003) hx hb dX12_init_78 (by decide) ?_
  have hm := mo_M_init_83 N   (nw h1 50 (10003 : Int32).toNatClampNeg (10003 : Int32).toNatClampNeg) th (some th) (some (h_x h1)) _ _ (nwA_some e1).2
  have hm1 := hm.1
  have hm2 := hm.2.1
  rw [h_x_nw] at hm1
  rw [h_s_nw] at hm2
  have hwx := wd_x w
  refine w_nwI C w (List.mem_cons_of_mem _ gw_2_16) dX12_init_81 e1 (by show cells + 1 ≤ h_x g - n0; omega) (by show slots + _ ≤ h_s g - s0; omega) (fun H w e2 => ?_)
  exact b_M_init_83 C hni N n0 s0 hn0   (cells + 1) (slots + (10003 : Int32).toNatClampNeg) (nw h1 50 (10003 : Int32).toNatClampNeg (10003 : Int32).toNatClampNeg) th (some th) (some (h_x h1)) _ _ ls w (by first | (rw [h_s_nw, hsl]; done) | (rw [h_s_nw, hsl]; omega)) (lv_sub hl [0] rfl) e2
set_option maxRecDepth 20000 in
set_option maxHeartbeats 4000000 in
theorem b_M_init_67 {p : Program} {l : Launch} {e : Env} {s : State} {m : MethodId} {args : Array Value} {below : List Frame} {meth : Method} {c : Code} {D : va_G} {cy : cyT} {z : Nat} (C : MX p s m args meth c cX12_init 1 (none) RX12 (Cond.code yX12_init cX12_init 1 (none) :: GW)) (hni : meth.name = "<init>") (N : Nat) (n0 s0 : Nat) (hn0 : s.heap.size = n0) {r : Unit} {g : hS}  : ∀  (cells slots : Nat) (h : hS) (th : Nat) (y0 : Option Nat) (y1 : Option Nat) (H : Heap) (locs : List Loc) (ls : Array Slot), wd D cy z s cells h H locs → h_s h = s0 + slots → lv_has ls 1 [(0, .ref th)] → f_M_init_67 N   h th y0 y1 = some (r, g) → W p l e { frames := 1, cells := h_x g - n0, slots := h_s g - s0, locals := 44 } s m args below meth c H locs cells slots (MQ below (eQ D cy z (rV r) g) args s (h_x g - n0) (h_s g - s0) (fun q => z ≤ q)) (F0 m 67 ls [va_rf y1, va_rf y0]) := by
  obtain ⟨hx, hb, hr, hml, hown, hts, hlk⟩ := id C
  intro cells slots h th y0 y1 H locs ls w hsl hl hE
  have hcc : cells ≤ h_x g - n0 ∧ slots ≤ h_s g - s0 := by
    have q1 := mo_M_init_67 N  h th y0 y1 _ _ hE
    have q2 := wd_x w
    have q3 := q1.1
    have q4 := q1.2.1
    omega
  unfold f_M_init_67 at hE
  refine w_pRF (r := y0) (ci := 0) (k := 2) (v := y1) (Or.inr ⟨_, rfl⟩) C w rfl (by decide) (by unfold roK; omega) (GF_wsX120 _) tyX12 tyX12_ok nmX12 (by decide) rfl (List.mem_cons_of_mem _ gw_6_21) rfl rfl hni rfl (tyX12_ok 2 (by decide)) dX12_init_67 hE (fun h1 H locs w hsh1 e1 => ?_)
  have hsl := hsh1.2.2.2.trans hsl
  refine lv_aload_n hx hb dX12_init_70 rfl (lv_at hl 0 rfl) ?_
  refine lv_iconst (v := 3) hx hb dX12_init_71 (by decide) ?_
  have hm := mo_M_init_74 N   (nw h1 50 (3 : Int32).toNatClampNeg (3 : Int32).toNatClampNeg) th (some th) (some (h_x h1)) _ _ (nwA_some e1).2
  have hm1 := hm.1
  have hm2 := hm.2.1
  rw [h_x_nw] at hm1
  rw [h_s_nw] at hm2
  have hwx := wd_x w
  refine w_nwI C w (List.mem_cons_of_mem _ gw_2_16) dX12_init_72 e1 (by show cells + 1 ≤ h_x g - n0; omega) (by show slots + _ ≤ h_s g - s0; omega) (fun H w e2 => ?_)
  exact b_M_init_74 C hni N n0 s0 hn0   (cells + 1) (slots + (3 : Int32).toNatClampNeg) (nw h1 50 (3 : Int32).toNatClampNeg (3 : Int32).toNatClampNeg) th (some th) (some (h_x h1)) _ _ ls w (by first | (rw [h_s_nw, hsl]; done) | (rw [h_s_nw, hsl]; omega)) (lv_sub hl [0] rfl) e2
set_option maxRecDepth 20000 in
set_option maxHeartbeats 4000000 in
theorem b_M_init_10 {p : Program} {l : Launch} {e : Env} {s : State} {m : MethodId} {args : Array Value} {below : List Frame} {meth : Method} {c : Code} {D : va_G} {cy : cyT} {z : Nat} (C : MX p s m args meth c cX12_init 1 (none) RX12 (Cond.code yX12_init cX12_init 1 (none) :: GW)) (hni : meth.name = "<init>") (N : Nat) (n0 s0 : Nat) (hn0 : s.heap.size = n0) {r : Unit} {g : hS}  : ∀  (cells slots : Nat) (h : hS) (th : Nat) (y0 : Option Nat) (y1 : Option Nat) (H : Heap) (locs : List Loc) (ls : Array Slot), wd D cy z s cells h H locs → h_s h = s0 + slots → lv_has ls 1 [(0, .ref th)] → f_M_init_10 N   h th y0 y1 = some (r, g) → W p l e { frames := 1, cells := h_x g - n0, slots := h_s g - s0, locals := 44 } s m args below meth c H locs cells slots (MQ below (eQ D cy z (rV r) g) args s (h_x g - n0) (h_s g - s0) (fun q => z ≤ q)) (F0 m 10 ls [va_rf y1, va_rf y0]) := by
  obtain ⟨hx, hb, hr, hml, hown, hts, hlk⟩ := id C
  intro cells slots h th y0 y1 H locs ls w hsl hl hE
  have hcc : cells ≤ h_x g - n0 ∧ slots ≤ h_s g - s0 := by
    have q1 := mo_M_init_10 N  h th y0 y1 _ _ hE
    have q2 := wd_x w
    have q3 := q1.1
    have q4 := q1.2.1
    omega
  unfold f_M_init_10 at hE
  refine lv_dup hx hb dX12_init_10 (va_rf_cat _) ?_
  refine lv_iconst (v := 0) hx hb dX12_init_11 (by decide) ?_
  refine w_ldcS (tx := "kink") (k := 18) C w (List.mem_of_getElem? (i := 14) rfl) dX12_init_12 hE (fun v1 e1 => ?_)
  refine w_uS (r := y1) (v := v1) C w dX12_init_14 e1 (fun h2 H locs w hsh2 e2 => ?_)
  have hsl := hsh2.2.2.2.trans hsl
  refine lv_dup hx hb dX12_init_15 (va_rf_cat _) ?_
  refine lv_iconst (v := 1) hx hb dX12_init_16 (by decide) ?_
  refine w_ldcS (tx := "over") (k := 19) C w (List.mem_of_getElem? (i := 15) rfl) dX12_init_17 e2 (fun v3 e3 => ?_)
  refine w_uS (r := y1) (v := v3) C w dX12_init_19 e3 (fun h4 H locs w hsh4 e4 => ?_)
  have hsl := hsh4.2.2.2.trans hsl
  refine lv_dup hx hb dX12_init_20 (va_rf_cat _) ?_
  refine lv_iconst (v := 2) hx hb dX12_init_21 (by decide) ?_
  refine w_ldcS (tx := "under") (k := 20) C w (List.mem_of_getElem? (i := 16) rfl) dX12_init_22 e4 (fun v5 e5 => ?_)
  refine w_uS (r := y1) (v := v5) C w dX12_init_24 e5 (fun h6 H locs w hsh6 e6 => ?_)
  have hsl := hsh6.2.2.2.trans hsl
  refine lv_dup hx hb dX12_init_25 (va_rf_cat _) ?_
  refine lv_iconst (v := 3) hx hb dX12_init_26 (by decide) ?_
  refine w_ldcS (tx := "drift") (k := 21) C w (List.mem_of_getElem? (i := 17) rfl) dX12_init_27 e6 (fun v7 e7 => ?_)
  refine w_uS (r := y1) (v := v7) C w dX12_init_29 e7 (fun h8 H locs w hsh8 e8 => ?_)
  have hsl := hsh8.2.2.2.trans hsl
  refine lv_dup hx hb dX12_init_30 (va_rf_cat _) ?_
  refine lv_iconst (v := 4) hx hb dX12_init_31 (by decide) ?_
  refine w_ldcS (tx := "move") (k := 22) C w (List.mem_of_getElem? (i := 18) rfl) dX12_init_32 e8 (fun v9 e9 => ?_)
  refine w_uS (r := y1) (v := v9) C w dX12_init_34 e9 (fun h10 H locs w hsh10 e10 => ?_)
  have hsl := hsh10.2.2.2.trans hsl
  refine lv_dup hx hb dX12_init_35 (va_rf_cat _) ?_
  refine lv_iconst (v := 5) hx hb dX12_init_36 (by decide) ?_
  refine w_ldcS (tx := "rise") (k := 23) C w (List.mem_of_getElem? (i := 19) rfl) dX12_init_37 e10 (fun v11 e11 => ?_)
  refine w_uS (r := y1) (v := v11) C w dX12_init_39 e11 (fun h12 H locs w hsh12 e12 => ?_)
  have hsl := hsh12.2.2.2.trans hsl
  refine lv_dup hx hb dX12_init_40 (va_rf_cat _) ?_
  refine lv_bipush (v := 6) hx hb dX12_init_41 (by decide) ?_
  refine w_ldcS (tx := "fall") (k := 24) C w (List.mem_of_getElem? (i := 20) rfl) dX12_init_43 e12 (fun v13 e13 => ?_)
  refine w_uS (r := y1) (v := v13) C w dX12_init_45 e13 (fun h14 H locs w hsh14 e14 => ?_)
  have hsl := hsh14.2.2.2.trans hsl
  refine lv_dup hx hb dX12_init_46 (va_rf_cat _) ?_
  refine lv_bipush (v := 7) hx hb dX12_init_47 (by decide) ?_
  refine w_ldcS (tx := "plus") (k := 25) C w (List.mem_of_getElem? (i := 21) rfl) dX12_init_49 e14 (fun v15 e15 => ?_)
  refine w_uS (r := y1) (v := v15) C w dX12_init_51 e15 (fun h16 H locs w hsh16 e16 => ?_)
  have hsl := hsh16.2.2.2.trans hsl
  refine lv_dup hx hb dX12_init_52 (va_rf_cat _) ?_
  refine lv_bipush (v := 8) hx hb dX12_init_53 (by decide) ?_
  refine w_ldcS (tx := "and") (k := 26) C w (List.mem_of_getElem? (i := 22) rfl) dX12_init_55 e16 (fun v17 e17 => ?_)
  refine w_uS (r := y1) (v := v17) C w dX12_init_57 e17 (fun h18 H locs w hsh18 e18 => ?_)
  have hsl := hsh18.2.2.2.trans hsl
  refine w_pRF (r := y0) (ci := 0) (k := 0) (v := y1) (Or.inr ⟨_, rfl⟩) C w rfl (by decide) (by unfold roK; omega) (GF_wsX120 _) tyX12 tyX12_ok nmX12 (by decide) rfl (List.mem_cons_of_mem _ gw_6_20) rfl rfl hni rfl (tyX12_ok 0 (by decide)) dX12_init_58 e18 (fun h19 H locs w hsh19 e19 => ?_)
  have hsl := hsh19.2.2.2.trans hsl
  refine lv_aload_n hx hb dX12_init_61 rfl (lv_at hl 0 rfl) ?_
  refine lv_sipush (v := 644) hx hb dX12_init_62 (by decide) ?_
  have hm := mo_M_init_67 N   (nw h19 50 (644 : Int32).toNatClampNeg (644 : Int32).toNatClampNeg) th (some th) (some (h_x h19)) _ _ (nwA_some e19).2
  have hm1 := hm.1
  have hm2 := hm.2.1
  rw [h_x_nw] at hm1
  rw [h_s_nw] at hm2
  have hwx := wd_x w
  refine w_nwI C w (List.mem_cons_of_mem _ gw_2_16) dX12_init_65 e19 (by show cells + 1 ≤ h_x g - n0; omega) (by show slots + _ ≤ h_s g - s0; omega) (fun H w e20 => ?_)
  exact b_M_init_67 C hni N n0 s0 hn0   (cells + 1) (slots + (644 : Int32).toNatClampNeg) (nw h19 50 (644 : Int32).toNatClampNeg (644 : Int32).toNatClampNeg) th (some th) (some (h_x h19)) _ _ ls w (by first | (rw [h_s_nw, hsl]; done) | (rw [h_s_nw, hsl]; omega)) (lv_sub hl [0] rfl) e20
set_option maxRecDepth 20000 in
set_option maxHeartbeats 4000000 in
theorem k_M_init (l : Launch) (D : va_G) (cy : cyT) (z : Nat) (N : Nat) (h : hS) (th : Nat) (r : Unit) (g : hS) (hE : f_M_init N h th = some (r, g)) : ct l yX12_init (Cond.code yX12_init cX12_init 1 (none) :: GW) { frames := 1, cells := h_x g - h_x h, slots := h_s g - h_s h, locals := 44 } D cy z h [.ref th] (rV r) g := by
  refine Met.ofW (cc := cX12_init) (maxL := 1) (ret := none) (by decide) rfl ?_
  intro p e s m args below meth c s₁ B hml hv
  obtain ⟨rfl, hw⟩ := hv
  have hni : meth.name = "<init>" := (name_of_methodNamed B.named B.method).1
  have C : MX p s m ([.ref th] : List Value).toArray meth c cX12_init 1 (none) RX12 (Cond.code yX12_init cX12_init 1 (none) :: GW) := ⟨B.exec, B.bytes, B.returns, hml, findClass_of_methodNamed B.named, atoms_spec (ws := Cond.code yX12_init cX12_init 1 (none) :: GW) B.pre, B.notSynchronized⟩
  obtain ⟨hx, hb, hr, hml, hown, hts, hlk⟩ := id C
  have w := wd_of hw
  have hsl : h_s h = h_s h + 0 := rfl
  have hn0 : s.heap.size = h_x h := (wd_x w).1
  obtain ⟨ls, hen, hl⟩ : ∃ ls : Array Slot, entryFrame m ([.ref th] : List Value).toArray 1 = F0 m 0 ls [] ∧ lv_has ls 1 [(0, .ref th)] := by
    exact ⟨_, lg_entry_eq _ _ _, lv_entry _ (Nat.le_of_ble_eq_true rfl)⟩
  rw [hen]
  have hcc : 0 ≤ h_x g - h_x h ∧ 0 ≤ h_s g - h_s h := ⟨Nat.zero_le _, Nat.zero_le _⟩
  unfold f_M_init at hE
  refine lv_aload_n hx hb dX12_init_0 rfl (lv_at hl 0 rfl) ?_
  refine w_oinit (a := th) C hl.1 (List.mem_cons_of_mem _ gw_6_18) (List.mem_cons_of_mem _ gw_1_12) (List.mem_cons_of_mem _ gw_1_13) (Nat.le_of_ble_eq_true rfl) (Nat.le_of_ble_eq_true rfl) dX12_init_1 ?_
  refine lv_aload_n hx hb dX12_init_4 rfl (lv_at hl 0 rfl) ?_
  refine lv_bipush (v := 9) hx hb dX12_init_5 (by decide) ?_
  have hm := mo_M_init_10 N   (nw h 61 (9 : Int32).toNatClampNeg (9 : Int32).toNatClampNeg) th (some th) (some (h_x h)) _ _ (nwA_some hE).2
  have hm1 := hm.1
  have hm2 := hm.2.1
  rw [h_x_nw] at hm1
  rw [h_s_nw] at hm2
  have hwx := wd_x w
  refine w_anw (kd := 61) (t0 := 5) C w (List.mem_cons_of_mem _ gw_6_19) (List.mem_of_getElem? (i := 3) rfl) rfl (by decide) dX12_init_7 hE (by show 0 + 1 ≤ h_x g - (h_x h); omega) (by show 0 + _ ≤ h_s g - (h_s h); omega) (fun H w e1 => ?_)
  exact b_M_init_10 C hni N (h_x h) (h_s h) hn0   (0 + 1) (0 + (9 : Int32).toNatClampNeg) (nw h 61 (9 : Int32).toNatClampNeg (9 : Int32).toNatClampNeg) th (some th) (some (h_x h)) _ _ ls w (by first | (rw [h_s_nw, hsl]; done) | (rw [h_s_nw, hsl]; omega)) (lv_sub hl [0] rfl) e1
