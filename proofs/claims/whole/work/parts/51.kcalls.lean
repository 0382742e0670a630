/-! THROWS, CONSTRUCTORS, NEST MATES (written by wip/gen/kcalls.py) -/
def exN (k : Nat) : String := if k = 1 then "java/util/NoSuchElementException" else "java/lang/IllegalArgumentException"
/-- another size of the heap -/
def sx (g : hS) (n : Nat) : hS := (g.1, g.2.1, g.2.2.1, g.2.2.2.1, g.2.2.2.2.1, n, g.2.2.2.2.2.2)
/-- the room of a throw: a cell of six slots -/
def th (h : hS) : hS := (h.1, h.2.1, h.2.2.1, h.2.2.2.1, h.2.2.2.2.1, h_x h + 1, h_s h + 6)
theorem h_x_th (h : hS) : h_x (th h) = h_x h + 1 := rfl
theorem h_s_th (h : hS) : h_s (th h) = h_s h + 6 := rfl
theorem h_x_sx (h : hS) (n : Nat) : h_x (sx h n) = n := rfl
theorem gr_th (h : hS) : gr (th h) h := ⟨Nat.le_succ _, Nat.le_add_right _ _, fun _ _ => ⟨rfl, rfl⟩⟩
def thr {α : Type} (k : Nat) (h : hS) : Option ((α ⊕ Nat) × hS) := some (.inr k, th h)
def clT {α β : Type} (o : Option ((α ⊕ Nat) × hS)) (K : α → hS → Option ((β ⊕ Nat) × hS)) : Option ((β ⊕ Nat) × hS) := match o with
  | none => none
  | some (.inl r, g) => K r g
  | some (.inr k, g) => some (.inr k, g)
def cvT {α β : Type} (h : hS) (r : Option Nat) (ci : Nat) (f : Nat → Option ((α ⊕ Nat) × hS)) (K : α → hS → Option ((β ⊕ Nat) × hS)) : Option ((β ⊕ Nat) × hS) := nn r fun a => if h_k h a = ci + 1 then clT (f a) K else none
/-- of a method that may throw: what it answers if it doesn't -/
def fN {α : Type} (o : Option ((α ⊕ Nat) × hS)) : Option (α × hS) := match o with
  | some (.inl r, g) => some (r, g)
  | _ => none
theorem fN_some {α : Type} {o : Option ((α ⊕ Nat) × hS)} {r : α} {g : hS} (h : fN o = some (r, g)) : o = some (.inl r, g) := by
  cases o with
  | none => cases h
  | some q =>
    obtain ⟨q1, q2⟩ := q
    cases q1 with
    | inl a => cases h; rfl
    | inr a => cases h
section
variable {α γ : Type} {h : hS}
theorem Mo_thr {k : Nat} : Mo h (thr k h : Option ((α ⊕ Nat) × hS)) := fun r g e => by cases e; exact gr_th h
theorem Mo_clT {o : Option ((γ ⊕ Nat) × hS)} {k : γ → hS → Option ((α ⊕ Nat) × hS)} (a : Mo h o) (b : ∀ r g, Mo g (k r g)) : Mo h (clT o k) := by
  intro r g e
  cases o with
  | none => cases e
  | some q =>
    rcases q with ⟨x | x, f2⟩
    · exact (b x f2 r g e).trans (a _ f2 rfl)
    · cases e
      exact a _ g rfl
theorem Mo_cvT {o : Option Nat} {ci : Nat} {f : Nat → Option ((γ ⊕ Nat) × hS)} {k : γ → hS → Option ((α ⊕ Nat) × hS)} (a : ∀ q, Mo h (f q)) (b : ∀ r g, Mo g (k r g)) : Mo h (cvT h o ci f k) := Mo_nn fun _ => Mo_ite (Mo_clT (a _) b) Mo_none
theorem Mo_fN {o : Option ((α ⊕ Nat) × hS)} (a : Mo h o) : Mo h (fN o) := fun r g e => a _ g (fN_some e)
theorem Mo_uR {kd ci : Nat} {r v : Option Nat} {i : Int32} {f : hS → Option (α × hS)} (q : ∀ g, Mo g (f g)) : Mo h (uR h kd ci r i v f) := Mo_nn fun a => Mo_ite (fun r g e => (q _ r g e).trans (sm_r _ _ _ _).gr) Mo_none
theorem Sh_uR {kd ci : Nat} {r v : Option Nat} {i : Int32} {f : hS → Option (α × hS)} (q : ∀ g, Sh g (f g)) : Sh h (uR h kd ci r i v f) := Sh_nn fun a => Sh_ite (fun r g e => (q _ r g e).trans (sm_r _ _ _ _)) Sh_none
theorem Mo_uS {r v : Option Nat} {i : Int32} {f : hS → Option (α × hS)} (q : ∀ g, Mo g (f g)) : Mo h (uS h r i v f) := Mo_nn fun a => Mo_nn fun b => Mo_ite (fun r g e => (q _ r g e).trans (sm_r _ _ _ _).gr) Mo_none
theorem Mo_cpI {r v : Option Nat} {i j n : Int32} {f : hS → Option (α × hS)} (q : ∀ g, Mo g (f g)) : Mo h (cpI h r i v j n f) := Mo_nn fun a => Mo_nn fun b => Mo_ite (fun r g e => (q _ r g e).trans (sm.gr ⟨rfl, rfl, rfl, rfl⟩)) Mo_none
theorem Sh_cpI {r v : Option Nat} {i j n : Int32} {f : hS → Option (α × hS)} (q : ∀ g, Sh g (f g)) : Sh h (cpI h r i v j n f) := Sh_nn fun a => Sh_nn fun b => Sh_ite (fun r g e => (q _ r g e).trans ⟨rfl, rfl, rfl, rfl⟩) Sh_none
theorem Mo_cpJ {r v : Option Nat} {i j n : Int32} {f : hS → Option (α × hS)} (q : ∀ g, Mo g (f g)) : Mo h (cpJ h r i v j n f) := Mo_nn fun a => Mo_nn fun b => Mo_ite (fun r g e => (q _ r g e).trans (sm.gr ⟨rfl, rfl, rfl, rfl⟩)) Mo_none
theorem Mo_clJ {r : Option Nat} {f : Nat → hS → Option (α × hS)} (q : ∀ a g, Mo g (f a g)) : Mo h (clJ h r f) := Mo_nn fun a => Mo_ite (fun r g e => (q _ _ r g e).trans (gr_nwJ _ _ _)) Mo_none
end
/-- the world without what the machine holds beside the pool -/
def wT (D : va_G) (cy : cyT) (z : Nat) (h : hS) (U : State) : Prop := ∃ L : List Nat, (∀ a, h_k h a ≠ 0 → ¬ roK (h_k h a) → a ∈ L) ∧ va_P D cls (va_pl L (cf cy.1 h)) U.heap ∧ va_D (fun q => z ≤ q) (va_pl L (cf cy.1 h)) ∧ va_K D cls (tys cy.1) U ∧ (0 < z ∧ z ≤ U.heap.size) ∧ U.heap.size = h_x h ∧ (∀ a, roK (h_k h a) → a < z ∧ rA z h a U U.heap) ∧ (h_k h 0 = 0 ∨ roK (h_k h 0)) ∧ h_r h 0 = cy.2
theorem wT.moved {D : va_G} {cy : cyT} {z : Nat} {h : hS} {u U : State} (hH : U.heap = u.heap) (hvm : u.vm.Alike U.vm) (q : wT D cy z h u) : wT D cy z h U := by
  obtain ⟨L, q1, q2, q3, q4, q5, q6, q7, q8⟩ := q
  exact ⟨L, q1, by rw [hH]; exact q2, q3, va_K.moved hvm q4, by rw [hH]; exact q5, by rw [hH]; exact q6, fun a ha => ⟨(q7 a ha).1, by rw [hH]; exact (q7 a ha).2.moved hvm⟩, q8⟩
/-- where E was thrown -/
def tQ (D : va_G) (cy : cyT) (z : Nat) (g : hS) (E : String) : String → State → State → Prop := fun E1 st t => E1 = E ∧ (∃ n, h_x g ≤ n + 1 ∧ wT D cy z (sx g n) t) ∧ va_F (fun q => z ≤ q) st t
def ctT {α : Type} (l : Launch) (y : MethodName) (ws : List Cond) (rm : Room) (D : va_G) (cy : cyT) (z : Nat) (h : hS) (av : List Value) (rv : α → Option Value) (o : α ⊕ Nat) (g : hS) : Prop := match o with
  | .inl r => ct l y ws rm D cy z h av (rv r) g
  | .inr k => vx_Met l y ws rm (va_Pc av (wU D cy z h)) (fun _ _ _ _ => False) (tQ D cy z g (exN k)) rm.cells rm.slots (fun q => z ≤ q)
def eT {α : Type} (D : va_G) (cy : cyT) (z : Nat) (rv : α → Option Value) (o : α ⊕ Nat) (g : hS) (below : List Frame) (args : Array Value) (s : State) (mc ms : Nat) : State → Prop := match o with
  | .inl r => MQ below (eQ D cy z (rv r) g) args s mc ms (fun q => z ≤ q)
  | .inr k => vx_MQ below (fun _ _ _ _ => False) (tQ D cy z g (exN k)) args s mc ms (fun q => z ≤ q)
theorem tab_of {p : Program} {l : Launch} {y : MethodName} {ws' : List Cond} {rm : Room} {cc : ByteArray} {maxL : Nat} {ret : Option FieldType} {e : Env} {s s₁ : State} {m : MethodId} {args : Array Value} {below : List Frame} {meth : Method} {c : Code} (B : BodyLoose p l y (headSpec (Cond.code y cc maxL ret :: ws') rm) cc maxL ret e s m args below meth c s₁) : ∀ x ∈ c.exceptionTable.toList, False := by
  obtain ⟨meth9, c9, h1, h2, -, -, -, -, h7, -⟩ := Cond.code_spec B.named (atoms_spec (ws := Cond.code y cc maxL ret :: ws') B.pre _ List.mem_cons_self)
  cases Option.some.inj (h1.symm.trans B.method)
  cases Option.some.inj (h2.symm.trans (Stand.of_body B).code)
  intro x hx
  rw [Array.isEmpty_iff.mp h7] at hx
  cases hx
theorem ctT_of {α : Type} {l : Launch} {y : MethodName} {ws' : List Cond} {rm : Room} {cc : ByteArray} {maxL : Nat} {ret : Option FieldType} {D : va_G} {cy : cyT} {z : Nat} {h g : hS} {av : List Value} {rv : α → Option Value} {o : α ⊕ Nat} (hy : plainName y.cls = true)
    (body : ∀ p e s m args below meth c s₁, BodyLoose p l y (headSpec (Cond.code y cc maxL ret :: ws') rm) cc maxL ret e s m args below meth c s₁ → c.maxLocals = maxL → (∀ x ∈ c.exceptionTable.toList, False) → va_Pc av (wU D cy z h) args s → W p l e rm s m args below meth c s.heap [] 0 0 (eT D cy z rv o g below args s rm.cells rm.slots) (entryFrame m args maxL)) : ctT l y (Cond.code y cc maxL ret :: ws') rm D cy z h av rv o g := by
  cases o with
  | inl r => exact Met.ofW (cc := cc) (maxL := maxL) (ret := ret) hy rfl (fun p e s m args below meth c s₁ B hml hv => body p e s m args below meth c s₁ B hml (tab_of B) hv)
  | inr k => exact vx_ofW (cc := cc) (maxL := maxL) (ret := ret) hy rfl (fun p e s m args below meth c s₁ B hml ht hv => body p e s m args below meth c s₁ B hml ht hv)
section WT
variable {p : Program} {l : Launch} {e : Env} {R : Room} {s : State} {m : MethodId} {args : Array Value} {below : List Frame} {meth : Method} {c : Code} {H : Heap} {locs : List Loc} {cells slots : Nat} {Q : State → Prop} {cc : ByteArray} {nL : Nat} {ret : Option FieldType} {own : String} {Ts : List Cond} {pc : Nat} {ls : Array Slot} {rest : List Value} {D : va_G} {cy : cyT} {z : Nat} {h : hS} {β : Type} {res : β}

theorem w_iretT {v : Int32} {r : Int32 ⊕ Nat} {g : hS} (C : MX p s m args meth c cc nL (some .int) own Ts) {k1 : Nat} (w : wd D cy z s k1 h H locs) (hE : some (Sum.inl v, h) = some (r, g)) (hdg : decode cc pc = .ok (.ireturn, 1)) : W p l e R s m args below meth c H locs cells slots (eT D cy z rI r g below args s cells slots) (F0 m pc ls [.int v]) := by
  cases hE
  exact w_iret C w rfl hdg
theorem w_lretT {v : Int64} {r : Int64 ⊕ Nat} {g : hS} (C : MX p s m args meth c cc nL (some .long) own Ts) {k1 : Nat} (w : wd D cy z s k1 h H locs) (hE : some (Sum.inl v, h) = some (r, g)) (hdg : decode cc pc = .ok (.lreturn, 1)) : W p l e R s m args below meth c H locs cells slots (eT D cy z rJ r g below args s cells slots) (F0 m pc ls [.long v]) := by
  cases hE
  exact w_lret C w rfl hdg
theorem w_vretT {r : Unit ⊕ Nat} {g : hS} (C : MX p s m args meth c cc nL none own Ts) {k1 : Nat} (w : wd D cy z s k1 h H locs) (hE : some (Sum.inl (), h) = some (r, g)) (hdg : decode cc pc = .ok (.return_, 1)) : W p l e R s m args below meth c H locs cells slots (eT D cy z rV r g below args s cells slots) (F0 m pc ls []) := by
  cases hE
  exact w_vret C w rfl hdg
theorem w_aretT {v : Option Nat} {r : Option Nat ⊕ Nat} {g : hS} {rt : FieldType} (hrt : (∃ n, rt = .object n) ∨ ∃ t, rt = .array t) (C : MX p s m args meth c cc nL (some rt) own Ts) {k1 : Nat} (w : wd D cy z s k1 h H locs) (hE : some (Sum.inl v, h) = some (r, g)) (hdg : decode cc pc = .ok (.areturn, 1)) : W p l e R s m args below meth c H locs cells slots (eT D cy z rR r g below args s cells slots) (F0 m pc ls [va_rf v]) := by
  cases hE
  exact w_aret hrt C w rfl hdg
theorem w_zretT {v : Int32} {r : Int32 ⊕ Nat} {g : hS} (C : MX p s m args meth c cc nL (some .boolean) own Ts) {k1 : Nat} (w : wd D cy z s k1 h H locs) (hE : bz v (some (Sum.inl v, h)) = some (r, g)) (hdg : decode cc pc = .ok (.ireturn, 1)) : W p l e R s m args below meth c H locs cells slots (eT D cy z rI r g below args s cells slots) (F0 m pc ls [.int v]) := by
  obtain ⟨hz, hE1⟩ := if_some hE
  cases hE1
  exact w_zret C w (if_pos hz) hdg
theorem hatN {w0 : Cond} (hts : ∀ w ∈ w0 :: GW, w.before args s = true) (hc : va_Nw (.castable "java/util/NoSuchElementException" "java/util/NoSuchElementException") s) (hd : ∀ y ∈ dcl, va_Nw (.declares y) s) : ∀ w ∈ vx_atN RX11 190 "java/util/NoSuchElementException", w.before args s = true :=
  vx_hat (B := [.castable "java/util/NoSuchElementException" "java/util/NoSuchElementException", .declares (Bundle.initS "java/lang/RuntimeException"), .declares (Bundle.initS "java/lang/Exception"), .declares (Bundle.initS Bundle.tN)]) (fun w h => hts w (List.mem_cons_of_mem _ (List.mem_append_right _ (List.mem_append_left _ h)))) (by decide +kernel) (vx_c (va_Nw.use rfl hc) (vx_c (va_Nw.use rfl (hd _ (List.mem_of_getElem? (i := 0) rfl))) (vx_c (va_Nw.use rfl (hd _ (List.mem_of_getElem? (i := 1) rfl))) (vx_c (va_Nw.use rfl (hd _ (List.mem_of_getElem? (i := 2) rfl))) vx_n))))
theorem hatI {w0 : Cond} (hts : ∀ w ∈ w0 :: GW, w.before args s = true) (hc : va_Nw (.castable "java/lang/IllegalArgumentException" "java/lang/IllegalArgumentException") s) (hd : ∀ y ∈ dcl, va_Nw (.declares y) s) : ∀ w ∈ vx_atS RX11 469 "java/lang/IllegalArgumentException" ["java/lang/RuntimeException", "java/lang/Exception"], w.before args s = true :=
  vx_hat (B := [.castable "java/lang/IllegalArgumentException" "java/lang/IllegalArgumentException", .declares (Bundle.initS "java/lang/RuntimeException"), .declares (Bundle.initS "java/lang/Exception"), .declares (Bundle.initS Bundle.tN)]) (fun w h => hts w (List.mem_cons_of_mem _ (List.mem_append_right _ (List.mem_append_right _ h)))) (by decide +kernel) (vx_c (va_Nw.use rfl hc) (vx_c (va_Nw.use rfl (hd _ (List.mem_of_getElem? (i := 0) rfl))) (vx_c (va_Nw.use rfl (hd _ (List.mem_of_getElem? (i := 1) rfl))) (vx_c (va_Nw.use rfl (hd _ (List.mem_of_getElem? (i := 2) rfl))) vx_n))))
theorem w_thrN {α : Type} {rv : α → Option Value} {r : α ⊕ Nat} {g : hS} {w0 : Cond} {is pl n0 s0 F Lc : Nat} {tx : String} (hst : l.stackTraces = false) (hxt : ∀ x ∈ c.exceptionTable.toList, False) (C : MX p s m args meth c cc nL ret RX11 (w0 :: GW)) (w : wd D cy z s cells h H locs) (hn0 : s.heap.size = n0) (hsl : h_s h = s0 + slots) (hsz : ls.size = nL) (hq : (RX11, is, tx, pl) ∈ scs) (g1 : Cond.classLink RX11 186 "java/util/NoSuchElementException" ∈ GW) (g2 : Cond.initialized "java/util/NoSuchElementException" ∈ GW)
    (d0 : decode cc pc = .ok (.new 186, 3)) (d3 : decode cc (pc + 3) = .ok (.dup, 1)) (d4 : decode cc (pc + 4) = .ok (.ldc is, 2)) (d6 : decode cc (pc + 6) = .ok (.invokespecial 190, 3)) (d9 : decode cc (pc + 9) = .ok (.athrow, 1)) (hF : 6 ≤ F) (hL : 82 ≤ Lc) (hE : thr 1 h = some (r, g)) :
    W p l e { frames := F, cells := h_x g - n0, slots := h_s g - s0, locals := Lc } s m args below meth c H locs cells slots (eT D cy z rv r g below args s (h_x g - n0) (h_s g - s0)) (F0 m pc ls []) := by
  cases hE
  obtain ⟨a, h2, h3⟩ := (wd_X w).1.2.1 _ hq
  have hx := wd_x w
  have hc1 : cells + 1 ≤ h_x (th h) - n0 := by rw [h_x_th]; omega
  have hc2 : slots + 6 ≤ h_s (th h) - s0 := by rw [h_s_th]; omega
  show W p l e _ s m args below meth c H locs cells slots (vx_MQ below (fun _ _ _ _ => False) (tQ D cy z (th h) "java/util/NoSuchElementException") args s (h_x (th h) - n0) (h_s (th h) - s0) (fun q => z ≤ q)) (F0 m pc ls [])
  refine vx_throwN C.1 C.2.1 hst C.2.2.2.2.1 (by decide +kernel) (C.2.2.2.2.2.1 _ (List.mem_cons_of_mem _ g1)) (C.2.2.2.2.2.1 _ (List.mem_cons_of_mem _ g2)) h3 (hatN C.2.2.2.2.2.1 ((wd_X w).1.2.2.2.2.2.2.1 _ (List.mem_of_getElem? (i := 0) rfl)) (wd_X w).1.2.2.2.2.2.2.2.2.2.2.2) (by decide +kernel) (wd_X w).1.2.2.2.2.2.2.2.2.1 (wd_X w).1.2.2.2.2.2.2.2.2.2.1 (wd_S w) (hsz.trans C.2.2.2.1.symm) d0 d3 d4 d6 d9 (fun x hx => (hxt x hx).elim) (by show 5 < F; omega) (by show 0 + 82 ≤ Lc; omega) hc1 hc2 C.2.2.2.2.2.2 (fun t hA h5 h6 => ?_) (wd_S w).2.2 hc1 hc2
  have hSS := wd_S w
  obtain ⟨L, q1, q2, q3, q4, q5, q6, q7, q8, q9, q10, q11, q12⟩ := w
  refine ⟨rfl, ⟨t.heap.size, by rw [h_x_th]; omega, L, q1, q2.kept (fun k x hx => h6 x.1 ((q2 k x hx).lt)), q3, va_K.moved hA q5, ⟨q6.1, by have := q4.1; omega⟩, rfl, fun b hb => ⟨(q9 b hb).1, ((q9 b hb).2.kept (fun q u1 u2 => (h6 q (Nat.lt_of_lt_of_le u1 q4.1)).trans (q4.2.1 q u1 u2))).moved hA⟩, q11, q12⟩, ⟨by have := q4.1; omega, fun q u1 u2 => (h6 q (Nat.lt_of_lt_of_le u1 q4.1)).trans (q4.2.1 q u1 u2)⟩⟩
theorem w_thrNW {α : Type} {rv : α → Option Value} {r : α ⊕ Nat} {g : hS} {w0 : Cond} {is pl n0 s0 F Lc : Nat} {tx : String} (hst : l.stackTraces = false) (hxt : ∀ x ∈ c.exceptionTable.toList, False) (C : MX p s m args meth c cc nL ret RX11 (w0 :: GW)) (w : wd D cy z s cells h H locs) (hn0 : s.heap.size = n0) (hsl : h_s h = s0 + slots) (hsz : ls.size = nL) (hq : (RX11, is, tx, pl) ∈ scs) (g1 : Cond.classLink RX11 186 "java/util/NoSuchElementException" ∈ GW) (g2 : Cond.initialized "java/util/NoSuchElementException" ∈ GW)
    (d0 : decode cc pc = .ok (.new 186, 3)) (d3 : decode cc (pc + 3) = .ok (.dup, 1)) (d4 : decode cc (pc + 4) = .ok (.ldc_w is, 3)) (d6 : decode cc (pc + 7) = .ok (.invokespecial 190, 3)) (d9 : decode cc (pc + 10) = .ok (.athrow, 1)) (hF : 6 ≤ F) (hL : 82 ≤ Lc) (hE : thr 1 h = some (r, g)) :
    W p l e { frames := F, cells := h_x g - n0, slots := h_s g - s0, locals := Lc } s m args below meth c H locs cells slots (eT D cy z rv r g below args s (h_x g - n0) (h_s g - s0)) (F0 m pc ls []) := by
  cases hE
  obtain ⟨a, h2, h3⟩ := (wd_X w).1.2.1 _ hq
  have hx := wd_x w
  have hc1 : cells + 1 ≤ h_x (th h) - n0 := by rw [h_x_th]; omega
  have hc2 : slots + 6 ≤ h_s (th h) - s0 := by rw [h_s_th]; omega
  show W p l e _ s m args below meth c H locs cells slots (vx_MQ below (fun _ _ _ _ => False) (tQ D cy z (th h) "java/util/NoSuchElementException") args s (h_x (th h) - n0) (h_s (th h) - s0) (fun q => z ≤ q)) (F0 m pc ls [])
  refine vx_throwNW C.1 C.2.1 hst C.2.2.2.2.1 (by decide +kernel) (C.2.2.2.2.2.1 _ (List.mem_cons_of_mem _ g1)) (C.2.2.2.2.2.1 _ (List.mem_cons_of_mem _ g2)) h3 (hatN C.2.2.2.2.2.1 ((wd_X w).1.2.2.2.2.2.2.1 _ (List.mem_of_getElem? (i := 0) rfl)) (wd_X w).1.2.2.2.2.2.2.2.2.2.2.2) (by decide +kernel) (wd_X w).1.2.2.2.2.2.2.2.2.1 (wd_X w).1.2.2.2.2.2.2.2.2.2.1 (wd_S w) (hsz.trans C.2.2.2.1.symm) d0 d3 d4 d6 d9 (fun x hx => (hxt x hx).elim) (by show 5 < F; omega) (by show 0 + 82 ≤ Lc; omega) hc1 hc2 C.2.2.2.2.2.2 (fun t hA h5 h6 => ?_) (wd_S w).2.2 hc1 hc2
  have hSS := wd_S w
  obtain ⟨L, q1, q2, q3, q4, q5, q6, q7, q8, q9, q10, q11, q12⟩ := w
  refine ⟨rfl, ⟨t.heap.size, by rw [h_x_th]; omega, L, q1, q2.kept (fun k x hx => h6 x.1 ((q2 k x hx).lt)), q3, va_K.moved hA q5, ⟨q6.1, by have := q4.1; omega⟩, rfl, fun b hb => ⟨(q9 b hb).1, ((q9 b hb).2.kept (fun q u1 u2 => (h6 q (Nat.lt_of_lt_of_le u1 q4.1)).trans (q4.2.1 q u1 u2))).moved hA⟩, q11, q12⟩, ⟨by have := q4.1; omega, fun q u1 u2 => (h6 q (Nat.lt_of_lt_of_le u1 q4.1)).trans (q4.2.1 q u1 u2)⟩⟩
theorem w_thrIW {α : Type} {rv : α → Option Value} {r : α ⊕ Nat} {g : hS} {w0 : Cond} {is pl n0 s0 F Lc : Nat} {tx : String} (hst : l.stackTraces = false) (hxt : ∀ x ∈ c.exceptionTable.toList, False) (C : MX p s m args meth c cc nL ret RX11 (w0 :: GW)) (w : wd D cy z s cells h H locs) (hn0 : s.heap.size = n0) (hsl : h_s h = s0 + slots) (hsz : ls.size = nL) (hq : (RX11, is, tx, pl) ∈ scs) (g1 : Cond.classLink RX11 465 "java/lang/IllegalArgumentException" ∈ GW) (g2 : Cond.initialized "java/lang/IllegalArgumentException" ∈ GW)
    (d0 : decode cc pc = .ok (.new 465, 3)) (d3 : decode cc (pc + 3) = .ok (.dup, 1)) (d4 : decode cc (pc + 4) = .ok (.ldc_w is, 3)) (d6 : decode cc (pc + 7) = .ok (.invokespecial 469, 3)) (d9 : decode cc (pc + 10) = .ok (.athrow, 1)) (hF : 6 ≤ F) (hL : 82 ≤ Lc) (hE : thr 2 h = some (r, g)) :
    W p l e { frames := F, cells := h_x g - n0, slots := h_s g - s0, locals := Lc } s m args below meth c H locs cells slots (eT D cy z rv r g below args s (h_x g - n0) (h_s g - s0)) (F0 m pc ls []) := by
  cases hE
  obtain ⟨a, h2, h3⟩ := (wd_X w).1.2.1 _ hq
  have hx := wd_x w
  have hc1 : cells + 1 ≤ h_x (th h) - n0 := by rw [h_x_th]; omega
  have hc2 : slots + 6 ≤ h_s (th h) - s0 := by rw [h_s_th]; omega
  show W p l e _ s m args below meth c H locs cells slots (vx_MQ below (fun _ _ _ _ => False) (tQ D cy z (th h) "java/lang/IllegalArgumentException") args s (h_x (th h) - n0) (h_s (th h) - s0) (fun q => z ≤ q)) (F0 m pc ls [])
  refine vx_throwSW (names := ["java/lang/RuntimeException", "java/lang/Exception"]) C.1 C.2.1 hst C.2.2.2.2.1 (by decide +kernel) (by decide +kernel) (C.2.2.2.2.2.1 _ (List.mem_cons_of_mem _ g1)) (C.2.2.2.2.2.1 _ (List.mem_cons_of_mem _ g2)) h3 (hatI C.2.2.2.2.2.1 ((wd_X w).1.2.2.2.2.2.2.1 _ (List.mem_of_getElem? (i := 1) rfl)) (wd_X w).1.2.2.2.2.2.2.2.2.2.2.2) (by decide +kernel) (wd_X w).1.2.2.2.2.2.2.2.2.1 (wd_X w).1.2.2.2.2.2.2.2.2.2.1 (wd_S w) (hsz.trans C.2.2.2.1.symm) d0 d3 d4 d6 d9 (fun x hx => (hxt x hx).elim) (by show 5 < F; omega) (by show 0 + 82 ≤ Lc; omega) hc1 hc2 C.2.2.2.2.2.2 (fun t hA h5 h6 => ?_) (wd_S w).2.2 hc1 hc2
  have hSS := wd_S w
  obtain ⟨L, q1, q2, q3, q4, q5, q6, q7, q8, q9, q10, q11, q12⟩ := w
  refine ⟨rfl, ⟨t.heap.size, by rw [h_x_th]; omega, L, q1, q2.kept (fun k x hx => h6 x.1 ((q2 k x hx).lt)), q3, va_K.moved hA q5, ⟨q6.1, by have := q4.1; omega⟩, rfl, fun b hb => ⟨(q9 b hb).1, ((q9 b hb).2.kept (fun q u1 u2 => (h6 q (Nat.lt_of_lt_of_le u1 q4.1)).trans (q4.2.1 q u1 u2))).moved hA⟩, q11, q12⟩, ⟨by have := q4.1; omega, fun q u1 u2 => (h6 q (Nat.lt_of_lt_of_le u1 q4.1)).trans (q4.2.1 q u1 u2)⟩⟩
theorem w_ST {α γ : Type} (rv : α → Option Value) {ru : γ → Option Value} {G : List Cond} {w0 : Cond} (hG : G.all goodWord = true) {y : MethodName} {bytes : ByteArray} {maxL n index F Lc FR LR : Nat} {rt : Option FieldType} {av st0 : List Value} {f : Option ((α ⊕ Nat) × hS)} {K : α → hS → Option ((γ ⊕ Nat) × hS)} {o : γ ⊕ Nat} {g : hS} {n0 s0 : Nat} (hxt : ∀ x ∈ c.exceptionTable.toList, False) (hn0 : s.heap.size = n0) (hsl : h_s h = s0 + slots) (C : MX p s m args meth c cc nL ret own (w0 :: G)) (w : wd D cy z s cells h H locs) (hM : ∀ r g, f = some (r, g) → ctT l y (Cond.code y bytes maxL rt :: G) { frames := F, cells := h_x g - h_x h, slots := h_s g - h_s h, locals := Lc } D cy z h av rv r g)
    (g1 : Cond.methodLink own index y ∈ G) (g2 : Cond.static y ∈ G) (g3 : Cond.initialized y.cls ∈ G) (g4 : Cond.code y bytes maxL rt ∈ G) (hd : y.cls ≠ "java/lang/invoke/MethodHandle" ∧ y.cls ≠ "java/lang/invoke/VarHandle" ∧ (parseMethodDescriptor y.desc).map (fun d => d.parameters.length) = some n) (hR : F + 1 ≤ FR ∧ 8 + (maxL + 11) + Lc ≤ LR)
    (hn : av.length = n) (hsz : ls.size = nL) (hst : st0 = av.reverse ++ rest) (hW : (rest.map fun v => v.category).sum ≤ 8) (hdg : decode cc pc = .ok (.invokestatic index, 3)) (hgr : Mo h (f)) (hmo : ∀ r h2, Mo h2 (K r h2)) (hE : clT f K = some (o, g))
    (kk : ∀ (r : α) (h2 : hS) (H1 : Heap) (locs1 : List Loc), wd D cy z s (cells + (h_x h2 - h_x h)) h2 H1 locs1 → gr h2 h → K r h2 = some (o, g) → W p l e { frames := FR, cells := h_x g - n0, slots := h_s g - s0, locals := LR } s m args below meth c H1 locs1 (cells + (h_x h2 - h_x h)) (slots + (h_s h2 - h_s h)) (eT D cy z ru o g below args s (h_x g - n0) (h_s g - s0)) (F0 m (pc + 3) ls ((rv r).toList ++ rest))) : W p l e { frames := FR, cells := h_x g - n0, slots := h_s g - s0, locals := LR } s m args below meth c H locs cells slots (eT D cy z ru o g below args s (h_x g - n0) (h_s g - s0)) (F0 m pc ls st0) := by
  have hx := wd_x w
  cases hfe : f with
  | none => rw [hfe] at hE; cases hE
  | some q =>
    obtain ⟨q1, h2⟩ := q
    rw [hfe] at hE
    cases q1 with
    | inl r =>
      have hE : K r h2 = some (o, g) := hE
      have u1 := hgr _ _ hfe
      have u2 := hmo r h2 _ _ hE
      have u3 := u1.1
      have u4 := u1.2.1
      have u5 := u2.1
      have u6 := u2.2.1
      exact w_S rv hG (rm := { frames := F, cells := h_x h2 - h_x h, slots := h_s h2 - h_s h, locals := Lc }) (f := some (r, h2)) (K := K) C w (fun r1 gg e => by cases e; exact hM (.inl r) h2 hfe) g1 g2 g3 g4 hd hR hn hsz hst hW hdg (fun r1 gg e => by cases e; exact Or.inr rfl) ⟨by show cells + (h_x h2 - h_x h) ≤ h_x g - n0; omega, by show slots + (h_s h2 - h_s h) ≤ h_s g - s0; omega⟩ hE (fun r1 gg H1 locs1 w1 e1 e2 => by cases e1; exact kk r h2 H1 locs1 w1 u1 hE)
    | inr k =>
      have hE : (some (Sum.inr k, h2) : Option ((γ ⊕ Nat) × hS)) = some (o, g) := hE
      have u1 := hgr _ _ hfe
      have hM1 := hM (.inr k) h2 hfe
      cases hE
      have u3 := u1.1
      have u4 := u1.2.1
      have cw := va_cwS (R := { frames := FR, cells := h_x g - n0, slots := h_s g - s0, locals := LR }) (rm := { frames := F, cells := h_x g - h_x h, slots := h_s g - h_s h, locals := Lc }) (mc := h_x g - h_x h) (ms := h_s g - h_s h) n C.2.2.2.2.2.1 (goodIn_G (w0 := w0) hG (ws := va_wsS own index y (Cond.code y bytes maxL rt :: G)) (fun w hw => by
            simp only [va_wsS, List.mem_append, List.mem_cons, List.not_mem_nil, or_false] at hw
            rcases hw with (h | h | h) | h | h
            · rw [h]; exact g1
            · rw [h]; exact g2
            · rw [h]; exact g3
            · rw [h]; exact g4
            · exact h)) rfl rfl rfl hd hR
      have hrun := vx_runS (As := av) (rest := rest) ⟨C.1, C.2.1, C.2.2.2.1, C.2.2.2.2.1, C.2.2.2.2.2.1⟩ hM1 cw ⟨wU_blind, fun U hU hW => ⟨rfl, wd_U w hU hW⟩⟩ (g := F0 m pc ls st0) rfl hn hsz hst (lv_room hW) hdg ⟨by show cells + (h_x g - h_x h) ≤ h_x g - n0; omega, by show slots + (h_s g - h_s h) ≤ h_s g - s0; omega⟩ (below := below) (meth := meth) (e := e) (locs := locs)
      have hS := wd_S w
      intro T hT X
      rcases hrun T hT X with ⟨v, st₀, t, T', L, h0, X', hL, e1, e2, hq, st⟩ | ⟨q, st₀, t, T', L, E, ce, h0, X', hL, e1, e2, ⟨hE1, ⟨m0, hm0, hwT⟩, hF⟩, hce, hcv, hcl, st⟩
      · exact hq.elim
      · obtain ⟨hz, hk⟩ := hF
        rw [h0] at hz hk
        obtain ⟨t2, a1, b1⟩ := vx_out (H := T'.heap) (locs := locs ++ L) (pc := pc) (ls := ls) (rest := rest) (mc := h_x g - n0) (ms := h_s g - s0) (Qc := fun _ _ _ _ => False) (XC := tQ D cy z g (exN k)) (free := fun q => z ≤ q) (fun x hx => (hxt x hx).elim) C.2.2.2.2.2.2 (by rw [e1]; exact hce) hcv hcl (fun t' ht' hA => ⟨hE1, ⟨m0, hm0, hwT.moved (by rw [ht', e1]) (by rw [← e2]; exact X'.warmed.alike.symm.trans hA)⟩, ⟨by rw [ht', e1]; exact Nat.le_trans hS.1 hz, fun q u1 u2 => by rw [ht', e1, hk q (Nat.lt_of_lt_of_le u1 hS.1) u2]; exact hS.2.1 q u1 u2⟩⟩) (fun q hq => by
          rcases List.mem_append.mp hq with h | h
          · exact hS.2.2 q h
          · exact hL q h) (by omega) (by omega) T' rfl X'
        exact ⟨t2, st.trans a1, b1⟩
theorem w_VT {α γ : Type} (rv : α → Option Value) {ru : γ → Option Value} {G : List Cond} {w0 : Cond} (hG : G.all goodWord = true) {CN : String} {T : u_T} {N ci : Nat} {ob : Option Nat} {y : MethodName} {bytes : ByteArray} {maxL n index F Lc FR LR : Nat} {rt : Option FieldType} {av st0 : List Value} {f : Nat → Option ((α ⊕ Nat) × hS)} {K : α → hS → Option ((γ ⊕ Nat) × hS)} {o : γ ⊕ Nat} {g : hS} {n0 s0 : Nat} (hxt : ∀ x ∈ c.exceptionTable.toList, False) (hn0 : s.heap.size = n0) (hsl : h_s h = s0 + slots) (C : MX p s m args meth c cc nL ret own (w0 :: G)) (w : wd D cy z s cells h H locs) (hc : cls[ci]? = some (CN, T, N)) (hci : ci + 1 < 50) (hM : ∀ a r g, f a = some (r, g) → ctT l y (Cond.code y bytes maxL rt :: G) { frames := F, cells := h_x g - h_x h, slots := h_s g - h_s h, locals := Lc } D cy z h (.ref a :: av) rv r g)
    (g1 : Cond.methodLink own index y ∈ G) (g2 : Cond.instanceMethod y ∈ G) (g5 : Cond.selects CN y y ∈ G) (g3 : Cond.initialized CN ∈ G) (g4 : Cond.code y bytes maxL rt ∈ G) (hd : y.cls = CN ∧ y.cls ≠ "java/lang/invoke/MethodHandle" ∧ y.cls ≠ "java/lang/invoke/VarHandle" ∧ (parseMethodDescriptor y.desc).map (fun d => d.parameters.length) = some n) (hR : F + 1 ≤ FR ∧ 8 + (maxL + 11) + Lc ≤ LR)
    (hn : av.length = n) (hsz : ls.size = nL) (hst : st0 = av.reverse ++ va_rf ob :: rest) (hW : (rest.map fun v => v.category).sum ≤ 8) (hdg : decode cc pc = .ok (.invokevirtual index, 3)) (hgr : ∀ a, Mo h (f a)) (hmo : ∀ r h2, Mo h2 (K r h2)) (hE : cvT h ob ci f K = some (o, g))
    (kk : ∀ (r : α) (h2 : hS) (H1 : Heap) (locs1 : List Loc), wd D cy z s (cells + (h_x h2 - h_x h)) h2 H1 locs1 → gr h2 h → K r h2 = some (o, g) → W p l e { frames := FR, cells := h_x g - n0, slots := h_s g - s0, locals := LR } s m args below meth c H1 locs1 (cells + (h_x h2 - h_x h)) (slots + (h_s h2 - h_s h)) (eT D cy z ru o g below args s (h_x g - n0) (h_s g - s0)) (F0 m (pc + 3) ls ((rv r).toList ++ rest))) : W p l e { frames := FR, cells := h_x g - n0, slots := h_s g - s0, locals := LR } s m args below meth c H locs cells slots (eT D cy z ru o g below args s (h_x g - n0) (h_s g - s0)) (F0 m pc ls st0) := by
  have hx := wd_x w
  obtain ⟨a, ho, hE0⟩ := nn_some hE
  obtain ⟨hka, hE5⟩ := if_some hE0
  subst ho
  clear hE0 hE
  have hE := hE5
  clear hE5
  have hM := hM a
  have hgr := hgr a
  have hrec : ∃ cell : Cell, H[a]? = some cell ∧ cell.vm.isStatics = false ∧ s.vm.findClass CN = some cell.cls := by
    obtain ⟨q2, q5⟩ := wd_rd w (a := a) (by omega)
    exact va_recv q5 q2 hc (q0 := 0) (by rw [cf_obj hka hci]; rfl)
  generalize f a = fa at hM hgr hE
  cases hfe : fa with
  | none => rw [hfe] at hE; cases hE
  | some q =>
    obtain ⟨q1, h2⟩ := q
    rw [hfe] at hE
    cases q1 with
    | inl r =>
      have hE : K r h2 = some (o, g) := hE
      have u1 := hgr _ _ hfe
      have u2 := hmo r h2 _ _ hE
      have u3 := u1.1
      have u4 := u1.2.1
      have u5 := u2.1
      have u6 := u2.2.1
      exact w_V rv hG (rm := { frames := F, cells := h_x h2 - h_x h, slots := h_s h2 - h_s h, locals := Lc }) (o := some a) (f := fun q => if q = a then some (r, h2) else none) (K := K) C w hc hci (fun a1 r1 gg e => by
        by_cases q : a1 = a
        · subst q; rw [if_pos rfl] at e; cases e; exact hM (.inl r) h2 hfe
        · rw [if_neg q] at e; cases e) g1 g2 g5 g3 g4 hd hR hn hsz hst hW hdg (fun a1 r1 gg e => by
        by_cases q : a1 = a
        · rw [if_pos q] at e; cases e; exact Or.inr rfl
        · rw [if_neg q] at e; cases e) ⟨by show cells + (h_x h2 - h_x h) ≤ h_x g - n0; omega, by show slots + (h_s h2 - h_s h) ≤ h_s g - s0; omega⟩ (by show (if h_k h a = ci + 1 then cl (if a = a then some (r, h2) else none) K else none) = some (o, g); rw [if_pos hka, if_pos rfl]; exact hE) (fun a1 r1 gg H1 locs1 w1 e1 e2 => by
        by_cases q : a1 = a
        · rw [if_pos q] at e1; cases e1; exact kk r h2 H1 locs1 w1 u1 hE
        · rw [if_neg q] at e1; cases e1)
    | inr k =>
      have hE : (some (Sum.inr k, h2) : Option ((γ ⊕ Nat) × hS)) = some (o, g) := hE
      have u1 := hgr _ _ hfe
      have hM1 := hM (.inr k) h2 hfe
      cases hE
      have u3 := u1.1
      have u4 := u1.2.1
      have cw := cwV (C := CN) (R := { frames := FR, cells := h_x g - n0, slots := h_s g - s0, locals := LR }) (rm := { frames := F, cells := h_x g - h_x h, slots := h_s g - h_s h, locals := Lc }) (mc := h_x g - h_x h) (ms := h_s g - h_s h) n C.2.2.2.2.2.1 (goodIn_G (w0 := w0) hG (ws := wsV own index CN y (Cond.code y bytes maxL rt :: G)) (fun w hw => by
            simp only [wsV, List.mem_append, List.mem_cons, List.not_mem_nil, or_false] at hw
            rcases hw with (h | h | h | h) | h | h
            · rw [h]; exact g1
            · rw [h]; exact g2
            · rw [h]; exact g5
            · rw [h]; exact g3
            · rw [h]; exact g4
            · exact h)) rfl rfl rfl hd hR
      have hrun := vx_runV (As := av) (rest := rest) ⟨C.1, C.2.1, C.2.2.2.1, C.2.2.2.2.1, C.2.2.2.2.2.1⟩ hM1 cw ⟨wU_blind, hrec, fun U hU hW => ⟨rfl, wd_U w hU hW⟩⟩ (g := F0 m pc ls st0) rfl hn hsz hst (lv_room hW) hdg ⟨by show cells + (h_x g - h_x h) ≤ h_x g - n0; omega, by show slots + (h_s g - h_s h) ≤ h_s g - s0; omega⟩ (below := below) (meth := meth) (e := e) (locs := locs)
      have hS := wd_S w
      intro T hT X
      rcases hrun T hT X with ⟨v, st₀, t, T', L, h0, X', hL, e1, e2, hq, st⟩ | ⟨q, st₀, t, T', L, E, ce, h0, X', hL, e1, e2, ⟨hE1, ⟨m0, hm0, hwT⟩, hF⟩, hce, hcv, hcl, st⟩
      · exact hq.elim
      · obtain ⟨hz, hk⟩ := hF
        rw [h0] at hz hk
        obtain ⟨t2, a1, b1⟩ := vx_out (H := T'.heap) (locs := locs ++ L) (pc := pc) (ls := ls) (rest := rest) (mc := h_x g - n0) (ms := h_s g - s0) (Qc := fun _ _ _ _ => False) (XC := tQ D cy z g (exN k)) (free := fun q => z ≤ q) (fun x hx => (hxt x hx).elim) C.2.2.2.2.2.2 (by rw [e1]; exact hce) hcv hcl (fun t' ht' hA => ⟨hE1, ⟨m0, hm0, hwT.moved (by rw [ht', e1]) (by rw [← e2]; exact X'.warmed.alike.symm.trans hA)⟩, ⟨by rw [ht', e1]; exact Nat.le_trans hS.1 hz, fun q u1 u2 => by rw [ht', e1, hk q (Nat.lt_of_lt_of_le u1 hS.1) u2]; exact hS.2.1 q u1 u2⟩⟩) (fun q hq => by
          rcases List.mem_append.mp hq with h | h
          · exact hS.2.2 q h
          · exact hL q h) (by omega) (by omega) T' rfl X'
        exact ⟨t2, st.trans a1, b1⟩
theorem w_STI {γ : Type} {ru : γ → Option Value} {G : List Cond} {w0 : Cond} (hG : G.all goodWord = true) {y : MethodName} {bytes : ByteArray} {maxL n index F Lc FR LR : Nat} {rt : Option FieldType} {av st0 : List Value} {f : Option ((Int32 ⊕ Nat) × hS)} {K : Int32 → hS → Option ((γ ⊕ Nat) × hS)} {o : γ ⊕ Nat} {g : hS} {n0 s0 : Nat} (hxt : ∀ x ∈ c.exceptionTable.toList, False) (hn0 : s.heap.size = n0) (hsl : h_s h = s0 + slots) (C : MX p s m args meth c cc nL ret own (w0 :: G)) (w : wd D cy z s cells h H locs) (hM : ∀ r g, f = some (r, g) → ctT l y (Cond.code y bytes maxL rt :: G) { frames := F, cells := h_x g - h_x h, slots := h_s g - h_s h, locals := Lc } D cy z h av rI r g)
    (g1 : Cond.methodLink own index y ∈ G) (g2 : Cond.static y ∈ G) (g3 : Cond.initialized y.cls ∈ G) (g4 : Cond.code y bytes maxL rt ∈ G) (hd : y.cls ≠ "java/lang/invoke/MethodHandle" ∧ y.cls ≠ "java/lang/invoke/VarHandle" ∧ (parseMethodDescriptor y.desc).map (fun d => d.parameters.length) = some n) (hR : F + 1 ≤ FR ∧ 8 + (maxL + 11) + Lc ≤ LR)
    (hn : av.length = n) (hsz : ls.size = nL) (hst : st0 = av.reverse ++ rest) (hW : (rest.map fun v => v.category).sum ≤ 8) (hdg : decode cc pc = .ok (.invokestatic index, 3)) (hgr : Mo h (f)) (hmo : ∀ r h2, Mo h2 (K r h2)) (hE : clT f K = some (o, g))
    (kk : ∀ (r : Int32) (h2 : hS) (H1 : Heap) (locs1 : List Loc), wd D cy z s (cells + (h_x h2 - h_x h)) h2 H1 locs1 → gr h2 h → K r h2 = some (o, g) → W p l e { frames := FR, cells := h_x g - n0, slots := h_s g - s0, locals := LR } s m args below meth c H1 locs1 (cells + (h_x h2 - h_x h)) (slots + (h_s h2 - h_s h)) (eT D cy z ru o g below args s (h_x g - n0) (h_s g - s0)) (F0 m (pc + 3) ls (.int r :: rest))) : W p l e { frames := FR, cells := h_x g - n0, slots := h_s g - s0, locals := LR } s m args below meth c H locs cells slots (eT D cy z ru o g below args s (h_x g - n0) (h_s g - s0)) (F0 m pc ls st0) :=
  w_ST rI hG hxt hn0 hsl C w hM g1 g2 g3 g4 hd hR hn hsz hst hW hdg hgr hmo hE kk
theorem w_VTI {γ : Type} {ru : γ → Option Value} {G : List Cond} {w0 : Cond} (hG : G.all goodWord = true) {CN : String} {T : u_T} {N ci : Nat} {ob : Option Nat} {y : MethodName} {bytes : ByteArray} {maxL n index F Lc FR LR : Nat} {rt : Option FieldType} {av st0 : List Value} {f : Nat → Option ((Int32 ⊕ Nat) × hS)} {K : Int32 → hS → Option ((γ ⊕ Nat) × hS)} {o : γ ⊕ Nat} {g : hS} {n0 s0 : Nat} (hxt : ∀ x ∈ c.exceptionTable.toList, False) (hn0 : s.heap.size = n0) (hsl : h_s h = s0 + slots) (C : MX p s m args meth c cc nL ret own (w0 :: G)) (w : wd D cy z s cells h H locs) (hc : cls[ci]? = some (CN, T, N)) (hci : ci + 1 < 50) (hM : ∀ a r g, f a = some (r, g) → ctT l y (Cond.code y bytes maxL rt :: G) { frames := F, cells := h_x g - h_x h, slots := h_s g - h_s h, locals := Lc } D cy z h (.ref a :: av) rI r g)
    (g1 : Cond.methodLink own index y ∈ G) (g2 : Cond.instanceMethod y ∈ G) (g5 : Cond.selects CN y y ∈ G) (g3 : Cond.initialized CN ∈ G) (g4 : Cond.code y bytes maxL rt ∈ G) (hd : y.cls = CN ∧ y.cls ≠ "java/lang/invoke/MethodHandle" ∧ y.cls ≠ "java/lang/invoke/VarHandle" ∧ (parseMethodDescriptor y.desc).map (fun d => d.parameters.length) = some n) (hR : F + 1 ≤ FR ∧ 8 + (maxL + 11) + Lc ≤ LR)
    (hn : av.length = n) (hsz : ls.size = nL) (hst : st0 = av.reverse ++ va_rf ob :: rest) (hW : (rest.map fun v => v.category).sum ≤ 8) (hdg : decode cc pc = .ok (.invokevirtual index, 3)) (hgr : ∀ a, Mo h (f a)) (hmo : ∀ r h2, Mo h2 (K r h2)) (hE : cvT h ob ci f K = some (o, g))
    (kk : ∀ (r : Int32) (h2 : hS) (H1 : Heap) (locs1 : List Loc), wd D cy z s (cells + (h_x h2 - h_x h)) h2 H1 locs1 → gr h2 h → K r h2 = some (o, g) → W p l e { frames := FR, cells := h_x g - n0, slots := h_s g - s0, locals := LR } s m args below meth c H1 locs1 (cells + (h_x h2 - h_x h)) (slots + (h_s h2 - h_s h)) (eT D cy z ru o g below args s (h_x g - n0) (h_s g - s0)) (F0 m (pc + 3) ls (.int r :: rest))) : W p l e { frames := FR, cells := h_x g - n0, slots := h_s g - s0, locals := LR } s m args below meth c H locs cells slots (eT D cy z ru o g below args s (h_x g - n0) (h_s g - s0)) (F0 m pc ls st0) :=
  w_VT rI hG hxt hn0 hsl C w hc hci hM g1 g2 g5 g3 g4 hd hR hn hsz hst hW hdg hgr hmo hE kk
theorem w_STJ {γ : Type} {ru : γ → Option Value} {G : List Cond} {w0 : Cond} (hG : G.all goodWord = true) {y : MethodName} {bytes : ByteArray} {maxL n index F Lc FR LR : Nat} {rt : Option FieldType} {av st0 : List Value} {f : Option ((Int64 ⊕ Nat) × hS)} {K : Int64 → hS → Option ((γ ⊕ Nat) × hS)} {o : γ ⊕ Nat} {g : hS} {n0 s0 : Nat} (hxt : ∀ x ∈ c.exceptionTable.toList, False) (hn0 : s.heap.size = n0) (hsl : h_s h = s0 + slots) (C : MX p s m args meth c cc nL ret own (w0 :: G)) (w : wd D cy z s cells h H locs) (hM : ∀ r g, f = some (r, g) → ctT l y (Cond.code y bytes maxL rt :: G) { frames := F, cells := h_x g - h_x h, slots := h_s g - h_s h, locals := Lc } D cy z h av rJ r g)
    (g1 : Cond.methodLink own index y ∈ G) (g2 : Cond.static y ∈ G) (g3 : Cond.initialized y.cls ∈ G) (g4 : Cond.code y bytes maxL rt ∈ G) (hd : y.cls ≠ "java/lang/invoke/MethodHandle" ∧ y.cls ≠ "java/lang/invoke/VarHandle" ∧ (parseMethodDescriptor y.desc).map (fun d => d.parameters.length) = some n) (hR : F + 1 ≤ FR ∧ 8 + (maxL + 11) + Lc ≤ LR)
    (hn : av.length = n) (hsz : ls.size = nL) (hst : st0 = av.reverse ++ rest) (hW : (rest.map fun v => v.category).sum ≤ 8) (hdg : decode cc pc = .ok (.invokestatic index, 3)) (hgr : Mo h (f)) (hmo : ∀ r h2, Mo h2 (K r h2)) (hE : clT f K = some (o, g))
    (kk : ∀ (r : Int64) (h2 : hS) (H1 : Heap) (locs1 : List Loc), wd D cy z s (cells + (h_x h2 - h_x h)) h2 H1 locs1 → gr h2 h → K r h2 = some (o, g) → W p l e { frames := FR, cells := h_x g - n0, slots := h_s g - s0, locals := LR } s m args below meth c H1 locs1 (cells + (h_x h2 - h_x h)) (slots + (h_s h2 - h_s h)) (eT D cy z ru o g below args s (h_x g - n0) (h_s g - s0)) (F0 m (pc + 3) ls (.long r :: rest))) : W p l e { frames := FR, cells := h_x g - n0, slots := h_s g - s0, locals := LR } s m args below meth c H locs cells slots (eT D cy z ru o g below args s (h_x g - n0) (h_s g - s0)) (F0 m pc ls st0) :=
  w_ST rJ hG hxt hn0 hsl C w hM g1 g2 g3 g4 hd hR hn hsz hst hW hdg hgr hmo hE kk
theorem w_VTJ {γ : Type} {ru : γ → Option Value} {G : List Cond} {w0 : Cond} (hG : G.all goodWord = true) {CN : String} {T : u_T} {N ci : Nat} {ob : Option Nat} {y : MethodName} {bytes : ByteArray} {maxL n index F Lc FR LR : Nat} {rt : Option FieldType} {av st0 : List Value} {f : Nat → Option ((Int64 ⊕ Nat) × hS)} {K : Int64 → hS → Option ((γ ⊕ Nat) × hS)} {o : γ ⊕ Nat} {g : hS} {n0 s0 : Nat} (hxt : ∀ x ∈ c.exceptionTable.toList, False) (hn0 : s.heap.size = n0) (hsl : h_s h = s0 + slots) (C : MX p s m args meth c cc nL ret own (w0 :: G)) (w : wd D cy z s cells h H locs) (hc : cls[ci]? = some (CN, T, N)) (hci : ci + 1 < 50) (hM : ∀ a r g, f a = some (r, g) → ctT l y (Cond.code y bytes maxL rt :: G) { frames := F, cells := h_x g - h_x h, slots := h_s g - h_s h, locals := Lc } D cy z h (.ref a :: av) rJ r g)
    (g1 : Cond.methodLink own index y ∈ G) (g2 : Cond.instanceMethod y ∈ G) (g5 : Cond.selects CN y y ∈ G) (g3 : Cond.initialized CN ∈ G) (g4 : Cond.code y bytes maxL rt ∈ G) (hd : y.cls = CN ∧ y.cls ≠ "java/lang/invoke/MethodHandle" ∧ y.cls ≠ "java/lang/invoke/VarHandle" ∧ (parseMethodDescriptor y.desc).map (fun d => d.parameters.length) = some n) (hR : F + 1 ≤ FR ∧ 8 + (maxL + 11) + Lc ≤ LR)
    (hn : av.length = n) (hsz : ls.size = nL) (hst : st0 = av.reverse ++ va_rf ob :: rest) (hW : (rest.map fun v => v.category).sum ≤ 8) (hdg : decode cc pc = .ok (.invokevirtual index, 3)) (hgr : ∀ a, Mo h (f a)) (hmo : ∀ r h2, Mo h2 (K r h2)) (hE : cvT h ob ci f K = some (o, g))
    (kk : ∀ (r : Int64) (h2 : hS) (H1 : Heap) (locs1 : List Loc), wd D cy z s (cells + (h_x h2 - h_x h)) h2 H1 locs1 → gr h2 h → K r h2 = some (o, g) → W p l e { frames := FR, cells := h_x g - n0, slots := h_s g - s0, locals := LR } s m args below meth c H1 locs1 (cells + (h_x h2 - h_x h)) (slots + (h_s h2 - h_s h)) (eT D cy z ru o g below args s (h_x g - n0) (h_s g - s0)) (F0 m (pc + 3) ls (.long r :: rest))) : W p l e { frames := FR, cells := h_x g - n0, slots := h_s g - s0, locals := LR } s m args below meth c H locs cells slots (eT D cy z ru o g below args s (h_x g - n0) (h_s g - s0)) (F0 m pc ls st0) :=
  w_VT rJ hG hxt hn0 hsl C w hc hci hM g1 g2 g5 g3 g4 hd hR hn hsz hst hW hdg hgr hmo hE kk
theorem w_STV {γ : Type} {ru : γ → Option Value} {G : List Cond} {w0 : Cond} (hG : G.all goodWord = true) {y : MethodName} {bytes : ByteArray} {maxL n index F Lc FR LR : Nat} {rt : Option FieldType} {av st0 : List Value} {f : Option ((Unit ⊕ Nat) × hS)} {K : Unit → hS → Option ((γ ⊕ Nat) × hS)} {o : γ ⊕ Nat} {g : hS} {n0 s0 : Nat} (hxt : ∀ x ∈ c.exceptionTable.toList, False) (hn0 : s.heap.size = n0) (hsl : h_s h = s0 + slots) (C : MX p s m args meth c cc nL ret own (w0 :: G)) (w : wd D cy z s cells h H locs) (hM : ∀ r g, f = some (r, g) → ctT l y (Cond.code y bytes maxL rt :: G) { frames := F, cells := h_x g - h_x h, slots := h_s g - h_s h, locals := Lc } D cy z h av rV r g)
    (g1 : Cond.methodLink own index y ∈ G) (g2 : Cond.static y ∈ G) (g3 : Cond.initialized y.cls ∈ G) (g4 : Cond.code y bytes maxL rt ∈ G) (hd : y.cls ≠ "java/lang/invoke/MethodHandle" ∧ y.cls ≠ "java/lang/invoke/VarHandle" ∧ (parseMethodDescriptor y.desc).map (fun d => d.parameters.length) = some n) (hR : F + 1 ≤ FR ∧ 8 + (maxL + 11) + Lc ≤ LR)
    (hn : av.length = n) (hsz : ls.size = nL) (hst : st0 = av.reverse ++ rest) (hW : (rest.map fun v => v.category).sum ≤ 8) (hdg : decode cc pc = .ok (.invokestatic index, 3)) (hgr : Mo h (f)) (hmo : ∀ r h2, Mo h2 (K r h2)) (hE : clT f K = some (o, g))
    (kk : ∀ (r : Unit) (h2 : hS) (H1 : Heap) (locs1 : List Loc), wd D cy z s (cells + (h_x h2 - h_x h)) h2 H1 locs1 → gr h2 h → K r h2 = some (o, g) → W p l e { frames := FR, cells := h_x g - n0, slots := h_s g - s0, locals := LR } s m args below meth c H1 locs1 (cells + (h_x h2 - h_x h)) (slots + (h_s h2 - h_s h)) (eT D cy z ru o g below args s (h_x g - n0) (h_s g - s0)) (F0 m (pc + 3) ls rest)) : W p l e { frames := FR, cells := h_x g - n0, slots := h_s g - s0, locals := LR } s m args below meth c H locs cells slots (eT D cy z ru o g below args s (h_x g - n0) (h_s g - s0)) (F0 m pc ls st0) :=
  w_ST rV hG hxt hn0 hsl C w hM g1 g2 g3 g4 hd hR hn hsz hst hW hdg hgr hmo hE kk
theorem w_VTV {γ : Type} {ru : γ → Option Value} {G : List Cond} {w0 : Cond} (hG : G.all goodWord = true) {CN : String} {T : u_T} {N ci : Nat} {ob : Option Nat} {y : MethodName} {bytes : ByteArray} {maxL n index F Lc FR LR : Nat} {rt : Option FieldType} {av st0 : List Value} {f : Nat → Option ((Unit ⊕ Nat) × hS)} {K : Unit → hS → Option ((γ ⊕ Nat) × hS)} {o : γ ⊕ Nat} {g : hS} {n0 s0 : Nat} (hxt : ∀ x ∈ c.exceptionTable.toList, False) (hn0 : s.heap.size = n0) (hsl : h_s h = s0 + slots) (C : MX p s m args meth c cc nL ret own (w0 :: G)) (w : wd D cy z s cells h H locs) (hc : cls[ci]? = some (CN, T, N)) (hci : ci + 1 < 50) (hM : ∀ a r g, f a = some (r, g) → ctT l y (Cond.code y bytes maxL rt :: G) { frames := F, cells := h_x g - h_x h, slots := h_s g - h_s h, locals := Lc } D cy z h (.ref a :: av) rV r g)
    (g1 : Cond.methodLink own index y ∈ G) (g2 : Cond.instanceMethod y ∈ G) (g5 : Cond.selects CN y y ∈ G) (g3 : Cond.initialized CN ∈ G) (g4 : Cond.code y bytes maxL rt ∈ G) (hd : y.cls = CN ∧ y.cls ≠ "java/lang/invoke/MethodHandle" ∧ y.cls ≠ "java/lang/invoke/VarHandle" ∧ (parseMethodDescriptor y.desc).map (fun d => d.parameters.length) = some n) (hR : F + 1 ≤ FR ∧ 8 + (maxL + 11) + Lc ≤ LR)
    (hn : av.length = n) (hsz : ls.size = nL) (hst : st0 = av.reverse ++ va_rf ob :: rest) (hW : (rest.map fun v => v.category).sum ≤ 8) (hdg : decode cc pc = .ok (.invokevirtual index, 3)) (hgr : ∀ a, Mo h (f a)) (hmo : ∀ r h2, Mo h2 (K r h2)) (hE : cvT h ob ci f K = some (o, g))
    (kk : ∀ (r : Unit) (h2 : hS) (H1 : Heap) (locs1 : List Loc), wd D cy z s (cells + (h_x h2 - h_x h)) h2 H1 locs1 → gr h2 h → K r h2 = some (o, g) → W p l e { frames := FR, cells := h_x g - n0, slots := h_s g - s0, locals := LR } s m args below meth c H1 locs1 (cells + (h_x h2 - h_x h)) (slots + (h_s h2 - h_s h)) (eT D cy z ru o g below args s (h_x g - n0) (h_s g - s0)) (F0 m (pc + 3) ls rest)) : W p l e { frames := FR, cells := h_x g - n0, slots := h_s g - s0, locals := LR } s m args below meth c H locs cells slots (eT D cy z ru o g below args s (h_x g - n0) (h_s g - s0)) (F0 m pc ls st0) :=
  w_VT rV hG hxt hn0 hsl C w hc hci hM g1 g2 g5 g3 g4 hd hR hn hsz hst hW hdg hgr hmo hE kk
theorem w_STR {γ : Type} {ru : γ → Option Value} {G : List Cond} {w0 : Cond} (hG : G.all goodWord = true) {y : MethodName} {bytes : ByteArray} {maxL n index F Lc FR LR : Nat} {rt : Option FieldType} {av st0 : List Value} {f : Option ((Option Nat ⊕ Nat) × hS)} {K : Option Nat → hS → Option ((γ ⊕ Nat) × hS)} {o : γ ⊕ Nat} {g : hS} {n0 s0 : Nat} (hxt : ∀ x ∈ c.exceptionTable.toList, False) (hn0 : s.heap.size = n0) (hsl : h_s h = s0 + slots) (C : MX p s m args meth c cc nL ret own (w0 :: G)) (w : wd D cy z s cells h H locs) (hM : ∀ r g, f = some (r, g) → ctT l y (Cond.code y bytes maxL rt :: G) { frames := F, cells := h_x g - h_x h, slots := h_s g - h_s h, locals := Lc } D cy z h av rR r g)
    (g1 : Cond.methodLink own index y ∈ G) (g2 : Cond.static y ∈ G) (g3 : Cond.initialized y.cls ∈ G) (g4 : Cond.code y bytes maxL rt ∈ G) (hd : y.cls ≠ "java/lang/invoke/MethodHandle" ∧ y.cls ≠ "java/lang/invoke/VarHandle" ∧ (parseMethodDescriptor y.desc).map (fun d => d.parameters.length) = some n) (hR : F + 1 ≤ FR ∧ 8 + (maxL + 11) + Lc ≤ LR)
    (hn : av.length = n) (hsz : ls.size = nL) (hst : st0 = av.reverse ++ rest) (hW : (rest.map fun v => v.category).sum ≤ 8) (hdg : decode cc pc = .ok (.invokestatic index, 3)) (hgr : Mo h (f)) (hmo : ∀ r h2, Mo h2 (K r h2)) (hE : clT f K = some (o, g))
    (kk : ∀ (r : Option Nat) (h2 : hS) (H1 : Heap) (locs1 : List Loc), wd D cy z s (cells + (h_x h2 - h_x h)) h2 H1 locs1 → gr h2 h → K r h2 = some (o, g) → W p l e { frames := FR, cells := h_x g - n0, slots := h_s g - s0, locals := LR } s m args below meth c H1 locs1 (cells + (h_x h2 - h_x h)) (slots + (h_s h2 - h_s h)) (eT D cy z ru o g below args s (h_x g - n0) (h_s g - s0)) (F0 m (pc + 3) ls (va_rf r :: rest))) : W p l e { frames := FR, cells := h_x g - n0, slots := h_s g - s0, locals := LR } s m args below meth c H locs cells slots (eT D cy z ru o g below args s (h_x g - n0) (h_s g - s0)) (F0 m pc ls st0) :=
  w_ST rR hG hxt hn0 hsl C w hM g1 g2 g3 g4 hd hR hn hsz hst hW hdg hgr hmo hE kk
theorem w_VTR {γ : Type} {ru : γ → Option Value} {G : List Cond} {w0 : Cond} (hG : G.all goodWord = true) {CN : String} {T : u_T} {N ci : Nat} {ob : Option Nat} {y : MethodName} {bytes : ByteArray} {maxL n index F Lc FR LR : Nat} {rt : Option FieldType} {av st0 : List Value} {f : Nat → Option ((Option Nat ⊕ Nat) × hS)} {K : Option Nat → hS → Option ((γ ⊕ Nat) × hS)} {o : γ ⊕ Nat} {g : hS} {n0 s0 : Nat} (hxt : ∀ x ∈ c.exceptionTable.toList, False) (hn0 : s.heap.size = n0) (hsl : h_s h = s0 + slots) (C : MX p s m args meth c cc nL ret own (w0 :: G)) (w : wd D cy z s cells h H locs) (hc : cls[ci]? = some (CN, T, N)) (hci : ci + 1 < 50) (hM : ∀ a r g, f a = some (r, g) → ctT l y (Cond.code y bytes maxL rt :: G) { frames := F, cells := h_x g - h_x h, slots := h_s g - h_s h, locals := Lc } D cy z h (.ref a :: av) rR r g)
    (g1 : Cond.methodLink own index y ∈ G) (g2 : Cond.instanceMethod y ∈ G) (g5 : Cond.selects CN y y ∈ G) (g3 : Cond.initialized CN ∈ G) (g4 : Cond.code y bytes maxL rt ∈ G) (hd : y.cls = CN ∧ y.cls ≠ "java/lang/invoke/MethodHandle" ∧ y.cls ≠ "java/lang/invoke/VarHandle" ∧ (parseMethodDescriptor y.desc).map (fun d => d.parameters.length) = some n) (hR : F + 1 ≤ FR ∧ 8 + (maxL + 11) + Lc ≤ LR)
    (hn : av.length = n) (hsz : ls.size = nL) (hst : st0 = av.reverse ++ va_rf ob :: rest) (hW : (rest.map fun v => v.category).sum ≤ 8) (hdg : decode cc pc = .ok (.invokevirtual index, 3)) (hgr : ∀ a, Mo h (f a)) (hmo : ∀ r h2, Mo h2 (K r h2)) (hE : cvT h ob ci f K = some (o, g))
    (kk : ∀ (r : Option Nat) (h2 : hS) (H1 : Heap) (locs1 : List Loc), wd D cy z s (cells + (h_x h2 - h_x h)) h2 H1 locs1 → gr h2 h → K r h2 = some (o, g) → W p l e { frames := FR, cells := h_x g - n0, slots := h_s g - s0, locals := LR } s m args below meth c H1 locs1 (cells + (h_x h2 - h_x h)) (slots + (h_s h2 - h_s h)) (eT D cy z ru o g below args s (h_x g - n0) (h_s g - s0)) (F0 m (pc + 3) ls (va_rf r :: rest))) : W p l e { frames := FR, cells := h_x g - n0, slots := h_s g - s0, locals := LR } s m args below meth c H locs cells slots (eT D cy z ru o g below args s (h_x g - n0) (h_s g - s0)) (F0 m pc ls st0) :=
  w_VT rR hG hxt hn0 hsl C w hc hci hM g1 g2 g5 g3 g4 hd hR hn hsz hst hW hdg hgr hmo hE kk
theorem w_IV {G : List Cond} {w0 : Cond} (hG : G.all goodWord = true) {y : MethodName} {bytes : ByteArray} {maxL n index F Lc b : Nat} {av st0 : List Value} {f : Option (Unit × hS)} {K : Unit → hS → Option β} (C : MX p s m args meth c cc nL ret own (w0 :: G)) (w : wd D cy z s cells h H locs) (hM : ∀ r g, f = some (r, g) → ct l y (Cond.code y bytes maxL none :: G) { frames := F, cells := 0, slots := 0, locals := Lc } D cy z h (.ref b :: av) (rV r) g)
    (g1 : Cond.methodLink own index y ∈ G) (g2 : Cond.instanceMethod y ∈ G) (g3 : Cond.initialized y.cls ∈ G) (g4 : Cond.code y bytes maxL none ∈ G) (hy1 : y.name = "<init>") (hd : y.cls ≠ "java/lang/invoke/MethodHandle" ∧ y.cls ≠ "java/lang/invoke/VarHandle" ∧ (parseMethodDescriptor y.desc).map (fun d => d.parameters.length) = some n) (hR : F + 1 ≤ R.frames ∧ 8 + (maxL + 11) + Lc ≤ R.locals)
    (hn : av.length = n) (hsz : ls.size = nL) (hst : st0 = av.reverse ++ .ref b :: rest) (hW : (rest.map fun v => v.category).sum ≤ 8) (hdg : decode cc pc = .ok (.invokespecial index, 3)) (hsm : ∀ r g, f = some (r, g) → sm g h) (hf : cells ≤ R.cells ∧ slots ≤ R.slots) (hE : cl f K = some res)
    (kk : ∀ (r : Unit) (g : hS) (H1 : Heap) (locs1 : List Loc), wd D cy z s cells g H1 locs1 → sm g h → K r g = some res → W p l e R s m args below meth c H1 locs1 cells slots Q (F0 m (pc + 3) ls rest)) : W p l e R s m args below meth c H locs cells slots Q (F0 m pc ls st0) := by
  obtain ⟨r, g, hf1, hE1⟩ := cl_some hE
  have cw := cwI (R := R) (rm := { frames := F, cells := 0, slots := 0, locals := Lc }) (mc := 0) (ms := 0) n C.2.2.2.2.2.1 (goodIn_G (w0 := w0) hG (ws := Cond.code y bytes maxL none :: G) (fun w hw => by
    rcases List.mem_cons.mp hw with h | h
    · rw [h]; exact g4
    · exact h)) rfl rfl rfl (C.2.2.2.2.2.1 _ (List.mem_cons_of_mem _ g3)) (C.2.2.2.2.2.1 _ (List.mem_cons_of_mem _ g1)) (C.2.2.2.2.2.1 _ (List.mem_cons_of_mem _ g2)) hy1 hd hR
  exact w_callg w (va_runI (b := b) (As := av) (rest := rest) ⟨C.1, C.2.1, C.2.2.2.1, C.2.2.2.2.1, C.2.2.2.2.2.1⟩ (hM r g hf1) cw ⟨wU_blind, fun U hU hW => ⟨rfl, wd_U w hU hW⟩⟩ rfl hn hsz hst (lv_room hW) hdg hf) (Or.inl rfl) (fun H1 locs1 w1 => kk r g H1 locs1 w1 (hsm r g hf1) hE1)
theorem w_IAV {G : List Cond} {w0 : Cond} (hG : G.all goodWord = true) {y : MethodName} {bytes : ByteArray} {maxL n index F Lc b : Nat} {av st0 : List Value} {f : Option (Unit × hS)} {K : Unit → hS → Option β} (C : MX p s m args meth c cc nL ret own (w0 :: G)) (w : wd D cy z s cells h H locs) (hM : ∀ r g, f = some (r, g) → ct l y (Cond.code y bytes maxL none :: G) { frames := F, cells := h_x g - h_x h, slots := h_s g - h_s h, locals := Lc } D cy z h (.ref b :: av) (rV r) g)
    (g1 : Cond.methodLink own index y ∈ G) (g2 : Cond.instanceMethod y ∈ G) (g3 : Cond.initialized y.cls ∈ G) (g4 : Cond.code y bytes maxL none ∈ G) (hy1 : y.name = "<init>") (hd : y.cls ≠ "java/lang/invoke/MethodHandle" ∧ y.cls ≠ "java/lang/invoke/VarHandle" ∧ (parseMethodDescriptor y.desc).map (fun d => d.parameters.length) = some n) (hR : F + 1 ≤ R.frames ∧ 8 + (maxL + 11) + Lc ≤ R.locals)
    (hn : av.length = n) (hsz : ls.size = nL) (hst : st0 = av.reverse ++ .ref b :: rest) (hW : (rest.map fun v => v.category).sum ≤ 8) (hdg : decode cc pc = .ok (.invokespecial index, 3)) (hgr : Mo h f) (hf : ∀ r g, f = some (r, g) → K r g = some res → cells + (h_x g - h_x h) ≤ R.cells ∧ slots + (h_s g - h_s h) ≤ R.slots) (hE : cl f K = some res)
    (kk : ∀ (r : Unit) (g : hS) (H1 : Heap) (locs1 : List Loc), wd D cy z s (cells + (h_x g - h_x h)) g H1 locs1 → gr g h → K r g = some res → W p l e R s m args below meth c H1 locs1 (cells + (h_x g - h_x h)) (slots + (h_s g - h_s h)) Q (F0 m (pc + 3) ls rest)) : W p l e R s m args below meth c H locs cells slots Q (F0 m pc ls st0) := by
  obtain ⟨r, g, hf1, hE1⟩ := cl_some hE
  have cw := cwI (R := R) (rm := { frames := F, cells := h_x g - h_x h, slots := h_s g - h_s h, locals := Lc }) (mc := h_x g - h_x h) (ms := h_s g - h_s h) n C.2.2.2.2.2.1 (goodIn_G (w0 := w0) hG (ws := Cond.code y bytes maxL none :: G) (fun w hw => by
    rcases List.mem_cons.mp hw with h | h
    · rw [h]; exact g4
    · exact h)) rfl rfl rfl (C.2.2.2.2.2.1 _ (List.mem_cons_of_mem _ g3)) (C.2.2.2.2.2.1 _ (List.mem_cons_of_mem _ g1)) (C.2.2.2.2.2.1 _ (List.mem_cons_of_mem _ g2)) hy1 hd hR
  exact w_callg w (va_runI (b := b) (As := av) (rest := rest) ⟨C.1, C.2.1, C.2.2.2.1, C.2.2.2.2.1, C.2.2.2.2.2.1⟩ (hM r g hf1) cw ⟨wU_blind, fun U hU hW => ⟨rfl, wd_U w hU hW⟩⟩ rfl hn hsz hst (lv_room hW) hdg (hf r g hf1 hE1)) (Or.inr rfl) (fun H1 locs1 w1 => kk r g H1 locs1 w1 (hgr r g hf1) hE1)
theorem w_INV {G : List Cond} {w0 : Cond} (hG : G.all goodWord = true) {host : String} {y : MethodName} {bytes : ByteArray} {maxL n index F Lc b : Nat} {av st0 : List Value} {f : Option (Unit × hS)} {K : Unit → hS → Option β} (C : MX p s m args meth c cc nL ret own (w0 :: G)) (w : wd D cy z s cells h H locs) (hM : ∀ r g, f = some (r, g) → ct l y (Cond.code y bytes maxL none :: G) { frames := F, cells := 0, slots := 0, locals := Lc } D cy z h (.ref b :: av) (rV r) g)
    (g1 : (own, index, y, host) ∈ nsm) (g2 : Cond.instanceMethod y ∈ G) (g3 : Cond.initialized y.cls ∈ G) (g4 : Cond.code y bytes maxL none ∈ G) (hy1 : y.name = "<init>") (hd : y.cls ≠ "java/lang/invoke/MethodHandle" ∧ y.cls ≠ "java/lang/invoke/VarHandle" ∧ (parseMethodDescriptor y.desc).map (fun d => d.parameters.length) = some n) (hR : F + 1 ≤ R.frames ∧ 8 + (maxL + 11) + Lc ≤ R.locals)
    (hn : av.length = n) (hsz : ls.size = nL) (hst : st0 = av.reverse ++ .ref b :: rest) (hW : (rest.map fun v => v.category).sum ≤ 8) (hdg : decode cc pc = .ok (.invokespecial index, 3)) (hsm : ∀ r g, f = some (r, g) → sm g h) (hf : cells ≤ R.cells ∧ slots ≤ R.slots) (hE : cl f K = some res)
    (kk : ∀ (r : Unit) (g : hS) (H1 : Heap) (locs1 : List Loc), wd D cy z s cells g H1 locs1 → sm g h → K r g = some res → W p l e R s m args below meth c H1 locs1 cells slots Q (F0 m (pc + 3) ls rest)) : W p l e R s m args below meth c H locs cells slots Q (F0 m pc ls st0) := by
  obtain ⟨r, g, hf1, hE1⟩ := cl_some hE
  have cw := va_cnB (R := R) (rm := { frames := F, cells := 0, slots := 0, locals := Lc }) (mc := 0) (ms := 0) n C.2.2.2.2.2.1 (goodIn_G (w0 := w0) hG (ws := Cond.code y bytes maxL none :: G) (fun w hw => by
    rcases List.mem_cons.mp hw with h | h
    · rw [h]; exact g4
    · exact h)) rfl rfl rfl ((wd_X w).1.2.2.2.1 _ g1) (C.2.2.2.2.2.1 _ (List.mem_cons_of_mem _ g3)) hd hR
  exact w_callg w (va_runIN (b := b) (As := av) (rest := rest) ⟨C.1, C.2.1, C.2.2.2.1, C.2.2.2.2.1, C.2.2.2.2.2.1⟩ (hM r g hf1) ⟨cw, hy1, (C.2.2.2.2.2.1 _ (List.mem_cons_of_mem _ g2))⟩ ⟨wU_blind, fun U hU hW => ⟨rfl, wd_U w hU hW⟩⟩ rfl hn hsz hst (lv_room hW) hdg hf) (Or.inl rfl) (fun H1 locs1 w1 => kk r g H1 locs1 w1 (hsm r g hf1) hE1)
theorem w_INAV {G : List Cond} {w0 : Cond} (hG : G.all goodWord = true) {host : String} {y : MethodName} {bytes : ByteArray} {maxL n index F Lc b : Nat} {av st0 : List Value} {f : Option (Unit × hS)} {K : Unit → hS → Option β} (C : MX p s m args meth c cc nL ret own (w0 :: G)) (w : wd D cy z s cells h H locs) (hM : ∀ r g, f = some (r, g) → ct l y (Cond.code y bytes maxL none :: G) { frames := F, cells := h_x g - h_x h, slots := h_s g - h_s h, locals := Lc } D cy z h (.ref b :: av) (rV r) g)
    (g1 : (own, index, y, host) ∈ nsm) (g2 : Cond.instanceMethod y ∈ G) (g3 : Cond.initialized y.cls ∈ G) (g4 : Cond.code y bytes maxL none ∈ G) (hy1 : y.name = "<init>") (hd : y.cls ≠ "java/lang/invoke/MethodHandle" ∧ y.cls ≠ "java/lang/invoke/VarHandle" ∧ (parseMethodDescriptor y.desc).map (fun d => d.parameters.length) = some n) (hR : F + 1 ≤ R.frames ∧ 8 + (maxL + 11) + Lc ≤ R.locals)
    (hn : av.length = n) (hsz : ls.size = nL) (hst : st0 = av.reverse ++ .ref b :: rest) (hW : (rest.map fun v => v.category).sum ≤ 8) (hdg : decode cc pc = .ok (.invokespecial index, 3)) (hgr : Mo h f) (hf : ∀ r g, f = some (r, g) → K r g = some res → cells + (h_x g - h_x h) ≤ R.cells ∧ slots + (h_s g - h_s h) ≤ R.slots) (hE : cl f K = some res)
    (kk : ∀ (r : Unit) (g : hS) (H1 : Heap) (locs1 : List Loc), wd D cy z s (cells + (h_x g - h_x h)) g H1 locs1 → gr g h → K r g = some res → W p l e R s m args below meth c H1 locs1 (cells + (h_x g - h_x h)) (slots + (h_s g - h_s h)) Q (F0 m (pc + 3) ls rest)) : W p l e R s m args below meth c H locs cells slots Q (F0 m pc ls st0) := by
  obtain ⟨r, g, hf1, hE1⟩ := cl_some hE
  have cw := va_cnB (R := R) (rm := { frames := F, cells := h_x g - h_x h, slots := h_s g - h_s h, locals := Lc }) (mc := h_x g - h_x h) (ms := h_s g - h_s h) n C.2.2.2.2.2.1 (goodIn_G (w0 := w0) hG (ws := Cond.code y bytes maxL none :: G) (fun w hw => by
    rcases List.mem_cons.mp hw with h | h
    · rw [h]; exact g4
    · exact h)) rfl rfl rfl ((wd_X w).1.2.2.2.1 _ g1) (C.2.2.2.2.2.1 _ (List.mem_cons_of_mem _ g3)) hd hR
  exact w_callg w (va_runIN (b := b) (As := av) (rest := rest) ⟨C.1, C.2.1, C.2.2.2.1, C.2.2.2.2.1, C.2.2.2.2.2.1⟩ (hM r g hf1) ⟨cw, hy1, (C.2.2.2.2.2.1 _ (List.mem_cons_of_mem _ g2))⟩ ⟨wU_blind, fun U hU hW => ⟨rfl, wd_U w hU hW⟩⟩ rfl hn hsz hst (lv_room hW) hdg (hf r g hf1 hE1)) (Or.inr rfl) (fun H1 locs1 w1 => kk r g H1 locs1 w1 (hgr r g hf1) hE1)
theorem w_SNI {G : List Cond} {w0 : Cond} (hG : G.all goodWord = true) {host : String} {y : MethodName} {bytes : ByteArray} {maxL n index F Lc : Nat} {rt : Option FieldType} {av st0 : List Value} {f : Option (Int32 × hS)} {K : Int32 → hS → Option β} (C : MX p s m args meth c cc nL ret own (w0 :: G)) (w : wd D cy z s cells h H locs) (hM : ∀ r g, f = some (r, g) → ct l y (Cond.code y bytes maxL rt :: G) { frames := F, cells := 0, slots := 0, locals := Lc } D cy z h av (rI r) g)
    (g1 : (own, index, y, host) ∈ nsm) (g2 : Cond.static y ∈ G) (g3 : Cond.initialized y.cls ∈ G) (g4 : Cond.code y bytes maxL rt ∈ G) (hd : y.cls ≠ "java/lang/invoke/MethodHandle" ∧ y.cls ≠ "java/lang/invoke/VarHandle" ∧ (parseMethodDescriptor y.desc).map (fun d => d.parameters.length) = some n) (hR : F + 1 ≤ R.frames ∧ 8 + (maxL + 11) + Lc ≤ R.locals)
    (hn : av.length = n) (hsz : ls.size = nL) (hst : st0 = av.reverse ++ rest) (hW : (rest.map fun v => v.category).sum ≤ 8) (hdg : decode cc pc = .ok (.invokestatic index, 3)) (hsm : ∀ r g, f = some (r, g) → sm g h) (hf : cells ≤ R.cells ∧ slots ≤ R.slots) (hE : cl f K = some res)
    (kk : ∀ (r : Int32) (g : hS) (H1 : Heap) (locs1 : List Loc), wd D cy z s cells g H1 locs1 → sm g h → K r g = some res → W p l e R s m args below meth c H1 locs1 cells slots Q (F0 m (pc + 3) ls (.int r :: rest))) : W p l e R s m args below meth c H locs cells slots Q (F0 m pc ls st0) := by
  obtain ⟨r, g, hf1, hE1⟩ := cl_some hE
  have cw := va_cnB (R := R) (rm := { frames := F, cells := 0, slots := 0, locals := Lc }) (mc := 0) (ms := 0) n C.2.2.2.2.2.1 (goodIn_G (w0 := w0) hG (ws := Cond.code y bytes maxL rt :: G) (fun w hw => by
    rcases List.mem_cons.mp hw with h | h
    · rw [h]; exact g4
    · exact h)) rfl rfl rfl ((wd_X w).1.2.2.2.1 _ g1) (C.2.2.2.2.2.1 _ (List.mem_cons_of_mem _ g3)) hd hR
  exact w_callg w (va_runSN (As := av) (rest := rest) ⟨C.1, C.2.1, C.2.2.2.1, C.2.2.2.2.1, C.2.2.2.2.2.1⟩ (hM r g hf1) ⟨cw, C.2.2.2.2.2.1 _ (List.mem_cons_of_mem _ g2), trivial⟩ ⟨wU_blind, fun U hU hW => ⟨rfl, wd_U w hU hW⟩⟩ rfl hn hsz hst (lv_room hW) hdg hf) (Or.inl rfl) (fun H1 locs1 w1 => kk r g H1 locs1 w1 (hsm r g hf1) hE1)
theorem w_SNR {G : List Cond} {w0 : Cond} (hG : G.all goodWord = true) {host : String} {y : MethodName} {bytes : ByteArray} {maxL n index F Lc : Nat} {rt : Option FieldType} {av st0 : List Value} {f : Option (Option Nat × hS)} {K : Option Nat → hS → Option β} (C : MX p s m args meth c cc nL ret own (w0 :: G)) (w : wd D cy z s cells h H locs) (hM : ∀ r g, f = some (r, g) → ct l y (Cond.code y bytes maxL rt :: G) { frames := F, cells := 0, slots := 0, locals := Lc } D cy z h av (rR r) g)
    (g1 : (own, index, y, host) ∈ nsm) (g2 : Cond.static y ∈ G) (g3 : Cond.initialized y.cls ∈ G) (g4 : Cond.code y bytes maxL rt ∈ G) (hd : y.cls ≠ "java/lang/invoke/MethodHandle" ∧ y.cls ≠ "java/lang/invoke/VarHandle" ∧ (parseMethodDescriptor y.desc).map (fun d => d.parameters.length) = some n) (hR : F + 1 ≤ R.frames ∧ 8 + (maxL + 11) + Lc ≤ R.locals)
    (hn : av.length = n) (hsz : ls.size = nL) (hst : st0 = av.reverse ++ rest) (hW : (rest.map fun v => v.category).sum ≤ 8) (hdg : decode cc pc = .ok (.invokestatic index, 3)) (hsm : ∀ r g, f = some (r, g) → sm g h) (hf : cells ≤ R.cells ∧ slots ≤ R.slots) (hE : cl f K = some res)
    (kk : ∀ (r : Option Nat) (g : hS) (H1 : Heap) (locs1 : List Loc), wd D cy z s cells g H1 locs1 → sm g h → K r g = some res → W p l e R s m args below meth c H1 locs1 cells slots Q (F0 m (pc + 3) ls (va_rf r :: rest))) : W p l e R s m args below meth c H locs cells slots Q (F0 m pc ls st0) := by
  obtain ⟨r, g, hf1, hE1⟩ := cl_some hE
  have cw := va_cnB (R := R) (rm := { frames := F, cells := 0, slots := 0, locals := Lc }) (mc := 0) (ms := 0) n C.2.2.2.2.2.1 (goodIn_G (w0 := w0) hG (ws := Cond.code y bytes maxL rt :: G) (fun w hw => by
    rcases List.mem_cons.mp hw with h | h
    · rw [h]; exact g4
    · exact h)) rfl rfl rfl ((wd_X w).1.2.2.2.1 _ g1) (C.2.2.2.2.2.1 _ (List.mem_cons_of_mem _ g3)) hd hR
  exact w_callg w (va_runSN (As := av) (rest := rest) ⟨C.1, C.2.1, C.2.2.2.1, C.2.2.2.2.1, C.2.2.2.2.2.1⟩ (hM r g hf1) ⟨cw, C.2.2.2.2.2.1 _ (List.mem_cons_of_mem _ g2), trivial⟩ ⟨wU_blind, fun U hU hW => ⟨rfl, wd_U w hU hW⟩⟩ rfl hn hsz hst (lv_room hW) hdg hf) (Or.inl rfl) (fun H1 locs1 w1 => kk r g H1 locs1 w1 (hsm r g hf1) hE1)
theorem w_oinit {index a : Nat} (C : MX p s m args meth c cc nL ret own Ts) (hsz : ls.size = nL) (g1 : Cond.methodLink own index Lib.objectInit ∈ Ts) (g2 : Cond.instanceMethod Lib.objectInit ∈ Ts) (g3 : Cond.code Lib.objectInit ⟨#[0xb1]⟩ 1 none ∈ Ts) (hf : 1 ≤ R.frames) (hlo : (rest.map fun v => v.category).sum + 12 ≤ R.locals) (hdg : decode cc pc = .ok (.invokespecial index, 3))
    (kk : W p l e R s m args below meth c H locs cells slots Q (F0 m (pc + 3) ls rest)) : W p l e R s m args below meth c H locs cells slots Q (F0 m pc ls (.ref a :: rest)) :=
  W.objInit C.1 C.2.1 C.2.2.2.2.1 (C.2.2.2.2.2.1 _ g1) (C.2.2.2.2.2.1 _ g2) (C.2.2.2.2.2.1 _ g3) rfl (hsz.trans C.2.2.2.1.symm) rfl hdg hf (by show 2 * 0 + _ + 12 ≤ _; omega) kk
end WT
