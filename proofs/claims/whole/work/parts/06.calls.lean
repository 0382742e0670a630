section WC
variable {p : Program} {l : Launch} {e : Env} {R : Room} {s : State} {m : MethodId} {args : Array Value} {below : List Frame} {meth : Method} {c : Code} {H : Heap} {locs : List Loc} {cells slots : Nat} {Q : State → Prop} {cc : ByteArray} {nL : Nat} {ret : Option FieldType} {own : String} {Ts : List Cond} {pc : Nat} {ls : Array Slot} {rest : List Value} {D : va_G} {cy : cyT} {z : Nat} {h : hS} {β : Type} {res : β}
/-! returns -/
theorem w_iret {v r : Int32} {g : hS} (C : MX p s m args meth c cc nL (some .int) own Ts) {k1 : Nat} (w : wd D cy z s k1 h H locs) (hE : some (v, h) = some (r, g)) (hdg : decode cc pc = .ok (.ireturn, 1)) : W p l e R s m args below meth c H locs cells slots (MQ below (eQ D cy z (rI r) g) args s cells slots (fun q => z ≤ q)) (F0 m pc ls [.int v]) := by
  cases hE
  exact W.iret C.1 C.2.1 C.2.2.1 (fun t ht hW => ⟨rfl, wd_U w ht hW, (wd_S w).F ht⟩) (wd_S w).2.2 hdg C.2.2.2.2.2.2
theorem w_zret {v r : Int32} {g : hS} (C : MX p s m args meth c cc nL (some .boolean) own Ts) {k1 : Nat} (w : wd D cy z s k1 h H locs) (hE : bz v (some (v, h)) = some (r, g)) (hdg : decode cc pc = .ok (.ireturn, 1)) : W p l e R s m args below meth c H locs cells slots (MQ below (eQ D cy z (rI r) g) args s cells slots (fun q => z ≤ q)) (F0 m pc ls [.int v]) := by
  obtain ⟨hz, hE1⟩ := if_some hE
  cases hE1
  exact W.zret C.1 C.2.1 C.2.2.1 (by rcases hz with q | q <;> (rw [q]; rfl)) (fun t ht hW => ⟨rfl, wd_U w ht hW, (wd_S w).F ht⟩) (wd_S w).2.2 hdg C.2.2.2.2.2.2
theorem w_lret {v r : Int64} {g : hS} (C : MX p s m args meth c cc nL (some .long) own Ts) {k1 : Nat} (w : wd D cy z s k1 h H locs) (hE : some (v, h) = some (r, g)) (hdg : decode cc pc = .ok (.lreturn, 1)) : W p l e R s m args below meth c H locs cells slots (MQ below (eQ D cy z (rJ r) g) args s cells slots (fun q => z ≤ q)) (F0 m pc ls [.long v]) := by
  cases hE
  exact W.lret C.1 C.2.1 C.2.2.1 (fun t ht hW => ⟨rfl, wd_U w ht hW, (wd_S w).F ht⟩) (wd_S w).2.2 hdg C.2.2.2.2.2.2
theorem w_vret {r : Unit} {g : hS} (C : MX p s m args meth c cc nL none own Ts) {k1 : Nat} (w : wd D cy z s k1 h H locs) (hE : some ((), h) = some (r, g)) (hdg : decode cc pc = .ok (.return_, 1)) : W p l e R s m args below meth c H locs cells slots (MQ below (eQ D cy z (rV r) g) args s cells slots (fun q => z ≤ q)) (F0 m pc ls []) := by
  cases hE
  exact W.vret C.1 C.2.1 C.2.2.1 (fun t ht hW => ⟨rfl, wd_U w ht hW, (wd_S w).F ht⟩) (wd_S w).2.2 hdg C.2.2.2.2.2.2
/-! calls -/
theorem w_callg {ov : Option Value} {g : hS} {mc ms : Nat} {a : Array Value} {st0 : List Value} (w : wd D cy z s cells h H locs) (hr : va_Run p l e R s m args below meth c H locs cells slots mc ms (F0 m pc ls st0) rest (eQ D cy z ov g a) (fun q => z ≤ q))
    (hmc : mc = 0 ∨ mc = h_x g - h_x h) (kk : ∀ (H1 : Heap) (locs1 : List Loc), wd D cy z s (cells + mc) g H1 locs1 → W p l e R s m args below meth c H1 locs1 (cells + mc) (slots + ms) Q (F0 m (pc + 3) ls (ov.toList ++ rest))) : W p l e R s m args below meth c H locs cells slots Q (F0 m pc ls st0) := by
  intro T hT X
  obtain ⟨v, st₀, t, T', L, h0, X', hL, e1, e2, ⟨hv, hu, hz, hk⟩, st⟩ := hr T hT X
  cases hv
  rw [h0] at hz hk
  have hS := wd_S w
  have hx0 := wd_x w
  have hup : T'.heap.size ≤ s.heap.size + (cells + mc) := X'.same.2.2.1
  have hgx : t.heap.size = h_x g := by obtain ⟨L', u1, u2, u3, u4, u5, u6, u7⟩ := hu; exact u6
  have hsz : T'.heap.size = s.heap.size + (cells + mc) := by
    rw [e1] at hup ⊢
    have h1 := hx0.1
    have h2 := hx0.2
    rcases hmc with q | q <;> omega
  obtain ⟨t2, a1, b1⟩ := kk T'.heap (locs ++ L) (wd_back w hu e1.symm (by rw [← e2]; exact X'.warmed.alike)
    ⟨Nat.le_trans hS.1 (by rw [e1]; exact hz), fun q h1 h2 => by rw [e1, hk q (Nat.lt_of_lt_of_le h1 hS.1) h2]; exact hS.2.1 q h1 h2, fun q hq => by
      rcases List.mem_append.mp hq with h | h
      · exact hS.2.2 q h
      · exact hL q h⟩ hsz) T' rfl X'
  exact ⟨t2, st t2 a1, b1⟩
theorem goodIn_G {G : List Cond} {w0 : Cond} (hG : G.all goodWord = true) {ws : List Cond} (h : ∀ w ∈ ws, w ∈ G) : GoodIn (w0 :: G) ws := fun w hw => ⟨List.mem_cons_of_mem _ (h w hw), good_of_word (List.all_eq_true.mp hG w (h w hw))⟩
theorem w_S {α : Type} (rv : α → Option Value) {G : List Cond} {w0 : Cond} (hG : G.all goodWord = true) {y : MethodName} {bytes : ByteArray} {maxL n index : Nat} {rt : Option FieldType} {rm : Room} {av st0 : List Value} {f : Option (α × hS)} {K : α → hS → Option β} (C : MX p s m args meth c cc nL ret own (w0 :: G)) (w : wd D cy z s cells h H locs) (hM : ∀ r g, f = some (r, g) → ct l y (Cond.code y bytes maxL rt :: G) rm D cy z h av (rv r) g)
    (g1 : Cond.methodLink own index y ∈ G) (g2 : Cond.static y ∈ G) (g3 : Cond.initialized y.cls ∈ G) (g4 : Cond.code y bytes maxL rt ∈ G) (hd : y.cls ≠ "java/lang/invoke/MethodHandle" ∧ y.cls ≠ "java/lang/invoke/VarHandle" ∧ (parseMethodDescriptor y.desc).map (fun d => d.parameters.length) = some n) (hR : rm.frames + 1 ≤ R.frames ∧ 8 + (maxL + 11) + rm.locals ≤ R.locals)
    (hn : av.length = n) (hsz : ls.size = nL) (hst : st0 = av.reverse ++ rest) (hW : (rest.map fun v => v.category).sum ≤ 8) (hdg : decode cc pc = .ok (.invokestatic index, 3)) (hmc : ∀ r g, f = some (r, g) → rm.cells = 0 ∨ rm.cells = h_x g - h_x h) (hf : cells + rm.cells ≤ R.cells ∧ slots + rm.slots ≤ R.slots) (hE : cl f K = some res)
    (kk : ∀ (r : α) (g : hS) (H1 : Heap) (locs1 : List Loc), wd D cy z s (cells + rm.cells) g H1 locs1 → f = some (r, g) → K r g = some res → W p l e R s m args below meth c H1 locs1 (cells + rm.cells) (slots + rm.slots) Q (F0 m (pc + 3) ls ((rv r).toList ++ rest))) : W p l e R s m args below meth c H locs cells slots Q (F0 m pc ls st0) := by
  obtain ⟨r, g, hf1, hE1⟩ := cl_some hE
  have cw := va_cwS (R := R) (rm := rm) (mc := rm.cells) (ms := rm.slots) n C.2.2.2.2.2.1 (goodIn_G (w0 := w0) hG (ws := va_wsS own index y (Cond.code y bytes maxL rt :: G)) (fun w hw => by
    simp only [va_wsS, List.mem_append, List.mem_cons, List.not_mem_nil, or_false] at hw
    rcases hw with (h | h | h) | h | h
    · rw [h]; exact g1
    · rw [h]; exact g2
    · rw [h]; exact g3
    · rw [h]; exact g4
    · exact h)) rfl rfl rfl hd hR
  exact w_callg w (va_runS (As := av) (rest := rest) ⟨C.1, C.2.1, C.2.2.2.1, C.2.2.2.2.1, C.2.2.2.2.2.1⟩ (hM r g hf1) cw ⟨wU_blind, fun U hU hW => ⟨rfl, wd_U w hU hW⟩⟩ rfl hn hsz hst (lv_room hW) hdg hf) (hmc r g hf1) (fun H1 locs1 w1 => kk r g H1 locs1 w1 hf1 hE1)
theorem w_V {α : Type} (rv : α → Option Value) {G : List Cond} {w0 : Cond} (hG : G.all goodWord = true) {CN : String} {T : u_T} {N ci : Nat} {y : MethodName} {bytes : ByteArray} {maxL n index : Nat} {rt : Option FieldType} {rm : Room} {o : Option Nat} {av st0 : List Value} {f : Nat → Option (α × hS)} {K : α → hS → Option β} (C : MX p s m args meth c cc nL ret own (w0 :: G)) (w : wd D cy z s cells h H locs) (hc : cls[ci]? = some (CN, T, N)) (hci : ci + 1 < 50) (hM : ∀ a r g, f a = some (r, g) → ct l y (Cond.code y bytes maxL rt :: G) rm D cy z h (.ref a :: av) (rv r) g)
    (g1 : Cond.methodLink own index y ∈ G) (g2 : Cond.instanceMethod y ∈ G) (g5 : Cond.selects CN y y ∈ G) (g3 : Cond.initialized CN ∈ G) (g4 : Cond.code y bytes maxL rt ∈ G) (hd : y.cls = CN ∧ y.cls ≠ "java/lang/invoke/MethodHandle" ∧ y.cls ≠ "java/lang/invoke/VarHandle" ∧ (parseMethodDescriptor y.desc).map (fun d => d.parameters.length) = some n) (hR : rm.frames + 1 ≤ R.frames ∧ 8 + (maxL + 11) + rm.locals ≤ R.locals)
    (hn : av.length = n) (hsz : ls.size = nL) (hst : st0 = av.reverse ++ va_rf o :: rest) (hW : (rest.map fun v => v.category).sum ≤ 8) (hdg : decode cc pc = .ok (.invokevirtual index, 3)) (hmc : ∀ a r g, f a = some (r, g) → rm.cells = 0 ∨ rm.cells = h_x g - h_x h) (hf : cells + rm.cells ≤ R.cells ∧ slots + rm.slots ≤ R.slots) (hE : cv h o ci f K = some res)
    (kk : ∀ (a : Nat) (r : α) (g : hS) (H1 : Heap) (locs1 : List Loc), wd D cy z s (cells + rm.cells) g H1 locs1 → f a = some (r, g) → K r g = some res → W p l e R s m args below meth c H1 locs1 (cells + rm.cells) (slots + rm.slots) Q (F0 m (pc + 3) ls ((rv r).toList ++ rest))) : W p l e R s m args below meth c H locs cells slots Q (F0 m pc ls st0) := by
  obtain ⟨a, ho, hE0⟩ := nn_some hE
  obtain ⟨hka, hE2⟩ := if_some hE0
  obtain ⟨r, g, hf1, hE1⟩ := cl_some hE2
  subst ho
  have cw := cwV (C := CN) (R := R) (rm := rm) (mc := rm.cells) (ms := rm.slots) n C.2.2.2.2.2.1 (goodIn_G (w0 := w0) hG (ws := wsV own index CN y (Cond.code y bytes maxL rt :: G)) (fun w hw => by
    simp only [wsV, List.mem_append, List.mem_cons, List.not_mem_nil, or_false] at hw
    rcases hw with (h | h | h | h) | h | h
    · rw [h]; exact g1
    · rw [h]; exact g2
    · rw [h]; exact g5
    · rw [h]; exact g3
    · rw [h]; exact g4
    · exact h)) rfl rfl rfl hd hR
  obtain ⟨q2, q5⟩ := wd_rd w (a := a) (by omega)
  exact w_callg w (va_runV (As := av) (rest := rest) ⟨C.1, C.2.1, C.2.2.2.1, C.2.2.2.2.1, C.2.2.2.2.2.1⟩ (hM a r g hf1) cw ⟨wU_blind, va_recv q5 q2 hc (q0 := 0) (by rw [cf_obj hka hci]; rfl), fun U hU hW => ⟨rfl, wd_U w hU hW⟩⟩ rfl hn hsz hst (lv_room hW) hdg hf) (hmc a r g hf1) (fun H1 locs1 w1 => kk a r g H1 locs1 w1 hf1 hE1)
theorem cat_two (rest : List Value) : (rest.map fun v => v.category).sum ≤ 2 * rest.length := by
  induction rest with
  | nil => simp
  | cons v t ih =>
    have h : v.category ≤ 2 := by cases v <;> simp [Value.category]
    simp only [List.map_cons, List.sum_cons, List.length_cons]
    omega
theorem cat_le {rest : List Value} (h : rest.length ≤ 4) : (rest.map fun v => v.category).sum ≤ 8 := by
  have := cat_two rest
  omega
theorem cat_le13 {rest : List Value} {n : Nat} (h : rest.length ≤ 8) (hn : 29 ≤ n) : (rest.map fun v => v.category).sum + 13 ≤ n := by
  have := cat_two rest
  omega
theorem va_rf_cat (r : Option Nat) : (va_rf r).category = 1 := by cases r <;> rfl
theorem w_SI {G : List Cond} {w0 : Cond} (hG : G.all goodWord = true) {y : MethodName} {bytes : ByteArray} {maxL n index F Lc : Nat} {rt : Option FieldType} {av st0 : List Value} {f : Option (Int32 × hS)} {K : Int32 → hS → Option β} (C : MX p s m args meth c cc nL ret own (w0 :: G)) (w : wd D cy z s cells h H locs) (hM : ∀ r g, f = some (r, g) → ct l y (Cond.code y bytes maxL rt :: G) { frames := F, cells := 0, slots := 0, locals := Lc } D cy z h av (rI r) g)
    (g1 : Cond.methodLink own index y ∈ G) (g2 : Cond.static y ∈ G) (g3 : Cond.initialized y.cls ∈ G) (g4 : Cond.code y bytes maxL rt ∈ G) (hd : y.cls ≠ "java/lang/invoke/MethodHandle" ∧ y.cls ≠ "java/lang/invoke/VarHandle" ∧ (parseMethodDescriptor y.desc).map (fun d => d.parameters.length) = some n) (hR : F + 1 ≤ R.frames ∧ 8 + (maxL + 11) + Lc ≤ R.locals)
    (hn : av.length = n) (hsz : ls.size = nL) (hst : st0 = av.reverse ++ rest) (hW : (rest.map fun v => v.category).sum ≤ 8) (hdg : decode cc pc = .ok (.invokestatic index, 3)) (hsm : ∀ r g, f = some (r, g) → sm g h) (hf : cells ≤ R.cells ∧ slots ≤ R.slots) (hE : cl f K = some res)
    (kk : ∀ (r : Int32) (g : hS) (H1 : Heap) (locs1 : List Loc), wd D cy z s cells g H1 locs1 → sm g h → K r g = some res → W p l e R s m args below meth c H1 locs1 cells slots Q (F0 m (pc + 3) ls (.int r :: rest))) : W p l e R s m args below meth c H locs cells slots Q (F0 m pc ls st0) :=
  w_S rI hG C w hM g1 g2 g3 g4 hd hR hn hsz hst hW hdg (fun _ _ _ => Or.inl rfl) hf hE (fun r g H1 locs1 w1 e1 e2 => kk r g H1 locs1 w1 (hsm r g e1) e2)
theorem w_SJ {G : List Cond} {w0 : Cond} (hG : G.all goodWord = true) {y : MethodName} {bytes : ByteArray} {maxL n index F Lc : Nat} {rt : Option FieldType} {av st0 : List Value} {f : Option (Int64 × hS)} {K : Int64 → hS → Option β} (C : MX p s m args meth c cc nL ret own (w0 :: G)) (w : wd D cy z s cells h H locs) (hM : ∀ r g, f = some (r, g) → ct l y (Cond.code y bytes maxL rt :: G) { frames := F, cells := 0, slots := 0, locals := Lc } D cy z h av (rJ r) g)
    (g1 : Cond.methodLink own index y ∈ G) (g2 : Cond.static y ∈ G) (g3 : Cond.initialized y.cls ∈ G) (g4 : Cond.code y bytes maxL rt ∈ G) (hd : y.cls ≠ "java/lang/invoke/MethodHandle" ∧ y.cls ≠ "java/lang/invoke/VarHandle" ∧ (parseMethodDescriptor y.desc).map (fun d => d.parameters.length) = some n) (hR : F + 1 ≤ R.frames ∧ 8 + (maxL + 11) + Lc ≤ R.locals)
    (hn : av.length = n) (hsz : ls.size = nL) (hst : st0 = av.reverse ++ rest) (hW : (rest.map fun v => v.category).sum ≤ 8) (hdg : decode cc pc = .ok (.invokestatic index, 3)) (hsm : ∀ r g, f = some (r, g) → sm g h) (hf : cells ≤ R.cells ∧ slots ≤ R.slots) (hE : cl f K = some res)
    (kk : ∀ (r : Int64) (g : hS) (H1 : Heap) (locs1 : List Loc), wd D cy z s cells g H1 locs1 → sm g h → K r g = some res → W p l e R s m args below meth c H1 locs1 cells slots Q (F0 m (pc + 3) ls (.long r :: rest))) : W p l e R s m args below meth c H locs cells slots Q (F0 m pc ls st0) :=
  w_S rJ hG C w hM g1 g2 g3 g4 hd hR hn hsz hst hW hdg (fun _ _ _ => Or.inl rfl) hf hE (fun r g H1 locs1 w1 e1 e2 => kk r g H1 locs1 w1 (hsm r g e1) e2)
theorem w_SV {G : List Cond} {w0 : Cond} (hG : G.all goodWord = true) {y : MethodName} {bytes : ByteArray} {maxL n index F Lc : Nat} {rt : Option FieldType} {av st0 : List Value} {f : Option (Unit × hS)} {K : Unit → hS → Option β} (C : MX p s m args meth c cc nL ret own (w0 :: G)) (w : wd D cy z s cells h H locs) (hM : ∀ r g, f = some (r, g) → ct l y (Cond.code y bytes maxL rt :: G) { frames := F, cells := 0, slots := 0, locals := Lc } D cy z h av (rV r) g)
    (g1 : Cond.methodLink own index y ∈ G) (g2 : Cond.static y ∈ G) (g3 : Cond.initialized y.cls ∈ G) (g4 : Cond.code y bytes maxL rt ∈ G) (hd : y.cls ≠ "java/lang/invoke/MethodHandle" ∧ y.cls ≠ "java/lang/invoke/VarHandle" ∧ (parseMethodDescriptor y.desc).map (fun d => d.parameters.length) = some n) (hR : F + 1 ≤ R.frames ∧ 8 + (maxL + 11) + Lc ≤ R.locals)
    (hn : av.length = n) (hsz : ls.size = nL) (hst : st0 = av.reverse ++ rest) (hW : (rest.map fun v => v.category).sum ≤ 8) (hdg : decode cc pc = .ok (.invokestatic index, 3)) (hsm : ∀ r g, f = some (r, g) → sm g h) (hf : cells ≤ R.cells ∧ slots ≤ R.slots) (hE : cl f K = some res)
    (kk : ∀ (r : Unit) (g : hS) (H1 : Heap) (locs1 : List Loc), wd D cy z s cells g H1 locs1 → sm g h → K r g = some res → W p l e R s m args below meth c H1 locs1 cells slots Q (F0 m (pc + 3) ls (rest))) : W p l e R s m args below meth c H locs cells slots Q (F0 m pc ls st0) :=
  w_S rV hG C w hM g1 g2 g3 g4 hd hR hn hsz hst hW hdg (fun _ _ _ => Or.inl rfl) hf hE (fun r g H1 locs1 w1 e1 e2 => kk r g H1 locs1 w1 (hsm r g e1) e2)
theorem w_SR {G : List Cond} {w0 : Cond} (hG : G.all goodWord = true) {y : MethodName} {bytes : ByteArray} {maxL n index F Lc : Nat} {rt : Option FieldType} {av st0 : List Value} {f : Option (Option Nat × hS)} {K : Option Nat → hS → Option β} (C : MX p s m args meth c cc nL ret own (w0 :: G)) (w : wd D cy z s cells h H locs) (hM : ∀ r g, f = some (r, g) → ct l y (Cond.code y bytes maxL rt :: G) { frames := F, cells := 0, slots := 0, locals := Lc } D cy z h av (rR r) g)
    (g1 : Cond.methodLink own index y ∈ G) (g2 : Cond.static y ∈ G) (g3 : Cond.initialized y.cls ∈ G) (g4 : Cond.code y bytes maxL rt ∈ G) (hd : y.cls ≠ "java/lang/invoke/MethodHandle" ∧ y.cls ≠ "java/lang/invoke/VarHandle" ∧ (parseMethodDescriptor y.desc).map (fun d => d.parameters.length) = some n) (hR : F + 1 ≤ R.frames ∧ 8 + (maxL + 11) + Lc ≤ R.locals)
    (hn : av.length = n) (hsz : ls.size = nL) (hst : st0 = av.reverse ++ rest) (hW : (rest.map fun v => v.category).sum ≤ 8) (hdg : decode cc pc = .ok (.invokestatic index, 3)) (hsm : ∀ r g, f = some (r, g) → sm g h) (hf : cells ≤ R.cells ∧ slots ≤ R.slots) (hE : cl f K = some res)
    (kk : ∀ (r : Option Nat) (g : hS) (H1 : Heap) (locs1 : List Loc), wd D cy z s cells g H1 locs1 → sm g h → K r g = some res → W p l e R s m args below meth c H1 locs1 cells slots Q (F0 m (pc + 3) ls (va_rf r :: rest))) : W p l e R s m args below meth c H locs cells slots Q (F0 m pc ls st0) :=
  w_S rR hG C w hM g1 g2 g3 g4 hd hR hn hsz hst hW hdg (fun _ _ _ => Or.inl rfl) hf hE (fun r g H1 locs1 w1 e1 e2 => kk r g H1 locs1 w1 (hsm r g e1) e2)
theorem w_VI {G : List Cond} {w0 : Cond} (hG : G.all goodWord = true) {CN : String} {T : u_T} {N ci : Nat} {y : MethodName} {bytes : ByteArray} {maxL n index F Lc : Nat} {rt : Option FieldType} {o : Option Nat} {av st0 : List Value} {f : Nat → Option (Int32 × hS)} {K : Int32 → hS → Option β} (C : MX p s m args meth c cc nL ret own (w0 :: G)) (w : wd D cy z s cells h H locs) (hc : cls[ci]? = some (CN, T, N)) (hci : ci + 1 < 50) (hM : ∀ a r g, f a = some (r, g) → ct l y (Cond.code y bytes maxL rt :: G) { frames := F, cells := 0, slots := 0, locals := Lc } D cy z h (.ref a :: av) (rI r) g)
    (g1 : Cond.methodLink own index y ∈ G) (g2 : Cond.instanceMethod y ∈ G) (g5 : Cond.selects CN y y ∈ G) (g3 : Cond.initialized CN ∈ G) (g4 : Cond.code y bytes maxL rt ∈ G) (hd : y.cls = CN ∧ y.cls ≠ "java/lang/invoke/MethodHandle" ∧ y.cls ≠ "java/lang/invoke/VarHandle" ∧ (parseMethodDescriptor y.desc).map (fun d => d.parameters.length) = some n) (hR : F + 1 ≤ R.frames ∧ 8 + (maxL + 11) + Lc ≤ R.locals)
    (hn : av.length = n) (hsz : ls.size = nL) (hst : st0 = av.reverse ++ va_rf o :: rest) (hW : (rest.map fun v => v.category).sum ≤ 8) (hdg : decode cc pc = .ok (.invokevirtual index, 3)) (hsm : ∀ a r g, f a = some (r, g) → sm g h) (hf : cells ≤ R.cells ∧ slots ≤ R.slots) (hE : cv h o ci f K = some res)
    (kk : ∀ (r : Int32) (g : hS) (H1 : Heap) (locs1 : List Loc), wd D cy z s cells g H1 locs1 → sm g h → K r g = some res → W p l e R s m args below meth c H1 locs1 cells slots Q (F0 m (pc + 3) ls (.int r :: rest))) : W p l e R s m args below meth c H locs cells slots Q (F0 m pc ls st0) :=
  w_V rI hG C w hc hci hM g1 g2 g5 g3 g4 hd hR hn hsz hst hW hdg (fun _ _ _ _ => Or.inl rfl) hf hE (fun a r g H1 locs1 w1 e1 e2 => kk r g H1 locs1 w1 (hsm a r g e1) e2)
theorem w_VJ {G : List Cond} {w0 : Cond} (hG : G.all goodWord = true) {CN : String} {T : u_T} {N ci : Nat} {y : MethodName} {bytes : ByteArray} {maxL n index F Lc : Nat} {rt : Option FieldType} {o : Option Nat} {av st0 : List Value} {f : Nat → Option (Int64 × hS)} {K : Int64 → hS → Option β} (C : MX p s m args meth c cc nL ret own (w0 :: G)) (w : wd D cy z s cells h H locs) (hc : cls[ci]? = some (CN, T, N)) (hci : ci + 1 < 50) (hM : ∀ a r g, f a = some (r, g) → ct l y (Cond.code y bytes maxL rt :: G) { frames := F, cells := 0, slots := 0, locals := Lc } D cy z h (.ref a :: av) (rJ r) g)
    (g1 : Cond.methodLink own index y ∈ G) (g2 : Cond.instanceMethod y ∈ G) (g5 : Cond.selects CN y y ∈ G) (g3 : Cond.initialized CN ∈ G) (g4 : Cond.code y bytes maxL rt ∈ G) (hd : y.cls = CN ∧ y.cls ≠ "java/lang/invoke/MethodHandle" ∧ y.cls ≠ "java/lang/invoke/VarHandle" ∧ (parseMethodDescriptor y.desc).map (fun d => d.parameters.length) = some n) (hR : F + 1 ≤ R.frames ∧ 8 + (maxL + 11) + Lc ≤ R.locals)
    (hn : av.length = n) (hsz : ls.size = nL) (hst : st0 = av.reverse ++ va_rf o :: rest) (hW : (rest.map fun v => v.category).sum ≤ 8) (hdg : decode cc pc = .ok (.invokevirtual index, 3)) (hsm : ∀ a r g, f a = some (r, g) → sm g h) (hf : cells ≤ R.cells ∧ slots ≤ R.slots) (hE : cv h o ci f K = some res)
    (kk : ∀ (r : Int64) (g : hS) (H1 : Heap) (locs1 : List Loc), wd D cy z s cells g H1 locs1 → sm g h → K r g = some res → W p l e R s m args below meth c H1 locs1 cells slots Q (F0 m (pc + 3) ls (.long r :: rest))) : W p l e R s m args below meth c H locs cells slots Q (F0 m pc ls st0) :=
  w_V rJ hG C w hc hci hM g1 g2 g5 g3 g4 hd hR hn hsz hst hW hdg (fun _ _ _ _ => Or.inl rfl) hf hE (fun a r g H1 locs1 w1 e1 e2 => kk r g H1 locs1 w1 (hsm a r g e1) e2)
theorem w_VV {G : List Cond} {w0 : Cond} (hG : G.all goodWord = true) {CN : String} {T : u_T} {N ci : Nat} {y : MethodName} {bytes : ByteArray} {maxL n index F Lc : Nat} {rt : Option FieldType} {o : Option Nat} {av st0 : List Value} {f : Nat → Option (Unit × hS)} {K : Unit → hS → Option β} (C : MX p s m args meth c cc nL ret own (w0 :: G)) (w : wd D cy z s cells h H locs) (hc : cls[ci]? = some (CN, T, N)) (hci : ci + 1 < 50) (hM : ∀ a r g, f a = some (r, g) → ct l y (Cond.code y bytes maxL rt :: G) { frames := F, cells := 0, slots := 0, locals := Lc } D cy z h (.ref a :: av) (rV r) g)
    (g1 : Cond.methodLink own index y ∈ G) (g2 : Cond.instanceMethod y ∈ G) (g5 : Cond.selects CN y y ∈ G) (g3 : Cond.initialized CN ∈ G) (g4 : Cond.code y bytes maxL rt ∈ G) (hd : y.cls = CN ∧ y.cls ≠ "java/lang/invoke/MethodHandle" ∧ y.cls ≠ "java/lang/invoke/VarHandle" ∧ (parseMethodDescriptor y.desc).map (fun d => d.parameters.length) = some n) (hR : F + 1 ≤ R.frames ∧ 8 + (maxL + 11) + Lc ≤ R.locals)
    (hn : av.length = n) (hsz : ls.size = nL) (hst : st0 = av.reverse ++ va_rf o :: rest) (hW : (rest.map fun v => v.category).sum ≤ 8) (hdg : decode cc pc = .ok (.invokevirtual index, 3)) (hsm : ∀ a r g, f a = some (r, g) → sm g h) (hf : cells ≤ R.cells ∧ slots ≤ R.slots) (hE : cv h o ci f K = some res)
    (kk : ∀ (r : Unit) (g : hS) (H1 : Heap) (locs1 : List Loc), wd D cy z s cells g H1 locs1 → sm g h → K r g = some res → W p l e R s m args below meth c H1 locs1 cells slots Q (F0 m (pc + 3) ls (rest))) : W p l e R s m args below meth c H locs cells slots Q (F0 m pc ls st0) :=
  w_V rV hG C w hc hci hM g1 g2 g5 g3 g4 hd hR hn hsz hst hW hdg (fun _ _ _ _ => Or.inl rfl) hf hE (fun a r g H1 locs1 w1 e1 e2 => kk r g H1 locs1 w1 (hsm a r g e1) e2)
theorem w_VR {G : List Cond} {w0 : Cond} (hG : G.all goodWord = true) {CN : String} {T : u_T} {N ci : Nat} {y : MethodName} {bytes : ByteArray} {maxL n index F Lc : Nat} {rt : Option FieldType} {o : Option Nat} {av st0 : List Value} {f : Nat → Option (Option Nat × hS)} {K : Option Nat → hS → Option β} (C : MX p s m args meth c cc nL ret own (w0 :: G)) (w : wd D cy z s cells h H locs) (hc : cls[ci]? = some (CN, T, N)) (hci : ci + 1 < 50) (hM : ∀ a r g, f a = some (r, g) → ct l y (Cond.code y bytes maxL rt :: G) { frames := F, cells := 0, slots := 0, locals := Lc } D cy z h (.ref a :: av) (rR r) g)
    (g1 : Cond.methodLink own index y ∈ G) (g2 : Cond.instanceMethod y ∈ G) (g5 : Cond.selects CN y y ∈ G) (g3 : Cond.initialized CN ∈ G) (g4 : Cond.code y bytes maxL rt ∈ G) (hd : y.cls = CN ∧ y.cls ≠ "java/lang/invoke/MethodHandle" ∧ y.cls ≠ "java/lang/invoke/VarHandle" ∧ (parseMethodDescriptor y.desc).map (fun d => d.parameters.length) = some n) (hR : F + 1 ≤ R.frames ∧ 8 + (maxL + 11) + Lc ≤ R.locals)
    (hn : av.length = n) (hsz : ls.size = nL) (hst : st0 = av.reverse ++ va_rf o :: rest) (hW : (rest.map fun v => v.category).sum ≤ 8) (hdg : decode cc pc = .ok (.invokevirtual index, 3)) (hsm : ∀ a r g, f a = some (r, g) → sm g h) (hf : cells ≤ R.cells ∧ slots ≤ R.slots) (hE : cv h o ci f K = some res)
    (kk : ∀ (r : Option Nat) (g : hS) (H1 : Heap) (locs1 : List Loc), wd D cy z s cells g H1 locs1 → sm g h → K r g = some res → W p l e R s m args below meth c H1 locs1 cells slots Q (F0 m (pc + 3) ls (va_rf r :: rest))) : W p l e R s m args below meth c H locs cells slots Q (F0 m pc ls st0) :=
  w_V rR hG C w hc hci hM g1 g2 g5 g3 g4 hd hR hn hsz hst hW hdg (fun _ _ _ _ => Or.inl rfl) hf hE (fun a r g H1 locs1 w1 e1 e2 => kk r g H1 locs1 w1 (hsm a r g e1) e2)
/-! branches -/
theorem w_icmp_eq {x y : Int32} {off : Int} {tgt : Nat} {A B : Option β} (C : MX p s m args meth c cc nL ret own Ts) (hdg : decode cc pc = .ok (.if_icmp .eq off, 3)) (ht : (pc : Int) + off = (tgt : Int)) (hE : (if x = y then A else B) = some res)
    (kt : x = y → A = some res → W p l e R s m args below meth c H locs cells slots Q (F0 m tgt ls rest)) (kf : ¬ x = y → B = some res → W p l e R s m args below meth c H locs cells slots Q (F0 m (pc + 3) ls rest)) : W p l e R s m args below meth c H locs cells slots Q (F0 m pc ls (.int y :: .int x :: rest)) :=
  lv_icmp_eq C.1 C.2.1 hdg ht (fun q => kt q ((if_pos q).symm.trans hE)) (fun q => kf q ((if_neg q).symm.trans hE))
theorem w_icmp_ne {x y : Int32} {off : Int} {tgt : Nat} {A B : Option β} (C : MX p s m args meth c cc nL ret own Ts) (hdg : decode cc pc = .ok (.if_icmp .ne off, 3)) (ht : (pc : Int) + off = (tgt : Int)) (hE : (if x = y then B else A) = some res)
    (kt : ¬ x = y → A = some res → W p l e R s m args below meth c H locs cells slots Q (F0 m tgt ls rest)) (kf : x = y → B = some res → W p l e R s m args below meth c H locs cells slots Q (F0 m (pc + 3) ls rest)) : W p l e R s m args below meth c H locs cells slots Q (F0 m pc ls (.int y :: .int x :: rest)) :=
  lv_icmp_ne C.1 C.2.1 hdg ht (fun q => kt q ((if_neg q).symm.trans hE)) (fun q => kf q ((if_pos q).symm.trans hE))
theorem w_icmp_lt {x y : Int32} {off : Int} {tgt : Nat} {A B : Option β} (C : MX p s m args meth c cc nL ret own Ts) (hdg : decode cc pc = .ok (.if_icmp .lt off, 3)) (ht : (pc : Int) + off = (tgt : Int)) (hE : (if x < y then A else B) = some res)
    (kt : x < y → A = some res → W p l e R s m args below meth c H locs cells slots Q (F0 m tgt ls rest)) (kf : ¬ x < y → B = some res → W p l e R s m args below meth c H locs cells slots Q (F0 m (pc + 3) ls rest)) : W p l e R s m args below meth c H locs cells slots Q (F0 m pc ls (.int y :: .int x :: rest)) :=
  lv_icmp_lt C.1 C.2.1 hdg ht (fun q => kt q ((if_pos q).symm.trans hE)) (fun q => kf q ((if_neg q).symm.trans hE))
theorem w_icmp_ge {x y : Int32} {off : Int} {tgt : Nat} {A B : Option β} (C : MX p s m args meth c cc nL ret own Ts) (hdg : decode cc pc = .ok (.if_icmp .ge off, 3)) (ht : (pc : Int) + off = (tgt : Int)) (hE : (if y ≤ x then A else B) = some res)
    (kt : y ≤ x → A = some res → W p l e R s m args below meth c H locs cells slots Q (F0 m tgt ls rest)) (kf : ¬ y ≤ x → B = some res → W p l e R s m args below meth c H locs cells slots Q (F0 m (pc + 3) ls rest)) : W p l e R s m args below meth c H locs cells slots Q (F0 m pc ls (.int y :: .int x :: rest)) :=
  lv_icmp_ge C.1 C.2.1 hdg ht (fun q => kt q ((if_pos q).symm.trans hE)) (fun q => kf q ((if_neg q).symm.trans hE))
theorem w_icmp_gt {x y : Int32} {off : Int} {tgt : Nat} {A B : Option β} (C : MX p s m args meth c cc nL ret own Ts) (hdg : decode cc pc = .ok (.if_icmp .gt off, 3)) (ht : (pc : Int) + off = (tgt : Int)) (hE : (if y < x then A else B) = some res)
    (kt : y < x → A = some res → W p l e R s m args below meth c H locs cells slots Q (F0 m tgt ls rest)) (kf : ¬ y < x → B = some res → W p l e R s m args below meth c H locs cells slots Q (F0 m (pc + 3) ls rest)) : W p l e R s m args below meth c H locs cells slots Q (F0 m pc ls (.int y :: .int x :: rest)) :=
  lv_icmp_gt C.1 C.2.1 hdg ht (fun q => kt q ((if_pos q).symm.trans hE)) (fun q => kf q ((if_neg q).symm.trans hE))
theorem w_icmp_le {x y : Int32} {off : Int} {tgt : Nat} {A B : Option β} (C : MX p s m args meth c cc nL ret own Ts) (hdg : decode cc pc = .ok (.if_icmp .le off, 3)) (ht : (pc : Int) + off = (tgt : Int)) (hE : (if x ≤ y then A else B) = some res)
    (kt : x ≤ y → A = some res → W p l e R s m args below meth c H locs cells slots Q (F0 m tgt ls rest)) (kf : ¬ x ≤ y → B = some res → W p l e R s m args below meth c H locs cells slots Q (F0 m (pc + 3) ls rest)) : W p l e R s m args below meth c H locs cells slots Q (F0 m pc ls (.int y :: .int x :: rest)) :=
  lv_icmp_le C.1 C.2.1 hdg ht (fun q => kt q ((if_pos q).symm.trans hE)) (fun q => kf q ((if_neg q).symm.trans hE))
theorem w_if_eq {x : Int32} {off : Int} {tgt : Nat} {A B : Option β} (C : MX p s m args meth c cc nL ret own Ts) (hdg : decode cc pc = .ok (.ifCond .eq off, 3)) (ht : (pc : Int) + off = (tgt : Int)) (hE : (if x = 0 then A else B) = some res)
    (kt : x = 0 → A = some res → W p l e R s m args below meth c H locs cells slots Q (F0 m tgt ls rest)) (kf : ¬ x = 0 → B = some res → W p l e R s m args below meth c H locs cells slots Q (F0 m (pc + 3) ls rest)) : W p l e R s m args below meth c H locs cells slots Q (F0 m pc ls (.int x :: rest)) :=
  lv_if_eq C.1 C.2.1 hdg ht (fun q => kt q ((if_pos q).symm.trans hE)) (fun q => kf q ((if_neg q).symm.trans hE))
theorem w_if_ne {x : Int32} {off : Int} {tgt : Nat} {A B : Option β} (C : MX p s m args meth c cc nL ret own Ts) (hdg : decode cc pc = .ok (.ifCond .ne off, 3)) (ht : (pc : Int) + off = (tgt : Int)) (hE : (if x = 0 then B else A) = some res)
    (kt : ¬ x = 0 → A = some res → W p l e R s m args below meth c H locs cells slots Q (F0 m tgt ls rest)) (kf : x = 0 → B = some res → W p l e R s m args below meth c H locs cells slots Q (F0 m (pc + 3) ls rest)) : W p l e R s m args below meth c H locs cells slots Q (F0 m pc ls (.int x :: rest)) :=
  lv_if_ne C.1 C.2.1 hdg ht (fun q => kt q ((if_neg q).symm.trans hE)) (fun q => kf q ((if_pos q).symm.trans hE))
theorem w_if_lt {x : Int32} {off : Int} {tgt : Nat} {A B : Option β} (C : MX p s m args meth c cc nL ret own Ts) (hdg : decode cc pc = .ok (.ifCond .lt off, 3)) (ht : (pc : Int) + off = (tgt : Int)) (hE : (if x < 0 then A else B) = some res)
    (kt : x < 0 → A = some res → W p l e R s m args below meth c H locs cells slots Q (F0 m tgt ls rest)) (kf : ¬ x < 0 → B = some res → W p l e R s m args below meth c H locs cells slots Q (F0 m (pc + 3) ls rest)) : W p l e R s m args below meth c H locs cells slots Q (F0 m pc ls (.int x :: rest)) :=
  lv_if_lt C.1 C.2.1 hdg ht (fun q => kt q ((if_pos q).symm.trans hE)) (fun q => kf q ((if_neg q).symm.trans hE))
theorem w_if_ge {x : Int32} {off : Int} {tgt : Nat} {A B : Option β} (C : MX p s m args meth c cc nL ret own Ts) (hdg : decode cc pc = .ok (.ifCond .ge off, 3)) (ht : (pc : Int) + off = (tgt : Int)) (hE : (if 0 ≤ x then A else B) = some res)
    (kt : 0 ≤ x → A = some res → W p l e R s m args below meth c H locs cells slots Q (F0 m tgt ls rest)) (kf : ¬ 0 ≤ x → B = some res → W p l e R s m args below meth c H locs cells slots Q (F0 m (pc + 3) ls rest)) : W p l e R s m args below meth c H locs cells slots Q (F0 m pc ls (.int x :: rest)) :=
  lv_if_ge C.1 C.2.1 hdg ht (fun q => kt q ((if_pos q).symm.trans hE)) (fun q => kf q ((if_neg q).symm.trans hE))
theorem w_if_gt {x : Int32} {off : Int} {tgt : Nat} {A B : Option β} (C : MX p s m args meth c cc nL ret own Ts) (hdg : decode cc pc = .ok (.ifCond .gt off, 3)) (ht : (pc : Int) + off = (tgt : Int)) (hE : (if 0 < x then A else B) = some res)
    (kt : 0 < x → A = some res → W p l e R s m args below meth c H locs cells slots Q (F0 m tgt ls rest)) (kf : ¬ 0 < x → B = some res → W p l e R s m args below meth c H locs cells slots Q (F0 m (pc + 3) ls rest)) : W p l e R s m args below meth c H locs cells slots Q (F0 m pc ls (.int x :: rest)) :=
  lv_if_gt C.1 C.2.1 hdg ht (fun q => kt q ((if_pos q).symm.trans hE)) (fun q => kf q ((if_neg q).symm.trans hE))
theorem w_if_le {x : Int32} {off : Int} {tgt : Nat} {A B : Option β} (C : MX p s m args meth c cc nL ret own Ts) (hdg : decode cc pc = .ok (.ifCond .le off, 3)) (ht : (pc : Int) + off = (tgt : Int)) (hE : (if x ≤ 0 then A else B) = some res)
    (kt : x ≤ 0 → A = some res → W p l e R s m args below meth c H locs cells slots Q (F0 m tgt ls rest)) (kf : ¬ x ≤ 0 → B = some res → W p l e R s m args below meth c H locs cells slots Q (F0 m (pc + 3) ls rest)) : W p l e R s m args below meth c H locs cells slots Q (F0 m pc ls (.int x :: rest)) :=
  lv_if_le C.1 C.2.1 hdg ht (fun q => kt q ((if_pos q).symm.trans hE)) (fun q => kf q ((if_neg q).symm.trans hE))
theorem w_nonnull {r : Option Nat} {off : Int} {tgt : Nat} {A B : Option β} (C : MX p s m args meth c cc nL ret own Ts) (hdg : decode cc pc = .ok (.ifnonnull off, 3)) (ht : (pc : Int) + off = (tgt : Int)) (hE : (if r = none then B else A) = some res)
    (kt : ¬ r = none → A = some res → W p l e R s m args below meth c H locs cells slots Q (F0 m tgt ls rest)) (kf : r = none → B = some res → W p l e R s m args below meth c H locs cells slots Q (F0 m (pc + 3) ls rest)) : W p l e R s m args below meth c H locs cells slots Q (F0 m pc ls (va_rf r :: rest)) := by
  cases r with
  | none => exact lv_ifnonnullN C.1 C.2.1 hdg (kf rfl ((if_pos rfl).symm.trans hE))
  | some a => exact lv_ifnonnull C.1 C.2.1 hdg ht (kt (by simp) ((if_neg (by simp)).symm.trans hE))
/-! division, switches, Math -/
theorem w_idiv {x y : Int32} {A : Option β} (C : MX p s m args meth c cc nL ret own Ts) (hdg : decode cc pc = .ok (.idiv, 1)) (hE : dv y A = some res)
    (k : A = some res → W p l e R s m args below meth c H locs cells slots Q (F0 m (pc + 1) ls (.int (x / y) :: rest))) : W p l e R s m args below meth c H locs cells slots Q (F0 m pc ls (.int y :: .int x :: rest)) := by
  by_cases hy : y = 0
  · rw [dv, if_pos hy] at hE; cases hE
  · rw [dv, if_neg hy] at hE; exact lv_idiv C.1 C.2.1 hdg hy (k hE)
theorem w_irem {x y : Int32} {A : Option β} (C : MX p s m args meth c cc nL ret own Ts) (hdg : decode cc pc = .ok (.irem, 1)) (hE : dv y A = some res)
    (k : A = some res → W p l e R s m args below meth c H locs cells slots Q (F0 m (pc + 1) ls (.int (x - x / y * y) :: rest))) : W p l e R s m args below meth c H locs cells slots Q (F0 m pc ls (.int y :: .int x :: rest)) := by
  by_cases hy : y = 0
  · rw [dv, if_pos hy] at hE; cases hE
  · rw [dv, if_neg hy] at hE; exact lv_irem C.1 C.2.1 hdg hy (k hE)
theorem w_tin {x v : Int32} {dflt lo hi off : Int} {offs : Array Int} {len tgt : Nat} (C : MX p s m args meth c cc nL ret own Ts) (hxv : x = v) (hdg : decode cc pc = .ok (.tableswitch dflt lo hi offs, len)) (h1 : ¬ v.toInt < lo) (h2 : ¬ hi < v.toInt) (ho : offs[(v.toInt - lo).toNat]? = some off) (ht : (pc : Int) + off = (tgt : Int))
    (k : W p l e R s m args below meth c H locs cells slots Q (F0 m tgt ls rest)) : W p l e R s m args below meth c H locs cells slots Q (F0 m pc ls (.int x :: rest)) := by
  subst hxv
  exact lv_tableIn C.1 C.2.1 hdg h1 h2 ho ht k
theorem sw_out {x : Int32} (lo n : Nat) (hn : lo + n < 1000) (h : ∀ k, k < n → ¬ x = Int32.ofNat (lo + k)) : x.toInt < (lo : Int) ∨ (lo : Int) + (n : Int) - 1 < x.toInt := by
  rcases Int.lt_or_le x.toInt (lo : Int) with q | q
  · exact Or.inl q
  · rcases Int.lt_or_le ((lo : Int) + (n : Int) - 1) x.toInt with q2 | q2
    · exact Or.inr q2
    · refine absurd ?_ (h (x.toInt.toNat - lo) (by omega))
      apply Int32.toInt_inj.mp
      rw [Int32.toInt_ofNat_of_lt (by omega)]
      omega
theorem w_tout {x : Int32} {dflt hi lo' : Int} {offs : Array Int} {len tgt : Nat} (lo n : Nat) (C : MX p s m args meth c cc nL ret own Ts) (hn : lo + n < 1000) (h : ∀ k, k < n → ¬ x = Int32.ofNat (lo + k)) (hlo : lo' = (lo : Int)) (hh : hi = (lo : Int) + (n : Int) - 1) (hdg : decode cc pc = .ok (.tableswitch dflt lo' hi offs, len)) (ht : (pc : Int) + dflt = (tgt : Int))
    (k : W p l e R s m args below meth c H locs cells slots Q (F0 m tgt ls rest)) : W p l e R s m args below meth c H locs cells slots Q (F0 m pc ls (.int x :: rest)) := by
  subst hh
  subst hlo
  exact lv_tableOut C.1 C.2.1 hdg (sw_out lo n hn h) ht k
theorem w_case {P : Prop} [Decidable P] {A B : Option β} {X : Prop} (hE : (if P then A else B) = some res) (kt : P → A = some res → X) (kf : ¬ P → B = some res → X) : X := by
  by_cases q : P
  · exact kt q ((if_pos q).symm.trans hE)
  · exact kf q ((if_neg q).symm.trans hE)
def jmx (x y : Int32) : Int32 := if x < y then y else x
def jmn (x y : Int32) : Int32 := if y < x then y else x
def jab (x : Int32) : Int32 := if 0 ≤ x then x else 0 - x
theorem w_mmax {index : Nat} {x y : Int32} (C : MX p s m args meth c cc nL ret own Ts) (hsz : ls.size = nL) (g1 : Cond.methodLink own index Lib.Math.max.name ∈ Ts) (g2 : Cond.static Lib.Math.max.name ∈ Ts) (g3 : Cond.initialized "java/lang/Math" ∈ Ts) (g4 : Cond.code Lib.Math.max.name Lib.Math.max.code 2 (some .int) ∈ Ts) (hf : 1 ≤ R.frames) (hl : (rest.map fun v => v.category).sum + 13 ≤ R.locals) (hc : cells ≤ R.cells) (hs : slots ≤ R.slots) (hdg : decode cc pc = .ok (.invokestatic index, 3))
    (kk : W p l e R s m args below meth c H locs cells slots Q (F0 m (pc + 3) ls (.int (jmx x y) :: rest))) : W p l e R s m args below meth c H locs cells slots Q (F0 m pc ls (.int y :: .int x :: rest)) :=
  va_mmax C.1 C.2.1 (C.2.2.2.1.trans hsz.symm) C.2.2.2.2.1 (C.2.2.2.2.2.1 _ g1) (C.2.2.2.2.2.1 _ g2) (C.2.2.2.2.2.1 _ g3) (C.2.2.2.2.2.1 _ g4) hf hl hc hs hdg kk
theorem w_mmin {index : Nat} {x y : Int32} (C : MX p s m args meth c cc nL ret own Ts) (hsz : ls.size = nL) (g1 : Cond.methodLink own index Lib.Math.min.name ∈ Ts) (g2 : Cond.static Lib.Math.min.name ∈ Ts) (g3 : Cond.initialized "java/lang/Math" ∈ Ts) (g4 : Cond.code Lib.Math.min.name Lib.Math.min.code 2 (some .int) ∈ Ts) (hf : 1 ≤ R.frames) (hl : (rest.map fun v => v.category).sum + 13 ≤ R.locals) (hc : cells ≤ R.cells) (hs : slots ≤ R.slots) (hdg : decode cc pc = .ok (.invokestatic index, 3))
    (kk : W p l e R s m args below meth c H locs cells slots Q (F0 m (pc + 3) ls (.int (jmn x y) :: rest))) : W p l e R s m args below meth c H locs cells slots Q (F0 m pc ls (.int y :: .int x :: rest)) :=
  va_mmin C.1 C.2.1 (C.2.2.2.1.trans hsz.symm) C.2.2.2.2.1 (C.2.2.2.2.2.1 _ g1) (C.2.2.2.2.2.1 _ g2) (C.2.2.2.2.2.1 _ g3) (C.2.2.2.2.2.1 _ g4) hf hl hc hs hdg kk
theorem w_mabs {index : Nat} {x : Int32} (C : MX p s m args meth c cc nL ret own Ts) (hsz : ls.size = nL) (g1 : Cond.methodLink own index Lib.Math.abs.name ∈ Ts) (g2 : Cond.static Lib.Math.abs.name ∈ Ts) (g3 : Cond.initialized "java/lang/Math" ∈ Ts) (g4 : Cond.code Lib.Math.abs.name Lib.Math.abs.code 1 (some .int) ∈ Ts) (hf : 1 ≤ R.frames) (hl : (rest.map fun v => v.category).sum + 13 ≤ R.locals) (hc : cells ≤ R.cells) (hs : slots ≤ R.slots) (hdg : decode cc pc = .ok (.invokestatic index, 3))
    (kk : W p l e R s m args below meth c H locs cells slots Q (F0 m (pc + 3) ls (.int (jab x) :: rest))) : W p l e R s m args below meth c H locs cells slots Q (F0 m pc ls (.int x :: rest)) :=
  va_mabs C.1 C.2.1 (C.2.2.2.1.trans hsz.symm) C.2.2.2.2.1 (C.2.2.2.2.2.1 _ g1) (C.2.2.2.2.2.1 _ g2) (C.2.2.2.2.2.1 _ g3) (C.2.2.2.2.2.1 _ g4) hf hl hc hs hdg kk
end WC
section WX
variable {p : Program} {l : Launch} {e : Env} {R : Room} {s : State} {m : MethodId} {args : Array Value} {below : List Frame} {meth : Method} {c : Code} {H : Heap} {locs : List Loc} {cells slots : Nat} {Q : State → Prop} {cc : ByteArray} {nL : Nat} {ret : Option FieldType} {own : String} {Ts : List Cond} {pc : Nat} {ls : Array Slot} {rest : List Value} {D : va_G} {cy : cyT} {z : Nat} {h : hS} {β : Type} {res : β}
theorem w_aR60 {r : Option Nat} {i : Int32} {f : Option Nat → Option β} (C : MX p s m args meth c cc nL ret own Ts) (w : wd D cy z s cells h H locs) (hdg : decode cc pc = .ok (.aaload, 1)) (hE : aR h 60 r i f = some res)
    (kk : ∀ v, f v = some res → W p l e R s m args below meth c H locs cells slots Q (F0 m (pc + 1) ls (va_rf v :: rest))) : W p l e R s m args below meth c H locs cells slots Q (F0 m pc ls (.int i :: va_rf r :: rest)) := by
  obtain ⟨a, hr, hE1⟩ := nn_some hE
  obtain ⟨⟨hka, hi⟩, hE2⟩ := if_some hE1
  obtain ⟨q2, q5⟩ := wd_rd w (a := a) (by omega)
  subst hr
  have hlt : i.toNatClampNeg < h_n h a := Nat.not_le.mp fun q => hi (Or.inr q)
  have hq : ([(a, cf cy.1 h a)] : va_W)[0]? = some (a, .inl (cy.1 60, h_n h a, .inr (.inr (.inr (.inr (h_r h a)))))) := by rw [cf_refs hka (by omega)]; rfl
  have hc : H[a]? = some (arrV (cy.1 60) (h_n h a) (fun j => va_rf (h_r h a j))) := q2 0 _ hq
  exact W.aald (v := va_rf (h_r h a i.toNatClampNeg)) (ty := .array .int) C.1 C.2.1 hc ((q5.2 4 _ rfl).1 _ _) rfl (fun q => by cases q) (by rw [arrV_size]; exact hi) (arrV_read _ _ hlt) rfl rfl hdg (kk _ hE2)
def jmxl (x y : Int64) : Int64 := if y < x then x else y
def jabl (x : Int64) : Int64 := if 0 < x then x else -x
theorem w_mmaxl {index : Nat} {x y : Int64} (C : MX p s m args meth c cc nL ret own Ts) (hsz : ls.size = nL) (g1 : Cond.methodLink own index Lib.MathLoose.max_long.x ∈ Ts) (g2 : Cond.static Lib.MathLoose.max_long.x ∈ Ts) (g3 : Cond.initialized "java/lang/Math" ∈ Ts) (g4 : Cond.code Lib.MathLoose.max_long.x Lib.MathLoose.max_long.code 4 (some .long) ∈ Ts) (hf : 1 ≤ R.frames) (hl : (rest.map fun v => v.category).sum + 15 ≤ R.locals) (hc : cells ≤ R.cells) (hs : slots ≤ R.slots) (hdg : decode cc pc = .ok (.invokestatic index, 3))
    (kk : W p l e R s m args below meth c H locs cells slots Q (F0 m (pc + 3) ls (.long (jmxl x y) :: rest))) : W p l e R s m args below meth c H locs cells slots Q (F0 m pc ls (.long y :: .long x :: rest)) :=
  va_mmax_long C.1 C.2.1 (C.2.2.2.1.trans hsz.symm) C.2.2.2.2.1 (C.2.2.2.2.2.1 _ g1) (C.2.2.2.2.2.1 _ g2) (C.2.2.2.2.2.1 _ g3) (C.2.2.2.2.2.1 _ g4) hf hl hc hs hdg kk
theorem w_mabsl {index : Nat} {x : Int64} (C : MX p s m args meth c cc nL ret own Ts) (hsz : ls.size = nL) (g1 : Cond.methodLink own index Lib.MathLoose.abs_long.x ∈ Ts) (g2 : Cond.static Lib.MathLoose.abs_long.x ∈ Ts) (g3 : Cond.initialized "java/lang/Math" ∈ Ts) (g4 : Cond.code Lib.MathLoose.abs_long.x Lib.MathLoose.abs_long.code 2 (some .long) ∈ Ts) (hf : 1 ≤ R.frames) (hl : (rest.map fun v => v.category).sum + 13 ≤ R.locals) (hc : cells ≤ R.cells) (hs : slots ≤ R.slots) (hdg : decode cc pc = .ok (.invokestatic index, 3))
    (kk : W p l e R s m args below meth c H locs cells slots Q (F0 m (pc + 3) ls (.long (jabl x) :: rest))) : W p l e R s m args below meth c H locs cells slots Q (F0 m pc ls (.long x :: rest)) :=
  va_mabs_long C.1 C.2.1 (C.2.2.2.1.trans hsz.symm) C.2.2.2.2.1 (C.2.2.2.2.2.1 _ g1) (C.2.2.2.2.2.1 _ g2) (C.2.2.2.2.2.1 _ g3) (C.2.2.2.2.2.1 _ g4) hf hl hc hs hdg kk
end WX
