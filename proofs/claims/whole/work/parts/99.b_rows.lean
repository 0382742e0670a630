/-! ROWS OF THE LAW: calls whose throws are caught; methods with handlers -/
theorem Met_ofWH {l : Launch} {y : MethodName} {ws ws' : List Cond} {rm : Room} {Pc : Array Value → State → Prop} {Qc : Array Value → State → Outcome → State → Prop} {mc ms : Nat} {free : Addr → Prop} {cc : ByteArray} {maxL : Nat} {ret : Option FieldType} {hh : List (Nat × Nat × Nat × Nat)}
    (hy : plainName y.cls = true) (hw : ws = Cond.codeWith y cc maxL ret hh :: ws')
    (body : ∀ p e s m args below meth c s₁, BodyLoose p l y (headSpec ws rm) cc maxL ret e s m args below meth c s₁ → c.maxLocals = maxL → Pc args s →
      W p l e (headSpec ws rm).room s m args below meth c s.heap [] 0 0 (MQ below Qc args s mc ms free) (entryFrame m args maxL)) : Met l y ws rm Pc Qc mc ms free := by
  refine MetFree.of_bodyS (code := cc) (maxLocals := maxL) (ret := ret) hy ?_ ?_
  · intro args s m h hn
    obtain ⟨m9, meth, c, hn9, h1, h2, h3, h4, -, h5, h6, -⟩ := Cond.codeWith_spec (atoms_spec (ws := ws) h _ (by rw [hw]; exact List.mem_cons_self))
    cases hn.symm.trans hn9
    exact ⟨meth, c, h1, h2, h3, h4, h5, h6⟩
  · intro p e s m args below meth c s₁ B hml hP _
    have hh0 : s₁.heap = s.heap := by rw [B.state]; rfl
    obtain ⟨t, a1, o, b1, b2, b3⟩ := body p e s m args below meth c s₁ B hml hP s₁ hh0 (Stand.of_body B)
    exact ⟨t, o, a1, b1, b2, ⟨b3.1, b3.2⟩⟩
theorem wd_backT {D : va_G} {cy : cyT} {z k k1 : Nat} {s t : State} {h g : hS} {H H1 : Heap} {locs locs1 : List Loc} (w : wd D cy z s k h H locs) (u : wT D cy z g t) (ht : t.heap = H1) (hvm : s.vm.Alike t.vm) (hS : va_S (fun q => z ≤ q) s.heap H1 locs1) (hk : H1.size = s.heap.size + k1) : wd D cy z s k1 g H1 locs1 := by
  obtain ⟨L, q1, q2, q3, q4, q5, q6, q7, q8, q9, q10, q11⟩ := w
  obtain ⟨L', u1, u2, u3, u4, u5, u6, u7, u8⟩ := u
  exact ⟨L', u1, by rw [← ht]; exact u2, u3, hS, q5, q6, by rw [← ht]; exact u6, hk, fun a ha => ⟨(u7 a ha).1, ((u7 a ha).2.moved hvm.symm).kept (fun b h1 h2 => by rw [ht]; exact (hS.2.1 b (by have := q6.2; omega) h2).symm)⟩, q10, u8⟩
/-- what a wrapper of the law ends with -/
def lQ (D : va_G) (cy : cyT) (z : Nat) {α : Type} (rK : Option ((α ⊕ Nat) × hS)) (toL : α → Int64) (cd : Nat → Int32) (o : Nat) : Array Value → State → Outcome → State → Prop := fun _ st oc t => ∃ k h1, WR rK toL cd o k h1 ∧ oc = .returned (some (.int k)) ∧ wU D cy z h1 t ∧ va_F (fun q => z ≤ q) st t
section WL
variable {p : Program} {l : Launch} {e : Env} {R : Room} {s : State} {m : MethodId} {args : Array Value} {below : List Frame} {meth : Method} {c : Code} {H : Heap} {locs : List Loc} {cells slots : Nat} {Q : State → Prop} {cc : ByteArray} {nL : Nat} {ret : Option FieldType} {own : String} {Ts : List Cond} {pc : Nat} {ls : Array Slot} {rest : List Value} {D : va_G} {cy : cyT} {z : Nat} {h : hS} {β : Type} {res : β}
theorem W_tight {k : Nat} {g : JFrame} (hk : H.size ≤ s.heap.size + k) (kk : W p l e R s m args below meth c H locs k slots Q g) : W p l e R s m args below meth c H locs cells slots Q g := fun T hT X => kk T hT { X with same := ⟨X.same.1, X.same.2.1, by show T.heap.size ≤ s.heap.size + k; rw [hT]; exact hk, X.same.2.2.2⟩ }
theorem w_iretL {α : Type} {rK : Option ((α ⊕ Nat) × hS)} {toL : α → Int64} {cd : Nat → Int32} {o : Nat} {v : Int32} (C : MX p s m args meth c cc nL (some .int) own Ts) {k1 mc ms : Nat} (w : wd D cy z s k1 h H locs) (hw : WR rK toL cd o v h) (hc : cells ≤ mc) (hs : slots ≤ ms) (hdg : decode cc pc = .ok (.ireturn, 1)) : W p l e R s m args below meth c H locs cells slots (MQ below (lQ D cy z rK toL cd o) args s mc ms (fun q => z ≤ q)) (F0 m pc ls [.int v]) := by
  refine W.widen (k := mc) (n := ms) hc hs ?_
  exact W.iret C.1 C.2.1 C.2.2.1 (fun t ht hW => ⟨v, h, hw, rfl, wd_U w ht hW, (wd_S w).F ht⟩) (wd_S w).2.2 hdg C.2.2.2.2.2.2
theorem w_VC {α : Type} (rv : α → Option Value) {G : List Cond} {w0 : Cond} (hG : G.all goodWord = true) {CN : String} {T : u_T} {N ci a : Nat} {y : MethodName} {bytes : ByteArray} {maxL n index F Lc FR LR cR sR : Nat} {rt : Option FieldType} {av st0 : List Value} {o : α ⊕ Nat} {g : hS} (C : MX p s m args meth c cc nL ret own (w0 :: G)) (w : wd D cy z s cells h H locs) (hc : cls[ci]? = some (CN, T, N)) (hci : ci + 1 < 50) (hka : h_k h a = ci + 1) (hM : ctT l y (Cond.code y bytes maxL rt :: G) { frames := F, cells := h_x g - h_x h, slots := h_s g - h_s h, locals := Lc } D cy z h (.ref a :: av) rv o g) (hgr : gr g h)
    (g1 : Cond.methodLink own index y ∈ G) (g2 : Cond.instanceMethod y ∈ G) (g5 : Cond.selects CN y y ∈ G) (g3 : Cond.initialized CN ∈ G) (g4 : Cond.code y bytes maxL rt ∈ G) (hd : y.cls = CN ∧ y.cls ≠ "java/lang/invoke/MethodHandle" ∧ y.cls ≠ "java/lang/invoke/VarHandle" ∧ (parseMethodDescriptor y.desc).map (fun d => d.parameters.length) = some n) (hR : F + 1 ≤ FR ∧ 8 + (maxL + 11) + Lc ≤ LR)
    (hn : av.length = n) (hsz : ls.size = nL) (hst : st0 = av.reverse ++ .ref a :: rest) (hW : (rest.map fun v => v.category).sum ≤ 8) (hdg : decode cc pc = .ok (.invokevirtual index, 3)) (hroom : cells + (h_x g - h_x h) ≤ cR ∧ slots + (h_s g - h_s h) ≤ sR)
    (kk : ∀ (r : α) (H1 : Heap) (locs1 : List Loc), o = .inl r → wd D cy z s (cells + (h_x g - h_x h)) g H1 locs1 → W p l e { frames := FR, cells := cR, slots := sR, locals := LR } s m args below meth c H1 locs1 (cells + (h_x g - h_x h)) (slots + (h_s g - h_s h)) Q (F0 m (pc + 3) ls ((rv r).toList ++ rest)))
    (kx : ∀ (j n : Nat) (H1 : Heap) (locs1 : List Loc) (q9 : Addr) (ce : Cell), o = .inr j → h_x g ≤ n + 1 → n ≤ h_x g → wd D cy z s (n - s.heap.size) (sx g n) H1 locs1 → H1[q9]? = some ce → ce.vm = .none → s.vm.findClass (exN j) = some ce.cls → vx_W p l e { frames := FR, cells := cR, slots := sR, locals := LR } s m args below meth c H1 locs1 (cells + (h_x g - h_x h)) (slots + (h_s g - h_s h)) Q (F0 m pc ls rest) q9) : W p l e { frames := FR, cells := cR, slots := sR, locals := LR } s m args below meth c H locs cells slots Q (F0 m pc ls st0) := by
  have hx := wd_x w
  have hrec : ∃ cell : Cell, H[a]? = some cell ∧ cell.vm.isStatics = false ∧ s.vm.findClass CN = some cell.cls := by
    obtain ⟨q2, q5⟩ := wd_rd w (a := a) (by omega)
    exact va_recv q5 q2 hc (q0 := 0) (by rw [cf_obj hka hci]; rfl)
  cases o with
  | inl r =>
    exact w_V rv hG (rm := { frames := F, cells := h_x g - h_x h, slots := h_s g - h_s h, locals := Lc }) (o := some a) (f := fun q => if q = a then some (r, g) else none) (K := fun _ _ => some ()) (res := ()) C w hc hci (fun a1 r1 gg e => by
      by_cases q : a1 = a
      · subst q; rw [if_pos rfl] at e; cases e; exact hM
      · rw [if_neg q] at e; cases e) g1 g2 g5 g3 g4 hd hR hn hsz hst hW hdg (fun a1 r1 gg e => by
      by_cases q : a1 = a
      · rw [if_pos q] at e; cases e; exact Or.inr rfl
      · rw [if_neg q] at e; cases e) hroom (by show (if h_k h a = ci + 1 then cl (if a = a then some (r, g) else none) (fun _ _ => some ()) else none) = some (); rw [if_pos hka, if_pos rfl]; rfl) (fun a1 r1 gg H1 locs1 w1 e1 e2 => by
      by_cases q : a1 = a
      · rw [if_pos q] at e1; cases e1; exact kk r H1 locs1 rfl w1
      · rw [if_neg q] at e1; cases e1)
  | inr j =>
    have cw := cwV (C := CN) (R := { frames := FR, cells := cR, slots := sR, locals := LR }) (rm := { frames := F, cells := h_x g - h_x h, slots := h_s g - h_s h, locals := Lc }) (mc := h_x g - h_x h) (ms := h_s g - h_s h) n C.2.2.2.2.2.1 (goodIn_G (w0 := w0) hG (ws := wsV own index CN y (Cond.code y bytes maxL rt :: G)) (fun w hw => by
            simp only [wsV, List.mem_append, List.mem_cons, List.not_mem_nil, or_false] at hw
            rcases hw with (h | h | h | h) | h | h
            · rw [h]; exact g1
            · rw [h]; exact g2
            · rw [h]; exact g5
            · rw [h]; exact g3
            · rw [h]; exact g4
            · exact h)) rfl rfl rfl hd hR
    have hrun := vx_runV (As := av) (rest := rest) ⟨C.1, C.2.1, C.2.2.2.1, C.2.2.2.2.1, C.2.2.2.2.2.1⟩ hM cw ⟨wU_blind, hrec, fun U hU hW => ⟨rfl, wd_U w hU hW⟩⟩ (g := F0 m pc ls st0) rfl hn hsz hst (lv_room hW) hdg hroom (below := below) (meth := meth) (e := e) (locs := locs)
    have hS := wd_S w
    intro T hT X
    rcases hrun T hT X with ⟨v, st₀, t, T', L, h0, X', hL, e1, e2, hq, st⟩ | ⟨q, st₀, t, T', L, E, ce, h0, X', hL, e1, e2, ⟨hE1, ⟨m0, hm0, hwT⟩, hF⟩, hce, hcv, hcl, st⟩
    · exact hq.elim
    · obtain ⟨k1, k2, k3⟩ := vx_keep h0 e1 hS (fun q _ hq => hq) (fun q hq => hq) hL hF
      have hup : T'.heap.size ≤ s.heap.size + (cells + (h_x g - h_x h)) := X'.same.2.2.1
      have hgx : t.heap.size = m0 := by obtain ⟨L', u1, u2, u3, u4, u5, u6, u7⟩ := hwT; exact u6
      rw [e1] at hup
      have hlo : s.heap.size ≤ m0 := by
        have := hS.1
        rw [e1] at k1
        omega
      have hg1 := hgr.1
      have wn : wd D cy z s (m0 - s.heap.size) (sx g m0) T'.heap (locs ++ L) := wd_backT w hwT e1.symm (by rw [← e2]; exact X'.warmed.alike) k3 (by rw [e1]; omega)
      subst hE1
      obtain ⟨t2, a1, b1⟩ := kx j m0 T'.heap (locs ++ L) q ce rfl hm0 (by omega) wn (by rw [e1]; exact hce) hcv hcl T' rfl X'
      exact ⟨t2, st.trans a1, b1⟩
/-- the call of a wrapper -/
theorem w_SL {α : Type} {rK : Option ((α ⊕ Nat) × hS)} {toL : α → Int64} {cd : Nat → Int32} {o : Nat} {G : List Cond} {w0 : Cond} (hG : G.all goodWord = true) {y : MethodName} {bytes : ByteArray} {maxL n index : Nat} {rt : Option FieldType} {hh : List (Nat × Nat × Nat × Nat)} {rm : Room} {av st0 : List Value} (C : MX p s m args meth c cc nL ret own (w0 :: G)) (w : wd D cy z s cells h H locs) (hM : Met l y (Cond.codeWith y bytes maxL rt hh :: G) rm (va_Pc av (wU D cy z h)) (lQ D cy z rK toL cd o) rm.cells rm.slots (fun q => z ≤ q))
    (g1 : Cond.methodLink own index y ∈ G) (g2 : Cond.static y ∈ G) (g3 : Cond.initialized y.cls ∈ G) (g4 : Cond.codeWith y bytes maxL rt hh ∈ G) (hd : y.cls ≠ "java/lang/invoke/MethodHandle" ∧ y.cls ≠ "java/lang/invoke/VarHandle" ∧ (parseMethodDescriptor y.desc).map (fun d => d.parameters.length) = some n) (hR : rm.frames + 1 ≤ R.frames ∧ 8 + (maxL + 11) + rm.locals ≤ R.locals)
    (hn : av.length = n) (hsz : ls.size = nL) (hst : st0 = av.reverse ++ rest) (hW : (rest.map fun v => v.category).sum ≤ 8) (hdg : decode cc pc = .ok (.invokestatic index, 3)) (hf : cells + rm.cells ≤ R.cells ∧ slots + rm.slots ≤ R.slots)
    (kk : ∀ (k : Int32) (h1 : hS) (k1 : Nat) (H1 : Heap) (locs1 : List Loc), WR rK toL cd o k h1 → wd D cy z s k1 h1 H1 locs1 → W p l e R s m args below meth c H1 locs1 k1 (slots + rm.slots) Q (F0 m (pc + 3) ls (.int k :: rest))) : W p l e R s m args below meth c H locs cells slots Q (F0 m pc ls st0) := by
  have cw := vx_cwSW (R := R) (rm := rm) (mc := rm.cells) (ms := rm.slots) (hh := hh) n C.2.2.2.2.2.1 (goodIn_G (w0 := w0) hG (ws := va_wsS own index y (Cond.codeWith y bytes maxL rt hh :: G)) (fun w hw => by
    simp only [va_wsS, List.mem_append, List.mem_cons, List.not_mem_nil, or_false] at hw
    rcases hw with (h | h | h) | h | h
    · rw [h]; exact g1
    · rw [h]; exact g2
    · rw [h]; exact g3
    · rw [h]; exact g4
    · exact h)) rfl rfl rfl hd hR
  have hr := vx_runSW (As := av) (rest := rest) ⟨C.1, C.2.1, C.2.2.2.1, C.2.2.2.2.1, C.2.2.2.2.2.1⟩ hM cw ⟨wU_blind, fun U hU hW => ⟨rfl, wd_U w hU hW⟩⟩ (g := F0 m pc ls st0) rfl hn hsz hst (lv_room hW) hdg hf (below := below) (meth := meth) (e := e) (locs := locs)
  have hS := wd_S w
  intro T hT X
  obtain ⟨v, st₀, t, T', L, h0, X', hL, e1, e2, ⟨k, h1, hwr, hv, hu, hF⟩, st⟩ := hr T hT X
  cases hv
  obtain ⟨k1, k2, k3⟩ := vx_keep h0 e1 hS (fun q _ hq => hq) (fun q hq => hq) hL hF
  have hgx : t.heap.size = h_x h1 := by obtain ⟨L', u1, u2, u3, u4, u5, u6, u7⟩ := hu; exact u6
  have hlo : s.heap.size ≤ T'.heap.size := by
    have := hS.1
    omega
  have wn : wd D cy z s (T'.heap.size - s.heap.size) h1 T'.heap (locs ++ L) := wd_back w hu e1.symm (by rw [← e2]; exact X'.warmed.alike) k3 (by omega)
  obtain ⟨t2, a1, b1⟩ := W_tight (cells := cells + rm.cells) (by omega) (kk k h1 (T'.heap.size - s.heap.size) T'.heap (locs ++ L) hwr wn) T' rfl X'
  exact ⟨t2, st t2 a1, b1⟩
end WL
