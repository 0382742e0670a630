/-! THE ABSTRACT HEAP: of each cell its kind, its length, its int slots, its long slots, its reference slots; the next address; how many slots were made. Kind 0: no cell of ours; kind ci + 1 < 50: an object of class ci of 'cls'; 50 int[], 51 long[], 52 byte[], 53 boolean[], 54 char[]; 60 and on: arrays of references. -/
abbrev hS : Type := (Nat → Nat) × (Nat → Nat) × (Nat → Nat → Int32) × (Nat → Nat → Int64) × (Nat → Nat → Option Nat) × Nat × Nat
def h_k (h : hS) (a : Nat) : Nat := h.1 a
def h_n (h : hS) (a : Nat) : Nat := h.2.1 a
def h_i (h : hS) (a : Nat) : Nat → Int32 := h.2.2.1 a
def h_j (h : hS) (a : Nat) : Nat → Int64 := h.2.2.2.1 a
def h_r (h : hS) (a : Nat) : Nat → Option Nat := h.2.2.2.2.1 a
def h_x (h : hS) : Nat := h.2.2.2.2.2.1
def h_s (h : hS) : Nat := h.2.2.2.2.2.2
def s_i (h : hS) (a k : Nat) (v : Int32) : hS := (h.1, h.2.1, va_up h.2.2.1 a (upd (h.2.2.1 a) k v), h.2.2.2)
def s_j (h : hS) (a k : Nat) (v : Int64) : hS := (h.1, h.2.1, h.2.2.1, va_up h.2.2.2.1 a (vp_updL (h.2.2.2.1 a) k v), h.2.2.2.2)
def s_r (h : hS) (a k : Nat) (v : Option Nat) : hS := (h.1, h.2.1, h.2.2.1, h.2.2.2.1, va_up h.2.2.2.2.1 a (va_up (h.2.2.2.2.1 a) k v), h.2.2.2.2.2)
/-- a new cell of kind kd and length n, of ms slots, at the next address -/
def nw (h : hS) (kd n ms : Nat) : hS := (va_up h.1 (h_x h) kd, va_up h.2.1 (h_x h) n, va_up h.2.2.1 (h_x h) (fun _ => 0), va_up h.2.2.2.1 (h_x h) (fun _ => 0), va_up h.2.2.2.2.1 (h_x h) (fun _ => none), h_x h + 1, h_s h + ms)
def slv (fi : Nat → Int32) (fj : Nat → Int64) (fr : Nat → Option Nat) (t k : Nat) : Value := if t = 0 then .int (fi k) else if t = 1 then .long (fj k) else va_rf (fr k)
def fvs (ts : List Nat) (fi : Nat → Int32) (fj : Nat → Int64) (fr : Nat → Option Nat) : List Value := (List.range ts.length).map (fun k => slv fi fj fr (ts.getD k 0) k)
def cfv (cy : Nat → ClassId) (k n : Nat) (fi : Nat → Int32) (fj : Nat → Int64) (fr : Nat → Option Nat) : va_E := if k < 50 then .inr (k - 1, fvs (tcs (k - 1)) fi fj fr) else if k = 51 then .inl (cy 51, n, .inr (.inl fj)) else if k < 60 then .inl (cy k, n, .inl fi) else .inl (cy k, n, .inr (.inr (.inr (.inr fr))))
def cf (cy : Nat → ClassId) (h : hS) (a : Nat) : va_E := cfv cy (h_k h a) (h_n h a) (h_i h a) (h_j h a) (h_r h a)
theorem cf_obj {cy : Nat → ClassId} {h : hS} {a ci : Nat} (hk : h_k h a = ci + 1) (hc : ci + 1 < 50) : cf cy h a = .inr (ci, fvs (tcs ci) (h_i h a) (h_j h a) (h_r h a)) := by
  simp [cf, cfv, hk, hc]
theorem cf_ints {cy : Nat → ClassId} {h : hS} {a k : Nat} (hk : h_k h a = k) (h1 : 50 ≤ k) (h2 : k < 60) (h3 : k ≠ 51) : cf cy h a = .inl (cy k, h_n h a, .inl (h_i h a)) := by
  have h4 : ¬ k < 50 := by omega
  simp [cf, cfv, hk, h4, h2, h3]
theorem cf_longs {cy : Nat → ClassId} {h : hS} {a : Nat} (hk : h_k h a = 51) : cf cy h a = .inl (cy 51, h_n h a, .inr (.inl (h_j h a))) := by
  simp [cf, cfv, hk]
theorem cf_refs {cy : Nat → ClassId} {h : hS} {a k : Nat} (hk : h_k h a = k) (h1 : 60 ≤ k) : cf cy h a = .inl (cy k, h_n h a, .inr (.inr (.inr (.inr (h_r h a))))) := by
  have h4 : ¬ k < 50 := by omega
  have h5 : ¬ k < 60 := by omega
  have h6 : ¬ k = 51 := by omega
  simp [cf, cfv, hk, h4, h5, h6]
theorem h_x_si (h : hS) (a k : Nat) (v : Int32) : h_x (s_i h a k v) = h_x h := rfl
theorem h_x_sj (h : hS) (a k : Nat) (v : Int64) : h_x (s_j h a k v) = h_x h := rfl
theorem h_x_sr (h : hS) (a k : Nat) (v : Option Nat) : h_x (s_r h a k v) = h_x h := rfl
theorem h_k_si (h : hS) (a k : Nat) (v : Int32) : h_k (s_i h a k v) = h_k h := rfl
theorem h_n_si (h : hS) (a k : Nat) (v : Int32) : h_n (s_i h a k v) = h_n h := rfl
theorem h_i_si (h : hS) (a k : Nat) (v : Int32) (b : Nat) : h_i (s_i h a k v) b = if b = a then upd (h_i h a) k v else h_i h b := rfl
theorem h_j_si (h : hS) (a k : Nat) (v : Int32) : h_j (s_i h a k v) = h_j h := rfl
theorem h_r_si (h : hS) (a k : Nat) (v : Int32) : h_r (s_i h a k v) = h_r h := rfl
theorem h_k_sj (h : hS) (a k : Nat) (v : Int64) : h_k (s_j h a k v) = h_k h := rfl
theorem h_n_sj (h : hS) (a k : Nat) (v : Int64) : h_n (s_j h a k v) = h_n h := rfl
theorem h_i_sj (h : hS) (a k : Nat) (v : Int64) : h_i (s_j h a k v) = h_i h := rfl
theorem h_j_sj (h : hS) (a k : Nat) (v : Int64) (b : Nat) : h_j (s_j h a k v) b = if b = a then vp_updL (h_j h a) k v else h_j h b := rfl
theorem h_r_sj (h : hS) (a k : Nat) (v : Int64) : h_r (s_j h a k v) = h_r h := rfl
theorem h_k_sr (h : hS) (a k : Nat) (v : Option Nat) : h_k (s_r h a k v) = h_k h := rfl
theorem h_n_sr (h : hS) (a k : Nat) (v : Option Nat) : h_n (s_r h a k v) = h_n h := rfl
theorem h_i_sr (h : hS) (a k : Nat) (v : Option Nat) : h_i (s_r h a k v) = h_i h := rfl
theorem h_j_sr (h : hS) (a k : Nat) (v : Option Nat) : h_j (s_r h a k v) = h_j h := rfl
theorem h_r_sr (h : hS) (a k : Nat) (v : Option Nat) (b : Nat) : h_r (s_r h a k v) b = if b = a then va_up (h_r h a) k v else h_r h b := rfl
theorem cf_congr {cy : Nat → ClassId} {h g : hS} {a : Nat} (h1 : h_k h a = h_k g a) (h2 : h_n h a = h_n g a) (h3 : h_i h a = h_i g a) (h4 : h_j h a = h_j g a) (h5 : h_r h a = h_r g a) : cf cy h a = cf cy g a := by
  simp only [cf, h1, h2, h3, h4, h5]
theorem fvs_len (ts : List Nat) (fi : Nat → Int32) (fj : Nat → Int64) (fr : Nat → Option Nat) : (fvs ts fi fj fr).length = ts.length := by simp [fvs]
theorem fvs_get {ts : List Nat} {fi : Nat → Int32} {fj : Nat → Int64} {fr : Nat → Option Nat} {k t : Nat} (h : ts[k]? = some t) : (fvs ts fi fj fr)[k]? = some (slv fi fj fr t k) := by
  obtain ⟨hlt, he⟩ := List.getElem?_eq_some_iff.mp h
  simp [fvs, List.getElem?_map, List.getElem?_range hlt, List.getD_eq_getElem?_getD, h]
theorem fvs_set {ts : List Nat} {fi gi : Nat → Int32} {fj gj : Nat → Int64} {fr gr : Nat → Option Nat} {k t : Nat} (h : ts[k]? = some t) (hi : ∀ j, j ≠ k → gi j = fi j) (hj : ∀ j, j ≠ k → gj j = fj j) (hr : ∀ j, j ≠ k → gr j = fr j) : (fvs ts fi fj fr).set k (slv gi gj gr t k) = fvs ts gi gj gr := by
  apply List.ext_getElem?
  intro j
  obtain ⟨hlt, he⟩ := List.getElem?_eq_some_iff.mp h
  rw [List.getElem?_set]
  by_cases hjk : k = j
  · subst hjk
    rw [fvs_get (fi := gi) (fj := gj) (fr := gr) h]
    simp [fvs_len, hlt]
  · simp only [hjk, if_false]
    simp only [fvs, List.getElem?_map]
    rcases Nat.lt_or_ge j ts.length with hq | hq
    · simp [List.getElem?_range hq, slv, hi j (Ne.symm hjk), hj j (Ne.symm hjk), hr j (Ne.symm hjk)]
    · simp [List.getElem?_eq_none (l := List.range ts.length) (i := j) (by simpa using hq)]
/-! THE WORLD: the pool of all our cells lies in the heap as the abstract heap says; below z nothing has changed. -/
abbrev cyT : Type := (Nat → ClassId) × (Nat → Option Nat)
def sval (rf : Nat → Option Nat) (q : Int32 ⊕ Nat) : Value := match q with
  | .inl v => .int v
  | .inr k => va_rf (rf k)
/-- rows of rows of ints can be made -/
def aoA (U : State) : Prop := (Cond.arrayOver (.array .int)).before #[] U = true
theorem aoA.moved {u U : State} (hvm : u.vm.Alike U.vm) (h : aoA u) : aoA U := by
  obtain ⟨comp, c, k, h1, h2, h3, h4, h5⟩ := arrayOverA_spec h
  obtain ⟨k', hk', he⟩ := hvm.2.2 _ _ h3
  have hi : (U.vm.classes.findIdx? fun (x : Class) => match x.kind with | .array component _ => component == comp | _ => false) = some c := by
    have e1 := va_idx_bare U.vm comp
    have e2 := va_idx_bare u.vm comp
    first | rw [hvm.bare_eq] at e1 | rw [← hvm.bare_eq] at e1
    exact e1.symm.trans (e2.trans h2)
  have hkind : k'.kind = .array comp (.array .int) := by rw [he]; exact h4
  have f1 : U.vm.findClass (FieldType.array .int).toString = some comp := by rw [hvm.findClass]; exact h1
  have f2 : U.vm.findClass ("[" ++ (FieldType.array .int).toString) = some c := by rw [hvm.findClass]; exact h5
  unfold aoA Cond.before Cond.holds
  simp only [Cond.value]
  rw [f1, Option.bind_some]
  refine (congrArg (fun o : Option Nat => (o.bind (fun c => (U.vm.classes[c]?).map fun (k : Class) => match k.kind with | .array _ ty => decide (ty = FieldType.array .int) && decide (U.vm.findClass ("[" ++ (FieldType.array .int).toString) = some c) | _ => false) == some true)) hi).trans ?_
  simp [hk', hkind, f2]
/-- what is known of the machine beside the pool: statics, String constants, links to nest mates -/
def wX (cy : cyT) (z : Nat) (U : State) (H : Heap) : Prop := (∀ q ∈ sts, va_Z q.1 q.2.1 q.2.2.1 (sval cy.2 q.2.2.2) (fun q => z ≤ q) U H) ∧ (∀ q ∈ scs, ∃ a, cy.2 q.2.2.2 = some a ∧ vk_R q.1 q.2.1 q.2.2.1 a U) ∧ (∀ q ∈ nsf, va_Nw (.fieldLinkNest q.1 q.2.1 q.2.2.1 q.2.2.2.1 q.2.2.2.2.1 q.2.2.2.2.2) U) ∧ (∀ q ∈ nsm, va_Nw (.methodLinkNest q.1 q.2.1 q.2.2.1 q.2.2.2) U) ∧ (∀ C ∈ aos, va_AO C U) ∧ (∃ k : Class, U.vm.classes[cy.1 60]? = some k ∧ k.kind = .array (cy.1 50) (.array .int)) ∧ (∀ q ∈ cst, va_Nw (.castable q.1 q.2) U) ∧ (∀ q ∈ ncs, va_Nc q.1 q.2 U) ∧ vx_Zq Bundle.tN "UNASSIGNED_STACK" Bundle.steD (fun q => z ≤ q) U H ∧ vx_Zq Bundle.tN "SUPPRESSED_SENTINEL" Bundle.listD (fun q => z ≤ q) U H ∧ aoA U ∧ (∀ y ∈ dcl, va_Nw (.declares y) U)
theorem wX.warm {cy : cyT} {z : Nat} {s U : State} {H : Heap} (hW : s.WarmedH U.vm) (h : wX cy z s H) : wX cy z U H :=
  ⟨fun q hq => (h.1 q hq).moved hW.alike, fun q hq => by obtain ⟨a, h1, h2⟩ := h.2.1 q hq; exact ⟨a, h1, h2.warm hW⟩, fun q hq => va_Nw.warmF hW (h.2.2.1 q hq), fun q hq => va_Nw.warmM hW (h.2.2.2.1 q hq), fun C hC => (h.2.2.2.2.1 C hC).moved hW.alike, by
    obtain ⟨k, h1, h2⟩ := h.2.2.2.2.2.1
    obtain ⟨k', h3, h4⟩ := hW.alike.2.2 _ _ h1
    exact ⟨k', h3, by rw [h4]; exact h2⟩, fun q hq => va_Nw.warmC hW (h.2.2.2.2.2.2.1 q hq), fun q hq => (h.2.2.2.2.2.2.2.1 q hq).moved hW.alike, h.2.2.2.2.2.2.2.2.1.moved hW.alike, h.2.2.2.2.2.2.2.2.2.1.moved hW.alike, h.2.2.2.2.2.2.2.2.2.2.1.moved hW.alike, fun y hy => va_Nw.warmD hW (h.2.2.2.2.2.2.2.2.2.2.2 y hy)⟩
theorem wX.same {cy : cyT} {z : Nat} {s U : State} {H : Heap} (hv : s.vm = U.vm) (h : wX cy z s H) : wX cy z U H := by
  have hA : s.vm.Alike U.vm := by rw [← hv]; exact Vm.Alike.refl _
  exact ⟨fun q hq => (h.1 q hq).moved hA, fun q hq => by obtain ⟨a, h1, h2⟩ := h.2.1 q hq; exact ⟨a, h1, h2.same hv.symm⟩, fun q hq => va_Nw.same rfl hv (h.2.2.1 q hq), fun q hq => va_Nw.same rfl hv (h.2.2.2.1 q hq), fun C hC => (h.2.2.2.2.1 C hC).moved hA, by rw [← hv]; exact h.2.2.2.2.2.1, fun q hq => va_Nw.same rfl hv (h.2.2.2.2.2.2.1 q hq), fun q hq => (h.2.2.2.2.2.2.2.1 q hq).moved hA, h.2.2.2.2.2.2.2.2.1.moved hA, h.2.2.2.2.2.2.2.2.2.1.moved hA, h.2.2.2.2.2.2.2.2.2.2.1.moved hA, fun y hy => va_Nw.same rfl hv (h.2.2.2.2.2.2.2.2.2.2.2 y hy)⟩
theorem wX.kept {cy : cyT} {z : Nat} {s : State} {H H1 : Heap} (h : wX cy z s H) (hq : ∀ a : Nat, a < H.size → ¬ z ≤ a → H1[a]? = H[a]?) : wX cy z s H1 :=
  ⟨fun q hq1 => (h.1 q hq1).kept hq, h.2.1, h.2.2.1, h.2.2.2.1, h.2.2.2.2.1, h.2.2.2.2.2.1, h.2.2.2.2.2.2.1, h.2.2.2.2.2.2.2.1, h.2.2.2.2.2.2.2.2.1.kept hq, h.2.2.2.2.2.2.2.2.2.1.kept hq, h.2.2.2.2.2.2.2.2.2.2⟩
/-- a cell that never changes: a String (kind 57; its int 1 the coder, its reference 0 the bytes), a constant's bytes (55), a static row of ints (56) -/
def rA (z : Nat) (h : hS) (a : Nat) (U : State) (H : Heap) : Prop := if h_k h a = 57 then va_O "java/lang/String" a (fun q => z ≤ q) U H ∧ va_OF "java/lang/String" "coder" "B" (.int (h_i h a 1)) a (fun q => z ≤ q) U H ∧ va_OF "java/lang/String" "value" "[B" (va_rf (h_r h a 0)) a (fun q => z ≤ q) U H else va_T (if h_k h a = 55 then .byte else .int) a (h_n h a) (fun j => .int (h_i h a j)) (fun q => z ≤ q) U H
theorem rA.moved {z : Nat} {h : hS} {a : Nat} {u U : State} {H : Heap} (hvm : u.vm.Alike U.vm) (q : rA z h a u H) : rA z h a U H := by
  unfold rA at q ⊢
  by_cases hk : h_k h a = 57
  · rw [if_pos hk] at q ⊢
    exact ⟨q.1.moved hvm, q.2.1.moved hvm, q.2.2.moved hvm⟩
  · rw [if_neg hk] at q ⊢
    exact q.moved hvm
theorem rA.kept {z : Nat} {h : hS} {a : Nat} {U : State} {H H1 : Heap} (q : rA z h a U H) (hq : ∀ b : Nat, b < H.size → ¬ z ≤ b → H1[b]? = H[b]?) : rA z h a U H1 := by
  unfold rA at q ⊢
  by_cases h57 : h_k h a = 57
  · rw [if_pos h57] at q ⊢
    exact ⟨q.1.kept hq, q.2.1.kept hq, q.2.2.kept hq⟩
  · rw [if_neg h57] at q ⊢
    exact q.kept hq
theorem rA.of {cy : Nat → ClassId} {z : Nat} {h g : hS} {a : Nat} {U : State} {H : Heap} (q : rA z h a U H) (hro : roK (h_k h a)) (hk : h_k g a = h_k h a) (hr : h_r g a = h_r h a) (hc : cf cy g a = cf cy h a) : rA z g a U H := by
  have e : h_n g a = h_n h a ∧ h_i g a = h_i h a := by
    have h0 : 50 ≤ h_k h a ∧ h_k h a < 60 ∧ h_k h a ≠ 51 := by unfold roK at hro; omega
    rw [cf_ints hk h0.1 h0.2.1 h0.2.2, cf_ints rfl h0.1 h0.2.1 h0.2.2] at hc
    simp only [Sum.inl.injEq, Prod.mk.injEq] at hc
    exact hc.2
  unfold rA at q ⊢
  rw [hk, hr, e.1, e.2]
  exact q
def wU (D : va_G) (cy : cyT) (z : Nat) (h : hS) (U : State) : Prop := ∃ L : List Nat, (∀ a, h_k h a ≠ 0 → ¬ roK (h_k h a) → a ∈ L) ∧ va_P D cls (va_pl L (cf cy.1 h)) U.heap ∧ va_D (fun q => z ≤ q) (va_pl L (cf cy.1 h)) ∧ va_K D cls (tys cy.1) U ∧ (0 < z ∧ z ≤ U.heap.size) ∧ U.heap.size = h_x h ∧ (∀ a, roK (h_k h a) → a < z ∧ rA z h a U U.heap) ∧ wX cy z U U.heap ∧ (h_k h 0 = 0 ∨ roK (h_k h 0)) ∧ h_r h 0 = cy.2
def wd (D : va_G) (cy : cyT) (z : Nat) (s : State) (k : Nat) (h : hS) (H : Heap) (locs : List Loc) : Prop := ∃ L : List Nat, (∀ a, h_k h a ≠ 0 → ¬ roK (h_k h a) → a ∈ L) ∧ va_P D cls (va_pl L (cf cy.1 h)) H ∧ va_D (fun q => z ≤ q) (va_pl L (cf cy.1 h)) ∧ va_S (fun q => z ≤ q) s.heap H locs ∧ va_K D cls (tys cy.1) s ∧ (0 < z ∧ z ≤ s.heap.size) ∧ H.size = h_x h ∧ H.size = s.heap.size + k ∧ (∀ a, roK (h_k h a) → a < z ∧ rA z h a s s.heap) ∧ wX cy z s s.heap ∧ (h_k h 0 = 0 ∨ roK (h_k h 0)) ∧ h_r h 0 = cy.2
def MX (p : Program) (s : State) (m : MethodId) (args : Array Value) (meth : Method) (c : Code) (cc : ByteArray) (nL : Nat) (ret : Option FieldType) (own : String) (Ts : List Cond) : Prop := p.tables.exec = Jvm.exec ∧ c.code = cc ∧ meth.sig.returnType = ret ∧ c.maxLocals = nL ∧ s.vm.findClass own = some m.cls ∧ (∀ w ∈ Ts, w.before args s = true) ∧ meth.locks = false
/-- the end of a method: the answer ov, the abstract heap h -/
def eQ (D : va_G) (cy : cyT) (z : Nat) (ov : Option Value) (h : hS) : Array Value → State → Outcome → State → Prop := fun _ st oc t => oc = .returned ov ∧ wU D cy z h t ∧ va_F (fun q => z ≤ q) st t
def ct (l : Launch) (y : MethodName) (ws : List Cond) (rm : Room) (D : va_G) (cy : cyT) (z : Nat) (h : hS) (av : List Value) (ov : Option Value) (h' : hS) : Prop := Met l y ws rm (va_Pc av (wU D cy z h)) (eQ D cy z ov h') rm.cells rm.slots (fun q => z ≤ q)
def rI (r : Int32) : Option Value := some (.int r)
def rJ (r : Int64) : Option Value := some (.long r)
def rR (r : Option Nat) : Option Value := some (va_rf r)
def rV (_ : Unit) : Option Value := none
theorem wU_blind {D : va_G} {cy : cyT} {z : Nat} {h : hS} {av : List Value} : FrameBlind (va_Pc av (wU D cy z h)) := by
  intro a U g mk q
  obtain ⟨q0, L, q1, q2, q3, q4, q5, q6, q7, q8, q9⟩ := q
  exact ⟨q0, L, q1, q2, q3, va_K.moved (u := U) (U := U.calling g mk a) (Vm.Alike.refl U.vm) q4, q5, q6, fun b hb => ⟨(q7 b hb).1, (q7 b hb).2.moved (u := U) (U := U.calling g mk a) (Vm.Alike.refl U.vm)⟩, q8.same (U := U.calling g mk a) rfl, q9⟩
theorem wd_U {D : va_G} {cy : cyT} {z k : Nat} {s : State} {h : hS} {H : Heap} {locs : List Loc} (w : wd D cy z s k h H locs) {U : State} (hU : U.heap = H) (hW : s.WarmedH U.vm) : wU D cy z h U := by
  obtain ⟨L, q1, q2, q3, q4, q5, q6, q7, q8, q9, q10, q11⟩ := w
  exact ⟨L, q1, by rw [hU]; exact q2, q3, va_K.moved hW.alike q5, ⟨q6.1, by rw [hU]; exact Nat.le_trans q6.2 q4.1⟩, by rw [hU]; exact q7, fun a ha => ⟨(q9 a ha).1, by rw [hU]; exact ((q9 a ha).2.kept (fun b h1 h2 => q4.2.1 b h1 h2)).moved hW.alike⟩, by rw [hU]; exact (q10.kept (fun a h1 h2 => q4.2.1 a h1 h2)).warm hW, q11⟩
theorem wd_of {D : va_G} {cy : cyT} {z : Nat} {s : State} {h : hS} (w : wU D cy z h s) : wd D cy z s 0 h s.heap [] := by
  obtain ⟨L, q1, q2, q3, q5, q6, q7, q8, q9, q10⟩ := w
  exact ⟨L, q1, q2, q3, va_S.rf, q5, q6, q7, rfl, q8, q9, q10⟩
theorem wd_S {D : va_G} {cy : cyT} {z k : Nat} {s : State} {h : hS} {H : Heap} {locs : List Loc} (w : wd D cy z s k h H locs) : va_S (fun q => z ≤ q) s.heap H locs := by
  obtain ⟨L, q1, q2, q3, q4, q5, q6, q7, q8, q9⟩ := w
  exact q4
theorem wd_x {D : va_G} {cy : cyT} {z k : Nat} {s : State} {h : hS} {H : Heap} {locs : List Loc} (w : wd D cy z s k h H locs) : H.size = h_x h ∧ H.size = s.heap.size + k := by
  obtain ⟨L, q1, q2, q3, q4, q5, q6, q7, q8, q9⟩ := w
  exact ⟨q7, q8⟩
theorem wd_X {D : va_G} {cy : cyT} {z k : Nat} {s : State} {h : hS} {H : Heap} {locs : List Loc} (w : wd D cy z s k h H locs) : wX cy z s s.heap ∧ (h_k h 0 = 0 ∨ roK (h_k h 0)) ∧ h_r h 0 = cy.2 := by
  obtain ⟨L, q1, q2, q3, q4, q5, q6, q7, q8, q9, q10⟩ := w
  exact q10
theorem wd_K {D : va_G} {cy : cyT} {z k : Nat} {s : State} {h : hS} {H : Heap} {locs : List Loc} (w : wd D cy z s k h H locs) : va_K D cls (tys cy.1) s := by
  obtain ⟨L, q1, q2, q3, q4, q5, q6⟩ := w
  exact q5
theorem wd_back {D : va_G} {cy : cyT} {z k k1 : Nat} {s t : State} {h g : hS} {H H1 : Heap} {locs locs1 : List Loc} (w : wd D cy z s k h H locs) (u : wU D cy z g t) (ht : t.heap = H1) (hvm : s.vm.Alike t.vm) (hS : va_S (fun q => z ≤ q) s.heap H1 locs1) (hk : H1.size = s.heap.size + k1) : wd D cy z s k1 g H1 locs1 := by
  obtain ⟨L, q1, q2, q3, q4, q5, q6, q7, q8, q9, q10, q11⟩ := w
  obtain ⟨L', u1, u2, u3, u4, u5, u6, u7, u8, u9⟩ := u
  exact ⟨L', u1, by rw [← ht]; exact u2, u3, hS, q5, q6, by rw [← ht]; exact u6, hk, fun a ha => ⟨(u7 a ha).1, ((u7 a ha).2.moved hvm.symm).kept (fun b h1 h2 => by rw [ht]; exact (hS.2.1 b (by have := q6.2; omega) h2).symm)⟩, q10, u9⟩
/-- the same cells, of the same kinds and lengths -/
def sm (g h : hS) : Prop := h_k g = h_k h ∧ h_n g = h_n h ∧ h_x g = h_x h ∧ h_s g = h_s h
theorem sm_rf (h : hS) : sm h h := ⟨rfl, rfl, rfl, rfl⟩
theorem sm.trans {f g h : hS} (a : sm f g) (b : sm g h) : sm f h := ⟨a.1.trans b.1, a.2.1.trans b.2.1, a.2.2.1.trans b.2.2.1, a.2.2.2.trans b.2.2.2⟩
/-- no cell goes, none that is there changes its kind or length -/
def gr (g h : hS) : Prop := h_x h ≤ h_x g ∧ h_s h ≤ h_s g ∧ ∀ a, a < h_x h → h_k g a = h_k h a ∧ h_n g a = h_n h a
theorem gr_rf (h : hS) : gr h h := ⟨Nat.le_refl _, Nat.le_refl _, fun _ _ => ⟨rfl, rfl⟩⟩
theorem gr.trans {f g h : hS} (a : gr f g) (b : gr g h) : gr f h := ⟨Nat.le_trans b.1 a.1, Nat.le_trans b.2.1 a.2.1, fun q hq => ⟨(a.2.2 q (Nat.lt_of_lt_of_le hq b.1)).1.trans (b.2.2 q hq).1, (a.2.2 q (Nat.lt_of_lt_of_le hq b.1)).2.trans (b.2.2 q hq).2⟩⟩
theorem sm.gr {g h : hS} (a : sm g h) : gr g h := ⟨Nat.le_of_eq a.2.2.1.symm, Nat.le_of_eq a.2.2.2.symm, fun q _ => ⟨by rw [a.1], by rw [a.2.1]⟩⟩
theorem sm_i (h : hS) (a k : Nat) (v : Int32) : sm (s_i h a k v) h := ⟨rfl, rfl, rfl, rfl⟩
theorem sm_j (h : hS) (a k : Nat) (v : Int64) : sm (s_j h a k v) h := ⟨rfl, rfl, rfl, rfl⟩
theorem sm_r (h : hS) (a k : Nat) (v : Option Nat) : sm (s_r h a k v) h := ⟨rfl, rfl, rfl, rfl⟩
theorem gr_nw (h : hS) (kd n ms : Nat) : gr (nw h kd n ms) h := ⟨Nat.le_succ _, Nat.le_add_right _ _, fun a ha => ⟨by show va_up h.1 (h_x h) kd a = _; rw [va_up, if_neg (Nat.ne_of_lt ha)]; rfl, by show va_up h.2.1 (h_x h) n a = _; rw [va_up, if_neg (Nat.ne_of_lt ha)]; rfl⟩⟩
/-! the words of the pure programs -/
def cl {α β : Type} (o : Option (α × hS)) (k : α → hS → Option β) : Option β := match o with
  | none => none
  | some q => k q.1 q.2
def nn {β : Type} (r : Option Nat) (k : Nat → Option β) : Option β := match r with
  | none => none
  | some a => k a
def gI {β : Type} (h : hS) (r : Option Nat) (ci k : Nat) (f : Int32 → Option β) : Option β := nn r fun a => if h_k h a = ci + 1 then f (h_i h a k) else none
def gJ {β : Type} (h : hS) (r : Option Nat) (ci k : Nat) (f : Int64 → Option β) : Option β := nn r fun a => if h_k h a = ci + 1 then f (h_j h a k) else none
def gR {β : Type} (h : hS) (r : Option Nat) (ci k : Nat) (f : Option Nat → Option β) : Option β := nn r fun a => if h_k h a = ci + 1 then f (h_r h a k) else none
def pI {β : Type} (h : hS) (r : Option Nat) (ci k : Nat) (v : Int32) (f : hS → Option β) : Option β := nn r fun a => if h_k h a = ci + 1 then f (s_i h a k v) else none
def pZ {β : Type} (h : hS) (r : Option Nat) (ci k : Nat) (v : Int32) (f : hS → Option β) : Option β := nn r fun a => if h_k h a = ci + 1 ∧ (v = 0 ∨ v = 1) then f (s_i h a k v) else none
def pJ {β : Type} (h : hS) (r : Option Nat) (ci k : Nat) (v : Int64) (f : hS → Option β) : Option β := nn r fun a => if h_k h a = ci + 1 then f (s_j h a k v) else none
def pR {β : Type} (h : hS) (r : Option Nat) (ci k : Nat) (v : Option Nat) (f : hS → Option β) : Option β := nn r fun a => if h_k h a = ci + 1 then f (s_r h a k v) else none
abbrev inb (i : Int32) (n : Nat) : Prop := ¬ (i < 0 ∨ n ≤ i.toNatClampNeg)
def aI {β : Type} (h : hS) (kd : Nat) (r : Option Nat) (i : Int32) (f : Int32 → Option β) : Option β := nn r fun a => if h_k h a = kd ∧ inb i (h_n h a) then f (h_i h a i.toNatClampNeg) else none
def aJ {β : Type} (h : hS) (r : Option Nat) (i : Int32) (f : Int64 → Option β) : Option β := nn r fun a => if h_k h a = 51 ∧ inb i (h_n h a) then f (h_j h a i.toNatClampNeg) else none
def aR {β : Type} (h : hS) (kd : Nat) (r : Option Nat) (i : Int32) (f : Option Nat → Option β) : Option β := nn r fun a => if h_k h a = kd ∧ inb i (h_n h a) then f (h_r h a i.toNatClampNeg) else none
def uI {β : Type} (h : hS) (r : Option Nat) (i v : Int32) (f : hS → Option β) : Option β := nn r fun a => if h_k h a = 50 ∧ inb i (h_n h a) then f (s_i h a i.toNatClampNeg v) else none
def uZ {β : Type} (h : hS) (r : Option Nat) (i v : Int32) (f : hS → Option β) : Option β := nn r fun a => if h_k h a = 53 ∧ inb i (h_n h a) then f (s_i h a i.toNatClampNeg (vp_nar .boolean v)) else none
def uB {β : Type} (h : hS) (r : Option Nat) (i v : Int32) (f : hS → Option β) : Option β := nn r fun a => if h_k h a = 52 ∧ inb i (h_n h a) then f (s_i h a i.toNatClampNeg (vp_nar .byte v)) else none
def uJ {β : Type} (h : hS) (r : Option Nat) (i : Int32) (v : Int64) (f : hS → Option β) : Option β := nn r fun a => if h_k h a = 51 ∧ inb i (h_n h a) then f (s_j h a i.toNatClampNeg v) else none
def lnA {β : Type} (h : hS) (kd : Nat) (r : Option Nat) (f : Int32 → Option β) : Option β := nn r fun a => if h_k h a = kd then f (Int32.ofNat (h_n h a)) else none
def dv {β : Type} (y : Int32) (f : Option β) : Option β := if y = 0 then none else f
def bz {β : Type} (v : Int32) (f : Option β) : Option β := if v = 0 ∨ v = 1 then f else none
def cv {α β : Type} (h : hS) (r : Option Nat) (ci : Nat) (f : Nat → Option (α × hS)) (k : α → hS → Option β) : Option β := nn r fun a => if h_k h a = ci + 1 then cl (f a) k else none
def nwA {β : Type} (h : hS) (kd : Nat) (n : Int32) (f : Nat → hS → Option β) : Option β := if ¬ n < 0 ∧ n.toNatClampNeg ≤ 10000000 then f (h_x h) (nw h kd n.toNatClampNeg n.toNatClampNeg) else none
def nwO {β : Type} (h : hS) (ci ms : Nat) (f : Nat → hS → Option β) : Option β := f (h_x h) (nw h (ci + 1) 0 ms)
def uA {β : Type} (h : hS) (r : Option Nat) (i : Int32) (v : Option Nat) (f : hS → Option β) : Option β := nn r fun a => nn v fun b => if h_k h a = 60 ∧ inb i (h_n h a) ∧ h_k h b = 50 then f (s_r h a i.toNatClampNeg (some b)) else none
def uR {β : Type} (h : hS) (kd ci : Nat) (r : Option Nat) (i : Int32) (v : Option Nat) (f : hS → Option β) : Option β := nn r fun a => if h_k h a = kd ∧ inb i (h_n h a) ∧ (∀ b, v = some b → h_k h b = ci + 1) then f (s_r h a i.toNatClampNeg v) else none
def bn {α β : Type} (v : α) (k : α → Option β) : Option β := k v
/-! the shape of the heap behind a pure program -/
def Sh {α : Type} (h : hS) (x : Option (α × hS)) : Prop := ∀ r g, x = some (r, g) → sm g h
def Mo {α : Type} (h : hS) (x : Option (α × hS)) : Prop := ∀ r g, x = some (r, g) → gr g h
theorem Sh.mo {α : Type} {h : hS} {x : Option (α × hS)} (k : Sh h x) : Mo h x := fun r g e => (k r g e).gr
section
variable {α γ : Type} {h : hS}
theorem Sh_some {v : α} : Sh h (some (v, h)) := fun r g e => by cases e; exact sm_rf _
theorem Sh_none : Sh h (none : Option (α × hS)) := fun r g e => by cases e
theorem Sh_ite {P : Prop} [Decidable P] {A B : Option (α × hS)} (a : Sh h A) (b : Sh h B) : Sh h (if P then A else B) := by
  by_cases q : P
  · rw [if_pos q]; exact a
  · rw [if_neg q]; exact b
theorem Sh_nn {r : Option Nat} {f : Nat → Option (α × hS)} (k : ∀ a, Sh h (f a)) : Sh h (nn r f) := by
  cases r with
  | none => exact Sh_none
  | some a => exact k a
theorem Sh_bn {v : γ} {f : γ → Option (α × hS)} (k : ∀ x, Sh h (f x)) : Sh h (bn v f) := k v
theorem Sh_dv {y : Int32} {A : Option (α × hS)} (a : Sh h A) : Sh h (dv y A) := Sh_ite Sh_none a
theorem Sh_bz {y : Int32} {A : Option (α × hS)} (a : Sh h A) : Sh h (bz y A) := Sh_ite a Sh_none
theorem Sh_gI {r : Option Nat} {ci k : Nat} {f : Int32 → Option (α × hS)} (q : ∀ v, Sh h (f v)) : Sh h (gI h r ci k f) := Sh_nn fun _ => Sh_ite (q _) Sh_none
theorem Sh_gJ {r : Option Nat} {ci k : Nat} {f : Int64 → Option (α × hS)} (q : ∀ v, Sh h (f v)) : Sh h (gJ h r ci k f) := Sh_nn fun _ => Sh_ite (q _) Sh_none
theorem Sh_gR {r : Option Nat} {ci k : Nat} {f : Option Nat → Option (α × hS)} (q : ∀ v, Sh h (f v)) : Sh h (gR h r ci k f) := Sh_nn fun _ => Sh_ite (q _) Sh_none
theorem Sh_aI {kd : Nat} {r : Option Nat} {i : Int32} {f : Int32 → Option (α × hS)} (q : ∀ v, Sh h (f v)) : Sh h (aI h kd r i f) := Sh_nn fun _ => Sh_ite (q _) Sh_none
theorem Sh_aJ {kd : Nat} {r : Option Nat} {i : Int32} {f : Int64 → Option (α × hS)} (q : ∀ v, Sh h (f v)) : Sh h (aJ h  r i f) := Sh_nn fun _ => Sh_ite (q _) Sh_none
theorem Sh_aR {kd : Nat} {r : Option Nat} {i : Int32} {f : Option Nat → Option (α × hS)} (q : ∀ v, Sh h (f v)) : Sh h (aR h kd r i f) := Sh_nn fun _ => Sh_ite (q _) Sh_none
theorem Sh_lnA {kd : Nat} {r : Option Nat} {f : Int32 → Option (α × hS)} (q : ∀ v, Sh h (f v)) : Sh h (lnA h kd r f) := Sh_nn fun _ => Sh_ite (q _) Sh_none
theorem Sh_pI {r : Option Nat} {ci k : Nat} {v : Int32} {f : hS → Option (α × hS)} (q : ∀ g, Sh g (f g)) : Sh h (pI h r ci k v f) := Sh_nn fun a => Sh_ite (fun r g e => (q _ r g e).trans (sm_i _ _ _ _)) Sh_none
theorem Sh_pZ {r : Option Nat} {ci k : Nat} {v : Int32} {f : hS → Option (α × hS)} (q : ∀ g, Sh g (f g)) : Sh h (pZ h r ci k v f) := Sh_nn fun a => Sh_ite (fun r g e => (q _ r g e).trans (sm_i _ _ _ _)) Sh_none
theorem Sh_pJ {r : Option Nat} {ci k : Nat} {v : Int64} {f : hS → Option (α × hS)} (q : ∀ g, Sh g (f g)) : Sh h (pJ h r ci k v f) := Sh_nn fun a => Sh_ite (fun r g e => (q _ r g e).trans (sm_j _ _ _ _)) Sh_none
theorem Sh_pR {r : Option Nat} {ci k : Nat} {v : Option Nat} {f : hS → Option (α × hS)} (q : ∀ g, Sh g (f g)) : Sh h (pR h r ci k v f) := Sh_nn fun a => Sh_ite (fun r g e => (q _ r g e).trans (sm_r _ _ _ _)) Sh_none
theorem Sh_uI {r : Option Nat} {i v : Int32} {f : hS → Option (α × hS)} (q : ∀ g, Sh g (f g)) : Sh h (uI h r i v f) := Sh_nn fun a => Sh_ite (fun r g e => (q _ r g e).trans (sm_i _ _ _ _)) Sh_none
theorem Sh_uZ {r : Option Nat} {i v : Int32} {f : hS → Option (α × hS)} (q : ∀ g, Sh g (f g)) : Sh h (uZ h r i v f) := Sh_nn fun a => Sh_ite (fun r g e => (q _ r g e).trans (sm_i _ _ _ _)) Sh_none
theorem Sh_uB {r : Option Nat} {i v : Int32} {f : hS → Option (α × hS)} (q : ∀ g, Sh g (f g)) : Sh h (uB h r i v f) := Sh_nn fun a => Sh_ite (fun r g e => (q _ r g e).trans (sm_i _ _ _ _)) Sh_none
theorem Sh_uJ {r : Option Nat} {i : Int32} {v : Int64} {f : hS → Option (α × hS)} (q : ∀ g, Sh g (f g)) : Sh h (uJ h r i v f) := Sh_nn fun a => Sh_ite (fun r g e => (q _ r g e).trans (sm_j _ _ _ _)) Sh_none
theorem Sh_uA {r : Option Nat} {i : Int32} {v : Option Nat} {f : hS → Option (α × hS)} (q : ∀ g, Sh g (f g)) : Sh h (uA h r i v f) := Sh_nn fun a => Sh_nn fun b => Sh_ite (fun r g e => (q _ r g e).trans (sm_r _ _ _ _)) Sh_none
theorem Sh_cl {o : Option (γ × hS)} {k : γ → hS → Option (α × hS)} (a : Sh h o) (b : ∀ r g, Sh g (k r g)) : Sh h (cl o k) := by
  intro r g e
  cases o with
  | none => cases e
  | some q => exact (b q.1 q.2 r g e).trans (a q.1 q.2 rfl)
theorem Sh_cv {o : Option Nat} {ci : Nat} {f : Nat → Option (γ × hS)} {k : γ → hS → Option (α × hS)} (a : ∀ q, Sh h (f q)) (b : ∀ r g, Sh g (k r g)) : Sh h (cv h o ci f k) := Sh_nn fun _ => Sh_ite (Sh_cl (a _) b) Sh_none
end
section
variable {α γ : Type} {h : hS}
theorem Mo_some {v : α} : Mo h (some (v, h)) := fun r g e => by cases e; exact gr_rf _
theorem Mo_none : Mo h (none : Option (α × hS)) := fun r g e => by cases e
theorem Mo_ite {P : Prop} [Decidable P] {A B : Option (α × hS)} (a : Mo h A) (b : Mo h B) : Mo h (if P then A else B) := by
  by_cases q : P
  · rw [if_pos q]; exact a
  · rw [if_neg q]; exact b
theorem Mo_nn {r : Option Nat} {f : Nat → Option (α × hS)} (k : ∀ a, Mo h (f a)) : Mo h (nn r f) := by
  cases r with
  | none => exact Mo_none
  | some a => exact k a
theorem Mo_bn {v : γ} {f : γ → Option (α × hS)} (k : ∀ x, Mo h (f x)) : Mo h (bn v f) := k v
theorem Mo_dv {y : Int32} {A : Option (α × hS)} (a : Mo h A) : Mo h (dv y A) := Mo_ite Mo_none a
theorem Mo_bz {y : Int32} {A : Option (α × hS)} (a : Mo h A) : Mo h (bz y A) := Mo_ite a Mo_none
theorem Mo_gI {r : Option Nat} {ci k : Nat} {f : Int32 → Option (α × hS)} (q : ∀ v, Mo h (f v)) : Mo h (gI h r ci k f) := Mo_nn fun _ => Mo_ite (q _) Mo_none
theorem Mo_gJ {r : Option Nat} {ci k : Nat} {f : Int64 → Option (α × hS)} (q : ∀ v, Mo h (f v)) : Mo h (gJ h r ci k f) := Mo_nn fun _ => Mo_ite (q _) Mo_none
theorem Mo_gR {r : Option Nat} {ci k : Nat} {f : Option Nat → Option (α × hS)} (q : ∀ v, Mo h (f v)) : Mo h (gR h r ci k f) := Mo_nn fun _ => Mo_ite (q _) Mo_none
theorem Mo_aI {kd : Nat} {r : Option Nat} {i : Int32} {f : Int32 → Option (α × hS)} (q : ∀ v, Mo h (f v)) : Mo h (aI h kd r i f) := Mo_nn fun _ => Mo_ite (q _) Mo_none
theorem Mo_aJ {kd : Nat} {r : Option Nat} {i : Int32} {f : Int64 → Option (α × hS)} (q : ∀ v, Mo h (f v)) : Mo h (aJ h  r i f) := Mo_nn fun _ => Mo_ite (q _) Mo_none
theorem Mo_aR {kd : Nat} {r : Option Nat} {i : Int32} {f : Option Nat → Option (α × hS)} (q : ∀ v, Mo h (f v)) : Mo h (aR h kd r i f) := Mo_nn fun _ => Mo_ite (q _) Mo_none
theorem Mo_lnA {kd : Nat} {r : Option Nat} {f : Int32 → Option (α × hS)} (q : ∀ v, Mo h (f v)) : Mo h (lnA h kd r f) := Mo_nn fun _ => Mo_ite (q _) Mo_none
theorem Mo_pI {r : Option Nat} {ci k : Nat} {v : Int32} {f : hS → Option (α × hS)} (q : ∀ g, Mo g (f g)) : Mo h (pI h r ci k v f) := Mo_nn fun a => Mo_ite (fun r g e => (q _ r g e).trans ((sm_i _ _ _ _)).gr) Mo_none
theorem Mo_pZ {r : Option Nat} {ci k : Nat} {v : Int32} {f : hS → Option (α × hS)} (q : ∀ g, Mo g (f g)) : Mo h (pZ h r ci k v f) := Mo_nn fun a => Mo_ite (fun r g e => (q _ r g e).trans ((sm_i _ _ _ _)).gr) Mo_none
theorem Mo_pJ {r : Option Nat} {ci k : Nat} {v : Int64} {f : hS → Option (α × hS)} (q : ∀ g, Mo g (f g)) : Mo h (pJ h r ci k v f) := Mo_nn fun a => Mo_ite (fun r g e => (q _ r g e).trans ((sm_j _ _ _ _)).gr) Mo_none
theorem Mo_pR {r : Option Nat} {ci k : Nat} {v : Option Nat} {f : hS → Option (α × hS)} (q : ∀ g, Mo g (f g)) : Mo h (pR h r ci k v f) := Mo_nn fun a => Mo_ite (fun r g e => (q _ r g e).trans ((sm_r _ _ _ _)).gr) Mo_none
theorem Mo_uI {r : Option Nat} {i v : Int32} {f : hS → Option (α × hS)} (q : ∀ g, Mo g (f g)) : Mo h (uI h r i v f) := Mo_nn fun a => Mo_ite (fun r g e => (q _ r g e).trans ((sm_i _ _ _ _)).gr) Mo_none
theorem Mo_uZ {r : Option Nat} {i v : Int32} {f : hS → Option (α × hS)} (q : ∀ g, Mo g (f g)) : Mo h (uZ h r i v f) := Mo_nn fun a => Mo_ite (fun r g e => (q _ r g e).trans ((sm_i _ _ _ _)).gr) Mo_none
theorem Mo_uB {r : Option Nat} {i v : Int32} {f : hS → Option (α × hS)} (q : ∀ g, Mo g (f g)) : Mo h (uB h r i v f) := Mo_nn fun a => Mo_ite (fun r g e => (q _ r g e).trans ((sm_i _ _ _ _)).gr) Mo_none
theorem Mo_uJ {r : Option Nat} {i : Int32} {v : Int64} {f : hS → Option (α × hS)} (q : ∀ g, Mo g (f g)) : Mo h (uJ h r i v f) := Mo_nn fun a => Mo_ite (fun r g e => (q _ r g e).trans ((sm_j _ _ _ _)).gr) Mo_none
theorem Mo_uA {r : Option Nat} {i : Int32} {v : Option Nat} {f : hS → Option (α × hS)} (q : ∀ g, Mo g (f g)) : Mo h (uA h r i v f) := Mo_nn fun a => Mo_nn fun b => Mo_ite (fun r g e => (q _ r g e).trans (sm_r _ _ _ _).gr) Mo_none
theorem Mo_cl {o : Option (γ × hS)} {k : γ → hS → Option (α × hS)} (a : Mo h o) (b : ∀ r g, Mo g (k r g)) : Mo h (cl o k) := by
  intro r g e
  cases o with
  | none => cases e
  | some q => exact (b q.1 q.2 r g e).trans (a q.1 q.2 rfl)
theorem Mo_cv {o : Option Nat} {ci : Nat} {f : Nat → Option (γ × hS)} {k : γ → hS → Option (α × hS)} (a : ∀ q, Mo h (f q)) (b : ∀ r g, Mo g (k r g)) : Mo h (cv h o ci f k) := Mo_nn fun _ => Mo_ite (Mo_cl (a _) b) Mo_none
theorem Mo_nwA {kd : Nat} {n : Int32} {f : Nat → hS → Option (α × hS)} (q : ∀ a g, Mo g (f a g)) : Mo h (nwA h kd n f) := Mo_ite (fun r g e => (q _ _ r g e).trans (gr_nw _ _ _ _)) Mo_none
theorem Mo_nwO {ci ms : Nat} {f : Nat → hS → Option (α × hS)} (q : ∀ a g, Mo g (f a g)) : Mo h (nwO h ci ms f) := fun r g e => (q _ _ r g e).trans (gr_nw _ _ _ _)
end
