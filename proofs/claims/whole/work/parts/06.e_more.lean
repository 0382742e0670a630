/-! bytes, of a pool's row or of a constant; answers of narrow types; statics; rows of Strings -/
def aB {β : Type} (h : hS) (r : Option Nat) (i : Int32) (f : Int32 → Option β) : Option β := nn r fun a => if (h_k h a = 52 ∨ h_k h a = 55) ∧ inb i (h_n h a) then f (h_i h a i.toNatClampNeg) else none
def lnB {β : Type} (h : hS) (r : Option Nat) (f : Int32 → Option β) : Option β := nn r fun a => if h_k h a = 52 ∨ h_k h a = 55 then f (Int32.ofNat (h_n h a)) else none
def zr {β : Type} (ty : FieldType) (v : Int32) (f : Option β) : Option β := if vp_nar ty v = v then f else none
section
variable {α : Type} {h : hS}
theorem Sh_aB {r : Option Nat} {i : Int32} {f : Int32 → Option (α × hS)} (q : ∀ v, Sh h (f v)) : Sh h (aB h r i f) := Sh_nn fun _ => Sh_ite (q _) Sh_none
theorem Mo_aB {r : Option Nat} {i : Int32} {f : Int32 → Option (α × hS)} (q : ∀ v, Mo h (f v)) : Mo h (aB h r i f) := Mo_nn fun _ => Mo_ite (q _) Mo_none
theorem Sh_lnB {r : Option Nat} {f : Int32 → Option (α × hS)} (q : ∀ v, Sh h (f v)) : Sh h (lnB h r f) := Sh_nn fun _ => Sh_ite (q _) Sh_none
theorem Mo_lnB {r : Option Nat} {f : Int32 → Option (α × hS)} (q : ∀ v, Mo h (f v)) : Mo h (lnB h r f) := Mo_nn fun _ => Mo_ite (q _) Mo_none
theorem Sh_zr {ty : FieldType} {y : Int32} {A : Option (α × hS)} (a : Sh h A) : Sh h (zr ty y A) := Sh_ite a Sh_none
theorem Mo_zr {ty : FieldType} {y : Int32} {A : Option (α × hS)} (a : Mo h A) : Mo h (zr ty y A) := Mo_ite a Mo_none
end
section WM
variable {p : Program} {l : Launch} {e : Env} {R : Room} {s : State} {m : MethodId} {args : Array Value} {below : List Frame} {meth : Method} {c : Code} {H : Heap} {locs : List Loc} {cells slots : Nat} {Q : State → Prop} {cc : ByteArray} {nL : Nat} {ret : Option FieldType} {own : String} {Ts : List Cond} {pc : Nat} {ls : Array Slot} {rest : List Value} {D : va_G} {cy : cyT} {z : Nat} {h : hS} {β : Type} {res : β}
theorem w_aBB {r : Option Nat} {i : Int32} {f : Int32 → Option β} (C : MX p s m args meth c cc nL ret own Ts) (w : wd D cy z s cells h H locs) (hdg : decode cc pc = .ok (.baload, 1)) (hE : aB h r i f = some res)
    (kk : ∀ v, f v = some res → W p l e R s m args below meth c H locs cells slots Q (F0 m (pc + 1) ls (.int v :: rest))) : W p l e R s m args below meth c H locs cells slots Q (F0 m pc ls (.int i :: va_rf r :: rest)) := by
  obtain ⟨a, hr, hE1⟩ := nn_some hE
  obtain ⟨⟨hka, hi⟩, hE2⟩ := if_some hE1
  subst hr
  rcases hka with hka | hka
  · obtain ⟨q2, q5⟩ := wd_rd w (a := a) (by omega)
    exact va_bald (D := D) C.1 C.2.1 q5 q2 0 2 (by rw [cf_ints hka (by omega) (by omega) (by omega)]; rfl) rfl hi hdg (kk _ hE2)
  · exact va_tb C.1 C.2.1 (wd_bytes w hka) (wd_S w) hi rfl hdg (kk _ hE2)
theorem w_lenBB {r : Option Nat} {f : Int32 → Option β} (C : MX p s m args meth c cc nL ret own Ts) (w : wd D cy z s cells h H locs) (hdg : decode cc pc = .ok (.arraylength, 1)) (hE : lnB h r f = some res)
    (kk : ∀ v, f v = some res → W p l e R s m args below meth c H locs cells slots Q (F0 m (pc + 1) ls (.int v :: rest))) : W p l e R s m args below meth c H locs cells slots Q (F0 m pc ls (va_rf r :: rest)) := by
  obtain ⟨a, hr, hE1⟩ := nn_some hE
  obtain ⟨hka, hE2⟩ := if_some hE1
  subst hr
  rcases hka with hka | hka
  · obtain ⟨q2, q5⟩ := wd_rd w (a := a) (by omega)
    exact va_alen (D := D) C.1 C.2.1 q5 q2 0 2 (ty := .byte) (by rw [cf_ints hka (by omega) (by omega) (by omega)]; rfl) rfl rfl hdg (kk _ hE2)
  · exact va_tlen C.1 C.2.1 (wd_bytes w hka) (wd_S w) rfl hdg (kk _ hE2)
/-- a String's coder, a String's bytes -/
theorem w_gSI {r : Option Nat} {index : Nat} {f : Int32 → Option β} (C : MX p s m args meth c cc nL ret own Ts) (w : wd D cy z s cells h H locs) (hlink : Cond.fieldLink own index "java/lang/String" "coder" "B" ∈ Ts) (hdg : decode cc pc = .ok (.getfield index, 3)) (hE : gI h r 56 1 f = some res)
    (kk : ∀ v, f v = some res → W p l e R s m args below meth c H locs cells slots Q (F0 m (pc + 3) ls (.int v :: rest))) : W p l e R s m args below meth c H locs cells slots Q (F0 m pc ls (va_rf r :: rest)) := by
  obtain ⟨a, hr, hE1⟩ := nn_some hE
  obtain ⟨hka, hE2⟩ := if_some hE1
  subst hr
  exact vk_getf C.1 C.2.1 (wd_string w hka).2.1 (wd_S w) C.2.2.2.2.1 (C.2.2.2.2.2.1 _ hlink) (fun x h9 => h9) hdg (kk _ hE2)
theorem w_gSR {r : Option Nat} {index : Nat} {f : Option Nat → Option β} (C : MX p s m args meth c cc nL ret own Ts) (w : wd D cy z s cells h H locs) (hlink : Cond.fieldLink own index "java/lang/String" "value" "[B" ∈ Ts) (hdg : decode cc pc = .ok (.getfield index, 3)) (hE : gR h r 56 0 f = some res)
    (kk : ∀ v, f v = some res → W p l e R s m args below meth c H locs cells slots Q (F0 m (pc + 3) ls (va_rf v :: rest))) : W p l e R s m args below meth c H locs cells slots Q (F0 m pc ls (va_rf r :: rest)) := by
  obtain ⟨a, hr, hE1⟩ := nn_some hE
  obtain ⟨hka, hE2⟩ := if_some hE1
  subst hr
  exact vk_getf C.1 C.2.1 (wd_string w hka).2.2 (wd_S w) C.2.2.2.2.1 (C.2.2.2.2.2.1 _ hlink) (fun x h9 => h9) hdg (kk _ hE2)
theorem w_VSI {G : List Cond} {w0 : Cond} (hG : G.all goodWord = true) {y : MethodName} {bytes : ByteArray} {maxL n index F Lc : Nat} {rt : Option FieldType} {o : Option Nat} {av st0 : List Value} {f : Nat → Option (Int32 × hS)} {K : Int32 → hS → Option β} (C : MX p s m args meth c cc nL ret own (w0 :: G)) (w : wd D cy z s cells h H locs) (hM : ∀ a r g, f a = some (r, g) → ct l y (Cond.code y bytes maxL rt :: G) { frames := F, cells := 0, slots := 0, locals := Lc } D cy z h (.ref a :: av) (rI r) g)
    (g1 : Cond.methodLink own index y ∈ G) (g2 : Cond.instanceMethod y ∈ G) (g5 : Cond.selects "java/lang/String" y y ∈ G) (g3 : Cond.initialized "java/lang/String" ∈ G) (g4 : Cond.code y bytes maxL rt ∈ G) (hd : y.cls = "java/lang/String" ∧ y.cls ≠ "java/lang/invoke/MethodHandle" ∧ y.cls ≠ "java/lang/invoke/VarHandle" ∧ (parseMethodDescriptor y.desc).map (fun d => d.parameters.length) = some n) (hR : F + 1 ≤ R.frames ∧ 8 + (maxL + 11) + Lc ≤ R.locals)
    (hn : av.length = n) (hsz : ls.size = nL) (hst : st0 = av.reverse ++ va_rf o :: rest) (hW : (rest.map fun v => v.category).sum ≤ 8) (hdg : decode cc pc = .ok (.invokevirtual index, 3)) (hsm : ∀ a r g, f a = some (r, g) → sm g h) (hf : cells ≤ R.cells ∧ slots ≤ R.slots) (hE : cv h o 56 f K = some res)
    (kk : ∀ (r : Int32) (g : hS) (H1 : Heap) (locs1 : List Loc), wd D cy z s cells g H1 locs1 → sm g h → K r g = some res → W p l e R s m args below meth c H1 locs1 cells slots Q (F0 m (pc + 3) ls (.int r :: rest))) : W p l e R s m args below meth c H locs cells slots Q (F0 m pc ls st0) := by
  obtain ⟨a, ho, hE0⟩ := nn_some hE
  obtain ⟨hka, hE2⟩ := if_some hE0
  obtain ⟨r, g, hf1, hE1⟩ := cl_some hE2
  subst ho
  have cw := cwV (C := "java/lang/String") (R := R) (rm := { frames := F, cells := 0, slots := 0, locals := Lc }) (mc := 0) (ms := 0) n C.2.2.2.2.2.1 (goodIn_G (w0 := w0) hG (ws := wsV own index "java/lang/String" y (Cond.code y bytes maxL rt :: G)) (fun w hw => by
    simp only [wsV, List.mem_append, List.mem_cons, List.not_mem_nil, or_false] at hw
    rcases hw with (h | h | h | h) | h | h
    · rw [h]; exact g1
    · rw [h]; exact g2
    · rw [h]; exact g5
    · rw [h]; exact g3
    · rw [h]; exact g4
    · exact h)) rfl rfl rfl hd hR
  obtain ⟨cell9, h91, h92, h93, -⟩ := (wd_string w hka).1.kept (wd_S w).2.1
  exact w_callg w (va_runV (As := av) (rest := rest) ⟨C.1, C.2.1, C.2.2.2.1, C.2.2.2.2.1, C.2.2.2.2.2.1⟩ (hM a r g hf1) cw ⟨wU_blind, ⟨cell9, h91, h92, h93⟩, fun U hU hW => ⟨rfl, wd_U w hU hW⟩⟩ rfl hn hsz hst (lv_room hW) hdg hf) (Or.inl rfl) (fun H1 locs1 w1 => kk r g H1 locs1 w1 (hsm a r g hf1) hE1)
theorem w_tret {ty : FieldType} {v r : Int32} {g : hS} (hty : ty = .byte ∨ ty = .char) (C : MX p s m args meth c cc nL (some ty) own Ts) {k1 : Nat} (w : wd D cy z s k1 h H locs) (hE : zr ty v (some (v, h)) = some (r, g)) (hdg : decode cc pc = .ok (.ireturn, 1)) : W p l e R s m args below meth c H locs cells slots (MQ below (eQ D cy z (rI r) g) args s cells slots (fun q => z ≤ q)) (F0 m pc ls [.int v]) := by
  obtain ⟨hz, hE1⟩ := if_some hE
  cases hE1
  have hn : narrow ty (.int v) = .int v := by
    rcases hty with q | q
    · subst q
      have h1 : narrow .byte (.int v) = .int (vp_nar .byte v) := rfl
      rw [h1, hz]
    · subst q
      have h1 : narrow .char (.int v) = .int (vp_nar .char v) := rfl
      rw [h1, hz]
  exact W.zret C.1 C.2.1 C.2.2.1 hn (fun t ht hW => ⟨rfl, wd_U w ht hW, (wd_S w).F ht⟩) (wd_S w).2.2 hdg C.2.2.2.2.2.2
theorem w_gsI {CN n d ref : String} {v : Int32} {index : Nat} (C : MX p s m args meth c cc nL ret own Ts) (w : wd D cy z s cells h H locs) (hq : (CN, n, d, Sum.inl v) ∈ sts) (hlink : Cond.fieldLink own index ref n d ∈ Ts) (hsame : CN = ref) (hdg : decode cc pc = .ok (.getstatic index, 3))
    (kk : W p l e R s m args below meth c H locs cells slots Q (F0 m (pc + 3) ls (.int v :: rest))) : W p l e R s m args below meth c H locs cells slots Q (F0 m pc ls rest) :=
  va_gets (v := .int v) C.1 C.2.1 ((wd_X w).1.1 _ hq) (wd_S w) C.2.2.2.2.1 (C.2.2.2.2.2.1 _ hlink) (fun x h9 => by rw [← hsame]; exact h9) hdg kk
theorem w_gsR {CN n d ref : String} {k index : Nat} {f : Option Nat → Option β} (C : MX p s m args meth c cc nL ret own Ts) (w : wd D cy z s cells h H locs) (hq : (CN, n, d, Sum.inr k) ∈ sts) (hlink : Cond.fieldLink own index ref n d ∈ Ts) (hsame : CN = ref) (hdg : decode cc pc = .ok (.getstatic index, 3)) (hE : bn (h_r h 0 k) f = some res)
    (kk : ∀ v, f v = some res → W p l e R s m args below meth c H locs cells slots Q (F0 m (pc + 3) ls (va_rf v :: rest))) : W p l e R s m args below meth c H locs cells slots Q (F0 m pc ls rest) := by
  have h1 := kk _ hE
  rw [(wd_X w).2.2] at h1
  exact va_gets (v := va_rf (cy.2 k)) C.1 C.2.1 ((wd_X w).1.1 _ hq) (wd_S w) C.2.2.2.2.1 (C.2.2.2.2.2.1 _ hlink) (fun x h9 => by rw [← hsame]; exact h9) hdg h1
theorem w_aR61 {r : Option Nat} {i : Int32} {f : Option Nat → Option β} (C : MX p s m args meth c cc nL ret own Ts) (w : wd D cy z s cells h H locs) (hdg : decode cc pc = .ok (.aaload, 1)) (hE : aR h 61 r i f = some res)
    (kk : ∀ v, f v = some res → W p l e R s m args below meth c H locs cells slots Q (F0 m (pc + 1) ls (va_rf v :: rest))) : W p l e R s m args below meth c H locs cells slots Q (F0 m pc ls (.int i :: va_rf r :: rest)) := by
  obtain ⟨a, hr, hE1⟩ := nn_some hE
  obtain ⟨⟨hka, hi⟩, hE2⟩ := if_some hE1
  obtain ⟨q2, q5⟩ := wd_rd w (a := a) (by omega)
  subst hr
  exact va_aldq (D := D) C.1 C.2.1 q5 q2 0 5 (by rw [cf_refs hka (by omega)]; rfl) rfl hi hdg (kk _ hE2)
theorem w_lenR61 {r : Option Nat} {f : Int32 → Option β} (C : MX p s m args meth c cc nL ret own Ts) (w : wd D cy z s cells h H locs) (hdg : decode cc pc = .ok (.arraylength, 1)) (hE : lnA h 61 r f = some res)
    (kk : ∀ v, f v = some res → W p l e R s m args below meth c H locs cells slots Q (F0 m (pc + 1) ls (.int v :: rest))) : W p l e R s m args below meth c H locs cells slots Q (F0 m pc ls (va_rf r :: rest)) := by
  obtain ⟨a, hr, hE1⟩ := nn_some hE
  obtain ⟨hka, hE2⟩ := if_some hE1
  obtain ⟨q2, q5⟩ := wd_rd w (a := a) (by omega)
  subst hr
  exact va_alen (D := D) C.1 C.2.1 q5 q2 0 5 (ty := .object "java/lang/String") (by rw [cf_refs hka (by omega)]; rfl) rfl rfl hdg (kk _ hE2)
end WM
