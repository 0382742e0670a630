/-! bytes, of a pool's row or of a constant; answers of narrow types; statics; rows of Strings -/
def aB {β : Type} (h : hS) (r : Option Nat) (i : Int32) (f : Int32 → Option β) : Option β := nn r fun a => if (h_k h a = 52 ∨ h_k h a = 55) ∧ inb i (h_n h a) then f (h_i h a i.toNatClampNeg) else none
def lnB {β : Type} (h : hS) (r : Option Nat) (f : Int32 → Option β) : Option β := nn r fun a => if h_k h a = 52 ∨ h_k h a = 55 then f (Int32.ofNat (h_n h a)) else none
def zr {β : Type} (ty : FieldType) (v : Int32) (f : Option β) : Option β := if vp_nar ty v = v then f else none
section
variable {α : Type} {h : hS}
theorem Sh_aB {r : Option Nat} {i : Int32} {f : Int32 → Option (α × hS)} (q : ∀ v, Sh h (f v)) : Sh h (aB h r i f) := Sh_nn fun _ => Sh_ite (q _) Sh_none
theorem Mo_aB {r : Option Nat} {i : Int32} {f : Int32 → Option (α × hS)} (q : ∀ v, Mo h (f v)) : Mo h (aB h r i f) := Mo_nn fun _ => Mo_ite (q _) Mo_none
theorem Sh_lnB {r : Option Nat} {f : Int32 → Option (α × hS)} (q : ∀ v, Sh h (f v)) : Sh h (lnB h r f) := Sh_nn fun _ => Sh_ite (q _) Sh_none
theorem Mo_lnB {r : Option Nat} {f : Int32 → Option (α × hS)} (q : ∀ v, Mo h (f v)) : Mo h (lnB h r f) := Mo_nn fun _ => Mo_ite (q _) Mo_none
theorem Sh_zr {ty : FieldType} {y : Int32} {A : Option (α × hS)} (a : Sh h A) : Sh h (zr ty y A) := Sh_ite a Sh_none
theorem Mo_zr {ty : FieldType} {y : Int32} {A : Option (α × hS)} (a : Mo h A) : Mo h (zr ty y A) := Mo_ite a Mo_none
end
section WM
variable {p : Program} {l : Launch} {e : Env} {R : Room} {s : State} {m : MethodId} {args : Array Value} {below : List Frame} {meth : Method} {c : Code} {H : Heap} {locs : List Loc} {cells slots : Nat} {Q : State → Prop} {cc : ByteArray} {nL : Nat} {ret : Option FieldType} {own : String} {Ts : List Cond} {pc : Nat} {ls : Array Slot} {rest : List Value} {D : va_G} {cy : cyT} {z : Nat} {h : hS} {β : Type} {res : β}
theorem w_aBB {r : Option Nat} {i : Int32} {f : Int32 → Option β} (C : MX p s m args meth c cc nL ret own Ts) (w : wd D cy z s cells h H locs) (hdg : decode cc pc = .ok (.baload, 1)) (hE : aB h r i f = some res)
    (kk : ∀ v, f v = some res → W p l e R s m args below meth c H locs cells slots Q (F0 m (pc + 1) ls (.int v :: rest))) : W p l e R s m args below meth c H locs cells slots Q (F0 m pc ls (.int i :: va_rf r :: rest)) := by
  obtain ⟨a, hr, hE1⟩ := nn_some hE
  obtain ⟨⟨hka, hi⟩, hE2⟩ := if_some hE1
  obtain ⟨q2, q5⟩ := wd_rd w (a := a) (by omega)
  subst hr
  rcases hka with hka | hka
  · exact va_bald (D := D) C.1 C.2.1 q5 q2 0 2 (by rw [cf_ints hka (by omega) (by omega) (by omega)]; rfl) rfl hi hdg (kk _ hE2)
  · exact va_bald (D := D) C.1 C.2.1 q5 q2 0 6 (by rw [cf_ints hka (by omega) (by omega) (by omega)]; rfl) rfl hi hdg (kk _ hE2)
theorem w_lenBB {r : Option Nat} {f : Int32 → Option β} (C : MX p s m args meth c cc nL ret own Ts) (w : wd D cy z s cells h H locs) (hdg : decode cc pc = .ok (.arraylength, 1)) (hE : lnB h r f = some res)
    (kk : ∀ v, f v = some res → W p l e R s m args below meth c H locs cells slots Q (F0 m (pc + 1) ls (.int v :: rest))) : W p l e R s m args below meth c H locs cells slots Q (F0 m pc ls (va_rf r :: rest)) := by
  obtain ⟨a, hr, hE1⟩ := nn_some hE
  obtain ⟨hka, hE2⟩ := if_some hE1
  obtain ⟨q2, q5⟩ := wd_rd w (a := a) (by omega)
  subst hr
  rcases hka with hka | hka
  · exact va_alen (D := D) C.1 C.2.1 q5 q2 0 2 (ty := .byte) (by rw [cf_ints hka (by omega) (by omega) (by omega)]; rfl) rfl rfl hdg (kk _ hE2)
  · exact va_alen (D := D) C.1 C.2.1 q5 q2 0 6 (ty := .byte) (by rw [cf_ints hka (by omega) (by omega) (by omega)]; rfl) rfl rfl hdg (kk _ hE2)
theorem w_tret {ty : FieldType} {v r : Int32} {g : hS} (hty : ty = .byte ∨ ty = .char) (C : MX p s m args meth c cc nL (some ty) own Ts) {k1 : Nat} (w : wd D cy z s k1 h H locs) (hE : zr ty v (some (v, h)) = some (r, g)) (hdg : decode cc pc = .ok (.ireturn, 1)) : W p l e R s m args below meth c H locs cells slots (MQ below (eQ D cy z (rI r) g) args s cells slots (fun q => z ≤ q)) (F0 m pc ls [.int v]) := by
  obtain ⟨hz, hE1⟩ := if_some hE
  cases hE1
  have hn : narrow ty (.int v) = .int v := by
    rcases hty with q | q
    · subst q
      have h1 : narrow .byte (.int v) = .int (vp_nar .byte v) := rfl
      rw [h1, hz]
    · subst q
      have h1 : narrow .char (.int v) = .int (vp_nar .char v) := rfl
      rw [h1, hz]
  exact W.zret C.1 C.2.1 C.2.2.1 hn (fun t ht hW => ⟨rfl, wd_U w ht hW, (wd_S w).F ht⟩) (wd_S w).2.2 hdg C.2.2.2.2.2.2
theorem w_gsI {CN n d ref : String} {v : Int32} {index : Nat} (C : MX p s m args meth c cc nL ret own Ts) (w : wd D cy z s cells h H locs) (hq : (CN, n, d, Sum.inl v) ∈ sts) (hlink : Cond.fieldLink own index ref n d ∈ Ts) (hsame : CN = ref) (hdg : decode cc pc = .ok (.getstatic index, 3))
    (kk : W p l e R s m args below meth c H locs cells slots Q (F0 m (pc + 3) ls (.int v :: rest))) : W p l e R s m args below meth c H locs cells slots Q (F0 m pc ls rest) :=
  va_gets (v := .int v) C.1 C.2.1 ((wd_X w).1.1 _ hq) (wd_S w) C.2.2.2.2.1 (C.2.2.2.2.2.1 _ hlink) (fun x h9 => by rw [← hsame]; exact h9) hdg kk
theorem w_gsR {CN n d ref : String} {k index : Nat} {f : Option Nat → Option β} (C : MX p s m args meth c cc nL ret own Ts) (w : wd D cy z s cells h H locs) (hq : (CN, n, d, Sum.inr k) ∈ sts) (hlink : Cond.fieldLink own index ref n d ∈ Ts) (hsame : CN = ref) (hdg : decode cc pc = .ok (.getstatic index, 3)) (hE : bn (h_r h 0 k) f = some res)
    (kk : ∀ v, f v = some res → W p l e R s m args below meth c H locs cells slots Q (F0 m (pc + 3) ls (va_rf v :: rest))) : W p l e R s m args below meth c H locs cells slots Q (F0 m pc ls rest) := by
  have h1 := kk _ hE
  rw [(wd_X w).2.2] at h1
  exact va_gets (v := va_rf (cy.2 k)) C.1 C.2.1 ((wd_X w).1.1 _ hq) (wd_S w) C.2.2.2.2.1 (C.2.2.2.2.2.1 _ hlink) (fun x h9 => by rw [← hsame]; exact h9) hdg h1
theorem w_aR61 {r : Option Nat} {i : Int32} {f : Option Nat → Option β} (C : MX p s m args meth c cc nL ret own Ts) (w : wd D cy z s cells h H locs) (hdg : decode cc pc = .ok (.aaload, 1)) (hE : aR h 61 r i f = some res)
    (kk : ∀ v, f v = some res → W p l e R s m args below meth c H locs cells slots Q (F0 m (pc + 1) ls (va_rf v :: rest))) : W p l e R s m args below meth c H locs cells slots Q (F0 m pc ls (.int i :: va_rf r :: rest)) := by
  obtain ⟨a, hr, hE1⟩ := nn_some hE
  obtain ⟨⟨hka, hi⟩, hE2⟩ := if_some hE1
  obtain ⟨q2, q5⟩ := wd_rd w (a := a) (by omega)
  subst hr
  exact va_aldq (D := D) C.1 C.2.1 q5 q2 0 5 (by rw [cf_refs hka (by omega)]; rfl) rfl hi hdg (kk _ hE2)
theorem w_lenR61 {r : Option Nat} {f : Int32 → Option β} (C : MX p s m args meth c cc nL ret own Ts) (w : wd D cy z s cells h H locs) (hdg : decode cc pc = .ok (.arraylength, 1)) (hE : lnA h 61 r f = some res)
    (kk : ∀ v, f v = some res → W p l e R s m args below meth c H locs cells slots Q (F0 m (pc + 1) ls (.int v :: rest))) : W p l e R s m args below meth c H locs cells slots Q (F0 m pc ls (va_rf r :: rest)) := by
  obtain ⟨a, hr, hE1⟩ := nn_some hE
  obtain ⟨hka, hE2⟩ := if_some hE1
  obtain ⟨q2, q5⟩ := wd_rd w (a := a) (by omega)
  subst hr
  exact va_alen (D := D) C.1 C.2.1 q5 q2 0 5 (ty := .object "java/lang/String") (by rw [cf_refs hka (by omega)]; rfl) rfl rfl hdg (kk _ hE2)
end WM
