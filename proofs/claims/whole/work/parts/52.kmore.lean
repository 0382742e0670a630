/-- checkcast to long[] -/
def ckJ {β : Type} (h : hS) (r : Option Nat) (f : Option β) : Option β := nn r fun a => if h_k h a = 51 then f else none
theorem Mo_ckJ {α : Type} {h : hS} {r : Option Nat} {f : Option (α × hS)} (q : Mo h f) : Mo h (ckJ h r f) := Mo_nn fun _ => Mo_ite q Mo_none
theorem w_ckJ {p : Program} {l : Launch} {e : Env} {R : Room} {s : State} {m : MethodId} {args : Array Value} {below : List Frame} {meth : Method} {c : Code} {H : Heap} {locs : List Loc} {cells slots : Nat} {Q : State → Prop} {cc : ByteArray} {nL : Nat} {ret : Option FieldType} {own : String} {Ts : List Cond} {pc : Nat} {ls : Array Slot} {rest : List Value} {D : va_G} {cy : cyT} {z : Nat} {h : hS} {β : Type} {res : β} {r : Option Nat} {index : Nat} {A : Option β} (C : MX p s m args meth c cc nL ret own Ts) (w : wd D cy z s cells h H locs) (hcl : Cond.classLink own index "[J" ∈ Ts) (hdg : decode cc pc = .ok (.checkcast index, 3)) (hE : ckJ h r A = some res)
    (kk : A = some res → W p l e R s m args below meth c H locs cells slots Q (F0 m (pc + 3) ls (va_rf r :: rest))) : W p l e R s m args below meth c H locs cells slots Q (F0 m pc ls (va_rf r :: rest)) := by
  obtain ⟨a, hr, hE1⟩ := nn_some hE
  obtain ⟨hka, hE2⟩ := if_some hE1
  subst hr
  exact w_castJ C w (fun b hb => by cases hb; exact hka) hcl hdg (by simp) (kk hE2)
