/-- checkcast to long[] -/
def ckJ {β : Type} (h : hS) (r : Option Nat) (f : Option β) : Option β := nn r fun a => if h_k h a = 51 then f else none
theorem Mo_ckJ {α : Type} {h : hS} {r : Option Nat} {f : Option (α × hS)} (q : Mo h f) : Mo h (ckJ h r f) := Mo_nn fun _ => Mo_ite q Mo_none
theorem w_ckJ {p : Program} {l : Launch} {e : Env} {R : Room} {s : State} {m : MethodId} {args : Array Value} {below : List Frame} {meth : Method} {c : Code} {H : Heap} {locs : List Loc} {cells slots : Nat} {Q : State → Prop} {cc : ByteArray} {nL : Nat} {ret : Option FieldType} {own : String} {Ts : List Cond} {pc : Nat} {ls : Array Slot} {rest : List Value} {D : va_G} {cy : cyT} {z : Nat} {h : hS} {β : Type} {res : β} {r : Option Nat} {index : Nat} {A : Option β} (C : MX p s m args meth c cc nL ret own Ts) (w : wd D cy z s cells h H locs) (hcl : Cond.classLink own index "[J" ∈ Ts) (hdg : decode cc pc = .ok (.checkcast index, 3)) (hE : ckJ h r A = some res)
    (kk : A = some res → W p l e R s m args below meth c H locs cells slots Q (F0 m (pc + 3) ls (va_rf r :: rest))) : W p l e R s m args below meth c H locs cells slots Q (F0 m pc ls (va_rf r :: rest)) := by
  obtain ⟨a, hr, hE1⟩ := nn_some hE
  obtain ⟨hka, hE2⟩ := if_some hE1
  subst hr
  exact w_castJ C w (fun b hb => by cases hb; exact hka) hcl hdg (by simp) (kk hE2)
theorem w_uB {p : Program} {l : Launch} {e : Env} {R : Room} {s : State} {m : MethodId} {args : Array Value} {below : List Frame} {meth : Method} {c : Code} {H : Heap} {locs : List Loc} {cells slots : Nat} {Q : State → Prop} {cc : ByteArray} {nL : Nat} {ret : Option FieldType} {own : String} {Ts : List Cond} {pc : Nat} {ls : Array Slot} {rest : List Value} {D : va_G} {cy : cyT} {z : Nat} {h : hS} {β : Type} {res : β} {r : Option Nat} {i v : Int32} {f : hS → Option β} (C : MX p s m args meth c cc nL ret own Ts) (w : wd D cy z s cells h H locs) (hdg : decode cc pc = .ok (.bastore, 1)) (hE : uB h r i v f = some res)
    (kk : ∀ (g : hS) (H1 : Heap) (locs1 : List Loc), wd D cy z s cells g H1 locs1 → sm g h → f g = some res → W p l e R s m args below meth c H1 locs1 cells slots Q (F0 m (pc + 1) ls rest)) : W p l e R s m args below meth c H locs cells slots Q (F0 m pc ls (.int v :: .int i :: va_rf r :: rest)) := by
  obtain ⟨a, hr, hE1⟩ := nn_some hE
  obtain ⟨⟨hka, hi⟩, hE2⟩ := if_some hE1
  obtain ⟨L, q0, q1, q2, q3, q4, q5, w0, ha, hq⟩ := wd_at w (a := a) (by omega) (by rw [hka]; (unfold roK; omega))
  subst hr
  refine va_bast (D := D) C.1 C.2.1 q5 q2 q3 q4 q0 2 (by rw [hq, cf_ints hka (by omega) (by omega) (by omega)]) rfl hi hdg (fun H1 locs1 h1 h2 h3 => wd_up (g := s_i h a i.toNatClampNeg (vp_nar .byte v)) w0 q1 q3 ha (by omega) hq rfl rfl (fun _ _ => rfl) ?_ (fun b hb => cf_congr rfl rfl (by rw [h_i_si, if_neg hb]) rfl rfl) h1 h2 h3 (fun w1 => kk _ H1 locs1 w1 ⟨rfl, rfl, rfl, rfl⟩ hE2))
  rw [cf_ints (h := s_i h a i.toNatClampNeg (vp_nar .byte v)) hka (by omega) (by omega) (by omega), h_i_si, if_pos rfl, h_n_si]
theorem cat_n : ((([] : List Value)).map fun v => v.category).sum ≤ 0 := Nat.le_refl _
theorem cat_c1 {v : Value} {t : List Value} {n : Nat} (hv : v.category = 1) (h : (t.map fun v => v.category).sum ≤ n) : ((v :: t).map fun v => v.category).sum ≤ n + 1 := by
  rw [List.map_cons, List.sum_cons, hv]; omega
theorem cat_up {t : List Value} {n : Nat} (h : (t.map fun v => v.category).sum ≤ n) (hn : n ≤ 8) : (t.map fun v => v.category).sum ≤ 8 := Nat.le_trans h hn
/-- a method of a class for which the table of natives has rows, but none for this one -/
theorem Met_ofF {l : Launch} {y : MethodName} {ws ws' : List Cond} {rm : Room} {Pc : Array Value → State → Prop} {Qc : Array Value → State → Outcome → State → Prop} {mc ms : Nat} {free : Addr → Prop} {cc : ByteArray} {maxL : Nat} {ret : Option FieldType}
    (hy : plainFor y = true) (hw : ws = Cond.code y cc maxL ret :: ws')
    (body : ∀ p e s m args below meth c s₁, BodyLoose p l y (headSpec ws rm) cc maxL ret e s m args below meth c s₁ → c.maxLocals = maxL → Pc args s →
      W p l e (headSpec ws rm).room s m args below meth c s.heap [] 0 0 (MQ below Qc args s mc ms free) (entryFrame m args maxL)) : Met l y ws rm Pc Qc mc ms free := by
  refine MetFree.of_bodySF (code := cc) (maxLocals := maxL) (ret := ret) hy ?_ ?_
  · intro args s m h hn
    obtain ⟨meth, c, h1, h2, h3, h4, h5, h6, -, -⟩ := Cond.code_spec hn (atoms_spec (ws := ws) h _ (by rw [hw]; exact List.mem_cons_self))
    exact ⟨meth, c, h1, h2, h3, h4, h5, h6⟩
  · intro p e s m args below meth c s₁ B hml hP _
    have hh0 : s₁.heap = s.heap := by rw [B.state]; rfl
    obtain ⟨t, a1, o, b1, b2, b3⟩ := body p e s m args below meth c s₁ B hml hP s₁ hh0 (Stand.of_body B)
    exact ⟨t, o, a1, b1, b2, ⟨b3.1, b3.2⟩⟩
