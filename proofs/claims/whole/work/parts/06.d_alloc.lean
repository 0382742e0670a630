section WN
variable {p : Program} {l : Launch} {e : Env} {R : Room} {s : State} {m : MethodId} {args : Array Value} {below : List Frame} {meth : Method} {c : Code} {H : Heap} {locs : List Loc} {cells slots : Nat} {Q : State → Prop} {cc : ByteArray} {nL : Nat} {ret : Option FieldType} {own : String} {Ts : List Cond} {pc : Nat} {ls : Array Slot} {rest : List Value} {D : va_G} {cy : cyT} {z : Nat} {h : hS} {β : Type} {res : β}
theorem cf_nw_new (cy : Nat → ClassId) (h : hS) (kd n ms : Nat) : cf cy (nw h kd n ms) (h_x h) = cfv cy kd n (fun _ => 0) (fun _ => 0) (fun _ => none) := by
  simp [cf, h_k, h_n, h_i, h_j, h_r, nw, va_up]
theorem cf_nw_old (cy : Nat → ClassId) (h : hS) (kd n ms : Nat) {b : Nat} (hb : b ≠ h_x h) : cf cy (nw h kd n ms) b = cf cy h b := by
  simp [cf, h_k, h_n, h_i, h_j, h_r, nw, va_up, hb]
theorem h_k_nw (h : hS) (kd n ms b : Nat) : h_k (nw h kd n ms) b = if b = h_x h then kd else h_k h b := rfl
theorem h_r_nw (h : hS) (kd n ms b : Nat) : h_r (nw h kd n ms) b = if b = h_x h then (fun _ => none) else h_r h b := rfl
/-- a new cell -/
theorem wd_push {E : va_E} {H1 : Heap} {kd n ms : Nat} (w : wd D cy z s cells h H locs) (hkd : ¬ roK kd) (hE : cfv cy.1 kd n (fun _ => 0) (fun _ => 0) (fun _ => none) = E) (hnew : va_at D cls (H.size, E) H1) (hsz : H1.size = H.size + 1) (hold : ∀ q, q < H.size → H1[q]? = H[q]?) : wd D cy z s (cells + 1) (nw h kd n ms) H1 locs := by
  obtain ⟨L, q1, q2, q3, q4, q5, q6, q7, q8, q9, q10, q11, q12⟩ := w
  have hfr : H.size ∉ L := va_pl_fresh (X := []) q2 (Nat.le_refl _)
  have hx0 : (0 : Nat) ≠ h_x h := by have := q4.1; omega
  have e1 : va_pl L (cf cy.1 h) ++ [(H.size, E)] = va_pl (L ++ [H.size]) (va_up (cf cy.1 h) H.size E) := va_pl_push hfr
  have e2 : va_pl (L ++ [H.size]) (va_up (cf cy.1 h) H.size E) = va_pl (L ++ [H.size]) (cf cy.1 (nw h kd n ms)) := va_pl_congr (fun b => by
    by_cases hb : b = H.size
    · rw [hb, va_up, if_pos rfl, q7, cf_nw_new, hE]
    · rw [va_up, if_neg hb, cf_nw_old _ _ _ _ _ (by rw [← q7]; exact hb)])
  have hP1 : va_P D cls (va_pl L (cf cy.1 h) ++ [(H.size, E)]) H1 := (q2.kept (fun k x hx => hold x.1 ((q2 k x hx).lt))).app (fun k x hx => by
    have hz : k < 1 := (List.getElem?_eq_some_iff.mp hx).1
    rw [show k = 0 by omega] at hx
    cases hx
    exact hnew)
  have hD1 : va_D (fun q => z ≤ q) (va_pl L (cf cy.1 h) ++ [(H.size, E)]) := q3.push q2 rfl (Nat.le_trans q6.2 q4.1)
  rw [e1, e2] at hP1 hD1
  refine ⟨L ++ [H.size], fun a h1 h2 => ?_, hP1, hD1, ⟨by have := q4.1; omega, fun q u1 u2 => (hold q (Nat.lt_of_lt_of_le u1 q4.1)).trans (q4.2.1 q u1 u2), q4.2.2⟩, q5, q6, by show H1.size = h_x h + 1; omega, by omega, fun a ha => ?_, q10, by rw [h_k_nw, if_neg hx0]; exact q11, by rw [h_r_nw, if_neg hx0]; exact q12⟩
  · by_cases hb : a = h_x h
    · rw [hb, ← q7]; simp
    · rw [h_k_nw, if_neg hb] at h1 h2
      exact List.mem_append_left _ (q1 a h1 h2)
  · by_cases hb : a = h_x h
    · rw [h_k_nw, if_pos hb] at ha
      exact absurd ha hkd
    · rw [h_k_nw, if_neg hb] at ha
      obtain ⟨v1, v2⟩ := q9 a ha
      exact ⟨v1, v2.of ha (by rw [h_k_nw, if_neg hb]) (by rw [h_r_nw, if_neg hb]) (cf_nw_old cy.1 _ _ _ _ hb)⟩
theorem nwA_some {kd : Nat} {n : Int32} {f : Nat → hS → Option β} (hE : nwA h kd n f = some res) : (¬ n < 0 ∧ n.toNatClampNeg ≤ 10000000) ∧ f (h_x h) (nw h kd n.toNatClampNeg n.toNatClampNeg) = some res := if_some hE
theorem h_x_nw (h : hS) (kd n ms : Nat) : h_x (nw h kd n ms) = h_x h + 1 := rfl
theorem h_s_nw (h : hS) (kd n ms : Nat) : h_s (nw h kd n ms) = h_s h + ms := rfl
/-- a new row of numbers: kd its kind, t0 its place among the arrays' classes -/
theorem w_nwP {atype : ArrayType} {ty : FieldType} {kd t0 : Nat} {n : Int32} {f : Nat → hS → Option β} (C : MX p s m args meth c cc nL ret own Ts) (w : wd D cy z s cells h H locs) (harr : Cond.arrayClass (newarray.typeOf atype) ∈ Ts) (hty : newarray.typeOf atype = ty) (ht : (tys cy.1)[t0]? = some (cy.1 kd, ty)) (hRA : ∀ cA, va_RA s cA ty ↔ s.vm.findClass ("[" ++ ty.toString) = some cA) (hro : ¬ roK kd) (hcf : ∀ cA, cfv cy.1 kd n.toNatClampNeg (fun _ => 0) (fun _ => 0) (fun _ => none) = .inl (cA, (cfv cy.1 kd n.toNatClampNeg (fun _ => 0) (fun _ => 0) (fun _ => none)).elim (fun q => q.2) (fun _ => (0, .inl (fun _ => 0)))) ↔ cA = cy.1 kd) (hdf : ∀ N, vp_cell (cy.1 kd) ((cfv cy.1 kd N (fun _ => 0) (fun _ => 0) (fun _ => none)).elim (fun q => q.2) (fun _ => (0, .inl (fun _ => 0)))) = arrV (cy.1 kd) N (fun _ => defaultValue ty)) (hbt : componentBytes ty ≤ 8) (hdg : decode cc pc = .ok (.newarray atype, 2)) (hE : nwA h kd n f = some res) (hc : cells + 1 ≤ R.cells) (hs : slots + n.toNatClampNeg ≤ R.slots)
    (kk : ∀ (H1 : Heap), wd D cy z s (cells + 1) (nw h kd n.toNatClampNeg n.toNatClampNeg) H1 locs → f (h_x h) (nw h kd n.toNatClampNeg n.toNatClampNeg) = some res → W p l e R s m args below meth c H1 locs (cells + 1) (slots + n.toNatClampNeg) Q (F0 m (pc + 2) ls (.ref (h_x h) :: rest))) : W p l e R s m args below meth c H locs cells slots Q (F0 m pc ls (.int n :: rest)) := by
  obtain ⟨⟨hn, hN⟩, hE1⟩ := nwA_some hE
  have hxs := (wd_x w).1
  have hK := wd_K w
  subst hty
  have hb8 : n.toNatClampNeg * componentBytes (newarray.typeOf atype) ≤ 536870912 := Nat.le_trans (Nat.mul_le_mul hN hbt) (by decide)
  refine va_newaK C.1 C.2.1 (C.2.2.2.2.2.1 _ harr) rfl hdg rfl hn rfl hb8 hc hs rfl (fun H1 cA g1 g2 g3 g4 g5 => ?_)
  have hcA : cA = cy.1 kd := by
    have h1 := (hRA _).mp (hK.2 t0 _ ht).2
    rw [g5] at h1
    exact Option.some.inj h1
  rw [hxs] at g1 g2 g3 ⊢
  refine kk H1 (wd_push w hro ((hcf _).mpr hcA) ?_ (by omega) (by rw [hxs]; exact g3)) hE1
  show H1[H.size]? = some (vp_cell _ _)
  rw [hxs, g1, hcA, hdf]
theorem w_nwI {n : Int32} {f : Nat → hS → Option β} (C : MX p s m args meth c cc nL ret own Ts) (w : wd D cy z s cells h H locs) (harr : Cond.arrayClass .int ∈ Ts) (hdg : decode cc pc = .ok (.newarray .int, 2)) (hE : nwA h 50 n f = some res) (hc : cells + 1 ≤ R.cells) (hs : slots + n.toNatClampNeg ≤ R.slots)
    (kk : ∀ (H1 : Heap), wd D cy z s (cells + 1) (nw h 50 n.toNatClampNeg n.toNatClampNeg) H1 locs → f (h_x h) (nw h 50 n.toNatClampNeg n.toNatClampNeg) = some res → W p l e R s m args below meth c H1 locs (cells + 1) (slots + n.toNatClampNeg) Q (F0 m (pc + 2) ls (.ref (h_x h) :: rest))) : W p l e R s m args below meth c H locs cells slots Q (F0 m pc ls (.int n :: rest)) :=
  w_nwP (atype := .int) (kd := 50) (t0 := 0) C w harr rfl rfl (fun _ => Iff.rfl) (by unfold roK; omega) (fun cA => ⟨fun q => by simp [cfv] at q; exact q.symm, fun q => by rw [q]; simp [cfv]⟩) (fun N => by simp [cfv, vp_cell]; rfl) (by decide) hdg hE hc hs kk
theorem w_nwJ {n : Int32} {f : Nat → hS → Option β} (C : MX p s m args meth c cc nL ret own Ts) (w : wd D cy z s cells h H locs) (harr : Cond.arrayClass .long ∈ Ts) (hdg : decode cc pc = .ok (.newarray .long, 2)) (hE : nwA h 51 n f = some res) (hc : cells + 1 ≤ R.cells) (hs : slots + n.toNatClampNeg ≤ R.slots)
    (kk : ∀ (H1 : Heap), wd D cy z s (cells + 1) (nw h 51 n.toNatClampNeg n.toNatClampNeg) H1 locs → f (h_x h) (nw h 51 n.toNatClampNeg n.toNatClampNeg) = some res → W p l e R s m args below meth c H1 locs (cells + 1) (slots + n.toNatClampNeg) Q (F0 m (pc + 2) ls (.ref (h_x h) :: rest))) : W p l e R s m args below meth c H locs cells slots Q (F0 m pc ls (.int n :: rest)) :=
  w_nwP (atype := .long) (kd := 51) (t0 := 1) C w harr rfl rfl (fun _ => Iff.rfl) (by unfold roK; omega) (fun cA => ⟨fun q => by simp [cfv] at q; exact q.symm, fun q => by rw [q]; simp [cfv]⟩) (fun N => by simp [cfv, vp_cell]; rfl) (by decide) hdg hE hc hs kk
theorem w_nwB {n : Int32} {f : Nat → hS → Option β} (C : MX p s m args meth c cc nL ret own Ts) (w : wd D cy z s cells h H locs) (harr : Cond.arrayClass .byte ∈ Ts) (hdg : decode cc pc = .ok (.newarray .byte, 2)) (hE : nwA h 52 n f = some res) (hc : cells + 1 ≤ R.cells) (hs : slots + n.toNatClampNeg ≤ R.slots)
    (kk : ∀ (H1 : Heap), wd D cy z s (cells + 1) (nw h 52 n.toNatClampNeg n.toNatClampNeg) H1 locs → f (h_x h) (nw h 52 n.toNatClampNeg n.toNatClampNeg) = some res → W p l e R s m args below meth c H1 locs (cells + 1) (slots + n.toNatClampNeg) Q (F0 m (pc + 2) ls (.ref (h_x h) :: rest))) : W p l e R s m args below meth c H locs cells slots Q (F0 m pc ls (.int n :: rest)) :=
  w_nwP (atype := .byte) (kd := 52) (t0 := 2) C w harr rfl rfl (fun _ => Iff.rfl) (by unfold roK; omega) (fun cA => ⟨fun q => by simp [cfv] at q; exact q.symm, fun q => by rw [q]; simp [cfv]⟩) (fun N => by simp [cfv, vp_cell]; rfl) (by decide) hdg hE hc hs kk
theorem w_nwZ {n : Int32} {f : Nat → hS → Option β} (C : MX p s m args meth c cc nL ret own Ts) (w : wd D cy z s cells h H locs) (harr : Cond.arrayClass .boolean ∈ Ts) (hdg : decode cc pc = .ok (.newarray .boolean, 2)) (hE : nwA h 53 n f = some res) (hc : cells + 1 ≤ R.cells) (hs : slots + n.toNatClampNeg ≤ R.slots)
    (kk : ∀ (H1 : Heap), wd D cy z s (cells + 1) (nw h 53 n.toNatClampNeg n.toNatClampNeg) H1 locs → f (h_x h) (nw h 53 n.toNatClampNeg n.toNatClampNeg) = some res → W p l e R s m args below meth c H1 locs (cells + 1) (slots + n.toNatClampNeg) Q (F0 m (pc + 2) ls (.ref (h_x h) :: rest))) : W p l e R s m args below meth c H locs cells slots Q (F0 m pc ls (.int n :: rest)) :=
  w_nwP (atype := .boolean) (kd := 53) (t0 := 3) C w harr rfl rfl (fun _ => Iff.rfl) (by unfold roK; omega) (fun cA => ⟨fun q => by simp [cfv] at q; exact q.symm, fun q => by rw [q]; simp [cfv]⟩) (fun N => by simp [cfv, vp_cell]; rfl) (by decide) hdg hE hc hs kk
/-- a row of ints into a row of rows -/
theorem w_uA {r v : Option Nat} {i : Int32} {f : hS → Option β} (C : MX p s m args meth c cc nL ret own Ts) (w : wd D cy z s cells h H locs) (hdg : decode cc pc = .ok (.aastore, 1)) (hE : uA h r i v f = some res)
    (kk : ∀ (g : hS) (H1 : Heap) (locs1 : List Loc), wd D cy z s cells g H1 locs1 → sm g h → f g = some res → W p l e R s m args below meth c H1 locs1 cells slots Q (F0 m (pc + 1) ls rest)) : W p l e R s m args below meth c H locs cells slots Q (F0 m pc ls (va_rf v :: .int i :: va_rf r :: rest)) := by
  obtain ⟨a, hr, hE1⟩ := nn_some hE
  obtain ⟨b, hv, hE2⟩ := nn_some hE1
  obtain ⟨⟨hka, hi, hkb⟩, hE3⟩ := if_some hE2
  obtain ⟨L, q0, q1, q2, q3, q4, q5, w0, ha, hq⟩ := wd_at w (a := a) (by omega) (by rw [hka]; unfold roK; omega)
  obtain ⟨p2, -⟩ := wd_rd w (a := b) (by omega)
  have hlt : i.toNatClampNeg < h_n h a := Nat.not_le.mp fun q => hi (Or.inr q)
  have h0 : ¬ i < 0 := fun q => hi (Or.inl q)
  have hq' := hq
  rw [cf_refs hka (by omega)] at hq'
  have hc : H[a]? = some (arrV (cy.1 60) (h_n h a) (fun j => va_rf (h_r h a j))) := q2 q0 _ hq'
  have hcb : H[b]? = some (arrV (cy.1 50) (h_n h b) (fun j => .int (h_i h b j))) := p2 0 (b, .inl (cy.1 50, h_n h b, .inl (h_i h b))) (by rw [cf_ints hkb (by omega) (by omega) (by omega)]; rfl)
  obtain ⟨k60, hk60, hkind⟩ := (wd_X w).1.2.2.2.2.2.1
  obtain ⟨-, k50, hk50, -⟩ := (q5.2 0 _ rfl).1 0 (fun _ => .null)
  have hk50 : s.vm.classes[cy.1 50]? = some k50 := hk50
  subst hr
  subst hv
  refine W.aast (cell := arrV (cy.1 60) (h_n h a) (fun j => va_rf (h_r h a j))) (cv := arrV (cy.1 50) (h_n h b) (fun j => .int (h_i h b j))) (comp := cy.1 50) (t := .array .int) (kcomp := k50) (kv := k50) C.1 C.2.1 hc (fun q u => by cases u) (fun u => by cases u) hk60 hkind rfl hk50 ⟨h0, by rw [arrV_size]; exact hlt⟩ hcb (fun q u => by cases u) hk50 (by unfold Vm.assignable; rw [show (256 : Nat) = 255 + 1 from rfl, Vm.assignableAux]; simp; exact Or.inl rfl) rfl rfl hdg (fun H1 g1 g2 g3 => ?_)
  have hP1 : va_P D cls ((va_pl L (cf cy.1 h)).set q0 (a, .inl (cy.1 60, h_n h a, .inr (.inr (.inr (.inr (va_up (h_r h a) i.toNatClampNeg (some b)))))))) H1 := q2.set q3 hq (show H1[a]? = some (vp_cell _ _) by
    rw [g1]
    simp only [vp_cell]
    rw [arrV_store]
    congr 2
    funext q
    by_cases hqq : q = i.toNatClampNeg
    · simp [updV, va_up, hqq, va_rf]
    · simp [updV, va_up, hqq]) g3
  refine wd_up (g := s_r h a i.toNatClampNeg (some b)) w0 q1 q3 ha (by omega) hq rfl rfl (fun b hb => by rw [h_r_sr, if_neg hb]) ?_ (fun b hb => cf_congr rfl rfl rfl rfl (by rw [h_r_sr, if_neg hb])) hP1 (q3.set hq) (q4.put g2 g3 (q3.2 q0 _ hq)) (fun w1 => kk _ H1 _ w1 ⟨rfl, rfl, rfl, rfl⟩ hE3)
  rw [cf_refs (h := s_r h a i.toNatClampNeg (some b)) hka (by omega), h_r_sr, if_pos rfl, h_n_sr]
theorem w_SAI {G : List Cond} {w0 : Cond} (hG : G.all goodWord = true) {y : MethodName} {bytes : ByteArray} {maxL n index F Lc : Nat} {rt : Option FieldType} {av st0 : List Value} {f : Option (Int32 × hS)} {K : Int32 → hS → Option β} (C : MX p s m args meth c cc nL ret own (w0 :: G)) (w : wd D cy z s cells h H locs) (hM : ∀ r g, f = some (r, g) → ct l y (Cond.code y bytes maxL rt :: G) { frames := F, cells := h_x g - h_x h, slots := h_s g - h_s h, locals := Lc } D cy z h av (rI r) g)
    (g1 : Cond.methodLink own index y ∈ G) (g2 : Cond.static y ∈ G) (g3 : Cond.initialized y.cls ∈ G) (g4 : Cond.code y bytes maxL rt ∈ G) (hd : y.cls ≠ "java/lang/invoke/MethodHandle" ∧ y.cls ≠ "java/lang/invoke/VarHandle" ∧ (parseMethodDescriptor y.desc).map (fun d => d.parameters.length) = some n) (hR : F + 1 ≤ R.frames ∧ 8 + (maxL + 11) + Lc ≤ R.locals)
    (hn : av.length = n) (hsz : ls.size = nL) (hst : st0 = av.reverse ++ rest) (hW : (rest.map fun v => v.category).sum ≤ 8) (hdg : decode cc pc = .ok (.invokestatic index, 3)) (hgr : Mo h f) (hf : ∀ r g, f = some (r, g) → K r g = some res → cells + (h_x g - h_x h) ≤ R.cells ∧ slots + (h_s g - h_s h) ≤ R.slots) (hE : cl f K = some res)
    (kk : ∀ (r : Int32) (g : hS) (H1 : Heap) (locs1 : List Loc), wd D cy z s (cells + (h_x g - h_x h)) g H1 locs1 → gr g h → K r g = some res → W p l e R s m args below meth c H1 locs1 (cells + (h_x g - h_x h)) (slots + (h_s g - h_s h)) Q (F0 m (pc + 3) ls (.int r :: rest))) : W p l e R s m args below meth c H locs cells slots Q (F0 m pc ls st0) := by
  obtain ⟨r, g, hf1, hE1⟩ := cl_some hE
  exact w_S rI hG (rm := { frames := F, cells := h_x g - h_x h, slots := h_s g - h_s h, locals := Lc }) (f := some (r, g)) (K := K) C w (fun r1 gg e => by cases e; exact hM r g hf1) g1 g2 g3 g4 hd hR hn hsz hst hW hdg (fun r1 gg e => by cases e; exact Or.inr rfl) (hf r g hf1 hE1) hE1 (fun r1 gg H1 locs1 w1 e1 e2 => by cases e1; exact kk r g H1 locs1 w1 (hgr r g hf1) hE1)
theorem w_VAI {G : List Cond} {w0 : Cond} (hG : G.all goodWord = true) {CN : String} {T : u_T} {N ci : Nat} {y : MethodName} {bytes : ByteArray} {maxL n index F Lc : Nat} {rt : Option FieldType} {o : Option Nat} {av st0 : List Value} {f : Nat → Option (Int32 × hS)} {K : Int32 → hS → Option β} (C : MX p s m args meth c cc nL ret own (w0 :: G)) (w : wd D cy z s cells h H locs) (hc : cls[ci]? = some (CN, T, N)) (hci : ci + 1 < 50) (hM : ∀ a r g, f a = some (r, g) → ct l y (Cond.code y bytes maxL rt :: G) { frames := F, cells := h_x g - h_x h, slots := h_s g - h_s h, locals := Lc } D cy z h (.ref a :: av) (rI r) g)
    (g1 : Cond.methodLink own index y ∈ G) (g2 : Cond.instanceMethod y ∈ G) (g5 : Cond.selects CN y y ∈ G) (g3 : Cond.initialized CN ∈ G) (g4 : Cond.code y bytes maxL rt ∈ G) (hd : y.cls = CN ∧ y.cls ≠ "java/lang/invoke/MethodHandle" ∧ y.cls ≠ "java/lang/invoke/VarHandle" ∧ (parseMethodDescriptor y.desc).map (fun d => d.parameters.length) = some n) (hR : F + 1 ≤ R.frames ∧ 8 + (maxL + 11) + Lc ≤ R.locals)
    (hn : av.length = n) (hsz : ls.size = nL) (hst : st0 = av.reverse ++ va_rf o :: rest) (hW : (rest.map fun v => v.category).sum ≤ 8) (hdg : decode cc pc = .ok (.invokevirtual index, 3)) (hgr : ∀ a, Mo h (f a)) (hf : ∀ a r g, f a = some (r, g) → K r g = some res → cells + (h_x g - h_x h) ≤ R.cells ∧ slots + (h_s g - h_s h) ≤ R.slots) (hE : cv h o ci f K = some res)
    (kk : ∀ (r : Int32) (g : hS) (H1 : Heap) (locs1 : List Loc), wd D cy z s (cells + (h_x g - h_x h)) g H1 locs1 → gr g h → K r g = some res → W p l e R s m args below meth c H1 locs1 (cells + (h_x g - h_x h)) (slots + (h_s g - h_s h)) Q (F0 m (pc + 3) ls (.int r :: rest))) : W p l e R s m args below meth c H locs cells slots Q (F0 m pc ls st0) := by
  obtain ⟨a, ho, hE0⟩ := nn_some hE
  obtain ⟨hka, hE2⟩ := if_some hE0
  obtain ⟨r, g, hf1, hE1⟩ := cl_some hE2
  subst ho
  exact w_V rI hG (rm := { frames := F, cells := h_x g - h_x h, slots := h_s g - h_s h, locals := Lc }) (o := some a) (f := fun q => if q = a then some (r, g) else none) (K := K) C w hc hci (fun a1 r1 gg e => by
    by_cases q : a1 = a
    · subst q; rw [if_pos rfl] at e; cases e; exact hM a1 r g hf1
    · rw [if_neg q] at e; cases e) g1 g2 g5 g3 g4 hd hR hn hsz hst hW hdg (fun a1 r1 gg e => by
    by_cases q : a1 = a
    · rw [if_pos q] at e; cases e; exact Or.inr rfl
    · rw [if_neg q] at e; cases e) (hf a r g hf1 hE1) (by show (if h_k h a = ci + 1 then cl (if a = a then some (r, g) else none) K else none) = some res; rw [if_pos hka, if_pos rfl]; exact hE1) (fun a1 r1 gg H1 locs1 w1 e1 e2 => by
    by_cases q : a1 = a
    · rw [if_pos q] at e1; cases e1; exact kk r g H1 locs1 w1 (hgr a r g hf1) hE1
    · rw [if_neg q] at e1; cases e1)
theorem w_SAJ {G : List Cond} {w0 : Cond} (hG : G.all goodWord = true) {y : MethodName} {bytes : ByteArray} {maxL n index F Lc : Nat} {rt : Option FieldType} {av st0 : List Value} {f : Option (Int64 × hS)} {K : Int64 → hS → Option β} (C : MX p s m args meth c cc nL ret own (w0 :: G)) (w : wd D cy z s cells h H locs) (hM : ∀ r g, f = some (r, g) → ct l y (Cond.code y bytes maxL rt :: G) { frames := F, cells := h_x g - h_x h, slots := h_s g - h_s h, locals := Lc } D cy z h av (rJ r) g)
    (g1 : Cond.methodLink own index y ∈ G) (g2 : Cond.static y ∈ G) (g3 : Cond.initialized y.cls ∈ G) (g4 : Cond.code y bytes maxL rt ∈ G) (hd : y.cls ≠ "java/lang/invoke/MethodHandle" ∧ y.cls ≠ "java/lang/invoke/VarHandle" ∧ (parseMethodDescriptor y.desc).map (fun d => d.parameters.length) = some n) (hR : F + 1 ≤ R.frames ∧ 8 + (maxL + 11) + Lc ≤ R.locals)
    (hn : av.length = n) (hsz : ls.size = nL) (hst : st0 = av.reverse ++ rest) (hW : (rest.map fun v => v.category).sum ≤ 8) (hdg : decode cc pc = .ok (.invokestatic index, 3)) (hgr : Mo h f) (hf : ∀ r g, f = some (r, g) → K r g = some res → cells + (h_x g - h_x h) ≤ R.cells ∧ slots + (h_s g - h_s h) ≤ R.slots) (hE : cl f K = some res)
    (kk : ∀ (r : Int64) (g : hS) (H1 : Heap) (locs1 : List Loc), wd D cy z s (cells + (h_x g - h_x h)) g H1 locs1 → gr g h → K r g = some res → W p l e R s m args below meth c H1 locs1 (cells + (h_x g - h_x h)) (slots + (h_s g - h_s h)) Q (F0 m (pc + 3) ls (.long r :: rest))) : W p l e R s m args below meth c H locs cells slots Q (F0 m pc ls st0) := by
  obtain ⟨r, g, hf1, hE1⟩ := cl_some hE
  exact w_S rJ hG (rm := { frames := F, cells := h_x g - h_x h, slots := h_s g - h_s h, locals := Lc }) (f := some (r, g)) (K := K) C w (fun r1 gg e => by cases e; exact hM r g hf1) g1 g2 g3 g4 hd hR hn hsz hst hW hdg (fun r1 gg e => by cases e; exact Or.inr rfl) (hf r g hf1 hE1) hE1 (fun r1 gg H1 locs1 w1 e1 e2 => by cases e1; exact kk r g H1 locs1 w1 (hgr r g hf1) hE1)
theorem w_VAJ {G : List Cond} {w0 : Cond} (hG : G.all goodWord = true) {CN : String} {T : u_T} {N ci : Nat} {y : MethodName} {bytes : ByteArray} {maxL n index F Lc : Nat} {rt : Option FieldType} {o : Option Nat} {av st0 : List Value} {f : Nat → Option (Int64 × hS)} {K : Int64 → hS → Option β} (C : MX p s m args meth c cc nL ret own (w0 :: G)) (w : wd D cy z s cells h H locs) (hc : cls[ci]? = some (CN, T, N)) (hci : ci + 1 < 50) (hM : ∀ a r g, f a = some (r, g) → ct l y (Cond.code y bytes maxL rt :: G) { frames := F, cells := h_x g - h_x h, slots := h_s g - h_s h, locals := Lc } D cy z h (.ref a :: av) (rJ r) g)
    (g1 : Cond.methodLink own index y ∈ G) (g2 : Cond.instanceMethod y ∈ G) (g5 : Cond.selects CN y y ∈ G) (g3 : Cond.initialized CN ∈ G) (g4 : Cond.code y bytes maxL rt ∈ G) (hd : y.cls = CN ∧ y.cls ≠ "java/lang/invoke/MethodHandle" ∧ y.cls ≠ "java/lang/invoke/VarHandle" ∧ (parseMethodDescriptor y.desc).map (fun d => d.parameters.length) = some n) (hR : F + 1 ≤ R.frames ∧ 8 + (maxL + 11) + Lc ≤ R.locals)
    (hn : av.length = n) (hsz : ls.size = nL) (hst : st0 = av.reverse ++ va_rf o :: rest) (hW : (rest.map fun v => v.category).sum ≤ 8) (hdg : decode cc pc = .ok (.invokevirtual index, 3)) (hgr : ∀ a, Mo h (f a)) (hf : ∀ a r g, f a = some (r, g) → K r g = some res → cells + (h_x g - h_x h) ≤ R.cells ∧ slots + (h_s g - h_s h) ≤ R.slots) (hE : cv h o ci f K = some res)
    (kk : ∀ (r : Int64) (g : hS) (H1 : Heap) (locs1 : List Loc), wd D cy z s (cells + (h_x g - h_x h)) g H1 locs1 → gr g h → K r g = some res → W p l e R s m args below meth c H1 locs1 (cells + (h_x g - h_x h)) (slots + (h_s g - h_s h)) Q (F0 m (pc + 3) ls (.long r :: rest))) : W p l e R s m args below meth c H locs cells slots Q (F0 m pc ls st0) := by
  obtain ⟨a, ho, hE0⟩ := nn_some hE
  obtain ⟨hka, hE2⟩ := if_some hE0
  obtain ⟨r, g, hf1, hE1⟩ := cl_some hE2
  subst ho
  exact w_V rJ hG (rm := { frames := F, cells := h_x g - h_x h, slots := h_s g - h_s h, locals := Lc }) (o := some a) (f := fun q => if q = a then some (r, g) else none) (K := K) C w hc hci (fun a1 r1 gg e => by
    by_cases q : a1 = a
    · subst q; rw [if_pos rfl] at e; cases e; exact hM a1 r g hf1
    · rw [if_neg q] at e; cases e) g1 g2 g5 g3 g4 hd hR hn hsz hst hW hdg (fun a1 r1 gg e => by
    by_cases q : a1 = a
    · rw [if_pos q] at e; cases e; exact Or.inr rfl
    · rw [if_neg q] at e; cases e) (hf a r g hf1 hE1) (by show (if h_k h a = ci + 1 then cl (if a = a then some (r, g) else none) K else none) = some res; rw [if_pos hka, if_pos rfl]; exact hE1) (fun a1 r1 gg H1 locs1 w1 e1 e2 => by
    by_cases q : a1 = a
    · rw [if_pos q] at e1; cases e1; exact kk r g H1 locs1 w1 (hgr a r g hf1) hE1
    · rw [if_neg q] at e1; cases e1)
theorem w_SAV {G : List Cond} {w0 : Cond} (hG : G.all goodWord = true) {y : MethodName} {bytes : ByteArray} {maxL n index F Lc : Nat} {rt : Option FieldType} {av st0 : List Value} {f : Option (Unit × hS)} {K : Unit → hS → Option β} (C : MX p s m args meth c cc nL ret own (w0 :: G)) (w : wd D cy z s cells h H locs) (hM : ∀ r g, f = some (r, g) → ct l y (Cond.code y bytes maxL rt :: G) { frames := F, cells := h_x g - h_x h, slots := h_s g - h_s h, locals := Lc } D cy z h av (rV r) g)
    (g1 : Cond.methodLink own index y ∈ G) (g2 : Cond.static y ∈ G) (g3 : Cond.initialized y.cls ∈ G) (g4 : Cond.code y bytes maxL rt ∈ G) (hd : y.cls ≠ "java/lang/invoke/MethodHandle" ∧ y.cls ≠ "java/lang/invoke/VarHandle" ∧ (parseMethodDescriptor y.desc).map (fun d => d.parameters.length) = some n) (hR : F + 1 ≤ R.frames ∧ 8 + (maxL + 11) + Lc ≤ R.locals)
    (hn : av.length = n) (hsz : ls.size = nL) (hst : st0 = av.reverse ++ rest) (hW : (rest.map fun v => v.category).sum ≤ 8) (hdg : decode cc pc = .ok (.invokestatic index, 3)) (hgr : Mo h f) (hf : ∀ r g, f = some (r, g) → K r g = some res → cells + (h_x g - h_x h) ≤ R.cells ∧ slots + (h_s g - h_s h) ≤ R.slots) (hE : cl f K = some res)
    (kk : ∀ (r : Unit) (g : hS) (H1 : Heap) (locs1 : List Loc), wd D cy z s (cells + (h_x g - h_x h)) g H1 locs1 → gr g h → K r g = some res → W p l e R s m args below meth c H1 locs1 (cells + (h_x g - h_x h)) (slots + (h_s g - h_s h)) Q (F0 m (pc + 3) ls (rest))) : W p l e R s m args below meth c H locs cells slots Q (F0 m pc ls st0) := by
  obtain ⟨r, g, hf1, hE1⟩ := cl_some hE
  exact w_S rV hG (rm := { frames := F, cells := h_x g - h_x h, slots := h_s g - h_s h, locals := Lc }) (f := some (r, g)) (K := K) C w (fun r1 gg e => by cases e; exact hM r g hf1) g1 g2 g3 g4 hd hR hn hsz hst hW hdg (fun r1 gg e => by cases e; exact Or.inr rfl) (hf r g hf1 hE1) hE1 (fun r1 gg H1 locs1 w1 e1 e2 => by cases e1; exact kk r g H1 locs1 w1 (hgr r g hf1) hE1)
theorem w_VAV {G : List Cond} {w0 : Cond} (hG : G.all goodWord = true) {CN : String} {T : u_T} {N ci : Nat} {y : MethodName} {bytes : ByteArray} {maxL n index F Lc : Nat} {rt : Option FieldType} {o : Option Nat} {av st0 : List Value} {f : Nat → Option (Unit × hS)} {K : Unit → hS → Option β} (C : MX p s m args meth c cc nL ret own (w0 :: G)) (w : wd D cy z s cells h H locs) (hc : cls[ci]? = some (CN, T, N)) (hci : ci + 1 < 50) (hM : ∀ a r g, f a = some (r, g) → ct l y (Cond.code y bytes maxL rt :: G) { frames := F, cells := h_x g - h_x h, slots := h_s g - h_s h, locals := Lc } D cy z h (.ref a :: av) (rV r) g)
    (g1 : Cond.methodLink own index y ∈ G) (g2 : Cond.instanceMethod y ∈ G) (g5 : Cond.selects CN y y ∈ G) (g3 : Cond.initialized CN ∈ G) (g4 : Cond.code y bytes maxL rt ∈ G) (hd : y.cls = CN ∧ y.cls ≠ "java/lang/invoke/MethodHandle" ∧ y.cls ≠ "java/lang/invoke/VarHandle" ∧ (parseMethodDescriptor y.desc).map (fun d => d.parameters.length) = some n) (hR : F + 1 ≤ R.frames ∧ 8 + (maxL + 11) + Lc ≤ R.locals)
    (hn : av.length = n) (hsz : ls.size = nL) (hst : st0 = av.reverse ++ va_rf o :: rest) (hW : (rest.map fun v => v.category).sum ≤ 8) (hdg : decode cc pc = .ok (.invokevirtual index, 3)) (hgr : ∀ a, Mo h (f a)) (hf : ∀ a r g, f a = some (r, g) → K r g = some res → cells + (h_x g - h_x h) ≤ R.cells ∧ slots + (h_s g - h_s h) ≤ R.slots) (hE : cv h o ci f K = some res)
    (kk : ∀ (r : Unit) (g : hS) (H1 : Heap) (locs1 : List Loc), wd D cy z s (cells + (h_x g - h_x h)) g H1 locs1 → gr g h → K r g = some res → W p l e R s m args below meth c H1 locs1 (cells + (h_x g - h_x h)) (slots + (h_s g - h_s h)) Q (F0 m (pc + 3) ls (rest))) : W p l e R s m args below meth c H locs cells slots Q (F0 m pc ls st0) := by
  obtain ⟨a, ho, hE0⟩ := nn_some hE
  obtain ⟨hka, hE2⟩ := if_some hE0
  obtain ⟨r, g, hf1, hE1⟩ := cl_some hE2
  subst ho
  exact w_V rV hG (rm := { frames := F, cells := h_x g - h_x h, slots := h_s g - h_s h, locals := Lc }) (o := some a) (f := fun q => if q = a then some (r, g) else none) (K := K) C w hc hci (fun a1 r1 gg e => by
    by_cases q : a1 = a
    · subst q; rw [if_pos rfl] at e; cases e; exact hM a1 r g hf1
    · rw [if_neg q] at e; cases e) g1 g2 g5 g3 g4 hd hR hn hsz hst hW hdg (fun a1 r1 gg e => by
    by_cases q : a1 = a
    · rw [if_pos q] at e; cases e; exact Or.inr rfl
    · rw [if_neg q] at e; cases e) (hf a r g hf1 hE1) (by show (if h_k h a = ci + 1 then cl (if a = a then some (r, g) else none) K else none) = some res; rw [if_pos hka, if_pos rfl]; exact hE1) (fun a1 r1 gg H1 locs1 w1 e1 e2 => by
    by_cases q : a1 = a
    · rw [if_pos q] at e1; cases e1; exact kk r g H1 locs1 w1 (hgr a r g hf1) hE1
    · rw [if_neg q] at e1; cases e1)
theorem w_SAR {G : List Cond} {w0 : Cond} (hG : G.all goodWord = true) {y : MethodName} {bytes : ByteArray} {maxL n index F Lc : Nat} {rt : Option FieldType} {av st0 : List Value} {f : Option (Option Nat × hS)} {K : Option Nat → hS → Option β} (C : MX p s m args meth c cc nL ret own (w0 :: G)) (w : wd D cy z s cells h H locs) (hM : ∀ r g, f = some (r, g) → ct l y (Cond.code y bytes maxL rt :: G) { frames := F, cells := h_x g - h_x h, slots := h_s g - h_s h, locals := Lc } D cy z h av (rR r) g)
    (g1 : Cond.methodLink own index y ∈ G) (g2 : Cond.static y ∈ G) (g3 : Cond.initialized y.cls ∈ G) (g4 : Cond.code y bytes maxL rt ∈ G) (hd : y.cls ≠ "java/lang/invoke/MethodHandle" ∧ y.cls ≠ "java/lang/invoke/VarHandle" ∧ (parseMethodDescriptor y.desc).map (fun d => d.parameters.length) = some n) (hR : F + 1 ≤ R.frames ∧ 8 + (maxL + 11) + Lc ≤ R.locals)
    (hn : av.length = n) (hsz : ls.size = nL) (hst : st0 = av.reverse ++ rest) (hW : (rest.map fun v => v.category).sum ≤ 8) (hdg : decode cc pc = .ok (.invokestatic index, 3)) (hgr : Mo h f) (hf : ∀ r g, f = some (r, g) → K r g = some res → cells + (h_x g - h_x h) ≤ R.cells ∧ slots + (h_s g - h_s h) ≤ R.slots) (hE : cl f K = some res)
    (kk : ∀ (r : Option Nat) (g : hS) (H1 : Heap) (locs1 : List Loc), wd D cy z s (cells + (h_x g - h_x h)) g H1 locs1 → gr g h → K r g = some res → W p l e R s m args below meth c H1 locs1 (cells + (h_x g - h_x h)) (slots + (h_s g - h_s h)) Q (F0 m (pc + 3) ls (va_rf r :: rest))) : W p l e R s m args below meth c H locs cells slots Q (F0 m pc ls st0) := by
  obtain ⟨r, g, hf1, hE1⟩ := cl_some hE
  exact w_S rR hG (rm := { frames := F, cells := h_x g - h_x h, slots := h_s g - h_s h, locals := Lc }) (f := some (r, g)) (K := K) C w (fun r1 gg e => by cases e; exact hM r g hf1) g1 g2 g3 g4 hd hR hn hsz hst hW hdg (fun r1 gg e => by cases e; exact Or.inr rfl) (hf r g hf1 hE1) hE1 (fun r1 gg H1 locs1 w1 e1 e2 => by cases e1; exact kk r g H1 locs1 w1 (hgr r g hf1) hE1)
theorem w_VAR {G : List Cond} {w0 : Cond} (hG : G.all goodWord = true) {CN : String} {T : u_T} {N ci : Nat} {y : MethodName} {bytes : ByteArray} {maxL n index F Lc : Nat} {rt : Option FieldType} {o : Option Nat} {av st0 : List Value} {f : Nat → Option (Option Nat × hS)} {K : Option Nat → hS → Option β} (C : MX p s m args meth c cc nL ret own (w0 :: G)) (w : wd D cy z s cells h H locs) (hc : cls[ci]? = some (CN, T, N)) (hci : ci + 1 < 50) (hM : ∀ a r g, f a = some (r, g) → ct l y (Cond.code y bytes maxL rt :: G) { frames := F, cells := h_x g - h_x h, slots := h_s g - h_s h, locals := Lc } D cy z h (.ref a :: av) (rR r) g)
    (g1 : Cond.methodLink own index y ∈ G) (g2 : Cond.instanceMethod y ∈ G) (g5 : Cond.selects CN y y ∈ G) (g3 : Cond.initialized CN ∈ G) (g4 : Cond.code y bytes maxL rt ∈ G) (hd : y.cls = CN ∧ y.cls ≠ "java/lang/invoke/MethodHandle" ∧ y.cls ≠ "java/lang/invoke/VarHandle" ∧ (parseMethodDescriptor y.desc).map (fun d => d.parameters.length) = some n) (hR : F + 1 ≤ R.frames ∧ 8 + (maxL + 11) + Lc ≤ R.locals)
    (hn : av.length = n) (hsz : ls.size = nL) (hst : st0 = av.reverse ++ va_rf o :: rest) (hW : (rest.map fun v => v.category).sum ≤ 8) (hdg : decode cc pc = .ok (.invokevirtual index, 3)) (hgr : ∀ a, Mo h (f a)) (hf : ∀ a r g, f a = some (r, g) → K r g = some res → cells + (h_x g - h_x h) ≤ R.cells ∧ slots + (h_s g - h_s h) ≤ R.slots) (hE : cv h o ci f K = some res)
    (kk : ∀ (r : Option Nat) (g : hS) (H1 : Heap) (locs1 : List Loc), wd D cy z s (cells + (h_x g - h_x h)) g H1 locs1 → gr g h → K r g = some res → W p l e R s m args below meth c H1 locs1 (cells + (h_x g - h_x h)) (slots + (h_s g - h_s h)) Q (F0 m (pc + 3) ls (va_rf r :: rest))) : W p l e R s m args below meth c H locs cells slots Q (F0 m pc ls st0) := by
  obtain ⟨a, ho, hE0⟩ := nn_some hE
  obtain ⟨hka, hE2⟩ := if_some hE0
  obtain ⟨r, g, hf1, hE1⟩ := cl_some hE2
  subst ho
  exact w_V rR hG (rm := { frames := F, cells := h_x g - h_x h, slots := h_s g - h_s h, locals := Lc }) (o := some a) (f := fun q => if q = a then some (r, g) else none) (K := K) C w hc hci (fun a1 r1 gg e => by
    by_cases q : a1 = a
    · subst q; rw [if_pos rfl] at e; cases e; exact hM a1 r g hf1
    · rw [if_neg q] at e; cases e) g1 g2 g5 g3 g4 hd hR hn hsz hst hW hdg (fun a1 r1 gg e => by
    by_cases q : a1 = a
    · rw [if_pos q] at e; cases e; exact Or.inr rfl
    · rw [if_neg q] at e; cases e) (hf a r g hf1 hE1) (by show (if h_k h a = ci + 1 then cl (if a = a then some (r, g) else none) K else none) = some res; rw [if_pos hka, if_pos rfl]; exact hE1) (fun a1 r1 gg H1 locs1 w1 e1 e2 => by
    by_cases q : a1 = a
    · rw [if_pos q] at e1; cases e1; exact kk r g H1 locs1 w1 (hgr a r g hf1) hE1
    · rw [if_neg q] at e1; cases e1)
end WN
