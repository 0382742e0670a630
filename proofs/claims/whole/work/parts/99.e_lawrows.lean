/-! THE LAW'S OWN BODY: its rows -/
theorem lg_cmp_self (v : Int64) : lg_cmp v v = 0 := by simp [lg_cmp]
theorem PJ.top {Q A : Nat → Nat} {m o B n : Nat} {h : hS} (P : PJ Q A m o B n h) : h_k h (Q 0) = 12 + 1 ∧ (h_k h o = 51 ∧ h_n h o = 1 ∧ o < h_x h) ∧ h_k h m = 0 + 1 ∧ hm h ≤ B := by
  obtain ⟨ρ, F, ks, J, hl, hB⟩ := P
  refine ⟨J.1.x.1, ⟨J.2.2.2.1, J.2.2.2.2.1, J.2.2.2.2.2.2⟩, J.2.1.1.1.1, ?_⟩
  unfold jr at hB
  omega
/-- what stands at the law's body -/
def lwC (p : Program) (s : State) (m : MethodId) (meth : Method) (c : Code) (b L : Nat) (xs : Nat → Int32) (z : Nat) (w0 : Cond) : Prop := MX p s m #[Value.ref b] meth c cL_law 8 ret RL (w0 :: GW) ∧ va_X b L xs s s.heap ∧ b < z ∧ s.heap.size = z
/-- behind a step: at the loop's end -/
def LN (p : Program) (l : Launch) (e : Env) (s : State) (m : MethodId) (b : Nat) (below : List Frame) (meth : Method) (c : Code) (D : va_G) (cy : cyT) (z : Nat) (Q A : Nat → Nat) (mm o n : Nat) (x4 : Int32) (Qp : State → Prop) : Prop := ∀ (h2 : hS) (k2 : Nat) (H2 : Heap) (locs2 : List Loc) (ls2 : Array Slot), PJ Q A mm o (13 * z + 7293034) (n + 1) h2 → wd D cy z s k2 h2 H2 locs2 → lv_has ls2 8 [(4, .int x4), (3, .ref o), (2, .ref mm), (1, .ref (Q 0)), (0, .ref b)] → W p l e room_1 s m #[Value.ref b] below meth c H2 locs2 k2 (h_s h2) Qp (F0 m 2554 ls2 [])
section LR
variable {p : Program} {l : Launch} {e : Env} {s : State} {m : MethodId} {args : Array Value} {below : List Frame} {meth : Method} {c : Code} {H : Heap} {locs : List Loc} {k slots : Nat} {Q : State → Prop} {cc : ByteArray} {nL : Nat} {ret : Option FieldType} {own : String} {w0 : Cond} {pc : Nat} {ls : Array Slot} {rest : List Value} {D : va_G} {cy : cyT} {z : Nat} {h : hS}
theorem lw_rd {R : Room} {cells : Nat} (hx : p.tables.exec = Jvm.exec) (hb : c.code = cc) {b L : Nat} {xs : Nat → Int32} (hX : va_X b L xs s s.heap) (hbl : b < z) (hz : s.heap.size = z) (w : wd D cy z s k h H locs) {x4 j : Int32} {jj : Int} (h0 : ls[0]? = some (.val (.ref b))) (h4 : ls[4]? = some (.val (.int x4))) (hin : vp_in (x4 + j) L) (d0 : decode cc pc = .ok (.aload_n 0, 1)) (d1 : decode cc (pc + 1) = .ok (.iload 4, 2)) (d2 : decode cc (pc + 3) = .ok (.iconst jj, 1)) (hj : Int32.ofInt jj = j) (d3 : decode cc (pc + 4) = .ok (.iadd, 1)) (d4 : decode cc (pc + 5) = .ok (.iaload, 1))
    (kk : W p l e R s m args below meth c H locs cells slots Q (F0 m (pc + 6) ls (.int (xs (x4 + j).toNatClampNeg) :: rest))) : W p l e R s m args below meth c H locs cells slots Q (F0 m pc ls rest) := by
  refine lv_aload_n hx hb d0 rfl h0 ?_
  refine lv_iload hx hb d1 h4 ?_
  refine lv_iconst hx hb d2 hj ?_
  refine lv_iadd hx hb d3 ?_
  exact va_sld (A := fun q => z ≤ q) hx hb hX (by omega) (by show ¬ z ≤ b; omega) (wd_S w) hin d4 kk
theorem lw_V {α : Type} (rv : α → Option Value) {CN : String} {T : u_T} {N ci a : Nat} {y : MethodName} {bytes : ByteArray} {maxL n index F Lc rc rs : Nat} {rt : Option FieldType} {av st0 : List Value} {r : α} {g : hS} (C : MX p s m args meth c cc nL ret own (w0 :: GW)) (w : wd D cy z s k h H locs) (hz : s.heap.size = z) (hc : cls[ci]? = some (CN, T, N)) (hci : ci + 1 < 50) (hka : h_k h a = ci + 1) (hM : ct l y (Cond.code y bytes maxL rt :: GW) { frames := F, cells := rc, slots := rs, locals := Lc } D cy z h (.ref a :: av) (rv r) g) (hrc : rc = 0 ∨ rc = h_x g - h_x h) (hrs : rs = 0 ∨ rs = h_s g - h_s h) (hgr : gr g h) (hB : hm g ≤ 13 * z + 7293034)
    (g1 : Cond.methodLink own index y ∈ GW) (g2 : Cond.instanceMethod y ∈ GW) (g5 : Cond.selects CN y y ∈ GW) (g3 : Cond.initialized CN ∈ GW) (g4 : Cond.code y bytes maxL rt ∈ GW) (hd : y.cls = CN ∧ y.cls ≠ "java/lang/invoke/MethodHandle" ∧ y.cls ≠ "java/lang/invoke/VarHandle" ∧ (parseMethodDescriptor y.desc).map (fun d => d.parameters.length) = some n) (hR : F + 1 ≤ 2048 ∧ 8 + (maxL + 11) + Lc ≤ 84000)
    (hn : av.length = n) (hsz : ls.size = nL) (hst : st0 = av.reverse ++ .ref a :: rest) (hW : (rest.map fun v => v.category).sum ≤ 8) (hdg : decode cc pc = .ok (.invokevirtual index, 3))
    (kk : ∀ (k1 : Nat) (H1 : Heap) (locs1 : List Loc), wd D cy z s k1 g H1 locs1 → W p l e room_1 s m args below meth c H1 locs1 k1 (h_s g) Q (F0 m (pc + 3) ls ((rv r).toList ++ rest))) : W p l e room_1 s m args below meth c H locs k (h_s h) Q (F0 m pc ls st0) := by
  have hxx := wd_x w
  obtain ⟨u1, u2, u3⟩ := hgr
  unfold hm at hB
  exact w_V rv GW_good (R := room_1) (rm := { frames := F, cells := rc, slots := rs, locals := Lc }) (o := some a) (f := fun q => if q = a then some (r, g) else none) (K := fun _ _ => some ()) (res := ()) C w hc hci (fun a1 r1 gg e => by
      by_cases q : a1 = a
      · subst q; rw [if_pos rfl] at e; cases e; exact hM
      · rw [if_neg q] at e; cases e) g1 g2 g5 g3 g4 hd hR hn hsz hst hW hdg (fun a1 r1 gg e => by
      by_cases q : a1 = a
      · rw [if_pos q] at e; cases e; exact hrc
      · rw [if_neg q] at e; cases e) ⟨by show k + rc ≤ 601024; omega, by show h_s h + rs ≤ 7293034; omega⟩ (by show (if h_k h a = ci + 1 then cl (if a = a then some (r, g) else none) (fun _ _ => some ()) else none) = some (); rw [if_pos hka, if_pos rfl]; rfl) (fun a1 r1 gg H1 locs1 w1 e1 e2 => by
      by_cases q : a1 = a
      · rw [if_pos q] at e1; cases e1; exact W.widen (k := k + rc) (n := h_s g) (Nat.le_refl _) (by show h_s h + rs ≤ h_s g; omega) (kk _ _ _ w1)
      · rw [if_neg q] at e1; cases e1)
theorem lw_SL {α : Type} {rK : Option ((α ⊕ Nat) × hS)} {r : α ⊕ Nat} {g : hS} {toL : α → Int64} {cd : Nat → Int32} {o : Nat} {y : MethodName} {bytes : ByteArray} {maxL n index F Lc : Nat} {rt : Option FieldType} {hh : List (Nat × Nat × Nat × Nat)} {av st0 : List Value} (C : MX p s m args meth c cc nL ret own (w0 :: GW)) (w : wd D cy z s k h H locs) (hz : s.heap.size = z) (hM : Met l y (Cond.codeWith y bytes maxL rt hh :: GW) { frames := F, cells := h_x g - h_x h, slots := h_s g - h_s h, locals := Lc } (va_Pc av (wU D cy z h)) (lQ D cy z rK toL cd o) (h_x g - h_x h) (h_s g - h_s h) (fun q => z ≤ q)) (hE : rK = some (r, g)) (hgr : gr g h) (hB : hm g ≤ 13 * z + 7293034)
    (g1 : Cond.methodLink own index y ∈ GW) (g2 : Cond.static y ∈ GW) (g3 : Cond.initialized y.cls ∈ GW) (g4 : Cond.codeWith y bytes maxL rt hh ∈ GW) (hd : y.cls ≠ "java/lang/invoke/MethodHandle" ∧ y.cls ≠ "java/lang/invoke/VarHandle" ∧ (parseMethodDescriptor y.desc).map (fun d => d.parameters.length) = some n) (hR : F + 1 ≤ 2048 ∧ 8 + (maxL + 11) + Lc ≤ 84000)
    (hn : av.length = n) (hsz : ls.size = nL) (hst : st0 = av.reverse ++ rest) (hW : (rest.map fun v => v.category).sum ≤ 8) (hdg : decode cc pc = .ok (.invokestatic index, 3))
    (kk : ∀ (k1 : Int32) (h1 : hS) (k2 : Nat) (H1 : Heap) (locs1 : List Loc), WR rK toL cd o k1 h1 → wd D cy z s k2 h1 H1 locs1 → W p l e room_1 s m args below meth c H1 locs1 k2 (h_s h1) Q (F0 m (pc + 3) ls (.int k1 :: rest))) : W p l e room_1 s m args below meth c H locs k (h_s h) Q (F0 m pc ls st0) := by
  have hxx := wd_x w
  obtain ⟨u1, u2, u3⟩ := hgr
  unfold hm at hB
  refine w_SL GW_good (R := room_1) (rm := { frames := F, cells := h_x g - h_x h, slots := h_s g - h_s h, locals := Lc }) C w hM g1 g2 g3 g4 hd hR hn hsz hst hW hdg ⟨by show k + (h_x g - h_x h) ≤ 601024; omega, by show h_s h + (h_s g - h_s h) ≤ 7293034; omega⟩ (fun k1 h1 k2 H1 locs1 wr w1 => ?_)
  have es : h_s h1 = h_s g := by
    rcases wr with ⟨a', g', w1, w2, w3⟩ | ⟨j, g', n', w1, w2, w5, w3⟩
    · rw [hE] at w1
      injection w1 with w1
      injection w1 with w1 w4
      subst w4 w3
      rfl
    · rw [hE] at w1
      injection w1 with w1
      injection w1 with w1 w4
      subst w4 w3
      rfl
  have q := kk k1 h1 k2 H1 locs1 wr w1
  rw [es] at q
  exact W.widen (k := k2) (n := h_s g) (Nat.le_refl _) (by show h_s h + (h_s g - h_s h) ≤ h_s g; omega) q
end LR
