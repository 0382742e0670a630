section WR
variable {p : Program} {l : Launch} {e : Env} {R : Room} {s : State} {m : MethodId} {args : Array Value} {below : List Frame} {meth : Method} {c : Code} {H : Heap} {locs : List Loc} {cells slots : Nat} {Q : State → Prop} {cc : ByteArray} {nL : Nat} {ret : Option FieldType} {own : String} {Ts : List Cond} {pc : Nat} {ls : Array Slot} {rest : List Value} {D : va_G} {cy : cyT} {z : Nat} {h : hS} {β : Type} {res : β}
theorem wd_at (w : wd D cy z s cells h H locs) {a : Nat} (hk : h_k h a ≠ 0) (hro : ¬ roK (h_k h a)) : ∃ (L : List Nat) (q0 : Nat), (∀ a, h_k h a ≠ 0 → ¬ roK (h_k h a) → a ∈ L) ∧ va_P D cls (va_pl L (cf cy.1 h)) H ∧ va_D (fun q => z ≤ q) (va_pl L (cf cy.1 h)) ∧ va_S (fun q => z ≤ q) H H locs ∧ va_K D cls (tys cy.1) s ∧ wd D cy z s cells h H locs ∧ a ∈ L ∧ (va_pl L (cf cy.1 h))[q0]? = some (a, cf cy.1 h a) := by
  have w0 := w
  obtain ⟨L, q1, q2, q3, q4, q5, q6, q7, q8, q9, q10⟩ := w
  obtain ⟨q0, hq⟩ := va_pl_get (X := []) (f := cf cy.1 h) (q1 a hk hro)
  exact ⟨L, q0, q1, q2, q3, ⟨Nat.le_refl _, fun _ _ _ => rfl, q4.2.2⟩, q5, w0, q1 a hk hro, hq⟩
/-- a cell of the pool is as the abstract heap says -/
theorem wd_rd (w : wd D cy z s cells h H locs) {a : Nat} (hk2 : h_k h a ≠ 0 ∧ h_k h a ≠ 55 ∧ h_k h a ≠ 56 ∧ h_k h a ≠ 57) : va_P D cls [(a, cf cy.1 h a)] H ∧ va_K D cls (tys cy.1) s := by
  obtain ⟨hk, hro⟩ := hk2
  obtain ⟨L, q0, q1, q2, q3, q4, q5, w0, ha, hq0⟩ := wd_at w hk (by unfold roK; omega)
  refine ⟨fun k q hq => ?_, q5⟩
  have hz : k < 1 := (List.getElem?_eq_some_iff.mp hq).1
  rw [show k = 0 by omega] at hq
  cases hq
  exact q2 q0 _ hq0
theorem wd_ro (w : wd D cy z s cells h H locs) {a : Nat} (hk : roK (h_k h a)) : rA z h a s s.heap := by
  obtain ⟨L, q1, q2, q3, q4, q5, q6, q7, q8, q9, q10⟩ := w
  exact (q9 a hk).2
theorem wd_bytes (w : wd D cy z s cells h H locs) {a : Nat} (hk : h_k h a = 55) : va_T .byte a (h_n h a) (fun j => .int (h_i h a j)) (fun q => z ≤ q) s s.heap := by
  have q := wd_ro w (a := a) (by unfold roK; omega)
  unfold rA at q
  rw [if_neg (by omega), if_pos hk] at q
  exact q
theorem wd_statics (w : wd D cy z s cells h H locs) {a : Nat} (hk : h_k h a = 56) : va_T .int a (h_n h a) (fun j => .int (h_i h a j)) (fun q => z ≤ q) s s.heap := by
  have q := wd_ro w (a := a) (by unfold roK; omega)
  unfold rA at q
  rw [if_neg (by omega), if_neg (by omega)] at q
  exact q
theorem wd_string (w : wd D cy z s cells h H locs) {a : Nat} (hk : h_k h a = 57) : va_O "java/lang/String" a (fun q => z ≤ q) s s.heap ∧ va_OF "java/lang/String" "coder" "B" (.int (h_i h a 1)) a (fun q => z ≤ q) s s.heap ∧ va_OF "java/lang/String" "value" "[B" (va_rf (h_r h a 0)) a (fun q => z ≤ q) s s.heap := by
  have q := wd_ro w (a := a) (by unfold roK; omega)
  unfold rA at q
  rw [if_pos hk] at q
  exact q
theorem W_size {g : JFrame} (k : H.size ≤ s.heap.size + cells → W p l e R s m args below meth c H locs cells slots Q g) : W p l e R s m args below meth c H locs cells slots Q g := by
  intro T hT X
  have h1 : T.heap.size ≤ s.heap.size + cells := X.same.2.2.1
  rw [hT] at h1
  exact k h1 T hT X
/-- a cell changes: the pool with the new abstract heap -/
theorem wd_up {g : hS} {L : List Nat} {a q0 : Nat} {E : va_E} {H1 : Heap} {locs1 : List Loc} {pc1 : Nat} {st1 : List Value} (w : wd D cy z s cells h H locs) (q1 : ∀ a, h_k h a ≠ 0 → ¬ roK (h_k h a) → a ∈ L) (q3 : va_D (fun q => z ≤ q) (va_pl L (cf cy.1 h))) (ha : a ∈ L) (hka : h_k h a ≠ 0) (hq : (va_pl L (cf cy.1 h))[q0]? = some (a, cf cy.1 h a))
    (hk : h_k g = h_k h) (hxx : h_x g = h_x h) (hrr : ∀ b, b ≠ a → h_r g b = h_r h b) (hE : cf cy.1 g a = E) (ho : ∀ b, b ≠ a → cf cy.1 g b = cf cy.1 h b) (h1 : va_P D cls ((va_pl L (cf cy.1 h)).set q0 (a, E)) H1) (h2 : va_D (fun q => z ≤ q) ((va_pl L (cf cy.1 h)).set q0 (a, E))) (h3 : va_S (fun q => z ≤ q) H H1 locs1)
    (kk : wd D cy z s cells g H1 locs1 → W p l e R s m args below meth c H1 locs1 cells slots Q (F0 m pc1 ls st1)) : W p l e R s m args below meth c H1 locs1 cells slots Q (F0 m pc1 ls st1) := by
  have e1 : (va_pl L (cf cy.1 h)).set q0 (a, E) = va_pl L (va_up (cf cy.1 h) a E) := va_pl_set (X := []) q3 ha hq
  have e2 : va_pl L (va_up (cf cy.1 h) a E) = va_pl L (cf cy.1 g) := va_pl_congr (fun b => by
    by_cases hb : b = a
    · subst hb; simp [va_up, hE]
    · simp [va_up, hb, ho b hb])
  have hza : z ≤ a := q3.2 q0 _ hq
  rw [e1, e2] at h1 h2
  refine W_size (fun hle => kk ?_)
  obtain ⟨L0, -, -, -, w4, w5, w6, w7, w8, w9, w10, w11, w12⟩ := w
  have hs : H1.size = H.size := Nat.le_antisymm (by omega) h3.1
  have h0a : (0 : Nat) ≠ a := by have := w6.1; omega
  refine ⟨L, fun b hb => by rw [hk] at hb ⊢; exact q1 b hb, h1, h2, ⟨Nat.le_trans w4.1 h3.1, fun q u1 u2 => (h3.2.1 q (Nat.lt_of_lt_of_le u1 w4.1) u2).trans (w4.2.1 q u1 u2), h3.2.2⟩, w5, w6, by rw [hs, hxx]; exact w7, by rw [hs]; exact w8, fun b hb => ?_, w10, by rw [hk]; exact w11, by rw [hrr 0 h0a]; exact w12⟩
  rw [hk] at hb
  obtain ⟨v1, v2⟩ := w9 b hb
  have hba : b ≠ a := by omega
  exact ⟨v1, v2.of hb (by rw [hk]) (hrr b hba) (ho b hba)⟩
theorem nn_some {r : Option Nat} {k : Nat → Option β} (h : nn r k = some res) : ∃ a, r = some a ∧ k a = some res := by
  cases r with
  | none => cases h
  | some a => exact ⟨a, rfl, h⟩
theorem if_some {P : Prop} [Decidable P] {x : Option β} (h : (if P then x else none) = some res) : P ∧ x = some res := by
  by_cases hp : P
  · rw [if_pos hp] at h; exact ⟨hp, h⟩
  · rw [if_neg hp] at h; cases h
theorem cl_some {α : Type} {o : Option (α × hS)} {k : α → hS → Option β} (h : cl o k = some res) : ∃ r g, o = some (r, g) ∧ k r g = some res := by
  cases o with
  | none => cases h
  | some q => exact ⟨q.1, q.2, rfl, h⟩
theorem bn_some {α : Type} {v : α} {k : α → Option β} (h : bn v k = some res) : ∃ x, x = v ∧ k x = some res := ⟨v, rfl, h⟩
theorem w_bnI {v : Int32} {k : Int32 → Option β} (hE : bn v k = some res) (kk : ∀ x, k x = some res → W p l e R s m args below meth c H locs cells slots Q (F0 m pc ls (.int x :: rest))) : W p l e R s m args below meth c H locs cells slots Q (F0 m pc ls (.int v :: rest)) := kk v hE
theorem w_bnJ {v : Int64} {k : Int64 → Option β} (hE : bn v k = some res) (kk : ∀ x, k x = some res → W p l e R s m args below meth c H locs cells slots Q (F0 m pc ls (.long x :: rest))) : W p l e R s m args below meth c H locs cells slots Q (F0 m pc ls (.long v :: rest)) := kk v hE
/-! a reference, perhaps null -/
theorem w_aload_n {k : Fin 4} {i : Nat} {r : Option Nat} (C : MX p s m args meth c cc nL ret own Ts) (hdg : decode cc pc = .ok (.aload_n k, 1)) (hi : (k : Nat) = i) (hl : ls[i]? = some (.val (va_rf r)))
    (k : W p l e R s m args below meth c H locs cells slots Q (F0 m (pc + 1) ls (va_rf r :: rest))) : W p l e R s m args below meth c H locs cells slots Q (F0 m pc ls rest) := by
  cases r with
  | none => exact lv_aload_nN C.1 C.2.1 hdg hi hl k
  | some a => exact lv_aload_n C.1 C.2.1 hdg hi hl k
theorem w_aload {i : Nat} {r : Option Nat} (C : MX p s m args meth c cc nL ret own Ts) (hdg : decode cc pc = .ok (.aload i, 2)) (hl : ls[i]? = some (.val (va_rf r)))
    (k : W p l e R s m args below meth c H locs cells slots Q (F0 m (pc + 2) ls (va_rf r :: rest))) : W p l e R s m args below meth c H locs cells slots Q (F0 m pc ls rest) := by
  cases r with
  | none => exact lv_aloadN C.1 C.2.1 hdg hl k
  | some a => exact lv_aload C.1 C.2.1 hdg hl k
/-! fields -/
theorem w_gI {r : Option Nat} {ci k N index : Nat} {CN ref : String} {T : u_T} {f : Int32 → Option β} (C : MX p s m args meth c cc nL ret own Ts) (w : wd D cy z s cells h H locs) (hc : cls[ci]? = some (CN, T, N)) (hci : ci + 1 < 50) (hin : ∀ w ∈ u_ws CN T N, w ∈ Ts) (hk : k < N) (ht : (tcs ci)[k]? = some 0) (hlink : (Cond.fieldLink own index ref (T k).2.1 (T k).2.2.1) ∈ Ts) (hsame : (T k).1 = ref) (hdg : decode cc pc = .ok (.getfield index, 3)) (hE : gI h r ci k f = some res)
    (kk : ∀ v, f v = some res → W p l e R s m args below meth c H locs cells slots Q (F0 m (pc + 3) ls (.int v :: rest))) : W p l e R s m args below meth c H locs cells slots Q (F0 m pc ls (va_rf r :: rest)) := by
  obtain ⟨a, hr, hE1⟩ := nn_some hE
  obtain ⟨hka, hE2⟩ := if_some hE1
  obtain ⟨q2, q5⟩ := wd_rd w (a := a) (by omega)
  subst hr
  refine va_get (D := D) C.1 C.2.1 C.2.2.2.2.2.1 hin C.2.2.2.2.1 q5 q2 0 (by rw [cf_obj hka hci]; rfl) hc k hk (C.2.2.2.2.2.1 _ hlink) (fun x h9 => by rw [← hsame]; exact h9) (fvs_get ht) hdg (kk _ hE2)
theorem w_gJ {r : Option Nat} {ci k N index : Nat} {CN ref : String} {T : u_T} {f : Int64 → Option β} (C : MX p s m args meth c cc nL ret own Ts) (w : wd D cy z s cells h H locs) (hc : cls[ci]? = some (CN, T, N)) (hci : ci + 1 < 50) (hin : ∀ w ∈ u_ws CN T N, w ∈ Ts) (hk : k < N) (ht : (tcs ci)[k]? = some 1) (hlink : (Cond.fieldLink own index ref (T k).2.1 (T k).2.2.1) ∈ Ts) (hsame : (T k).1 = ref) (hdg : decode cc pc = .ok (.getfield index, 3)) (hE : gJ h r ci k f = some res)
    (kk : ∀ v, f v = some res → W p l e R s m args below meth c H locs cells slots Q (F0 m (pc + 3) ls (.long v :: rest))) : W p l e R s m args below meth c H locs cells slots Q (F0 m pc ls (va_rf r :: rest)) := by
  obtain ⟨a, hr, hE1⟩ := nn_some hE
  obtain ⟨hka, hE2⟩ := if_some hE1
  obtain ⟨q2, q5⟩ := wd_rd w (a := a) (by omega)
  subst hr
  refine va_get (D := D) C.1 C.2.1 C.2.2.2.2.2.1 hin C.2.2.2.2.1 q5 q2 0 (by rw [cf_obj hka hci]; rfl) hc k hk (C.2.2.2.2.2.1 _ hlink) (fun x h9 => by rw [← hsame]; exact h9) (fvs_get ht) hdg (kk _ hE2)
theorem w_gR {r : Option Nat} {ci k N index : Nat} {CN ref : String} {T : u_T} {f : Option Nat → Option β} (C : MX p s m args meth c cc nL ret own Ts) (w : wd D cy z s cells h H locs) (hc : cls[ci]? = some (CN, T, N)) (hci : ci + 1 < 50) (hin : ∀ w ∈ u_ws CN T N, w ∈ Ts) (hk : k < N) (ht : (tcs ci)[k]? = some 2) (hlink : (Cond.fieldLink own index ref (T k).2.1 (T k).2.2.1) ∈ Ts) (hsame : (T k).1 = ref) (hdg : decode cc pc = .ok (.getfield index, 3)) (hE : gR h r ci k f = some res)
    (kk : ∀ v, f v = some res → W p l e R s m args below meth c H locs cells slots Q (F0 m (pc + 3) ls (va_rf v :: rest))) : W p l e R s m args below meth c H locs cells slots Q (F0 m pc ls (va_rf r :: rest)) := by
  obtain ⟨a, hr, hE1⟩ := nn_some hE
  obtain ⟨hka, hE2⟩ := if_some hE1
  obtain ⟨q2, q5⟩ := wd_rd w (a := a) (by omega)
  subst hr
  refine va_get (D := D) C.1 C.2.1 C.2.2.2.2.2.1 hin C.2.2.2.2.1 q5 q2 0 (by rw [cf_obj hka hci]; rfl) hc k hk (C.2.2.2.2.2.1 _ hlink) (fun x h9 => by rw [← hsame]; exact h9) (fvs_get ht) hdg (kk _ hE2)
theorem w_put {a ci k N index t : Nat} {CN ref : String} {T : u_T} {g : hS} {v : Value} {ty : FieldType} (C : MX p s m args meth c cc nL ret own Ts) (w : wd D cy z s cells h H locs) (hc : cls[ci]? = some (CN, T, N)) (hci : ci + 1 < 50) (hro : ¬ roK (ci + 1)) (hin : ∀ w ∈ u_ws CN T N, w ∈ Ts) (ty0 : Nat → FieldType) (hty : ∀ k, k < N → parseFieldDescriptor (T k).2.2.1 = some (ty0 k)) (hnm : ∀ a, a < N → ∀ b, b < N → a ≠ b → (T a).2.1 ≠ (T b).2.1) (hk : k < N) (ht : (tcs ci)[k]? = some t) (hlink : (Cond.fieldLink own index ref (T k).2.1 (T k).2.2.1) ∈ Ts) (hsame : (T k).1 = ref) (hfin : (T k).2.2.2 = false) (hd : parseFieldDescriptor (T k).2.2.1 = some ty) (hn : narrow ty v = v) (hfit : fits ty v = true)
    (hka : h_k h a = ci + 1) (hgk : h_k g = h_k h) (hgn : h_n g = h_n h) (hgx : h_x g = h_x h) (hgo : ∀ b, b ≠ a → h_i g b = h_i h b ∧ h_j g b = h_j h b ∧ h_r g b = h_r h b) (hgi : ∀ j, j ≠ k → h_i g a j = h_i h a j) (hgj : ∀ j, j ≠ k → h_j g a j = h_j h a j) (hgr : ∀ j, j ≠ k → h_r g a j = h_r h a j) (hv : slv (h_i g a) (h_j g a) (h_r g a) t k = v)
    (hdg : decode cc pc = .ok (.putfield index, 3))
    (kk : ∀ (H1 : Heap) (locs1 : List Loc), wd D cy z s cells g H1 locs1 → W p l e R s m args below meth c H1 locs1 cells slots Q (F0 m (pc + 3) ls rest)) : W p l e R s m args below meth c H locs cells slots Q (F0 m pc ls (v :: .ref a :: rest)) := by
  obtain ⟨L, q0, q1, q2, q3, q4, q5, w0, ha, hq⟩ := wd_at w (a := a) (by omega) (by rw [hka]; first | exact hro | (unfold roK; omega))
  have hlt : k < (tcs ci).length := (List.getElem?_eq_some_iff.mp ht).1
  refine va_put (D := D) C.1 C.2.1 C.2.2.2.2.2.1 hin ty0 hty hnm C.2.2.2.2.1 q5 q2 q3 q4 q0 (by rw [hq, cf_obj hka hci]) hc k hk (C.2.2.2.2.2.1 _ hlink) (fun x h9 => by rw [← hsame]; exact h9) hfin hd hn hfit (by rw [fvs_len]; exact hlt) hdg (fun H1 locs1 h1 h2 h3 => wd_up w0 q1 q3 ha (by omega) hq hgk hgx (fun b hb => (hgo b hb).2.2) ?_ (fun b hb => cf_congr (by rw [hgk]) (by rw [hgn]) (hgo b hb).1 (hgo b hb).2.1 (hgo b hb).2.2) h1 h2 h3 (fun w1 => kk H1 locs1 w1))
  rw [cf_obj (h := g) (by rw [hgk]; exact hka) hci, ← hv, fvs_set ht hgi hgj hgr]
theorem w_pI {r : Option Nat} {ci k N index : Nat} {CN ref : String} {T : u_T} {v : Int32} {f : hS → Option β} (C : MX p s m args meth c cc nL ret own Ts) (w : wd D cy z s cells h H locs) (hc : cls[ci]? = some (CN, T, N)) (hci : ci + 1 < 50) (hro : ¬ roK (ci + 1)) (hin : ∀ w ∈ u_ws CN T N, w ∈ Ts) (ty0 : Nat → FieldType) (hty : ∀ k, k < N → parseFieldDescriptor (T k).2.2.1 = some (ty0 k)) (hnm : ∀ a, a < N → ∀ b, b < N → a ≠ b → (T a).2.1 ≠ (T b).2.1) (hk : k < N) (ht : (tcs ci)[k]? = some 0) (hlink : (Cond.fieldLink own index ref (T k).2.1 (T k).2.2.1) ∈ Ts) (hsame : (T k).1 = ref) (hfin : (T k).2.2.2 = false) (hd : parseFieldDescriptor (T k).2.2.1 = some .int)
    (hdg : decode cc pc = .ok (.putfield index, 3)) (hE : pI h r ci k v f = some res)
    (kk : ∀ (g : hS) (H1 : Heap) (locs1 : List Loc), wd D cy z s cells g H1 locs1 → sm g h → f g = some res → W p l e R s m args below meth c H1 locs1 cells slots Q (F0 m (pc + 3) ls rest)) : W p l e R s m args below meth c H locs cells slots Q (F0 m pc ls (.int v :: va_rf r :: rest)) := by
  obtain ⟨a, hr, hE1⟩ := nn_some hE
  obtain ⟨hka, hE2⟩ := if_some hE1
  subst hr
  refine w_put (g := s_i h a k v) C w hc hci hro hin ty0 hty hnm hk ht hlink hsame hfin hd rfl rfl hka rfl rfl rfl (fun b hb => ⟨by rw [h_i_si, if_neg hb], rfl, rfl⟩) (fun j hj => by rw [h_i_si, if_pos rfl]; simp [upd, hj]) (fun _ _ => rfl) (fun _ _ => rfl) (by simp [slv, h_i_si, upd]) hdg (fun H1 locs1 w1 => kk _ H1 locs1 w1 ⟨rfl, rfl, rfl, rfl⟩ hE2)
theorem w_pZ {r : Option Nat} {ci k N index : Nat} {CN ref : String} {T : u_T} {v : Int32} {f : hS → Option β} (C : MX p s m args meth c cc nL ret own Ts) (w : wd D cy z s cells h H locs) (hc : cls[ci]? = some (CN, T, N)) (hci : ci + 1 < 50) (hro : ¬ roK (ci + 1)) (hin : ∀ w ∈ u_ws CN T N, w ∈ Ts) (ty0 : Nat → FieldType) (hty : ∀ k, k < N → parseFieldDescriptor (T k).2.2.1 = some (ty0 k)) (hnm : ∀ a, a < N → ∀ b, b < N → a ≠ b → (T a).2.1 ≠ (T b).2.1) (hk : k < N) (ht : (tcs ci)[k]? = some 0) (hlink : (Cond.fieldLink own index ref (T k).2.1 (T k).2.2.1) ∈ Ts) (hsame : (T k).1 = ref) (hfin : (T k).2.2.2 = false) (hd : parseFieldDescriptor (T k).2.2.1 = some .boolean)
    (hdg : decode cc pc = .ok (.putfield index, 3)) (hE : pZ h r ci k v f = some res)
    (kk : ∀ (g : hS) (H1 : Heap) (locs1 : List Loc), wd D cy z s cells g H1 locs1 → sm g h → f g = some res → W p l e R s m args below meth c H1 locs1 cells slots Q (F0 m (pc + 3) ls rest)) : W p l e R s m args below meth c H locs cells slots Q (F0 m pc ls (.int v :: va_rf r :: rest)) := by
  obtain ⟨a, hr, hE1⟩ := nn_some hE
  obtain ⟨⟨hka, hz⟩, hE2⟩ := if_some hE1
  have hv0 : narrow .boolean (.int v) = .int v ∧ fits .boolean (.int v) = true := by rcases hz with q | q <;> (rw [q]; exact ⟨rfl, rfl⟩)
  subst hr
  refine w_put (g := s_i h a k v) C w hc hci hro hin ty0 hty hnm hk ht hlink hsame hfin hd hv0.1 hv0.2 hka rfl rfl rfl (fun b hb => ⟨by rw [h_i_si, if_neg hb], rfl, rfl⟩) (fun j hj => by rw [h_i_si, if_pos rfl]; simp [upd, hj]) (fun _ _ => rfl) (fun _ _ => rfl) (by simp [slv, h_i_si, upd]) hdg (fun H1 locs1 w1 => kk _ H1 locs1 w1 ⟨rfl, rfl, rfl, rfl⟩ hE2)
/-! arrays -/
theorem w_aI {r : Option Nat} {i : Int32} {f : Int32 → Option β} (C : MX p s m args meth c cc nL ret own Ts) (w : wd D cy z s cells h H locs) (hdg : decode cc pc = .ok (.iaload, 1)) (hE : aI h 50 r i f = some res)
    (kk : ∀ v, f v = some res → W p l e R s m args below meth c H locs cells slots Q (F0 m (pc + 1) ls (.int v :: rest))) : W p l e R s m args below meth c H locs cells slots Q (F0 m pc ls (.int i :: va_rf r :: rest)) := by
  obtain ⟨a, hr, hE1⟩ := nn_some hE
  obtain ⟨⟨hka, hi⟩, hE2⟩ := if_some hE1
  obtain ⟨q2, q5⟩ := wd_rd w (a := a) (by omega)
  subst hr
  exact va_iald (D := D) C.1 C.2.1 q5 q2 0 0 (by rw [cf_ints hka (by omega) (by omega) (by omega)]; rfl) rfl hi hdg (kk _ hE2)
theorem w_aZ {r : Option Nat} {i : Int32} {f : Int32 → Option β} (C : MX p s m args meth c cc nL ret own Ts) (w : wd D cy z s cells h H locs) (hdg : decode cc pc = .ok (.baload, 1)) (hE : aI h 53 r i f = some res)
    (kk : ∀ v, f v = some res → W p l e R s m args below meth c H locs cells slots Q (F0 m (pc + 1) ls (.int v :: rest))) : W p l e R s m args below meth c H locs cells slots Q (F0 m pc ls (.int i :: va_rf r :: rest)) := by
  obtain ⟨a, hr, hE1⟩ := nn_some hE
  obtain ⟨⟨hka, hi⟩, hE2⟩ := if_some hE1
  obtain ⟨q2, q5⟩ := wd_rd w (a := a) (by omega)
  subst hr
  exact va_zald (D := D) C.1 C.2.1 q5 q2 0 3 (by rw [cf_ints hka (by omega) (by omega) (by omega)]; rfl) rfl hi hdg (kk _ hE2)
theorem w_aB {r : Option Nat} {i : Int32} {f : Int32 → Option β} (C : MX p s m args meth c cc nL ret own Ts) (w : wd D cy z s cells h H locs) (hdg : decode cc pc = .ok (.baload, 1)) (hE : aI h 52 r i f = some res)
    (kk : ∀ v, f v = some res → W p l e R s m args below meth c H locs cells slots Q (F0 m (pc + 1) ls (.int v :: rest))) : W p l e R s m args below meth c H locs cells slots Q (F0 m pc ls (.int i :: va_rf r :: rest)) := by
  obtain ⟨a, hr, hE1⟩ := nn_some hE
  obtain ⟨⟨hka, hi⟩, hE2⟩ := if_some hE1
  obtain ⟨q2, q5⟩ := wd_rd w (a := a) (by omega)
  subst hr
  exact va_bald (D := D) C.1 C.2.1 q5 q2 0 2 (by rw [cf_ints hka (by omega) (by omega) (by omega)]; rfl) rfl hi hdg (kk _ hE2)
theorem w_aJ {r : Option Nat} {i : Int32} {f : Int64 → Option β} (C : MX p s m args meth c cc nL ret own Ts) (w : wd D cy z s cells h H locs) (hdg : decode cc pc = .ok (.laload, 1)) (hE : aJ h r i f = some res)
    (kk : ∀ v, f v = some res → W p l e R s m args below meth c H locs cells slots Q (F0 m (pc + 1) ls (.long v :: rest))) : W p l e R s m args below meth c H locs cells slots Q (F0 m pc ls (.int i :: va_rf r :: rest)) := by
  obtain ⟨a, hr, hE1⟩ := nn_some hE
  obtain ⟨⟨hka, hi⟩, hE2⟩ := if_some hE1
  obtain ⟨q2, q5⟩ := wd_rd w (a := a) (by omega)
  subst hr
  exact va_lald (D := D) C.1 C.2.1 q5 q2 0 1 (by rw [cf_longs hka]; rfl) rfl hi hdg (kk _ hE2)
theorem w_uI {r : Option Nat} {i v : Int32} {f : hS → Option β} (C : MX p s m args meth c cc nL ret own Ts) (w : wd D cy z s cells h H locs) (hdg : decode cc pc = .ok (.iastore, 1)) (hE : uI h r i v f = some res)
    (kk : ∀ (g : hS) (H1 : Heap) (locs1 : List Loc), wd D cy z s cells g H1 locs1 → sm g h → f g = some res → W p l e R s m args below meth c H1 locs1 cells slots Q (F0 m (pc + 1) ls rest)) : W p l e R s m args below meth c H locs cells slots Q (F0 m pc ls (.int v :: .int i :: va_rf r :: rest)) := by
  obtain ⟨a, hr, hE1⟩ := nn_some hE
  obtain ⟨⟨hka, hi⟩, hE2⟩ := if_some hE1
  obtain ⟨L, q0, q1, q2, q3, q4, q5, w0, ha, hq⟩ := wd_at w (a := a) (by omega) (by rw [hka]; first | exact hro | (unfold roK; omega))
  subst hr
  refine va_iast (D := D) C.1 C.2.1 q5 q2 q3 q4 q0 0 (by rw [hq, cf_ints hka (by omega) (by omega) (by omega)]) rfl hi hdg (fun H1 locs1 h1 h2 h3 => wd_up (g := s_i h a i.toNatClampNeg v) w0 q1 q3 ha (by omega) hq rfl rfl (fun _ _ => rfl) ?_ (fun b hb => cf_congr rfl rfl (by rw [h_i_si, if_neg hb]) rfl rfl) h1 h2 h3 (fun w1 => kk _ H1 locs1 w1 ⟨rfl, rfl, rfl, rfl⟩ hE2))
  rw [cf_ints (h := s_i h a i.toNatClampNeg v) hka (by omega) (by omega) (by omega), h_i_si, if_pos rfl, h_n_si]
theorem w_uZ {r : Option Nat} {i v : Int32} {f : hS → Option β} (C : MX p s m args meth c cc nL ret own Ts) (w : wd D cy z s cells h H locs) (hdg : decode cc pc = .ok (.bastore, 1)) (hE : uZ h r i v f = some res)
    (kk : ∀ (g : hS) (H1 : Heap) (locs1 : List Loc), wd D cy z s cells g H1 locs1 → sm g h → f g = some res → W p l e R s m args below meth c H1 locs1 cells slots Q (F0 m (pc + 1) ls rest)) : W p l e R s m args below meth c H locs cells slots Q (F0 m pc ls (.int v :: .int i :: va_rf r :: rest)) := by
  obtain ⟨a, hr, hE1⟩ := nn_some hE
  obtain ⟨⟨hka, hi⟩, hE2⟩ := if_some hE1
  obtain ⟨L, q0, q1, q2, q3, q4, q5, w0, ha, hq⟩ := wd_at w (a := a) (by omega) (by rw [hka]; first | exact hro | (unfold roK; omega))
  subst hr
  refine va_zast (D := D) C.1 C.2.1 q5 q2 q3 q4 q0 3 (by rw [hq, cf_ints hka (by omega) (by omega) (by omega)]) rfl hi hdg (fun H1 locs1 h1 h2 h3 => wd_up (g := s_i h a i.toNatClampNeg (vp_nar .boolean v)) w0 q1 q3 ha (by omega) hq rfl rfl (fun _ _ => rfl) ?_ (fun b hb => cf_congr rfl rfl (by rw [h_i_si, if_neg hb]) rfl rfl) h1 h2 h3 (fun w1 => kk _ H1 locs1 w1 ⟨rfl, rfl, rfl, rfl⟩ hE2))
  rw [cf_ints (h := s_i h a i.toNatClampNeg (vp_nar .boolean v)) hka (by omega) (by omega) (by omega), h_i_si, if_pos rfl, h_n_si]
theorem w_uJ {r : Option Nat} {i : Int32} {v : Int64} {f : hS → Option β} (C : MX p s m args meth c cc nL ret own Ts) (w : wd D cy z s cells h H locs) (hdg : decode cc pc = .ok (.lastore, 1)) (hE : uJ h r i v f = some res)
    (kk : ∀ (g : hS) (H1 : Heap) (locs1 : List Loc), wd D cy z s cells g H1 locs1 → sm g h → f g = some res → W p l e R s m args below meth c H1 locs1 cells slots Q (F0 m (pc + 1) ls rest)) : W p l e R s m args below meth c H locs cells slots Q (F0 m pc ls (.long v :: .int i :: va_rf r :: rest)) := by
  obtain ⟨a, hr, hE1⟩ := nn_some hE
  obtain ⟨⟨hka, hi⟩, hE2⟩ := if_some hE1
  obtain ⟨L, q0, q1, q2, q3, q4, q5, w0, ha, hq⟩ := wd_at w (a := a) (by omega) (by rw [hka]; first | exact hro | (unfold roK; omega))
  subst hr
  refine va_last (D := D) C.1 C.2.1 q5 q2 q3 q4 q0 1 (by rw [hq, cf_longs hka]) rfl hi hdg (fun H1 locs1 h1 h2 h3 => wd_up (g := s_j h a i.toNatClampNeg v) w0 q1 q3 ha (by omega) hq rfl rfl (fun _ _ => rfl) ?_ (fun b hb => cf_congr rfl rfl rfl (by rw [h_j_sj, if_neg hb]) rfl) h1 h2 h3 (fun w1 => kk _ H1 locs1 w1 ⟨rfl, rfl, rfl, rfl⟩ hE2))
  rw [cf_longs (h := s_j h a i.toNatClampNeg v) hka, h_j_sj, if_pos rfl, h_n_sj]
theorem w_lenI {r : Option Nat} {f : Int32 → Option β} (C : MX p s m args meth c cc nL ret own Ts) (w : wd D cy z s cells h H locs) (hdg : decode cc pc = .ok (.arraylength, 1)) (hE : lnA h 50 r f = some res)
    (kk : ∀ v, f v = some res → W p l e R s m args below meth c H locs cells slots Q (F0 m (pc + 1) ls (.int v :: rest))) : W p l e R s m args below meth c H locs cells slots Q (F0 m pc ls (va_rf r :: rest)) := by
  obtain ⟨a, hr, hE1⟩ := nn_some hE
  obtain ⟨hka, hE2⟩ := if_some hE1
  obtain ⟨q2, q5⟩ := wd_rd w (a := a) (by omega)
  subst hr
  exact va_alen (D := D) C.1 C.2.1 q5 q2 0 0 (ty := .int) (by rw [cf_ints hka (by omega) (by omega) (by omega)]; rfl) rfl rfl hdg (kk _ hE2)
theorem w_lenJ {r : Option Nat} {f : Int32 → Option β} (C : MX p s m args meth c cc nL ret own Ts) (w : wd D cy z s cells h H locs) (hdg : decode cc pc = .ok (.arraylength, 1)) (hE : lnA h 51 r f = some res)
    (kk : ∀ v, f v = some res → W p l e R s m args below meth c H locs cells slots Q (F0 m (pc + 1) ls (.int v :: rest))) : W p l e R s m args below meth c H locs cells slots Q (F0 m pc ls (va_rf r :: rest)) := by
  obtain ⟨a, hr, hE1⟩ := nn_some hE
  obtain ⟨hka, hE2⟩ := if_some hE1
  obtain ⟨q2, q5⟩ := wd_rd w (a := a) (by omega)
  subst hr
  exact va_alen (D := D) C.1 C.2.1 q5 q2 0 1 (ty := .long) (by rw [cf_longs hka]; rfl) rfl rfl hdg (kk _ hE2)
theorem w_lenZ {r : Option Nat} {f : Int32 → Option β} (C : MX p s m args meth c cc nL ret own Ts) (w : wd D cy z s cells h H locs) (hdg : decode cc pc = .ok (.arraylength, 1)) (hE : lnA h 53 r f = some res)
    (kk : ∀ v, f v = some res → W p l e R s m args below meth c H locs cells slots Q (F0 m (pc + 1) ls (.int v :: rest))) : W p l e R s m args below meth c H locs cells slots Q (F0 m pc ls (va_rf r :: rest)) := by
  obtain ⟨a, hr, hE1⟩ := nn_some hE
  obtain ⟨hka, hE2⟩ := if_some hE1
  obtain ⟨q2, q5⟩ := wd_rd w (a := a) (by omega)
  subst hr
  exact va_alen (D := D) C.1 C.2.1 q5 q2 0 3 (ty := .boolean) (by rw [cf_ints hka (by omega) (by omega) (by omega)]; rfl) rfl rfl hdg (kk _ hE2)
end WR
