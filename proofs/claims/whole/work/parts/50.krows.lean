/-! ROWS FOR THE CLASS (written by wip/gen/krows.py) -/
section WK
variable {p : Program} {l : Launch} {e : Env} {R : Room} {s : State} {m : MethodId} {args : Array Value} {below : List Frame} {meth : Method} {c : Code} {H : Heap} {locs : List Loc} {cells slots : Nat} {Q : State → Prop} {cc : ByteArray} {nL : Nat} {ret : Option FieldType} {own : String} {Ts : List Cond} {pc : Nat} {ls : Array Slot} {rest : List Value} {D : va_G} {cy : cyT} {z : Nat} {h : hS} {β : Type} {res : β}

theorem w_null {r : Option Nat} {off : Int} {tgt : Nat} {A B : Option β} (C : MX p s m args meth c cc nL ret own Ts) (hdg : decode cc pc = .ok (.ifnull off, 3)) (ht : (pc : Int) + off = (tgt : Int)) (hE : (if r = none then A else B) = some res)
    (kt : r = none → A = some res → W p l e R s m args below meth c H locs cells slots Q (F0 m tgt ls rest)) (kf : ¬ r = none → B = some res → W p l e R s m args below meth c H locs cells slots Q (F0 m (pc + 3) ls rest)) : W p l e R s m args below meth c H locs cells slots Q (F0 m pc ls (va_rf r :: rest)) := by
  cases r with
  | none => exact lv_ifnullN C.1 C.2.1 hdg ht (kt rfl ((if_pos rfl).symm.trans hE))
  | some a => exact lv_ifnull C.1 C.2.1 hdg (kf (by simp) ((if_neg (by simp)).symm.trans hE))
theorem w_aret {v r : Option Nat} {g : hS} {rt : FieldType} (hrt : (∃ n, rt = .object n) ∨ ∃ t, rt = .array t) (C : MX p s m args meth c cc nL (some rt) own Ts) {k1 : Nat} (w : wd D cy z s k1 h H locs) (hE : some (v, h) = some (r, g)) (hdg : decode cc pc = .ok (.areturn, 1)) : W p l e R s m args below meth c H locs cells slots (MQ below (eQ D cy z (rR r) g) args s cells slots (fun q => z ≤ q)) (F0 m pc ls [va_rf v]) := by
  cases hE
  exact W.aret C.1 C.2.1 C.2.2.1 hrt (by cases v with
    | none => exact Or.inl rfl
    | some a => exact Or.inr ⟨a, rfl⟩) (fun t ht hW => ⟨rfl, wd_U w ht hW, (wd_S w).F ht⟩) (wd_S w).2.2 hdg C.2.2.2.2.2.2
theorem w_zcat (r : Option Nat) : ((va_rf r).category == 2) = false := by cases r <;> rfl
theorem w_astore_n {k : Fin 4} {i : Nat} {r : Option Nat} {lv lv' : List (Nat × Value)} (C : MX p s m args meth c cc nL ret own Ts) (hdg : decode cc pc = .ok (.astore_n k, 1)) (hi : (k : Nat) = i) (h9 : lv_has ls nL lv) (hn : i < nL) (hl : (i, va_rf r) :: lv.filter (fun q => !(q.1 == i) && !(q.1 + 1 == i && q.2.category == 2)) = lv')
    (kk : ∀ ls' : Array Slot, lv_has ls' nL lv' → W p l e R s m args below meth c H locs cells slots Q (F0 m (pc + 1) ls' rest)) : W p l e R s m args below meth c H locs cells slots Q (F0 m pc ls (va_rf r :: rest)) := by
  cases r with
  | none => exact lv_astore_nN C.1 C.2.1 hdg hi h9 hn hl kk
  | some a => exact lv_astore_n C.1 C.2.1 hdg hi h9 hn hl kk
theorem w_astore {i : Nat} {r : Option Nat} {lv lv' : List (Nat × Value)} (C : MX p s m args meth c cc nL ret own Ts) (hdg : decode cc pc = .ok (.astore i, 2)) (h9 : lv_has ls nL lv) (hn : i < nL) (hl : (i, va_rf r) :: lv.filter (fun q => !(q.1 == i) && !(q.1 + 1 == i && q.2.category == 2)) = lv')
    (kk : ∀ ls' : Array Slot, lv_has ls' nL lv' → W p l e R s m args below meth c H locs cells slots Q (F0 m (pc + 2) ls' rest)) : W p l e R s m args below meth c H locs cells slots Q (F0 m pc ls (va_rf r :: rest)) := by
  cases r with
  | none => exact lv_astoreN C.1 C.2.1 hdg h9 hn hl kk
  | some a => exact lv_astore C.1 C.2.1 hdg h9 hn hl kk
theorem w_putF {a ci k N index t : Nat} {CN ref : String} {T : u_T} {g : hS} {v : Value} {ty : FieldType} (C : MX p s m args meth c cc nL ret own Ts) (w : wd D cy z s cells h H locs) (hc : cls[ci]? = some (CN, T, N)) (hci : ci + 1 < 50) (hro : ¬ roK (ci + 1)) (hin : ∀ w ∈ u_ws CN T N, w ∈ Ts) (ty0 : Nat → FieldType) (hty : ∀ k, k < N → parseFieldDescriptor (T k).2.2.1 = some (ty0 k)) (hnm : ∀ a, a < N → ∀ b, b < N → a ≠ b → (T a).2.1 ≠ (T b).2.1) (hk : k < N) (ht : (tcs ci)[k]? = some t) (hlink : (Cond.fieldLink own index ref (T k).2.1 (T k).2.2.1) ∈ Ts) (hsame : (T k).1 = ref) (hfin : (T k).2.2.2 = true) (hin2 : meth.name = "<init>") (hdecl : (T k).1 = own) (hd : parseFieldDescriptor (T k).2.2.1 = some ty) (hn : narrow ty v = v) (hfit : fits ty v = true)
    (hka : h_k h a = ci + 1) (hgk : h_k g = h_k h) (hgn : h_n g = h_n h) (hgx : h_x g = h_x h) (hgo : ∀ b, b ≠ a → h_i g b = h_i h b ∧ h_j g b = h_j h b ∧ h_r g b = h_r h b) (hgi : ∀ j, j ≠ k → h_i g a j = h_i h a j) (hgj : ∀ j, j ≠ k → h_j g a j = h_j h a j) (hgr : ∀ j, j ≠ k → h_r g a j = h_r h a j) (hv : slv (h_i g a) (h_j g a) (h_r g a) t k = v)
    (hdg : decode cc pc = .ok (.putfield index, 3))
    (kk : ∀ (H1 : Heap) (locs1 : List Loc), wd D cy z s cells g H1 locs1 → W p l e R s m args below meth c H1 locs1 cells slots Q (F0 m (pc + 3) ls rest)) : W p l e R s m args below meth c H locs cells slots Q (F0 m pc ls (v :: .ref a :: rest)) := by
  obtain ⟨L, q0, q1, q2, q3, q4, q5, w0, ha, hq⟩ := wd_at w (a := a) (by omega) (by rw [hka]; first | exact hro | (unfold roK; omega))
  have hlt : k < (tcs ci).length := (List.getElem?_eq_some_iff.mp ht).1
  refine va_putF (D := D) C.1 C.2.1 C.2.2.2.2.2.1 hin ty0 hty hnm C.2.2.2.2.1 q5 q2 q3 q4 q0 (by rw [hq, cf_obj hka hci]) hc k hk (C.2.2.2.2.2.1 _ hlink) (fun x h9 => by rw [← hsame]; exact h9) hfin hin2 hdecl hd hn hfit (by rw [fvs_len]; exact hlt) hdg (fun H1 locs1 h1 h2 h3 => wd_up w0 q1 q3 ha (by omega) hq hgk hgx (fun b hb => (hgo b hb).2.2) ?_ (fun b hb => cf_congr (by rw [hgk]) (by rw [hgn]) (hgo b hb).1 (hgo b hb).2.1 (hgo b hb).2.2) h1 h2 h3 (fun w1 => kk H1 locs1 w1))
  rw [cf_obj (h := g) (by rw [hgk]; exact hka) hci, ← hv, fvs_set ht hgi hgj hgr]
theorem w_pJ {r : Option Nat} {ci k N index : Nat} {CN ref : String} {T : u_T} {v : Int64} {f : hS → Option β} (C : MX p s m args meth c cc nL ret own Ts) (w : wd D cy z s cells h H locs) (hc : cls[ci]? = some (CN, T, N)) (hci : ci + 1 < 50) (hro : ¬ roK (ci + 1)) (hin : ∀ w ∈ u_ws CN T N, w ∈ Ts) (ty0 : Nat → FieldType) (hty : ∀ k, k < N → parseFieldDescriptor (T k).2.2.1 = some (ty0 k)) (hnm : ∀ a, a < N → ∀ b, b < N → a ≠ b → (T a).2.1 ≠ (T b).2.1) (hk : k < N) (ht : (tcs ci)[k]? = some 1) (hlink : (Cond.fieldLink own index ref (T k).2.1 (T k).2.2.1) ∈ Ts) (hsame : (T k).1 = ref) (hfin : (T k).2.2.2 = false) (hd : parseFieldDescriptor (T k).2.2.1 = some .long)
    (hdg : decode cc pc = .ok (.putfield index, 3)) (hE : pJ h r ci k v f = some res)
    (kk : ∀ (g : hS) (H1 : Heap) (locs1 : List Loc), wd D cy z s cells g H1 locs1 → sm g h → f g = some res → W p l e R s m args below meth c H1 locs1 cells slots Q (F0 m (pc + 3) ls rest)) : W p l e R s m args below meth c H locs cells slots Q (F0 m pc ls (.long v :: va_rf r :: rest)) := by
  obtain ⟨a, hr, hE1⟩ := nn_some hE
  obtain ⟨hka, hE2⟩ := if_some hE1
  subst hr
  refine w_put (g := s_j h a k v) C w hc hci hro hin ty0 hty hnm hk ht hlink hsame hfin hd rfl rfl hka rfl rfl rfl (fun b hb => ⟨rfl, by rw [h_j_sj, if_neg hb], rfl⟩) (fun _ _ => rfl) (fun j hj => by rw [h_j_sj, if_pos rfl]; simp [vp_updL, hj]) (fun _ _ => rfl) (by simp [slv, h_j_sj, vp_updL]) hdg (fun H1 locs1 w1 => kk _ H1 locs1 w1 ⟨rfl, rfl, rfl, rfl⟩ hE2)
theorem w_pR {r : Option Nat} {ci k N index : Nat} {CN ref : String} {T : u_T} {v : Option Nat} {ty : FieldType} (hvt : (∃ n, ty = .object n) ∨ ∃ t, ty = .array t) {f : hS → Option β} (C : MX p s m args meth c cc nL ret own Ts) (w : wd D cy z s cells h H locs) (hc : cls[ci]? = some (CN, T, N)) (hci : ci + 1 < 50) (hro : ¬ roK (ci + 1)) (hin : ∀ w ∈ u_ws CN T N, w ∈ Ts) (ty0 : Nat → FieldType) (hty : ∀ k, k < N → parseFieldDescriptor (T k).2.2.1 = some (ty0 k)) (hnm : ∀ a, a < N → ∀ b, b < N → a ≠ b → (T a).2.1 ≠ (T b).2.1) (hk : k < N) (ht : (tcs ci)[k]? = some 2) (hlink : (Cond.fieldLink own index ref (T k).2.1 (T k).2.2.1) ∈ Ts) (hsame : (T k).1 = ref) (hfin : (T k).2.2.2 = false) (hd : parseFieldDescriptor (T k).2.2.1 = some ty)
    (hdg : decode cc pc = .ok (.putfield index, 3)) (hE : pR h r ci k v f = some res)
    (kk : ∀ (g : hS) (H1 : Heap) (locs1 : List Loc), wd D cy z s cells g H1 locs1 → sm g h → f g = some res → W p l e R s m args below meth c H1 locs1 cells slots Q (F0 m (pc + 3) ls rest)) : W p l e R s m args below meth c H locs cells slots Q (F0 m pc ls (va_rf v :: va_rf r :: rest)) := by
  obtain ⟨a, hr, hE1⟩ := nn_some hE
  obtain ⟨hka, hE2⟩ := if_some hE1
  subst hr
  refine w_put (g := s_r h a k v) C w hc hci hro hin ty0 hty hnm hk ht hlink hsame hfin hd (by rcases hvt with ⟨n, q⟩ | ⟨n, q⟩ <;> (rw [q]; cases v <;> rfl)) (by rcases hvt with ⟨n, q⟩ | ⟨n, q⟩ <;> (rw [q]; cases v <;> rfl)) hka rfl rfl rfl (fun b hb => ⟨rfl, rfl, by rw [h_r_sr, if_neg hb]⟩) (fun _ _ => rfl) (fun _ _ => rfl) (fun j hj => by rw [h_r_sr, if_pos rfl]; simp [va_up, hj]) (by simp [slv, h_r_sr, va_up]) hdg (fun H1 locs1 w1 => kk _ H1 locs1 w1 ⟨rfl, rfl, rfl, rfl⟩ hE2)
theorem w_pIF {r : Option Nat} {ci k N index : Nat} {CN ref : String} {T : u_T} {v : Int32} {f : hS → Option β} (C : MX p s m args meth c cc nL ret own Ts) (w : wd D cy z s cells h H locs) (hc : cls[ci]? = some (CN, T, N)) (hci : ci + 1 < 50) (hro : ¬ roK (ci + 1)) (hin : ∀ w ∈ u_ws CN T N, w ∈ Ts) (ty0 : Nat → FieldType) (hty : ∀ k, k < N → parseFieldDescriptor (T k).2.2.1 = some (ty0 k)) (hnm : ∀ a, a < N → ∀ b, b < N → a ≠ b → (T a).2.1 ≠ (T b).2.1) (hk : k < N) (ht : (tcs ci)[k]? = some 0) (hlink : (Cond.fieldLink own index ref (T k).2.1 (T k).2.2.1) ∈ Ts) (hsame : (T k).1 = ref) (hfin : (T k).2.2.2 = true) (hin2 : meth.name = "<init>") (hdecl : (T k).1 = own) (hd : parseFieldDescriptor (T k).2.2.1 = some .int)
    (hdg : decode cc pc = .ok (.putfield index, 3)) (hE : pI h r ci k v f = some res)
    (kk : ∀ (g : hS) (H1 : Heap) (locs1 : List Loc), wd D cy z s cells g H1 locs1 → sm g h → f g = some res → W p l e R s m args below meth c H1 locs1 cells slots Q (F0 m (pc + 3) ls rest)) : W p l e R s m args below meth c H locs cells slots Q (F0 m pc ls (.int v :: va_rf r :: rest)) := by
  obtain ⟨a, hr, hE1⟩ := nn_some hE
  obtain ⟨hka, hE2⟩ := if_some hE1
  subst hr
  refine w_putF (g := s_i h a k v) C w hc hci hro hin ty0 hty hnm hk ht hlink hsame hfin hin2 hdecl hd rfl rfl hka rfl rfl rfl (fun b hb => ⟨by rw [h_i_si, if_neg hb], rfl, rfl⟩) (fun j hj => by rw [h_i_si, if_pos rfl]; simp [upd, hj]) (fun _ _ => rfl) (fun _ _ => rfl) (by simp [slv, h_i_si, upd]) hdg (fun H1 locs1 w1 => kk _ H1 locs1 w1 ⟨rfl, rfl, rfl, rfl⟩ hE2)
theorem w_pJF {r : Option Nat} {ci k N index : Nat} {CN ref : String} {T : u_T} {v : Int64} {f : hS → Option β} (C : MX p s m args meth c cc nL ret own Ts) (w : wd D cy z s cells h H locs) (hc : cls[ci]? = some (CN, T, N)) (hci : ci + 1 < 50) (hro : ¬ roK (ci + 1)) (hin : ∀ w ∈ u_ws CN T N, w ∈ Ts) (ty0 : Nat → FieldType) (hty : ∀ k, k < N → parseFieldDescriptor (T k).2.2.1 = some (ty0 k)) (hnm : ∀ a, a < N → ∀ b, b < N → a ≠ b → (T a).2.1 ≠ (T b).2.1) (hk : k < N) (ht : (tcs ci)[k]? = some 1) (hlink : (Cond.fieldLink own index ref (T k).2.1 (T k).2.2.1) ∈ Ts) (hsame : (T k).1 = ref) (hfin : (T k).2.2.2 = true) (hin2 : meth.name = "<init>") (hdecl : (T k).1 = own) (hd : parseFieldDescriptor (T k).2.2.1 = some .long)
    (hdg : decode cc pc = .ok (.putfield index, 3)) (hE : pJ h r ci k v f = some res)
    (kk : ∀ (g : hS) (H1 : Heap) (locs1 : List Loc), wd D cy z s cells g H1 locs1 → sm g h → f g = some res → W p l e R s m args below meth c H1 locs1 cells slots Q (F0 m (pc + 3) ls rest)) : W p l e R s m args below meth c H locs cells slots Q (F0 m pc ls (.long v :: va_rf r :: rest)) := by
  obtain ⟨a, hr, hE1⟩ := nn_some hE
  obtain ⟨hka, hE2⟩ := if_some hE1
  subst hr
  refine w_putF (g := s_j h a k v) C w hc hci hro hin ty0 hty hnm hk ht hlink hsame hfin hin2 hdecl hd rfl rfl hka rfl rfl rfl (fun b hb => ⟨rfl, by rw [h_j_sj, if_neg hb], rfl⟩) (fun _ _ => rfl) (fun j hj => by rw [h_j_sj, if_pos rfl]; simp [vp_updL, hj]) (fun _ _ => rfl) (by simp [slv, h_j_sj, vp_updL]) hdg (fun H1 locs1 w1 => kk _ H1 locs1 w1 ⟨rfl, rfl, rfl, rfl⟩ hE2)
theorem w_pRF {r : Option Nat} {ci k N index : Nat} {CN ref : String} {T : u_T} {v : Option Nat} {ty : FieldType} (hvt : (∃ n, ty = .object n) ∨ ∃ t, ty = .array t) {f : hS → Option β} (C : MX p s m args meth c cc nL ret own Ts) (w : wd D cy z s cells h H locs) (hc : cls[ci]? = some (CN, T, N)) (hci : ci + 1 < 50) (hro : ¬ roK (ci + 1)) (hin : ∀ w ∈ u_ws CN T N, w ∈ Ts) (ty0 : Nat → FieldType) (hty : ∀ k, k < N → parseFieldDescriptor (T k).2.2.1 = some (ty0 k)) (hnm : ∀ a, a < N → ∀ b, b < N → a ≠ b → (T a).2.1 ≠ (T b).2.1) (hk : k < N) (ht : (tcs ci)[k]? = some 2) (hlink : (Cond.fieldLink own index ref (T k).2.1 (T k).2.2.1) ∈ Ts) (hsame : (T k).1 = ref) (hfin : (T k).2.2.2 = true) (hin2 : meth.name = "<init>") (hdecl : (T k).1 = own) (hd : parseFieldDescriptor (T k).2.2.1 = some ty)
    (hdg : decode cc pc = .ok (.putfield index, 3)) (hE : pR h r ci k v f = some res)
    (kk : ∀ (g : hS) (H1 : Heap) (locs1 : List Loc), wd D cy z s cells g H1 locs1 → sm g h → f g = some res → W p l e R s m args below meth c H1 locs1 cells slots Q (F0 m (pc + 3) ls rest)) : W p l e R s m args below meth c H locs cells slots Q (F0 m pc ls (va_rf v :: va_rf r :: rest)) := by
  obtain ⟨a, hr, hE1⟩ := nn_some hE
  obtain ⟨hka, hE2⟩ := if_some hE1
  subst hr
  refine w_putF (g := s_r h a k v) C w hc hci hro hin ty0 hty hnm hk ht hlink hsame hfin hin2 hdecl hd (by rcases hvt with ⟨n, q⟩ | ⟨n, q⟩ <;> (rw [q]; cases v <;> rfl)) (by rcases hvt with ⟨n, q⟩ | ⟨n, q⟩ <;> (rw [q]; cases v <;> rfl)) hka rfl rfl rfl (fun b hb => ⟨rfl, rfl, by rw [h_r_sr, if_neg hb]⟩) (fun _ _ => rfl) (fun _ _ => rfl) (fun j hj => by rw [h_r_sr, if_pos rfl]; simp [va_up, hj]) (by simp [slv, h_r_sr, va_up]) hdg (fun H1 locs1 w1 => kk _ H1 locs1 w1 ⟨rfl, rfl, rfl, rfl⟩ hE2)
/-- a new cell that holds something -/
theorem wd_pushG {g : hS} {E : va_E} {H1 : Heap} {kd : Nat} (w : wd D cy z s cells h H locs) (hkd : ¬ roK kd) (gk : ∀ b, h_k g b = if b = h_x h then kd else h_k h b) (gr0 : ∀ b, b ≠ h_x h → h_r g b = h_r h b) (gx : h_x g = h_x h + 1) (gc : cf cy.1 g (h_x h) = E) (go : ∀ b, b ≠ h_x h → cf cy.1 g b = cf cy.1 h b) (hnew : va_at D cls (H.size, E) H1) (hsz : H1.size = H.size + 1) (hold : ∀ q, q < H.size → H1[q]? = H[q]?) : wd D cy z s (cells + 1) g H1 locs := by
  obtain ⟨L, q1, q2, q3, q4, q5, q6, q7, q8, q9, q10, q11, q12⟩ := w
  have hfr : H.size ∉ L := va_pl_fresh (X := []) q2 (Nat.le_refl _)
  have hx0 : (0 : Nat) ≠ h_x h := by have := q4.1; omega
  have e1 : va_pl L (cf cy.1 h) ++ [(H.size, E)] = va_pl (L ++ [H.size]) (va_up (cf cy.1 h) H.size E) := va_pl_push hfr
  have e2 : va_pl (L ++ [H.size]) (va_up (cf cy.1 h) H.size E) = va_pl (L ++ [H.size]) (cf cy.1 g) := va_pl_congr (fun b => by
    by_cases hb : b = H.size
    · rw [hb, va_up, if_pos rfl, q7, gc]
    · rw [va_up, if_neg hb, go b (by rw [← q7]; exact hb)])
  have hP1 : va_P D cls (va_pl L (cf cy.1 h) ++ [(H.size, E)]) H1 := (q2.kept (fun k x hx => hold x.1 ((q2 k x hx).lt))).app (fun k x hx => by
    have hz : k < 1 := (List.getElem?_eq_some_iff.mp hx).1
    rw [show k = 0 by omega] at hx
    cases hx
    exact hnew)
  have hD1 : va_D (fun q => z ≤ q) (va_pl L (cf cy.1 h) ++ [(H.size, E)]) := q3.push q2 rfl (Nat.le_trans q6.2 q4.1)
  rw [e1, e2] at hP1 hD1
  refine ⟨L ++ [H.size], fun a h1 h2 => ?_, hP1, hD1, ⟨by have := q4.1; omega, fun q u1 u2 => (hold q (Nat.lt_of_lt_of_le u1 q4.1)).trans (q4.2.1 q u1 u2), q4.2.2⟩, q5, q6, by rw [gx]; omega, by omega, fun a ha => ?_, q10, by rw [gk, if_neg hx0]; exact q11, by rw [gr0 0 hx0]; exact q12⟩
  · by_cases hb : a = h_x h
    · rw [hb, ← q7]; simp
    · rw [gk, if_neg hb] at h1 h2
      exact List.mem_append_left _ (q1 a h1 h2)
  · by_cases hb : a = h_x h
    · rw [gk, if_pos hb] at ha
      exact absurd ha hkd
    · rw [gk, if_neg hb] at ha
      obtain ⟨v1, v2⟩ := q9 a ha
      exact ⟨v1, v2.of ha (by rw [gk, if_neg hb]) (gr0 a hb) (go a hb)⟩
theorem cfv_refs (cy : Nat → ClassId) {kd : Nat} (n : Nat) (h60 : 60 ≤ kd) : cfv cy kd n (fun _ => 0) (fun _ => 0) (fun _ => none) = .inl (cy kd, n, .inr (.inr (.inr (.inr (fun _ => none))))) := by
  have h1 : ¬ kd < 50 := by omega
  have h2 : ¬ kd = 51 := by omega
  have h3 : ¬ kd < 60 := by omega
  simp [cfv, h1, h2, h3]
theorem cfv_obj0 (cy : Nat → ClassId) {ci : Nat} (n : Nat) (hci : ci + 1 < 50) : cfv cy (ci + 1) n (fun _ => 0) (fun _ => 0) (fun _ => none) = .inr (ci, fvs (tcs ci) (fun _ => 0) (fun _ => 0) (fun _ => none)) := by
  simp [cfv, hci]
theorem w_newO {ci N index : Nat} {CN : String} {T : u_T} {f : Nat → hS → Option β} (C : MX p s m args meth c cc nL ret own Ts) (w : wd D cy z s cells h H locs) (hc : cls[ci]? = some (CN, T, N)) (hci : ci + 1 < 50) (hin : ∀ w ∈ u_ws CN T N, w ∈ Ts) (ty0 : Nat → FieldType) (hty : ∀ k, k < N → parseFieldDescriptor (T k).2.2.1 = some (ty0 k)) (hcl : Cond.classLink own index CN ∈ Ts) (hinst : Cond.instantiable CN N ∈ Ts) (hini : Cond.initialized CN ∈ Ts) (hfs : ∀ j, j < N → defaultValue (ty0 j) = vp_V (fvs (tcs ci) (fun _ => 0) (fun _ => 0) (fun _ => none)) j) (hdg : decode cc pc = .ok (.new index, 3)) (hE : nwO h ci N f = some res) (hcc : cells + 1 ≤ R.cells) (hss : slots + N ≤ R.slots)
    (kk : ∀ (H1 : Heap), wd D cy z s (cells + 1) (nw h (ci + 1) 0 N) H1 locs → f (h_x h) (nw h (ci + 1) 0 N) = some res → W p l e R s m args below meth c H1 locs (cells + 1) (slots + N) Q (F0 m (pc + 3) ls (.ref (h_x h) :: rest))) : W p l e R s m args below meth c H locs cells slots Q (F0 m pc ls rest) := by
  have hxs := (wd_x w).1
  have hK := wd_K w
  have hKn := hK.1 ci _ hc
  refine W.newcK C.1 C.2.1 C.2.2.2.2.1 (C.2.2.2.2.2.1 _ hcl) (C.2.2.2.2.2.1 _ hinst) (C.2.2.2.2.2.1 _ hini) rfl hdg hcc hss hKn.2.1 rfl (fun H1 kC hkC e1 z1 o1 => ?_)
  have w1 := wd_push (kd := ci + 1) (n := 0) (ms := N) w (by unfold roK; omega) (cfv_obj0 cy.1 0 hci) (H1 := H1) ⟨_, hc, (u_born ty0 C.2.2.2.2.2.1 hin hKn hkC e1 hty).to hfs⟩ z1 o1
  have k1 := kk H1 w1 hE
  rw [← hxs] at k1
  exact k1
theorem w_anw {kd t0 index : Nat} {CN : String} {n : Int32} {f : Nat → hS → Option β} (C : MX p s m args meth c cc nL ret own Ts) (w : wd D cy z s cells h H locs) (hcl : Cond.classLink own index CN ∈ Ts) (hao : CN ∈ aos) (ht : (tys cy.1)[t0]? = some (cy.1 kd, .object CN)) (h60 : 60 ≤ kd) (hdg : decode cc pc = .ok (.anewarray index, 3)) (hE : nwA h kd n f = some res) (hcc : cells + 1 ≤ R.cells) (hss : slots + n.toNatClampNeg ≤ R.slots)
    (kk : ∀ (H1 : Heap), wd D cy z s (cells + 1) (nw h kd n.toNatClampNeg n.toNatClampNeg) H1 locs → f (h_x h) (nw h kd n.toNatClampNeg n.toNatClampNeg) = some res → W p l e R s m args below meth c H1 locs (cells + 1) (slots + n.toNatClampNeg) Q (F0 m (pc + 3) ls (.ref (h_x h) :: rest))) : W p l e R s m args below meth c H locs cells slots Q (F0 m pc ls (.int n :: rest)) := by
  obtain ⟨⟨hn, hN⟩, hE1⟩ := nwA_some hE
  have hxs := (wd_x w).1
  have hK := wd_K w
  refine W.anew C.1 C.2.1 C.2.2.2.2.1 (C.2.2.2.2.2.1 _ hcl) (va_AO.use ((wd_X w).1.2.2.2.2.1 _ hao)) rfl hdg rfl hn (by omega) hcc hss (fun cA kA comp f1 f2 f3 f4 => ?_)
  obtain ⟨kA', comp', g1, g2, g3, g4⟩ := (hK.2 t0 _ ht).2
  have hcA : cA = cy.1 kd := Option.some.inj (f1.symm.trans g4)
  generalize hH1 : H.push ({ cls := cA, slots := Array.replicate n.toNatClampNeg .null, vm := .none } : Cell) = H1
  have z1 : H1.size = H.size + 1 := by rw [← hH1, Array.size_push]
  have e1 : H1[H.size]? = some (arrV cA n.toNatClampNeg (fun _ => .null)) := by rw [← hH1, Array.getElem?_push_size, ← arrV_new]
  have o1 : ∀ q : Nat, q < H.size → H1[q]? = H[q]? := fun q hq => by rw [← hH1, Array.getElem?_push, if_neg (Nat.ne_of_lt hq)]
  have w1 := wd_push (kd := kd) (n := n.toNatClampNeg) (ms := n.toNatClampNeg) w (by unfold roK; omega) (cfv_refs cy.1 _ h60) (H1 := H1) (by
    show H1[H.size]? = some (vp_cell _ _)
    rw [vp_cell_q, e1, hcA]
    rfl) z1 o1
  have k1 := kk H1 w1 hE1
  rw [← hxs] at k1
  exact k1
theorem aoA.use {A : Array Value} {U : State} (q : aoA U) : (Cond.arrayOver (.array .int)).before A U = true := q
theorem w_anA {index : Nat} {n : Int32} {f : Nat → hS → Option β} (C : MX p s m args meth c cc nL ret own Ts) (w : wd D cy z s cells h H locs) (hcl : Cond.classLink own index "[I" ∈ Ts) (hdg : decode cc pc = .ok (.anewarray index, 3)) (hE : nwA h 60 n f = some res) (hcc : cells + 1 ≤ R.cells) (hss : slots + n.toNatClampNeg ≤ R.slots)
    (kk : ∀ (H1 : Heap), wd D cy z s (cells + 1) (nw h 60 n.toNatClampNeg n.toNatClampNeg) H1 locs → f (h_x h) (nw h 60 n.toNatClampNeg n.toNatClampNeg) = some res → W p l e R s m args below meth c H1 locs (cells + 1) (slots + n.toNatClampNeg) Q (F0 m (pc + 3) ls (.ref (h_x h) :: rest))) : W p l e R s m args below meth c H locs cells slots Q (F0 m pc ls (.int n :: rest)) := by
  obtain ⟨⟨hn, hN⟩, hE1⟩ := nwA_some hE
  have hxs := (wd_x w).1
  have hK := wd_K w
  have hnm : (FieldType.array FieldType.int).toString = "[I" := by decide +kernel
  refine W.anewA (t := .int) C.1 C.2.1 C.2.2.2.2.1 (by rw [hnm]; exact C.2.2.2.2.2.1 _ hcl) (aoA.use (wd_X w).1.2.2.2.2.2.2.2.2.2.2.1) rfl hdg rfl hn (by omega) hcc hss (fun cA kA comp f1 f2 f3 f4 => ?_)
  have g4 : s.vm.findClass ("[" ++ (FieldType.array FieldType.int).toString) = some (cy.1 60) := (hK.2 4 _ rfl).2
  have hcA : cA = cy.1 60 := Option.some.inj (f1.symm.trans g4)
  generalize hH1 : H.push ({ cls := cA, slots := Array.replicate n.toNatClampNeg .null, vm := .none } : Cell) = H1
  have z1 : H1.size = H.size + 1 := by rw [← hH1, Array.size_push]
  have e1 : H1[H.size]? = some (arrV cA n.toNatClampNeg (fun _ => .null)) := by rw [← hH1, Array.getElem?_push_size, ← arrV_new]
  have o1 : ∀ q : Nat, q < H.size → H1[q]? = H[q]? := fun q hq => by rw [← hH1, Array.getElem?_push, if_neg (Nat.ne_of_lt hq)]
  have w1 := wd_push (kd := 60) (n := n.toNatClampNeg) (ms := n.toNatClampNeg) w (by unfold roK; omega) (cfv_refs cy.1 _ (by omega)) (H1 := H1) (by
    show H1[H.size]? = some (vp_cell _ _)
    rw [vp_cell_q, e1, hcA]
    rfl) z1 o1
  have k1 := kk H1 w1 hE1
  rw [← hxs] at k1
  exact k1
theorem w_aRq {kd t0 : Nat} {CN : String} {r : Option Nat} {i : Int32} {f : Option Nat → Option β} (C : MX p s m args meth c cc nL ret own Ts) (w : wd D cy z s cells h H locs) (ht : (tys cy.1)[t0]? = some (cy.1 kd, .object CN)) (h60 : 60 ≤ kd) (hdg : decode cc pc = .ok (.aaload, 1)) (hE : aR h kd r i f = some res)
    (kk : ∀ v, f v = some res → W p l e R s m args below meth c H locs cells slots Q (F0 m (pc + 1) ls (va_rf v :: rest))) : W p l e R s m args below meth c H locs cells slots Q (F0 m pc ls (.int i :: va_rf r :: rest)) := by
  obtain ⟨a, hr, hE1⟩ := nn_some hE
  obtain ⟨⟨hka, hi⟩, hE2⟩ := if_some hE1
  obtain ⟨q2, q5⟩ := wd_rd w (a := a) (by omega)
  subst hr
  exact va_aldq (D := D) C.1 C.2.1 q5 q2 0 t0 (by rw [cf_refs hka h60]; rfl) ht hi hdg (kk _ hE2)
theorem w_lenRq {kd t0 : Nat} {CN : String} {r : Option Nat} {f : Int32 → Option β} (C : MX p s m args meth c cc nL ret own Ts) (w : wd D cy z s cells h H locs) (ht : (tys cy.1)[t0]? = some (cy.1 kd, .object CN)) (h60 : 60 ≤ kd) (hdg : decode cc pc = .ok (.arraylength, 1)) (hE : lnA h kd r f = some res)
    (kk : ∀ v, f v = some res → W p l e R s m args below meth c H locs cells slots Q (F0 m (pc + 1) ls (.int v :: rest))) : W p l e R s m args below meth c H locs cells slots Q (F0 m pc ls (va_rf r :: rest)) := by
  obtain ⟨a, hr, hE1⟩ := nn_some hE
  obtain ⟨hka, hE2⟩ := if_some hE1
  obtain ⟨q2, q5⟩ := wd_rd w (a := a) (by omega)
  subst hr
  exact va_alen (D := D) C.1 C.2.1 q5 q2 0 t0 (ty := .object CN) (by rw [cf_refs hka h60]; rfl) ht rfl hdg (kk _ hE2)
theorem w_uR {kd t0 ci N : Nat} {CN : String} {T : u_T} {r v : Option Nat} {i : Int32} {f : hS → Option β} (C : MX p s m args meth c cc nL ret own Ts) (w : wd D cy z s cells h H locs) (ht : (tys cy.1)[t0]? = some (cy.1 kd, .object CN)) (h60 : 60 ≤ kd) (hc : cls[ci]? = some (CN, T, N)) (hci : ci + 1 < 50) (hdg : decode cc pc = .ok (.aastore, 1)) (hE : uR h kd ci r i v f = some res)
    (kk : ∀ (g : hS) (H1 : Heap) (locs1 : List Loc), wd D cy z s cells g H1 locs1 → sm g h → f g = some res → W p l e R s m args below meth c H1 locs1 cells slots Q (F0 m (pc + 1) ls rest)) : W p l e R s m args below meth c H locs cells slots Q (F0 m pc ls (va_rf v :: .int i :: va_rf r :: rest)) := by
  obtain ⟨a, hr, hE1⟩ := nn_some hE
  obtain ⟨⟨hka, hi, hvb⟩, hE2⟩ := if_some hE1
  obtain ⟨L, q0, q1, q2, q3, q4, q5, w0, ha, hq⟩ := wd_at w (a := a) (by omega) (by rw [hka]; unfold roK; omega)
  subst hr
  cases v with
  | none => exact va_astqN (D := D) C.1 C.2.1 q5 q2 q3 q4 q0 t0 (by rw [hq, cf_refs hka h60]) ht hi hdg (fun H1 locs1 h1 h2 h3 => wd_up (g := s_r h a i.toNatClampNeg none) w0 q1 q3 ha (by omega) hq rfl rfl (fun b hb => by rw [h_r_sr, if_neg hb]) (by rw [cf_refs (h := s_r h a i.toNatClampNeg none) hka h60, h_r_sr, if_pos rfl, h_n_sr]) (fun b hb => cf_congr rfl rfl rfl rfl (by rw [h_r_sr, if_neg hb])) h1 h2 h3 (fun w1 => kk _ H1 locs1 w1 ⟨rfl, rfl, rfl, rfl⟩ hE2))
  | some b =>
    have hkb := hvb b rfl
    obtain ⟨qk, hqk⟩ := va_pl_get (X := []) (f := cf cy.1 h) (q1 b (by omega) (by rw [hkb]; unfold roK; omega))
    exact va_astq (D := D) C.1 C.2.1 q5 q2 q3 q4 q0 t0 qk ci (r := (CN, T, N)) (by rw [hq, cf_refs hka h60]) ht (by
      have hqk' : (va_pl L (cf cy.1 h))[qk]? = some (b, cf cy.1 h b) := hqk
      rw [hqk', cf_obj hkb hci]) hc hi hdg (fun H1 locs1 h1 h2 h3 => wd_up (g := s_r h a i.toNatClampNeg (some b)) w0 q1 q3 ha (by omega) hq rfl rfl (fun b hb => by rw [h_r_sr, if_neg hb]) (by rw [cf_refs (h := s_r h a i.toNatClampNeg (some b)) hka h60, h_r_sr, if_pos rfl, h_n_sr]) (fun b hb => cf_congr rfl rfl rfl rfl (by rw [h_r_sr, if_neg hb])) h1 h2 h3 (fun w1 => kk _ H1 locs1 w1 ⟨rfl, rfl, rfl, rfl⟩ hE2))
/-- a String constant into a row of Strings -/
def uS {β : Type} (h : hS) (r : Option Nat) (i : Int32) (v : Option Nat) (f : hS → Option β) : Option β := nn r fun a => nn v fun b => if h_k h a = 61 ∧ inb i (h_n h a) ∧ h_k h b = 57 then f (s_r h a i.toNatClampNeg (some b)) else none
theorem w_uS {r v : Option Nat} {i : Int32} {f : hS → Option β} (C : MX p s m args meth c cc nL ret own Ts) (w : wd D cy z s cells h H locs) (hdg : decode cc pc = .ok (.aastore, 1)) (hE : uS h r i v f = some res)
    (kk : ∀ (g : hS) (H1 : Heap) (locs1 : List Loc), wd D cy z s cells g H1 locs1 → sm g h → f g = some res → W p l e R s m args below meth c H1 locs1 cells slots Q (F0 m (pc + 1) ls rest)) : W p l e R s m args below meth c H locs cells slots Q (F0 m pc ls (va_rf v :: .int i :: va_rf r :: rest)) := by
  obtain ⟨a, hr, hE0⟩ := nn_some hE
  obtain ⟨b, hv, hE1⟩ := nn_some hE0
  obtain ⟨⟨hka, hi, hkb⟩, hE2⟩ := if_some hE1
  obtain ⟨L, q0, q1, q2, q3, q4, q5, w0, ha, hq⟩ := wd_at w (a := a) (by omega) (by rw [hka]; unfold roK; omega)
  subst hr
  subst hv
  have h60 : 60 ≤ 61 := by decide
  obtain ⟨cell9, h91, h92, h93, -⟩ := (wd_string w hkb).1.kept (wd_S w).2.1
  obtain ⟨kC, hkC, -⟩ := Vm.findClass_spec h93
  obtain ⟨kA, comp, k1, k2, k3, -⟩ := (q5.2 5 _ rfl).2
  exact va_astqM (D := D) C.1 C.2.1 q5 q2 q3 q4 q0 5 (E := "java/lang/String") (by rw [hq, cf_refs hka h60]) rfl ⟨cell9, h91, h92, ⟨kC, hkC⟩, fun comp' hc' => by
    have : cell9.cls = comp' := Option.some.inj (h93.symm.trans hc')
    rw [this]
    exact va_asg _ _⟩ hi hdg (fun H1 locs1 h1 h2 h3 => wd_up (g := s_r h a i.toNatClampNeg (some b)) w0 q1 q3 ha (by omega) hq rfl rfl (fun b hb => by rw [h_r_sr, if_neg hb]) (by rw [cf_refs (h := s_r h a i.toNatClampNeg (some b)) hka h60, h_r_sr, if_pos rfl, h_n_sr]) (fun b hb => cf_congr rfl rfl rfl rfl (by rw [h_r_sr, if_neg hb])) h1 h2 h3 (fun w1 => kk _ H1 locs1 w1 ⟨rfl, rfl, rfl, rfl⟩ hE2))
theorem w_aI56 {r : Option Nat} {i : Int32} {f : Int32 → Option β} (C : MX p s m args meth c cc nL ret own Ts) (w : wd D cy z s cells h H locs) (hdg : decode cc pc = .ok (.iaload, 1)) (hE : aI h 56 r i f = some res)
    (kk : ∀ v, f v = some res → W p l e R s m args below meth c H locs cells slots Q (F0 m (pc + 1) ls (.int v :: rest))) : W p l e R s m args below meth c H locs cells slots Q (F0 m pc ls (.int i :: va_rf r :: rest)) := by
  obtain ⟨a, hr, hE1⟩ := nn_some hE
  obtain ⟨⟨hka, hi⟩, hE2⟩ := if_some hE1
  subst hr
  exact va_ti C.1 C.2.1 (wd_statics w hka) (wd_S w) hi rfl hdg (kk _ hE2)
theorem w_gsRN {CN n d ref host : String} {k index : Nat} {f : Option Nat → Option β} (C : MX p s m args meth c cc nL ret own Ts) (w : wd D cy z s cells h H locs) (hq : (CN, n, d, Sum.inr k) ∈ sts) (hlink : (own, index, ref, n, d, host) ∈ nsf) (hsame : CN = ref) (hdg : decode cc pc = .ok (.getstatic index, 3)) (hE : bn (h_r h 0 k) f = some res)
    (kk : ∀ v, f v = some res → W p l e R s m args below meth c H locs cells slots Q (F0 m (pc + 3) ls (va_rf v :: rest))) : W p l e R s m args below meth c H locs cells slots Q (F0 m pc ls rest) := by
  have h1 := kk _ hE
  rw [(wd_X w).2.2] at h1
  exact va_getsN (v := va_rf (cy.2 k)) C.1 C.2.1 ((wd_X w).1.1 _ hq) (wd_S w) C.2.2.2.2.1 (va_Nw.use rfl ((wd_X w).1.2.2.1 _ hlink)) (fun x h9 => by rw [← hsame]; exact h9) hdg h1
theorem w_ldcS {tx : String} {k index : Nat} {f : Option Nat → Option β} (C : MX p s m args meth c cc nL ret own Ts) (w : wd D cy z s cells h H locs) (hq : (own, index, tx, k) ∈ scs) (hdg : decode cc pc = .ok (.ldc index, 2)) (hE : bn (h_r h 0 k) f = some res)
    (kk : ∀ v, f v = some res → W p l e R s m args below meth c H locs cells slots Q (F0 m (pc + 2) ls (va_rf v :: rest))) : W p l e R s m args below meth c H locs cells slots Q (F0 m pc ls rest) := by
  have h1 := kk _ hE
  rw [(wd_X w).2.2] at h1
  obtain ⟨a, h2, h3⟩ := (wd_X w).1.2.1 _ hq
  have h2 : cy.2 k = some a := h2
  rw [h2] at h1
  exact va_ldcS C.1 C.2.1 C.2.2.2.2.1 h3 hdg h1
theorem w_ldcSW {tx : String} {k index : Nat} {f : Option Nat → Option β} (C : MX p s m args meth c cc nL ret own Ts) (w : wd D cy z s cells h H locs) (hq : (own, index, tx, k) ∈ scs) (hdg : decode cc pc = .ok (.ldc_w index, 3)) (hE : bn (h_r h 0 k) f = some res)
    (kk : ∀ v, f v = some res → W p l e R s m args below meth c H locs cells slots Q (F0 m (pc + 3) ls (va_rf v :: rest))) : W p l e R s m args below meth c H locs cells slots Q (F0 m pc ls rest) := by
  have h1 := kk _ hE
  rw [(wd_X w).2.2] at h1
  obtain ⟨a, h2, h3⟩ := (wd_X w).1.2.1 _ hq
  have h2 : cy.2 k = some a := h2
  rw [h2] at h1
  intro T hT X
  obtain ⟨t, a1, b1⟩ := h1 T hT X
  exact ⟨t, X.ldcStringW C.1 C.2.2.2.2.1 (text := tx) (a := a) h3.1 h3.2 (g := F0 m pc ls rest) rfl (by rw [C.2.1]; exact hdg) t a1, b1⟩
def s_I (h : hS) (a : Nat) (F : Nat → Int32) : hS := (h.1, h.2.1, va_up h.2.2.1 a F, h.2.2.2)
def s_J (h : hS) (a : Nat) (F : Nat → Int64) : hS := (h.1, h.2.1, h.2.2.1, va_up h.2.2.2.1 a F, h.2.2.2.2)
theorem h_i_sI (h : hS) (a : Nat) (F : Nat → Int32) (b : Nat) : h_i (s_I h a F) b = if b = a then F else h_i h b := rfl
theorem h_j_sJ (h : hS) (a : Nat) (F : Nat → Int64) (b : Nat) : h_j (s_J h a F) b = if b = a then F else h_j h b := rfl
abbrev cpOK (sp dp n : Int32) (n0 n1 : Nat) : Prop := ¬ sp < 0 ∧ ¬ dp < 0 ∧ ¬ n < 0 ∧ sp.toNatClampNeg + n.toNatClampNeg ≤ n0 ∧ dp.toNatClampNeg + n.toNatClampNeg ≤ n1
/-- System.arraycopy of ints, of longs -/
def cpI {β : Type} (h : hS) (src : Option Nat) (sp : Int32) (dst : Option Nat) (dp n : Int32) (f : hS → Option β) : Option β := nn src fun a0 => nn dst fun a => if h_k h a0 = 50 ∧ h_k h a = 50 ∧ cpOK sp dp n (h_n h a0) (h_n h a) then f (s_I h a (va_cpy (h_i h a0) (h_i h a) sp.toNatClampNeg dp.toNatClampNeg n.toNatClampNeg)) else none
def cpJ {β : Type} (h : hS) (src : Option Nat) (sp : Int32) (dst : Option Nat) (dp n : Int32) (f : hS → Option β) : Option β := nn src fun a0 => nn dst fun a => if h_k h a0 = 51 ∧ h_k h a = 51 ∧ cpOK sp dp n (h_n h a0) (h_n h a) then f (s_J h a (va_cpy (h_j h a0) (h_j h a) sp.toNatClampNeg dp.toNatClampNeg n.toNatClampNeg)) else none
theorem w_cpI {src dst : Option Nat} {sp dp n : Int32} {index : Nat} {f : hS → Option β} (C : MX p s m args meth c cc nL ret own Ts) (w : wd D cy z s cells h H locs) (hsz : ls.size = nL) (g1 : Cond.methodLink own index arraycopyName ∈ Ts) (g2 : Cond.native arraycopyName ∈ Ts) (g3 : Cond.static arraycopyName ∈ Ts) (g4 : Cond.initialized "java/lang/System" ∈ Ts) (hf : 1 ≤ R.frames) (hlo : (rest.map fun v => v.category).sum + (nativeFrameWords "java/lang/System" "arraycopy" 5 + 11) ≤ R.locals) (hdg : decode cc pc = .ok (.invokestatic index, 3)) (hE : cpI h src sp dst dp n f = some res)
    (kk : ∀ (g : hS) (H1 : Heap) (locs1 : List Loc), wd D cy z s cells g H1 locs1 → sm g h → f g = some res → W p l e R s m args below meth c H1 locs1 cells slots Q (F0 m (pc + 3) ls rest)) : W p l e R s m args below meth c H locs cells slots Q (F0 m pc ls (.int n :: .int dp :: va_rf dst :: .int sp :: va_rf src :: rest)) := by
  obtain ⟨a0, hs0, hE0⟩ := nn_some hE
  obtain ⟨a, hs1, hE1⟩ := nn_some hE0
  obtain ⟨⟨hk0, hka, h1, h2, h3, h4, h5⟩, hE2⟩ := if_some hE1
  subst hs0
  subst hs1
  obtain ⟨L, q0, q1, q2, q3, q4, q5, w0, ha, hq⟩ := wd_at w (a := a) (by omega) (by rw [hka]; unfold roK; omega)
  obtain ⟨qk, hqk⟩ := va_pl_get (X := []) (f := cf cy.1 h) (q1 a0 (by omega) (by rw [hk0]; unfold roK; omega))
  have hqk : (va_pl L (cf cy.1 h))[qk]? = some (a0, cf cy.1 h a0) := hqk
  exact va_copyi C.1 C.2.1 (C.2.2.2.1.trans hsz.symm) C.2.2.2.2.1 (C.2.2.2.2.2.1 _ g1) (C.2.2.2.2.2.1 _ g2) (C.2.2.2.2.2.1 _ g3) (C.2.2.2.2.2.1 _ g4) q5 q2 q3 q4 qk q0 0 0 (by rw [hqk, cf_ints hk0 (by omega) (by omega) (by omega)]) (by rw [hq, cf_ints hka (by omega) (by omega) (by omega)]) rfl rfl rfl h1 h2 h3 h4 h5 (fun _ _ => rfl) hf hlo hdg (fun H1 locs1 u1 u2 u3 => wd_up (g := s_I h a (va_cpy (h_i h a0) (h_i h a) sp.toNatClampNeg dp.toNatClampNeg n.toNatClampNeg)) w0 q1 q3 ha (by omega) hq rfl rfl (fun _ _ => rfl) (by rw [cf_ints (h := s_I h a (va_cpy (h_i h a0) (h_i h a) sp.toNatClampNeg dp.toNatClampNeg n.toNatClampNeg)) hka (by omega) (by omega) (by omega), h_i_sI, if_pos rfl]; rfl) (fun b hb => cf_congr rfl rfl (by rw [h_i_sI, if_neg hb]) rfl rfl) u1 u2 u3 (fun w1 => kk _ H1 locs1 w1 ⟨rfl, rfl, rfl, rfl⟩ hE2))
theorem w_cpJ {src dst : Option Nat} {sp dp n : Int32} {index : Nat} {f : hS → Option β} (C : MX p s m args meth c cc nL ret own Ts) (w : wd D cy z s cells h H locs) (hsz : ls.size = nL) (g1 : Cond.methodLink own index arraycopyName ∈ Ts) (g2 : Cond.native arraycopyName ∈ Ts) (g3 : Cond.static arraycopyName ∈ Ts) (g4 : Cond.initialized "java/lang/System" ∈ Ts) (hf : 1 ≤ R.frames) (hlo : (rest.map fun v => v.category).sum + (nativeFrameWords "java/lang/System" "arraycopy" 5 + 11) ≤ R.locals) (hdg : decode cc pc = .ok (.invokestatic index, 3)) (hE : cpJ h src sp dst dp n f = some res)
    (kk : ∀ (g : hS) (H1 : Heap) (locs1 : List Loc), wd D cy z s cells g H1 locs1 → sm g h → f g = some res → W p l e R s m args below meth c H1 locs1 cells slots Q (F0 m (pc + 3) ls rest)) : W p l e R s m args below meth c H locs cells slots Q (F0 m pc ls (.int n :: .int dp :: va_rf dst :: .int sp :: va_rf src :: rest)) := by
  obtain ⟨a0, hs0, hE0⟩ := nn_some hE
  obtain ⟨a, hs1, hE1⟩ := nn_some hE0
  obtain ⟨⟨hk0, hka, h1, h2, h3, h4, h5⟩, hE2⟩ := if_some hE1
  subst hs0
  subst hs1
  obtain ⟨L, q0, q1, q2, q3, q4, q5, w0, ha, hq⟩ := wd_at w (a := a) (by omega) (by rw [hka]; unfold roK; omega)
  obtain ⟨qk, hqk⟩ := va_pl_get (X := []) (f := cf cy.1 h) (q1 a0 (by omega) (by rw [hk0]; unfold roK; omega))
  have hqk : (va_pl L (cf cy.1 h))[qk]? = some (a0, cf cy.1 h a0) := hqk
  exact va_copyl C.1 C.2.1 (C.2.2.2.1.trans hsz.symm) C.2.2.2.2.1 (C.2.2.2.2.2.1 _ g1) (C.2.2.2.2.2.1 _ g2) (C.2.2.2.2.2.1 _ g3) (C.2.2.2.2.2.1 _ g4) q5 q2 q3 q4 qk q0 1 1 (by rw [hqk, cf_longs hk0]) (by rw [hq, cf_longs hka]) rfl rfl rfl h1 h2 h3 h4 h5 (fun _ _ => rfl) hf hlo hdg (fun H1 locs1 u1 u2 u3 => wd_up (g := s_J h a (va_cpy (h_j h a0) (h_j h a) sp.toNatClampNeg dp.toNatClampNeg n.toNatClampNeg)) w0 q1 q3 ha (by omega) hq rfl rfl (fun _ _ => rfl) (by rw [cf_longs (h := s_J h a (va_cpy (h_j h a0) (h_j h a) sp.toNatClampNeg dp.toNatClampNeg n.toNatClampNeg)) hka, h_j_sJ, if_pos rfl]; rfl) (fun b hb => cf_congr rfl rfl rfl (by rw [h_j_sJ, if_neg hb]) rfl) u1 u2 u3 (fun w1 => kk _ H1 locs1 w1 ⟨rfl, rfl, rfl, rfl⟩ hE2))
/-- a new row of longs that holds F -/
def nwJ (h : hS) (n : Nat) (F : Nat → Int64) : hS := (va_up h.1 (h_x h) 51, va_up h.2.1 (h_x h) n, va_up h.2.2.1 (h_x h) (fun _ => 0), va_up h.2.2.2.1 (h_x h) F, va_up h.2.2.2.2.1 (h_x h) (fun _ => none), h_x h + 1, h_s h + n)
def clJ {β : Type} (h : hS) (r : Option Nat) (f : Nat → hS → Option β) : Option β := nn r fun a => if h_k h a = 51 then f (h_x h) (nwJ h (h_n h a) (h_j h a)) else none
theorem gr_nwJ (h : hS) (n : Nat) (F : Nat → Int64) : gr (nwJ h n F) h := ⟨Nat.le_succ _, Nat.le_add_right _ _, fun a ha => ⟨by show va_up h.1 (h_x h) 51 a = _; rw [va_up, if_neg (Nat.ne_of_lt ha)]; rfl, by show va_up h.2.1 (h_x h) n a = _; rw [va_up, if_neg (Nat.ne_of_lt ha)]; rfl⟩⟩
theorem w_clJ {r : Option Nat} {index : Nat} {f : Nat → hS → Option β} (C : MX p s m args meth c cc nL ret own Ts) (w : wd D cy z s cells h H locs) (hsz : ls.size = nL) (g1 : Cond.methodLink own index ⟨"[J", "clone", "()Ljava/lang/Object;"⟩ ∈ Ts) (g2 : Cond.sameMethod "[J" "java/lang/Object" "clone" "()Ljava/lang/Object;" ∈ Ts) (g3 : Cond.native ⟨"java/lang/Object", "clone", "()Ljava/lang/Object;"⟩ ∈ Ts) (g4 : Cond.instanceMethod ⟨"java/lang/Object", "clone", "()Ljava/lang/Object;"⟩ ∈ Ts) (g5 : Cond.selects "[J" ⟨"[J", "clone", "()Ljava/lang/Object;"⟩ ⟨"java/lang/Object", "clone", "()Ljava/lang/Object;"⟩ ∈ Ts) (hf : 1 ≤ R.frames) (hlo : (rest.map fun v => v.category).sum + 14 ≤ R.locals) (hdg : decode cc pc = .ok (.invokevirtual index, 3)) (hE : clJ h r f = some res) (hcc : ∀ a, r = some a → cells + 1 ≤ R.cells ∧ slots + h_n h a ≤ R.slots)
    (kk : ∀ (a : Nat) (H1 : Heap), r = some a → wd D cy z s (cells + 1) (nwJ h (h_n h a) (h_j h a)) H1 locs → f (h_x h) (nwJ h (h_n h a) (h_j h a)) = some res → W p l e R s m args below meth c H1 locs (cells + 1) (slots + h_n h a) Q (F0 m (pc + 3) ls (.ref (h_x h) :: rest))) : W p l e R s m args below meth c H locs cells slots Q (F0 m pc ls (va_rf r :: rest)) := by
  obtain ⟨a, hr, hE1⟩ := nn_some hE
  obtain ⟨hka, hE2⟩ := if_some hE1
  subst hr
  obtain ⟨q2, q5⟩ := wd_rd w (a := a) (by omega)
  have hxs := (wd_x w).1
  obtain ⟨c1, c2⟩ := hcc a rfl
  have hq0 : ([(a, cf cy.1 h a)] : va_W)[0]? = some (a, .inl (cy.1 51, h_n h a, .inr (.inl (h_j h a)))) := by rw [cf_longs hka]; rfl
  have hnm : s.vm.findClass "[J" = some (cy.1 51) := (q5.2 1 _ rfl).2
  have hcell : H[a]? = some (vp_cell (cy.1 51) (h_n h a, .inr (.inl (h_j h a)))) := q2 0 _ hq0
  have hszc : (vp_cell (cy.1 51) (h_n h a, .inr (.inl (h_j h a)))).slots.size = h_n h a := arrV_size _ _ _
  obtain ⟨c0, t0', f1, f2, f3⟩ := Cond.castable_spec (va_Nw.use (A := args) rfl ((wd_X w).1.2.2.2.2.2.2.1 _ (List.mem_of_getElem? (i := 2) rfl)))
  cases hnm.symm.trans f1
  intro T hT X
  have hcellT : T.heap[a]? = some (vp_cell (cy.1 51) (h_n h a, .inr (.inl (h_j h a)))) := by rw [hT]; exact hcell
  obtain ⟨-, kA, hkA, comp, hkind⟩ := State.isArrayOf_alike X.warmed.alike ((q5.2 1 _ rfl).1 0 (fun _ => .null))
  obtain ⟨-, kS, hkS, compS, hkindS⟩ := (q5.2 1 _ rfl).1 0 (fun _ => .null)
  obtain ⟨vm', X', st⟩ := X.cloneArray C.1 C.2.2.2.2.1 (C.2.2.2.2.2.1 _ g1) (C.2.2.2.2.2.1 _ g2) (C.2.2.2.2.2.1 _ g3) (C.2.2.2.2.2.1 _ g4) (C.2.2.2.2.2.1 _ g5) (a := a) (cell := vp_cell (cy.1 51) (h_n h a, .inr (.inl (h_j h a)))) hcellT (fun k h => by cases h) (fun h => by cases h) hnm f2 f3
    (fun i v hv => by
      have hk' : T.vm.classes[cy.1 51]? = some kA := hkA
      have hlt : i < h_n h a := by
        have := (Array.getElem?_eq_some_iff.mp hv).1
        rw [hszc] at this
        exact this
      have hv' : (arrV (cy.1 51) (h_n h a) (fun j => .long (h_j h a j))).slots[i]? = some v := hv
      rw [arrV_read _ _ hlt] at hv'
      cases hv'
      simp [State.fitsSlot, State.slotType?, vp_cell, arrV, hk', hkind, fits])
    (g := F0 m pc ls (.ref a :: rest)) rfl (by show ls.size = _; rw [C.2.2.2.1]; exact hsz) rfl (by rw [C.2.1]; exact hdg) hf (by show 2 * 0 + _ + 14 ≤ _; omega) c1 (by rw [hszc]; exact c2) (hloader := Vm.clonesLoader_of_array hkS hkindS)
  have hcellE : ({ cls := (vp_cell (cy.1 51) (h_n h a, .inr (.inl (h_j h a)))).cls, slots := (vp_cell (cy.1 51) (h_n h a, .inr (.inl (h_j h a)))).slots } : Cell) = vp_cell (cy.1 51) (h_n h a, .inr (.inl (h_j h a))) := rfl
  rw [hcellE, hszc] at X'
  generalize hH1 : H.push (vp_cell (cy.1 51) (h_n h a, .inr (.inl (h_j h a)))) = H1
  have z1 : H1.size = H.size + 1 := by rw [← hH1, Array.size_push]
  have e1 : H1[H.size]? = some (vp_cell (cy.1 51) (h_n h a, .inr (.inl (h_j h a)))) := by rw [← hH1, Array.getElem?_push_size]
  have o1 : ∀ q : Nat, q < H.size → H1[q]? = H[q]? := fun q hq => by rw [← hH1, Array.getElem?_push, if_neg (Nat.ne_of_lt hq)]
  have w1 := wd_pushG (g := nwJ h (h_n h a) (h_j h a)) (kd := 51) w (by unfold roK; omega) (fun b => rfl) (fun b hb => by show va_up h.2.2.2.2.1 (h_x h) (fun _ => none) b = _; rw [va_up, if_neg hb]; rfl) rfl (E := .inl (cy.1 51, h_n h a, .inr (.inl (h_j h a)))) (by simp [cf, cfv, h_k, h_n, h_j, nwJ, va_up]) (fun b hb => by simp [cf, h_k, h_n, h_i, h_j, h_r, nwJ, va_up, hb]) e1 z1 o1
  have k1 := kk a H1 rfl w1 hE2
  rw [← hxs] at k1
  obtain ⟨t, b1, b2⟩ := k1 ((T.setVm vm').pushCell (vp_cell (cy.1 51) (h_n h a, .inr (.inl (h_j h a))))) (by rw [← hH1, ← hT]; rfl) X'
  refine ⟨t, st t ?_, b2⟩
  rw [hcellE, hT]
  exact b1
theorem w_castJ {r : Option Nat} {index : Nat} (C : MX p s m args meth c cc nL ret own Ts) (w : wd D cy z s cells h H locs) (hk : ∀ a, r = some a → h_k h a = 51) (hcl : Cond.classLink own index "[J" ∈ Ts) (hdg : decode cc pc = .ok (.checkcast index, 3)) (hr : r ≠ none)
    (kk : W p l e R s m args below meth c H locs cells slots Q (F0 m (pc + 3) ls (va_rf r :: rest))) : W p l e R s m args below meth c H locs cells slots Q (F0 m pc ls (va_rf r :: rest)) := by
  cases r with
  | none => exact absurd rfl hr
  | some a =>
    have hka := hk a rfl
    obtain ⟨q2, q5⟩ := wd_rd w (a := a) (by omega)
    exact va_castA (D := D) C.1 C.2.1 C.2.2.2.2.1 (C.2.2.2.2.2.1 _ hcl) q2 0 (by rw [cf_longs hka]; rfl) (q5.2 1 _ rfl).2 hdg kk
end WK
