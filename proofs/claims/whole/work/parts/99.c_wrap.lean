/-! THE WRAPPERS OF THE LAW (written by wip/gen/genL.py) -/
set_option maxRecDepth 20000 in
set_option maxHeartbeats 4000000 in
theorem k_L_text (l : Launch) (hst : l.stackTraces = false) (D : va_G) (cy : cyT) (z N : Nat) (h : hS) (x o : Nat) (x1 : Int32) (x2 : Int32) (r : Int32 ⊕ Nat) (g : hS) (hE : f_K_text N h x x1 x2 = some (r, g)) (hkx : h_k h x = 12 + 1) (hko : h_k h o = 51 ∧ h_n h o = 1 ∧ o < h_x h) (hj : ∀ j, r = .inr j → j = 1 ∨ j = 2) : Met l yL_text (Cond.codeWith yL_text cL_text 5 (some .int) [(0, 10, 13, 13), (0, 10, 17, 15)] :: GW) { frames := 12, cells := h_x g - h_x h, slots := h_s g - h_s h, locals := 211 } (va_Pc [.ref x, .int x1, .int x2, .ref o] (wU D cy z h)) (lQ D cy z (f_K_text N h x x1 x2) (fun v => v.toInt64) (fun j => if j = 1 then 1 else 2) o) (h_x g - h_x h) (h_s g - h_s h) (fun q => z ≤ q) := by
  refine Met_ofWH (cc := cL_text) (maxL := 5) (ret := some .int) (hh := [(0, 10, 13, 13), (0, 10, 17, 15)]) (by decide) rfl ?_
  intro p e s m args below meth c s₁ B hml hv
  obtain ⟨rfl, hw⟩ := hv
  have C : MX p s m ([.ref x, .int x1, .int x2, .ref o] : List Value).toArray meth c cL_text 5 (some .int) RL (Cond.codeWith yL_text cL_text 5 (some .int) [(0, 10, 13, 13), (0, 10, 17, 15)] :: GW) := ⟨B.exec, B.bytes, B.returns, hml, findClass_of_methodNamed B.named, atoms_spec (ws := Cond.codeWith yL_text cL_text 5 (some .int) [(0, 10, 13, 13), (0, 10, 17, 15)] :: GW) B.pre, B.notSynchronized⟩
  obtain ⟨hx, hb, hr, hml, hown, hts, hlk⟩ := id C
  have htab := vx_table (x := yL_text) B (hts _ List.mem_cons_self)
  have w := wd_of hw
  obtain ⟨ls, hen, hl⟩ : ∃ ls : Array Slot, entryFrame m ([.ref x, .int x1, .int x2, .ref o] : List Value).toArray 5 = F0 m 0 ls [] ∧ lv_has ls 5 [(0, .ref x), (1, .int x1), (2, .int x2), (3, .ref o)] := ⟨_, lg_entry_eq _ _ _, lv_entry _ (Nat.le_of_ble_eq_true rfl)⟩
  rw [hen]
  have hgr := mo_K_text N h x x1 x2 _ _ hE
  refine lv_aload_n hx hb dL_text_0 rfl (lv_at hl 3 rfl) ?_
  refine lv_iconst (v := 0) hx hb dL_text_1 (by decide) ?_
  refine lv_aload_n hx hb dL_text_2 rfl (lv_at hl 0 rfl) ?_
  refine lv_iload_n hx hb dL_text_3 rfl (lv_at hl 1 rfl) ?_
  refine lv_iload_n hx hb dL_text_4 rfl (lv_at hl 2 rfl) ?_
  refine w_VC rI GW_good (n := 2) (F := 11) (Lc := 189) (av := [.int x1, .int x2]) (rest := [.int 0, .ref o]) (a := x) C w rfl (by decide) hkx (k_K_text l hst D cy z N h x x1 x2 r g hE) hgr gw_9_2 gw_9_3 gw_9_4 gw_1_2 gw_9_5 (by decide +kernel) ⟨Nat.le_of_ble_eq_true rfl, Nat.le_of_ble_eq_true rfl⟩ rfl hl.1 rfl (Nat.le_of_ble_eq_true rfl) dL_text_5 ⟨by omega, by omega⟩ (fun v H locs ev w => ?_) (fun j n H locs q9 ce ev n1 n2 w e1 e2 e3 => ?_)
  · show W p l e _ s m _ below meth c H locs _ _ _ (F0 m 8 ls [.int v, .int 0, .ref o])
    refine lv_i2l hx hb dL_text_8 rfl ?_
    have hu : uJ g (some o) (0 : Int32) (v.toInt64) (fun h2 => some h2) = some (s_j g o 0 (v.toInt64)) := by rw [show (0 : Int32) = iI ((0 : Nat) : Int) from rfl, uJ_i (n := 1) ⟨(hgr.2.2 o hko.2.2).1.trans hko.1, (hgr.2.2 o hko.2.2).2.trans hko.2.1⟩ (by omega) (by omega)]
    refine w_uJ (r := some o) C w dL_text_9 hu (fun h2 H locs w hs2 e2 => ?_)
    cases e2
    refine lv_goto (tgt := 21) hx hb dL_text_10 (by decide) ?_
    refine lv_iconst (v := 0) hx hb dL_text_21 (by decide) ?_
    exact w_iretL C w (Or.inl ⟨v, g, by rw [hE, ev], rfl, rfl⟩) (by omega) (by omega) dL_text_22
  · rcases hj j ev with ej | ej
    · subst ej
      refine vx_catch (own := RL) (name := "java/util/NoSuchElementException") (E := "java/util/NoSuchElementException") hown [] ⟨0, 10, 13, 13⟩ [⟨0, 10, 17, 15⟩] htab (fun z hz => by cases hz) (by decide) (by decide) (hts _ (List.mem_cons_of_mem _ gw_9_0)) (va_Nw.use rfl ((wd_X w).1.2.2.2.2.2.2.1 _ (List.mem_of_getElem? (i := 0) rfl))) e1 e2 e3 ?_
      refine lv_astore (lv' := [(4, .ref q9), (0, .ref x), (1, .int x1), (2, .int x2), (3, .ref o)]) hx hb dL_text_13 hl (by decide) rfl (fun ls hl => ?_)
      refine lv_iconst (v := 1) hx hb dL_text_15 (by decide) ?_
      exact w_iretL C w (Or.inr ⟨1, g, n, by rw [hE, ev], rfl, ⟨n1, n2⟩, rfl⟩) (by omega) (by omega) dL_text_16
    · subst ej
      refine vx_catch (own := RL) (name := "java/lang/IllegalArgumentException") (E := "java/lang/IllegalArgumentException") hown [⟨0, 10, 13, 13⟩] ⟨0, 10, 17, 15⟩ [] htab (fun z hz => by rcases List.mem_singleton.mp hz with rfl; exact Or.inr ⟨by decide, _, (hts _ (List.mem_cons_of_mem _ gw_9_0)), (wd_X w).1.2.2.2.2.2.2.2.1 _ (List.mem_of_getElem? (i := 0) rfl)⟩) (by decide) (by decide) (hts _ (List.mem_cons_of_mem _ gw_9_1)) (va_Nw.use rfl ((wd_X w).1.2.2.2.2.2.2.1 _ (List.mem_of_getElem? (i := 1) rfl))) e1 e2 e3 ?_
      refine lv_astore (lv' := [(4, .ref q9), (0, .ref x), (1, .int x1), (2, .int x2), (3, .ref o)]) hx hb dL_text_17 hl (by decide) rfl (fun ls hl => ?_)
      refine lv_iconst (v := 2) hx hb dL_text_19 (by decide) ?_
      exact w_iretL C w (Or.inr ⟨2, g, n, by rw [hE, ev], rfl, ⟨n1, n2⟩, rfl⟩) (by omega) (by omega) dL_text_20
set_option maxRecDepth 20000 in
set_option maxHeartbeats 4000000 in
theorem k_L_count (l : Launch) (hst : l.stackTraces = false) (D : va_G) (cy : cyT) (z N : Nat) (h : hS) (x o : Nat) (x1 : Int32) (r : Int32 ⊕ Nat) (g : hS) (hE : f_K_count N h x x1 = some (r, g)) (hkx : h_k h x = 12 + 1) (hko : h_k h o = 51 ∧ h_n h o = 1 ∧ o < h_x h) (hj : ∀ j, r = .inr j → j = 1) : Met l yL_count (Cond.codeWith yL_count cL_count 4 (some .int) [(0, 9, 12, 13)] :: GW) { frames := 10, cells := h_x g - h_x h, slots := h_s g - h_s h, locals := 164 } (va_Pc [.ref x, .int x1, .ref o] (wU D cy z h)) (lQ D cy z (f_K_count N h x x1) (fun v => v.toInt64) (fun j => if j = 1 then 1 else 2) o) (h_x g - h_x h) (h_s g - h_s h) (fun q => z ≤ q) := by
  refine Met_ofWH (cc := cL_count) (maxL := 4) (ret := some .int) (hh := [(0, 9, 12, 13)]) (by decide) rfl ?_
  intro p e s m args below meth c s₁ B hml hv
  obtain ⟨rfl, hw⟩ := hv
  have C : MX p s m ([.ref x, .int x1, .ref o] : List Value).toArray meth c cL_count 4 (some .int) RL (Cond.codeWith yL_count cL_count 4 (some .int) [(0, 9, 12, 13)] :: GW) := ⟨B.exec, B.bytes, B.returns, hml, findClass_of_methodNamed B.named, atoms_spec (ws := Cond.codeWith yL_count cL_count 4 (some .int) [(0, 9, 12, 13)] :: GW) B.pre, B.notSynchronized⟩
  obtain ⟨hx, hb, hr, hml, hown, hts, hlk⟩ := id C
  have htab := vx_table (x := yL_count) B (hts _ List.mem_cons_self)
  have w := wd_of hw
  obtain ⟨ls, hen, hl⟩ : ∃ ls : Array Slot, entryFrame m ([.ref x, .int x1, .ref o] : List Value).toArray 4 = F0 m 0 ls [] ∧ lv_has ls 4 [(0, .ref x), (1, .int x1), (2, .ref o)] := ⟨_, lg_entry_eq _ _ _, lv_entry _ (Nat.le_of_ble_eq_true rfl)⟩
  rw [hen]
  have hgr := mo_K_count N h x x1 _ _ hE
  refine lv_aload_n hx hb dL_count_0 rfl (lv_at hl 2 rfl) ?_
  refine lv_iconst (v := 0) hx hb dL_count_1 (by decide) ?_
  refine lv_aload_n hx hb dL_count_2 rfl (lv_at hl 0 rfl) ?_
  refine lv_iload_n hx hb dL_count_3 rfl (lv_at hl 1 rfl) ?_
  refine w_VC rI GW_good (n := 1) (F := 9) (Lc := 143) (av := [.int x1]) (rest := [.int 0, .ref o]) (a := x) C w rfl (by decide) hkx (k_K_count l hst D cy z N h x x1 r g hE) hgr gw_32_2 gw_32_3 gw_32_4 gw_1_2 gw_32_5 (by decide +kernel) ⟨Nat.le_of_ble_eq_true rfl, Nat.le_of_ble_eq_true rfl⟩ rfl hl.1 rfl (Nat.le_of_ble_eq_true rfl) dL_count_4 ⟨by omega, by omega⟩ (fun v H locs ev w => ?_) (fun j n H locs q9 ce ev n1 n2 w e1 e2 e3 => ?_)
  · show W p l e _ s m _ below meth c H locs _ _ _ (F0 m 7 ls [.int v, .int 0, .ref o])
    refine lv_i2l hx hb dL_count_7 rfl ?_
    have hu : uJ g (some o) (0 : Int32) (v.toInt64) (fun h2 => some h2) = some (s_j g o 0 (v.toInt64)) := by rw [show (0 : Int32) = iI ((0 : Nat) : Int) from rfl, uJ_i (n := 1) ⟨(hgr.2.2 o hko.2.2).1.trans hko.1, (hgr.2.2 o hko.2.2).2.trans hko.2.1⟩ (by omega) (by omega)]
    refine w_uJ (r := some o) C w dL_count_8 hu (fun h2 H locs w hs2 e2 => ?_)
    cases e2
    refine lv_goto (tgt := 15) hx hb dL_count_9 (by decide) ?_
    refine lv_iconst (v := 0) hx hb dL_count_15 (by decide) ?_
    exact w_iretL C w (Or.inl ⟨v, g, by rw [hE, ev], rfl, rfl⟩) (by omega) (by omega) dL_count_16
  · have ej := hj j ev
    subst ej
    refine vx_catch (own := RL) (name := "java/util/NoSuchElementException") (E := "java/util/NoSuchElementException") hown [] ⟨0, 9, 12, 13⟩ [] htab (fun z hz => by cases hz) (by decide) (by decide) (hts _ (List.mem_cons_of_mem _ gw_9_0)) (va_Nw.use rfl ((wd_X w).1.2.2.2.2.2.2.1 _ (List.mem_of_getElem? (i := 0) rfl))) e1 e2 e3 ?_
    refine lv_astore_n (lv' := [(3, .ref q9), (0, .ref x), (1, .int x1), (2, .ref o)]) hx hb dL_count_12 rfl hl (by decide) rfl (fun ls hl => ?_)
    refine lv_iconst (v := 1) hx hb dL_count_13 (by decide) ?_
    exact w_iretL C w (Or.inr ⟨1, g, n, by rw [hE, ev], rfl, ⟨n1, n2⟩, rfl⟩) (by omega) (by omega) dL_count_14
set_option maxRecDepth 20000 in
set_option maxHeartbeats 4000000 in
theorem k_L_step (l : Launch) (hst : l.stackTraces = false) (D : va_G) (cy : cyT) (z N : Nat) (h : hS) (x o : Nat) (x1 : Int32) (x2 : Int32) (x3 : Int32) (r : Int32 ⊕ Nat) (g : hS) (hE : f_K_step N h x x1 x2 x3 = some (r, g)) (hkx : h_k h x = 12 + 1) (hko : h_k h o = 51 ∧ h_n h o = 1 ∧ o < h_x h) (hj : ∀ j, r = .inr j → j = 1) : Met l yL_step (Cond.codeWith yL_step cL_step 6 (some .int) [(0, 12, 15, 13)] :: GW) { frames := 11, cells := h_x g - h_x h, slots := h_s g - h_s h, locals := 190 } (va_Pc [.ref x, .int x1, .int x2, .int x3, .ref o] (wU D cy z h)) (lQ D cy z (f_K_step N h x x1 x2 x3) (fun v => v.toInt64) (fun j => if j = 1 then 1 else 2) o) (h_x g - h_x h) (h_s g - h_s h) (fun q => z ≤ q) := by
  refine Met_ofWH (cc := cL_step) (maxL := 6) (ret := some .int) (hh := [(0, 12, 15, 13)]) (by decide) rfl ?_
  intro p e s m args below meth c s₁ B hml hv
  obtain ⟨rfl, hw⟩ := hv
  have C : MX p s m ([.ref x, .int x1, .int x2, .int x3, .ref o] : List Value).toArray meth c cL_step 6 (some .int) RL (Cond.codeWith yL_step cL_step 6 (some .int) [(0, 12, 15, 13)] :: GW) := ⟨B.exec, B.bytes, B.returns, hml, findClass_of_methodNamed B.named, atoms_spec (ws := Cond.codeWith yL_step cL_step 6 (some .int) [(0, 12, 15, 13)] :: GW) B.pre, B.notSynchronized⟩
  obtain ⟨hx, hb, hr, hml, hown, hts, hlk⟩ := id C
  have htab := vx_table (x := yL_step) B (hts _ List.mem_cons_self)
  have w := wd_of hw
  obtain ⟨ls, hen, hl⟩ : ∃ ls : Array Slot, entryFrame m ([.ref x, .int x1, .int x2, .int x3, .ref o] : List Value).toArray 6 = F0 m 0 ls [] ∧ lv_has ls 6 [(0, .ref x), (1, .int x1), (2, .int x2), (3, .int x3), (4, .ref o)] := ⟨_, lg_entry_eq _ _ _, lv_entry _ (Nat.le_of_ble_eq_true rfl)⟩
  rw [hen]
  have hgr := mo_K_step N h x x1 x2 x3 _ _ hE
  refine lv_aload hx hb dL_step_0 (lv_at hl 4 rfl) ?_
  refine lv_iconst (v := 0) hx hb dL_step_2 (by decide) ?_
  refine lv_aload_n hx hb dL_step_3 rfl (lv_at hl 0 rfl) ?_
  refine lv_iload_n hx hb dL_step_4 rfl (lv_at hl 1 rfl) ?_
  refine lv_iload_n hx hb dL_step_5 rfl (lv_at hl 2 rfl) ?_
  refine lv_iload_n hx hb dL_step_6 rfl (lv_at hl 3 rfl) ?_
  refine w_VC rI GW_good (n := 3) (F := 10) (Lc := 166) (av := [.int x1, .int x2, .int x3]) (rest := [.int 0, .ref o]) (a := x) C w rfl (by decide) hkx (k_K_step l hst D cy z N h x x1 x2 x3 r g hE) hgr gw_32_21 gw_32_22 gw_32_23 gw_1_2 gw_33_0 (by decide +kernel) ⟨Nat.le_of_ble_eq_true rfl, Nat.le_of_ble_eq_true rfl⟩ rfl hl.1 rfl (Nat.le_of_ble_eq_true rfl) dL_step_7 ⟨by omega, by omega⟩ (fun v H locs ev w => ?_) (fun j n H locs q9 ce ev n1 n2 w e1 e2 e3 => ?_)
  · show W p l e _ s m _ below meth c H locs _ _ _ (F0 m 10 ls [.int v, .int 0, .ref o])
    refine lv_i2l hx hb dL_step_10 rfl ?_
    have hu : uJ g (some o) (0 : Int32) (v.toInt64) (fun h2 => some h2) = some (s_j g o 0 (v.toInt64)) := by rw [show (0 : Int32) = iI ((0 : Nat) : Int) from rfl, uJ_i (n := 1) ⟨(hgr.2.2 o hko.2.2).1.trans hko.1, (hgr.2.2 o hko.2.2).2.trans hko.2.1⟩ (by omega) (by omega)]
    refine w_uJ (r := some o) C w dL_step_11 hu (fun h2 H locs w hs2 e2 => ?_)
    cases e2
    refine lv_goto (tgt := 19) hx hb dL_step_12 (by decide) ?_
    refine lv_iconst (v := 0) hx hb dL_step_19 (by decide) ?_
    exact w_iretL C w (Or.inl ⟨v, g, by rw [hE, ev], rfl, rfl⟩) (by omega) (by omega) dL_step_20
  · have ej := hj j ev
    subst ej
    refine vx_catch (own := RL) (name := "java/util/NoSuchElementException") (E := "java/util/NoSuchElementException") hown [] ⟨0, 12, 15, 13⟩ [] htab (fun z hz => by cases hz) (by decide) (by decide) (hts _ (List.mem_cons_of_mem _ gw_9_0)) (va_Nw.use rfl ((wd_X w).1.2.2.2.2.2.2.1 _ (List.mem_of_getElem? (i := 0) rfl))) e1 e2 e3 ?_
    refine lv_astore (lv' := [(5, .ref q9), (0, .ref x), (1, .int x1), (2, .int x2), (3, .int x3), (4, .ref o)]) hx hb dL_step_15 hl (by decide) rfl (fun ls hl => ?_)
    refine lv_iconst (v := 1) hx hb dL_step_17 (by decide) ?_
    exact w_iretL C w (Or.inr ⟨1, g, n, by rw [hE, ev], rfl, ⟨n1, n2⟩, rfl⟩) (by omega) (by omega) dL_step_18
set_option maxRecDepth 20000 in
set_option maxHeartbeats 4000000 in
theorem k_L_at (l : Launch) (hst : l.stackTraces = false) (D : va_G) (cy : cyT) (z N : Nat) (h : hS) (x o : Nat) (x1 : Int32) (x2 : Int32) (r : Int64 ⊕ Nat) (g : hS) (hE : f_K_at N h x x1 x2 = some (r, g)) (hkx : h_k h x = 12 + 1) (hko : h_k h o = 51 ∧ h_n h o = 1 ∧ o < h_x h) (hj : ∀ j, r = .inr j → j = 1 ∨ j = 2) : Met l yL_at (Cond.codeWith yL_at cL_at 5 (some .int) [(0, 9, 12, 13), (0, 9, 16, 15)] :: GW) { frames := 10, cells := h_x g - h_x h, slots := h_s g - h_s h, locals := 166 } (va_Pc [.ref x, .int x1, .int x2, .ref o] (wU D cy z h)) (lQ D cy z (f_K_at N h x x1 x2) (fun v => v) (fun j => if j = 1 then 1 else 2) o) (h_x g - h_x h) (h_s g - h_s h) (fun q => z ≤ q) := by
  refine Met_ofWH (cc := cL_at) (maxL := 5) (ret := some .int) (hh := [(0, 9, 12, 13), (0, 9, 16, 15)]) (by decide) rfl ?_
  intro p e s m args below meth c s₁ B hml hv
  obtain ⟨rfl, hw⟩ := hv
  have C : MX p s m ([.ref x, .int x1, .int x2, .ref o] : List Value).toArray meth c cL_at 5 (some .int) RL (Cond.codeWith yL_at cL_at 5 (some .int) [(0, 9, 12, 13), (0, 9, 16, 15)] :: GW) := ⟨B.exec, B.bytes, B.returns, hml, findClass_of_methodNamed B.named, atoms_spec (ws := Cond.codeWith yL_at cL_at 5 (some .int) [(0, 9, 12, 13), (0, 9, 16, 15)] :: GW) B.pre, B.notSynchronized⟩
  obtain ⟨hx, hb, hr, hml, hown, hts, hlk⟩ := id C
  have htab := vx_table (x := yL_at) B (hts _ List.mem_cons_self)
  have w := wd_of hw
  obtain ⟨ls, hen, hl⟩ : ∃ ls : Array Slot, entryFrame m ([.ref x, .int x1, .int x2, .ref o] : List Value).toArray 5 = F0 m 0 ls [] ∧ lv_has ls 5 [(0, .ref x), (1, .int x1), (2, .int x2), (3, .ref o)] := ⟨_, lg_entry_eq _ _ _, lv_entry _ (Nat.le_of_ble_eq_true rfl)⟩
  rw [hen]
  have hgr := mo_K_at N h x x1 x2 _ _ hE
  refine lv_aload_n hx hb dL_at_0 rfl (lv_at hl 3 rfl) ?_
  refine lv_iconst (v := 0) hx hb dL_at_1 (by decide) ?_
  refine lv_aload_n hx hb dL_at_2 rfl (lv_at hl 0 rfl) ?_
  refine lv_iload_n hx hb dL_at_3 rfl (lv_at hl 1 rfl) ?_
  refine lv_iload_n hx hb dL_at_4 rfl (lv_at hl 2 rfl) ?_
  refine w_VC rJ GW_good (n := 2) (F := 9) (Lc := 143) (av := [.int x1, .int x2]) (rest := [.int 0, .ref o]) (a := x) C w rfl (by decide) hkx (k_K_at l hst D cy z N h x x1 x2 r g hE) hgr gw_34_5 gw_34_6 gw_34_7 gw_1_2 gw_34_8 (by decide +kernel) ⟨Nat.le_of_ble_eq_true rfl, Nat.le_of_ble_eq_true rfl⟩ rfl hl.1 rfl (Nat.le_of_ble_eq_true rfl) dL_at_5 ⟨by omega, by omega⟩ (fun v H locs ev w => ?_) (fun j n H locs q9 ce ev n1 n2 w e1 e2 e3 => ?_)
  · show W p l e _ s m _ below meth c H locs _ _ _ (F0 m 8 ls [.long v, .int 0, .ref o])
    have hu : uJ g (some o) (0 : Int32) (v) (fun h2 => some h2) = some (s_j g o 0 (v)) := by rw [show (0 : Int32) = iI ((0 : Nat) : Int) from rfl, uJ_i (n := 1) ⟨(hgr.2.2 o hko.2.2).1.trans hko.1, (hgr.2.2 o hko.2.2).2.trans hko.2.1⟩ (by omega) (by omega)]
    refine w_uJ (r := some o) C w dL_at_8 hu (fun h2 H locs w hs2 e2 => ?_)
    cases e2
    refine lv_goto (tgt := 20) hx hb dL_at_9 (by decide) ?_
    refine lv_iconst (v := 0) hx hb dL_at_20 (by decide) ?_
    exact w_iretL C w (Or.inl ⟨v, g, by rw [hE, ev], rfl, rfl⟩) (by omega) (by omega) dL_at_21
  · rcases hj j ev with ej | ej
    · subst ej
      refine vx_catch (own := RL) (name := "java/util/NoSuchElementException") (E := "java/util/NoSuchElementException") hown [] ⟨0, 9, 12, 13⟩ [⟨0, 9, 16, 15⟩] htab (fun z hz => by cases hz) (by decide) (by decide) (hts _ (List.mem_cons_of_mem _ gw_9_0)) (va_Nw.use rfl ((wd_X w).1.2.2.2.2.2.2.1 _ (List.mem_of_getElem? (i := 0) rfl))) e1 e2 e3 ?_
      refine lv_astore (lv' := [(4, .ref q9), (0, .ref x), (1, .int x1), (2, .int x2), (3, .ref o)]) hx hb dL_at_12 hl (by decide) rfl (fun ls hl => ?_)
      refine lv_iconst (v := 1) hx hb dL_at_14 (by decide) ?_
      exact w_iretL C w (Or.inr ⟨1, g, n, by rw [hE, ev], rfl, ⟨n1, n2⟩, rfl⟩) (by omega) (by omega) dL_at_15
    · subst ej
      refine vx_catch (own := RL) (name := "java/lang/IllegalArgumentException") (E := "java/lang/IllegalArgumentException") hown [⟨0, 9, 12, 13⟩] ⟨0, 9, 16, 15⟩ [] htab (fun z hz => by rcases List.mem_singleton.mp hz with rfl; exact Or.inr ⟨by decide, _, (hts _ (List.mem_cons_of_mem _ gw_9_0)), (wd_X w).1.2.2.2.2.2.2.2.1 _ (List.mem_of_getElem? (i := 0) rfl)⟩) (by decide) (by decide) (hts _ (List.mem_cons_of_mem _ gw_9_1)) (va_Nw.use rfl ((wd_X w).1.2.2.2.2.2.2.1 _ (List.mem_of_getElem? (i := 1) rfl))) e1 e2 e3 ?_
      refine lv_astore (lv' := [(4, .ref q9), (0, .ref x), (1, .int x1), (2, .int x2), (3, .ref o)]) hx hb dL_at_16 hl (by decide) rfl (fun ls hl => ?_)
      refine lv_iconst (v := 2) hx hb dL_at_18 (by decide) ?_
      exact w_iretL C w (Or.inr ⟨2, g, n, by rw [hE, ev], rfl, ⟨n1, n2⟩, rfl⟩) (by omega) (by omega) dL_at_19
set_option maxRecDepth 20000 in
set_option maxHeartbeats 4000000 in
theorem k_L_least (l : Launch) (hst : l.stackTraces = false) (D : va_G) (cy : cyT) (z N : Nat) (h : hS) (x o : Nat) (x1 : Int32) (r : Int64 ⊕ Nat) (g : hS) (hE : f_K_least N h x x1 = some (r, g)) (hkx : h_k h x = 12 + 1) (hko : h_k h o = 51 ∧ h_n h o = 1 ∧ o < h_x h) (hj : ∀ j, r = .inr j → j = 1) : Met l yL_least (Cond.codeWith yL_least cL_least 4 (some .int) [(0, 8, 11, 13)] :: GW) { frames := 10, cells := h_x g - h_x h, slots := h_s g - h_s h, locals := 164 } (va_Pc [.ref x, .int x1, .ref o] (wU D cy z h)) (lQ D cy z (f_K_least N h x x1) (fun v => v) (fun j => if j = 1 then 1 else 2) o) (h_x g - h_x h) (h_s g - h_s h) (fun q => z ≤ q) := by
  refine Met_ofWH (cc := cL_least) (maxL := 4) (ret := some .int) (hh := [(0, 8, 11, 13)]) (by decide) rfl ?_
  intro p e s m args below meth c s₁ B hml hv
  obtain ⟨rfl, hw⟩ := hv
  have C : MX p s m ([.ref x, .int x1, .ref o] : List Value).toArray meth c cL_least 4 (some .int) RL (Cond.codeWith yL_least cL_least 4 (some .int) [(0, 8, 11, 13)] :: GW) := ⟨B.exec, B.bytes, B.returns, hml, findClass_of_methodNamed B.named, atoms_spec (ws := Cond.codeWith yL_least cL_least 4 (some .int) [(0, 8, 11, 13)] :: GW) B.pre, B.notSynchronized⟩
  obtain ⟨hx, hb, hr, hml, hown, hts, hlk⟩ := id C
  have htab := vx_table (x := yL_least) B (hts _ List.mem_cons_self)
  have w := wd_of hw
  obtain ⟨ls, hen, hl⟩ : ∃ ls : Array Slot, entryFrame m ([.ref x, .int x1, .ref o] : List Value).toArray 4 = F0 m 0 ls [] ∧ lv_has ls 4 [(0, .ref x), (1, .int x1), (2, .ref o)] := ⟨_, lg_entry_eq _ _ _, lv_entry _ (Nat.le_of_ble_eq_true rfl)⟩
  rw [hen]
  have hgr := mo_K_least N h x x1 _ _ hE
  refine lv_aload_n hx hb dL_least_0 rfl (lv_at hl 2 rfl) ?_
  refine lv_iconst (v := 0) hx hb dL_least_1 (by decide) ?_
  refine lv_aload_n hx hb dL_least_2 rfl (lv_at hl 0 rfl) ?_
  refine lv_iload_n hx hb dL_least_3 rfl (lv_at hl 1 rfl) ?_
  refine w_VC rJ GW_good (n := 1) (F := 9) (Lc := 143) (av := [.int x1]) (rest := [.int 0, .ref o]) (a := x) C w rfl (by decide) hkx (k_K_least l hst D cy z N h x x1 r g hE) hgr gw_35_6 gw_35_7 gw_35_8 gw_1_2 gw_35_9 (by decide +kernel) ⟨Nat.le_of_ble_eq_true rfl, Nat.le_of_ble_eq_true rfl⟩ rfl hl.1 rfl (Nat.le_of_ble_eq_true rfl) dL_least_4 ⟨by omega, by omega⟩ (fun v H locs ev w => ?_) (fun j n H locs q9 ce ev n1 n2 w e1 e2 e3 => ?_)
  · show W p l e _ s m _ below meth c H locs _ _ _ (F0 m 7 ls [.long v, .int 0, .ref o])
    have hu : uJ g (some o) (0 : Int32) (v) (fun h2 => some h2) = some (s_j g o 0 (v)) := by rw [show (0 : Int32) = iI ((0 : Nat) : Int) from rfl, uJ_i (n := 1) ⟨(hgr.2.2 o hko.2.2).1.trans hko.1, (hgr.2.2 o hko.2.2).2.trans hko.2.1⟩ (by omega) (by omega)]
    refine w_uJ (r := some o) C w dL_least_7 hu (fun h2 H locs w hs2 e2 => ?_)
    cases e2
    refine lv_goto (tgt := 14) hx hb dL_least_8 (by decide) ?_
    refine lv_iconst (v := 0) hx hb dL_least_14 (by decide) ?_
    exact w_iretL C w (Or.inl ⟨v, g, by rw [hE, ev], rfl, rfl⟩) (by omega) (by omega) dL_least_15
  · have ej := hj j ev
    subst ej
    refine vx_catch (own := RL) (name := "java/util/NoSuchElementException") (E := "java/util/NoSuchElementException") hown [] ⟨0, 8, 11, 13⟩ [] htab (fun z hz => by cases hz) (by decide) (by decide) (hts _ (List.mem_cons_of_mem _ gw_9_0)) (va_Nw.use rfl ((wd_X w).1.2.2.2.2.2.2.1 _ (List.mem_of_getElem? (i := 0) rfl))) e1 e2 e3 ?_
    refine lv_astore_n (lv' := [(3, .ref q9), (0, .ref x), (1, .int x1), (2, .ref o)]) hx hb dL_least_11 rfl hl (by decide) rfl (fun ls hl => ?_)
    refine lv_iconst (v := 1) hx hb dL_least_12 (by decide) ?_
    exact w_iretL C w (Or.inr ⟨1, g, n, by rw [hE, ev], rfl, ⟨n1, n2⟩, rfl⟩) (by omega) (by omega) dL_least_13
set_option maxRecDepth 20000 in
set_option maxHeartbeats 4000000 in
theorem k_L_flat (l : Launch) (hst : l.stackTraces = false) (D : va_G) (cy : cyT) (z N : Nat) (h : hS) (x o : Nat) (x1 : Int32) (x2 : Int32) (r : Int32 ⊕ Nat) (g : hS) (hE : f_K_flat N h x x1 x2 = some (r, g)) (hkx : h_k h x = 12 + 1) (hko : h_k h o = 51 ∧ h_n h o = 1 ∧ o < h_x h) (hj : ∀ j, r = .inr j → j = 1) : Met l yL_flat (Cond.codeWith yL_flat cL_flat 5 (some .int) [(0, 10, 13, 13)] :: GW) { frames := 10, cells := h_x g - h_x h, slots := h_s g - h_s h, locals := 166 } (va_Pc [.ref x, .int x1, .int x2, .ref o] (wU D cy z h)) (lQ D cy z (f_K_flat N h x x1 x2) (fun v => v.toInt64) (fun j => if j = 1 then 1 else 2) o) (h_x g - h_x h) (h_s g - h_s h) (fun q => z ≤ q) := by
  refine Met_ofWH (cc := cL_flat) (maxL := 5) (ret := some .int) (hh := [(0, 10, 13, 13)]) (by decide) rfl ?_
  intro p e s m args below meth c s₁ B hml hv
  obtain ⟨rfl, hw⟩ := hv
  have C : MX p s m ([.ref x, .int x1, .int x2, .ref o] : List Value).toArray meth c cL_flat 5 (some .int) RL (Cond.codeWith yL_flat cL_flat 5 (some .int) [(0, 10, 13, 13)] :: GW) := ⟨B.exec, B.bytes, B.returns, hml, findClass_of_methodNamed B.named, atoms_spec (ws := Cond.codeWith yL_flat cL_flat 5 (some .int) [(0, 10, 13, 13)] :: GW) B.pre, B.notSynchronized⟩
  obtain ⟨hx, hb, hr, hml, hown, hts, hlk⟩ := id C
  have htab := vx_table (x := yL_flat) B (hts _ List.mem_cons_self)
  have w := wd_of hw
  obtain ⟨ls, hen, hl⟩ : ∃ ls : Array Slot, entryFrame m ([.ref x, .int x1, .int x2, .ref o] : List Value).toArray 5 = F0 m 0 ls [] ∧ lv_has ls 5 [(0, .ref x), (1, .int x1), (2, .int x2), (3, .ref o)] := ⟨_, lg_entry_eq _ _ _, lv_entry _ (Nat.le_of_ble_eq_true rfl)⟩
  rw [hen]
  have hgr := mo_K_flat N h x x1 x2 _ _ hE
  refine lv_aload_n hx hb dL_flat_0 rfl (lv_at hl 3 rfl) ?_
  refine lv_iconst (v := 0) hx hb dL_flat_1 (by decide) ?_
  refine lv_aload_n hx hb dL_flat_2 rfl (lv_at hl 0 rfl) ?_
  refine lv_iload_n hx hb dL_flat_3 rfl (lv_at hl 1 rfl) ?_
  refine lv_iload_n hx hb dL_flat_4 rfl (lv_at hl 2 rfl) ?_
  refine w_VC rI GW_good (n := 2) (F := 9) (Lc := 143) (av := [.int x1, .int x2]) (rest := [.int 0, .ref o]) (a := x) C w rfl (by decide) hkx (k_K_flat l hst D cy z N h x x1 x2 r g hE) hgr gw_35_18 gw_35_19 gw_35_20 gw_1_2 gw_35_21 (by decide +kernel) ⟨Nat.le_of_ble_eq_true rfl, Nat.le_of_ble_eq_true rfl⟩ rfl hl.1 rfl (Nat.le_of_ble_eq_true rfl) dL_flat_5 ⟨by omega, by omega⟩ (fun v H locs ev w => ?_) (fun j n H locs q9 ce ev n1 n2 w e1 e2 e3 => ?_)
  · show W p l e _ s m _ below meth c H locs _ _ _ (F0 m 8 ls [.int v, .int 0, .ref o])
    refine lv_i2l hx hb dL_flat_8 rfl ?_
    have hu : uJ g (some o) (0 : Int32) (v.toInt64) (fun h2 => some h2) = some (s_j g o 0 (v.toInt64)) := by rw [show (0 : Int32) = iI ((0 : Nat) : Int) from rfl, uJ_i (n := 1) ⟨(hgr.2.2 o hko.2.2).1.trans hko.1, (hgr.2.2 o hko.2.2).2.trans hko.2.1⟩ (by omega) (by omega)]
    refine w_uJ (r := some o) C w dL_flat_9 hu (fun h2 H locs w hs2 e2 => ?_)
    cases e2
    refine lv_goto (tgt := 17) hx hb dL_flat_10 (by decide) ?_
    refine lv_iconst (v := 0) hx hb dL_flat_17 (by decide) ?_
    exact w_iretL C w (Or.inl ⟨v, g, by rw [hE, ev], rfl, rfl⟩) (by omega) (by omega) dL_flat_18
  · have ej := hj j ev
    subst ej
    refine vx_catch (own := RL) (name := "java/util/NoSuchElementException") (E := "java/util/NoSuchElementException") hown [] ⟨0, 10, 13, 13⟩ [] htab (fun z hz => by cases hz) (by decide) (by decide) (hts _ (List.mem_cons_of_mem _ gw_9_0)) (va_Nw.use rfl ((wd_X w).1.2.2.2.2.2.2.1 _ (List.mem_of_getElem? (i := 0) rfl))) e1 e2 e3 ?_
    refine lv_astore (lv' := [(4, .ref q9), (0, .ref x), (1, .int x1), (2, .int x2), (3, .ref o)]) hx hb dL_flat_13 hl (by decide) rfl (fun ls hl => ?_)
    refine lv_iconst (v := 1) hx hb dL_flat_15 (by decide) ?_
    exact w_iretL C w (Or.inr ⟨1, g, n, by rw [hE, ev], rfl, ⟨n1, n2⟩, rfl⟩) (by omega) (by omega) dL_flat_16
set_option maxRecDepth 20000 in
set_option maxHeartbeats 4000000 in
theorem k_L_kink (l : Launch) (hst : l.stackTraces = false) (D : va_G) (cy : cyT) (z N : Nat) (h : hS) (x o : Nat) (x1 : Int32) (x2 : Int32) (x3 : Int32) (r : Int32 ⊕ Nat) (g : hS) (hE : f_K_kink N h x x1 x2 x3 = some (r, g)) (hkx : h_k h x = 12 + 1) (hko : h_k h o = 51 ∧ h_n h o = 1 ∧ o < h_x h) (hj : ∀ j, r = .inr j → j = 1) : Met l yL_kink (Cond.codeWith yL_kink cL_kink 6 (some .int) [(0, 12, 15, 13)] :: GW) { frames := 10, cells := h_x g - h_x h, slots := h_s g - h_s h, locals := 167 } (va_Pc [.ref x, .int x1, .int x2, .int x3, .ref o] (wU D cy z h)) (lQ D cy z (f_K_kink N h x x1 x2 x3) (fun v => v.toInt64) (fun j => if j = 1 then 1 else 2) o) (h_x g - h_x h) (h_s g - h_s h) (fun q => z ≤ q) := by
  refine Met_ofWH (cc := cL_kink) (maxL := 6) (ret := some .int) (hh := [(0, 12, 15, 13)]) (by decide) rfl ?_
  intro p e s m args below meth c s₁ B hml hv
  obtain ⟨rfl, hw⟩ := hv
  have C : MX p s m ([.ref x, .int x1, .int x2, .int x3, .ref o] : List Value).toArray meth c cL_kink 6 (some .int) RL (Cond.codeWith yL_kink cL_kink 6 (some .int) [(0, 12, 15, 13)] :: GW) := ⟨B.exec, B.bytes, B.returns, hml, findClass_of_methodNamed B.named, atoms_spec (ws := Cond.codeWith yL_kink cL_kink 6 (some .int) [(0, 12, 15, 13)] :: GW) B.pre, B.notSynchronized⟩
  obtain ⟨hx, hb, hr, hml, hown, hts, hlk⟩ := id C
  have htab := vx_table (x := yL_kink) B (hts _ List.mem_cons_self)
  have w := wd_of hw
  obtain ⟨ls, hen, hl⟩ : ∃ ls : Array Slot, entryFrame m ([.ref x, .int x1, .int x2, .int x3, .ref o] : List Value).toArray 6 = F0 m 0 ls [] ∧ lv_has ls 6 [(0, .ref x), (1, .int x1), (2, .int x2), (3, .int x3), (4, .ref o)] := ⟨_, lg_entry_eq _ _ _, lv_entry _ (Nat.le_of_ble_eq_true rfl)⟩
  rw [hen]
  have hgr := mo_K_kink N h x x1 x2 x3 _ _ hE
  refine lv_aload hx hb dL_kink_0 (lv_at hl 4 rfl) ?_
  refine lv_iconst (v := 0) hx hb dL_kink_2 (by decide) ?_
  refine lv_aload_n hx hb dL_kink_3 rfl (lv_at hl 0 rfl) ?_
  refine lv_iload_n hx hb dL_kink_4 rfl (lv_at hl 1 rfl) ?_
  refine lv_iload_n hx hb dL_kink_5 rfl (lv_at hl 2 rfl) ?_
  refine lv_iload_n hx hb dL_kink_6 rfl (lv_at hl 3 rfl) ?_
  refine w_VC rI GW_good (n := 3) (F := 9) (Lc := 143) (av := [.int x1, .int x2, .int x3]) (rest := [.int 0, .ref o]) (a := x) C w rfl (by decide) hkx (k_K_kink l hst D cy z N h x x1 x2 x3 r g hE) hgr gw_38_2 gw_38_3 gw_38_4 gw_1_2 gw_38_5 (by decide +kernel) ⟨Nat.le_of_ble_eq_true rfl, Nat.le_of_ble_eq_true rfl⟩ rfl hl.1 rfl (Nat.le_of_ble_eq_true rfl) dL_kink_7 ⟨by omega, by omega⟩ (fun v H locs ev w => ?_) (fun j n H locs q9 ce ev n1 n2 w e1 e2 e3 => ?_)
  · show W p l e _ s m _ below meth c H locs _ _ _ (F0 m 10 ls [.int v, .int 0, .ref o])
    refine lv_i2l hx hb dL_kink_10 rfl ?_
    have hu : uJ g (some o) (0 : Int32) (v.toInt64) (fun h2 => some h2) = some (s_j g o 0 (v.toInt64)) := by rw [show (0 : Int32) = iI ((0 : Nat) : Int) from rfl, uJ_i (n := 1) ⟨(hgr.2.2 o hko.2.2).1.trans hko.1, (hgr.2.2 o hko.2.2).2.trans hko.2.1⟩ (by omega) (by omega)]
    refine w_uJ (r := some o) C w dL_kink_11 hu (fun h2 H locs w hs2 e2 => ?_)
    cases e2
    refine lv_goto (tgt := 19) hx hb dL_kink_12 (by decide) ?_
    refine lv_iconst (v := 0) hx hb dL_kink_19 (by decide) ?_
    exact w_iretL C w (Or.inl ⟨v, g, by rw [hE, ev], rfl, rfl⟩) (by omega) (by omega) dL_kink_20
  · have ej := hj j ev
    subst ej
    refine vx_catch (own := RL) (name := "java/util/NoSuchElementException") (E := "java/util/NoSuchElementException") hown [] ⟨0, 12, 15, 13⟩ [] htab (fun z hz => by cases hz) (by decide) (by decide) (hts _ (List.mem_cons_of_mem _ gw_9_0)) (va_Nw.use rfl ((wd_X w).1.2.2.2.2.2.2.1 _ (List.mem_of_getElem? (i := 0) rfl))) e1 e2 e3 ?_
    refine lv_astore (lv' := [(5, .ref q9), (0, .ref x), (1, .int x1), (2, .int x2), (3, .int x3), (4, .ref o)]) hx hb dL_kink_15 hl (by decide) rfl (fun ls hl => ?_)
    refine lv_iconst (v := 1) hx hb dL_kink_17 (by decide) ?_
    exact w_iretL C w (Or.inr ⟨1, g, n, by rw [hE, ev], rfl, ⟨n1, n2⟩, rfl⟩) (by omega) (by omega) dL_kink_18
set_option maxRecDepth 20000 in
set_option maxHeartbeats 4000000 in
theorem k_L_slope (l : Launch) (hst : l.stackTraces = false) (D : va_G) (cy : cyT) (z N : Nat) (h : hS) (x o : Nat) (x1 : Int32) (x2 : Int32) (x3 : Int32) (r : Int32 ⊕ Nat) (g : hS) (hE : f_K_slope N h x x1 x2 x3 = some (r, g)) (hkx : h_k h x = 12 + 1) (hko : h_k h o = 51 ∧ h_n h o = 1 ∧ o < h_x h) (hj : ∀ j, r = .inr j → j = 1 ∨ j = 2) : Met l yL_slope (Cond.codeWith yL_slope cL_slope 6 (some .int) [(0, 12, 15, 13), (0, 12, 19, 15)] :: GW) { frames := 10, cells := h_x g - h_x h, slots := h_s g - h_s h, locals := 167 } (va_Pc [.ref x, .int x1, .int x2, .int x3, .ref o] (wU D cy z h)) (lQ D cy z (f_K_slope N h x x1 x2 x3) (fun v => v.toInt64) (fun j => if j = 1 then 1 else 2) o) (h_x g - h_x h) (h_s g - h_s h) (fun q => z ≤ q) := by
  refine Met_ofWH (cc := cL_slope) (maxL := 6) (ret := some .int) (hh := [(0, 12, 15, 13), (0, 12, 19, 15)]) (by decide) rfl ?_
  intro p e s m args below meth c s₁ B hml hv
  obtain ⟨rfl, hw⟩ := hv
  have C : MX p s m ([.ref x, .int x1, .int x2, .int x3, .ref o] : List Value).toArray meth c cL_slope 6 (some .int) RL (Cond.codeWith yL_slope cL_slope 6 (some .int) [(0, 12, 15, 13), (0, 12, 19, 15)] :: GW) := ⟨B.exec, B.bytes, B.returns, hml, findClass_of_methodNamed B.named, atoms_spec (ws := Cond.codeWith yL_slope cL_slope 6 (some .int) [(0, 12, 15, 13), (0, 12, 19, 15)] :: GW) B.pre, B.notSynchronized⟩
  obtain ⟨hx, hb, hr, hml, hown, hts, hlk⟩ := id C
  have htab := vx_table (x := yL_slope) B (hts _ List.mem_cons_self)
  have w := wd_of hw
  obtain ⟨ls, hen, hl⟩ : ∃ ls : Array Slot, entryFrame m ([.ref x, .int x1, .int x2, .int x3, .ref o] : List Value).toArray 6 = F0 m 0 ls [] ∧ lv_has ls 6 [(0, .ref x), (1, .int x1), (2, .int x2), (3, .int x3), (4, .ref o)] := ⟨_, lg_entry_eq _ _ _, lv_entry _ (Nat.le_of_ble_eq_true rfl)⟩
  rw [hen]
  have hgr := mo_K_slope N h x x1 x2 x3 _ _ hE
  refine lv_aload hx hb dL_slope_0 (lv_at hl 4 rfl) ?_
  refine lv_iconst (v := 0) hx hb dL_slope_2 (by decide) ?_
  refine lv_aload_n hx hb dL_slope_3 rfl (lv_at hl 0 rfl) ?_
  refine lv_iload_n hx hb dL_slope_4 rfl (lv_at hl 1 rfl) ?_
  refine lv_iload_n hx hb dL_slope_5 rfl (lv_at hl 2 rfl) ?_
  refine lv_iload_n hx hb dL_slope_6 rfl (lv_at hl 3 rfl) ?_
  refine w_VC rI GW_good (n := 3) (F := 9) (Lc := 143) (av := [.int x1, .int x2, .int x3]) (rest := [.int 0, .ref o]) (a := x) C w rfl (by decide) hkx (k_K_slope l hst D cy z N h x x1 x2 x3 r g hE) hgr gw_38_15 gw_38_16 gw_38_17 gw_1_2 gw_38_18 (by decide +kernel) ⟨Nat.le_of_ble_eq_true rfl, Nat.le_of_ble_eq_true rfl⟩ rfl hl.1 rfl (Nat.le_of_ble_eq_true rfl) dL_slope_7 ⟨by omega, by omega⟩ (fun v H locs ev w => ?_) (fun j n H locs q9 ce ev n1 n2 w e1 e2 e3 => ?_)
  · show W p l e _ s m _ below meth c H locs _ _ _ (F0 m 10 ls [.int v, .int 0, .ref o])
    refine lv_i2l hx hb dL_slope_10 rfl ?_
    have hu : uJ g (some o) (0 : Int32) (v.toInt64) (fun h2 => some h2) = some (s_j g o 0 (v.toInt64)) := by rw [show (0 : Int32) = iI ((0 : Nat) : Int) from rfl, uJ_i (n := 1) ⟨(hgr.2.2 o hko.2.2).1.trans hko.1, (hgr.2.2 o hko.2.2).2.trans hko.2.1⟩ (by omega) (by omega)]
    refine w_uJ (r := some o) C w dL_slope_11 hu (fun h2 H locs w hs2 e2 => ?_)
    cases e2
    refine lv_goto (tgt := 23) hx hb dL_slope_12 (by decide) ?_
    refine lv_iconst (v := 0) hx hb dL_slope_23 (by decide) ?_
    exact w_iretL C w (Or.inl ⟨v, g, by rw [hE, ev], rfl, rfl⟩) (by omega) (by omega) dL_slope_24
  · rcases hj j ev with ej | ej
    · subst ej
      refine vx_catch (own := RL) (name := "java/util/NoSuchElementException") (E := "java/util/NoSuchElementException") hown [] ⟨0, 12, 15, 13⟩ [⟨0, 12, 19, 15⟩] htab (fun z hz => by cases hz) (by decide) (by decide) (hts _ (List.mem_cons_of_mem _ gw_9_0)) (va_Nw.use rfl ((wd_X w).1.2.2.2.2.2.2.1 _ (List.mem_of_getElem? (i := 0) rfl))) e1 e2 e3 ?_
      refine lv_astore (lv' := [(5, .ref q9), (0, .ref x), (1, .int x1), (2, .int x2), (3, .int x3), (4, .ref o)]) hx hb dL_slope_15 hl (by decide) rfl (fun ls hl => ?_)
      refine lv_iconst (v := 1) hx hb dL_slope_17 (by decide) ?_
      exact w_iretL C w (Or.inr ⟨1, g, n, by rw [hE, ev], rfl, ⟨n1, n2⟩, rfl⟩) (by omega) (by omega) dL_slope_18
    · subst ej
      refine vx_catch (own := RL) (name := "java/lang/IllegalArgumentException") (E := "java/lang/IllegalArgumentException") hown [⟨0, 12, 15, 13⟩] ⟨0, 12, 19, 15⟩ [] htab (fun z hz => by rcases List.mem_singleton.mp hz with rfl; exact Or.inr ⟨by decide, _, (hts _ (List.mem_cons_of_mem _ gw_9_0)), (wd_X w).1.2.2.2.2.2.2.2.1 _ (List.mem_of_getElem? (i := 0) rfl)⟩) (by decide) (by decide) (hts _ (List.mem_cons_of_mem _ gw_9_1)) (va_Nw.use rfl ((wd_X w).1.2.2.2.2.2.2.1 _ (List.mem_of_getElem? (i := 1) rfl))) e1 e2 e3 ?_
      refine lv_astore (lv' := [(5, .ref q9), (0, .ref x), (1, .int x1), (2, .int x2), (3, .int x3), (4, .ref o)]) hx hb dL_slope_19 hl (by decide) rfl (fun ls hl => ?_)
      refine lv_iconst (v := 2) hx hb dL_slope_21 (by decide) ?_
      exact w_iretL C w (Or.inr ⟨2, g, n, by rw [hE, ev], rfl, ⟨n1, n2⟩, rfl⟩) (by omega) (by omega) dL_slope_22
set_option maxRecDepth 20000 in
set_option maxHeartbeats 4000000 in
theorem k_L_path (l : Launch) (hst : l.stackTraces = false) (D : va_G) (cy : cyT) (z N : Nat) (h : hS) (x o : Nat) (x1 : Int32) (x2 : Int32) (x3 : Int32) (r : Int32 ⊕ Nat) (g : hS) (hE : f_K_path N h x x1 x2 x3 = some (r, g)) (hkx : h_k h x = 12 + 1) (hko : h_k h o = 51 ∧ h_n h o = 1 ∧ o < h_x h) (hj : ∀ j, r = .inr j → j = 1 ∨ j = 2) : Met l yL_path (Cond.codeWith yL_path cL_path 6 (some .int) [(0, 12, 15, 13), (0, 12, 19, 15)] :: GW) { frames := 10, cells := h_x g - h_x h, slots := h_s g - h_s h, locals := 189 } (va_Pc [.ref x, .int x1, .int x2, .int x3, .ref o] (wU D cy z h)) (lQ D cy z (f_K_path N h x x1 x2 x3) (fun v => v.toInt64) (fun j => if j = 1 then 1 else 2) o) (h_x g - h_x h) (h_s g - h_s h) (fun q => z ≤ q) := by
  refine Met_ofWH (cc := cL_path) (maxL := 6) (ret := some .int) (hh := [(0, 12, 15, 13), (0, 12, 19, 15)]) (by decide) rfl ?_
  intro p e s m args below meth c s₁ B hml hv
  obtain ⟨rfl, hw⟩ := hv
  have C : MX p s m ([.ref x, .int x1, .int x2, .int x3, .ref o] : List Value).toArray meth c cL_path 6 (some .int) RL (Cond.codeWith yL_path cL_path 6 (some .int) [(0, 12, 15, 13), (0, 12, 19, 15)] :: GW) := ⟨B.exec, B.bytes, B.returns, hml, findClass_of_methodNamed B.named, atoms_spec (ws := Cond.codeWith yL_path cL_path 6 (some .int) [(0, 12, 15, 13), (0, 12, 19, 15)] :: GW) B.pre, B.notSynchronized⟩
  obtain ⟨hx, hb, hr, hml, hown, hts, hlk⟩ := id C
  have htab := vx_table (x := yL_path) B (hts _ List.mem_cons_self)
  have w := wd_of hw
  obtain ⟨ls, hen, hl⟩ : ∃ ls : Array Slot, entryFrame m ([.ref x, .int x1, .int x2, .int x3, .ref o] : List Value).toArray 6 = F0 m 0 ls [] ∧ lv_has ls 6 [(0, .ref x), (1, .int x1), (2, .int x2), (3, .int x3), (4, .ref o)] := ⟨_, lg_entry_eq _ _ _, lv_entry _ (Nat.le_of_ble_eq_true rfl)⟩
  rw [hen]
  have hgr := mo_K_path N h x x1 x2 x3 _ _ hE
  refine lv_aload hx hb dL_path_0 (lv_at hl 4 rfl) ?_
  refine lv_iconst (v := 0) hx hb dL_path_2 (by decide) ?_
  refine lv_aload_n hx hb dL_path_3 rfl (lv_at hl 0 rfl) ?_
  refine lv_iload_n hx hb dL_path_4 rfl (lv_at hl 1 rfl) ?_
  refine lv_iload_n hx hb dL_path_5 rfl (lv_at hl 2 rfl) ?_
  refine lv_iload_n hx hb dL_path_6 rfl (lv_at hl 3 rfl) ?_
  refine w_VC rI GW_good (n := 3) (F := 9) (Lc := 165) (av := [.int x1, .int x2, .int x3]) (rest := [.int 0, .ref o]) (a := x) C w rfl (by decide) hkx (k_K_path l hst D cy z N h x x1 x2 x3 r g hE) hgr gw_39_6 gw_39_7 gw_39_8 gw_1_2 gw_39_9 (by decide +kernel) ⟨Nat.le_of_ble_eq_true rfl, Nat.le_of_ble_eq_true rfl⟩ rfl hl.1 rfl (Nat.le_of_ble_eq_true rfl) dL_path_7 ⟨by omega, by omega⟩ (fun v H locs ev w => ?_) (fun j n H locs q9 ce ev n1 n2 w e1 e2 e3 => ?_)
  · show W p l e _ s m _ below meth c H locs _ _ _ (F0 m 10 ls [.int v, .int 0, .ref o])
    refine lv_i2l hx hb dL_path_10 rfl ?_
    have hu : uJ g (some o) (0 : Int32) (v.toInt64) (fun h2 => some h2) = some (s_j g o 0 (v.toInt64)) := by rw [show (0 : Int32) = iI ((0 : Nat) : Int) from rfl, uJ_i (n := 1) ⟨(hgr.2.2 o hko.2.2).1.trans hko.1, (hgr.2.2 o hko.2.2).2.trans hko.2.1⟩ (by omega) (by omega)]
    refine w_uJ (r := some o) C w dL_path_11 hu (fun h2 H locs w hs2 e2 => ?_)
    cases e2
    refine lv_goto (tgt := 23) hx hb dL_path_12 (by decide) ?_
    refine lv_iconst (v := 0) hx hb dL_path_23 (by decide) ?_
    exact w_iretL C w (Or.inl ⟨v, g, by rw [hE, ev], rfl, rfl⟩) (by omega) (by omega) dL_path_24
  · rcases hj j ev with ej | ej
    · subst ej
      refine vx_catch (own := RL) (name := "java/util/NoSuchElementException") (E := "java/util/NoSuchElementException") hown [] ⟨0, 12, 15, 13⟩ [⟨0, 12, 19, 15⟩] htab (fun z hz => by cases hz) (by decide) (by decide) (hts _ (List.mem_cons_of_mem _ gw_9_0)) (va_Nw.use rfl ((wd_X w).1.2.2.2.2.2.2.1 _ (List.mem_of_getElem? (i := 0) rfl))) e1 e2 e3 ?_
      refine lv_astore (lv' := [(5, .ref q9), (0, .ref x), (1, .int x1), (2, .int x2), (3, .int x3), (4, .ref o)]) hx hb dL_path_15 hl (by decide) rfl (fun ls hl => ?_)
      refine lv_iconst (v := 1) hx hb dL_path_17 (by decide) ?_
      exact w_iretL C w (Or.inr ⟨1, g, n, by rw [hE, ev], rfl, ⟨n1, n2⟩, rfl⟩) (by omega) (by omega) dL_path_18
    · subst ej
      refine vx_catch (own := RL) (name := "java/lang/IllegalArgumentException") (E := "java/lang/IllegalArgumentException") hown [⟨0, 12, 15, 13⟩] ⟨0, 12, 19, 15⟩ [] htab (fun z hz => by rcases List.mem_singleton.mp hz with rfl; exact Or.inr ⟨by decide, _, (hts _ (List.mem_cons_of_mem _ gw_9_0)), (wd_X w).1.2.2.2.2.2.2.2.1 _ (List.mem_of_getElem? (i := 0) rfl)⟩) (by decide) (by decide) (hts _ (List.mem_cons_of_mem _ gw_9_1)) (va_Nw.use rfl ((wd_X w).1.2.2.2.2.2.2.1 _ (List.mem_of_getElem? (i := 1) rfl))) e1 e2 e3 ?_
      refine lv_astore (lv' := [(5, .ref q9), (0, .ref x), (1, .int x1), (2, .int x2), (3, .int x3), (4, .ref o)]) hx hb dL_path_19 hl (by decide) rfl (fun ls hl => ?_)
      refine lv_iconst (v := 2) hx hb dL_path_21 (by decide) ?_
      exact w_iretL C w (Or.inr ⟨2, g, n, by rw [hE, ev], rfl, ⟨n1, n2⟩, rfl⟩) (by omega) (by omega) dL_path_22
set_option maxRecDepth 20000 in
set_option maxHeartbeats 4000000 in
theorem k_L_paid (l : Launch) (hst : l.stackTraces = false) (D : va_G) (cy : cyT) (z N : Nat) (h : hS) (x o : Nat) (x1 : Int32) (x2 : Int32) (x3 : Int32) (r : Int64 ⊕ Nat) (g : hS) (hE : f_K_paid N h x x1 x2 x3 = some (r, g)) (hkx : h_k h x = 12 + 1) (hko : h_k h o = 51 ∧ h_n h o = 1 ∧ o < h_x h) (hj : ∀ j, r = .inr j → j = 1 ∨ j = 2) : Met l yL_paid (Cond.codeWith yL_paid cL_paid 6 (some .int) [(0, 11, 14, 13), (0, 11, 18, 15)] :: GW) { frames := 11, cells := h_x g - h_x h, slots := h_s g - h_s h, locals := 190 } (va_Pc [.ref x, .int x1, .int x2, .int x3, .ref o] (wU D cy z h)) (lQ D cy z (f_K_paid N h x x1 x2 x3) (fun v => v) (fun j => if j = 1 then 1 else 2) o) (h_x g - h_x h) (h_s g - h_s h) (fun q => z ≤ q) := by
  refine Met_ofWH (cc := cL_paid) (maxL := 6) (ret := some .int) (hh := [(0, 11, 14, 13), (0, 11, 18, 15)]) (by decide) rfl ?_
  intro p e s m args below meth c s₁ B hml hv
  obtain ⟨rfl, hw⟩ := hv
  have C : MX p s m ([.ref x, .int x1, .int x2, .int x3, .ref o] : List Value).toArray meth c cL_paid 6 (some .int) RL (Cond.codeWith yL_paid cL_paid 6 (some .int) [(0, 11, 14, 13), (0, 11, 18, 15)] :: GW) := ⟨B.exec, B.bytes, B.returns, hml, findClass_of_methodNamed B.named, atoms_spec (ws := Cond.codeWith yL_paid cL_paid 6 (some .int) [(0, 11, 14, 13), (0, 11, 18, 15)] :: GW) B.pre, B.notSynchronized⟩
  obtain ⟨hx, hb, hr, hml, hown, hts, hlk⟩ := id C
  have htab := vx_table (x := yL_paid) B (hts _ List.mem_cons_self)
  have w := wd_of hw
  obtain ⟨ls, hen, hl⟩ : ∃ ls : Array Slot, entryFrame m ([.ref x, .int x1, .int x2, .int x3, .ref o] : List Value).toArray 6 = F0 m 0 ls [] ∧ lv_has ls 6 [(0, .ref x), (1, .int x1), (2, .int x2), (3, .int x3), (4, .ref o)] := ⟨_, lg_entry_eq _ _ _, lv_entry _ (Nat.le_of_ble_eq_true rfl)⟩
  rw [hen]
  have hgr := mo_K_paid N h x x1 x2 x3 _ _ hE
  refine lv_aload hx hb dL_paid_0 (lv_at hl 4 rfl) ?_
  refine lv_iconst (v := 0) hx hb dL_paid_2 (by decide) ?_
  refine lv_aload_n hx hb dL_paid_3 rfl (lv_at hl 0 rfl) ?_
  refine lv_iload_n hx hb dL_paid_4 rfl (lv_at hl 1 rfl) ?_
  refine lv_iload_n hx hb dL_paid_5 rfl (lv_at hl 2 rfl) ?_
  refine lv_iload_n hx hb dL_paid_6 rfl (lv_at hl 3 rfl) ?_
  refine w_VC rJ GW_good (n := 3) (F := 10) (Lc := 166) (av := [.int x1, .int x2, .int x3]) (rest := [.int 0, .ref o]) (a := x) C w rfl (by decide) hkx (k_K_paid l hst D cy z N h x x1 x2 x3 r g hE) hgr gw_40_21 gw_40_22 gw_40_23 gw_1_2 gw_41_0 (by decide +kernel) ⟨Nat.le_of_ble_eq_true rfl, Nat.le_of_ble_eq_true rfl⟩ rfl hl.1 rfl (Nat.le_of_ble_eq_true rfl) dL_paid_7 ⟨by omega, by omega⟩ (fun v H locs ev w => ?_) (fun j n H locs q9 ce ev n1 n2 w e1 e2 e3 => ?_)
  · show W p l e _ s m _ below meth c H locs _ _ _ (F0 m 10 ls [.long v, .int 0, .ref o])
    have hu : uJ g (some o) (0 : Int32) (v) (fun h2 => some h2) = some (s_j g o 0 (v)) := by rw [show (0 : Int32) = iI ((0 : Nat) : Int) from rfl, uJ_i (n := 1) ⟨(hgr.2.2 o hko.2.2).1.trans hko.1, (hgr.2.2 o hko.2.2).2.trans hko.2.1⟩ (by omega) (by omega)]
    refine w_uJ (r := some o) C w dL_paid_10 hu (fun h2 H locs w hs2 e2 => ?_)
    cases e2
    refine lv_goto (tgt := 22) hx hb dL_paid_11 (by decide) ?_
    refine lv_iconst (v := 0) hx hb dL_paid_22 (by decide) ?_
    exact w_iretL C w (Or.inl ⟨v, g, by rw [hE, ev], rfl, rfl⟩) (by omega) (by omega) dL_paid_23
  · rcases hj j ev with ej | ej
    · subst ej
      refine vx_catch (own := RL) (name := "java/util/NoSuchElementException") (E := "java/util/NoSuchElementException") hown [] ⟨0, 11, 14, 13⟩ [⟨0, 11, 18, 15⟩] htab (fun z hz => by cases hz) (by decide) (by decide) (hts _ (List.mem_cons_of_mem _ gw_9_0)) (va_Nw.use rfl ((wd_X w).1.2.2.2.2.2.2.1 _ (List.mem_of_getElem? (i := 0) rfl))) e1 e2 e3 ?_
      refine lv_astore (lv' := [(5, .ref q9), (0, .ref x), (1, .int x1), (2, .int x2), (3, .int x3), (4, .ref o)]) hx hb dL_paid_14 hl (by decide) rfl (fun ls hl => ?_)
      refine lv_iconst (v := 1) hx hb dL_paid_16 (by decide) ?_
      exact w_iretL C w (Or.inr ⟨1, g, n, by rw [hE, ev], rfl, ⟨n1, n2⟩, rfl⟩) (by omega) (by omega) dL_paid_17
    · subst ej
      refine vx_catch (own := RL) (name := "java/lang/IllegalArgumentException") (E := "java/lang/IllegalArgumentException") hown [⟨0, 11, 14, 13⟩] ⟨0, 11, 18, 15⟩ [] htab (fun z hz => by rcases List.mem_singleton.mp hz with rfl; exact Or.inr ⟨by decide, _, (hts _ (List.mem_cons_of_mem _ gw_9_0)), (wd_X w).1.2.2.2.2.2.2.2.1 _ (List.mem_of_getElem? (i := 0) rfl)⟩) (by decide) (by decide) (hts _ (List.mem_cons_of_mem _ gw_9_1)) (va_Nw.use rfl ((wd_X w).1.2.2.2.2.2.2.1 _ (List.mem_of_getElem? (i := 1) rfl))) e1 e2 e3 ?_
      refine lv_astore (lv' := [(5, .ref q9), (0, .ref x), (1, .int x1), (2, .int x2), (3, .int x3), (4, .ref o)]) hx hb dL_paid_18 hl (by decide) rfl (fun ls hl => ?_)
      refine lv_iconst (v := 2) hx hb dL_paid_20 (by decide) ?_
      exact w_iretL C w (Or.inr ⟨2, g, n, by rw [hE, ev], rfl, ⟨n1, n2⟩, rfl⟩) (by omega) (by omega) dL_paid_21
set_option maxRecDepth 20000 in
set_option maxHeartbeats 4000000 in
theorem k_L_off (l : Launch) (hst : l.stackTraces = false) (D : va_G) (cy : cyT) (z N : Nat) (h : hS) (x o : Nat) (x1 : Int32) (x2 : Int32) (x3 : Int32) (r : Int32 ⊕ Nat) (g : hS) (hE : f_K_off N h x x1 x2 x3 = some (r, g)) (hkx : h_k h x = 12 + 1) (hko : h_k h o = 51 ∧ h_n h o = 1 ∧ o < h_x h) (hj : ∀ j, r = .inr j → j = 1 ∨ j = 2) : Met l yL_off (Cond.codeWith yL_off cL_off 6 (some .int) [(0, 12, 15, 13), (0, 12, 19, 15)] :: GW) { frames := 10, cells := h_x g - h_x h, slots := h_s g - h_s h, locals := 169 } (va_Pc [.ref x, .int x1, .int x2, .int x3, .ref o] (wU D cy z h)) (lQ D cy z (f_K_off N h x x1 x2 x3) (fun v => v.toInt64) (fun j => if j = 1 then 1 else 2) o) (h_x g - h_x h) (h_s g - h_s h) (fun q => z ≤ q) := by
  refine Met_ofWH (cc := cL_off) (maxL := 6) (ret := some .int) (hh := [(0, 12, 15, 13), (0, 12, 19, 15)]) (by decide) rfl ?_
  intro p e s m args below meth c s₁ B hml hv
  obtain ⟨rfl, hw⟩ := hv
  have C : MX p s m ([.ref x, .int x1, .int x2, .int x3, .ref o] : List Value).toArray meth c cL_off 6 (some .int) RL (Cond.codeWith yL_off cL_off 6 (some .int) [(0, 12, 15, 13), (0, 12, 19, 15)] :: GW) := ⟨B.exec, B.bytes, B.returns, hml, findClass_of_methodNamed B.named, atoms_spec (ws := Cond.codeWith yL_off cL_off 6 (some .int) [(0, 12, 15, 13), (0, 12, 19, 15)] :: GW) B.pre, B.notSynchronized⟩
  obtain ⟨hx, hb, hr, hml, hown, hts, hlk⟩ := id C
  have htab := vx_table (x := yL_off) B (hts _ List.mem_cons_self)
  have w := wd_of hw
  obtain ⟨ls, hen, hl⟩ : ∃ ls : Array Slot, entryFrame m ([.ref x, .int x1, .int x2, .int x3, .ref o] : List Value).toArray 6 = F0 m 0 ls [] ∧ lv_has ls 6 [(0, .ref x), (1, .int x1), (2, .int x2), (3, .int x3), (4, .ref o)] := ⟨_, lg_entry_eq _ _ _, lv_entry _ (Nat.le_of_ble_eq_true rfl)⟩
  rw [hen]
  have hgr := mo_K_off N h x x1 x2 x3 _ _ hE
  refine lv_aload hx hb dL_off_0 (lv_at hl 4 rfl) ?_
  refine lv_iconst (v := 0) hx hb dL_off_2 (by decide) ?_
  refine lv_aload_n hx hb dL_off_3 rfl (lv_at hl 0 rfl) ?_
  refine lv_iload_n hx hb dL_off_4 rfl (lv_at hl 1 rfl) ?_
  refine lv_iload_n hx hb dL_off_5 rfl (lv_at hl 2 rfl) ?_
  refine lv_iload_n hx hb dL_off_6 rfl (lv_at hl 3 rfl) ?_
  refine w_VC rI GW_good (n := 3) (F := 9) (Lc := 143) (av := [.int x1, .int x2, .int x3]) (rest := [.int 0, .ref o]) (a := x) C w rfl (by decide) hkx (k_K_off l hst D cy z N h x x1 x2 x3 r g hE) hgr gw_41_21 gw_41_22 gw_41_23 gw_1_2 gw_42_0 (by decide +kernel) ⟨Nat.le_of_ble_eq_true rfl, Nat.le_of_ble_eq_true rfl⟩ rfl hl.1 rfl (Nat.le_of_ble_eq_true rfl) dL_off_7 ⟨by omega, by omega⟩ (fun v H locs ev w => ?_) (fun j n H locs q9 ce ev n1 n2 w e1 e2 e3 => ?_)
  · show W p l e _ s m _ below meth c H locs _ _ _ (F0 m 10 ls [.int v, .int 0, .ref o])
    refine lv_i2l hx hb dL_off_10 rfl ?_
    have hu : uJ g (some o) (0 : Int32) (v.toInt64) (fun h2 => some h2) = some (s_j g o 0 (v.toInt64)) := by rw [show (0 : Int32) = iI ((0 : Nat) : Int) from rfl, uJ_i (n := 1) ⟨(hgr.2.2 o hko.2.2).1.trans hko.1, (hgr.2.2 o hko.2.2).2.trans hko.2.1⟩ (by omega) (by omega)]
    refine w_uJ (r := some o) C w dL_off_11 hu (fun h2 H locs w hs2 e2 => ?_)
    cases e2
    refine lv_goto (tgt := 23) hx hb dL_off_12 (by decide) ?_
    refine lv_iconst (v := 0) hx hb dL_off_23 (by decide) ?_
    exact w_iretL C w (Or.inl ⟨v, g, by rw [hE, ev], rfl, rfl⟩) (by omega) (by omega) dL_off_24
  · rcases hj j ev with ej | ej
    · subst ej
      refine vx_catch (own := RL) (name := "java/util/NoSuchElementException") (E := "java/util/NoSuchElementException") hown [] ⟨0, 12, 15, 13⟩ [⟨0, 12, 19, 15⟩] htab (fun z hz => by cases hz) (by decide) (by decide) (hts _ (List.mem_cons_of_mem _ gw_9_0)) (va_Nw.use rfl ((wd_X w).1.2.2.2.2.2.2.1 _ (List.mem_of_getElem? (i := 0) rfl))) e1 e2 e3 ?_
      refine lv_astore (lv' := [(5, .ref q9), (0, .ref x), (1, .int x1), (2, .int x2), (3, .int x3), (4, .ref o)]) hx hb dL_off_15 hl (by decide) rfl (fun ls hl => ?_)
      refine lv_iconst (v := 1) hx hb dL_off_17 (by decide) ?_
      exact w_iretL C w (Or.inr ⟨1, g, n, by rw [hE, ev], rfl, ⟨n1, n2⟩, rfl⟩) (by omega) (by omega) dL_off_18
    · subst ej
      refine vx_catch (own := RL) (name := "java/lang/IllegalArgumentException") (E := "java/lang/IllegalArgumentException") hown [⟨0, 12, 15, 13⟩] ⟨0, 12, 19, 15⟩ [] htab (fun z hz => by rcases List.mem_singleton.mp hz with rfl; exact Or.inr ⟨by decide, _, (hts _ (List.mem_cons_of_mem _ gw_9_0)), (wd_X w).1.2.2.2.2.2.2.2.1 _ (List.mem_of_getElem? (i := 0) rfl)⟩) (by decide) (by decide) (hts _ (List.mem_cons_of_mem _ gw_9_1)) (va_Nw.use rfl ((wd_X w).1.2.2.2.2.2.2.1 _ (List.mem_of_getElem? (i := 1) rfl))) e1 e2 e3 ?_
      refine lv_astore (lv' := [(5, .ref q9), (0, .ref x), (1, .int x1), (2, .int x2), (3, .int x3), (4, .ref o)]) hx hb dL_off_19 hl (by decide) rfl (fun ls hl => ?_)
      refine lv_iconst (v := 2) hx hb dL_off_21 (by decide) ?_
      exact w_iretL C w (Or.inr ⟨2, g, n, by rw [hE, ev], rfl, ⟨n1, n2⟩, rfl⟩) (by omega) (by omega) dL_off_22
set_option maxRecDepth 20000 in
set_option maxHeartbeats 4000000 in
theorem k_L_split (l : Launch) (hst : l.stackTraces = false) (D : va_G) (cy : cyT) (z N : Nat) (h : hS) (x o : Nat) (x1 : Int32) (x2 : Int32) (x3 : Int32) (r : Int64 ⊕ Nat) (g : hS) (hE : f_K_split N h x x1 x2 x3 = some (r, g)) (hkx : h_k h x = 12 + 1) (hko : h_k h o = 51 ∧ h_n h o = 1 ∧ o < h_x h) (hj : ∀ j, r = .inr j → j = 1 ∨ j = 2) : Met l yL_split (Cond.codeWith yL_split cL_split 6 (some .int) [(0, 11, 14, 13), (0, 11, 18, 15)] :: GW) { frames := 11, cells := h_x g - h_x h, slots := h_s g - h_s h, locals := 188 } (va_Pc [.ref x, .int x1, .int x2, .int x3, .ref o] (wU D cy z h)) (lQ D cy z (f_K_split N h x x1 x2 x3) (fun v => v) (fun j => if j = 1 then 1 else 2) o) (h_x g - h_x h) (h_s g - h_s h) (fun q => z ≤ q) := by
  refine Met_ofWH (cc := cL_split) (maxL := 6) (ret := some .int) (hh := [(0, 11, 14, 13), (0, 11, 18, 15)]) (by decide) rfl ?_
  intro p e s m args below meth c s₁ B hml hv
  obtain ⟨rfl, hw⟩ := hv
  have C : MX p s m ([.ref x, .int x1, .int x2, .int x3, .ref o] : List Value).toArray meth c cL_split 6 (some .int) RL (Cond.codeWith yL_split cL_split 6 (some .int) [(0, 11, 14, 13), (0, 11, 18, 15)] :: GW) := ⟨B.exec, B.bytes, B.returns, hml, findClass_of_methodNamed B.named, atoms_spec (ws := Cond.codeWith yL_split cL_split 6 (some .int) [(0, 11, 14, 13), (0, 11, 18, 15)] :: GW) B.pre, B.notSynchronized⟩
  obtain ⟨hx, hb, hr, hml, hown, hts, hlk⟩ := id C
  have htab := vx_table (x := yL_split) B (hts _ List.mem_cons_self)
  have w := wd_of hw
  obtain ⟨ls, hen, hl⟩ : ∃ ls : Array Slot, entryFrame m ([.ref x, .int x1, .int x2, .int x3, .ref o] : List Value).toArray 6 = F0 m 0 ls [] ∧ lv_has ls 6 [(0, .ref x), (1, .int x1), (2, .int x2), (3, .int x3), (4, .ref o)] := ⟨_, lg_entry_eq _ _ _, lv_entry _ (Nat.le_of_ble_eq_true rfl)⟩
  rw [hen]
  have hgr := mo_K_split N h x x1 x2 x3 _ _ hE
  refine lv_aload hx hb dL_split_0 (lv_at hl 4 rfl) ?_
  refine lv_iconst (v := 0) hx hb dL_split_2 (by decide) ?_
  refine lv_aload_n hx hb dL_split_3 rfl (lv_at hl 0 rfl) ?_
  refine lv_iload_n hx hb dL_split_4 rfl (lv_at hl 1 rfl) ?_
  refine lv_iload_n hx hb dL_split_5 rfl (lv_at hl 2 rfl) ?_
  refine lv_iload_n hx hb dL_split_6 rfl (lv_at hl 3 rfl) ?_
  refine w_VC rJ GW_good (n := 3) (F := 10) (Lc := 165) (av := [.int x1, .int x2, .int x3]) (rest := [.int 0, .ref o]) (a := x) C w rfl (by decide) hkx (k_K_split l hst D cy z N h x x1 x2 x3 r g hE) hgr gw_42_14 gw_42_15 gw_42_16 gw_1_2 gw_42_17 (by decide +kernel) ⟨Nat.le_of_ble_eq_true rfl, Nat.le_of_ble_eq_true rfl⟩ rfl hl.1 rfl (Nat.le_of_ble_eq_true rfl) dL_split_7 ⟨by omega, by omega⟩ (fun v H locs ev w => ?_) (fun j n H locs q9 ce ev n1 n2 w e1 e2 e3 => ?_)
  · show W p l e _ s m _ below meth c H locs _ _ _ (F0 m 10 ls [.long v, .int 0, .ref o])
    have hu : uJ g (some o) (0 : Int32) (v) (fun h2 => some h2) = some (s_j g o 0 (v)) := by rw [show (0 : Int32) = iI ((0 : Nat) : Int) from rfl, uJ_i (n := 1) ⟨(hgr.2.2 o hko.2.2).1.trans hko.1, (hgr.2.2 o hko.2.2).2.trans hko.2.1⟩ (by omega) (by omega)]
    refine w_uJ (r := some o) C w dL_split_10 hu (fun h2 H locs w hs2 e2 => ?_)
    cases e2
    refine lv_goto (tgt := 22) hx hb dL_split_11 (by decide) ?_
    refine lv_iconst (v := 0) hx hb dL_split_22 (by decide) ?_
    exact w_iretL C w (Or.inl ⟨v, g, by rw [hE, ev], rfl, rfl⟩) (by omega) (by omega) dL_split_23
  · rcases hj j ev with ej | ej
    · subst ej
      refine vx_catch (own := RL) (name := "java/util/NoSuchElementException") (E := "java/util/NoSuchElementException") hown [] ⟨0, 11, 14, 13⟩ [⟨0, 11, 18, 15⟩] htab (fun z hz => by cases hz) (by decide) (by decide) (hts _ (List.mem_cons_of_mem _ gw_9_0)) (va_Nw.use rfl ((wd_X w).1.2.2.2.2.2.2.1 _ (List.mem_of_getElem? (i := 0) rfl))) e1 e2 e3 ?_
      refine lv_astore (lv' := [(5, .ref q9), (0, .ref x), (1, .int x1), (2, .int x2), (3, .int x3), (4, .ref o)]) hx hb dL_split_14 hl (by decide) rfl (fun ls hl => ?_)
      refine lv_iconst (v := 1) hx hb dL_split_16 (by decide) ?_
      exact w_iretL C w (Or.inr ⟨1, g, n, by rw [hE, ev], rfl, ⟨n1, n2⟩, rfl⟩) (by omega) (by omega) dL_split_17
    · subst ej
      refine vx_catch (own := RL) (name := "java/lang/IllegalArgumentException") (E := "java/lang/IllegalArgumentException") hown [⟨0, 11, 14, 13⟩] ⟨0, 11, 18, 15⟩ [] htab (fun z hz => by rcases List.mem_singleton.mp hz with rfl; exact Or.inr ⟨by decide, _, (hts _ (List.mem_cons_of_mem _ gw_9_0)), (wd_X w).1.2.2.2.2.2.2.2.1 _ (List.mem_of_getElem? (i := 0) rfl)⟩) (by decide) (by decide) (hts _ (List.mem_cons_of_mem _ gw_9_1)) (va_Nw.use rfl ((wd_X w).1.2.2.2.2.2.2.1 _ (List.mem_of_getElem? (i := 1) rfl))) e1 e2 e3 ?_
      refine lv_astore (lv' := [(5, .ref q9), (0, .ref x), (1, .int x1), (2, .int x2), (3, .int x3), (4, .ref o)]) hx hb dL_split_18 hl (by decide) rfl (fun ls hl => ?_)
      refine lv_iconst (v := 2) hx hb dL_split_20 (by decide) ?_
      exact w_iretL C w (Or.inr ⟨2, g, n, by rw [hE, ev], rfl, ⟨n1, n2⟩, rfl⟩) (by omega) (by omega) dL_split_21
set_option maxRecDepth 20000 in
set_option maxHeartbeats 4000000 in
theorem k_L_where (l : Launch) (hst : l.stackTraces = false) (D : va_G) (cy : cyT) (z N : Nat) (h : hS) (x o : Nat) (x1 : Int32) (x2 : Int32) (x3 : Int32) (r : Int32 ⊕ Nat) (g : hS) (hE : f_K_where N h x x1 x2 x3 = some (r, g)) (hkx : h_k h x = 12 + 1) (hko : h_k h o = 51 ∧ h_n h o = 1 ∧ o < h_x h) (hj : ∀ j, r = .inr j → j = 1 ∨ j = 2) : Met l yL_where (Cond.codeWith yL_where cL_where 6 (some .int) [(0, 12, 15, 13), (0, 12, 19, 15)] :: GW) { frames := 11, cells := h_x g - h_x h, slots := h_s g - h_s h, locals := 191 } (va_Pc [.ref x, .int x1, .int x2, .int x3, .ref o] (wU D cy z h)) (lQ D cy z (f_K_where N h x x1 x2 x3) (fun v => v.toInt64) (fun j => if j = 1 then 1 else 2) o) (h_x g - h_x h) (h_s g - h_s h) (fun q => z ≤ q) := by
  refine Met_ofWH (cc := cL_where) (maxL := 6) (ret := some .int) (hh := [(0, 12, 15, 13), (0, 12, 19, 15)]) (by decide) rfl ?_
  intro p e s m args below meth c s₁ B hml hv
  obtain ⟨rfl, hw⟩ := hv
  have C : MX p s m ([.ref x, .int x1, .int x2, .int x3, .ref o] : List Value).toArray meth c cL_where 6 (some .int) RL (Cond.codeWith yL_where cL_where 6 (some .int) [(0, 12, 15, 13), (0, 12, 19, 15)] :: GW) := ⟨B.exec, B.bytes, B.returns, hml, findClass_of_methodNamed B.named, atoms_spec (ws := Cond.codeWith yL_where cL_where 6 (some .int) [(0, 12, 15, 13), (0, 12, 19, 15)] :: GW) B.pre, B.notSynchronized⟩
  obtain ⟨hx, hb, hr, hml, hown, hts, hlk⟩ := id C
  have htab := vx_table (x := yL_where) B (hts _ List.mem_cons_self)
  have w := wd_of hw
  obtain ⟨ls, hen, hl⟩ : ∃ ls : Array Slot, entryFrame m ([.ref x, .int x1, .int x2, .int x3, .ref o] : List Value).toArray 6 = F0 m 0 ls [] ∧ lv_has ls 6 [(0, .ref x), (1, .int x1), (2, .int x2), (3, .int x3), (4, .ref o)] := ⟨_, lg_entry_eq _ _ _, lv_entry _ (Nat.le_of_ble_eq_true rfl)⟩
  rw [hen]
  have hgr := mo_K_where N h x x1 x2 x3 _ _ hE
  refine lv_aload hx hb dL_where_0 (lv_at hl 4 rfl) ?_
  refine lv_iconst (v := 0) hx hb dL_where_2 (by decide) ?_
  refine lv_aload_n hx hb dL_where_3 rfl (lv_at hl 0 rfl) ?_
  refine lv_iload_n hx hb dL_where_4 rfl (lv_at hl 1 rfl) ?_
  refine lv_iload_n hx hb dL_where_5 rfl (lv_at hl 2 rfl) ?_
  refine lv_iload_n hx hb dL_where_6 rfl (lv_at hl 3 rfl) ?_
  refine w_VC rI GW_good (n := 3) (F := 10) (Lc := 165) (av := [.int x1, .int x2, .int x3]) (rest := [.int 0, .ref o]) (a := x) C w rfl (by decide) hkx (k_K_where l hst D cy z N h x x1 x2 x3 r g hE) hgr gw_45_4 gw_45_5 gw_45_6 gw_1_2 gw_45_7 (by decide +kernel) ⟨Nat.le_of_ble_eq_true rfl, Nat.le_of_ble_eq_true rfl⟩ rfl hl.1 rfl (Nat.le_of_ble_eq_true rfl) dL_where_7 ⟨by omega, by omega⟩ (fun v H locs ev w => ?_) (fun j n H locs q9 ce ev n1 n2 w e1 e2 e3 => ?_)
  · show W p l e _ s m _ below meth c H locs _ _ _ (F0 m 10 ls [.int v, .int 0, .ref o])
    refine lv_i2l hx hb dL_where_10 rfl ?_
    have hu : uJ g (some o) (0 : Int32) (v.toInt64) (fun h2 => some h2) = some (s_j g o 0 (v.toInt64)) := by rw [show (0 : Int32) = iI ((0 : Nat) : Int) from rfl, uJ_i (n := 1) ⟨(hgr.2.2 o hko.2.2).1.trans hko.1, (hgr.2.2 o hko.2.2).2.trans hko.2.1⟩ (by omega) (by omega)]
    refine w_uJ (r := some o) C w dL_where_11 hu (fun h2 H locs w hs2 e2 => ?_)
    cases e2
    refine lv_goto (tgt := 23) hx hb dL_where_12 (by decide) ?_
    refine lv_iconst (v := 0) hx hb dL_where_23 (by decide) ?_
    exact w_iretL C w (Or.inl ⟨v, g, by rw [hE, ev], rfl, rfl⟩) (by omega) (by omega) dL_where_24
  · rcases hj j ev with ej | ej
    · subst ej
      refine vx_catch (own := RL) (name := "java/util/NoSuchElementException") (E := "java/util/NoSuchElementException") hown [] ⟨0, 12, 15, 13⟩ [⟨0, 12, 19, 15⟩] htab (fun z hz => by cases hz) (by decide) (by decide) (hts _ (List.mem_cons_of_mem _ gw_9_0)) (va_Nw.use rfl ((wd_X w).1.2.2.2.2.2.2.1 _ (List.mem_of_getElem? (i := 0) rfl))) e1 e2 e3 ?_
      refine lv_astore (lv' := [(5, .ref q9), (0, .ref x), (1, .int x1), (2, .int x2), (3, .int x3), (4, .ref o)]) hx hb dL_where_15 hl (by decide) rfl (fun ls hl => ?_)
      refine lv_iconst (v := 1) hx hb dL_where_17 (by decide) ?_
      exact w_iretL C w (Or.inr ⟨1, g, n, by rw [hE, ev], rfl, ⟨n1, n2⟩, rfl⟩) (by omega) (by omega) dL_where_18
    · subst ej
      refine vx_catch (own := RL) (name := "java/lang/IllegalArgumentException") (E := "java/lang/IllegalArgumentException") hown [⟨0, 12, 15, 13⟩] ⟨0, 12, 19, 15⟩ [] htab (fun z hz => by rcases List.mem_singleton.mp hz with rfl; exact Or.inr ⟨by decide, _, (hts _ (List.mem_cons_of_mem _ gw_9_0)), (wd_X w).1.2.2.2.2.2.2.2.1 _ (List.mem_of_getElem? (i := 0) rfl)⟩) (by decide) (by decide) (hts _ (List.mem_cons_of_mem _ gw_9_1)) (va_Nw.use rfl ((wd_X w).1.2.2.2.2.2.2.1 _ (List.mem_of_getElem? (i := 1) rfl))) e1 e2 e3 ?_
      refine lv_astore (lv' := [(5, .ref q9), (0, .ref x), (1, .int x1), (2, .int x2), (3, .int x3), (4, .ref o)]) hx hb dL_where_19 hl (by decide) rfl (fun ls hl => ?_)
      refine lv_iconst (v := 2) hx hb dL_where_21 (by decide) ?_
      exact w_iretL C w (Or.inr ⟨2, g, n, by rw [hE, ev], rfl, ⟨n1, n2⟩, rfl⟩) (by omega) (by omega) dL_where_22
set_option maxRecDepth 20000 in
set_option maxHeartbeats 4000000 in
theorem k_L_shared (l : Launch) (hst : l.stackTraces = false) (D : va_G) (cy : cyT) (z N : Nat) (h : hS) (x o : Nat) (x1 : Int32) (x2 : Int32) (r : Int64 ⊕ Nat) (g : hS) (hE : f_K_shared N h x x1 x2 = some (r, g)) (hkx : h_k h x = 12 + 1) (hko : h_k h o = 51 ∧ h_n h o = 1 ∧ o < h_x h) (hj : ∀ j, r = .inr j → j = 2) : Met l yL_shared (Cond.codeWith yL_shared cL_shared 5 (some .int) [(0, 9, 12, 15)] :: GW) { frames := 10, cells := h_x g - h_x h, slots := h_s g - h_s h, locals := 168 } (va_Pc [.ref x, .int x1, .int x2, .ref o] (wU D cy z h)) (lQ D cy z (f_K_shared N h x x1 x2) (fun v => v) (fun _ => 1) o) (h_x g - h_x h) (h_s g - h_s h) (fun q => z ≤ q) := by
  refine Met_ofWH (cc := cL_shared) (maxL := 5) (ret := some .int) (hh := [(0, 9, 12, 15)]) (by decide) rfl ?_
  intro p e s m args below meth c s₁ B hml hv
  obtain ⟨rfl, hw⟩ := hv
  have C : MX p s m ([.ref x, .int x1, .int x2, .ref o] : List Value).toArray meth c cL_shared 5 (some .int) RL (Cond.codeWith yL_shared cL_shared 5 (some .int) [(0, 9, 12, 15)] :: GW) := ⟨B.exec, B.bytes, B.returns, hml, findClass_of_methodNamed B.named, atoms_spec (ws := Cond.codeWith yL_shared cL_shared 5 (some .int) [(0, 9, 12, 15)] :: GW) B.pre, B.notSynchronized⟩
  obtain ⟨hx, hb, hr, hml, hown, hts, hlk⟩ := id C
  have htab := vx_table (x := yL_shared) B (hts _ List.mem_cons_self)
  have w := wd_of hw
  obtain ⟨ls, hen, hl⟩ : ∃ ls : Array Slot, entryFrame m ([.ref x, .int x1, .int x2, .ref o] : List Value).toArray 5 = F0 m 0 ls [] ∧ lv_has ls 5 [(0, .ref x), (1, .int x1), (2, .int x2), (3, .ref o)] := ⟨_, lg_entry_eq _ _ _, lv_entry _ (Nat.le_of_ble_eq_true rfl)⟩
  rw [hen]
  have hgr := mo_K_shared N h x x1 x2 _ _ hE
  refine lv_aload_n hx hb dL_shared_0 rfl (lv_at hl 3 rfl) ?_
  refine lv_iconst (v := 0) hx hb dL_shared_1 (by decide) ?_
  refine lv_aload_n hx hb dL_shared_2 rfl (lv_at hl 0 rfl) ?_
  refine lv_iload_n hx hb dL_shared_3 rfl (lv_at hl 1 rfl) ?_
  refine lv_iload_n hx hb dL_shared_4 rfl (lv_at hl 2 rfl) ?_
  refine w_VC rJ GW_good (n := 2) (F := 9) (Lc := 144) (av := [.int x1, .int x2]) (rest := [.int 0, .ref o]) (a := x) C w rfl (by decide) hkx (k_K_shared l hst D cy z N h x x1 x2 r g hE) hgr gw_45_16 gw_45_17 gw_45_18 gw_1_2 gw_45_19 (by decide +kernel) ⟨Nat.le_of_ble_eq_true rfl, Nat.le_of_ble_eq_true rfl⟩ rfl hl.1 rfl (Nat.le_of_ble_eq_true rfl) dL_shared_5 ⟨by omega, by omega⟩ (fun v H locs ev w => ?_) (fun j n H locs q9 ce ev n1 n2 w e1 e2 e3 => ?_)
  · show W p l e _ s m _ below meth c H locs _ _ _ (F0 m 8 ls [.long v, .int 0, .ref o])
    have hu : uJ g (some o) (0 : Int32) (v) (fun h2 => some h2) = some (s_j g o 0 (v)) := by rw [show (0 : Int32) = iI ((0 : Nat) : Int) from rfl, uJ_i (n := 1) ⟨(hgr.2.2 o hko.2.2).1.trans hko.1, (hgr.2.2 o hko.2.2).2.trans hko.2.1⟩ (by omega) (by omega)]
    refine w_uJ (r := some o) C w dL_shared_8 hu (fun h2 H locs w hs2 e2 => ?_)
    cases e2
    refine lv_goto (tgt := 16) hx hb dL_shared_9 (by decide) ?_
    refine lv_iconst (v := 0) hx hb dL_shared_16 (by decide) ?_
    exact w_iretL C w (Or.inl ⟨v, g, by rw [hE, ev], rfl, rfl⟩) (by omega) (by omega) dL_shared_17
  · have ej := hj j ev
    subst ej
    refine vx_catch (own := RL) (name := "java/lang/IllegalArgumentException") (E := "java/lang/IllegalArgumentException") hown [] ⟨0, 9, 12, 15⟩ [] htab (fun z hz => by cases hz) (by decide) (by decide) (hts _ (List.mem_cons_of_mem _ gw_9_1)) (va_Nw.use rfl ((wd_X w).1.2.2.2.2.2.2.1 _ (List.mem_of_getElem? (i := 1) rfl))) e1 e2 e3 ?_
    refine lv_astore (lv' := [(4, .ref q9), (0, .ref x), (1, .int x1), (2, .int x2), (3, .ref o)]) hx hb dL_shared_12 hl (by decide) rfl (fun ls hl => ?_)
    refine lv_iconst (v := 1) hx hb dL_shared_14 (by decide) ?_
    exact w_iretL C w (Or.inr ⟨2, g, n, by rw [hE, ev], rfl, ⟨n1, n2⟩, rfl⟩) (by omega) (by omega) dL_shared_15
set_option maxRecDepth 20000 in
set_option maxHeartbeats 4000000 in
theorem k_L_stretch (l : Launch) (hst : l.stackTraces = false) (D : va_G) (cy : cyT) (z N : Nat) (h : hS) (x o : Nat) (x1 : Int32) (x2 : Int32) (r : Int32 ⊕ Nat) (g : hS) (hE : f_K_stretch N h x x1 x2 = some (r, g)) (hkx : h_k h x = 12 + 1) (hko : h_k h o = 51 ∧ h_n h o = 1 ∧ o < h_x h) (hj : ∀ j, r = .inr j → j = 1 ∨ j = 2) : Met l yL_stretch (Cond.codeWith yL_stretch cL_stretch 5 (some .int) [(0, 10, 13, 13), (0, 10, 17, 15)] :: GW) { frames := 10, cells := h_x g - h_x h, slots := h_s g - h_s h, locals := 188 } (va_Pc [.ref x, .int x1, .int x2, .ref o] (wU D cy z h)) (lQ D cy z (f_K_stretch N h x x1 x2) (fun v => v.toInt64) (fun j => if j = 1 then 1 else 2) o) (h_x g - h_x h) (h_s g - h_s h) (fun q => z ≤ q) := by
  refine Met_ofWH (cc := cL_stretch) (maxL := 5) (ret := some .int) (hh := [(0, 10, 13, 13), (0, 10, 17, 15)]) (by decide) rfl ?_
  intro p e s m args below meth c s₁ B hml hv
  obtain ⟨rfl, hw⟩ := hv
  have C : MX p s m ([.ref x, .int x1, .int x2, .ref o] : List Value).toArray meth c cL_stretch 5 (some .int) RL (Cond.codeWith yL_stretch cL_stretch 5 (some .int) [(0, 10, 13, 13), (0, 10, 17, 15)] :: GW) := ⟨B.exec, B.bytes, B.returns, hml, findClass_of_methodNamed B.named, atoms_spec (ws := Cond.codeWith yL_stretch cL_stretch 5 (some .int) [(0, 10, 13, 13), (0, 10, 17, 15)] :: GW) B.pre, B.notSynchronized⟩
  obtain ⟨hx, hb, hr, hml, hown, hts, hlk⟩ := id C
  have htab := vx_table (x := yL_stretch) B (hts _ List.mem_cons_self)
  have w := wd_of hw
  obtain ⟨ls, hen, hl⟩ : ∃ ls : Array Slot, entryFrame m ([.ref x, .int x1, .int x2, .ref o] : List Value).toArray 5 = F0 m 0 ls [] ∧ lv_has ls 5 [(0, .ref x), (1, .int x1), (2, .int x2), (3, .ref o)] := ⟨_, lg_entry_eq _ _ _, lv_entry _ (Nat.le_of_ble_eq_true rfl)⟩
  rw [hen]
  have hgr := mo_K_stretch N h x x1 x2 _ _ hE
  refine lv_aload_n hx hb dL_stretch_0 rfl (lv_at hl 3 rfl) ?_
  refine lv_iconst (v := 0) hx hb dL_stretch_1 (by decide) ?_
  refine lv_aload_n hx hb dL_stretch_2 rfl (lv_at hl 0 rfl) ?_
  refine lv_iload_n hx hb dL_stretch_3 rfl (lv_at hl 1 rfl) ?_
  refine lv_iload_n hx hb dL_stretch_4 rfl (lv_at hl 2 rfl) ?_
  refine w_VC rI GW_good (n := 2) (F := 9) (Lc := 165) (av := [.int x1, .int x2]) (rest := [.int 0, .ref o]) (a := x) C w rfl (by decide) hkx (k_K_stretch l hst D cy z N h x x1 x2 r g hE) hgr gw_46_4 gw_46_5 gw_46_6 gw_1_2 gw_46_7 (by decide +kernel) ⟨Nat.le_of_ble_eq_true rfl, Nat.le_of_ble_eq_true rfl⟩ rfl hl.1 rfl (Nat.le_of_ble_eq_true rfl) dL_stretch_5 ⟨by omega, by omega⟩ (fun v H locs ev w => ?_) (fun j n H locs q9 ce ev n1 n2 w e1 e2 e3 => ?_)
  · show W p l e _ s m _ below meth c H locs _ _ _ (F0 m 8 ls [.int v, .int 0, .ref o])
    refine lv_i2l hx hb dL_stretch_8 rfl ?_
    have hu : uJ g (some o) (0 : Int32) (v.toInt64) (fun h2 => some h2) = some (s_j g o 0 (v.toInt64)) := by rw [show (0 : Int32) = iI ((0 : Nat) : Int) from rfl, uJ_i (n := 1) ⟨(hgr.2.2 o hko.2.2).1.trans hko.1, (hgr.2.2 o hko.2.2).2.trans hko.2.1⟩ (by omega) (by omega)]
    refine w_uJ (r := some o) C w dL_stretch_9 hu (fun h2 H locs w hs2 e2 => ?_)
    cases e2
    refine lv_goto (tgt := 21) hx hb dL_stretch_10 (by decide) ?_
    refine lv_iconst (v := 0) hx hb dL_stretch_21 (by decide) ?_
    exact w_iretL C w (Or.inl ⟨v, g, by rw [hE, ev], rfl, rfl⟩) (by omega) (by omega) dL_stretch_22
  · rcases hj j ev with ej | ej
    · subst ej
      refine vx_catch (own := RL) (name := "java/util/NoSuchElementException") (E := "java/util/NoSuchElementException") hown [] ⟨0, 10, 13, 13⟩ [⟨0, 10, 17, 15⟩] htab (fun z hz => by cases hz) (by decide) (by decide) (hts _ (List.mem_cons_of_mem _ gw_9_0)) (va_Nw.use rfl ((wd_X w).1.2.2.2.2.2.2.1 _ (List.mem_of_getElem? (i := 0) rfl))) e1 e2 e3 ?_
      refine lv_astore (lv' := [(4, .ref q9), (0, .ref x), (1, .int x1), (2, .int x2), (3, .ref o)]) hx hb dL_stretch_13 hl (by decide) rfl (fun ls hl => ?_)
      refine lv_iconst (v := 1) hx hb dL_stretch_15 (by decide) ?_
      exact w_iretL C w (Or.inr ⟨1, g, n, by rw [hE, ev], rfl, ⟨n1, n2⟩, rfl⟩) (by omega) (by omega) dL_stretch_16
    · subst ej
      refine vx_catch (own := RL) (name := "java/lang/IllegalArgumentException") (E := "java/lang/IllegalArgumentException") hown [⟨0, 10, 13, 13⟩] ⟨0, 10, 17, 15⟩ [] htab (fun z hz => by rcases List.mem_singleton.mp hz with rfl; exact Or.inr ⟨by decide, _, (hts _ (List.mem_cons_of_mem _ gw_9_0)), (wd_X w).1.2.2.2.2.2.2.2.1 _ (List.mem_of_getElem? (i := 0) rfl)⟩) (by decide) (by decide) (hts _ (List.mem_cons_of_mem _ gw_9_1)) (va_Nw.use rfl ((wd_X w).1.2.2.2.2.2.2.1 _ (List.mem_of_getElem? (i := 1) rfl))) e1 e2 e3 ?_
      refine lv_astore (lv' := [(4, .ref q9), (0, .ref x), (1, .int x1), (2, .int x2), (3, .ref o)]) hx hb dL_stretch_17 hl (by decide) rfl (fun ls hl => ?_)
      refine lv_iconst (v := 2) hx hb dL_stretch_19 (by decide) ?_
      exact w_iretL C w (Or.inr ⟨2, g, n, by rw [hE, ev], rfl, ⟨n1, n2⟩, rfl⟩) (by omega) (by omega) dL_stretch_20
set_option maxRecDepth 20000 in
set_option maxHeartbeats 4000000 in
theorem k_L_leads (l : Launch) (hst : l.stackTraces = false) (D : va_G) (cy : cyT) (z N : Nat) (h : hS) (x o : Nat) (x1 : Int32) (x2 : Int32) (x3 : Int32) (r : Int32 ⊕ Nat) (g : hS) (hE : f_K_leads N h x x1 x2 x3 = some (r, g)) (hkx : h_k h x = 12 + 1) (hko : h_k h o = 51 ∧ h_n h o = 1 ∧ o < h_x h) (hj : ∀ j, r = .inr j → j = 1) : Met l yL_leads (Cond.codeWith yL_leads cL_leads 6 (some .int) [(0, 12, 15, 13)] :: GW) { frames := 10, cells := h_x g - h_x h, slots := h_s g - h_s h, locals := 169 } (va_Pc [.ref x, .int x1, .int x2, .int x3, .ref o] (wU D cy z h)) (lQ D cy z (f_K_leads N h x x1 x2 x3) (fun v => v.toInt64) (fun j => if j = 1 then 1 else 2) o) (h_x g - h_x h) (h_s g - h_s h) (fun q => z ≤ q) := by
  refine Met_ofWH (cc := cL_leads) (maxL := 6) (ret := some .int) (hh := [(0, 12, 15, 13)]) (by decide) rfl ?_
  intro p e s m args below meth c s₁ B hml hv
  obtain ⟨rfl, hw⟩ := hv
  have C : MX p s m ([.ref x, .int x1, .int x2, .int x3, .ref o] : List Value).toArray meth c cL_leads 6 (some .int) RL (Cond.codeWith yL_leads cL_leads 6 (some .int) [(0, 12, 15, 13)] :: GW) := ⟨B.exec, B.bytes, B.returns, hml, findClass_of_methodNamed B.named, atoms_spec (ws := Cond.codeWith yL_leads cL_leads 6 (some .int) [(0, 12, 15, 13)] :: GW) B.pre, B.notSynchronized⟩
  obtain ⟨hx, hb, hr, hml, hown, hts, hlk⟩ := id C
  have htab := vx_table (x := yL_leads) B (hts _ List.mem_cons_self)
  have w := wd_of hw
  obtain ⟨ls, hen, hl⟩ : ∃ ls : Array Slot, entryFrame m ([.ref x, .int x1, .int x2, .int x3, .ref o] : List Value).toArray 6 = F0 m 0 ls [] ∧ lv_has ls 6 [(0, .ref x), (1, .int x1), (2, .int x2), (3, .int x3), (4, .ref o)] := ⟨_, lg_entry_eq _ _ _, lv_entry _ (Nat.le_of_ble_eq_true rfl)⟩
  rw [hen]
  have hgr := mo_K_leads N h x x1 x2 x3 _ _ hE
  refine lv_aload hx hb dL_leads_0 (lv_at hl 4 rfl) ?_
  refine lv_iconst (v := 0) hx hb dL_leads_2 (by decide) ?_
  refine lv_aload_n hx hb dL_leads_3 rfl (lv_at hl 0 rfl) ?_
  refine lv_iload_n hx hb dL_leads_4 rfl (lv_at hl 1 rfl) ?_
  refine lv_iload_n hx hb dL_leads_5 rfl (lv_at hl 2 rfl) ?_
  refine lv_iload_n hx hb dL_leads_6 rfl (lv_at hl 3 rfl) ?_
  refine w_VC rI GW_good (n := 3) (F := 9) (Lc := 143) (av := [.int x1, .int x2, .int x3]) (rest := [.int 0, .ref o]) (a := x) C w rfl (by decide) hkx (k_K_leads l hst D cy z N h x x1 x2 x3 r g hE) hgr gw_46_20 gw_46_21 gw_46_22 gw_1_2 gw_46_23 (by decide +kernel) ⟨Nat.le_of_ble_eq_true rfl, Nat.le_of_ble_eq_true rfl⟩ rfl hl.1 rfl (Nat.le_of_ble_eq_true rfl) dL_leads_7 ⟨by omega, by omega⟩ (fun v H locs ev w => ?_) (fun j n H locs q9 ce ev n1 n2 w e1 e2 e3 => ?_)
  · show W p l e _ s m _ below meth c H locs _ _ _ (F0 m 10 ls [.int v, .int 0, .ref o])
    refine lv_i2l hx hb dL_leads_10 rfl ?_
    have hu : uJ g (some o) (0 : Int32) (v.toInt64) (fun h2 => some h2) = some (s_j g o 0 (v.toInt64)) := by rw [show (0 : Int32) = iI ((0 : Nat) : Int) from rfl, uJ_i (n := 1) ⟨(hgr.2.2 o hko.2.2).1.trans hko.1, (hgr.2.2 o hko.2.2).2.trans hko.2.1⟩ (by omega) (by omega)]
    refine w_uJ (r := some o) C w dL_leads_11 hu (fun h2 H locs w hs2 e2 => ?_)
    cases e2
    refine lv_goto (tgt := 19) hx hb dL_leads_12 (by decide) ?_
    refine lv_iconst (v := 0) hx hb dL_leads_19 (by decide) ?_
    exact w_iretL C w (Or.inl ⟨v, g, by rw [hE, ev], rfl, rfl⟩) (by omega) (by omega) dL_leads_20
  · have ej := hj j ev
    subst ej
    refine vx_catch (own := RL) (name := "java/util/NoSuchElementException") (E := "java/util/NoSuchElementException") hown [] ⟨0, 12, 15, 13⟩ [] htab (fun z hz => by cases hz) (by decide) (by decide) (hts _ (List.mem_cons_of_mem _ gw_9_0)) (va_Nw.use rfl ((wd_X w).1.2.2.2.2.2.2.1 _ (List.mem_of_getElem? (i := 0) rfl))) e1 e2 e3 ?_
    refine lv_astore (lv' := [(5, .ref q9), (0, .ref x), (1, .int x1), (2, .int x2), (3, .int x3), (4, .ref o)]) hx hb dL_leads_15 hl (by decide) rfl (fun ls hl => ?_)
    refine lv_iconst (v := 1) hx hb dL_leads_17 (by decide) ?_
    exact w_iretL C w (Or.inr ⟨1, g, n, by rw [hE, ev], rfl, ⟨n1, n2⟩, rfl⟩) (by omega) (by omega) dL_leads_18
set_option maxRecDepth 20000 in
set_option maxHeartbeats 4000000 in
theorem k_L_against (l : Launch) (hst : l.stackTraces = false) (D : va_G) (cy : cyT) (z N : Nat) (h : hS) (x o : Nat) (x1 : Int32) (x2 : Int32) (x3 : Int32) (r : Int64 ⊕ Nat) (g : hS) (hE : f_K_against N h x x1 x2 x3 = some (r, g)) (hkx : h_k h x = 12 + 1) (hko : h_k h o = 51 ∧ h_n h o = 1 ∧ o < h_x h) (hj : ∀ j, r = .inr j → j = 1 ∨ j = 2) : Met l yL_against (Cond.codeWith yL_against cL_against 6 (some .int) [(0, 11, 14, 13), (0, 11, 18, 15)] :: GW) { frames := 10, cells := h_x g - h_x h, slots := h_s g - h_s h, locals := 168 } (va_Pc [.ref x, .int x1, .int x2, .int x3, .ref o] (wU D cy z h)) (lQ D cy z (f_K_against N h x x1 x2 x3) (fun v => v) (fun j => if j = 1 then 1 else 2) o) (h_x g - h_x h) (h_s g - h_s h) (fun q => z ≤ q) := by
  refine Met_ofWH (cc := cL_against) (maxL := 6) (ret := some .int) (hh := [(0, 11, 14, 13), (0, 11, 18, 15)]) (by decide) rfl ?_
  intro p e s m args below meth c s₁ B hml hv
  obtain ⟨rfl, hw⟩ := hv
  have C : MX p s m ([.ref x, .int x1, .int x2, .int x3, .ref o] : List Value).toArray meth c cL_against 6 (some .int) RL (Cond.codeWith yL_against cL_against 6 (some .int) [(0, 11, 14, 13), (0, 11, 18, 15)] :: GW) := ⟨B.exec, B.bytes, B.returns, hml, findClass_of_methodNamed B.named, atoms_spec (ws := Cond.codeWith yL_against cL_against 6 (some .int) [(0, 11, 14, 13), (0, 11, 18, 15)] :: GW) B.pre, B.notSynchronized⟩
  obtain ⟨hx, hb, hr, hml, hown, hts, hlk⟩ := id C
  have htab := vx_table (x := yL_against) B (hts _ List.mem_cons_self)
  have w := wd_of hw
  obtain ⟨ls, hen, hl⟩ : ∃ ls : Array Slot, entryFrame m ([.ref x, .int x1, .int x2, .int x3, .ref o] : List Value).toArray 6 = F0 m 0 ls [] ∧ lv_has ls 6 [(0, .ref x), (1, .int x1), (2, .int x2), (3, .int x3), (4, .ref o)] := ⟨_, lg_entry_eq _ _ _, lv_entry _ (Nat.le_of_ble_eq_true rfl)⟩
  rw [hen]
  have hgr := mo_K_against N h x x1 x2 x3 _ _ hE
  refine lv_aload hx hb dL_against_0 (lv_at hl 4 rfl) ?_
  refine lv_iconst (v := 0) hx hb dL_against_2 (by decide) ?_
  refine lv_aload_n hx hb dL_against_3 rfl (lv_at hl 0 rfl) ?_
  refine lv_iload_n hx hb dL_against_4 rfl (lv_at hl 1 rfl) ?_
  refine lv_iload_n hx hb dL_against_5 rfl (lv_at hl 2 rfl) ?_
  refine lv_iload_n hx hb dL_against_6 rfl (lv_at hl 3 rfl) ?_
  refine w_VC rJ GW_good (n := 3) (F := 9) (Lc := 143) (av := [.int x1, .int x2, .int x3]) (rest := [.int 0, .ref o]) (a := x) C w rfl (by decide) hkx (k_K_against l hst D cy z N h x x1 x2 x3 r g hE) hgr gw_48_12 gw_48_13 gw_48_14 gw_1_2 gw_48_15 (by decide +kernel) ⟨Nat.le_of_ble_eq_true rfl, Nat.le_of_ble_eq_true rfl⟩ rfl hl.1 rfl (Nat.le_of_ble_eq_true rfl) dL_against_7 ⟨by omega, by omega⟩ (fun v H locs ev w => ?_) (fun j n H locs q9 ce ev n1 n2 w e1 e2 e3 => ?_)
  · show W p l e _ s m _ below meth c H locs _ _ _ (F0 m 10 ls [.long v, .int 0, .ref o])
    have hu : uJ g (some o) (0 : Int32) (v) (fun h2 => some h2) = some (s_j g o 0 (v)) := by rw [show (0 : Int32) = iI ((0 : Nat) : Int) from rfl, uJ_i (n := 1) ⟨(hgr.2.2 o hko.2.2).1.trans hko.1, (hgr.2.2 o hko.2.2).2.trans hko.2.1⟩ (by omega) (by omega)]
    refine w_uJ (r := some o) C w dL_against_10 hu (fun h2 H locs w hs2 e2 => ?_)
    cases e2
    refine lv_goto (tgt := 22) hx hb dL_against_11 (by decide) ?_
    refine lv_iconst (v := 0) hx hb dL_against_22 (by decide) ?_
    exact w_iretL C w (Or.inl ⟨v, g, by rw [hE, ev], rfl, rfl⟩) (by omega) (by omega) dL_against_23
  · rcases hj j ev with ej | ej
    · subst ej
      refine vx_catch (own := RL) (name := "java/util/NoSuchElementException") (E := "java/util/NoSuchElementException") hown [] ⟨0, 11, 14, 13⟩ [⟨0, 11, 18, 15⟩] htab (fun z hz => by cases hz) (by decide) (by decide) (hts _ (List.mem_cons_of_mem _ gw_9_0)) (va_Nw.use rfl ((wd_X w).1.2.2.2.2.2.2.1 _ (List.mem_of_getElem? (i := 0) rfl))) e1 e2 e3 ?_
      refine lv_astore (lv' := [(5, .ref q9), (0, .ref x), (1, .int x1), (2, .int x2), (3, .int x3), (4, .ref o)]) hx hb dL_against_14 hl (by decide) rfl (fun ls hl => ?_)
      refine lv_iconst (v := 1) hx hb dL_against_16 (by decide) ?_
      exact w_iretL C w (Or.inr ⟨1, g, n, by rw [hE, ev], rfl, ⟨n1, n2⟩, rfl⟩) (by omega) (by omega) dL_against_17
    · subst ej
      refine vx_catch (own := RL) (name := "java/lang/IllegalArgumentException") (E := "java/lang/IllegalArgumentException") hown [⟨0, 11, 14, 13⟩] ⟨0, 11, 18, 15⟩ [] htab (fun z hz => by rcases List.mem_singleton.mp hz with rfl; exact Or.inr ⟨by decide, _, (hts _ (List.mem_cons_of_mem _ gw_9_0)), (wd_X w).1.2.2.2.2.2.2.2.1 _ (List.mem_of_getElem? (i := 0) rfl)⟩) (by decide) (by decide) (hts _ (List.mem_cons_of_mem _ gw_9_1)) (va_Nw.use rfl ((wd_X w).1.2.2.2.2.2.2.1 _ (List.mem_of_getElem? (i := 1) rfl))) e1 e2 e3 ?_
      refine lv_astore (lv' := [(5, .ref q9), (0, .ref x), (1, .int x1), (2, .int x2), (3, .int x3), (4, .ref o)]) hx hb dL_against_18 hl (by decide) rfl (fun ls hl => ?_)
      refine lv_iconst (v := 2) hx hb dL_against_20 (by decide) ?_
      exact w_iretL C w (Or.inr ⟨2, g, n, by rw [hE, ev], rfl, ⟨n1, n2⟩, rfl⟩) (by omega) (by omega) dL_against_21
set_option maxRecDepth 20000 in
set_option maxHeartbeats 4000000 in
theorem k_L_meet (l : Launch) (hst : l.stackTraces = false) (D : va_G) (cy : cyT) (z N : Nat) (h : hS) (x o : Nat) (x1 : Int32) (x2 : Int32) (r : Int32 ⊕ Nat) (g : hS) (hE : f_K_meet N h x x1 x2 = some (r, g)) (hkx : h_k h x = 12 + 1) (hko : h_k h o = 51 ∧ h_n h o = 1 ∧ o < h_x h) (hj : ∀ j, r = .inr j → j = 1) : Met l yL_meet (Cond.codeWith yL_meet cL_meet 5 (some .int) [(0, 10, 13, 13)] :: GW) { frames := 10, cells := h_x g - h_x h, slots := h_s g - h_s h, locals := 167 } (va_Pc [.ref x, .int x1, .int x2, .ref o] (wU D cy z h)) (lQ D cy z (f_K_meet N h x x1 x2) (fun v => v.toInt64) (fun j => if j = 1 then 1 else 2) o) (h_x g - h_x h) (h_s g - h_s h) (fun q => z ≤ q) := by
  refine Met_ofWH (cc := cL_meet) (maxL := 5) (ret := some .int) (hh := [(0, 10, 13, 13)]) (by decide) rfl ?_
  intro p e s m args below meth c s₁ B hml hv
  obtain ⟨rfl, hw⟩ := hv
  have C : MX p s m ([.ref x, .int x1, .int x2, .ref o] : List Value).toArray meth c cL_meet 5 (some .int) RL (Cond.codeWith yL_meet cL_meet 5 (some .int) [(0, 10, 13, 13)] :: GW) := ⟨B.exec, B.bytes, B.returns, hml, findClass_of_methodNamed B.named, atoms_spec (ws := Cond.codeWith yL_meet cL_meet 5 (some .int) [(0, 10, 13, 13)] :: GW) B.pre, B.notSynchronized⟩
  obtain ⟨hx, hb, hr, hml, hown, hts, hlk⟩ := id C
  have htab := vx_table (x := yL_meet) B (hts _ List.mem_cons_self)
  have w := wd_of hw
  obtain ⟨ls, hen, hl⟩ : ∃ ls : Array Slot, entryFrame m ([.ref x, .int x1, .int x2, .ref o] : List Value).toArray 5 = F0 m 0 ls [] ∧ lv_has ls 5 [(0, .ref x), (1, .int x1), (2, .int x2), (3, .ref o)] := ⟨_, lg_entry_eq _ _ _, lv_entry _ (Nat.le_of_ble_eq_true rfl)⟩
  rw [hen]
  have hgr := mo_K_meet N h x x1 x2 _ _ hE
  refine lv_aload_n hx hb dL_meet_0 rfl (lv_at hl 3 rfl) ?_
  refine lv_iconst (v := 0) hx hb dL_meet_1 (by decide) ?_
  refine lv_aload_n hx hb dL_meet_2 rfl (lv_at hl 0 rfl) ?_
  refine lv_iload_n hx hb dL_meet_3 rfl (lv_at hl 1 rfl) ?_
  refine lv_iload_n hx hb dL_meet_4 rfl (lv_at hl 2 rfl) ?_
  refine w_VC rI GW_good (n := 2) (F := 9) (Lc := 143) (av := [.int x1, .int x2]) (rest := [.int 0, .ref o]) (a := x) C w rfl (by decide) hkx (k_K_meet l hst D cy z N h x x1 x2 r g hE) hgr gw_49_12 gw_49_13 gw_49_14 gw_1_2 gw_49_15 (by decide +kernel) ⟨Nat.le_of_ble_eq_true rfl, Nat.le_of_ble_eq_true rfl⟩ rfl hl.1 rfl (Nat.le_of_ble_eq_true rfl) dL_meet_5 ⟨by omega, by omega⟩ (fun v H locs ev w => ?_) (fun j n H locs q9 ce ev n1 n2 w e1 e2 e3 => ?_)
  · show W p l e _ s m _ below meth c H locs _ _ _ (F0 m 8 ls [.int v, .int 0, .ref o])
    refine lv_i2l hx hb dL_meet_8 rfl ?_
    have hu : uJ g (some o) (0 : Int32) (v.toInt64) (fun h2 => some h2) = some (s_j g o 0 (v.toInt64)) := by rw [show (0 : Int32) = iI ((0 : Nat) : Int) from rfl, uJ_i (n := 1) ⟨(hgr.2.2 o hko.2.2).1.trans hko.1, (hgr.2.2 o hko.2.2).2.trans hko.2.1⟩ (by omega) (by omega)]
    refine w_uJ (r := some o) C w dL_meet_9 hu (fun h2 H locs w hs2 e2 => ?_)
    cases e2
    refine lv_goto (tgt := 17) hx hb dL_meet_10 (by decide) ?_
    refine lv_iconst (v := 0) hx hb dL_meet_17 (by decide) ?_
    exact w_iretL C w (Or.inl ⟨v, g, by rw [hE, ev], rfl, rfl⟩) (by omega) (by omega) dL_meet_18
  · have ej := hj j ev
    subst ej
    refine vx_catch (own := RL) (name := "java/util/NoSuchElementException") (E := "java/util/NoSuchElementException") hown [] ⟨0, 10, 13, 13⟩ [] htab (fun z hz => by cases hz) (by decide) (by decide) (hts _ (List.mem_cons_of_mem _ gw_9_0)) (va_Nw.use rfl ((wd_X w).1.2.2.2.2.2.2.1 _ (List.mem_of_getElem? (i := 0) rfl))) e1 e2 e3 ?_
    refine lv_astore (lv' := [(4, .ref q9), (0, .ref x), (1, .int x1), (2, .int x2), (3, .ref o)]) hx hb dL_meet_13 hl (by decide) rfl (fun ls hl => ?_)
    refine lv_iconst (v := 1) hx hb dL_meet_15 (by decide) ?_
    exact w_iretL C w (Or.inr ⟨1, g, n, by rw [hE, ev], rfl, ⟨n1, n2⟩, rfl⟩) (by omega) (by omega) dL_meet_16
set_option maxRecDepth 20000 in
set_option maxHeartbeats 4000000 in
theorem k_L_heaviest (l : Launch) (hst : l.stackTraces = false) (D : va_G) (cy : cyT) (z N : Nat) (h : hS) (x o : Nat) (x1 : Int32) (x2 : Int32) (x3 : Int32) (r : Int32 ⊕ Nat) (g : hS) (hE : f_K_heaviest N h x x1 x2 x3 = some (r, g)) (hkx : h_k h x = 12 + 1) (hko : h_k h o = 51 ∧ h_n h o = 1 ∧ o < h_x h) (hj : ∀ j, r = .inr j → j = 1 ∨ j = 2) : Met l yL_heaviest (Cond.codeWith yL_heaviest cL_heaviest 6 (some .int) [(0, 12, 15, 13), (0, 12, 19, 15)] :: GW) { frames := 11, cells := h_x g - h_x h, slots := h_s g - h_s h, locals := 192 } (va_Pc [.ref x, .int x1, .int x2, .int x3, .ref o] (wU D cy z h)) (lQ D cy z (f_K_heaviest N h x x1 x2 x3) (fun v => v.toInt64) (fun j => if j = 1 then 1 else 2) o) (h_x g - h_x h) (h_s g - h_s h) (fun q => z ≤ q) := by
  refine Met_ofWH (cc := cL_heaviest) (maxL := 6) (ret := some .int) (hh := [(0, 12, 15, 13), (0, 12, 19, 15)]) (by decide) rfl ?_
  intro p e s m args below meth c s₁ B hml hv
  obtain ⟨rfl, hw⟩ := hv
  have C : MX p s m ([.ref x, .int x1, .int x2, .int x3, .ref o] : List Value).toArray meth c cL_heaviest 6 (some .int) RL (Cond.codeWith yL_heaviest cL_heaviest 6 (some .int) [(0, 12, 15, 13), (0, 12, 19, 15)] :: GW) := ⟨B.exec, B.bytes, B.returns, hml, findClass_of_methodNamed B.named, atoms_spec (ws := Cond.codeWith yL_heaviest cL_heaviest 6 (some .int) [(0, 12, 15, 13), (0, 12, 19, 15)] :: GW) B.pre, B.notSynchronized⟩
  obtain ⟨hx, hb, hr, hml, hown, hts, hlk⟩ := id C
  have htab := vx_table (x := yL_heaviest) B (hts _ List.mem_cons_self)
  have w := wd_of hw
  obtain ⟨ls, hen, hl⟩ : ∃ ls : Array Slot, entryFrame m ([.ref x, .int x1, .int x2, .int x3, .ref o] : List Value).toArray 6 = F0 m 0 ls [] ∧ lv_has ls 6 [(0, .ref x), (1, .int x1), (2, .int x2), (3, .int x3), (4, .ref o)] := ⟨_, lg_entry_eq _ _ _, lv_entry _ (Nat.le_of_ble_eq_true rfl)⟩
  rw [hen]
  have hgr := mo_K_heaviest N h x x1 x2 x3 _ _ hE
  refine lv_aload hx hb dL_heaviest_0 (lv_at hl 4 rfl) ?_
  refine lv_iconst (v := 0) hx hb dL_heaviest_2 (by decide) ?_
  refine lv_aload_n hx hb dL_heaviest_3 rfl (lv_at hl 0 rfl) ?_
  refine lv_iload_n hx hb dL_heaviest_4 rfl (lv_at hl 1 rfl) ?_
  refine lv_iload_n hx hb dL_heaviest_5 rfl (lv_at hl 2 rfl) ?_
  refine lv_iload_n hx hb dL_heaviest_6 rfl (lv_at hl 3 rfl) ?_
  refine w_VC rI GW_good (n := 3) (F := 10) (Lc := 167) (av := [.int x1, .int x2, .int x3]) (rest := [.int 0, .ref o]) (a := x) C w rfl (by decide) hkx (k_K_heaviest l hst D cy z N h x x1 x2 x3 r g hE) hgr gw_50_0 gw_50_1 gw_50_2 gw_1_2 gw_50_3 (by decide +kernel) ⟨Nat.le_of_ble_eq_true rfl, Nat.le_of_ble_eq_true rfl⟩ rfl hl.1 rfl (Nat.le_of_ble_eq_true rfl) dL_heaviest_7 ⟨by omega, by omega⟩ (fun v H locs ev w => ?_) (fun j n H locs q9 ce ev n1 n2 w e1 e2 e3 => ?_)
  · show W p l e _ s m _ below meth c H locs _ _ _ (F0 m 10 ls [.int v, .int 0, .ref o])
    refine lv_i2l hx hb dL_heaviest_10 rfl ?_
    have hu : uJ g (some o) (0 : Int32) (v.toInt64) (fun h2 => some h2) = some (s_j g o 0 (v.toInt64)) := by rw [show (0 : Int32) = iI ((0 : Nat) : Int) from rfl, uJ_i (n := 1) ⟨(hgr.2.2 o hko.2.2).1.trans hko.1, (hgr.2.2 o hko.2.2).2.trans hko.2.1⟩ (by omega) (by omega)]
    refine w_uJ (r := some o) C w dL_heaviest_11 hu (fun h2 H locs w hs2 e2 => ?_)
    cases e2
    refine lv_goto (tgt := 23) hx hb dL_heaviest_12 (by decide) ?_
    refine lv_iconst (v := 0) hx hb dL_heaviest_23 (by decide) ?_
    exact w_iretL C w (Or.inl ⟨v, g, by rw [hE, ev], rfl, rfl⟩) (by omega) (by omega) dL_heaviest_24
  · rcases hj j ev with ej | ej
    · subst ej
      refine vx_catch (own := RL) (name := "java/util/NoSuchElementException") (E := "java/util/NoSuchElementException") hown [] ⟨0, 12, 15, 13⟩ [⟨0, 12, 19, 15⟩] htab (fun z hz => by cases hz) (by decide) (by decide) (hts _ (List.mem_cons_of_mem _ gw_9_0)) (va_Nw.use rfl ((wd_X w).1.2.2.2.2.2.2.1 _ (List.mem_of_getElem? (i := 0) rfl))) e1 e2 e3 ?_
      refine lv_astore (lv' := [(5, .ref q9), (0, .ref x), (1, .int x1), (2, .int x2), (3, .int x3), (4, .ref o)]) hx hb dL_heaviest_15 hl (by decide) rfl (fun ls hl => ?_)
      refine lv_iconst (v := 1) hx hb dL_heaviest_17 (by decide) ?_
      exact w_iretL C w (Or.inr ⟨1, g, n, by rw [hE, ev], rfl, ⟨n1, n2⟩, rfl⟩) (by omega) (by omega) dL_heaviest_18
    · subst ej
      refine vx_catch (own := RL) (name := "java/lang/IllegalArgumentException") (E := "java/lang/IllegalArgumentException") hown [⟨0, 12, 15, 13⟩] ⟨0, 12, 19, 15⟩ [] htab (fun z hz => by rcases List.mem_singleton.mp hz with rfl; exact Or.inr ⟨by decide, _, (hts _ (List.mem_cons_of_mem _ gw_9_0)), (wd_X w).1.2.2.2.2.2.2.2.1 _ (List.mem_of_getElem? (i := 0) rfl)⟩) (by decide) (by decide) (hts _ (List.mem_cons_of_mem _ gw_9_1)) (va_Nw.use rfl ((wd_X w).1.2.2.2.2.2.2.1 _ (List.mem_of_getElem? (i := 1) rfl))) e1 e2 e3 ?_
      refine lv_astore (lv' := [(5, .ref q9), (0, .ref x), (1, .int x1), (2, .int x2), (3, .int x3), (4, .ref o)]) hx hb dL_heaviest_19 hl (by decide) rfl (fun ls hl => ?_)
      refine lv_iconst (v := 2) hx hb dL_heaviest_21 (by decide) ?_
      exact w_iretL C w (Or.inr ⟨2, g, n, by rw [hE, ev], rfl, ⟨n1, n2⟩, rfl⟩) (by omega) (by omega) dL_heaviest_22
set_option maxRecDepth 20000 in
set_option maxHeartbeats 4000000 in
theorem k_L_spared (l : Launch) (hst : l.stackTraces = false) (D : va_G) (cy : cyT) (z N : Nat) (h : hS) (x o : Nat) (x1 : Int32) (x2 : Int32) (r : Int64 ⊕ Nat) (g : hS) (hE : f_K_spared N h x x1 x2 = some (r, g)) (hkx : h_k h x = 12 + 1) (hko : h_k h o = 51 ∧ h_n h o = 1 ∧ o < h_x h) (hj : ∀ j, r = .inr j → j = 1) : Met l yL_spared (Cond.codeWith yL_spared cL_spared 5 (some .int) [(0, 9, 12, 13)] :: GW) { frames := 11, cells := h_x g - h_x h, slots := h_s g - h_s h, locals := 212 } (va_Pc [.ref x, .int x1, .int x2, .ref o] (wU D cy z h)) (lQ D cy z (f_K_spared N h x x1 x2) (fun v => v) (fun j => if j = 1 then 1 else 2) o) (h_x g - h_x h) (h_s g - h_s h) (fun q => z ≤ q) := by
  refine Met_ofWH (cc := cL_spared) (maxL := 5) (ret := some .int) (hh := [(0, 9, 12, 13)]) (by decide) rfl ?_
  intro p e s m args below meth c s₁ B hml hv
  obtain ⟨rfl, hw⟩ := hv
  have C : MX p s m ([.ref x, .int x1, .int x2, .ref o] : List Value).toArray meth c cL_spared 5 (some .int) RL (Cond.codeWith yL_spared cL_spared 5 (some .int) [(0, 9, 12, 13)] :: GW) := ⟨B.exec, B.bytes, B.returns, hml, findClass_of_methodNamed B.named, atoms_spec (ws := Cond.codeWith yL_spared cL_spared 5 (some .int) [(0, 9, 12, 13)] :: GW) B.pre, B.notSynchronized⟩
  obtain ⟨hx, hb, hr, hml, hown, hts, hlk⟩ := id C
  have htab := vx_table (x := yL_spared) B (hts _ List.mem_cons_self)
  have w := wd_of hw
  obtain ⟨ls, hen, hl⟩ : ∃ ls : Array Slot, entryFrame m ([.ref x, .int x1, .int x2, .ref o] : List Value).toArray 5 = F0 m 0 ls [] ∧ lv_has ls 5 [(0, .ref x), (1, .int x1), (2, .int x2), (3, .ref o)] := ⟨_, lg_entry_eq _ _ _, lv_entry _ (Nat.le_of_ble_eq_true rfl)⟩
  rw [hen]
  have hgr := mo_K_spared N h x x1 x2 _ _ hE
  refine lv_aload_n hx hb dL_spared_0 rfl (lv_at hl 3 rfl) ?_
  refine lv_iconst (v := 0) hx hb dL_spared_1 (by decide) ?_
  refine lv_aload_n hx hb dL_spared_2 rfl (lv_at hl 0 rfl) ?_
  refine lv_iload_n hx hb dL_spared_3 rfl (lv_at hl 1 rfl) ?_
  refine lv_iload_n hx hb dL_spared_4 rfl (lv_at hl 2 rfl) ?_
  refine w_VC rJ GW_good (n := 2) (F := 10) (Lc := 190) (av := [.int x1, .int x2]) (rest := [.int 0, .ref o]) (a := x) C w rfl (by decide) hkx (k_K_spared l hst D cy z N h x x1 x2 r g hE) hgr gw_51_5 gw_51_6 gw_51_7 gw_1_2 gw_51_8 (by decide +kernel) ⟨Nat.le_of_ble_eq_true rfl, Nat.le_of_ble_eq_true rfl⟩ rfl hl.1 rfl (Nat.le_of_ble_eq_true rfl) dL_spared_5 ⟨by omega, by omega⟩ (fun v H locs ev w => ?_) (fun j n H locs q9 ce ev n1 n2 w e1 e2 e3 => ?_)
  · show W p l e _ s m _ below meth c H locs _ _ _ (F0 m 8 ls [.long v, .int 0, .ref o])
    have hu : uJ g (some o) (0 : Int32) (v) (fun h2 => some h2) = some (s_j g o 0 (v)) := by rw [show (0 : Int32) = iI ((0 : Nat) : Int) from rfl, uJ_i (n := 1) ⟨(hgr.2.2 o hko.2.2).1.trans hko.1, (hgr.2.2 o hko.2.2).2.trans hko.2.1⟩ (by omega) (by omega)]
    refine w_uJ (r := some o) C w dL_spared_8 hu (fun h2 H locs w hs2 e2 => ?_)
    cases e2
    refine lv_goto (tgt := 16) hx hb dL_spared_9 (by decide) ?_
    refine lv_iconst (v := 0) hx hb dL_spared_16 (by decide) ?_
    exact w_iretL C w (Or.inl ⟨v, g, by rw [hE, ev], rfl, rfl⟩) (by omega) (by omega) dL_spared_17
  · have ej := hj j ev
    subst ej
    refine vx_catch (own := RL) (name := "java/util/NoSuchElementException") (E := "java/util/NoSuchElementException") hown [] ⟨0, 9, 12, 13⟩ [] htab (fun z hz => by cases hz) (by decide) (by decide) (hts _ (List.mem_cons_of_mem _ gw_9_0)) (va_Nw.use rfl ((wd_X w).1.2.2.2.2.2.2.1 _ (List.mem_of_getElem? (i := 0) rfl))) e1 e2 e3 ?_
    refine lv_astore (lv' := [(4, .ref q9), (0, .ref x), (1, .int x1), (2, .int x2), (3, .ref o)]) hx hb dL_spared_12 hl (by decide) rfl (fun ls hl => ?_)
    refine lv_iconst (v := 1) hx hb dL_spared_14 (by decide) ?_
    exact w_iretL C w (Or.inr ⟨1, g, n, by rw [hE, ev], rfl, ⟨n1, n2⟩, rfl⟩) (by omega) (by omega) dL_spared_15
set_option maxRecDepth 20000 in
set_option maxHeartbeats 4000000 in
theorem k_L_dearest (l : Launch) (hst : l.stackTraces = false) (D : va_G) (cy : cyT) (z N : Nat) (h : hS) (x o : Nat) (x1 : Int32) (r : Int32 ⊕ Nat) (g : hS) (hE : f_K_dearest N h x x1 = some (r, g)) (hkx : h_k h x = 12 + 1) (hko : h_k h o = 51 ∧ h_n h o = 1 ∧ o < h_x h) (hj : ∀ j, r = .inr j → j = 1) : Met l yL_dearest (Cond.codeWith yL_dearest cL_dearest 4 (some .int) [(0, 9, 12, 13)] :: GW) { frames := 10, cells := h_x g - h_x h, slots := h_s g - h_s h, locals := 218 } (va_Pc [.ref x, .int x1, .ref o] (wU D cy z h)) (lQ D cy z (f_K_dearest N h x x1) (fun v => v.toInt64) (fun j => if j = 1 then 1 else 2) o) (h_x g - h_x h) (h_s g - h_s h) (fun q => z ≤ q) := by
  refine Met_ofWH (cc := cL_dearest) (maxL := 4) (ret := some .int) (hh := [(0, 9, 12, 13)]) (by decide) rfl ?_
  intro p e s m args below meth c s₁ B hml hv
  obtain ⟨rfl, hw⟩ := hv
  have C : MX p s m ([.ref x, .int x1, .ref o] : List Value).toArray meth c cL_dearest 4 (some .int) RL (Cond.codeWith yL_dearest cL_dearest 4 (some .int) [(0, 9, 12, 13)] :: GW) := ⟨B.exec, B.bytes, B.returns, hml, findClass_of_methodNamed B.named, atoms_spec (ws := Cond.codeWith yL_dearest cL_dearest 4 (some .int) [(0, 9, 12, 13)] :: GW) B.pre, B.notSynchronized⟩
  obtain ⟨hx, hb, hr, hml, hown, hts, hlk⟩ := id C
  have htab := vx_table (x := yL_dearest) B (hts _ List.mem_cons_self)
  have w := wd_of hw
  obtain ⟨ls, hen, hl⟩ : ∃ ls : Array Slot, entryFrame m ([.ref x, .int x1, .ref o] : List Value).toArray 4 = F0 m 0 ls [] ∧ lv_has ls 4 [(0, .ref x), (1, .int x1), (2, .ref o)] := ⟨_, lg_entry_eq _ _ _, lv_entry _ (Nat.le_of_ble_eq_true rfl)⟩
  rw [hen]
  have hgr := mo_K_dearest N h x x1 _ _ hE
  refine lv_aload_n hx hb dL_dearest_0 rfl (lv_at hl 2 rfl) ?_
  refine lv_iconst (v := 0) hx hb dL_dearest_1 (by decide) ?_
  refine lv_aload_n hx hb dL_dearest_2 rfl (lv_at hl 0 rfl) ?_
  refine lv_iload_n hx hb dL_dearest_3 rfl (lv_at hl 1 rfl) ?_
  refine w_VC rI GW_good (n := 1) (F := 9) (Lc := 190) (av := [.int x1]) (rest := [.int 0, .ref o]) (a := x) C w rfl (by decide) hkx (k_K_dearest l hst D cy z N h x x1 r g hE) hgr gw_52_6 gw_52_7 gw_52_8 gw_1_2 gw_52_9 (by decide +kernel) ⟨Nat.le_of_ble_eq_true rfl, Nat.le_of_ble_eq_true rfl⟩ rfl hl.1 rfl (Nat.le_of_ble_eq_true rfl) dL_dearest_4 ⟨by omega, by omega⟩ (fun v H locs ev w => ?_) (fun j n H locs q9 ce ev n1 n2 w e1 e2 e3 => ?_)
  · show W p l e _ s m _ below meth c H locs _ _ _ (F0 m 7 ls [.int v, .int 0, .ref o])
    refine lv_i2l hx hb dL_dearest_7 rfl ?_
    have hu : uJ g (some o) (0 : Int32) (v.toInt64) (fun h2 => some h2) = some (s_j g o 0 (v.toInt64)) := by rw [show (0 : Int32) = iI ((0 : Nat) : Int) from rfl, uJ_i (n := 1) ⟨(hgr.2.2 o hko.2.2).1.trans hko.1, (hgr.2.2 o hko.2.2).2.trans hko.2.1⟩ (by omega) (by omega)]
    refine w_uJ (r := some o) C w dL_dearest_8 hu (fun h2 H locs w hs2 e2 => ?_)
    cases e2
    refine lv_goto (tgt := 15) hx hb dL_dearest_9 (by decide) ?_
    refine lv_iconst (v := 0) hx hb dL_dearest_15 (by decide) ?_
    exact w_iretL C w (Or.inl ⟨v, g, by rw [hE, ev], rfl, rfl⟩) (by omega) (by omega) dL_dearest_16
  · have ej := hj j ev
    subst ej
    refine vx_catch (own := RL) (name := "java/util/NoSuchElementException") (E := "java/util/NoSuchElementException") hown [] ⟨0, 9, 12, 13⟩ [] htab (fun z hz => by cases hz) (by decide) (by decide) (hts _ (List.mem_cons_of_mem _ gw_9_0)) (va_Nw.use rfl ((wd_X w).1.2.2.2.2.2.2.1 _ (List.mem_of_getElem? (i := 0) rfl))) e1 e2 e3 ?_
    refine lv_astore_n (lv' := [(3, .ref q9), (0, .ref x), (1, .int x1), (2, .ref o)]) hx hb dL_dearest_12 rfl hl (by decide) rfl (fun ls hl => ?_)
    refine lv_iconst (v := 1) hx hb dL_dearest_13 (by decide) ?_
    exact w_iretL C w (Or.inr ⟨1, g, n, by rw [hE, ev], rfl, ⟨n1, n2⟩, rfl⟩) (by omega) (by omega) dL_dearest_14
set_option maxRecDepth 20000 in
set_option maxHeartbeats 4000000 in
theorem k_L_gap (l : Launch) (hst : l.stackTraces = false) (D : va_G) (cy : cyT) (z N : Nat) (h : hS) (x o : Nat) (x1 : Int32) (x2 : Int32) (r : Int64 ⊕ Nat) (g : hS) (hE : f_K_gap N h x x1 x2 = some (r, g)) (hkx : h_k h x = 12 + 1) (hko : h_k h o = 51 ∧ h_n h o = 1 ∧ o < h_x h) (hj : ∀ j, r = .inr j → j = 1) : Met l yL_gap (Cond.codeWith yL_gap cL_gap 5 (some .int) [(0, 9, 12, 13)] :: GW) { frames := 10, cells := h_x g - h_x h, slots := h_s g - h_s h, locals := 168 } (va_Pc [.ref x, .int x1, .int x2, .ref o] (wU D cy z h)) (lQ D cy z (f_K_gap N h x x1 x2) (fun v => v) (fun j => if j = 1 then 1 else 2) o) (h_x g - h_x h) (h_s g - h_s h) (fun q => z ≤ q) := by
  refine Met_ofWH (cc := cL_gap) (maxL := 5) (ret := some .int) (hh := [(0, 9, 12, 13)]) (by decide) rfl ?_
  intro p e s m args below meth c s₁ B hml hv
  obtain ⟨rfl, hw⟩ := hv
  have C : MX p s m ([.ref x, .int x1, .int x2, .ref o] : List Value).toArray meth c cL_gap 5 (some .int) RL (Cond.codeWith yL_gap cL_gap 5 (some .int) [(0, 9, 12, 13)] :: GW) := ⟨B.exec, B.bytes, B.returns, hml, findClass_of_methodNamed B.named, atoms_spec (ws := Cond.codeWith yL_gap cL_gap 5 (some .int) [(0, 9, 12, 13)] :: GW) B.pre, B.notSynchronized⟩
  obtain ⟨hx, hb, hr, hml, hown, hts, hlk⟩ := id C
  have htab := vx_table (x := yL_gap) B (hts _ List.mem_cons_self)
  have w := wd_of hw
  obtain ⟨ls, hen, hl⟩ : ∃ ls : Array Slot, entryFrame m ([.ref x, .int x1, .int x2, .ref o] : List Value).toArray 5 = F0 m 0 ls [] ∧ lv_has ls 5 [(0, .ref x), (1, .int x1), (2, .int x2), (3, .ref o)] := ⟨_, lg_entry_eq _ _ _, lv_entry _ (Nat.le_of_ble_eq_true rfl)⟩
  rw [hen]
  have hgr := mo_K_gap N h x x1 x2 _ _ hE
  refine lv_aload_n hx hb dL_gap_0 rfl (lv_at hl 3 rfl) ?_
  refine lv_iconst (v := 0) hx hb dL_gap_1 (by decide) ?_
  refine lv_aload_n hx hb dL_gap_2 rfl (lv_at hl 0 rfl) ?_
  refine lv_iload_n hx hb dL_gap_3 rfl (lv_at hl 1 rfl) ?_
  refine lv_iload_n hx hb dL_gap_4 rfl (lv_at hl 2 rfl) ?_
  refine w_VC rJ GW_good (n := 2) (F := 9) (Lc := 143) (av := [.int x1, .int x2]) (rest := [.int 0, .ref o]) (a := x) C w rfl (by decide) hkx (k_K_gap l hst D cy z N h x x1 x2 r g hE) hgr gw_52_17 gw_52_18 gw_52_19 gw_1_2 gw_52_20 (by decide +kernel) ⟨Nat.le_of_ble_eq_true rfl, Nat.le_of_ble_eq_true rfl⟩ rfl hl.1 rfl (Nat.le_of_ble_eq_true rfl) dL_gap_5 ⟨by omega, by omega⟩ (fun v H locs ev w => ?_) (fun j n H locs q9 ce ev n1 n2 w e1 e2 e3 => ?_)
  · show W p l e _ s m _ below meth c H locs _ _ _ (F0 m 8 ls [.long v, .int 0, .ref o])
    have hu : uJ g (some o) (0 : Int32) (v) (fun h2 => some h2) = some (s_j g o 0 (v)) := by rw [show (0 : Int32) = iI ((0 : Nat) : Int) from rfl, uJ_i (n := 1) ⟨(hgr.2.2 o hko.2.2).1.trans hko.1, (hgr.2.2 o hko.2.2).2.trans hko.2.1⟩ (by omega) (by omega)]
    refine w_uJ (r := some o) C w dL_gap_8 hu (fun h2 H locs w hs2 e2 => ?_)
    cases e2
    refine lv_goto (tgt := 16) hx hb dL_gap_9 (by decide) ?_
    refine lv_iconst (v := 0) hx hb dL_gap_16 (by decide) ?_
    exact w_iretL C w (Or.inl ⟨v, g, by rw [hE, ev], rfl, rfl⟩) (by omega) (by omega) dL_gap_17
  · have ej := hj j ev
    subst ej
    refine vx_catch (own := RL) (name := "java/util/NoSuchElementException") (E := "java/util/NoSuchElementException") hown [] ⟨0, 9, 12, 13⟩ [] htab (fun z hz => by cases hz) (by decide) (by decide) (hts _ (List.mem_cons_of_mem _ gw_9_0)) (va_Nw.use rfl ((wd_X w).1.2.2.2.2.2.2.1 _ (List.mem_of_getElem? (i := 0) rfl))) e1 e2 e3 ?_
    refine lv_astore (lv' := [(4, .ref q9), (0, .ref x), (1, .int x1), (2, .int x2), (3, .ref o)]) hx hb dL_gap_12 hl (by decide) rfl (fun ls hl => ?_)
    refine lv_iconst (v := 1) hx hb dL_gap_14 (by decide) ?_
    exact w_iretL C w (Or.inr ⟨1, g, n, by rw [hE, ev], rfl, ⟨n1, n2⟩, rfl⟩) (by omega) (by omega) dL_gap_15
set_option maxRecDepth 20000 in
set_option maxHeartbeats 4000000 in
theorem k_L_alike (l : Launch) (hst : l.stackTraces = false) (D : va_G) (cy : cyT) (z N : Nat) (h : hS) (x o : Nat) (x1 : Int32) (x2 : Int32) (r : Int32 ⊕ Nat) (g : hS) (hE : f_K_alike N h x x1 x2 = some (r, g)) (hkx : h_k h x = 12 + 1) (hko : h_k h o = 51 ∧ h_n h o = 1 ∧ o < h_x h) (hj : ∀ j, r = .inr j → j = 1) : Met l yL_alike (Cond.codeWith yL_alike cL_alike 5 (some .int) [(0, 10, 13, 13)] :: GW) { frames := 10, cells := h_x g - h_x h, slots := h_s g - h_s h, locals := 165 } (va_Pc [.ref x, .int x1, .int x2, .ref o] (wU D cy z h)) (lQ D cy z (f_K_alike N h x x1 x2) (fun v => v.toInt64) (fun j => if j = 1 then 1 else 2) o) (h_x g - h_x h) (h_s g - h_s h) (fun q => z ≤ q) := by
  refine Met_ofWH (cc := cL_alike) (maxL := 5) (ret := some .int) (hh := [(0, 10, 13, 13)]) (by decide) rfl ?_
  intro p e s m args below meth c s₁ B hml hv
  obtain ⟨rfl, hw⟩ := hv
  have C : MX p s m ([.ref x, .int x1, .int x2, .ref o] : List Value).toArray meth c cL_alike 5 (some .int) RL (Cond.codeWith yL_alike cL_alike 5 (some .int) [(0, 10, 13, 13)] :: GW) := ⟨B.exec, B.bytes, B.returns, hml, findClass_of_methodNamed B.named, atoms_spec (ws := Cond.codeWith yL_alike cL_alike 5 (some .int) [(0, 10, 13, 13)] :: GW) B.pre, B.notSynchronized⟩
  obtain ⟨hx, hb, hr, hml, hown, hts, hlk⟩ := id C
  have htab := vx_table (x := yL_alike) B (hts _ List.mem_cons_self)
  have w := wd_of hw
  obtain ⟨ls, hen, hl⟩ : ∃ ls : Array Slot, entryFrame m ([.ref x, .int x1, .int x2, .ref o] : List Value).toArray 5 = F0 m 0 ls [] ∧ lv_has ls 5 [(0, .ref x), (1, .int x1), (2, .int x2), (3, .ref o)] := ⟨_, lg_entry_eq _ _ _, lv_entry _ (Nat.le_of_ble_eq_true rfl)⟩
  rw [hen]
  have hgr := mo_K_alike N h x x1 x2 _ _ hE
  refine lv_aload_n hx hb dL_alike_0 rfl (lv_at hl 3 rfl) ?_
  refine lv_iconst (v := 0) hx hb dL_alike_1 (by decide) ?_
  refine lv_aload_n hx hb dL_alike_2 rfl (lv_at hl 0 rfl) ?_
  refine lv_iload_n hx hb dL_alike_3 rfl (lv_at hl 1 rfl) ?_
  refine lv_iload_n hx hb dL_alike_4 rfl (lv_at hl 2 rfl) ?_
  refine w_VC rI GW_good (n := 2) (F := 9) (Lc := 143) (av := [.int x1, .int x2]) (rest := [.int 0, .ref o]) (a := x) C w rfl (by decide) hkx (k_K_alike l hst D cy z N h x x1 x2 r g hE) hgr gw_53_12 gw_53_13 gw_53_14 gw_1_2 gw_53_15 (by decide +kernel) ⟨Nat.le_of_ble_eq_true rfl, Nat.le_of_ble_eq_true rfl⟩ rfl hl.1 rfl (Nat.le_of_ble_eq_true rfl) dL_alike_5 ⟨by omega, by omega⟩ (fun v H locs ev w => ?_) (fun j n H locs q9 ce ev n1 n2 w e1 e2 e3 => ?_)
  · show W p l e _ s m _ below meth c H locs _ _ _ (F0 m 8 ls [.int v, .int 0, .ref o])
    refine lv_i2l hx hb dL_alike_8 rfl ?_
    have hu : uJ g (some o) (0 : Int32) (v.toInt64) (fun h2 => some h2) = some (s_j g o 0 (v.toInt64)) := by rw [show (0 : Int32) = iI ((0 : Nat) : Int) from rfl, uJ_i (n := 1) ⟨(hgr.2.2 o hko.2.2).1.trans hko.1, (hgr.2.2 o hko.2.2).2.trans hko.2.1⟩ (by omega) (by omega)]
    refine w_uJ (r := some o) C w dL_alike_9 hu (fun h2 H locs w hs2 e2 => ?_)
    cases e2
    refine lv_goto (tgt := 17) hx hb dL_alike_10 (by decide) ?_
    refine lv_iconst (v := 0) hx hb dL_alike_17 (by decide) ?_
    exact w_iretL C w (Or.inl ⟨v, g, by rw [hE, ev], rfl, rfl⟩) (by omega) (by omega) dL_alike_18
  · have ej := hj j ev
    subst ej
    refine vx_catch (own := RL) (name := "java/util/NoSuchElementException") (E := "java/util/NoSuchElementException") hown [] ⟨0, 10, 13, 13⟩ [] htab (fun z hz => by cases hz) (by decide) (by decide) (hts _ (List.mem_cons_of_mem _ gw_9_0)) (va_Nw.use rfl ((wd_X w).1.2.2.2.2.2.2.1 _ (List.mem_of_getElem? (i := 0) rfl))) e1 e2 e3 ?_
    refine lv_astore (lv' := [(4, .ref q9), (0, .ref x), (1, .int x1), (2, .int x2), (3, .ref o)]) hx hb dL_alike_13 hl (by decide) rfl (fun ls hl => ?_)
    refine lv_iconst (v := 1) hx hb dL_alike_15 (by decide) ?_
    exact w_iretL C w (Or.inr ⟨1, g, n, by rw [hE, ev], rfl, ⟨n1, n2⟩, rfl⟩) (by omega) (by omega) dL_alike_16
set_option maxRecDepth 20000 in
set_option maxHeartbeats 4000000 in
theorem k_L_told (l : Launch) (hst : l.stackTraces = false) (D : va_G) (cy : cyT) (z N : Nat) (h : hS) (x o : Nat) (x1 : Int32) (x2 : Int32) (r : Int32 ⊕ Nat) (g : hS) (hE : f_K_told N h x x1 x2 = some (r, g)) (hkx : h_k h x = 12 + 1) (hko : h_k h o = 51 ∧ h_n h o = 1 ∧ o < h_x h) (hj : ∀ j, r = .inr j → j = 1) : Met l yL_told (Cond.codeWith yL_told cL_told 5 (some .int) [(0, 10, 13, 13)] :: GW) { frames := 10, cells := h_x g - h_x h, slots := h_s g - h_s h, locals := 167 } (va_Pc [.ref x, .int x1, .int x2, .ref o] (wU D cy z h)) (lQ D cy z (f_K_told N h x x1 x2) (fun v => v.toInt64) (fun j => if j = 1 then 1 else 2) o) (h_x g - h_x h) (h_s g - h_s h) (fun q => z ≤ q) := by
  refine Met_ofWH (cc := cL_told) (maxL := 5) (ret := some .int) (hh := [(0, 10, 13, 13)]) (by decide) rfl ?_
  intro p e s m args below meth c s₁ B hml hv
  obtain ⟨rfl, hw⟩ := hv
  have C : MX p s m ([.ref x, .int x1, .int x2, .ref o] : List Value).toArray meth c cL_told 5 (some .int) RL (Cond.codeWith yL_told cL_told 5 (some .int) [(0, 10, 13, 13)] :: GW) := ⟨B.exec, B.bytes, B.returns, hml, findClass_of_methodNamed B.named, atoms_spec (ws := Cond.codeWith yL_told cL_told 5 (some .int) [(0, 10, 13, 13)] :: GW) B.pre, B.notSynchronized⟩
  obtain ⟨hx, hb, hr, hml, hown, hts, hlk⟩ := id C
  have htab := vx_table (x := yL_told) B (hts _ List.mem_cons_self)
  have w := wd_of hw
  obtain ⟨ls, hen, hl⟩ : ∃ ls : Array Slot, entryFrame m ([.ref x, .int x1, .int x2, .ref o] : List Value).toArray 5 = F0 m 0 ls [] ∧ lv_has ls 5 [(0, .ref x), (1, .int x1), (2, .int x2), (3, .ref o)] := ⟨_, lg_entry_eq _ _ _, lv_entry _ (Nat.le_of_ble_eq_true rfl)⟩
  rw [hen]
  have hgr := mo_K_told N h x x1 x2 _ _ hE
  refine lv_aload_n hx hb dL_told_0 rfl (lv_at hl 3 rfl) ?_
  refine lv_iconst (v := 0) hx hb dL_told_1 (by decide) ?_
  refine lv_aload_n hx hb dL_told_2 rfl (lv_at hl 0 rfl) ?_
  refine lv_iload_n hx hb dL_told_3 rfl (lv_at hl 1 rfl) ?_
  refine lv_iload_n hx hb dL_told_4 rfl (lv_at hl 2 rfl) ?_
  refine w_VC rI GW_good (n := 2) (F := 9) (Lc := 143) (av := [.int x1, .int x2]) (rest := [.int 0, .ref o]) (a := x) C w rfl (by decide) hkx (k_K_told l hst D cy z N h x x1 x2 r g hE) hgr gw_54_3 gw_54_4 gw_54_5 gw_1_2 gw_54_6 (by decide +kernel) ⟨Nat.le_of_ble_eq_true rfl, Nat.le_of_ble_eq_true rfl⟩ rfl hl.1 rfl (Nat.le_of_ble_eq_true rfl) dL_told_5 ⟨by omega, by omega⟩ (fun v H locs ev w => ?_) (fun j n H locs q9 ce ev n1 n2 w e1 e2 e3 => ?_)
  · show W p l e _ s m _ below meth c H locs _ _ _ (F0 m 8 ls [.int v, .int 0, .ref o])
    refine lv_i2l hx hb dL_told_8 rfl ?_
    have hu : uJ g (some o) (0 : Int32) (v.toInt64) (fun h2 => some h2) = some (s_j g o 0 (v.toInt64)) := by rw [show (0 : Int32) = iI ((0 : Nat) : Int) from rfl, uJ_i (n := 1) ⟨(hgr.2.2 o hko.2.2).1.trans hko.1, (hgr.2.2 o hko.2.2).2.trans hko.2.1⟩ (by omega) (by omega)]
    refine w_uJ (r := some o) C w dL_told_9 hu (fun h2 H locs w hs2 e2 => ?_)
    cases e2
    refine lv_goto (tgt := 17) hx hb dL_told_10 (by decide) ?_
    refine lv_iconst (v := 0) hx hb dL_told_17 (by decide) ?_
    exact w_iretL C w (Or.inl ⟨v, g, by rw [hE, ev], rfl, rfl⟩) (by omega) (by omega) dL_told_18
  · have ej := hj j ev
    subst ej
    refine vx_catch (own := RL) (name := "java/util/NoSuchElementException") (E := "java/util/NoSuchElementException") hown [] ⟨0, 10, 13, 13⟩ [] htab (fun z hz => by cases hz) (by decide) (by decide) (hts _ (List.mem_cons_of_mem _ gw_9_0)) (va_Nw.use rfl ((wd_X w).1.2.2.2.2.2.2.1 _ (List.mem_of_getElem? (i := 0) rfl))) e1 e2 e3 ?_
    refine lv_astore (lv' := [(4, .ref q9), (0, .ref x), (1, .int x1), (2, .int x2), (3, .ref o)]) hx hb dL_told_13 hl (by decide) rfl (fun ls hl => ?_)
    refine lv_iconst (v := 1) hx hb dL_told_15 (by decide) ?_
    exact w_iretL C w (Or.inr ⟨1, g, n, by rw [hE, ev], rfl, ⟨n1, n2⟩, rfl⟩) (by omega) (by omega) dL_told_16
set_option maxRecDepth 20000 in
set_option maxHeartbeats 4000000 in
theorem k_L_fits (l : Launch) (hst : l.stackTraces = false) (D : va_G) (cy : cyT) (z N : Nat) (h : hS) (x o : Nat) (x1 : Int32) (x2 : Int32) (r : Int32 ⊕ Nat) (g : hS) (hE : f_K_fits N h x x1 x2 = some (r, g)) (hkx : h_k h x = 12 + 1) (hko : h_k h o = 51 ∧ h_n h o = 1 ∧ o < h_x h) (hj : ∀ j, r = .inr j → j = 1) : Met l yL_fits (Cond.codeWith yL_fits cL_fits 5 (some .int) [(0, 10, 13, 13)] :: GW) { frames := 12, cells := h_x g - h_x h, slots := h_s g - h_s h, locals := 214 } (va_Pc [.ref x, .int x1, .int x2, .ref o] (wU D cy z h)) (lQ D cy z (f_K_fits N h x x1 x2) (fun v => v.toInt64) (fun j => if j = 1 then 1 else 2) o) (h_x g - h_x h) (h_s g - h_s h) (fun q => z ≤ q) := by
  refine Met_ofWH (cc := cL_fits) (maxL := 5) (ret := some .int) (hh := [(0, 10, 13, 13)]) (by decide) rfl ?_
  intro p e s m args below meth c s₁ B hml hv
  obtain ⟨rfl, hw⟩ := hv
  have C : MX p s m ([.ref x, .int x1, .int x2, .ref o] : List Value).toArray meth c cL_fits 5 (some .int) RL (Cond.codeWith yL_fits cL_fits 5 (some .int) [(0, 10, 13, 13)] :: GW) := ⟨B.exec, B.bytes, B.returns, hml, findClass_of_methodNamed B.named, atoms_spec (ws := Cond.codeWith yL_fits cL_fits 5 (some .int) [(0, 10, 13, 13)] :: GW) B.pre, B.notSynchronized⟩
  obtain ⟨hx, hb, hr, hml, hown, hts, hlk⟩ := id C
  have htab := vx_table (x := yL_fits) B (hts _ List.mem_cons_self)
  have w := wd_of hw
  obtain ⟨ls, hen, hl⟩ : ∃ ls : Array Slot, entryFrame m ([.ref x, .int x1, .int x2, .ref o] : List Value).toArray 5 = F0 m 0 ls [] ∧ lv_has ls 5 [(0, .ref x), (1, .int x1), (2, .int x2), (3, .ref o)] := ⟨_, lg_entry_eq _ _ _, lv_entry _ (Nat.le_of_ble_eq_true rfl)⟩
  rw [hen]
  have hgr := mo_K_fits N h x x1 x2 _ _ hE
  refine lv_aload_n hx hb dL_fits_0 rfl (lv_at hl 3 rfl) ?_
  refine lv_iconst (v := 0) hx hb dL_fits_1 (by decide) ?_
  refine lv_aload_n hx hb dL_fits_2 rfl (lv_at hl 0 rfl) ?_
  refine lv_iload_n hx hb dL_fits_3 rfl (lv_at hl 1 rfl) ?_
  refine lv_iload_n hx hb dL_fits_4 rfl (lv_at hl 2 rfl) ?_
  refine w_VC rI GW_good (n := 2) (F := 11) (Lc := 188) (av := [.int x1, .int x2]) (rest := [.int 0, .ref o]) (a := x) C w rfl (by decide) hkx (k_K_fits l hst D cy z N h x x1 x2 r g hE) hgr gw_60_23 gw_61_0 gw_61_1 gw_1_2 gw_61_2 (by decide +kernel) ⟨Nat.le_of_ble_eq_true rfl, Nat.le_of_ble_eq_true rfl⟩ rfl hl.1 rfl (Nat.le_of_ble_eq_true rfl) dL_fits_5 ⟨by omega, by omega⟩ (fun v H locs ev w => ?_) (fun j n H locs q9 ce ev n1 n2 w e1 e2 e3 => ?_)
  · show W p l e _ s m _ below meth c H locs _ _ _ (F0 m 8 ls [.int v, .int 0, .ref o])
    refine lv_i2l hx hb dL_fits_8 rfl ?_
    have hu : uJ g (some o) (0 : Int32) (v.toInt64) (fun h2 => some h2) = some (s_j g o 0 (v.toInt64)) := by rw [show (0 : Int32) = iI ((0 : Nat) : Int) from rfl, uJ_i (n := 1) ⟨(hgr.2.2 o hko.2.2).1.trans hko.1, (hgr.2.2 o hko.2.2).2.trans hko.2.1⟩ (by omega) (by omega)]
    refine w_uJ (r := some o) C w dL_fits_9 hu (fun h2 H locs w hs2 e2 => ?_)
    cases e2
    refine lv_goto (tgt := 17) hx hb dL_fits_10 (by decide) ?_
    refine lv_iconst (v := 0) hx hb dL_fits_17 (by decide) ?_
    exact w_iretL C w (Or.inl ⟨v, g, by rw [hE, ev], rfl, rfl⟩) (by omega) (by omega) dL_fits_18
  · have ej := hj j ev
    subst ej
    refine vx_catch (own := RL) (name := "java/util/NoSuchElementException") (E := "java/util/NoSuchElementException") hown [] ⟨0, 10, 13, 13⟩ [] htab (fun z hz => by cases hz) (by decide) (by decide) (hts _ (List.mem_cons_of_mem _ gw_9_0)) (va_Nw.use rfl ((wd_X w).1.2.2.2.2.2.2.1 _ (List.mem_of_getElem? (i := 0) rfl))) e1 e2 e3 ?_
    refine lv_astore (lv' := [(4, .ref q9), (0, .ref x), (1, .int x1), (2, .int x2), (3, .ref o)]) hx hb dL_fits_13 hl (by decide) rfl (fun ls hl => ?_)
    refine lv_iconst (v := 1) hx hb dL_fits_15 (by decide) ?_
    exact w_iretL C w (Or.inr ⟨1, g, n, by rw [hE, ev], rfl, ⟨n1, n2⟩, rfl⟩) (by omega) (by omega) dL_fits_16
set_option maxRecDepth 20000 in
set_option maxHeartbeats 4000000 in
theorem k_L_look (l : Launch) (hst : l.stackTraces = false) (D : va_G) (cy : cyT) (z N : Nat) (h : hS) (x o : Nat) (x1 : Int32) (x2 : Int32) (r : Int32 ⊕ Nat) (g : hS) (hE : f_K_look N h x x1 x2 = some (r, g)) (hkx : h_k h x = 12 + 1) (hko : h_k h o = 51 ∧ h_n h o = 1 ∧ o < h_x h) (hj : ∀ j, r = .inr j → j = 1) : Met l yL_look (Cond.codeWith yL_look cL_look 5 (some .int) [(0, 10, 13, 13)] :: GW) { frames := 12, cells := h_x g - h_x h, slots := h_s g - h_s h, locals := 213 } (va_Pc [.ref x, .int x1, .int x2, .ref o] (wU D cy z h)) (lQ D cy z (f_K_look N h x x1 x2) (fun v => v.toInt64) (fun j => if j = 1 then 1 else 2) o) (h_x g - h_x h) (h_s g - h_s h) (fun q => z ≤ q) := by
  refine Met_ofWH (cc := cL_look) (maxL := 5) (ret := some .int) (hh := [(0, 10, 13, 13)]) (by decide) rfl ?_
  intro p e s m args below meth c s₁ B hml hv
  obtain ⟨rfl, hw⟩ := hv
  have C : MX p s m ([.ref x, .int x1, .int x2, .ref o] : List Value).toArray meth c cL_look 5 (some .int) RL (Cond.codeWith yL_look cL_look 5 (some .int) [(0, 10, 13, 13)] :: GW) := ⟨B.exec, B.bytes, B.returns, hml, findClass_of_methodNamed B.named, atoms_spec (ws := Cond.codeWith yL_look cL_look 5 (some .int) [(0, 10, 13, 13)] :: GW) B.pre, B.notSynchronized⟩
  obtain ⟨hx, hb, hr, hml, hown, hts, hlk⟩ := id C
  have htab := vx_table (x := yL_look) B (hts _ List.mem_cons_self)
  have w := wd_of hw
  obtain ⟨ls, hen, hl⟩ : ∃ ls : Array Slot, entryFrame m ([.ref x, .int x1, .int x2, .ref o] : List Value).toArray 5 = F0 m 0 ls [] ∧ lv_has ls 5 [(0, .ref x), (1, .int x1), (2, .int x2), (3, .ref o)] := ⟨_, lg_entry_eq _ _ _, lv_entry _ (Nat.le_of_ble_eq_true rfl)⟩
  rw [hen]
  have hgr := mo_K_look N h x x1 x2 _ _ hE
  refine lv_aload_n hx hb dL_look_0 rfl (lv_at hl 3 rfl) ?_
  refine lv_iconst (v := 0) hx hb dL_look_1 (by decide) ?_
  refine lv_aload_n hx hb dL_look_2 rfl (lv_at hl 0 rfl) ?_
  refine lv_iload_n hx hb dL_look_3 rfl (lv_at hl 1 rfl) ?_
  refine lv_iload_n hx hb dL_look_4 rfl (lv_at hl 2 rfl) ?_
  refine w_VC rI GW_good (n := 2) (F := 11) (Lc := 188) (av := [.int x1, .int x2]) (rest := [.int 0, .ref o]) (a := x) C w rfl (by decide) hkx (k_K_look l hst D cy z N h x x1 x2 r g hE) hgr gw_61_23 gw_62_0 gw_62_1 gw_1_2 gw_62_2 (by decide +kernel) ⟨Nat.le_of_ble_eq_true rfl, Nat.le_of_ble_eq_true rfl⟩ rfl hl.1 rfl (Nat.le_of_ble_eq_true rfl) dL_look_5 ⟨by omega, by omega⟩ (fun v H locs ev w => ?_) (fun j n H locs q9 ce ev n1 n2 w e1 e2 e3 => ?_)
  · show W p l e _ s m _ below meth c H locs _ _ _ (F0 m 8 ls [.int v, .int 0, .ref o])
    refine lv_i2l hx hb dL_look_8 rfl ?_
    have hu : uJ g (some o) (0 : Int32) (v.toInt64) (fun h2 => some h2) = some (s_j g o 0 (v.toInt64)) := by rw [show (0 : Int32) = iI ((0 : Nat) : Int) from rfl, uJ_i (n := 1) ⟨(hgr.2.2 o hko.2.2).1.trans hko.1, (hgr.2.2 o hko.2.2).2.trans hko.2.1⟩ (by omega) (by omega)]
    refine w_uJ (r := some o) C w dL_look_9 hu (fun h2 H locs w hs2 e2 => ?_)
    cases e2
    refine lv_goto (tgt := 17) hx hb dL_look_10 (by decide) ?_
    refine lv_iconst (v := 0) hx hb dL_look_17 (by decide) ?_
    exact w_iretL C w (Or.inl ⟨v, g, by rw [hE, ev], rfl, rfl⟩) (by omega) (by omega) dL_look_18
  · have ej := hj j ev
    subst ej
    refine vx_catch (own := RL) (name := "java/util/NoSuchElementException") (E := "java/util/NoSuchElementException") hown [] ⟨0, 10, 13, 13⟩ [] htab (fun z hz => by cases hz) (by decide) (by decide) (hts _ (List.mem_cons_of_mem _ gw_9_0)) (va_Nw.use rfl ((wd_X w).1.2.2.2.2.2.2.1 _ (List.mem_of_getElem? (i := 0) rfl))) e1 e2 e3 ?_
    refine lv_astore (lv' := [(4, .ref q9), (0, .ref x), (1, .int x1), (2, .int x2), (3, .ref o)]) hx hb dL_look_13 hl (by decide) rfl (fun ls hl => ?_)
    refine lv_iconst (v := 1) hx hb dL_look_15 (by decide) ?_
    exact w_iretL C w (Or.inr ⟨1, g, n, by rw [hE, ev], rfl, ⟨n1, n2⟩, rfl⟩) (by omega) (by omega) dL_look_16
set_option maxRecDepth 20000 in
set_option maxHeartbeats 4000000 in
theorem k_L_years (l : Launch) (hst : l.stackTraces = false) (D : va_G) (cy : cyT) (z N : Nat) (h : hS) (x o : Nat) (x1 : Int32) (x2 : Int32) (x3 : Int32) (r : Int64 ⊕ Nat) (g : hS) (hE : f_K_years N h x x1 x2 x3 = some (r, g)) (hkx : h_k h x = 12 + 1) (hko : h_k h o = 51 ∧ h_n h o = 1 ∧ o < h_x h) (hj : ∀ j, r = .inr j → j = 1 ∨ j = 2) : Met l yL_years (Cond.codeWith yL_years cL_years 6 (some .int) [(0, 11, 14, 13), (0, 11, 18, 15)] :: GW) { frames := 10, cells := h_x g - h_x h, slots := h_s g - h_s h, locals := 192 } (va_Pc [.ref x, .int x1, .int x2, .int x3, .ref o] (wU D cy z h)) (lQ D cy z (f_K_years N h x x1 x2 x3) (fun v => v) (fun j => if j = 1 then 1 else 2) o) (h_x g - h_x h) (h_s g - h_s h) (fun q => z ≤ q) := by
  refine Met_ofWH (cc := cL_years) (maxL := 6) (ret := some .int) (hh := [(0, 11, 14, 13), (0, 11, 18, 15)]) (by decide) rfl ?_
  intro p e s m args below meth c s₁ B hml hv
  obtain ⟨rfl, hw⟩ := hv
  have C : MX p s m ([.ref x, .int x1, .int x2, .int x3, .ref o] : List Value).toArray meth c cL_years 6 (some .int) RL (Cond.codeWith yL_years cL_years 6 (some .int) [(0, 11, 14, 13), (0, 11, 18, 15)] :: GW) := ⟨B.exec, B.bytes, B.returns, hml, findClass_of_methodNamed B.named, atoms_spec (ws := Cond.codeWith yL_years cL_years 6 (some .int) [(0, 11, 14, 13), (0, 11, 18, 15)] :: GW) B.pre, B.notSynchronized⟩
  obtain ⟨hx, hb, hr, hml, hown, hts, hlk⟩ := id C
  have htab := vx_table (x := yL_years) B (hts _ List.mem_cons_self)
  have w := wd_of hw
  obtain ⟨ls, hen, hl⟩ : ∃ ls : Array Slot, entryFrame m ([.ref x, .int x1, .int x2, .int x3, .ref o] : List Value).toArray 6 = F0 m 0 ls [] ∧ lv_has ls 6 [(0, .ref x), (1, .int x1), (2, .int x2), (3, .int x3), (4, .ref o)] := ⟨_, lg_entry_eq _ _ _, lv_entry _ (Nat.le_of_ble_eq_true rfl)⟩
  rw [hen]
  have hgr := mo_K_years N h x x1 x2 x3 _ _ hE
  refine lv_aload hx hb dL_years_0 (lv_at hl 4 rfl) ?_
  refine lv_iconst (v := 0) hx hb dL_years_2 (by decide) ?_
  refine lv_aload_n hx hb dL_years_3 rfl (lv_at hl 0 rfl) ?_
  refine lv_iload_n hx hb dL_years_4 rfl (lv_at hl 1 rfl) ?_
  refine lv_iload_n hx hb dL_years_5 rfl (lv_at hl 2 rfl) ?_
  refine lv_iload_n hx hb dL_years_6 rfl (lv_at hl 3 rfl) ?_
  refine w_VC rJ GW_good (n := 3) (F := 9) (Lc := 168) (av := [.int x1, .int x2, .int x3]) (rest := [.int 0, .ref o]) (a := x) C w rfl (by decide) hkx (k_K_years l hst D cy z N h x x1 x2 x3 r g hE) hgr gw_63_5 gw_63_6 gw_63_7 gw_1_2 gw_63_8 (by decide +kernel) ⟨Nat.le_of_ble_eq_true rfl, Nat.le_of_ble_eq_true rfl⟩ rfl hl.1 rfl (Nat.le_of_ble_eq_true rfl) dL_years_7 ⟨by omega, by omega⟩ (fun v H locs ev w => ?_) (fun j n H locs q9 ce ev n1 n2 w e1 e2 e3 => ?_)
  · show W p l e _ s m _ below meth c H locs _ _ _ (F0 m 10 ls [.long v, .int 0, .ref o])
    have hu : uJ g (some o) (0 : Int32) (v) (fun h2 => some h2) = some (s_j g o 0 (v)) := by rw [show (0 : Int32) = iI ((0 : Nat) : Int) from rfl, uJ_i (n := 1) ⟨(hgr.2.2 o hko.2.2).1.trans hko.1, (hgr.2.2 o hko.2.2).2.trans hko.2.1⟩ (by omega) (by omega)]
    refine w_uJ (r := some o) C w dL_years_10 hu (fun h2 H locs w hs2 e2 => ?_)
    cases e2
    refine lv_goto (tgt := 22) hx hb dL_years_11 (by decide) ?_
    refine lv_iconst (v := 0) hx hb dL_years_22 (by decide) ?_
    exact w_iretL C w (Or.inl ⟨v, g, by rw [hE, ev], rfl, rfl⟩) (by omega) (by omega) dL_years_23
  · rcases hj j ev with ej | ej
    · subst ej
      refine vx_catch (own := RL) (name := "java/util/NoSuchElementException") (E := "java/util/NoSuchElementException") hown [] ⟨0, 11, 14, 13⟩ [⟨0, 11, 18, 15⟩] htab (fun z hz => by cases hz) (by decide) (by decide) (hts _ (List.mem_cons_of_mem _ gw_9_0)) (va_Nw.use rfl ((wd_X w).1.2.2.2.2.2.2.1 _ (List.mem_of_getElem? (i := 0) rfl))) e1 e2 e3 ?_
      refine lv_astore (lv' := [(5, .ref q9), (0, .ref x), (1, .int x1), (2, .int x2), (3, .int x3), (4, .ref o)]) hx hb dL_years_14 hl (by decide) rfl (fun ls hl => ?_)
      refine lv_iconst (v := 1) hx hb dL_years_16 (by decide) ?_
      exact w_iretL C w (Or.inr ⟨1, g, n, by rw [hE, ev], rfl, ⟨n1, n2⟩, rfl⟩) (by omega) (by omega) dL_years_17
    · subst ej
      refine vx_catch (own := RL) (name := "java/lang/IllegalArgumentException") (E := "java/lang/IllegalArgumentException") hown [⟨0, 11, 14, 13⟩] ⟨0, 11, 18, 15⟩ [] htab (fun z hz => by rcases List.mem_singleton.mp hz with rfl; exact Or.inr ⟨by decide, _, (hts _ (List.mem_cons_of_mem _ gw_9_0)), (wd_X w).1.2.2.2.2.2.2.2.1 _ (List.mem_of_getElem? (i := 0) rfl)⟩) (by decide) (by decide) (hts _ (List.mem_cons_of_mem _ gw_9_1)) (va_Nw.use rfl ((wd_X w).1.2.2.2.2.2.2.1 _ (List.mem_of_getElem? (i := 1) rfl))) e1 e2 e3 ?_
      refine lv_astore (lv' := [(5, .ref q9), (0, .ref x), (1, .int x1), (2, .int x2), (3, .int x3), (4, .ref o)]) hx hb dL_years_18 hl (by decide) rfl (fun ls hl => ?_)
      refine lv_iconst (v := 2) hx hb dL_years_20 (by decide) ?_
      exact w_iretL C w (Or.inr ⟨2, g, n, by rw [hE, ev], rfl, ⟨n1, n2⟩, rfl⟩) (by omega) (by omega) dL_years_21
