def f_Str_coder_7d493_14 (N : Nat)  (h : hS) (y0 : Int32) : Option (Int32 × hS) := zr .byte y0 (some (y0, h))
def f_Str_coder_7d493 (N : Nat) (h : hS) (th : Nat) : Option (Int32 × hS) := if (1 : Int32) = (0 : Int32) then (f_Str_coder_7d493_14 N   h (1 : Int32)) else (gI h (some th) 56 1 fun v1 => f_Str_coder_7d493_14 N   h v1)
def f_Str_length_8abf5 (N : Nat) (h : hS) (th : Nat) : Option (Int32 × hS) := gR h (some th) 56 0 fun v1 => lnB h v1 fun v2 => cv h (some th) 56 (fun a => f_Str_coder_7d493 N h a ) fun v3 h4 => some ((v2 >>> (v3 &&& 31)), h4)
def f_Str_isLatin1_aae02_18 (N : Nat)  (h : hS) (y0 : Int32) : Option (Int32 × hS) := bz y0 (some (y0, h))
def f_Str_isLatin1_aae02_17 (N : Nat)  (h : hS)  : Option (Int32 × hS) := f_Str_isLatin1_aae02_18 N   h (0 : Int32)
def f_Str_isLatin1_aae02 (N : Nat) (h : hS) (th : Nat) : Option (Int32 × hS) := if (1 : Int32) = (0 : Int32) then (f_Str_isLatin1_aae02_17 N   h ) else (gI h (some th) 56 1 fun v1 => if v1 = (0 : Int32) then (f_Str_isLatin1_aae02_18 N   h (1 : Int32)) else (f_Str_isLatin1_aae02_17 N   h ))
def f_Pre_checkIndex_8e157_9 (N : Nat)  (h : hS) (x0 : Int32) (x1 : Int32) (a2 : Option Nat) : Option (Int32 × hS) := none
def f_Pre_checkIndex_8e157 (N : Nat) (h : hS) (x0 : Int32) (x1 : Int32) (a2 : Option Nat) : Option (Int32 × hS) := if x0 < (0 : Int32) then (f_Pre_checkIndex_8e157_9 N   h x0 x1 a2) else (if x0 < x1 then (some (x0, h)) else (f_Pre_checkIndex_8e157_9 N   h x0 x1 a2))
def f_Str_checkIndex_df160 (N : Nat) (h : hS) (x0 : Int32) (x1 : Int32) : Option (Unit × hS) := bn (h_r h 0 27) fun v1 => cl (f_Pre_checkIndex_8e157 N h x0 x1 v1) fun v2 h3 => some ((), h3)
def f_Lat_charAt_3b067 (N : Nat) (h : hS) (a0 : Nat) (x1 : Int32) : Option (Int32 × hS) := lnB h (some a0) fun v1 => cl (f_Str_checkIndex_df160 N h x1 v1) fun _ h3 => aB h3 (some a0) x1 fun v4 => zr .char (((v4 &&& (255 : Int32)).toUInt32 % 65536).toInt32) (some (((v4 &&& (255 : Int32)).toUInt32 % 65536).toInt32, h3))
def f_Str_charAt_5068e (N : Nat) (h : hS) (th : Nat) (x1 : Int32) : Option (Int32 × hS) := cv h (some th) 56 (fun a => f_Str_isLatin1_aae02 N h a ) fun v1 h2 => if v1 = (0 : Int32) then (gR h2 (some th) 56 0 fun v3 => none) else (gR h2 (some th) 56 0 fun v4 => nn v4 fun q5 => cl (f_Lat_charAt_3b067 N h2 q5 x1) fun v6 h7 => zr .char v6 (some (v6, h7)))
theorem sh_Str_coder_7d493_14 (N : Nat)  : ∀  (h : hS) (y0 : Int32), Sh h (f_Str_coder_7d493_14 N   h y0) := by
  intro h y0
  unfold f_Str_coder_7d493_14
  exact Sh_zr Sh_some
theorem sh_Str_coder_7d493 (N : Nat) (h : hS) (th : Nat) : Sh h (f_Str_coder_7d493 N h th) := by
  unfold f_Str_coder_7d493
  refine Sh_ite ?_ ?_
  · exact sh_Str_coder_7d493_14 N   h (1 : Int32)
  · refine Sh_gI (fun v1 => ?_)
    exact sh_Str_coder_7d493_14 N   h v1
theorem sh_Str_length_8abf5 (N : Nat) (h : hS) (th : Nat) : Sh h (f_Str_length_8abf5 N h th) := by
  unfold f_Str_length_8abf5
  refine Sh_gR (fun v1 => ?_)
  refine Sh_lnB (fun v2 => ?_)
  refine Sh_cv (fun a => (sh_Str_coder_7d493 N h a )) (fun v3 h4 => ?_)
  exact Sh_some
theorem sh_Str_isLatin1_aae02_18 (N : Nat)  : ∀  (h : hS) (y0 : Int32), Sh h (f_Str_isLatin1_aae02_18 N   h y0) := by
  intro h y0
  unfold f_Str_isLatin1_aae02_18
  exact Sh_bz Sh_some
theorem sh_Str_isLatin1_aae02_17 (N : Nat)  : ∀  (h : hS) , Sh h (f_Str_isLatin1_aae02_17 N   h ) := by
  intro h 
  unfold f_Str_isLatin1_aae02_17
  exact sh_Str_isLatin1_aae02_18 N   h (0 : Int32)
theorem sh_Str_isLatin1_aae02 (N : Nat) (h : hS) (th : Nat) : Sh h (f_Str_isLatin1_aae02 N h th) := by
  unfold f_Str_isLatin1_aae02
  refine Sh_ite ?_ ?_
  · exact sh_Str_isLatin1_aae02_17 N   h 
  · refine Sh_gI (fun v1 => ?_)
    refine Sh_ite ?_ ?_
    · exact sh_Str_isLatin1_aae02_18 N   h (1 : Int32)
    · exact sh_Str_isLatin1_aae02_17 N   h 
theorem sh_Pre_checkIndex_8e157_9 (N : Nat)  : ∀  (h : hS) (x0 : Int32) (x1 : Int32) (a2 : Option Nat), Sh h (f_Pre_checkIndex_8e157_9 N   h x0 x1 a2) := by
  intro h x0 x1 a2
  unfold f_Pre_checkIndex_8e157_9
  exact Sh_none
theorem sh_Pre_checkIndex_8e157 (N : Nat) (h : hS) (x0 : Int32) (x1 : Int32) (a2 : Option Nat) : Sh h (f_Pre_checkIndex_8e157 N h x0 x1 a2) := by
  unfold f_Pre_checkIndex_8e157
  refine Sh_ite ?_ ?_
  · exact sh_Pre_checkIndex_8e157_9 N   h x0 x1 a2
  · refine Sh_ite ?_ ?_
    · exact Sh_some
    · exact sh_Pre_checkIndex_8e157_9 N   h x0 x1 a2
theorem sh_Str_checkIndex_df160 (N : Nat) (h : hS) (x0 : Int32) (x1 : Int32) : Sh h (f_Str_checkIndex_df160 N h x0 x1) := by
  unfold f_Str_checkIndex_df160
  refine Sh_bn (fun v1 => ?_)
  refine Sh_cl (sh_Pre_checkIndex_8e157 N h x0 x1 v1) (fun v2 h3 => ?_)
  exact Sh_some
theorem sh_Lat_charAt_3b067 (N : Nat) (h : hS) (a0 : Nat) (x1 : Int32) : Sh h (f_Lat_charAt_3b067 N h a0 x1) := by
  unfold f_Lat_charAt_3b067
  refine Sh_lnB (fun v1 => ?_)
  refine Sh_cl (sh_Str_checkIndex_df160 N h x1 v1) (fun v2 h3 => ?_)
  refine Sh_aB (fun v4 => ?_)
  exact Sh_zr Sh_some
theorem sh_Str_charAt_5068e (N : Nat) (h : hS) (th : Nat) (x1 : Int32) : Sh h (f_Str_charAt_5068e N h th x1) := by
  unfold f_Str_charAt_5068e
  refine Sh_cv (fun a => (sh_Str_isLatin1_aae02 N h a )) (fun v1 h2 => ?_)
  refine Sh_ite ?_ ?_
  · refine Sh_gR (fun v3 => ?_)
    exact Sh_none
  · refine Sh_gR (fun v4 => ?_)
    refine Sh_nn (fun q5 => ?_)
    refine Sh_cl (sh_Lat_charAt_3b067 N h2 q5 x1) (fun v6 h7 => ?_)
    exact Sh_zr Sh_some
set_option maxRecDepth 20000 in
set_option maxHeartbeats 4000000 in
theorem b_Str_coder_7d493_14 {p : Program} {l : Launch} {e : Env} {s : State} {m : MethodId} {args : Array Value} {below : List Frame} {meth : Method} {c : Code} {D : va_G} {cy : cyT} {z : Nat} (C : MX p s m args meth c cJ0_coder_7d493 1 ((some .byte)) RJ0 (Cond.code yJ0_coder_7d493 cJ0_coder_7d493 1 ((some .byte)) :: GW)) (N : Nat) {r : Int32} {g : hS}  : ∀  (h : hS) (y0 : Int32) (H : Heap) (locs : List Loc) (ls : Array Slot), wd D cy z s 0 h H locs → lv_has ls 1 [] → f_Str_coder_7d493_14 N   h y0 = some (r, g) → W p l e { frames := 0, cells := 0, slots := 0, locals := 0 } s m args below meth c H locs 0 0 (MQ below (eQ D cy z (rI r) g) args s 0 0 (fun q => z ≤ q)) (F0 m 14 ls [.int y0]) := by
  obtain ⟨hx, hb, hr, hml, hown, hts, hlk⟩ := id C
  intro  h y0 H locs ls w  hl hE
  unfold f_Str_coder_7d493_14 at hE
  exact w_tret (by simp) C w hE dJ0_coder_7d493_14
set_option maxRecDepth 20000 in
set_option maxHeartbeats 4000000 in
theorem k_Str_coder_7d493 (l : Launch) (D : va_G) (cy : cyT) (z : Nat) (N : Nat) (h : hS) (th : Nat) (r : Int32) (g : hS) (hE : f_Str_coder_7d493 N h th = some (r, g)) : ct l yJ0_coder_7d493 (Cond.code yJ0_coder_7d493 cJ0_coder_7d493 1 ((some .byte)) :: GW) { frames := 0, cells := 0, slots := 0, locals := 0 } D cy z h [.ref th] (rI r) g := by
  refine Met.ofW (cc := cJ0_coder_7d493) (maxL := 1) (ret := (some .byte)) (by decide) rfl ?_
  intro p e s m args below meth c s₁ B hml hv
  obtain ⟨rfl, hw⟩ := hv
  have C : MX p s m ([.ref th] : List Value).toArray meth c cJ0_coder_7d493 1 ((some .byte)) RJ0 (Cond.code yJ0_coder_7d493 cJ0_coder_7d493 1 ((some .byte)) :: GW) := ⟨B.exec, B.bytes, B.returns, hml, findClass_of_methodNamed B.named, atoms_spec (ws := Cond.code yJ0_coder_7d493 cJ0_coder_7d493 1 ((some .byte)) :: GW) B.pre, B.notSynchronized⟩
  obtain ⟨hx, hb, hr, hml, hown, hts, hlk⟩ := id C
  have w := wd_of hw
  obtain ⟨ls, hen, hl⟩ : ∃ ls : Array Slot, entryFrame m ([.ref th] : List Value).toArray 1 = F0 m 0 ls [] ∧ lv_has ls 1 [(0, .ref th)] := by
    exact ⟨_, lg_entry_eq _ _ _, lv_entry _ (Nat.le_of_ble_eq_true rfl)⟩
  rw [hen]
  unfold f_Str_coder_7d493 at hE
  refine w_gsI (v := 1) C w (List.mem_of_getElem? (i := 0) rfl) (List.mem_cons_of_mem _ gw_12_7) rfl dJ0_coder_7d493_0 ?_
  refine w_if_eq (tgt := 13) C dJ0_coder_7d493_3 (by decide) hE (fun hc e1 => ?_) (fun hc e1 => ?_)
  · refine lv_iconst (v := 1) hx hb dJ0_coder_7d493_13 (by decide) ?_
    exact b_Str_coder_7d493_14 C N     h (1 : Int32) _ _ ls w  (lv_sub hl [] rfl) e1
  · refine lv_aload_n hx hb dJ0_coder_7d493_6 rfl (lv_at hl 0 rfl) ?_
    refine w_gSI (r := some th) C w (List.mem_cons_of_mem _ gw_12_8) dJ0_coder_7d493_7 e1 (fun v1 e2 => ?_)
    refine lv_goto (tgt := 14) hx hb dJ0_coder_7d493_10 (by decide) ?_
    exact b_Str_coder_7d493_14 C N     h v1 _ _ ls w  (lv_sub hl [] rfl) e2
set_option maxRecDepth 20000 in
set_option maxHeartbeats 4000000 in
theorem k_Str_length_8abf5 (l : Launch) (D : va_G) (cy : cyT) (z : Nat) (N : Nat) (h : hS) (th : Nat) (r : Int32) (g : hS) (hE : f_Str_length_8abf5 N h th = some (r, g)) : ct l yJ0_length_8abf5 (Cond.code yJ0_length_8abf5 cJ0_length_8abf5 1 ((some .int)) :: GW) { frames := 1, cells := 0, slots := 0, locals := 20 } D cy z h [.ref th] (rI r) g := by
  refine Met.ofW (cc := cJ0_length_8abf5) (maxL := 1) (ret := (some .int)) (by decide) rfl ?_
  intro p e s m args below meth c s₁ B hml hv
  obtain ⟨rfl, hw⟩ := hv
  have C : MX p s m ([.ref th] : List Value).toArray meth c cJ0_length_8abf5 1 ((some .int)) RJ0 (Cond.code yJ0_length_8abf5 cJ0_length_8abf5 1 ((some .int)) :: GW) := ⟨B.exec, B.bytes, B.returns, hml, findClass_of_methodNamed B.named, atoms_spec (ws := Cond.code yJ0_length_8abf5 cJ0_length_8abf5 1 ((some .int)) :: GW) B.pre, B.notSynchronized⟩
  obtain ⟨hx, hb, hr, hml, hown, hts, hlk⟩ := id C
  have w := wd_of hw
  obtain ⟨ls, hen, hl⟩ : ∃ ls : Array Slot, entryFrame m ([.ref th] : List Value).toArray 1 = F0 m 0 ls [] ∧ lv_has ls 1 [(0, .ref th)] := by
    exact ⟨_, lg_entry_eq _ _ _, lv_entry _ (Nat.le_of_ble_eq_true rfl)⟩
  rw [hen]
  unfold f_Str_length_8abf5 at hE
  refine lv_aload_n hx hb dJ0_length_8abf5_0 rfl (lv_at hl 0 rfl) ?_
  refine w_gSR (r := some th) C w (List.mem_cons_of_mem _ gw_12_2) dJ0_length_8abf5_1 hE (fun v1 e1 => ?_)
  refine w_lenBB (r := v1) C w dJ0_length_8abf5_4 e1 (fun v2 e2 => ?_)
  refine lv_aload_n hx hb dJ0_length_8abf5_5 rfl (lv_at hl 0 rfl) ?_
  refine w_VSI GW_good (n := 0) (F := 0) (Lc := 0) (o := some th) (av := []) (rest := [.int v2]) C w (fun a r g hf => k_Str_coder_7d493 l D cy z N h a  r g hf) gw_12_3 gw_12_4 gw_12_5 gw_12_0 gw_12_6 (by decide +kernel) ⟨Nat.le_of_ble_eq_true rfl, Nat.le_of_ble_eq_true rfl⟩ rfl hl.1 rfl (Nat.le_of_ble_eq_true rfl) dJ0_length_8abf5_6 (fun a => (sh_Str_coder_7d493 N h a )) ⟨by decide, by decide⟩ e2 (fun v3 h4 H locs w hsh4 e3 => ?_)
  refine lv_ishr hx hb dJ0_length_8abf5_9 ?_
  exact w_iret C w e3 dJ0_length_8abf5_10
set_option maxRecDepth 20000 in
set_option maxHeartbeats 4000000 in
theorem b_Str_isLatin1_aae02_18 {p : Program} {l : Launch} {e : Env} {s : State} {m : MethodId} {args : Array Value} {below : List Frame} {meth : Method} {c : Code} {D : va_G} {cy : cyT} {z : Nat} (C : MX p s m args meth c cJ0_isLatin1_aae02 1 ((some .boolean)) RJ0 (Cond.code yJ0_isLatin1_aae02 cJ0_isLatin1_aae02 1 ((some .boolean)) :: GW)) (N : Nat) {r : Int32} {g : hS}  : ∀  (h : hS) (y0 : Int32) (H : Heap) (locs : List Loc) (ls : Array Slot), wd D cy z s 0 h H locs → lv_has ls 1 [] → f_Str_isLatin1_aae02_18 N   h y0 = some (r, g) → W p l e { frames := 0, cells := 0, slots := 0, locals := 0 } s m args below meth c H locs 0 0 (MQ below (eQ D cy z (rI r) g) args s 0 0 (fun q => z ≤ q)) (F0 m 18 ls [.int y0]) := by
  obtain ⟨hx, hb, hr, hml, hown, hts, hlk⟩ := id C
  intro  h y0 H locs ls w  hl hE
  unfold f_Str_isLatin1_aae02_18 at hE
  exact w_zret C w hE dJ0_isLatin1_aae02_18
set_option maxRecDepth 20000 in
set_option maxHeartbeats 4000000 in
theorem b_Str_isLatin1_aae02_17 {p : Program} {l : Launch} {e : Env} {s : State} {m : MethodId} {args : Array Value} {below : List Frame} {meth : Method} {c : Code} {D : va_G} {cy : cyT} {z : Nat} (C : MX p s m args meth c cJ0_isLatin1_aae02 1 ((some .boolean)) RJ0 (Cond.code yJ0_isLatin1_aae02 cJ0_isLatin1_aae02 1 ((some .boolean)) :: GW)) (N : Nat) {r : Int32} {g : hS}  : ∀  (h : hS)  (H : Heap) (locs : List Loc) (ls : Array Slot), wd D cy z s 0 h H locs → lv_has ls 1 [] → f_Str_isLatin1_aae02_17 N   h  = some (r, g) → W p l e { frames := 0, cells := 0, slots := 0, locals := 0 } s m args below meth c H locs 0 0 (MQ below (eQ D cy z (rI r) g) args s 0 0 (fun q => z ≤ q)) (F0 m 17 ls []) := by
  obtain ⟨hx, hb, hr, hml, hown, hts, hlk⟩ := id C
  intro  h  H locs ls w  hl hE
  unfold f_Str_isLatin1_aae02_17 at hE
  refine lv_iconst (v := 0) hx hb dJ0_isLatin1_aae02_17 (by decide) ?_
  exact b_Str_isLatin1_aae02_18 C N     h (0 : Int32) _ _ ls w  (lv_sub hl [] rfl) hE
set_option maxRecDepth 20000 in
set_option maxHeartbeats 4000000 in
theorem k_Str_isLatin1_aae02 (l : Launch) (D : va_G) (cy : cyT) (z : Nat) (N : Nat) (h : hS) (th : Nat) (r : Int32) (g : hS) (hE : f_Str_isLatin1_aae02 N h th = some (r, g)) : ct l yJ0_isLatin1_aae02 (Cond.code yJ0_isLatin1_aae02 cJ0_isLatin1_aae02 1 ((some .boolean)) :: GW) { frames := 0, cells := 0, slots := 0, locals := 0 } D cy z h [.ref th] (rI r) g := by
  refine Met.ofW (cc := cJ0_isLatin1_aae02) (maxL := 1) (ret := (some .boolean)) (by decide) rfl ?_
  intro p e s m args below meth c s₁ B hml hv
  obtain ⟨rfl, hw⟩ := hv
  have C : MX p s m ([.ref th] : List Value).toArray meth c cJ0_isLatin1_aae02 1 ((some .boolean)) RJ0 (Cond.code yJ0_isLatin1_aae02 cJ0_isLatin1_aae02 1 ((some .boolean)) :: GW) := ⟨B.exec, B.bytes, B.returns, hml, findClass_of_methodNamed B.named, atoms_spec (ws := Cond.code yJ0_isLatin1_aae02 cJ0_isLatin1_aae02 1 ((some .boolean)) :: GW) B.pre, B.notSynchronized⟩
  obtain ⟨hx, hb, hr, hml, hown, hts, hlk⟩ := id C
  have w := wd_of hw
  obtain ⟨ls, hen, hl⟩ : ∃ ls : Array Slot, entryFrame m ([.ref th] : List Value).toArray 1 = F0 m 0 ls [] ∧ lv_has ls 1 [(0, .ref th)] := by
    exact ⟨_, lg_entry_eq _ _ _, lv_entry _ (Nat.le_of_ble_eq_true rfl)⟩
  rw [hen]
  unfold f_Str_isLatin1_aae02 at hE
  refine w_gsI (v := 1) C w (List.mem_of_getElem? (i := 0) rfl) (List.mem_cons_of_mem _ gw_12_7) rfl dJ0_isLatin1_aae02_0 ?_
  refine w_if_eq (tgt := 17) C dJ0_isLatin1_aae02_3 (by decide) hE (fun hc e1 => ?_) (fun hc e1 => ?_)
  · exact b_Str_isLatin1_aae02_17 C N     h  _ _ ls w  (lv_sub hl [] rfl) e1
  · refine lv_aload_n hx hb dJ0_isLatin1_aae02_6 rfl (lv_at hl 0 rfl) ?_
    refine w_gSI (r := some th) C w (List.mem_cons_of_mem _ gw_12_8) dJ0_isLatin1_aae02_7 e1 (fun v1 e2 => ?_)
    refine w_if_ne (tgt := 17) C dJ0_isLatin1_aae02_10 (by decide) e2 (fun hc e3 => ?_) (fun hc e3 => ?_)
    · exact b_Str_isLatin1_aae02_17 C N     h  _ _ ls w  (lv_sub hl [] rfl) e3
    · refine lv_iconst (v := 1) hx hb dJ0_isLatin1_aae02_13 (by decide) ?_
      refine lv_goto (tgt := 18) hx hb dJ0_isLatin1_aae02_14 (by decide) ?_
      exact b_Str_isLatin1_aae02_18 C N     h (1 : Int32) _ _ ls w  (lv_sub hl [] rfl) e3
set_option maxRecDepth 20000 in
set_option maxHeartbeats 4000000 in
theorem b_Pre_checkIndex_8e157_9 {p : Program} {l : Launch} {e : Env} {s : State} {m : MethodId} {args : Array Value} {below : List Frame} {meth : Method} {c : Code} {D : va_G} {cy : cyT} {z : Nat} (C : MX p s m args meth c cJ3_checkIndex_8e157 3 ((some .int)) RJ3 (Cond.code yJ3_checkIndex_8e157 cJ3_checkIndex_8e157 3 ((some .int)) :: GW)) (N : Nat) {r : Int32} {g : hS}  : ∀  (h : hS) (x0 : Int32) (x1 : Int32) (a2 : Option Nat) (H : Heap) (locs : List Loc) (ls : Array Slot), wd D cy z s 0 h H locs → lv_has ls 3 [(0, .int x0), (1, .int x1), (2, va_rf a2)] → f_Pre_checkIndex_8e157_9 N   h x0 x1 a2 = some (r, g) → W p l e { frames := 0, cells := 0, slots := 0, locals := 0 } s m args below meth c H locs 0 0 (MQ below (eQ D cy z (rI r) g) args s 0 0 (fun q => z ≤ q)) (F0 m 9 ls []) := by
  obtain ⟨hx, hb, hr, hml, hown, hts, hlk⟩ := id C
  intro  h x0 x1 a2 H locs ls w  hl hE
  unfold f_Pre_checkIndex_8e157_9 at hE
  refine w_aload_n C dJ3_checkIndex_8e157_9 rfl (lv_at hl 2 rfl) ?_
  refine lv_iload_n hx hb dJ3_checkIndex_8e157_10 rfl (lv_at hl 0 rfl) ?_
  refine lv_iload_n hx hb dJ3_checkIndex_8e157_11 rfl (lv_at hl 1 rfl) ?_
  cases hE
set_option maxRecDepth 20000 in
set_option maxHeartbeats 4000000 in
theorem k_Pre_checkIndex_8e157 (l : Launch) (D : va_G) (cy : cyT) (z : Nat) (N : Nat) (h : hS) (x0 : Int32) (x1 : Int32) (a2 : Option Nat) (r : Int32) (g : hS) (hE : f_Pre_checkIndex_8e157 N h x0 x1 a2 = some (r, g)) : ct l yJ3_checkIndex_8e157 (Cond.code yJ3_checkIndex_8e157 cJ3_checkIndex_8e157 3 ((some .int)) :: GW) { frames := 0, cells := 0, slots := 0, locals := 0 } D cy z h [.int x0, .int x1, va_rf a2] (rI r) g := by
  refine Met.ofW (cc := cJ3_checkIndex_8e157) (maxL := 3) (ret := (some .int)) (by decide) rfl ?_
  intro p e s m args below meth c s₁ B hml hv
  obtain ⟨rfl, hw⟩ := hv
  have C : MX p s m ([.int x0, .int x1, va_rf a2] : List Value).toArray meth c cJ3_checkIndex_8e157 3 ((some .int)) RJ3 (Cond.code yJ3_checkIndex_8e157 cJ3_checkIndex_8e157 3 ((some .int)) :: GW) := ⟨B.exec, B.bytes, B.returns, hml, findClass_of_methodNamed B.named, atoms_spec (ws := Cond.code yJ3_checkIndex_8e157 cJ3_checkIndex_8e157 3 ((some .int)) :: GW) B.pre, B.notSynchronized⟩
  obtain ⟨hx, hb, hr, hml, hown, hts, hlk⟩ := id C
  have w := wd_of hw
  obtain ⟨ls, hen, hl⟩ : ∃ ls : Array Slot, entryFrame m ([.int x0, .int x1, va_rf a2] : List Value).toArray 3 = F0 m 0 ls [] ∧ lv_has ls 3 [(0, .int x0), (1, .int x1), (2, va_rf a2)] := by
    cases a2 <;> exact ⟨_, lg_entry_eq _ _ _, lv_entry _ (Nat.le_of_ble_eq_true rfl)⟩
  rw [hen]
  unfold f_Pre_checkIndex_8e157 at hE
  refine lv_iload_n hx hb dJ3_checkIndex_8e157_0 rfl (lv_at hl 0 rfl) ?_
  refine w_if_lt (tgt := 9) C dJ3_checkIndex_8e157_1 (by decide) hE (fun hc e1 => ?_) (fun hc e1 => ?_)
  · exact b_Pre_checkIndex_8e157_9 C N     h x0 x1 a2 _ _ ls w  (lv_sub hl [0, 1, 2] rfl) e1
  · refine lv_iload_n hx hb dJ3_checkIndex_8e157_4 rfl (lv_at hl 0 rfl) ?_
    refine lv_iload_n hx hb dJ3_checkIndex_8e157_5 rfl (lv_at hl 1 rfl) ?_
    refine w_icmp_lt (tgt := 16) C dJ3_checkIndex_8e157_6 (by decide) e1 (fun hc e2 => ?_) (fun hc e2 => ?_)
    · refine lv_iload_n hx hb dJ3_checkIndex_8e157_16 rfl (lv_at hl 0 rfl) ?_
      exact w_iret C w e2 dJ3_checkIndex_8e157_17
    · exact b_Pre_checkIndex_8e157_9 C N     h x0 x1 a2 _ _ ls w  (lv_sub hl [0, 1, 2] rfl) e2
set_option maxRecDepth 20000 in
set_option maxHeartbeats 4000000 in
theorem k_Str_checkIndex_df160 (l : Launch) (D : va_G) (cy : cyT) (z : Nat) (N : Nat) (h : hS) (x0 : Int32) (x1 : Int32) (r : Unit) (g : hS) (hE : f_Str_checkIndex_df160 N h x0 x1 = some (r, g)) : ct l yJ0_checkIndex_df160 (Cond.code yJ0_checkIndex_df160 cJ0_checkIndex_df160 2 (none) :: GW) { frames := 1, cells := 0, slots := 0, locals := 22 } D cy z h [.int x0, .int x1] (rV r) g := by
  refine Met.ofW (cc := cJ0_checkIndex_df160) (maxL := 2) (ret := none) (by decide) rfl ?_
  intro p e s m args below meth c s₁ B hml hv
  obtain ⟨rfl, hw⟩ := hv
  have C : MX p s m ([.int x0, .int x1] : List Value).toArray meth c cJ0_checkIndex_df160 2 (none) RJ0 (Cond.code yJ0_checkIndex_df160 cJ0_checkIndex_df160 2 (none) :: GW) := ⟨B.exec, B.bytes, B.returns, hml, findClass_of_methodNamed B.named, atoms_spec (ws := Cond.code yJ0_checkIndex_df160 cJ0_checkIndex_df160 2 (none) :: GW) B.pre, B.notSynchronized⟩
  obtain ⟨hx, hb, hr, hml, hown, hts, hlk⟩ := id C
  have w := wd_of hw
  obtain ⟨ls, hen, hl⟩ : ∃ ls : Array Slot, entryFrame m ([.int x0, .int x1] : List Value).toArray 2 = F0 m 0 ls [] ∧ lv_has ls 2 [(0, .int x0), (1, .int x1)] := by
    exact ⟨_, lg_entry_eq _ _ _, lv_entry _ (Nat.le_of_ble_eq_true rfl)⟩
  rw [hen]
  unfold f_Str_checkIndex_df160 at hE
  refine lv_iload_n hx hb dJ0_checkIndex_df160_0 rfl (lv_at hl 0 rfl) ?_
  refine lv_iload_n hx hb dJ0_checkIndex_df160_1 rfl (lv_at hl 1 rfl) ?_
  refine w_gsR (k := 27) C w (List.mem_of_getElem? (i := 1) rfl) (List.mem_cons_of_mem _ gw_13_0) rfl dJ0_checkIndex_df160_2 hE (fun v1 e1 => ?_)
  refine w_SI GW_good (n := 3) (F := 0) (Lc := 0) (av := [.int x0, .int x1, va_rf v1]) (rest := []) C w (fun r g hf => k_Pre_checkIndex_8e157 l D cy z N h x0 x1 v1 r g hf) gw_13_1 gw_13_2 gw_13_3 gw_13_4 (by decide +kernel) ⟨Nat.le_of_ble_eq_true rfl, Nat.le_of_ble_eq_true rfl⟩ rfl hl.1 rfl (Nat.le_of_ble_eq_true rfl) dJ0_checkIndex_df160_5 (sh_Pre_checkIndex_8e157 N h x0 x1 v1) ⟨by decide, by decide⟩ e1 (fun v2 h3 H locs w hsh3 e2 => ?_)
  refine lv_pop hx hb dJ0_checkIndex_df160_8 rfl ?_
  exact w_vret C w e2 dJ0_checkIndex_df160_9
set_option maxRecDepth 20000 in
set_option maxHeartbeats 4000000 in
theorem k_Lat_charAt_3b067 (l : Launch) (D : va_G) (cy : cyT) (z : Nat) (N : Nat) (h : hS) (a0 : Nat) (x1 : Int32) (r : Int32) (g : hS) (hE : f_Lat_charAt_3b067 N h a0 x1 = some (r, g)) : ct l yJ1_charAt_3b067 (Cond.code yJ1_charAt_3b067 cJ1_charAt_3b067 2 ((some .char)) :: GW) { frames := 2, cells := 0, slots := 0, locals := 43 } D cy z h [.ref a0, .int x1] (rI r) g := by
  refine Met.ofW (cc := cJ1_charAt_3b067) (maxL := 2) (ret := (some .char)) (by decide) rfl ?_
  intro p e s m args below meth c s₁ B hml hv
  obtain ⟨rfl, hw⟩ := hv
  have C : MX p s m ([.ref a0, .int x1] : List Value).toArray meth c cJ1_charAt_3b067 2 ((some .char)) RJ1 (Cond.code yJ1_charAt_3b067 cJ1_charAt_3b067 2 ((some .char)) :: GW) := ⟨B.exec, B.bytes, B.returns, hml, findClass_of_methodNamed B.named, atoms_spec (ws := Cond.code yJ1_charAt_3b067 cJ1_charAt_3b067 2 ((some .char)) :: GW) B.pre, B.notSynchronized⟩
  obtain ⟨hx, hb, hr, hml, hown, hts, hlk⟩ := id C
  have w := wd_of hw
  obtain ⟨ls, hen, hl⟩ : ∃ ls : Array Slot, entryFrame m ([.ref a0, .int x1] : List Value).toArray 2 = F0 m 0 ls [] ∧ lv_has ls 2 [(0, .ref a0), (1, .int x1)] := by
    exact ⟨_, lg_entry_eq _ _ _, lv_entry _ (Nat.le_of_ble_eq_true rfl)⟩
  rw [hen]
  unfold f_Lat_charAt_3b067 at hE
  refine lv_iload_n hx hb dJ1_charAt_3b067_0 rfl (lv_at hl 1 rfl) ?_
  refine lv_aload_n hx hb dJ1_charAt_3b067_1 rfl (lv_at hl 0 rfl) ?_
  refine w_lenBB (r := some a0) C w dJ1_charAt_3b067_2 hE (fun v1 e1 => ?_)
  refine w_SV GW_good (n := 2) (F := 1) (Lc := 22) (av := [.int x1, .int v1]) (rest := []) C w (fun r g hf => k_Str_checkIndex_df160 l D cy z N h x1 v1 r g hf) gw_12_21 gw_12_22 gw_12_0 gw_12_23 (by decide +kernel) ⟨Nat.le_of_ble_eq_true rfl, Nat.le_of_ble_eq_true rfl⟩ rfl hl.1 rfl (Nat.le_of_ble_eq_true rfl) dJ1_charAt_3b067_3 (sh_Str_checkIndex_df160 N h x1 v1) ⟨by decide, by decide⟩ e1 (fun v2 h3 H locs w hsh3 e2 => ?_)
  refine lv_aload_n hx hb dJ1_charAt_3b067_6 rfl (lv_at hl 0 rfl) ?_
  refine lv_iload_n hx hb dJ1_charAt_3b067_7 rfl (lv_at hl 1 rfl) ?_
  refine w_aBB (r := some a0) C w dJ1_charAt_3b067_8 e2 (fun v4 e3 => ?_)
  refine lv_sipush (v := 255) hx hb dJ1_charAt_3b067_9 (by decide) ?_
  refine lv_iand hx hb dJ1_charAt_3b067_12 ?_
  refine lv_i2c hx hb dJ1_charAt_3b067_13 rfl ?_
  exact w_tret (by simp) C w e3 dJ1_charAt_3b067_14
set_option maxRecDepth 20000 in
set_option maxHeartbeats 4000000 in
theorem k_Str_charAt_5068e (l : Launch) (D : va_G) (cy : cyT) (z : Nat) (N : Nat) (h : hS) (th : Nat) (x1 : Int32) (r : Int32) (g : hS) (hE : f_Str_charAt_5068e N h th x1 = some (r, g)) : ct l yJ0_charAt_5068e (Cond.code yJ0_charAt_5068e cJ0_charAt_5068e 2 ((some .char)) :: GW) { frames := 3, cells := 0, slots := 0, locals := 64 } D cy z h [.ref th, .int x1] (rI r) g := by
  refine Met.ofW (cc := cJ0_charAt_5068e) (maxL := 2) (ret := (some .char)) (by decide) rfl ?_
  intro p e s m args below meth c s₁ B hml hv
  obtain ⟨rfl, hw⟩ := hv
  have C : MX p s m ([.ref th, .int x1] : List Value).toArray meth c cJ0_charAt_5068e 2 ((some .char)) RJ0 (Cond.code yJ0_charAt_5068e cJ0_charAt_5068e 2 ((some .char)) :: GW) := ⟨B.exec, B.bytes, B.returns, hml, findClass_of_methodNamed B.named, atoms_spec (ws := Cond.code yJ0_charAt_5068e cJ0_charAt_5068e 2 ((some .char)) :: GW) B.pre, B.notSynchronized⟩
  obtain ⟨hx, hb, hr, hml, hown, hts, hlk⟩ := id C
  have w := wd_of hw
  obtain ⟨ls, hen, hl⟩ : ∃ ls : Array Slot, entryFrame m ([.ref th, .int x1] : List Value).toArray 2 = F0 m 0 ls [] ∧ lv_has ls 2 [(0, .ref th), (1, .int x1)] := by
    exact ⟨_, lg_entry_eq _ _ _, lv_entry _ (Nat.le_of_ble_eq_true rfl)⟩
  rw [hen]
  unfold f_Str_charAt_5068e at hE
  refine lv_aload_n hx hb dJ0_charAt_5068e_0 rfl (lv_at hl 0 rfl) ?_
  refine w_VSI GW_good (n := 0) (F := 0) (Lc := 0) (o := some th) (av := []) (rest := []) C w (fun a r g hf => k_Str_isLatin1_aae02 l D cy z N h a  r g hf) gw_12_13 gw_12_14 gw_12_15 gw_12_0 gw_12_16 (by decide +kernel) ⟨Nat.le_of_ble_eq_true rfl, Nat.le_of_ble_eq_true rfl⟩ rfl hl.1 rfl (Nat.le_of_ble_eq_true rfl) dJ0_charAt_5068e_1 (fun a => (sh_Str_isLatin1_aae02 N h a )) ⟨by decide, by decide⟩ hE (fun v1 h2 H locs w hsh2 e1 => ?_)
  refine w_if_eq (tgt := 16) C dJ0_charAt_5068e_4 (by decide) e1 (fun hc e2 => ?_) (fun hc e2 => ?_)
  · refine lv_aload_n hx hb dJ0_charAt_5068e_16 rfl (lv_at hl 0 rfl) ?_
    refine w_gSR (r := some th) C w (List.mem_cons_of_mem _ gw_12_2) dJ0_charAt_5068e_17 e2 (fun v3 e3 => ?_)
    refine lv_iload_n hx hb dJ0_charAt_5068e_20 rfl (lv_at hl 1 rfl) ?_
    cases e3
  · refine lv_aload_n hx hb dJ0_charAt_5068e_7 rfl (lv_at hl 0 rfl) ?_
    refine w_gSR (r := some th) C w (List.mem_cons_of_mem _ gw_12_2) dJ0_charAt_5068e_8 e2 (fun v4 e4 => ?_)
    refine lv_iload_n hx hb dJ0_charAt_5068e_11 rfl (lv_at hl 1 rfl) ?_
    obtain ⟨q5, eq5, e5⟩ := nn_some e4
    subst eq5
    refine w_SI GW_good (n := 2) (F := 2) (Lc := 43) (av := [.ref q5, .int x1]) (rest := []) C w (fun r g hf => k_Lat_charAt_3b067 l D cy z N h2 q5 x1 r g hf) gw_12_17 gw_12_18 gw_12_19 gw_12_20 (by decide +kernel) ⟨Nat.le_of_ble_eq_true rfl, Nat.le_of_ble_eq_true rfl⟩ rfl hl.1 rfl (Nat.le_of_ble_eq_true rfl) dJ0_charAt_5068e_12 (sh_Lat_charAt_3b067 N h2 q5 x1) ⟨by decide, by decide⟩ e5 (fun v6 h7 H locs w hsh7 e6 => ?_)
    exact w_tret (by simp) C w e6 dJ0_charAt_5068e_15
