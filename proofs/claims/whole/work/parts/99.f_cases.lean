/-! THE CASES OF THE LAW (written by wip/gen/genLaw.py) -/
section LC
variable {p : Program} {l : Launch} {e : Env} {s : State} {m : MethodId} {below : List Frame} {meth : Method} {c : Code} {H : Heap} {locs : List Loc} {k : Nat} {Qp : State → Prop} {ls : Array Slot} {D : va_G} {cy : cyT} {z : Nat} {h : hS} {b L : Nat} {xs : Nat → Int32} {w0 : Cond} {N : Nat} {Q A : Nat → Nat} {mm o n : Nat} {x4 : Int32}
set_option maxRecDepth 20000 in
set_option maxHeartbeats 4000000 in
theorem lc_feed (E : lwC p s m meth c b L xs z w0) (hst : l.stackTraces = false) (hN : 100000 ≤ N) (P : PJ Q A mm o (13 * z + 7293034) n h) (hn : n < 512) (w : wd D cy z s k h H locs) (hl : lv_has ls 8 [(4, .int x4), (3, .ref o), (2, .ref mm), (1, .ref (Q 0)), (0, .ref b)]) (hin : ∀ j : Int32, (j = 1 ∨ j = 2 ∨ j = 3 ∨ j = 4 ∨ j = 5) → vp_in (x4 + j) L) (NX : LN p l e s m b below meth c D cy z Q A mm o n x4 Qp) : W p l e room_1 s m #[Value.ref b] below meth c H locs k (h_s h) Qp (F0 m 208 ls []) := by
  obtain ⟨C, hX, hbl, hz⟩ := E
  obtain ⟨hx, hb, -, -, hown, hts, -⟩ := id C
  obtain ⟨hkx, hko, hkm, hB0⟩ := P.top
  obtain ⟨a, g, h2, e1, e2, e3, e4, e5⟩ := op_feed N hN P hn (xs (x4 + 1).toNatClampNeg) (xs (x4 + 2).toNatClampNeg) (xs (x4 + 3).toNatClampNeg) (xs (x4 + 4).toNatClampNeg) (xs (x4 + 5).toNatClampNeg)
  have e4 : f_M_feed N g mm (xs (x4 + 1).toNatClampNeg) (xs (x4 + 2).toNatClampNeg) (xs (x4 + 3).toNatClampNeg) (xs (x4 + 4).toNatClampNeg) (xs (x4 + 5).toNatClampNeg) = some (a, h2) := e4
  have hB2 := e5.top.2.2.2
  refine lv_aload_n hx hb dL_law_208 rfl (lv_at hl 3 rfl) ?_
  refine lw_rd hx hb hX hbl hz w (lv_at hl 4 rfl) (lv_at hl 0 rfl) (j := 1) (hin 1 (by decide)) dL_law_209 dL_law_210 dL_law_212 (by decide) dL_law_213 dL_law_214 ?_
  refine lw_rd hx hb hX hbl hz w (lv_at hl 4 rfl) (lv_at hl 0 rfl) (j := 2) (hin 2 (by decide)) dL_law_215 dL_law_216 dL_law_218 (by decide) dL_law_219 dL_law_220 ?_
  refine lw_rd hx hb hX hbl hz w (lv_at hl 4 rfl) (lv_at hl 0 rfl) (j := 3) (hin 3 (by decide)) dL_law_221 dL_law_222 dL_law_224 (by decide) dL_law_225 dL_law_226 ?_
  refine lw_rd hx hb hX hbl hz w (lv_at hl 4 rfl) (lv_at hl 0 rfl) (j := 4) (hin 4 (by decide)) dL_law_227 dL_law_228 dL_law_230 (by decide) dL_law_231 dL_law_232 ?_
  refine lw_rd hx hb hX hbl hz w (lv_at hl 4 rfl) (lv_at hl 0 rfl) (j := 5) (hin 5 (by decide)) dL_law_233 dL_law_234 dL_law_236 (by decide) dL_law_237 dL_law_238 ?_
  refine lw_V rI (n := 5) (F := 1) (Lc := 22) (av := [.int (xs (x4 + 1).toNatClampNeg), .int (xs (x4 + 2).toNatClampNeg), .int (xs (x4 + 3).toNatClampNeg), .int (xs (x4 + 4).toNatClampNeg), .int (xs (x4 + 5).toNatClampNeg)]) (rest := []) (a := (Q 0)) C w hz rfl (by decide) hkx (k_K_feed l D cy z N h (Q 0) (xs (x4 + 1).toNatClampNeg) (xs (x4 + 2).toNatClampNeg) (xs (x4 + 3).toNatClampNeg) (xs (x4 + 4).toNatClampNeg) (xs (x4 + 5).toNatClampNeg) a g e1) (Or.inr rfl) (Or.inr rfl) (mo_K_feed N h (Q 0) (xs (x4 + 1).toNatClampNeg) (xs (x4 + 2).toNatClampNeg) (xs (x4 + 3).toNatClampNeg) (xs (x4 + 4).toNatClampNeg) (xs (x4 + 5).toNatClampNeg) _ _ e1) e3 gw_8_6 gw_8_7 gw_8_8 gw_1_2 gw_8_9 (by decide +kernel) ⟨Nat.le_of_ble_eq_true rfl, Nat.le_of_ble_eq_true rfl⟩ rfl hl.1 rfl (Nat.le_of_ble_eq_true rfl) dL_law_239 (fun k H locs w => ?_)
  show W p l e room_1 s m #[Value.ref b] below meth c H locs k (h_s g) Qp (F0 m 242 ls [.int a])
  refine lv_aload_n hx hb dL_law_242 rfl (lv_at hl 2 rfl) ?_
  refine lw_rd hx hb hX hbl hz w (lv_at hl 4 rfl) (lv_at hl 0 rfl) (j := 1) (hin 1 (by decide)) dL_law_243 dL_law_244 dL_law_246 (by decide) dL_law_247 dL_law_248 ?_
  refine lw_rd hx hb hX hbl hz w (lv_at hl 4 rfl) (lv_at hl 0 rfl) (j := 2) (hin 2 (by decide)) dL_law_249 dL_law_250 dL_law_252 (by decide) dL_law_253 dL_law_254 ?_
  refine lw_rd hx hb hX hbl hz w (lv_at hl 4 rfl) (lv_at hl 0 rfl) (j := 3) (hin 3 (by decide)) dL_law_255 dL_law_256 dL_law_258 (by decide) dL_law_259 dL_law_260 ?_
  refine lw_rd hx hb hX hbl hz w (lv_at hl 4 rfl) (lv_at hl 0 rfl) (j := 4) (hin 4 (by decide)) dL_law_261 dL_law_262 dL_law_264 (by decide) dL_law_265 dL_law_266 ?_
  refine lw_rd hx hb hX hbl hz w (lv_at hl 4 rfl) (lv_at hl 0 rfl) (j := 5) (hin 5 (by decide)) dL_law_267 dL_law_268 dL_law_270 (by decide) dL_law_271 dL_law_272 ?_
  refine lw_V rI (n := 5) (F := 0) (Lc := 0) (av := [.int (xs (x4 + 1).toNatClampNeg), .int (xs (x4 + 2).toNatClampNeg), .int (xs (x4 + 3).toNatClampNeg), .int (xs (x4 + 4).toNatClampNeg), .int (xs (x4 + 5).toNatClampNeg)]) (rest := [.int a]) (a := mm) C w hz rfl (by decide) e2 (k_M_feed l D cy z N g mm (xs (x4 + 1).toNatClampNeg) (xs (x4 + 2).toNatClampNeg) (xs (x4 + 3).toNatClampNeg) (xs (x4 + 4).toNatClampNeg) (xs (x4 + 5).toNatClampNeg) a h2 e4) (Or.inl rfl) (Or.inl rfl) (sh_M_feed N g mm (xs (x4 + 1).toNatClampNeg) (xs (x4 + 2).toNatClampNeg) (xs (x4 + 3).toNatClampNeg) (xs (x4 + 4).toNatClampNeg) (xs (x4 + 5).toNatClampNeg) _ _ e4).gr hB2 gw_8_14 gw_8_15 gw_8_16 gw_1_5 gw_8_17 (by decide +kernel) ⟨Nat.le_of_ble_eq_true rfl, Nat.le_of_ble_eq_true rfl⟩ rfl hl.1 rfl (Nat.le_of_ble_eq_true rfl) dL_law_273 (fun k H locs w => ?_)
  show W p l e room_1 s m #[Value.ref b] below meth c H locs k (h_s h2) Qp (F0 m 276 ls [.int a, .int a])
  refine lv_icmp_eq (tgt := 2554) hx hb dL_law_276 (by decide) (fun _ => ?_) (fun q => absurd rfl q)
  exact NX h2 k H locs ls e5 w hl
set_option maxRecDepth 20000 in
set_option maxHeartbeats 4000000 in
theorem lc_text (E : lwC p s m meth c b L xs z w0) (hst : l.stackTraces = false) (hN : 100000 ≤ N) (P : PJ Q A mm o (13 * z + 7293034) n h) (hn : n < 512) (w : wd D cy z s k h H locs) (hl : lv_has ls 8 [(4, .int x4), (3, .ref o), (2, .ref mm), (1, .ref (Q 0)), (0, .ref b)]) (hin : ∀ j : Int32, (j = 1 ∨ j = 2 ∨ j = 3 ∨ j = 4 ∨ j = 5) → vp_in (x4 + j) L) (NX : LN p l e s m b below meth c D cy z Q A mm o n x4 Qp) : W p l e room_1 s m #[Value.ref b] below meth c H locs k (h_s h) Qp (F0 m 281 ls []) := by
  obtain ⟨C, hX, hbl, hz⟩ := E
  obtain ⟨hx, hb, -, -, hown, hts, -⟩ := id C
  obtain ⟨hkx, hko, hkm, hB0⟩ := P.top
  obtain ⟨r, g, e1, e2, e3, e4⟩ := op_text N hN P hn (xs (x4 + 1).toNatClampNeg) (xs (x4 + 2).toNatClampNeg)
  refine lv_aload_n hx hb dL_law_281 rfl (lv_at hl 3 rfl) ?_
  refine lw_rd hx hb hX hbl hz w (lv_at hl 4 rfl) (lv_at hl 0 rfl) (j := 1) (hin 1 (by decide)) dL_law_282 dL_law_283 dL_law_285 (by decide) dL_law_286 dL_law_287 ?_
  refine lw_rd hx hb hX hbl hz w (lv_at hl 4 rfl) (lv_at hl 0 rfl) (j := 2) (hin 2 (by decide)) dL_law_288 dL_law_289 dL_law_291 (by decide) dL_law_292 dL_law_293 ?_
  refine lv_aload_n hx hb dL_law_294 rfl (lv_at hl 1 rfl) ?_
  refine lw_SL (n := 4) (F := 12) (Lc := 211) (av := [.ref (Q 0), .int (xs (x4 + 1).toNatClampNeg), .int (xs (x4 + 2).toNatClampNeg), .ref o]) (rest := []) C w hz (k_L_text l hst D cy z N h (Q 0) o (xs (x4 + 1).toNatClampNeg) (xs (x4 + 2).toNatClampNeg) r g e1 hkx hko e2) e1 (mo_K_text N h (Q 0) (xs (x4 + 1).toNatClampNeg) (xs (x4 + 2).toNatClampNeg) _ _ e1) e3 gw_8_20 gw_8_21 gw_8_22 gw_8_23 (by decide +kernel) ⟨Nat.le_of_ble_eq_true rfl, Nat.le_of_ble_eq_true rfl⟩ rfl hl.1 rfl (Nat.le_of_ble_eq_true rfl) dL_law_295 (fun kc h1 k H locs wr w => ?_)
  obtain ⟨m1, m2, v, h2, m3, m4, m5, m6⟩ := e4 kc h1 wr
  have m3 : f_M_text N h1 mm (xs (x4 + 1).toNatClampNeg) (xs (x4 + 2).toNatClampNeg) = some (v, h2) := m3
  obtain ⟨-, hko2, hkm2, hB2⟩ := m6.top
  refine lv_istore (lv' := [(5, .int kc), (4, .int x4), (3, .ref o), (2, .ref mm), (1, .ref (Q 0)), (0, .ref b)]) hx hb dL_law_298 hl (by decide) rfl (fun ls hl => ?_)
  refine lv_aload_n hx hb dL_law_300 rfl (lv_at hl 3 rfl) ?_
  refine lw_rd hx hb hX hbl hz w (lv_at hl 5 rfl) (lv_at hl 1 rfl) (j := 1) (hin 1 (by decide)) dL_law_301 dL_law_302 dL_law_304 (by decide) dL_law_305 dL_law_306 ?_
  refine lw_rd hx hb hX hbl hz w (lv_at hl 5 rfl) (lv_at hl 1 rfl) (j := 2) (hin 2 (by decide)) dL_law_307 dL_law_308 dL_law_310 (by decide) dL_law_311 dL_law_312 ?_
  refine lw_V rI (n := 2) (F := 9) (Lc := 237) (av := [.int (xs (x4 + 1).toNatClampNeg), .int (xs (x4 + 2).toNatClampNeg)]) (rest := []) (a := mm) C w hz rfl (by decide) m1 (k_M_text l D cy z N h1 mm (xs (x4 + 1).toNatClampNeg) (xs (x4 + 2).toNatClampNeg) v h2 m3) (Or.inr rfl) (Or.inr rfl) (mo_M_text N h1 mm (xs (x4 + 1).toNatClampNeg) (xs (x4 + 2).toNatClampNeg) _ _ m3) hB2 gw_24_10 gw_24_11 gw_24_12 gw_1_5 gw_24_13 (by decide +kernel) ⟨Nat.le_of_ble_eq_true rfl, Nat.le_of_ble_eq_true rfl⟩ rfl hl.1 rfl (Nat.le_of_ble_eq_true rfl) dL_law_313 (fun k H locs w => ?_)
  show W p l e room_1 s m #[Value.ref b] below meth c H locs k (h_s h2) Qp (F0 m 316 ls [.int v])
  refine lv_istore (lv' := [(6, .int v), (5, .int kc), (4, .int x4), (3, .ref o), (2, .ref mm), (1, .ref (Q 0)), (0, .ref b)]) hx hb dL_law_316 hl (by decide) rfl (fun ls hl => ?_)
  refine lv_aload_n hx hb dL_law_318 rfl (lv_at hl 4 rfl) ?_
  have e9 : f_M_thrown N h2 mm = some (kc, h2) := by unfold f_M_thrown; rw [gI_k hkm2, m4]
  refine lw_V rI (n := 0) (F := 0) (Lc := 0) (av := []) (rest := []) (a := mm) C w hz rfl (by decide) hkm2 (k_M_thrown l D cy z N h2 mm kc h2 e9) (Or.inl rfl) (Or.inl rfl) (sh_M_thrown N h2 mm _ _ e9).gr hB2 gw_31_11 gw_31_12 gw_31_13 gw_1_5 gw_31_14 (by decide +kernel) ⟨Nat.le_of_ble_eq_true rfl, Nat.le_of_ble_eq_true rfl⟩ rfl hl.1 rfl (Nat.le_of_ble_eq_true rfl) dL_law_319 (fun k H locs w => ?_)
  show W p l e room_1 s m #[Value.ref b] below meth c H locs k (h_s h2) Qp (F0 m 322 ls [.int kc])
  refine lv_iload hx hb dL_law_322 (lv_at hl 1 rfl) ?_
  refine lv_icmp_eq (tgt := 329) hx hb dL_law_324 (by decide) (fun _ => ?_) (fun q => absurd rfl q)
  refine lv_iload hx hb dL_law_329 (lv_at hl 1 rfl) ?_
  refine lv_if_ne (tgt := 346) hx hb dL_law_331 (by decide) (fun _ => ?_) (fun q0 => ?_)
  · exact lv_goto (tgt := 2554) hx hb dL_law_346 (by decide) (NX h2 k H locs ls m6 w (lv_sub hl [2, 3, 4, 5, 6] rfl))
  · refine lv_aload_n hx hb dL_law_334 rfl (lv_at hl 3 rfl) ?_
    refine lv_iconst (v := 0) hx hb dL_law_335 (by decide) ?_
    have hu : aJ h2 (some o) (0 : Int32) (fun v => some v) = some (h_j h2 o 0) := by rw [show (0 : Int32) = iI ((0 : Nat) : Int) from rfl, aJ_i (n := 1) ⟨hko2.1, hko2.2.1⟩ (by omega) (by omega)]
    refine w_aJ (r := some o) C w dL_law_336 hu (fun v9 e9 => ?_)
    cases e9
    refine lv_iload hx hb dL_law_337 (lv_at hl 0 rfl) ?_
    refine lv_i2l hx hb dL_law_339 rfl ?_
    refine W.lcmp hx hb dL_law_340 ?_
    refine lv_if_eq (tgt := 346) hx hb dL_law_341 (by decide) (fun _ => ?_) (fun q => absurd (by rw [m5 q0]; exact lg_cmp_self _) q)
    exact lv_goto (tgt := 2554) hx hb dL_law_346 (by decide) (NX h2 k H locs ls m6 w (lv_sub hl [2, 3, 4, 5, 6] rfl))
set_option maxRecDepth 20000 in
set_option maxHeartbeats 4000000 in
theorem lc_fault (E : lwC p s m meth c b L xs z w0) (hst : l.stackTraces = false) (hN : 100000 ≤ N) (P : PJ Q A mm o (13 * z + 7293034) n h) (hn : n < 512) (w : wd D cy z s k h H locs) (hl : lv_has ls 8 [(4, .int x4), (3, .ref o), (2, .ref mm), (1, .ref (Q 0)), (0, .ref b)]) (hin : ∀ j : Int32, (j = 1 ∨ j = 2 ∨ j = 3 ∨ j = 4 ∨ j = 5) → vp_in (x4 + j) L) (NX : LN p l e s m b below meth c D cy z Q A mm o n x4 Qp) : W p l e room_1 s m #[Value.ref b] below meth c H locs k (h_s h) Qp (F0 m 349 ls []) := by
  obtain ⟨C, hX, hbl, hz⟩ := E
  obtain ⟨hx, hb, -, -, hown, hts, -⟩ := id C
  obtain ⟨hkx, hko, hkm, hB0⟩ := P.top
  obtain ⟨a, g, h2, e1, e2, e3, e4, e5⟩ := op_fault N hN P hn
  have e4 : f_M_fault N g mm = some (a, h2) := e4
  have hB2 := e5.top.2.2.2
  refine lv_aload_n hx hb dL_law_349 rfl (lv_at hl 3 rfl) ?_
  refine lw_V rI (n := 0) (F := 0) (Lc := 0) (av := []) (rest := []) (a := (Q 0)) C w hz rfl (by decide) hkx (k_K_fault l D cy z N h (Q 0) a g e1) (Or.inl rfl) (Or.inl rfl) (sh_K_fault N h (Q 0) _ _ e1).gr e3 gw_31_15 gw_31_16 gw_31_17 gw_1_2 gw_31_18 (by decide +kernel) ⟨Nat.le_of_ble_eq_true rfl, Nat.le_of_ble_eq_true rfl⟩ rfl hl.1 rfl (Nat.le_of_ble_eq_true rfl) dL_law_350 (fun k H locs w => ?_)
  show W p l e room_1 s m #[Value.ref b] below meth c H locs k (h_s g) Qp (F0 m 353 ls [.int a])
  refine lv_aload_n hx hb dL_law_353 rfl (lv_at hl 2 rfl) ?_
  refine lw_V rI (n := 0) (F := 0) (Lc := 0) (av := []) (rest := [.int a]) (a := mm) C w hz rfl (by decide) e2 (k_M_fault l D cy z N g mm a h2 e4) (Or.inl rfl) (Or.inl rfl) (sh_M_fault N g mm _ _ e4).gr hB2 gw_31_19 gw_31_20 gw_31_21 gw_1_5 gw_31_22 (by decide +kernel) ⟨Nat.le_of_ble_eq_true rfl, Nat.le_of_ble_eq_true rfl⟩ rfl hl.1 rfl (Nat.le_of_ble_eq_true rfl) dL_law_354 (fun k H locs w => ?_)
  show W p l e room_1 s m #[Value.ref b] below meth c H locs k (h_s h2) Qp (F0 m 357 ls [.int a, .int a])
  refine lv_icmp_eq (tgt := 2554) hx hb dL_law_357 (by decide) (fun _ => ?_) (fun q => absurd rfl q)
  exact NX h2 k H locs ls e5 w hl
set_option maxRecDepth 20000 in
set_option maxHeartbeats 4000000 in
theorem lc_count (E : lwC p s m meth c b L xs z w0) (hst : l.stackTraces = false) (hN : 100000 ≤ N) (P : PJ Q A mm o (13 * z + 7293034) n h) (hn : n < 512) (w : wd D cy z s k h H locs) (hl : lv_has ls 8 [(4, .int x4), (3, .ref o), (2, .ref mm), (1, .ref (Q 0)), (0, .ref b)]) (hin : ∀ j : Int32, (j = 1 ∨ j = 2 ∨ j = 3 ∨ j = 4 ∨ j = 5) → vp_in (x4 + j) L) (NX : LN p l e s m b below meth c D cy z Q A mm o n x4 Qp) : W p l e room_1 s m #[Value.ref b] below meth c H locs k (h_s h) Qp (F0 m 362 ls []) := by
  obtain ⟨C, hX, hbl, hz⟩ := E
  obtain ⟨hx, hb, -, -, hown, hts, -⟩ := id C
  obtain ⟨hkx, hko, hkm, hB0⟩ := P.top
  obtain ⟨r, g, e1, e2, e3, e4⟩ := op_count N hN P hn (xs (x4 + 1).toNatClampNeg)
  refine lv_aload_n hx hb dL_law_362 rfl (lv_at hl 3 rfl) ?_
  refine lw_rd hx hb hX hbl hz w (lv_at hl 4 rfl) (lv_at hl 0 rfl) (j := 1) (hin 1 (by decide)) dL_law_363 dL_law_364 dL_law_366 (by decide) dL_law_367 dL_law_368 ?_
  refine lv_aload_n hx hb dL_law_369 rfl (lv_at hl 1 rfl) ?_
  refine lw_SL (n := 3) (F := 10) (Lc := 164) (av := [.ref (Q 0), .int (xs (x4 + 1).toNatClampNeg), .ref o]) (rest := []) C w hz (k_L_count l hst D cy z N h (Q 0) o (xs (x4 + 1).toNatClampNeg) r g e1 hkx hko e2) e1 (mo_K_count N h (Q 0) (xs (x4 + 1).toNatClampNeg) _ _ e1) e3 gw_31_23 gw_32_0 gw_8_22 gw_32_1 (by decide +kernel) ⟨Nat.le_of_ble_eq_true rfl, Nat.le_of_ble_eq_true rfl⟩ rfl hl.1 rfl (Nat.le_of_ble_eq_true rfl) dL_law_370 (fun kc h1 k H locs wr w => ?_)
  obtain ⟨m1, m2, v, h2, m3, m4, m5, m6⟩ := e4 kc h1 wr
  have m3 : f_M_count N h1 mm (xs (x4 + 1).toNatClampNeg) = some (v, h2) := m3
  obtain ⟨-, hko2, hkm2, hB2⟩ := m6.top
  refine lv_istore (lv' := [(5, .int kc), (4, .int x4), (3, .ref o), (2, .ref mm), (1, .ref (Q 0)), (0, .ref b)]) hx hb dL_law_373 hl (by decide) rfl (fun ls hl => ?_)
  refine lv_aload_n hx hb dL_law_375 rfl (lv_at hl 3 rfl) ?_
  refine lw_rd hx hb hX hbl hz w (lv_at hl 5 rfl) (lv_at hl 1 rfl) (j := 1) (hin 1 (by decide)) dL_law_376 dL_law_377 dL_law_379 (by decide) dL_law_380 dL_law_381 ?_
  refine lw_V rI (n := 1) (F := 1) (Lc := 21) (av := [.int (xs (x4 + 1).toNatClampNeg)]) (rest := []) (a := mm) C w hz rfl (by decide) m1 (k_M_count l D cy z N h1 mm (xs (x4 + 1).toNatClampNeg) v h2 m3) (Or.inl rfl) (Or.inl rfl) (sh_M_count N h1 mm (xs (x4 + 1).toNatClampNeg) _ _ m3).gr hB2 gw_32_13 gw_32_14 gw_32_15 gw_1_5 gw_32_16 (by decide +kernel) ⟨Nat.le_of_ble_eq_true rfl, Nat.le_of_ble_eq_true rfl⟩ rfl hl.1 rfl (Nat.le_of_ble_eq_true rfl) dL_law_382 (fun k H locs w => ?_)
  show W p l e room_1 s m #[Value.ref b] below meth c H locs k (h_s h2) Qp (F0 m 385 ls [.int v])
  refine lv_istore (lv' := [(6, .int v), (5, .int kc), (4, .int x4), (3, .ref o), (2, .ref mm), (1, .ref (Q 0)), (0, .ref b)]) hx hb dL_law_385 hl (by decide) rfl (fun ls hl => ?_)
  refine lv_aload_n hx hb dL_law_387 rfl (lv_at hl 4 rfl) ?_
  have e9 : f_M_thrown N h2 mm = some (kc, h2) := by unfold f_M_thrown; rw [gI_k hkm2, m4]
  refine lw_V rI (n := 0) (F := 0) (Lc := 0) (av := []) (rest := []) (a := mm) C w hz rfl (by decide) hkm2 (k_M_thrown l D cy z N h2 mm kc h2 e9) (Or.inl rfl) (Or.inl rfl) (sh_M_thrown N h2 mm _ _ e9).gr hB2 gw_31_11 gw_31_12 gw_31_13 gw_1_5 gw_31_14 (by decide +kernel) ⟨Nat.le_of_ble_eq_true rfl, Nat.le_of_ble_eq_true rfl⟩ rfl hl.1 rfl (Nat.le_of_ble_eq_true rfl) dL_law_388 (fun k H locs w => ?_)
  show W p l e room_1 s m #[Value.ref b] below meth c H locs k (h_s h2) Qp (F0 m 391 ls [.int kc])
  refine lv_iload hx hb dL_law_391 (lv_at hl 1 rfl) ?_
  refine lv_icmp_eq (tgt := 398) hx hb dL_law_393 (by decide) (fun _ => ?_) (fun q => absurd rfl q)
  refine lv_iload hx hb dL_law_398 (lv_at hl 1 rfl) ?_
  refine lv_if_ne (tgt := 415) hx hb dL_law_400 (by decide) (fun _ => ?_) (fun q0 => ?_)
  · exact lv_goto (tgt := 2554) hx hb dL_law_415 (by decide) (NX h2 k H locs ls m6 w (lv_sub hl [2, 3, 4, 5, 6] rfl))
  · refine lv_aload_n hx hb dL_law_403 rfl (lv_at hl 3 rfl) ?_
    refine lv_iconst (v := 0) hx hb dL_law_404 (by decide) ?_
    have hu : aJ h2 (some o) (0 : Int32) (fun v => some v) = some (h_j h2 o 0) := by rw [show (0 : Int32) = iI ((0 : Nat) : Int) from rfl, aJ_i (n := 1) ⟨hko2.1, hko2.2.1⟩ (by omega) (by omega)]
    refine w_aJ (r := some o) C w dL_law_405 hu (fun v9 e9 => ?_)
    cases e9
    refine lv_iload hx hb dL_law_406 (lv_at hl 0 rfl) ?_
    refine lv_i2l hx hb dL_law_408 rfl ?_
    refine W.lcmp hx hb dL_law_409 ?_
    refine lv_if_eq (tgt := 415) hx hb dL_law_410 (by decide) (fun _ => ?_) (fun q => absurd (by rw [m5 q0]; exact lg_cmp_self _) q)
    exact lv_goto (tgt := 2554) hx hb dL_law_415 (by decide) (NX h2 k H locs ls m6 w (lv_sub hl [2, 3, 4, 5, 6] rfl))
set_option maxRecDepth 20000 in
set_option maxHeartbeats 4000000 in
theorem lc_step (E : lwC p s m meth c b L xs z w0) (hst : l.stackTraces = false) (hN : 100000 ≤ N) (P : PJ Q A mm o (13 * z + 7293034) n h) (hn : n < 512) (w : wd D cy z s k h H locs) (hl : lv_has ls 8 [(4, .int x4), (3, .ref o), (2, .ref mm), (1, .ref (Q 0)), (0, .ref b)]) (hin : ∀ j : Int32, (j = 1 ∨ j = 2 ∨ j = 3 ∨ j = 4 ∨ j = 5) → vp_in (x4 + j) L) (NX : LN p l e s m b below meth c D cy z Q A mm o n x4 Qp) : W p l e room_1 s m #[Value.ref b] below meth c H locs k (h_s h) Qp (F0 m 418 ls []) := by
  obtain ⟨C, hX, hbl, hz⟩ := E
  obtain ⟨hx, hb, -, -, hown, hts, -⟩ := id C
  obtain ⟨hkx, hko, hkm, hB0⟩ := P.top
  obtain ⟨r, g, e1, e2, e3, e4⟩ := op_step N hN P hn (xs (x4 + 1).toNatClampNeg) (xs (x4 + 2).toNatClampNeg) (xs (x4 + 3).toNatClampNeg)
  refine lv_aload_n hx hb dL_law_418 rfl (lv_at hl 3 rfl) ?_
  refine lw_rd hx hb hX hbl hz w (lv_at hl 4 rfl) (lv_at hl 0 rfl) (j := 1) (hin 1 (by decide)) dL_law_419 dL_law_420 dL_law_422 (by decide) dL_law_423 dL_law_424 ?_
  refine lw_rd hx hb hX hbl hz w (lv_at hl 4 rfl) (lv_at hl 0 rfl) (j := 2) (hin 2 (by decide)) dL_law_425 dL_law_426 dL_law_428 (by decide) dL_law_429 dL_law_430 ?_
  refine lw_rd hx hb hX hbl hz w (lv_at hl 4 rfl) (lv_at hl 0 rfl) (j := 3) (hin 3 (by decide)) dL_law_431 dL_law_432 dL_law_434 (by decide) dL_law_435 dL_law_436 ?_
  refine lv_aload_n hx hb dL_law_437 rfl (lv_at hl 1 rfl) ?_
  refine lw_SL (n := 5) (F := 11) (Lc := 190) (av := [.ref (Q 0), .int (xs (x4 + 1).toNatClampNeg), .int (xs (x4 + 2).toNatClampNeg), .int (xs (x4 + 3).toNatClampNeg), .ref o]) (rest := []) C w hz (k_L_step l hst D cy z N h (Q 0) o (xs (x4 + 1).toNatClampNeg) (xs (x4 + 2).toNatClampNeg) (xs (x4 + 3).toNatClampNeg) r g e1 hkx hko e2) e1 (mo_K_step N h (Q 0) (xs (x4 + 1).toNatClampNeg) (xs (x4 + 2).toNatClampNeg) (xs (x4 + 3).toNatClampNeg) _ _ e1) e3 gw_32_18 gw_32_19 gw_8_22 gw_32_20 (by decide +kernel) ⟨Nat.le_of_ble_eq_true rfl, Nat.le_of_ble_eq_true rfl⟩ rfl hl.1 rfl (Nat.le_of_ble_eq_true rfl) dL_law_438 (fun kc h1 k H locs wr w => ?_)
  obtain ⟨m1, m2, v, h2, m3, m4, m5, m6⟩ := e4 kc h1 wr
  have m3 : f_M_step N h1 mm (xs (x4 + 1).toNatClampNeg) (xs (x4 + 2).toNatClampNeg) (xs (x4 + 3).toNatClampNeg) = some (v, h2) := m3
  obtain ⟨-, hko2, hkm2, hB2⟩ := m6.top
  refine lv_istore (lv' := [(5, .int kc), (4, .int x4), (3, .ref o), (2, .ref mm), (1, .ref (Q 0)), (0, .ref b)]) hx hb dL_law_441 hl (by decide) rfl (fun ls hl => ?_)
  refine lv_aload_n hx hb dL_law_443 rfl (lv_at hl 3 rfl) ?_
  refine lw_rd hx hb hX hbl hz w (lv_at hl 5 rfl) (lv_at hl 1 rfl) (j := 1) (hin 1 (by decide)) dL_law_444 dL_law_445 dL_law_447 (by decide) dL_law_448 dL_law_449 ?_
  refine lw_rd hx hb hX hbl hz w (lv_at hl 5 rfl) (lv_at hl 1 rfl) (j := 2) (hin 2 (by decide)) dL_law_450 dL_law_451 dL_law_453 (by decide) dL_law_454 dL_law_455 ?_
  refine lw_rd hx hb hX hbl hz w (lv_at hl 5 rfl) (lv_at hl 1 rfl) (j := 3) (hin 3 (by decide)) dL_law_456 dL_law_457 dL_law_459 (by decide) dL_law_460 dL_law_461 ?_
  refine lw_V rI (n := 3) (F := 3) (Lc := 68) (av := [.int (xs (x4 + 1).toNatClampNeg), .int (xs (x4 + 2).toNatClampNeg), .int (xs (x4 + 3).toNatClampNeg)]) (rest := []) (a := mm) C w hz rfl (by decide) m1 (k_M_step l D cy z N h1 mm (xs (x4 + 1).toNatClampNeg) (xs (x4 + 2).toNatClampNeg) (xs (x4 + 3).toNatClampNeg) v h2 m3) (Or.inl rfl) (Or.inl rfl) (sh_M_step N h1 mm (xs (x4 + 1).toNatClampNeg) (xs (x4 + 2).toNatClampNeg) (xs (x4 + 3).toNatClampNeg) _ _ m3).gr hB2 gw_33_9 gw_33_10 gw_33_11 gw_1_5 gw_33_12 (by decide +kernel) ⟨Nat.le_of_ble_eq_true rfl, Nat.le_of_ble_eq_true rfl⟩ rfl hl.1 rfl (Nat.le_of_ble_eq_true rfl) dL_law_462 (fun k H locs w => ?_)
  show W p l e room_1 s m #[Value.ref b] below meth c H locs k (h_s h2) Qp (F0 m 465 ls [.int v])
  refine lv_istore (lv' := [(6, .int v), (5, .int kc), (4, .int x4), (3, .ref o), (2, .ref mm), (1, .ref (Q 0)), (0, .ref b)]) hx hb dL_law_465 hl (by decide) rfl (fun ls hl => ?_)
  refine lv_aload_n hx hb dL_law_467 rfl (lv_at hl 4 rfl) ?_
  have e9 : f_M_thrown N h2 mm = some (kc, h2) := by unfold f_M_thrown; rw [gI_k hkm2, m4]
  refine lw_V rI (n := 0) (F := 0) (Lc := 0) (av := []) (rest := []) (a := mm) C w hz rfl (by decide) hkm2 (k_M_thrown l D cy z N h2 mm kc h2 e9) (Or.inl rfl) (Or.inl rfl) (sh_M_thrown N h2 mm _ _ e9).gr hB2 gw_31_11 gw_31_12 gw_31_13 gw_1_5 gw_31_14 (by decide +kernel) ⟨Nat.le_of_ble_eq_true rfl, Nat.le_of_ble_eq_true rfl⟩ rfl hl.1 rfl (Nat.le_of_ble_eq_true rfl) dL_law_468 (fun k H locs w => ?_)
  show W p l e room_1 s m #[Value.ref b] below meth c H locs k (h_s h2) Qp (F0 m 471 ls [.int kc])
  refine lv_iload hx hb dL_law_471 (lv_at hl 1 rfl) ?_
  refine lv_icmp_eq (tgt := 478) hx hb dL_law_473 (by decide) (fun _ => ?_) (fun q => absurd rfl q)
  refine lv_iload hx hb dL_law_478 (lv_at hl 1 rfl) ?_
  refine lv_if_ne (tgt := 495) hx hb dL_law_480 (by decide) (fun _ => ?_) (fun q0 => ?_)
  · exact lv_goto (tgt := 2554) hx hb dL_law_495 (by decide) (NX h2 k H locs ls m6 w (lv_sub hl [2, 3, 4, 5, 6] rfl))
  · refine lv_aload_n hx hb dL_law_483 rfl (lv_at hl 3 rfl) ?_
    refine lv_iconst (v := 0) hx hb dL_law_484 (by decide) ?_
    have hu : aJ h2 (some o) (0 : Int32) (fun v => some v) = some (h_j h2 o 0) := by rw [show (0 : Int32) = iI ((0 : Nat) : Int) from rfl, aJ_i (n := 1) ⟨hko2.1, hko2.2.1⟩ (by omega) (by omega)]
    refine w_aJ (r := some o) C w dL_law_485 hu (fun v9 e9 => ?_)
    cases e9
    refine lv_iload hx hb dL_law_486 (lv_at hl 0 rfl) ?_
    refine lv_i2l hx hb dL_law_488 rfl ?_
    refine W.lcmp hx hb dL_law_489 ?_
    refine lv_if_eq (tgt := 495) hx hb dL_law_490 (by decide) (fun _ => ?_) (fun q => absurd (by rw [m5 q0]; exact lg_cmp_self _) q)
    exact lv_goto (tgt := 2554) hx hb dL_law_495 (by decide) (NX h2 k H locs ls m6 w (lv_sub hl [2, 3, 4, 5, 6] rfl))
set_option maxRecDepth 20000 in
set_option maxHeartbeats 4000000 in
theorem lc_at (E : lwC p s m meth c b L xs z w0) (hst : l.stackTraces = false) (hN : 100000 ≤ N) (P : PJ Q A mm o (13 * z + 7293034) n h) (hn : n < 512) (w : wd D cy z s k h H locs) (hl : lv_has ls 8 [(4, .int x4), (3, .ref o), (2, .ref mm), (1, .ref (Q 0)), (0, .ref b)]) (hin : ∀ j : Int32, (j = 1 ∨ j = 2 ∨ j = 3 ∨ j = 4 ∨ j = 5) → vp_in (x4 + j) L) (NX : LN p l e s m b below meth c D cy z Q A mm o n x4 Qp) : W p l e room_1 s m #[Value.ref b] below meth c H locs k (h_s h) Qp (F0 m 498 ls []) := by
  obtain ⟨C, hX, hbl, hz⟩ := E
  obtain ⟨hx, hb, -, -, hown, hts, -⟩ := id C
  obtain ⟨hkx, hko, hkm, hB0⟩ := P.top
  obtain ⟨r, g, e1, e2, e3, e4⟩ := op_at N hN P hn (xs (x4 + 1).toNatClampNeg) (xs (x4 + 2).toNatClampNeg)
  refine lv_aload_n hx hb dL_law_498 rfl (lv_at hl 3 rfl) ?_
  refine lw_rd hx hb hX hbl hz w (lv_at hl 4 rfl) (lv_at hl 0 rfl) (j := 1) (hin 1 (by decide)) dL_law_499 dL_law_500 dL_law_502 (by decide) dL_law_503 dL_law_504 ?_
  refine lw_rd hx hb hX hbl hz w (lv_at hl 4 rfl) (lv_at hl 0 rfl) (j := 2) (hin 2 (by decide)) dL_law_505 dL_law_506 dL_law_508 (by decide) dL_law_509 dL_law_510 ?_
  refine lv_aload_n hx hb dL_law_511 rfl (lv_at hl 1 rfl) ?_
  refine lw_SL (n := 4) (F := 10) (Lc := 166) (av := [.ref (Q 0), .int (xs (x4 + 1).toNatClampNeg), .int (xs (x4 + 2).toNatClampNeg), .ref o]) (rest := []) C w hz (k_L_at l hst D cy z N h (Q 0) o (xs (x4 + 1).toNatClampNeg) (xs (x4 + 2).toNatClampNeg) r g e1 hkx hko e2) e1 (mo_K_at N h (Q 0) (xs (x4 + 1).toNatClampNeg) (xs (x4 + 2).toNatClampNeg) _ _ e1) e3 gw_34_2 gw_34_3 gw_8_22 gw_34_4 (by decide +kernel) ⟨Nat.le_of_ble_eq_true rfl, Nat.le_of_ble_eq_true rfl⟩ rfl hl.1 rfl (Nat.le_of_ble_eq_true rfl) dL_law_512 (fun kc h1 k H locs wr w => ?_)
  obtain ⟨m1, m2, v, h2, m3, m4, m5, m6⟩ := e4 kc h1 wr
  have m3 : f_M_at N h1 mm (xs (x4 + 1).toNatClampNeg) (xs (x4 + 2).toNatClampNeg) = some (v, h2) := m3
  obtain ⟨-, hko2, hkm2, hB2⟩ := m6.top
  refine lv_istore (lv' := [(5, .int kc), (4, .int x4), (3, .ref o), (2, .ref mm), (1, .ref (Q 0)), (0, .ref b)]) hx hb dL_law_515 hl (by decide) rfl (fun ls hl => ?_)
  refine lv_aload_n hx hb dL_law_517 rfl (lv_at hl 3 rfl) ?_
  refine lw_rd hx hb hX hbl hz w (lv_at hl 5 rfl) (lv_at hl 1 rfl) (j := 1) (hin 1 (by decide)) dL_law_518 dL_law_519 dL_law_521 (by decide) dL_law_522 dL_law_523 ?_
  refine lw_rd hx hb hX hbl hz w (lv_at hl 5 rfl) (lv_at hl 1 rfl) (j := 2) (hin 2 (by decide)) dL_law_524 dL_law_525 dL_law_527 (by decide) dL_law_528 dL_law_529 ?_
  refine lw_V rJ (n := 2) (F := 7) (Lc := 193) (av := [.int (xs (x4 + 1).toNatClampNeg), .int (xs (x4 + 2).toNatClampNeg)]) (rest := []) (a := mm) C w hz rfl (by decide) m1 (k_M_at l D cy z N h1 mm (xs (x4 + 1).toNatClampNeg) (xs (x4 + 2).toNatClampNeg) v h2 m3) (Or.inl rfl) (Or.inl rfl) (sh_M_at N h1 mm (xs (x4 + 1).toNatClampNeg) (xs (x4 + 2).toNatClampNeg) _ _ m3).gr hB2 gw_34_18 gw_34_19 gw_34_20 gw_1_5 gw_34_21 (by decide +kernel) ⟨Nat.le_of_ble_eq_true rfl, Nat.le_of_ble_eq_true rfl⟩ rfl hl.1 rfl (Nat.le_of_ble_eq_true rfl) dL_law_530 (fun k H locs w => ?_)
  show W p l e room_1 s m #[Value.ref b] below meth c H locs k (h_s h2) Qp (F0 m 533 ls [.long v])
  refine lv_lstore (lv' := [(6, .long v), (5, .int kc), (4, .int x4), (3, .ref o), (2, .ref mm), (1, .ref (Q 0)), (0, .ref b)]) hx hb dL_law_533 hl (by decide) rfl (fun ls hl => ?_)
  refine lv_aload_n hx hb dL_law_535 rfl (lv_at hl 4 rfl) ?_
  have e9 : f_M_thrown N h2 mm = some (kc, h2) := by unfold f_M_thrown; rw [gI_k hkm2, m4]
  refine lw_V rI (n := 0) (F := 0) (Lc := 0) (av := []) (rest := []) (a := mm) C w hz rfl (by decide) hkm2 (k_M_thrown l D cy z N h2 mm kc h2 e9) (Or.inl rfl) (Or.inl rfl) (sh_M_thrown N h2 mm _ _ e9).gr hB2 gw_31_11 gw_31_12 gw_31_13 gw_1_5 gw_31_14 (by decide +kernel) ⟨Nat.le_of_ble_eq_true rfl, Nat.le_of_ble_eq_true rfl⟩ rfl hl.1 rfl (Nat.le_of_ble_eq_true rfl) dL_law_536 (fun k H locs w => ?_)
  show W p l e room_1 s m #[Value.ref b] below meth c H locs k (h_s h2) Qp (F0 m 539 ls [.int kc])
  refine lv_iload hx hb dL_law_539 (lv_at hl 1 rfl) ?_
  refine lv_icmp_eq (tgt := 546) hx hb dL_law_541 (by decide) (fun _ => ?_) (fun q => absurd rfl q)
  refine lv_iload hx hb dL_law_546 (lv_at hl 1 rfl) ?_
  refine lv_if_ne (tgt := 562) hx hb dL_law_548 (by decide) (fun _ => ?_) (fun q0 => ?_)
  · exact lv_goto (tgt := 2554) hx hb dL_law_562 (by decide) (NX h2 k H locs ls m6 w (lv_sub hl [2, 3, 4, 5, 6] rfl))
  · refine lv_aload_n hx hb dL_law_551 rfl (lv_at hl 3 rfl) ?_
    refine lv_iconst (v := 0) hx hb dL_law_552 (by decide) ?_
    have hu : aJ h2 (some o) (0 : Int32) (fun v => some v) = some (h_j h2 o 0) := by rw [show (0 : Int32) = iI ((0 : Nat) : Int) from rfl, aJ_i (n := 1) ⟨hko2.1, hko2.2.1⟩ (by omega) (by omega)]
    refine w_aJ (r := some o) C w dL_law_553 hu (fun v9 e9 => ?_)
    cases e9
    refine lv_lload hx hb dL_law_554 (lv_at hl 0 rfl) ?_
    refine W.lcmp hx hb dL_law_556 ?_
    refine lv_if_eq (tgt := 562) hx hb dL_law_557 (by decide) (fun _ => ?_) (fun q => absurd (by rw [m5 q0]; exact lg_cmp_self _) q)
    exact lv_goto (tgt := 2554) hx hb dL_law_562 (by decide) (NX h2 k H locs ls m6 w (lv_sub hl [2, 3, 4, 5, 6] rfl))
set_option maxRecDepth 20000 in
set_option maxHeartbeats 4000000 in
theorem lc_least (E : lwC p s m meth c b L xs z w0) (hst : l.stackTraces = false) (hN : 100000 ≤ N) (P : PJ Q A mm o (13 * z + 7293034) n h) (hn : n < 512) (w : wd D cy z s k h H locs) (hl : lv_has ls 8 [(4, .int x4), (3, .ref o), (2, .ref mm), (1, .ref (Q 0)), (0, .ref b)]) (hin : ∀ j : Int32, (j = 1 ∨ j = 2 ∨ j = 3 ∨ j = 4 ∨ j = 5) → vp_in (x4 + j) L) (NX : LN p l e s m b below meth c D cy z Q A mm o n x4 Qp) : W p l e room_1 s m #[Value.ref b] below meth c H locs k (h_s h) Qp (F0 m 565 ls []) := by
  obtain ⟨C, hX, hbl, hz⟩ := E
  obtain ⟨hx, hb, -, -, hown, hts, -⟩ := id C
  obtain ⟨hkx, hko, hkm, hB0⟩ := P.top
  obtain ⟨r, g, e1, e2, e3, e4⟩ := op_least N hN P hn (xs (x4 + 1).toNatClampNeg)
  refine lv_aload_n hx hb dL_law_565 rfl (lv_at hl 3 rfl) ?_
  refine lw_rd hx hb hX hbl hz w (lv_at hl 4 rfl) (lv_at hl 0 rfl) (j := 1) (hin 1 (by decide)) dL_law_566 dL_law_567 dL_law_569 (by decide) dL_law_570 dL_law_571 ?_
  refine lv_aload_n hx hb dL_law_572 rfl (lv_at hl 1 rfl) ?_
  refine lw_SL (n := 3) (F := 10) (Lc := 164) (av := [.ref (Q 0), .int (xs (x4 + 1).toNatClampNeg), .ref o]) (rest := []) C w hz (k_L_least l hst D cy z N h (Q 0) o (xs (x4 + 1).toNatClampNeg) r g e1 hkx hko e2) e1 (mo_K_least N h (Q 0) (xs (x4 + 1).toNatClampNeg) _ _ e1) e3 gw_35_3 gw_35_4 gw_8_22 gw_35_5 (by decide +kernel) ⟨Nat.le_of_ble_eq_true rfl, Nat.le_of_ble_eq_true rfl⟩ rfl hl.1 rfl (Nat.le_of_ble_eq_true rfl) dL_law_573 (fun kc h1 k H locs wr w => ?_)
  obtain ⟨m1, m2, v, h2, m3, m4, m5, m6⟩ := e4 kc h1 wr
  have m3 : f_M_least N h1 mm (xs (x4 + 1).toNatClampNeg) = some (v, h2) := m3
  obtain ⟨-, hko2, hkm2, hB2⟩ := m6.top
  refine lv_istore (lv' := [(5, .int kc), (4, .int x4), (3, .ref o), (2, .ref mm), (1, .ref (Q 0)), (0, .ref b)]) hx hb dL_law_576 hl (by decide) rfl (fun ls hl => ?_)
  refine lv_aload_n hx hb dL_law_578 rfl (lv_at hl 3 rfl) ?_
  refine lw_rd hx hb hX hbl hz w (lv_at hl 5 rfl) (lv_at hl 1 rfl) (j := 1) (hin 1 (by decide)) dL_law_579 dL_law_580 dL_law_582 (by decide) dL_law_583 dL_law_584 ?_
  refine lw_V rJ (n := 1) (F := 7) (Lc := 193) (av := [.int (xs (x4 + 1).toNatClampNeg)]) (rest := []) (a := mm) C w hz rfl (by decide) m1 (k_M_least l D cy z N h1 mm (xs (x4 + 1).toNatClampNeg) v h2 m3) (Or.inl rfl) (Or.inl rfl) (sh_M_least N h1 mm (xs (x4 + 1).toNatClampNeg) _ _ m3).gr hB2 gw_35_11 gw_35_12 gw_35_13 gw_1_5 gw_35_14 (by decide +kernel) ⟨Nat.le_of_ble_eq_true rfl, Nat.le_of_ble_eq_true rfl⟩ rfl hl.1 rfl (Nat.le_of_ble_eq_true rfl) dL_law_585 (fun k H locs w => ?_)
  show W p l e room_1 s m #[Value.ref b] below meth c H locs k (h_s h2) Qp (F0 m 588 ls [.long v])
  refine lv_lstore (lv' := [(6, .long v), (5, .int kc), (4, .int x4), (3, .ref o), (2, .ref mm), (1, .ref (Q 0)), (0, .ref b)]) hx hb dL_law_588 hl (by decide) rfl (fun ls hl => ?_)
  refine lv_aload_n hx hb dL_law_590 rfl (lv_at hl 4 rfl) ?_
  have e9 : f_M_thrown N h2 mm = some (kc, h2) := by unfold f_M_thrown; rw [gI_k hkm2, m4]
  refine lw_V rI (n := 0) (F := 0) (Lc := 0) (av := []) (rest := []) (a := mm) C w hz rfl (by decide) hkm2 (k_M_thrown l D cy z N h2 mm kc h2 e9) (Or.inl rfl) (Or.inl rfl) (sh_M_thrown N h2 mm _ _ e9).gr hB2 gw_31_11 gw_31_12 gw_31_13 gw_1_5 gw_31_14 (by decide +kernel) ⟨Nat.le_of_ble_eq_true rfl, Nat.le_of_ble_eq_true rfl⟩ rfl hl.1 rfl (Nat.le_of_ble_eq_true rfl) dL_law_591 (fun k H locs w => ?_)
  show W p l e room_1 s m #[Value.ref b] below meth c H locs k (h_s h2) Qp (F0 m 594 ls [.int kc])
  refine lv_iload hx hb dL_law_594 (lv_at hl 1 rfl) ?_
  refine lv_icmp_eq (tgt := 601) hx hb dL_law_596 (by decide) (fun _ => ?_) (fun q => absurd rfl q)
  refine lv_iload hx hb dL_law_601 (lv_at hl 1 rfl) ?_
  refine lv_if_ne (tgt := 617) hx hb dL_law_603 (by decide) (fun _ => ?_) (fun q0 => ?_)
  · exact lv_goto (tgt := 2554) hx hb dL_law_617 (by decide) (NX h2 k H locs ls m6 w (lv_sub hl [2, 3, 4, 5, 6] rfl))
  · refine lv_aload_n hx hb dL_law_606 rfl (lv_at hl 3 rfl) ?_
    refine lv_iconst (v := 0) hx hb dL_law_607 (by decide) ?_
    have hu : aJ h2 (some o) (0 : Int32) (fun v => some v) = some (h_j h2 o 0) := by rw [show (0 : Int32) = iI ((0 : Nat) : Int) from rfl, aJ_i (n := 1) ⟨hko2.1, hko2.2.1⟩ (by omega) (by omega)]
    refine w_aJ (r := some o) C w dL_law_608 hu (fun v9 e9 => ?_)
    cases e9
    refine lv_lload hx hb dL_law_609 (lv_at hl 0 rfl) ?_
    refine W.lcmp hx hb dL_law_611 ?_
    refine lv_if_eq (tgt := 617) hx hb dL_law_612 (by decide) (fun _ => ?_) (fun q => absurd (by rw [m5 q0]; exact lg_cmp_self _) q)
    exact lv_goto (tgt := 2554) hx hb dL_law_617 (by decide) (NX h2 k H locs ls m6 w (lv_sub hl [2, 3, 4, 5, 6] rfl))
set_option maxRecDepth 20000 in
set_option maxHeartbeats 4000000 in
theorem lc_flat (E : lwC p s m meth c b L xs z w0) (hst : l.stackTraces = false) (hN : 100000 ≤ N) (P : PJ Q A mm o (13 * z + 7293034) n h) (hn : n < 512) (w : wd D cy z s k h H locs) (hl : lv_has ls 8 [(4, .int x4), (3, .ref o), (2, .ref mm), (1, .ref (Q 0)), (0, .ref b)]) (hin : ∀ j : Int32, (j = 1 ∨ j = 2 ∨ j = 3 ∨ j = 4 ∨ j = 5) → vp_in (x4 + j) L) (NX : LN p l e s m b below meth c D cy z Q A mm o n x4 Qp) : W p l e room_1 s m #[Value.ref b] below meth c H locs k (h_s h) Qp (F0 m 620 ls []) := by
  obtain ⟨C, hX, hbl, hz⟩ := E
  obtain ⟨hx, hb, -, -, hown, hts, -⟩ := id C
  obtain ⟨hkx, hko, hkm, hB0⟩ := P.top
  obtain ⟨r, g, e1, e2, e3, e4⟩ := op_flat N hN P hn (xs (x4 + 1).toNatClampNeg) (xs (x4 + 2).toNatClampNeg)
  refine lv_aload_n hx hb dL_law_620 rfl (lv_at hl 3 rfl) ?_
  refine lw_rd hx hb hX hbl hz w (lv_at hl 4 rfl) (lv_at hl 0 rfl) (j := 1) (hin 1 (by decide)) dL_law_621 dL_law_622 dL_law_624 (by decide) dL_law_625 dL_law_626 ?_
  refine lw_rd hx hb hX hbl hz w (lv_at hl 4 rfl) (lv_at hl 0 rfl) (j := 2) (hin 2 (by decide)) dL_law_627 dL_law_628 dL_law_630 (by decide) dL_law_631 dL_law_632 ?_
  refine lv_aload_n hx hb dL_law_633 rfl (lv_at hl 1 rfl) ?_
  refine lw_SL (n := 4) (F := 10) (Lc := 166) (av := [.ref (Q 0), .int (xs (x4 + 1).toNatClampNeg), .int (xs (x4 + 2).toNatClampNeg), .ref o]) (rest := []) C w hz (k_L_flat l hst D cy z N h (Q 0) o (xs (x4 + 1).toNatClampNeg) (xs (x4 + 2).toNatClampNeg) r g e1 hkx hko e2) e1 (mo_K_flat N h (Q 0) (xs (x4 + 1).toNatClampNeg) (xs (x4 + 2).toNatClampNeg) _ _ e1) e3 gw_35_15 gw_35_16 gw_8_22 gw_35_17 (by decide +kernel) ⟨Nat.le_of_ble_eq_true rfl, Nat.le_of_ble_eq_true rfl⟩ rfl hl.1 rfl (Nat.le_of_ble_eq_true rfl) dL_law_634 (fun kc h1 k H locs wr w => ?_)
  obtain ⟨m1, m2, v, h2, m3, m4, m5, m6⟩ := e4 kc h1 wr
  have m3 : f_M_flat N h1 mm (xs (x4 + 1).toNatClampNeg) (xs (x4 + 2).toNatClampNeg) = some (v, h2) := m3
  obtain ⟨-, hko2, hkm2, hB2⟩ := m6.top
  refine lv_istore (lv' := [(5, .int kc), (4, .int x4), (3, .ref o), (2, .ref mm), (1, .ref (Q 0)), (0, .ref b)]) hx hb dL_law_637 hl (by decide) rfl (fun ls hl => ?_)
  refine lv_aload_n hx hb dL_law_639 rfl (lv_at hl 3 rfl) ?_
  refine lw_rd hx hb hX hbl hz w (lv_at hl 5 rfl) (lv_at hl 1 rfl) (j := 1) (hin 1 (by decide)) dL_law_640 dL_law_641 dL_law_643 (by decide) dL_law_644 dL_law_645 ?_
  refine lw_rd hx hb hX hbl hz w (lv_at hl 5 rfl) (lv_at hl 1 rfl) (j := 2) (hin 2 (by decide)) dL_law_646 dL_law_647 dL_law_649 (by decide) dL_law_650 dL_law_651 ?_
  refine lw_V rI (n := 2) (F := 7) (Lc := 193) (av := [.int (xs (x4 + 1).toNatClampNeg), .int (xs (x4 + 2).toNatClampNeg)]) (rest := []) (a := mm) C w hz rfl (by decide) m1 (k_M_flat l D cy z N h1 mm (xs (x4 + 1).toNatClampNeg) (xs (x4 + 2).toNatClampNeg) v h2 m3) (Or.inl rfl) (Or.inl rfl) (sh_M_flat N h1 mm (xs (x4 + 1).toNatClampNeg) (xs (x4 + 2).toNatClampNeg) _ _ m3).gr hB2 gw_37_9 gw_37_10 gw_37_11 gw_1_5 gw_37_12 (by decide +kernel) ⟨Nat.le_of_ble_eq_true rfl, Nat.le_of_ble_eq_true rfl⟩ rfl hl.1 rfl (Nat.le_of_ble_eq_true rfl) dL_law_652 (fun k H locs w => ?_)
  show W p l e room_1 s m #[Value.ref b] below meth c H locs k (h_s h2) Qp (F0 m 655 ls [.int v])
  refine lv_istore (lv' := [(6, .int v), (5, .int kc), (4, .int x4), (3, .ref o), (2, .ref mm), (1, .ref (Q 0)), (0, .ref b)]) hx hb dL_law_655 hl (by decide) rfl (fun ls hl => ?_)
  refine lv_aload_n hx hb dL_law_657 rfl (lv_at hl 4 rfl) ?_
  have e9 : f_M_thrown N h2 mm = some (kc, h2) := by unfold f_M_thrown; rw [gI_k hkm2, m4]
  refine lw_V rI (n := 0) (F := 0) (Lc := 0) (av := []) (rest := []) (a := mm) C w hz rfl (by decide) hkm2 (k_M_thrown l D cy z N h2 mm kc h2 e9) (Or.inl rfl) (Or.inl rfl) (sh_M_thrown N h2 mm _ _ e9).gr hB2 gw_31_11 gw_31_12 gw_31_13 gw_1_5 gw_31_14 (by decide +kernel) ⟨Nat.le_of_ble_eq_true rfl, Nat.le_of_ble_eq_true rfl⟩ rfl hl.1 rfl (Nat.le_of_ble_eq_true rfl) dL_law_658 (fun k H locs w => ?_)
  show W p l e room_1 s m #[Value.ref b] below meth c H locs k (h_s h2) Qp (F0 m 661 ls [.int kc])
  refine lv_iload hx hb dL_law_661 (lv_at hl 1 rfl) ?_
  refine lv_icmp_eq (tgt := 668) hx hb dL_law_663 (by decide) (fun _ => ?_) (fun q => absurd rfl q)
  refine lv_iload hx hb dL_law_668 (lv_at hl 1 rfl) ?_
  refine lv_if_ne (tgt := 685) hx hb dL_law_670 (by decide) (fun _ => ?_) (fun q0 => ?_)
  · exact lv_goto (tgt := 2554) hx hb dL_law_685 (by decide) (NX h2 k H locs ls m6 w (lv_sub hl [2, 3, 4, 5, 6] rfl))
  · refine lv_aload_n hx hb dL_law_673 rfl (lv_at hl 3 rfl) ?_
    refine lv_iconst (v := 0) hx hb dL_law_674 (by decide) ?_
    have hu : aJ h2 (some o) (0 : Int32) (fun v => some v) = some (h_j h2 o 0) := by rw [show (0 : Int32) = iI ((0 : Nat) : Int) from rfl, aJ_i (n := 1) ⟨hko2.1, hko2.2.1⟩ (by omega) (by omega)]
    refine w_aJ (r := some o) C w dL_law_675 hu (fun v9 e9 => ?_)
    cases e9
    refine lv_iload hx hb dL_law_676 (lv_at hl 0 rfl) ?_
    refine lv_i2l hx hb dL_law_678 rfl ?_
    refine W.lcmp hx hb dL_law_679 ?_
    refine lv_if_eq (tgt := 685) hx hb dL_law_680 (by decide) (fun _ => ?_) (fun q => absurd (by rw [m5 q0]; exact lg_cmp_self _) q)
    exact lv_goto (tgt := 2554) hx hb dL_law_685 (by decide) (NX h2 k H locs ls m6 w (lv_sub hl [2, 3, 4, 5, 6] rfl))
set_option maxRecDepth 20000 in
set_option maxHeartbeats 4000000 in
theorem lc_kink (E : lwC p s m meth c b L xs z w0) (hst : l.stackTraces = false) (hN : 100000 ≤ N) (P : PJ Q A mm o (13 * z + 7293034) n h) (hn : n < 512) (w : wd D cy z s k h H locs) (hl : lv_has ls 8 [(4, .int x4), (3, .ref o), (2, .ref mm), (1, .ref (Q 0)), (0, .ref b)]) (hin : ∀ j : Int32, (j = 1 ∨ j = 2 ∨ j = 3 ∨ j = 4 ∨ j = 5) → vp_in (x4 + j) L) (NX : LN p l e s m b below meth c D cy z Q A mm o n x4 Qp) : W p l e room_1 s m #[Value.ref b] below meth c H locs k (h_s h) Qp (F0 m 688 ls []) := by
  obtain ⟨C, hX, hbl, hz⟩ := E
  obtain ⟨hx, hb, -, -, hown, hts, -⟩ := id C
  obtain ⟨hkx, hko, hkm, hB0⟩ := P.top
  obtain ⟨r, g, e1, e2, e3, e4⟩ := op_kink N hN P hn (xs (x4 + 1).toNatClampNeg) (xs (x4 + 2).toNatClampNeg) (xs (x4 + 3).toNatClampNeg)
  refine lv_aload_n hx hb dL_law_688 rfl (lv_at hl 3 rfl) ?_
  refine lw_rd hx hb hX hbl hz w (lv_at hl 4 rfl) (lv_at hl 0 rfl) (j := 1) (hin 1 (by decide)) dL_law_689 dL_law_690 dL_law_692 (by decide) dL_law_693 dL_law_694 ?_
  refine lw_rd hx hb hX hbl hz w (lv_at hl 4 rfl) (lv_at hl 0 rfl) (j := 2) (hin 2 (by decide)) dL_law_695 dL_law_696 dL_law_698 (by decide) dL_law_699 dL_law_700 ?_
  refine lw_rd hx hb hX hbl hz w (lv_at hl 4 rfl) (lv_at hl 0 rfl) (j := 3) (hin 3 (by decide)) dL_law_701 dL_law_702 dL_law_704 (by decide) dL_law_705 dL_law_706 ?_
  refine lv_aload_n hx hb dL_law_707 rfl (lv_at hl 1 rfl) ?_
  refine lw_SL (n := 5) (F := 10) (Lc := 167) (av := [.ref (Q 0), .int (xs (x4 + 1).toNatClampNeg), .int (xs (x4 + 2).toNatClampNeg), .int (xs (x4 + 3).toNatClampNeg), .ref o]) (rest := []) C w hz (k_L_kink l hst D cy z N h (Q 0) o (xs (x4 + 1).toNatClampNeg) (xs (x4 + 2).toNatClampNeg) (xs (x4 + 3).toNatClampNeg) r g e1 hkx hko e2) e1 (mo_K_kink N h (Q 0) (xs (x4 + 1).toNatClampNeg) (xs (x4 + 2).toNatClampNeg) (xs (x4 + 3).toNatClampNeg) _ _ e1) e3 gw_37_23 gw_38_0 gw_8_22 gw_38_1 (by decide +kernel) ⟨Nat.le_of_ble_eq_true rfl, Nat.le_of_ble_eq_true rfl⟩ rfl hl.1 rfl (Nat.le_of_ble_eq_true rfl) dL_law_708 (fun kc h1 k H locs wr w => ?_)
  obtain ⟨m1, m2, v, h2, m3, m4, m5, m6⟩ := e4 kc h1 wr
  have m3 : f_M_kink N h1 mm (xs (x4 + 1).toNatClampNeg) (xs (x4 + 2).toNatClampNeg) (xs (x4 + 3).toNatClampNeg) = some (v, h2) := m3
  obtain ⟨-, hko2, hkm2, hB2⟩ := m6.top
  refine lv_istore (lv' := [(5, .int kc), (4, .int x4), (3, .ref o), (2, .ref mm), (1, .ref (Q 0)), (0, .ref b)]) hx hb dL_law_711 hl (by decide) rfl (fun ls hl => ?_)
  refine lv_aload_n hx hb dL_law_713 rfl (lv_at hl 3 rfl) ?_
  refine lw_rd hx hb hX hbl hz w (lv_at hl 5 rfl) (lv_at hl 1 rfl) (j := 1) (hin 1 (by decide)) dL_law_714 dL_law_715 dL_law_717 (by decide) dL_law_718 dL_law_719 ?_
  refine lw_rd hx hb hX hbl hz w (lv_at hl 5 rfl) (lv_at hl 1 rfl) (j := 2) (hin 2 (by decide)) dL_law_720 dL_law_721 dL_law_723 (by decide) dL_law_724 dL_law_725 ?_
  refine lw_rd hx hb hX hbl hz w (lv_at hl 5 rfl) (lv_at hl 1 rfl) (j := 3) (hin 3 (by decide)) dL_law_726 dL_law_727 dL_law_729 (by decide) dL_law_730 dL_law_731 ?_
  refine lw_V rI (n := 3) (F := 7) (Lc := 193) (av := [.int (xs (x4 + 1).toNatClampNeg), .int (xs (x4 + 2).toNatClampNeg), .int (xs (x4 + 3).toNatClampNeg)]) (rest := []) (a := mm) C w hz rfl (by decide) m1 (k_M_kink l D cy z N h1 mm (xs (x4 + 1).toNatClampNeg) (xs (x4 + 2).toNatClampNeg) (xs (x4 + 3).toNatClampNeg) v h2 m3) (Or.inl rfl) (Or.inl rfl) (sh_M_kink N h1 mm (xs (x4 + 1).toNatClampNeg) (xs (x4 + 2).toNatClampNeg) (xs (x4 + 3).toNatClampNeg) _ _ m3).gr hB2 gw_38_8 gw_38_9 gw_38_10 gw_1_5 gw_38_11 (by decide +kernel) ⟨Nat.le_of_ble_eq_true rfl, Nat.le_of_ble_eq_true rfl⟩ rfl hl.1 rfl (Nat.le_of_ble_eq_true rfl) dL_law_732 (fun k H locs w => ?_)
  show W p l e room_1 s m #[Value.ref b] below meth c H locs k (h_s h2) Qp (F0 m 735 ls [.int v])
  refine lv_istore (lv' := [(6, .int v), (5, .int kc), (4, .int x4), (3, .ref o), (2, .ref mm), (1, .ref (Q 0)), (0, .ref b)]) hx hb dL_law_735 hl (by decide) rfl (fun ls hl => ?_)
  refine lv_aload_n hx hb dL_law_737 rfl (lv_at hl 4 rfl) ?_
  have e9 : f_M_thrown N h2 mm = some (kc, h2) := by unfold f_M_thrown; rw [gI_k hkm2, m4]
  refine lw_V rI (n := 0) (F := 0) (Lc := 0) (av := []) (rest := []) (a := mm) C w hz rfl (by decide) hkm2 (k_M_thrown l D cy z N h2 mm kc h2 e9) (Or.inl rfl) (Or.inl rfl) (sh_M_thrown N h2 mm _ _ e9).gr hB2 gw_31_11 gw_31_12 gw_31_13 gw_1_5 gw_31_14 (by decide +kernel) ⟨Nat.le_of_ble_eq_true rfl, Nat.le_of_ble_eq_true rfl⟩ rfl hl.1 rfl (Nat.le_of_ble_eq_true rfl) dL_law_738 (fun k H locs w => ?_)
  show W p l e room_1 s m #[Value.ref b] below meth c H locs k (h_s h2) Qp (F0 m 741 ls [.int kc])
  refine lv_iload hx hb dL_law_741 (lv_at hl 1 rfl) ?_
  refine lv_icmp_eq (tgt := 748) hx hb dL_law_743 (by decide) (fun _ => ?_) (fun q => absurd rfl q)
  refine lv_iload hx hb dL_law_748 (lv_at hl 1 rfl) ?_
  refine lv_if_ne (tgt := 765) hx hb dL_law_750 (by decide) (fun _ => ?_) (fun q0 => ?_)
  · exact lv_goto (tgt := 2554) hx hb dL_law_765 (by decide) (NX h2 k H locs ls m6 w (lv_sub hl [2, 3, 4, 5, 6] rfl))
  · refine lv_aload_n hx hb dL_law_753 rfl (lv_at hl 3 rfl) ?_
    refine lv_iconst (v := 0) hx hb dL_law_754 (by decide) ?_
    have hu : aJ h2 (some o) (0 : Int32) (fun v => some v) = some (h_j h2 o 0) := by rw [show (0 : Int32) = iI ((0 : Nat) : Int) from rfl, aJ_i (n := 1) ⟨hko2.1, hko2.2.1⟩ (by omega) (by omega)]
    refine w_aJ (r := some o) C w dL_law_755 hu (fun v9 e9 => ?_)
    cases e9
    refine lv_iload hx hb dL_law_756 (lv_at hl 0 rfl) ?_
    refine lv_i2l hx hb dL_law_758 rfl ?_
    refine W.lcmp hx hb dL_law_759 ?_
    refine lv_if_eq (tgt := 765) hx hb dL_law_760 (by decide) (fun _ => ?_) (fun q => absurd (by rw [m5 q0]; exact lg_cmp_self _) q)
    exact lv_goto (tgt := 2554) hx hb dL_law_765 (by decide) (NX h2 k H locs ls m6 w (lv_sub hl [2, 3, 4, 5, 6] rfl))
set_option maxRecDepth 20000 in
set_option maxHeartbeats 4000000 in
theorem lc_slope (E : lwC p s m meth c b L xs z w0) (hst : l.stackTraces = false) (hN : 100000 ≤ N) (P : PJ Q A mm o (13 * z + 7293034) n h) (hn : n < 512) (w : wd D cy z s k h H locs) (hl : lv_has ls 8 [(4, .int x4), (3, .ref o), (2, .ref mm), (1, .ref (Q 0)), (0, .ref b)]) (hin : ∀ j : Int32, (j = 1 ∨ j = 2 ∨ j = 3 ∨ j = 4 ∨ j = 5) → vp_in (x4 + j) L) (NX : LN p l e s m b below meth c D cy z Q A mm o n x4 Qp) : W p l e room_1 s m #[Value.ref b] below meth c H locs k (h_s h) Qp (F0 m 768 ls []) := by
  obtain ⟨C, hX, hbl, hz⟩ := E
  obtain ⟨hx, hb, -, -, hown, hts, -⟩ := id C
  obtain ⟨hkx, hko, hkm, hB0⟩ := P.top
  obtain ⟨r, g, e1, e2, e3, e4⟩ := op_slope N hN P hn (xs (x4 + 1).toNatClampNeg) (xs (x4 + 2).toNatClampNeg) (xs (x4 + 3).toNatClampNeg)
  refine lv_aload_n hx hb dL_law_768 rfl (lv_at hl 3 rfl) ?_
  refine lw_rd hx hb hX hbl hz w (lv_at hl 4 rfl) (lv_at hl 0 rfl) (j := 1) (hin 1 (by decide)) dL_law_769 dL_law_770 dL_law_772 (by decide) dL_law_773 dL_law_774 ?_
  refine lw_rd hx hb hX hbl hz w (lv_at hl 4 rfl) (lv_at hl 0 rfl) (j := 2) (hin 2 (by decide)) dL_law_775 dL_law_776 dL_law_778 (by decide) dL_law_779 dL_law_780 ?_
  refine lw_rd hx hb hX hbl hz w (lv_at hl 4 rfl) (lv_at hl 0 rfl) (j := 3) (hin 3 (by decide)) dL_law_781 dL_law_782 dL_law_784 (by decide) dL_law_785 dL_law_786 ?_
  refine lv_aload_n hx hb dL_law_787 rfl (lv_at hl 1 rfl) ?_
  refine lw_SL (n := 5) (F := 10) (Lc := 167) (av := [.ref (Q 0), .int (xs (x4 + 1).toNatClampNeg), .int (xs (x4 + 2).toNatClampNeg), .int (xs (x4 + 3).toNatClampNeg), .ref o]) (rest := []) C w hz (k_L_slope l hst D cy z N h (Q 0) o (xs (x4 + 1).toNatClampNeg) (xs (x4 + 2).toNatClampNeg) (xs (x4 + 3).toNatClampNeg) r g e1 hkx hko e2) e1 (mo_K_slope N h (Q 0) (xs (x4 + 1).toNatClampNeg) (xs (x4 + 2).toNatClampNeg) (xs (x4 + 3).toNatClampNeg) _ _ e1) e3 gw_38_12 gw_38_13 gw_8_22 gw_38_14 (by decide +kernel) ⟨Nat.le_of_ble_eq_true rfl, Nat.le_of_ble_eq_true rfl⟩ rfl hl.1 rfl (Nat.le_of_ble_eq_true rfl) dL_law_788 (fun kc h1 k H locs wr w => ?_)
  obtain ⟨m1, m2, v, h2, m3, m4, m5, m6⟩ := e4 kc h1 wr
  have m3 : f_M_slope N h1 mm (xs (x4 + 1).toNatClampNeg) (xs (x4 + 2).toNatClampNeg) (xs (x4 + 3).toNatClampNeg) = some (v, h2) := m3
  obtain ⟨-, hko2, hkm2, hB2⟩ := m6.top
  refine lv_istore (lv' := [(5, .int kc), (4, .int x4), (3, .ref o), (2, .ref mm), (1, .ref (Q 0)), (0, .ref b)]) hx hb dL_law_791 hl (by decide) rfl (fun ls hl => ?_)
  refine lv_aload_n hx hb dL_law_793 rfl (lv_at hl 3 rfl) ?_
  refine lw_rd hx hb hX hbl hz w (lv_at hl 5 rfl) (lv_at hl 1 rfl) (j := 1) (hin 1 (by decide)) dL_law_794 dL_law_795 dL_law_797 (by decide) dL_law_798 dL_law_799 ?_
  refine lw_rd hx hb hX hbl hz w (lv_at hl 5 rfl) (lv_at hl 1 rfl) (j := 2) (hin 2 (by decide)) dL_law_800 dL_law_801 dL_law_803 (by decide) dL_law_804 dL_law_805 ?_
  refine lw_rd hx hb hX hbl hz w (lv_at hl 5 rfl) (lv_at hl 1 rfl) (j := 3) (hin 3 (by decide)) dL_law_806 dL_law_807 dL_law_809 (by decide) dL_law_810 dL_law_811 ?_
  refine lw_V rI (n := 3) (F := 7) (Lc := 193) (av := [.int (xs (x4 + 1).toNatClampNeg), .int (xs (x4 + 2).toNatClampNeg), .int (xs (x4 + 3).toNatClampNeg)]) (rest := []) (a := mm) C w hz rfl (by decide) m1 (k_M_slope l D cy z N h1 mm (xs (x4 + 1).toNatClampNeg) (xs (x4 + 2).toNatClampNeg) (xs (x4 + 3).toNatClampNeg) v h2 m3) (Or.inl rfl) (Or.inl rfl) (sh_M_slope N h1 mm (xs (x4 + 1).toNatClampNeg) (xs (x4 + 2).toNatClampNeg) (xs (x4 + 3).toNatClampNeg) _ _ m3).gr hB2 gw_38_23 gw_39_0 gw_39_1 gw_1_5 gw_39_2 (by decide +kernel) ⟨Nat.le_of_ble_eq_true rfl, Nat.le_of_ble_eq_true rfl⟩ rfl hl.1 rfl (Nat.le_of_ble_eq_true rfl) dL_law_812 (fun k H locs w => ?_)
  show W p l e room_1 s m #[Value.ref b] below meth c H locs k (h_s h2) Qp (F0 m 815 ls [.int v])
  refine lv_istore (lv' := [(6, .int v), (5, .int kc), (4, .int x4), (3, .ref o), (2, .ref mm), (1, .ref (Q 0)), (0, .ref b)]) hx hb dL_law_815 hl (by decide) rfl (fun ls hl => ?_)
  refine lv_aload_n hx hb dL_law_817 rfl (lv_at hl 4 rfl) ?_
  have e9 : f_M_thrown N h2 mm = some (kc, h2) := by unfold f_M_thrown; rw [gI_k hkm2, m4]
  refine lw_V rI (n := 0) (F := 0) (Lc := 0) (av := []) (rest := []) (a := mm) C w hz rfl (by decide) hkm2 (k_M_thrown l D cy z N h2 mm kc h2 e9) (Or.inl rfl) (Or.inl rfl) (sh_M_thrown N h2 mm _ _ e9).gr hB2 gw_31_11 gw_31_12 gw_31_13 gw_1_5 gw_31_14 (by decide +kernel) ⟨Nat.le_of_ble_eq_true rfl, Nat.le_of_ble_eq_true rfl⟩ rfl hl.1 rfl (Nat.le_of_ble_eq_true rfl) dL_law_818 (fun k H locs w => ?_)
  show W p l e room_1 s m #[Value.ref b] below meth c H locs k (h_s h2) Qp (F0 m 821 ls [.int kc])
  refine lv_iload hx hb dL_law_821 (lv_at hl 1 rfl) ?_
  refine lv_icmp_eq (tgt := 828) hx hb dL_law_823 (by decide) (fun _ => ?_) (fun q => absurd rfl q)
  refine lv_iload hx hb dL_law_828 (lv_at hl 1 rfl) ?_
  refine lv_if_ne (tgt := 845) hx hb dL_law_830 (by decide) (fun _ => ?_) (fun q0 => ?_)
  · exact lv_goto (tgt := 2554) hx hb dL_law_845 (by decide) (NX h2 k H locs ls m6 w (lv_sub hl [2, 3, 4, 5, 6] rfl))
  · refine lv_aload_n hx hb dL_law_833 rfl (lv_at hl 3 rfl) ?_
    refine lv_iconst (v := 0) hx hb dL_law_834 (by decide) ?_
    have hu : aJ h2 (some o) (0 : Int32) (fun v => some v) = some (h_j h2 o 0) := by rw [show (0 : Int32) = iI ((0 : Nat) : Int) from rfl, aJ_i (n := 1) ⟨hko2.1, hko2.2.1⟩ (by omega) (by omega)]
    refine w_aJ (r := some o) C w dL_law_835 hu (fun v9 e9 => ?_)
    cases e9
    refine lv_iload hx hb dL_law_836 (lv_at hl 0 rfl) ?_
    refine lv_i2l hx hb dL_law_838 rfl ?_
    refine W.lcmp hx hb dL_law_839 ?_
    refine lv_if_eq (tgt := 845) hx hb dL_law_840 (by decide) (fun _ => ?_) (fun q => absurd (by rw [m5 q0]; exact lg_cmp_self _) q)
    exact lv_goto (tgt := 2554) hx hb dL_law_845 (by decide) (NX h2 k H locs ls m6 w (lv_sub hl [2, 3, 4, 5, 6] rfl))
set_option maxRecDepth 20000 in
set_option maxHeartbeats 4000000 in
theorem lc_path (E : lwC p s m meth c b L xs z w0) (hst : l.stackTraces = false) (hN : 100000 ≤ N) (P : PJ Q A mm o (13 * z + 7293034) n h) (hn : n < 512) (w : wd D cy z s k h H locs) (hl : lv_has ls 8 [(4, .int x4), (3, .ref o), (2, .ref mm), (1, .ref (Q 0)), (0, .ref b)]) (hin : ∀ j : Int32, (j = 1 ∨ j = 2 ∨ j = 3 ∨ j = 4 ∨ j = 5) → vp_in (x4 + j) L) (NX : LN p l e s m b below meth c D cy z Q A mm o n x4 Qp) : W p l e room_1 s m #[Value.ref b] below meth c H locs k (h_s h) Qp (F0 m 848 ls []) := by
  obtain ⟨C, hX, hbl, hz⟩ := E
  obtain ⟨hx, hb, -, -, hown, hts, -⟩ := id C
  obtain ⟨hkx, hko, hkm, hB0⟩ := P.top
  obtain ⟨r, g, e1, e2, e3, e4⟩ := op_path N hN P hn (xs (x4 + 1).toNatClampNeg) (xs (x4 + 2).toNatClampNeg) (xs (x4 + 3).toNatClampNeg)
  refine lv_aload_n hx hb dL_law_848 rfl (lv_at hl 3 rfl) ?_
  refine lw_rd hx hb hX hbl hz w (lv_at hl 4 rfl) (lv_at hl 0 rfl) (j := 1) (hin 1 (by decide)) dL_law_849 dL_law_850 dL_law_852 (by decide) dL_law_853 dL_law_854 ?_
  refine lw_rd hx hb hX hbl hz w (lv_at hl 4 rfl) (lv_at hl 0 rfl) (j := 2) (hin 2 (by decide)) dL_law_855 dL_law_856 dL_law_858 (by decide) dL_law_859 dL_law_860 ?_
  refine lw_rd hx hb hX hbl hz w (lv_at hl 4 rfl) (lv_at hl 0 rfl) (j := 3) (hin 3 (by decide)) dL_law_861 dL_law_862 dL_law_864 (by decide) dL_law_865 dL_law_866 ?_
  refine lv_aload_n hx hb dL_law_867 rfl (lv_at hl 1 rfl) ?_
  refine lw_SL (n := 5) (F := 10) (Lc := 189) (av := [.ref (Q 0), .int (xs (x4 + 1).toNatClampNeg), .int (xs (x4 + 2).toNatClampNeg), .int (xs (x4 + 3).toNatClampNeg), .ref o]) (rest := []) C w hz (k_L_path l hst D cy z N h (Q 0) o (xs (x4 + 1).toNatClampNeg) (xs (x4 + 2).toNatClampNeg) (xs (x4 + 3).toNatClampNeg) r g e1 hkx hko e2) e1 (mo_K_path N h (Q 0) (xs (x4 + 1).toNatClampNeg) (xs (x4 + 2).toNatClampNeg) (xs (x4 + 3).toNatClampNeg) _ _ e1) e3 gw_39_3 gw_39_4 gw_8_22 gw_39_5 (by decide +kernel) ⟨Nat.le_of_ble_eq_true rfl, Nat.le_of_ble_eq_true rfl⟩ rfl hl.1 rfl (Nat.le_of_ble_eq_true rfl) dL_law_868 (fun kc h1 k H locs wr w => ?_)
  obtain ⟨m1, m2, v, h2, m3, m4, m5, m6⟩ := e4 kc h1 wr
  have m3 : f_M_path N h1 mm (xs (x4 + 1).toNatClampNeg) (xs (x4 + 2).toNatClampNeg) (xs (x4 + 3).toNatClampNeg) = some (v, h2) := m3
  obtain ⟨-, hko2, hkm2, hB2⟩ := m6.top
  refine lv_istore (lv' := [(5, .int kc), (4, .int x4), (3, .ref o), (2, .ref mm), (1, .ref (Q 0)), (0, .ref b)]) hx hb dL_law_871 hl (by decide) rfl (fun ls hl => ?_)
  refine lv_aload_n hx hb dL_law_873 rfl (lv_at hl 3 rfl) ?_
  refine lw_rd hx hb hX hbl hz w (lv_at hl 5 rfl) (lv_at hl 1 rfl) (j := 1) (hin 1 (by decide)) dL_law_874 dL_law_875 dL_law_877 (by decide) dL_law_878 dL_law_879 ?_
  refine lw_rd hx hb hX hbl hz w (lv_at hl 5 rfl) (lv_at hl 1 rfl) (j := 2) (hin 2 (by decide)) dL_law_880 dL_law_881 dL_law_883 (by decide) dL_law_884 dL_law_885 ?_
  refine lw_rd hx hb hX hbl hz w (lv_at hl 5 rfl) (lv_at hl 1 rfl) (j := 3) (hin 3 (by decide)) dL_law_886 dL_law_887 dL_law_889 (by decide) dL_law_890 dL_law_891 ?_
  refine lw_V rI (n := 3) (F := 8) (Lc := 220) (av := [.int (xs (x4 + 1).toNatClampNeg), .int (xs (x4 + 2).toNatClampNeg), .int (xs (x4 + 3).toNatClampNeg)]) (rest := []) (a := mm) C w hz rfl (by decide) m1 (k_M_path l D cy z N h1 mm (xs (x4 + 1).toNatClampNeg) (xs (x4 + 2).toNatClampNeg) (xs (x4 + 3).toNatClampNeg) v h2 m3) (Or.inl rfl) (Or.inl rfl) (sh_M_path N h1 mm (xs (x4 + 1).toNatClampNeg) (xs (x4 + 2).toNatClampNeg) (xs (x4 + 3).toNatClampNeg) _ _ m3).gr hB2 gw_40_10 gw_40_11 gw_40_12 gw_1_5 gw_40_13 (by decide +kernel) ⟨Nat.le_of_ble_eq_true rfl, Nat.le_of_ble_eq_true rfl⟩ rfl hl.1 rfl (Nat.le_of_ble_eq_true rfl) dL_law_892 (fun k H locs w => ?_)
  show W p l e room_1 s m #[Value.ref b] below meth c H locs k (h_s h2) Qp (F0 m 895 ls [.int v])
  refine lv_istore (lv' := [(6, .int v), (5, .int kc), (4, .int x4), (3, .ref o), (2, .ref mm), (1, .ref (Q 0)), (0, .ref b)]) hx hb dL_law_895 hl (by decide) rfl (fun ls hl => ?_)
  refine lv_aload_n hx hb dL_law_897 rfl (lv_at hl 4 rfl) ?_
  have e9 : f_M_thrown N h2 mm = some (kc, h2) := by unfold f_M_thrown; rw [gI_k hkm2, m4]
  refine lw_V rI (n := 0) (F := 0) (Lc := 0) (av := []) (rest := []) (a := mm) C w hz rfl (by decide) hkm2 (k_M_thrown l D cy z N h2 mm kc h2 e9) (Or.inl rfl) (Or.inl rfl) (sh_M_thrown N h2 mm _ _ e9).gr hB2 gw_31_11 gw_31_12 gw_31_13 gw_1_5 gw_31_14 (by decide +kernel) ⟨Nat.le_of_ble_eq_true rfl, Nat.le_of_ble_eq_true rfl⟩ rfl hl.1 rfl (Nat.le_of_ble_eq_true rfl) dL_law_898 (fun k H locs w => ?_)
  show W p l e room_1 s m #[Value.ref b] below meth c H locs k (h_s h2) Qp (F0 m 901 ls [.int kc])
  refine lv_iload hx hb dL_law_901 (lv_at hl 1 rfl) ?_
  refine lv_icmp_eq (tgt := 908) hx hb dL_law_903 (by decide) (fun _ => ?_) (fun q => absurd rfl q)
  refine lv_iload hx hb dL_law_908 (lv_at hl 1 rfl) ?_
  refine lv_if_ne (tgt := 925) hx hb dL_law_910 (by decide) (fun _ => ?_) (fun q0 => ?_)
  · exact lv_goto (tgt := 2554) hx hb dL_law_925 (by decide) (NX h2 k H locs ls m6 w (lv_sub hl [2, 3, 4, 5, 6] rfl))
  · refine lv_aload_n hx hb dL_law_913 rfl (lv_at hl 3 rfl) ?_
    refine lv_iconst (v := 0) hx hb dL_law_914 (by decide) ?_
    have hu : aJ h2 (some o) (0 : Int32) (fun v => some v) = some (h_j h2 o 0) := by rw [show (0 : Int32) = iI ((0 : Nat) : Int) from rfl, aJ_i (n := 1) ⟨hko2.1, hko2.2.1⟩ (by omega) (by omega)]
    refine w_aJ (r := some o) C w dL_law_915 hu (fun v9 e9 => ?_)
    cases e9
    refine lv_iload hx hb dL_law_916 (lv_at hl 0 rfl) ?_
    refine lv_i2l hx hb dL_law_918 rfl ?_
    refine W.lcmp hx hb dL_law_919 ?_
    refine lv_if_eq (tgt := 925) hx hb dL_law_920 (by decide) (fun _ => ?_) (fun q => absurd (by rw [m5 q0]; exact lg_cmp_self _) q)
    exact lv_goto (tgt := 2554) hx hb dL_law_925 (by decide) (NX h2 k H locs ls m6 w (lv_sub hl [2, 3, 4, 5, 6] rfl))
set_option maxRecDepth 20000 in
set_option maxHeartbeats 4000000 in
theorem lc_paid (E : lwC p s m meth c b L xs z w0) (hst : l.stackTraces = false) (hN : 100000 ≤ N) (P : PJ Q A mm o (13 * z + 7293034) n h) (hn : n < 512) (w : wd D cy z s k h H locs) (hl : lv_has ls 8 [(4, .int x4), (3, .ref o), (2, .ref mm), (1, .ref (Q 0)), (0, .ref b)]) (hin : ∀ j : Int32, (j = 1 ∨ j = 2 ∨ j = 3 ∨ j = 4 ∨ j = 5) → vp_in (x4 + j) L) (NX : LN p l e s m b below meth c D cy z Q A mm o n x4 Qp) : W p l e room_1 s m #[Value.ref b] below meth c H locs k (h_s h) Qp (F0 m 928 ls []) := by
  obtain ⟨C, hX, hbl, hz⟩ := E
  obtain ⟨hx, hb, -, -, hown, hts, -⟩ := id C
  obtain ⟨hkx, hko, hkm, hB0⟩ := P.top
  obtain ⟨r, g, e1, e2, e3, e4⟩ := op_paid N hN P hn (xs (x4 + 1).toNatClampNeg) (xs (x4 + 2).toNatClampNeg) (xs (x4 + 3).toNatClampNeg)
  refine lv_aload_n hx hb dL_law_928 rfl (lv_at hl 3 rfl) ?_
  refine lw_rd hx hb hX hbl hz w (lv_at hl 4 rfl) (lv_at hl 0 rfl) (j := 1) (hin 1 (by decide)) dL_law_929 dL_law_930 dL_law_932 (by decide) dL_law_933 dL_law_934 ?_
  refine lw_rd hx hb hX hbl hz w (lv_at hl 4 rfl) (lv_at hl 0 rfl) (j := 2) (hin 2 (by decide)) dL_law_935 dL_law_936 dL_law_938 (by decide) dL_law_939 dL_law_940 ?_
  refine lw_rd hx hb hX hbl hz w (lv_at hl 4 rfl) (lv_at hl 0 rfl) (j := 3) (hin 3 (by decide)) dL_law_941 dL_law_942 dL_law_944 (by decide) dL_law_945 dL_law_946 ?_
  refine lv_aload_n hx hb dL_law_947 rfl (lv_at hl 1 rfl) ?_
  refine lw_SL (n := 5) (F := 11) (Lc := 190) (av := [.ref (Q 0), .int (xs (x4 + 1).toNatClampNeg), .int (xs (x4 + 2).toNatClampNeg), .int (xs (x4 + 3).toNatClampNeg), .ref o]) (rest := []) C w hz (k_L_paid l hst D cy z N h (Q 0) o (xs (x4 + 1).toNatClampNeg) (xs (x4 + 2).toNatClampNeg) (xs (x4 + 3).toNatClampNeg) r g e1 hkx hko e2) e1 (mo_K_paid N h (Q 0) (xs (x4 + 1).toNatClampNeg) (xs (x4 + 2).toNatClampNeg) (xs (x4 + 3).toNatClampNeg) _ _ e1) e3 gw_40_18 gw_40_19 gw_8_22 gw_40_20 (by decide +kernel) ⟨Nat.le_of_ble_eq_true rfl, Nat.le_of_ble_eq_true rfl⟩ rfl hl.1 rfl (Nat.le_of_ble_eq_true rfl) dL_law_948 (fun kc h1 k H locs wr w => ?_)
  obtain ⟨m1, m2, v, h2, m3, m4, m5, m6⟩ := e4 kc h1 wr
  have m3 : f_M_paid N h1 mm (xs (x4 + 1).toNatClampNeg) (xs (x4 + 2).toNatClampNeg) (xs (x4 + 3).toNatClampNeg) = some (v, h2) := m3
  obtain ⟨-, hko2, hkm2, hB2⟩ := m6.top
  refine lv_istore (lv' := [(5, .int kc), (4, .int x4), (3, .ref o), (2, .ref mm), (1, .ref (Q 0)), (0, .ref b)]) hx hb dL_law_951 hl (by decide) rfl (fun ls hl => ?_)
  refine lv_aload_n hx hb dL_law_953 rfl (lv_at hl 3 rfl) ?_
  refine lw_rd hx hb hX hbl hz w (lv_at hl 5 rfl) (lv_at hl 1 rfl) (j := 1) (hin 1 (by decide)) dL_law_954 dL_law_955 dL_law_957 (by decide) dL_law_958 dL_law_959 ?_
  refine lw_rd hx hb hX hbl hz w (lv_at hl 5 rfl) (lv_at hl 1 rfl) (j := 2) (hin 2 (by decide)) dL_law_960 dL_law_961 dL_law_963 (by decide) dL_law_964 dL_law_965 ?_
  refine lw_rd hx hb hX hbl hz w (lv_at hl 5 rfl) (lv_at hl 1 rfl) (j := 3) (hin 3 (by decide)) dL_law_966 dL_law_967 dL_law_969 (by decide) dL_law_970 dL_law_971 ?_
  refine lw_V rJ (n := 3) (F := 8) (Lc := 220) (av := [.int (xs (x4 + 1).toNatClampNeg), .int (xs (x4 + 2).toNatClampNeg), .int (xs (x4 + 3).toNatClampNeg)]) (rest := []) (a := mm) C w hz rfl (by decide) m1 (k_M_paid l D cy z N h1 mm (xs (x4 + 1).toNatClampNeg) (xs (x4 + 2).toNatClampNeg) (xs (x4 + 3).toNatClampNeg) v h2 m3) (Or.inl rfl) (Or.inl rfl) (sh_M_paid N h1 mm (xs (x4 + 1).toNatClampNeg) (xs (x4 + 2).toNatClampNeg) (xs (x4 + 3).toNatClampNeg) _ _ m3).gr hB2 gw_41_13 gw_41_14 gw_41_15 gw_1_5 gw_41_16 (by decide +kernel) ⟨Nat.le_of_ble_eq_true rfl, Nat.le_of_ble_eq_true rfl⟩ rfl hl.1 rfl (Nat.le_of_ble_eq_true rfl) dL_law_972 (fun k H locs w => ?_)
  show W p l e room_1 s m #[Value.ref b] below meth c H locs k (h_s h2) Qp (F0 m 975 ls [.long v])
  refine lv_lstore (lv' := [(6, .long v), (5, .int kc), (4, .int x4), (3, .ref o), (2, .ref mm), (1, .ref (Q 0)), (0, .ref b)]) hx hb dL_law_975 hl (by decide) rfl (fun ls hl => ?_)
  refine lv_aload_n hx hb dL_law_977 rfl (lv_at hl 4 rfl) ?_
  have e9 : f_M_thrown N h2 mm = some (kc, h2) := by unfold f_M_thrown; rw [gI_k hkm2, m4]
  refine lw_V rI (n := 0) (F := 0) (Lc := 0) (av := []) (rest := []) (a := mm) C w hz rfl (by decide) hkm2 (k_M_thrown l D cy z N h2 mm kc h2 e9) (Or.inl rfl) (Or.inl rfl) (sh_M_thrown N h2 mm _ _ e9).gr hB2 gw_31_11 gw_31_12 gw_31_13 gw_1_5 gw_31_14 (by decide +kernel) ⟨Nat.le_of_ble_eq_true rfl, Nat.le_of_ble_eq_true rfl⟩ rfl hl.1 rfl (Nat.le_of_ble_eq_true rfl) dL_law_978 (fun k H locs w => ?_)
  show W p l e room_1 s m #[Value.ref b] below meth c H locs k (h_s h2) Qp (F0 m 981 ls [.int kc])
  refine lv_iload hx hb dL_law_981 (lv_at hl 1 rfl) ?_
  refine lv_icmp_eq (tgt := 988) hx hb dL_law_983 (by decide) (fun _ => ?_) (fun q => absurd rfl q)
  refine lv_iload hx hb dL_law_988 (lv_at hl 1 rfl) ?_
  refine lv_if_ne (tgt := 1004) hx hb dL_law_990 (by decide) (fun _ => ?_) (fun q0 => ?_)
  · exact lv_goto (tgt := 2554) hx hb dL_law_1004 (by decide) (NX h2 k H locs ls m6 w (lv_sub hl [2, 3, 4, 5, 6] rfl))
  · refine lv_aload_n hx hb dL_law_993 rfl (lv_at hl 3 rfl) ?_
    refine lv_iconst (v := 0) hx hb dL_law_994 (by decide) ?_
    have hu : aJ h2 (some o) (0 : Int32) (fun v => some v) = some (h_j h2 o 0) := by rw [show (0 : Int32) = iI ((0 : Nat) : Int) from rfl, aJ_i (n := 1) ⟨hko2.1, hko2.2.1⟩ (by omega) (by omega)]
    refine w_aJ (r := some o) C w dL_law_995 hu (fun v9 e9 => ?_)
    cases e9
    refine lv_lload hx hb dL_law_996 (lv_at hl 0 rfl) ?_
    refine W.lcmp hx hb dL_law_998 ?_
    refine lv_if_eq (tgt := 1004) hx hb dL_law_999 (by decide) (fun _ => ?_) (fun q => absurd (by rw [m5 q0]; exact lg_cmp_self _) q)
    exact lv_goto (tgt := 2554) hx hb dL_law_1004 (by decide) (NX h2 k H locs ls m6 w (lv_sub hl [2, 3, 4, 5, 6] rfl))
set_option maxRecDepth 20000 in
set_option maxHeartbeats 4000000 in
theorem lc_off (E : lwC p s m meth c b L xs z w0) (hst : l.stackTraces = false) (hN : 100000 ≤ N) (P : PJ Q A mm o (13 * z + 7293034) n h) (hn : n < 512) (w : wd D cy z s k h H locs) (hl : lv_has ls 8 [(4, .int x4), (3, .ref o), (2, .ref mm), (1, .ref (Q 0)), (0, .ref b)]) (hin : ∀ j : Int32, (j = 1 ∨ j = 2 ∨ j = 3 ∨ j = 4 ∨ j = 5) → vp_in (x4 + j) L) (NX : LN p l e s m b below meth c D cy z Q A mm o n x4 Qp) : W p l e room_1 s m #[Value.ref b] below meth c H locs k (h_s h) Qp (F0 m 1007 ls []) := by
  obtain ⟨C, hX, hbl, hz⟩ := E
  obtain ⟨hx, hb, -, -, hown, hts, -⟩ := id C
  obtain ⟨hkx, hko, hkm, hB0⟩ := P.top
  obtain ⟨r, g, e1, e2, e3, e4⟩ := op_off N hN P hn (xs (x4 + 1).toNatClampNeg) (xs (x4 + 2).toNatClampNeg) (xs (x4 + 3).toNatClampNeg)
  refine lv_aload_n hx hb dL_law_1007 rfl (lv_at hl 3 rfl) ?_
  refine lw_rd hx hb hX hbl hz w (lv_at hl 4 rfl) (lv_at hl 0 rfl) (j := 1) (hin 1 (by decide)) dL_law_1008 dL_law_1009 dL_law_1011 (by decide) dL_law_1012 dL_law_1013 ?_
  refine lw_rd hx hb hX hbl hz w (lv_at hl 4 rfl) (lv_at hl 0 rfl) (j := 2) (hin 2 (by decide)) dL_law_1014 dL_law_1015 dL_law_1017 (by decide) dL_law_1018 dL_law_1019 ?_
  refine lw_rd hx hb hX hbl hz w (lv_at hl 4 rfl) (lv_at hl 0 rfl) (j := 3) (hin 3 (by decide)) dL_law_1020 dL_law_1021 dL_law_1023 (by decide) dL_law_1024 dL_law_1025 ?_
  refine lv_aload_n hx hb dL_law_1026 rfl (lv_at hl 1 rfl) ?_
  refine lw_SL (n := 5) (F := 10) (Lc := 169) (av := [.ref (Q 0), .int (xs (x4 + 1).toNatClampNeg), .int (xs (x4 + 2).toNatClampNeg), .int (xs (x4 + 3).toNatClampNeg), .ref o]) (rest := []) C w hz (k_L_off l hst D cy z N h (Q 0) o (xs (x4 + 1).toNatClampNeg) (xs (x4 + 2).toNatClampNeg) (xs (x4 + 3).toNatClampNeg) r g e1 hkx hko e2) e1 (mo_K_off N h (Q 0) (xs (x4 + 1).toNatClampNeg) (xs (x4 + 2).toNatClampNeg) (xs (x4 + 3).toNatClampNeg) _ _ e1) e3 gw_41_18 gw_41_19 gw_8_22 gw_41_20 (by decide +kernel) ⟨Nat.le_of_ble_eq_true rfl, Nat.le_of_ble_eq_true rfl⟩ rfl hl.1 rfl (Nat.le_of_ble_eq_true rfl) dL_law_1027 (fun kc h1 k H locs wr w => ?_)
  obtain ⟨m1, m2, v, h2, m3, m4, m5, m6⟩ := e4 kc h1 wr
  have m3 : f_M_off N h1 mm (xs (x4 + 1).toNatClampNeg) (xs (x4 + 2).toNatClampNeg) (xs (x4 + 3).toNatClampNeg) = some (v, h2) := m3
  obtain ⟨-, hko2, hkm2, hB2⟩ := m6.top
  refine lv_istore (lv' := [(5, .int kc), (4, .int x4), (3, .ref o), (2, .ref mm), (1, .ref (Q 0)), (0, .ref b)]) hx hb dL_law_1030 hl (by decide) rfl (fun ls hl => ?_)
  refine lv_aload_n hx hb dL_law_1032 rfl (lv_at hl 3 rfl) ?_
  refine lw_rd hx hb hX hbl hz w (lv_at hl 5 rfl) (lv_at hl 1 rfl) (j := 1) (hin 1 (by decide)) dL_law_1033 dL_law_1034 dL_law_1036 (by decide) dL_law_1037 dL_law_1038 ?_
  refine lw_rd hx hb hX hbl hz w (lv_at hl 5 rfl) (lv_at hl 1 rfl) (j := 2) (hin 2 (by decide)) dL_law_1039 dL_law_1040 dL_law_1042 (by decide) dL_law_1043 dL_law_1044 ?_
  refine lw_rd hx hb hX hbl hz w (lv_at hl 5 rfl) (lv_at hl 1 rfl) (j := 3) (hin 3 (by decide)) dL_law_1045 dL_law_1046 dL_law_1048 (by decide) dL_law_1049 dL_law_1050 ?_
  refine lw_V rI (n := 3) (F := 7) (Lc := 193) (av := [.int (xs (x4 + 1).toNatClampNeg), .int (xs (x4 + 2).toNatClampNeg), .int (xs (x4 + 3).toNatClampNeg)]) (rest := []) (a := mm) C w hz rfl (by decide) m1 (k_M_off l D cy z N h1 mm (xs (x4 + 1).toNatClampNeg) (xs (x4 + 2).toNatClampNeg) (xs (x4 + 3).toNatClampNeg) v h2 m3) (Or.inl rfl) (Or.inl rfl) (sh_M_off N h1 mm (xs (x4 + 1).toNatClampNeg) (xs (x4 + 2).toNatClampNeg) (xs (x4 + 3).toNatClampNeg) _ _ m3).gr hB2 gw_42_5 gw_42_6 gw_42_7 gw_1_5 gw_42_8 (by decide +kernel) ⟨Nat.le_of_ble_eq_true rfl, Nat.le_of_ble_eq_true rfl⟩ rfl hl.1 rfl (Nat.le_of_ble_eq_true rfl) dL_law_1051 (fun k H locs w => ?_)
  show W p l e room_1 s m #[Value.ref b] below meth c H locs k (h_s h2) Qp (F0 m 1054 ls [.int v])
  refine lv_istore (lv' := [(6, .int v), (5, .int kc), (4, .int x4), (3, .ref o), (2, .ref mm), (1, .ref (Q 0)), (0, .ref b)]) hx hb dL_law_1054 hl (by decide) rfl (fun ls hl => ?_)
  refine lv_aload_n hx hb dL_law_1056 rfl (lv_at hl 4 rfl) ?_
  have e9 : f_M_thrown N h2 mm = some (kc, h2) := by unfold f_M_thrown; rw [gI_k hkm2, m4]
  refine lw_V rI (n := 0) (F := 0) (Lc := 0) (av := []) (rest := []) (a := mm) C w hz rfl (by decide) hkm2 (k_M_thrown l D cy z N h2 mm kc h2 e9) (Or.inl rfl) (Or.inl rfl) (sh_M_thrown N h2 mm _ _ e9).gr hB2 gw_31_11 gw_31_12 gw_31_13 gw_1_5 gw_31_14 (by decide +kernel) ⟨Nat.le_of_ble_eq_true rfl, Nat.le_of_ble_eq_true rfl⟩ rfl hl.1 rfl (Nat.le_of_ble_eq_true rfl) dL_law_1057 (fun k H locs w => ?_)
  show W p l e room_1 s m #[Value.ref b] below meth c H locs k (h_s h2) Qp (F0 m 1060 ls [.int kc])
  refine lv_iload hx hb dL_law_1060 (lv_at hl 1 rfl) ?_
  refine lv_icmp_eq (tgt := 1067) hx hb dL_law_1062 (by decide) (fun _ => ?_) (fun q => absurd rfl q)
  refine lv_iload hx hb dL_law_1067 (lv_at hl 1 rfl) ?_
  refine lv_if_ne (tgt := 1084) hx hb dL_law_1069 (by decide) (fun _ => ?_) (fun q0 => ?_)
  · exact lv_goto (tgt := 2554) hx hb dL_law_1084 (by decide) (NX h2 k H locs ls m6 w (lv_sub hl [2, 3, 4, 5, 6] rfl))
  · refine lv_aload_n hx hb dL_law_1072 rfl (lv_at hl 3 rfl) ?_
    refine lv_iconst (v := 0) hx hb dL_law_1073 (by decide) ?_
    have hu : aJ h2 (some o) (0 : Int32) (fun v => some v) = some (h_j h2 o 0) := by rw [show (0 : Int32) = iI ((0 : Nat) : Int) from rfl, aJ_i (n := 1) ⟨hko2.1, hko2.2.1⟩ (by omega) (by omega)]
    refine w_aJ (r := some o) C w dL_law_1074 hu (fun v9 e9 => ?_)
    cases e9
    refine lv_iload hx hb dL_law_1075 (lv_at hl 0 rfl) ?_
    refine lv_i2l hx hb dL_law_1077 rfl ?_
    refine W.lcmp hx hb dL_law_1078 ?_
    refine lv_if_eq (tgt := 1084) hx hb dL_law_1079 (by decide) (fun _ => ?_) (fun q => absurd (by rw [m5 q0]; exact lg_cmp_self _) q)
    exact lv_goto (tgt := 2554) hx hb dL_law_1084 (by decide) (NX h2 k H locs ls m6 w (lv_sub hl [2, 3, 4, 5, 6] rfl))
set_option maxRecDepth 20000 in
set_option maxHeartbeats 4000000 in
theorem lc_split (E : lwC p s m meth c b L xs z w0) (hst : l.stackTraces = false) (hN : 100000 ≤ N) (P : PJ Q A mm o (13 * z + 7293034) n h) (hn : n < 512) (w : wd D cy z s k h H locs) (hl : lv_has ls 8 [(4, .int x4), (3, .ref o), (2, .ref mm), (1, .ref (Q 0)), (0, .ref b)]) (hin : ∀ j : Int32, (j = 1 ∨ j = 2 ∨ j = 3 ∨ j = 4 ∨ j = 5) → vp_in (x4 + j) L) (NX : LN p l e s m b below meth c D cy z Q A mm o n x4 Qp) : W p l e room_1 s m #[Value.ref b] below meth c H locs k (h_s h) Qp (F0 m 1087 ls []) := by
  obtain ⟨C, hX, hbl, hz⟩ := E
  obtain ⟨hx, hb, -, -, hown, hts, -⟩ := id C
  obtain ⟨hkx, hko, hkm, hB0⟩ := P.top
  obtain ⟨r, g, e1, e2, e3, e4⟩ := op_split N hN P hn (xs (x4 + 1).toNatClampNeg) (xs (x4 + 2).toNatClampNeg) (xs (x4 + 3).toNatClampNeg)
  refine lv_aload_n hx hb dL_law_1087 rfl (lv_at hl 3 rfl) ?_
  refine lw_rd hx hb hX hbl hz w (lv_at hl 4 rfl) (lv_at hl 0 rfl) (j := 1) (hin 1 (by decide)) dL_law_1088 dL_law_1089 dL_law_1091 (by decide) dL_law_1092 dL_law_1093 ?_
  refine lw_rd hx hb hX hbl hz w (lv_at hl 4 rfl) (lv_at hl 0 rfl) (j := 2) (hin 2 (by decide)) dL_law_1094 dL_law_1095 dL_law_1097 (by decide) dL_law_1098 dL_law_1099 ?_
  refine lw_rd hx hb hX hbl hz w (lv_at hl 4 rfl) (lv_at hl 0 rfl) (j := 3) (hin 3 (by decide)) dL_law_1100 dL_law_1101 dL_law_1103 (by decide) dL_law_1104 dL_law_1105 ?_
  refine lv_aload_n hx hb dL_law_1106 rfl (lv_at hl 1 rfl) ?_
  refine lw_SL (n := 5) (F := 11) (Lc := 188) (av := [.ref (Q 0), .int (xs (x4 + 1).toNatClampNeg), .int (xs (x4 + 2).toNatClampNeg), .int (xs (x4 + 3).toNatClampNeg), .ref o]) (rest := []) C w hz (k_L_split l hst D cy z N h (Q 0) o (xs (x4 + 1).toNatClampNeg) (xs (x4 + 2).toNatClampNeg) (xs (x4 + 3).toNatClampNeg) r g e1 hkx hko e2) e1 (mo_K_split N h (Q 0) (xs (x4 + 1).toNatClampNeg) (xs (x4 + 2).toNatClampNeg) (xs (x4 + 3).toNatClampNeg) _ _ e1) e3 gw_42_11 gw_42_12 gw_8_22 gw_42_13 (by decide +kernel) ⟨Nat.le_of_ble_eq_true rfl, Nat.le_of_ble_eq_true rfl⟩ rfl hl.1 rfl (Nat.le_of_ble_eq_true rfl) dL_law_1107 (fun kc h1 k H locs wr w => ?_)
  obtain ⟨m1, m2, v, h2, m3, m4, m5, m6⟩ := e4 kc h1 wr
  have m3 : f_M_split N h1 mm (xs (x4 + 1).toNatClampNeg) (xs (x4 + 2).toNatClampNeg) (xs (x4 + 3).toNatClampNeg) = some (v, h2) := m3
  obtain ⟨-, hko2, hkm2, hB2⟩ := m6.top
  refine lv_istore (lv' := [(5, .int kc), (4, .int x4), (3, .ref o), (2, .ref mm), (1, .ref (Q 0)), (0, .ref b)]) hx hb dL_law_1110 hl (by decide) rfl (fun ls hl => ?_)
  refine lv_aload_n hx hb dL_law_1112 rfl (lv_at hl 3 rfl) ?_
  refine lw_rd hx hb hX hbl hz w (lv_at hl 5 rfl) (lv_at hl 1 rfl) (j := 1) (hin 1 (by decide)) dL_law_1113 dL_law_1114 dL_law_1116 (by decide) dL_law_1117 dL_law_1118 ?_
  refine lw_rd hx hb hX hbl hz w (lv_at hl 5 rfl) (lv_at hl 1 rfl) (j := 2) (hin 2 (by decide)) dL_law_1119 dL_law_1120 dL_law_1122 (by decide) dL_law_1123 dL_law_1124 ?_
  refine lw_rd hx hb hX hbl hz w (lv_at hl 5 rfl) (lv_at hl 1 rfl) (j := 3) (hin 3 (by decide)) dL_law_1125 dL_law_1126 dL_law_1128 (by decide) dL_law_1129 dL_law_1130 ?_
  refine lw_V rJ (n := 3) (F := 9) (Lc := 238) (av := [.int (xs (x4 + 1).toNatClampNeg), .int (xs (x4 + 2).toNatClampNeg), .int (xs (x4 + 3).toNatClampNeg)]) (rest := []) (a := mm) C w hz rfl (by decide) m1 (k_M_split l D cy z N h1 mm (xs (x4 + 1).toNatClampNeg) (xs (x4 + 2).toNatClampNeg) (xs (x4 + 3).toNatClampNeg) v h2 m3) (Or.inl rfl) (Or.inl rfl) (sh_M_split N h1 mm (xs (x4 + 1).toNatClampNeg) (xs (x4 + 2).toNatClampNeg) (xs (x4 + 3).toNatClampNeg) _ _ m3).gr hB2 gw_43_15 gw_43_16 gw_43_17 gw_1_5 gw_43_18 (by decide +kernel) ⟨Nat.le_of_ble_eq_true rfl, Nat.le_of_ble_eq_true rfl⟩ rfl hl.1 rfl (Nat.le_of_ble_eq_true rfl) dL_law_1131 (fun k H locs w => ?_)
  show W p l e room_1 s m #[Value.ref b] below meth c H locs k (h_s h2) Qp (F0 m 1134 ls [.long v])
  refine lv_lstore (lv' := [(6, .long v), (5, .int kc), (4, .int x4), (3, .ref o), (2, .ref mm), (1, .ref (Q 0)), (0, .ref b)]) hx hb dL_law_1134 hl (by decide) rfl (fun ls hl => ?_)
  refine lv_aload_n hx hb dL_law_1136 rfl (lv_at hl 4 rfl) ?_
  have e9 : f_M_thrown N h2 mm = some (kc, h2) := by unfold f_M_thrown; rw [gI_k hkm2, m4]
  refine lw_V rI (n := 0) (F := 0) (Lc := 0) (av := []) (rest := []) (a := mm) C w hz rfl (by decide) hkm2 (k_M_thrown l D cy z N h2 mm kc h2 e9) (Or.inl rfl) (Or.inl rfl) (sh_M_thrown N h2 mm _ _ e9).gr hB2 gw_31_11 gw_31_12 gw_31_13 gw_1_5 gw_31_14 (by decide +kernel) ⟨Nat.le_of_ble_eq_true rfl, Nat.le_of_ble_eq_true rfl⟩ rfl hl.1 rfl (Nat.le_of_ble_eq_true rfl) dL_law_1137 (fun k H locs w => ?_)
  show W p l e room_1 s m #[Value.ref b] below meth c H locs k (h_s h2) Qp (F0 m 1140 ls [.int kc])
  refine lv_iload hx hb dL_law_1140 (lv_at hl 1 rfl) ?_
  refine lv_icmp_eq (tgt := 1147) hx hb dL_law_1142 (by decide) (fun _ => ?_) (fun q => absurd rfl q)
  refine lv_iload hx hb dL_law_1147 (lv_at hl 1 rfl) ?_
  refine lv_if_ne (tgt := 1163) hx hb dL_law_1149 (by decide) (fun _ => ?_) (fun q0 => ?_)
  · exact lv_goto (tgt := 2554) hx hb dL_law_1163 (by decide) (NX h2 k H locs ls m6 w (lv_sub hl [2, 3, 4, 5, 6] rfl))
  · refine lv_aload_n hx hb dL_law_1152 rfl (lv_at hl 3 rfl) ?_
    refine lv_iconst (v := 0) hx hb dL_law_1153 (by decide) ?_
    have hu : aJ h2 (some o) (0 : Int32) (fun v => some v) = some (h_j h2 o 0) := by rw [show (0 : Int32) = iI ((0 : Nat) : Int) from rfl, aJ_i (n := 1) ⟨hko2.1, hko2.2.1⟩ (by omega) (by omega)]
    refine w_aJ (r := some o) C w dL_law_1154 hu (fun v9 e9 => ?_)
    cases e9
    refine lv_lload hx hb dL_law_1155 (lv_at hl 0 rfl) ?_
    refine W.lcmp hx hb dL_law_1157 ?_
    refine lv_if_eq (tgt := 1163) hx hb dL_law_1158 (by decide) (fun _ => ?_) (fun q => absurd (by rw [m5 q0]; exact lg_cmp_self _) q)
    exact lv_goto (tgt := 2554) hx hb dL_law_1163 (by decide) (NX h2 k H locs ls m6 w (lv_sub hl [2, 3, 4, 5, 6] rfl))
set_option maxRecDepth 20000 in
set_option maxHeartbeats 4000000 in
theorem lc_where (E : lwC p s m meth c b L xs z w0) (hst : l.stackTraces = false) (hN : 100000 ≤ N) (P : PJ Q A mm o (13 * z + 7293034) n h) (hn : n < 512) (w : wd D cy z s k h H locs) (hl : lv_has ls 8 [(4, .int x4), (3, .ref o), (2, .ref mm), (1, .ref (Q 0)), (0, .ref b)]) (hin : ∀ j : Int32, (j = 1 ∨ j = 2 ∨ j = 3 ∨ j = 4 ∨ j = 5) → vp_in (x4 + j) L) (NX : LN p l e s m b below meth c D cy z Q A mm o n x4 Qp) : W p l e room_1 s m #[Value.ref b] below meth c H locs k (h_s h) Qp (F0 m 1166 ls []) := by
  obtain ⟨C, hX, hbl, hz⟩ := E
  obtain ⟨hx, hb, -, -, hown, hts, -⟩ := id C
  obtain ⟨hkx, hko, hkm, hB0⟩ := P.top
  obtain ⟨r, g, e1, e2, e3, e4⟩ := op_where N hN P hn (xs (x4 + 1).toNatClampNeg) (xs (x4 + 2).toNatClampNeg) (xs (x4 + 3).toNatClampNeg)
  refine lv_aload_n hx hb dL_law_1166 rfl (lv_at hl 3 rfl) ?_
  refine lw_rd hx hb hX hbl hz w (lv_at hl 4 rfl) (lv_at hl 0 rfl) (j := 1) (hin 1 (by decide)) dL_law_1167 dL_law_1168 dL_law_1170 (by decide) dL_law_1171 dL_law_1172 ?_
  refine lw_rd hx hb hX hbl hz w (lv_at hl 4 rfl) (lv_at hl 0 rfl) (j := 2) (hin 2 (by decide)) dL_law_1173 dL_law_1174 dL_law_1176 (by decide) dL_law_1177 dL_law_1178 ?_
  refine lw_rd hx hb hX hbl hz w (lv_at hl 4 rfl) (lv_at hl 0 rfl) (j := 3) (hin 3 (by decide)) dL_law_1179 dL_law_1180 dL_law_1182 (by decide) dL_law_1183 dL_law_1184 ?_
  refine lv_aload_n hx hb dL_law_1185 rfl (lv_at hl 1 rfl) ?_
  refine lw_SL (n := 5) (F := 11) (Lc := 191) (av := [.ref (Q 0), .int (xs (x4 + 1).toNatClampNeg), .int (xs (x4 + 2).toNatClampNeg), .int (xs (x4 + 3).toNatClampNeg), .ref o]) (rest := []) C w hz (k_L_where l hst D cy z N h (Q 0) o (xs (x4 + 1).toNatClampNeg) (xs (x4 + 2).toNatClampNeg) (xs (x4 + 3).toNatClampNeg) r g e1 hkx hko e2) e1 (mo_K_where N h (Q 0) (xs (x4 + 1).toNatClampNeg) (xs (x4 + 2).toNatClampNeg) (xs (x4 + 3).toNatClampNeg) _ _ e1) e3 gw_45_1 gw_45_2 gw_8_22 gw_45_3 (by decide +kernel) ⟨Nat.le_of_ble_eq_true rfl, Nat.le_of_ble_eq_true rfl⟩ rfl hl.1 rfl (Nat.le_of_ble_eq_true rfl) dL_law_1186 (fun kc h1 k H locs wr w => ?_)
  obtain ⟨m1, m2, v, h2, m3, m4, m5, m6⟩ := e4 kc h1 wr
  have m3 : f_M_where N h1 mm (xs (x4 + 1).toNatClampNeg) (xs (x4 + 2).toNatClampNeg) (xs (x4 + 3).toNatClampNeg) = some (v, h2) := m3
  obtain ⟨-, hko2, hkm2, hB2⟩ := m6.top
  refine lv_istore (lv' := [(5, .int kc), (4, .int x4), (3, .ref o), (2, .ref mm), (1, .ref (Q 0)), (0, .ref b)]) hx hb dL_law_1189 hl (by decide) rfl (fun ls hl => ?_)
  refine lv_aload_n hx hb dL_law_1191 rfl (lv_at hl 3 rfl) ?_
  refine lw_rd hx hb hX hbl hz w (lv_at hl 5 rfl) (lv_at hl 1 rfl) (j := 1) (hin 1 (by decide)) dL_law_1192 dL_law_1193 dL_law_1195 (by decide) dL_law_1196 dL_law_1197 ?_
  refine lw_rd hx hb hX hbl hz w (lv_at hl 5 rfl) (lv_at hl 1 rfl) (j := 2) (hin 2 (by decide)) dL_law_1198 dL_law_1199 dL_law_1201 (by decide) dL_law_1202 dL_law_1203 ?_
  refine lw_rd hx hb hX hbl hz w (lv_at hl 5 rfl) (lv_at hl 1 rfl) (j := 3) (hin 3 (by decide)) dL_law_1204 dL_law_1205 dL_law_1207 (by decide) dL_law_1208 dL_law_1209 ?_
  refine lw_V rI (n := 3) (F := 9) (Lc := 238) (av := [.int (xs (x4 + 1).toNatClampNeg), .int (xs (x4 + 2).toNatClampNeg), .int (xs (x4 + 3).toNatClampNeg)]) (rest := []) (a := mm) C w hz rfl (by decide) m1 (k_M_where l D cy z N h1 mm (xs (x4 + 1).toNatClampNeg) (xs (x4 + 2).toNatClampNeg) (xs (x4 + 3).toNatClampNeg) v h2 m3) (Or.inl rfl) (Or.inl rfl) (sh_M_where N h1 mm (xs (x4 + 1).toNatClampNeg) (xs (x4 + 2).toNatClampNeg) (xs (x4 + 3).toNatClampNeg) _ _ m3).gr hB2 gw_45_9 gw_45_10 gw_45_11 gw_1_5 gw_45_12 (by decide +kernel) ⟨Nat.le_of_ble_eq_true rfl, Nat.le_of_ble_eq_true rfl⟩ rfl hl.1 rfl (Nat.le_of_ble_eq_true rfl) dL_law_1210 (fun k H locs w => ?_)
  show W p l e room_1 s m #[Value.ref b] below meth c H locs k (h_s h2) Qp (F0 m 1213 ls [.int v])
  refine lv_istore (lv' := [(6, .int v), (5, .int kc), (4, .int x4), (3, .ref o), (2, .ref mm), (1, .ref (Q 0)), (0, .ref b)]) hx hb dL_law_1213 hl (by decide) rfl (fun ls hl => ?_)
  refine lv_aload_n hx hb dL_law_1215 rfl (lv_at hl 4 rfl) ?_
  have e9 : f_M_thrown N h2 mm = some (kc, h2) := by unfold f_M_thrown; rw [gI_k hkm2, m4]
  refine lw_V rI (n := 0) (F := 0) (Lc := 0) (av := []) (rest := []) (a := mm) C w hz rfl (by decide) hkm2 (k_M_thrown l D cy z N h2 mm kc h2 e9) (Or.inl rfl) (Or.inl rfl) (sh_M_thrown N h2 mm _ _ e9).gr hB2 gw_31_11 gw_31_12 gw_31_13 gw_1_5 gw_31_14 (by decide +kernel) ⟨Nat.le_of_ble_eq_true rfl, Nat.le_of_ble_eq_true rfl⟩ rfl hl.1 rfl (Nat.le_of_ble_eq_true rfl) dL_law_1216 (fun k H locs w => ?_)
  show W p l e room_1 s m #[Value.ref b] below meth c H locs k (h_s h2) Qp (F0 m 1219 ls [.int kc])
  refine lv_iload hx hb dL_law_1219 (lv_at hl 1 rfl) ?_
  refine lv_icmp_eq (tgt := 1226) hx hb dL_law_1221 (by decide) (fun _ => ?_) (fun q => absurd rfl q)
  refine lv_iload hx hb dL_law_1226 (lv_at hl 1 rfl) ?_
  refine lv_if_ne (tgt := 1243) hx hb dL_law_1228 (by decide) (fun _ => ?_) (fun q0 => ?_)
  · exact lv_goto (tgt := 2554) hx hb dL_law_1243 (by decide) (NX h2 k H locs ls m6 w (lv_sub hl [2, 3, 4, 5, 6] rfl))
  · refine lv_aload_n hx hb dL_law_1231 rfl (lv_at hl 3 rfl) ?_
    refine lv_iconst (v := 0) hx hb dL_law_1232 (by decide) ?_
    have hu : aJ h2 (some o) (0 : Int32) (fun v => some v) = some (h_j h2 o 0) := by rw [show (0 : Int32) = iI ((0 : Nat) : Int) from rfl, aJ_i (n := 1) ⟨hko2.1, hko2.2.1⟩ (by omega) (by omega)]
    refine w_aJ (r := some o) C w dL_law_1233 hu (fun v9 e9 => ?_)
    cases e9
    refine lv_iload hx hb dL_law_1234 (lv_at hl 0 rfl) ?_
    refine lv_i2l hx hb dL_law_1236 rfl ?_
    refine W.lcmp hx hb dL_law_1237 ?_
    refine lv_if_eq (tgt := 1243) hx hb dL_law_1238 (by decide) (fun _ => ?_) (fun q => absurd (by rw [m5 q0]; exact lg_cmp_self _) q)
    exact lv_goto (tgt := 2554) hx hb dL_law_1243 (by decide) (NX h2 k H locs ls m6 w (lv_sub hl [2, 3, 4, 5, 6] rfl))
set_option maxRecDepth 20000 in
set_option maxHeartbeats 4000000 in
theorem lc_shared (E : lwC p s m meth c b L xs z w0) (hst : l.stackTraces = false) (hN : 100000 ≤ N) (P : PJ Q A mm o (13 * z + 7293034) n h) (hn : n < 512) (w : wd D cy z s k h H locs) (hl : lv_has ls 8 [(4, .int x4), (3, .ref o), (2, .ref mm), (1, .ref (Q 0)), (0, .ref b)]) (hin : ∀ j : Int32, (j = 1 ∨ j = 2 ∨ j = 3 ∨ j = 4 ∨ j = 5) → vp_in (x4 + j) L) (NX : LN p l e s m b below meth c D cy z Q A mm o n x4 Qp) : W p l e room_1 s m #[Value.ref b] below meth c H locs k (h_s h) Qp (F0 m 1246 ls []) := by
  obtain ⟨C, hX, hbl, hz⟩ := E
  obtain ⟨hx, hb, -, -, hown, hts, -⟩ := id C
  obtain ⟨hkx, hko, hkm, hB0⟩ := P.top
  obtain ⟨r, g, e1, e2, e3, e4⟩ := op_shared N hN P hn (xs (x4 + 1).toNatClampNeg) (xs (x4 + 2).toNatClampNeg)
  refine lv_aload_n hx hb dL_law_1246 rfl (lv_at hl 3 rfl) ?_
  refine lw_rd hx hb hX hbl hz w (lv_at hl 4 rfl) (lv_at hl 0 rfl) (j := 1) (hin 1 (by decide)) dL_law_1247 dL_law_1248 dL_law_1250 (by decide) dL_law_1251 dL_law_1252 ?_
  refine lw_rd hx hb hX hbl hz w (lv_at hl 4 rfl) (lv_at hl 0 rfl) (j := 2) (hin 2 (by decide)) dL_law_1253 dL_law_1254 dL_law_1256 (by decide) dL_law_1257 dL_law_1258 ?_
  refine lv_aload_n hx hb dL_law_1259 rfl (lv_at hl 1 rfl) ?_
  refine lw_SL (n := 4) (F := 10) (Lc := 168) (av := [.ref (Q 0), .int (xs (x4 + 1).toNatClampNeg), .int (xs (x4 + 2).toNatClampNeg), .ref o]) (rest := []) C w hz (k_L_shared l hst D cy z N h (Q 0) o (xs (x4 + 1).toNatClampNeg) (xs (x4 + 2).toNatClampNeg) r g e1 hkx hko e2) e1 (mo_K_shared N h (Q 0) (xs (x4 + 1).toNatClampNeg) (xs (x4 + 2).toNatClampNeg) _ _ e1) e3 gw_45_13 gw_45_14 gw_8_22 gw_45_15 (by decide +kernel) ⟨Nat.le_of_ble_eq_true rfl, Nat.le_of_ble_eq_true rfl⟩ rfl hl.1 rfl (Nat.le_of_ble_eq_true rfl) dL_law_1260 (fun kc h1 k H locs wr w => ?_)
  obtain ⟨m1, m2, v, h2, m3, m4, m5, m6⟩ := e4 kc h1 wr
  have m3 : f_M_shared N h1 mm (xs (x4 + 1).toNatClampNeg) (xs (x4 + 2).toNatClampNeg) = some (v, h2) := m3
  obtain ⟨-, hko2, hkm2, hB2⟩ := m6.top
  refine lv_istore (lv' := [(5, .int kc), (4, .int x4), (3, .ref o), (2, .ref mm), (1, .ref (Q 0)), (0, .ref b)]) hx hb dL_law_1263 hl (by decide) rfl (fun ls hl => ?_)
  refine lv_aload_n hx hb dL_law_1265 rfl (lv_at hl 3 rfl) ?_
  refine lw_rd hx hb hX hbl hz w (lv_at hl 5 rfl) (lv_at hl 1 rfl) (j := 1) (hin 1 (by decide)) dL_law_1266 dL_law_1267 dL_law_1269 (by decide) dL_law_1270 dL_law_1271 ?_
  refine lw_rd hx hb hX hbl hz w (lv_at hl 5 rfl) (lv_at hl 1 rfl) (j := 2) (hin 2 (by decide)) dL_law_1272 dL_law_1273 dL_law_1275 (by decide) dL_law_1276 dL_law_1277 ?_
  refine lw_V rJ (n := 2) (F := 7) (Lc := 193) (av := [.int (xs (x4 + 1).toNatClampNeg), .int (xs (x4 + 2).toNatClampNeg)]) (rest := []) (a := mm) C w hz rfl (by decide) m1 (k_M_shared l D cy z N h1 mm (xs (x4 + 1).toNatClampNeg) (xs (x4 + 2).toNatClampNeg) v h2 m3) (Or.inl rfl) (Or.inl rfl) (sh_M_shared N h1 mm (xs (x4 + 1).toNatClampNeg) (xs (x4 + 2).toNatClampNeg) _ _ m3).gr hB2 gw_45_20 gw_45_21 gw_45_22 gw_1_5 gw_45_23 (by decide +kernel) ⟨Nat.le_of_ble_eq_true rfl, Nat.le_of_ble_eq_true rfl⟩ rfl hl.1 rfl (Nat.le_of_ble_eq_true rfl) dL_law_1278 (fun k H locs w => ?_)
  show W p l e room_1 s m #[Value.ref b] below meth c H locs k (h_s h2) Qp (F0 m 1281 ls [.long v])
  refine lv_lstore (lv' := [(6, .long v), (5, .int kc), (4, .int x4), (3, .ref o), (2, .ref mm), (1, .ref (Q 0)), (0, .ref b)]) hx hb dL_law_1281 hl (by decide) rfl (fun ls hl => ?_)
  refine lv_aload_n hx hb dL_law_1283 rfl (lv_at hl 4 rfl) ?_
  have e9 : f_M_thrown N h2 mm = some (kc, h2) := by unfold f_M_thrown; rw [gI_k hkm2, m4]
  refine lw_V rI (n := 0) (F := 0) (Lc := 0) (av := []) (rest := []) (a := mm) C w hz rfl (by decide) hkm2 (k_M_thrown l D cy z N h2 mm kc h2 e9) (Or.inl rfl) (Or.inl rfl) (sh_M_thrown N h2 mm _ _ e9).gr hB2 gw_31_11 gw_31_12 gw_31_13 gw_1_5 gw_31_14 (by decide +kernel) ⟨Nat.le_of_ble_eq_true rfl, Nat.le_of_ble_eq_true rfl⟩ rfl hl.1 rfl (Nat.le_of_ble_eq_true rfl) dL_law_1284 (fun k H locs w => ?_)
  show W p l e room_1 s m #[Value.ref b] below meth c H locs k (h_s h2) Qp (F0 m 1287 ls [.int kc])
  refine lv_iload hx hb dL_law_1287 (lv_at hl 1 rfl) ?_
  refine lv_icmp_eq (tgt := 1294) hx hb dL_law_1289 (by decide) (fun _ => ?_) (fun q => absurd rfl q)
  refine lv_iload hx hb dL_law_1294 (lv_at hl 1 rfl) ?_
  refine lv_if_ne (tgt := 1310) hx hb dL_law_1296 (by decide) (fun _ => ?_) (fun q0 => ?_)
  · exact lv_goto (tgt := 2554) hx hb dL_law_1310 (by decide) (NX h2 k H locs ls m6 w (lv_sub hl [2, 3, 4, 5, 6] rfl))
  · refine lv_aload_n hx hb dL_law_1299 rfl (lv_at hl 3 rfl) ?_
    refine lv_iconst (v := 0) hx hb dL_law_1300 (by decide) ?_
    have hu : aJ h2 (some o) (0 : Int32) (fun v => some v) = some (h_j h2 o 0) := by rw [show (0 : Int32) = iI ((0 : Nat) : Int) from rfl, aJ_i (n := 1) ⟨hko2.1, hko2.2.1⟩ (by omega) (by omega)]
    refine w_aJ (r := some o) C w dL_law_1301 hu (fun v9 e9 => ?_)
    cases e9
    refine lv_lload hx hb dL_law_1302 (lv_at hl 0 rfl) ?_
    refine W.lcmp hx hb dL_law_1304 ?_
    refine lv_if_eq (tgt := 1310) hx hb dL_law_1305 (by decide) (fun _ => ?_) (fun q => absurd (by rw [m5 q0]; exact lg_cmp_self _) q)
    exact lv_goto (tgt := 2554) hx hb dL_law_1310 (by decide) (NX h2 k H locs ls m6 w (lv_sub hl [2, 3, 4, 5, 6] rfl))
set_option maxRecDepth 20000 in
set_option maxHeartbeats 4000000 in
theorem lc_stretch (E : lwC p s m meth c b L xs z w0) (hst : l.stackTraces = false) (hN : 100000 ≤ N) (P : PJ Q A mm o (13 * z + 7293034) n h) (hn : n < 512) (w : wd D cy z s k h H locs) (hl : lv_has ls 8 [(4, .int x4), (3, .ref o), (2, .ref mm), (1, .ref (Q 0)), (0, .ref b)]) (hin : ∀ j : Int32, (j = 1 ∨ j = 2 ∨ j = 3 ∨ j = 4 ∨ j = 5) → vp_in (x4 + j) L) (NX : LN p l e s m b below meth c D cy z Q A mm o n x4 Qp) : W p l e room_1 s m #[Value.ref b] below meth c H locs k (h_s h) Qp (F0 m 1313 ls []) := by
  obtain ⟨C, hX, hbl, hz⟩ := E
  obtain ⟨hx, hb, -, -, hown, hts, -⟩ := id C
  obtain ⟨hkx, hko, hkm, hB0⟩ := P.top
  obtain ⟨r, g, e1, e2, e3, e4⟩ := op_stretch N hN P hn (xs (x4 + 1).toNatClampNeg) (xs (x4 + 2).toNatClampNeg)
  refine lv_aload_n hx hb dL_law_1313 rfl (lv_at hl 3 rfl) ?_
  refine lw_rd hx hb hX hbl hz w (lv_at hl 4 rfl) (lv_at hl 0 rfl) (j := 1) (hin 1 (by decide)) dL_law_1314 dL_law_1315 dL_law_1317 (by decide) dL_law_1318 dL_law_1319 ?_
  refine lw_rd hx hb hX hbl hz w (lv_at hl 4 rfl) (lv_at hl 0 rfl) (j := 2) (hin 2 (by decide)) dL_law_1320 dL_law_1321 dL_law_1323 (by decide) dL_law_1324 dL_law_1325 ?_
  refine lv_aload_n hx hb dL_law_1326 rfl (lv_at hl 1 rfl) ?_
  refine lw_SL (n := 4) (F := 10) (Lc := 188) (av := [.ref (Q 0), .int (xs (x4 + 1).toNatClampNeg), .int (xs (x4 + 2).toNatClampNeg), .ref o]) (rest := []) C w hz (k_L_stretch l hst D cy z N h (Q 0) o (xs (x4 + 1).toNatClampNeg) (xs (x4 + 2).toNatClampNeg) r g e1 hkx hko e2) e1 (mo_K_stretch N h (Q 0) (xs (x4 + 1).toNatClampNeg) (xs (x4 + 2).toNatClampNeg) _ _ e1) e3 gw_46_1 gw_46_2 gw_8_22 gw_46_3 (by decide +kernel) ⟨Nat.le_of_ble_eq_true rfl, Nat.le_of_ble_eq_true rfl⟩ rfl hl.1 rfl (Nat.le_of_ble_eq_true rfl) dL_law_1327 (fun kc h1 k H locs wr w => ?_)
  obtain ⟨m1, m2, v, h2, m3, m4, m5, m6⟩ := e4 kc h1 wr
  have m3 : f_M_stretch N h1 mm (xs (x4 + 1).toNatClampNeg) (xs (x4 + 2).toNatClampNeg) = some (v, h2) := m3
  obtain ⟨-, hko2, hkm2, hB2⟩ := m6.top
  refine lv_istore (lv' := [(5, .int kc), (4, .int x4), (3, .ref o), (2, .ref mm), (1, .ref (Q 0)), (0, .ref b)]) hx hb dL_law_1330 hl (by decide) rfl (fun ls hl => ?_)
  refine lv_aload_n hx hb dL_law_1332 rfl (lv_at hl 3 rfl) ?_
  refine lw_rd hx hb hX hbl hz w (lv_at hl 5 rfl) (lv_at hl 1 rfl) (j := 1) (hin 1 (by decide)) dL_law_1333 dL_law_1334 dL_law_1336 (by decide) dL_law_1337 dL_law_1338 ?_
  refine lw_rd hx hb hX hbl hz w (lv_at hl 5 rfl) (lv_at hl 1 rfl) (j := 2) (hin 2 (by decide)) dL_law_1339 dL_law_1340 dL_law_1342 (by decide) dL_law_1343 dL_law_1344 ?_
  refine lw_V rI (n := 2) (F := 8) (Lc := 220) (av := [.int (xs (x4 + 1).toNatClampNeg), .int (xs (x4 + 2).toNatClampNeg)]) (rest := []) (a := mm) C w hz rfl (by decide) m1 (k_M_stretch l D cy z N h1 mm (xs (x4 + 1).toNatClampNeg) (xs (x4 + 2).toNatClampNeg) v h2 m3) (Or.inl rfl) (Or.inl rfl) (sh_M_stretch N h1 mm (xs (x4 + 1).toNatClampNeg) (xs (x4 + 2).toNatClampNeg) _ _ m3).gr hB2 gw_46_13 gw_46_14 gw_46_15 gw_1_5 gw_46_16 (by decide +kernel) ⟨Nat.le_of_ble_eq_true rfl, Nat.le_of_ble_eq_true rfl⟩ rfl hl.1 rfl (Nat.le_of_ble_eq_true rfl) dL_law_1345 (fun k H locs w => ?_)
  show W p l e room_1 s m #[Value.ref b] below meth c H locs k (h_s h2) Qp (F0 m 1348 ls [.int v])
  refine lv_istore (lv' := [(6, .int v), (5, .int kc), (4, .int x4), (3, .ref o), (2, .ref mm), (1, .ref (Q 0)), (0, .ref b)]) hx hb dL_law_1348 hl (by decide) rfl (fun ls hl => ?_)
  refine lv_aload_n hx hb dL_law_1350 rfl (lv_at hl 4 rfl) ?_
  have e9 : f_M_thrown N h2 mm = some (kc, h2) := by unfold f_M_thrown; rw [gI_k hkm2, m4]
  refine lw_V rI (n := 0) (F := 0) (Lc := 0) (av := []) (rest := []) (a := mm) C w hz rfl (by decide) hkm2 (k_M_thrown l D cy z N h2 mm kc h2 e9) (Or.inl rfl) (Or.inl rfl) (sh_M_thrown N h2 mm _ _ e9).gr hB2 gw_31_11 gw_31_12 gw_31_13 gw_1_5 gw_31_14 (by decide +kernel) ⟨Nat.le_of_ble_eq_true rfl, Nat.le_of_ble_eq_true rfl⟩ rfl hl.1 rfl (Nat.le_of_ble_eq_true rfl) dL_law_1351 (fun k H locs w => ?_)
  show W p l e room_1 s m #[Value.ref b] below meth c H locs k (h_s h2) Qp (F0 m 1354 ls [.int kc])
  refine lv_iload hx hb dL_law_1354 (lv_at hl 1 rfl) ?_
  refine lv_icmp_eq (tgt := 1361) hx hb dL_law_1356 (by decide) (fun _ => ?_) (fun q => absurd rfl q)
  refine lv_iload hx hb dL_law_1361 (lv_at hl 1 rfl) ?_
  refine lv_if_ne (tgt := 1378) hx hb dL_law_1363 (by decide) (fun _ => ?_) (fun q0 => ?_)
  · exact lv_goto (tgt := 2554) hx hb dL_law_1378 (by decide) (NX h2 k H locs ls m6 w (lv_sub hl [2, 3, 4, 5, 6] rfl))
  · refine lv_aload_n hx hb dL_law_1366 rfl (lv_at hl 3 rfl) ?_
    refine lv_iconst (v := 0) hx hb dL_law_1367 (by decide) ?_
    have hu : aJ h2 (some o) (0 : Int32) (fun v => some v) = some (h_j h2 o 0) := by rw [show (0 : Int32) = iI ((0 : Nat) : Int) from rfl, aJ_i (n := 1) ⟨hko2.1, hko2.2.1⟩ (by omega) (by omega)]
    refine w_aJ (r := some o) C w dL_law_1368 hu (fun v9 e9 => ?_)
    cases e9
    refine lv_iload hx hb dL_law_1369 (lv_at hl 0 rfl) ?_
    refine lv_i2l hx hb dL_law_1371 rfl ?_
    refine W.lcmp hx hb dL_law_1372 ?_
    refine lv_if_eq (tgt := 1378) hx hb dL_law_1373 (by decide) (fun _ => ?_) (fun q => absurd (by rw [m5 q0]; exact lg_cmp_self _) q)
    exact lv_goto (tgt := 2554) hx hb dL_law_1378 (by decide) (NX h2 k H locs ls m6 w (lv_sub hl [2, 3, 4, 5, 6] rfl))
set_option maxRecDepth 20000 in
set_option maxHeartbeats 4000000 in
theorem lc_leads (E : lwC p s m meth c b L xs z w0) (hst : l.stackTraces = false) (hN : 100000 ≤ N) (P : PJ Q A mm o (13 * z + 7293034) n h) (hn : n < 512) (w : wd D cy z s k h H locs) (hl : lv_has ls 8 [(4, .int x4), (3, .ref o), (2, .ref mm), (1, .ref (Q 0)), (0, .ref b)]) (hin : ∀ j : Int32, (j = 1 ∨ j = 2 ∨ j = 3 ∨ j = 4 ∨ j = 5) → vp_in (x4 + j) L) (NX : LN p l e s m b below meth c D cy z Q A mm o n x4 Qp) : W p l e room_1 s m #[Value.ref b] below meth c H locs k (h_s h) Qp (F0 m 1381 ls []) := by
  obtain ⟨C, hX, hbl, hz⟩ := E
  obtain ⟨hx, hb, -, -, hown, hts, -⟩ := id C
  obtain ⟨hkx, hko, hkm, hB0⟩ := P.top
  obtain ⟨r, g, e1, e2, e3, e4⟩ := op_leads N hN P hn (xs (x4 + 1).toNatClampNeg) (xs (x4 + 2).toNatClampNeg) (xs (x4 + 3).toNatClampNeg)
  refine lv_aload_n hx hb dL_law_1381 rfl (lv_at hl 3 rfl) ?_
  refine lw_rd hx hb hX hbl hz w (lv_at hl 4 rfl) (lv_at hl 0 rfl) (j := 1) (hin 1 (by decide)) dL_law_1382 dL_law_1383 dL_law_1385 (by decide) dL_law_1386 dL_law_1387 ?_
  refine lw_rd hx hb hX hbl hz w (lv_at hl 4 rfl) (lv_at hl 0 rfl) (j := 2) (hin 2 (by decide)) dL_law_1388 dL_law_1389 dL_law_1391 (by decide) dL_law_1392 dL_law_1393 ?_
  refine lw_rd hx hb hX hbl hz w (lv_at hl 4 rfl) (lv_at hl 0 rfl) (j := 3) (hin 3 (by decide)) dL_law_1394 dL_law_1395 dL_law_1397 (by decide) dL_law_1398 dL_law_1399 ?_
  refine lv_aload_n hx hb dL_law_1400 rfl (lv_at hl 1 rfl) ?_
  refine lw_SL (n := 5) (F := 10) (Lc := 169) (av := [.ref (Q 0), .int (xs (x4 + 1).toNatClampNeg), .int (xs (x4 + 2).toNatClampNeg), .int (xs (x4 + 3).toNatClampNeg), .ref o]) (rest := []) C w hz (k_L_leads l hst D cy z N h (Q 0) o (xs (x4 + 1).toNatClampNeg) (xs (x4 + 2).toNatClampNeg) (xs (x4 + 3).toNatClampNeg) r g e1 hkx hko e2) e1 (mo_K_leads N h (Q 0) (xs (x4 + 1).toNatClampNeg) (xs (x4 + 2).toNatClampNeg) (xs (x4 + 3).toNatClampNeg) _ _ e1) e3 gw_46_17 gw_46_18 gw_8_22 gw_46_19 (by decide +kernel) ⟨Nat.le_of_ble_eq_true rfl, Nat.le_of_ble_eq_true rfl⟩ rfl hl.1 rfl (Nat.le_of_ble_eq_true rfl) dL_law_1401 (fun kc h1 k H locs wr w => ?_)
  obtain ⟨m1, m2, v, h2, m3, m4, m5, m6⟩ := e4 kc h1 wr
  have m3 : f_M_leads N h1 mm (xs (x4 + 1).toNatClampNeg) (xs (x4 + 2).toNatClampNeg) (xs (x4 + 3).toNatClampNeg) = some (v, h2) := m3
  obtain ⟨-, hko2, hkm2, hB2⟩ := m6.top
  refine lv_istore (lv' := [(5, .int kc), (4, .int x4), (3, .ref o), (2, .ref mm), (1, .ref (Q 0)), (0, .ref b)]) hx hb dL_law_1404 hl (by decide) rfl (fun ls hl => ?_)
  refine lv_aload_n hx hb dL_law_1406 rfl (lv_at hl 3 rfl) ?_
  refine lw_rd hx hb hX hbl hz w (lv_at hl 5 rfl) (lv_at hl 1 rfl) (j := 1) (hin 1 (by decide)) dL_law_1407 dL_law_1408 dL_law_1410 (by decide) dL_law_1411 dL_law_1412 ?_
  refine lw_rd hx hb hX hbl hz w (lv_at hl 5 rfl) (lv_at hl 1 rfl) (j := 2) (hin 2 (by decide)) dL_law_1413 dL_law_1414 dL_law_1416 (by decide) dL_law_1417 dL_law_1418 ?_
  refine lw_rd hx hb hX hbl hz w (lv_at hl 5 rfl) (lv_at hl 1 rfl) (j := 3) (hin 3 (by decide)) dL_law_1419 dL_law_1420 dL_law_1422 (by decide) dL_law_1423 dL_law_1424 ?_
  refine lw_V rI (n := 3) (F := 9) (Lc := 237) (av := [.int (xs (x4 + 1).toNatClampNeg), .int (xs (x4 + 2).toNatClampNeg), .int (xs (x4 + 3).toNatClampNeg)]) (rest := []) (a := mm) C w hz rfl (by decide) m1 (k_M_leads l D cy z N h1 mm (xs (x4 + 1).toNatClampNeg) (xs (x4 + 2).toNatClampNeg) (xs (x4 + 3).toNatClampNeg) v h2 m3) (Or.inl rfl) (Or.inl rfl) (sh_M_leads N h1 mm (xs (x4 + 1).toNatClampNeg) (xs (x4 + 2).toNatClampNeg) (xs (x4 + 3).toNatClampNeg) _ _ m3).gr hB2 gw_47_22 gw_47_23 gw_48_0 gw_1_5 gw_48_1 (by decide +kernel) ⟨Nat.le_of_ble_eq_true rfl, Nat.le_of_ble_eq_true rfl⟩ rfl hl.1 rfl (Nat.le_of_ble_eq_true rfl) dL_law_1425 (fun k H locs w => ?_)
  show W p l e room_1 s m #[Value.ref b] below meth c H locs k (h_s h2) Qp (F0 m 1428 ls [.int v])
  refine lv_istore (lv' := [(6, .int v), (5, .int kc), (4, .int x4), (3, .ref o), (2, .ref mm), (1, .ref (Q 0)), (0, .ref b)]) hx hb dL_law_1428 hl (by decide) rfl (fun ls hl => ?_)
  refine lv_aload_n hx hb dL_law_1430 rfl (lv_at hl 4 rfl) ?_
  have e9 : f_M_thrown N h2 mm = some (kc, h2) := by unfold f_M_thrown; rw [gI_k hkm2, m4]
  refine lw_V rI (n := 0) (F := 0) (Lc := 0) (av := []) (rest := []) (a := mm) C w hz rfl (by decide) hkm2 (k_M_thrown l D cy z N h2 mm kc h2 e9) (Or.inl rfl) (Or.inl rfl) (sh_M_thrown N h2 mm _ _ e9).gr hB2 gw_31_11 gw_31_12 gw_31_13 gw_1_5 gw_31_14 (by decide +kernel) ⟨Nat.le_of_ble_eq_true rfl, Nat.le_of_ble_eq_true rfl⟩ rfl hl.1 rfl (Nat.le_of_ble_eq_true rfl) dL_law_1431 (fun k H locs w => ?_)
  show W p l e room_1 s m #[Value.ref b] below meth c H locs k (h_s h2) Qp (F0 m 1434 ls [.int kc])
  refine lv_iload hx hb dL_law_1434 (lv_at hl 1 rfl) ?_
  refine lv_icmp_eq (tgt := 1441) hx hb dL_law_1436 (by decide) (fun _ => ?_) (fun q => absurd rfl q)
  refine lv_iload hx hb dL_law_1441 (lv_at hl 1 rfl) ?_
  refine lv_if_ne (tgt := 1458) hx hb dL_law_1443 (by decide) (fun _ => ?_) (fun q0 => ?_)
  · exact lv_goto (tgt := 2554) hx hb dL_law_1458 (by decide) (NX h2 k H locs ls m6 w (lv_sub hl [2, 3, 4, 5, 6] rfl))
  · refine lv_aload_n hx hb dL_law_1446 rfl (lv_at hl 3 rfl) ?_
    refine lv_iconst (v := 0) hx hb dL_law_1447 (by decide) ?_
    have hu : aJ h2 (some o) (0 : Int32) (fun v => some v) = some (h_j h2 o 0) := by rw [show (0 : Int32) = iI ((0 : Nat) : Int) from rfl, aJ_i (n := 1) ⟨hko2.1, hko2.2.1⟩ (by omega) (by omega)]
    refine w_aJ (r := some o) C w dL_law_1448 hu (fun v9 e9 => ?_)
    cases e9
    refine lv_iload hx hb dL_law_1449 (lv_at hl 0 rfl) ?_
    refine lv_i2l hx hb dL_law_1451 rfl ?_
    refine W.lcmp hx hb dL_law_1452 ?_
    refine lv_if_eq (tgt := 1458) hx hb dL_law_1453 (by decide) (fun _ => ?_) (fun q => absurd (by rw [m5 q0]; exact lg_cmp_self _) q)
    exact lv_goto (tgt := 2554) hx hb dL_law_1458 (by decide) (NX h2 k H locs ls m6 w (lv_sub hl [2, 3, 4, 5, 6] rfl))
set_option maxRecDepth 20000 in
set_option maxHeartbeats 4000000 in
theorem lc_against (E : lwC p s m meth c b L xs z w0) (hst : l.stackTraces = false) (hN : 100000 ≤ N) (P : PJ Q A mm o (13 * z + 7293034) n h) (hn : n < 512) (w : wd D cy z s k h H locs) (hl : lv_has ls 8 [(4, .int x4), (3, .ref o), (2, .ref mm), (1, .ref (Q 0)), (0, .ref b)]) (hin : ∀ j : Int32, (j = 1 ∨ j = 2 ∨ j = 3 ∨ j = 4 ∨ j = 5) → vp_in (x4 + j) L) (NX : LN p l e s m b below meth c D cy z Q A mm o n x4 Qp) : W p l e room_1 s m #[Value.ref b] below meth c H locs k (h_s h) Qp (F0 m 1461 ls []) := by
  obtain ⟨C, hX, hbl, hz⟩ := E
  obtain ⟨hx, hb, -, -, hown, hts, -⟩ := id C
  obtain ⟨hkx, hko, hkm, hB0⟩ := P.top
  obtain ⟨r, g, e1, e2, e3, e4⟩ := op_against N hN P hn (xs (x4 + 1).toNatClampNeg) (xs (x4 + 2).toNatClampNeg) (xs (x4 + 3).toNatClampNeg)
  refine lv_aload_n hx hb dL_law_1461 rfl (lv_at hl 3 rfl) ?_
  refine lw_rd hx hb hX hbl hz w (lv_at hl 4 rfl) (lv_at hl 0 rfl) (j := 1) (hin 1 (by decide)) dL_law_1462 dL_law_1463 dL_law_1465 (by decide) dL_law_1466 dL_law_1467 ?_
  refine lw_rd hx hb hX hbl hz w (lv_at hl 4 rfl) (lv_at hl 0 rfl) (j := 2) (hin 2 (by decide)) dL_law_1468 dL_law_1469 dL_law_1471 (by decide) dL_law_1472 dL_law_1473 ?_
  refine lw_rd hx hb hX hbl hz w (lv_at hl 4 rfl) (lv_at hl 0 rfl) (j := 3) (hin 3 (by decide)) dL_law_1474 dL_law_1475 dL_law_1477 (by decide) dL_law_1478 dL_law_1479 ?_
  refine lv_aload_n hx hb dL_law_1480 rfl (lv_at hl 1 rfl) ?_
  refine lw_SL (n := 5) (F := 10) (Lc := 168) (av := [.ref (Q 0), .int (xs (x4 + 1).toNatClampNeg), .int (xs (x4 + 2).toNatClampNeg), .int (xs (x4 + 3).toNatClampNeg), .ref o]) (rest := []) C w hz (k_L_against l hst D cy z N h (Q 0) o (xs (x4 + 1).toNatClampNeg) (xs (x4 + 2).toNatClampNeg) (xs (x4 + 3).toNatClampNeg) r g e1 hkx hko e2) e1 (mo_K_against N h (Q 0) (xs (x4 + 1).toNatClampNeg) (xs (x4 + 2).toNatClampNeg) (xs (x4 + 3).toNatClampNeg) _ _ e1) e3 gw_48_9 gw_48_10 gw_8_22 gw_48_11 (by decide +kernel) ⟨Nat.le_of_ble_eq_true rfl, Nat.le_of_ble_eq_true rfl⟩ rfl hl.1 rfl (Nat.le_of_ble_eq_true rfl) dL_law_1481 (fun kc h1 k H locs wr w => ?_)
  obtain ⟨m1, m2, v, h2, m3, m4, m5, m6⟩ := e4 kc h1 wr
  have m3 : f_M_against N h1 mm (xs (x4 + 1).toNatClampNeg) (xs (x4 + 2).toNatClampNeg) (xs (x4 + 3).toNatClampNeg) = some (v, h2) := m3
  obtain ⟨-, hko2, hkm2, hB2⟩ := m6.top
  refine lv_istore (lv' := [(5, .int kc), (4, .int x4), (3, .ref o), (2, .ref mm), (1, .ref (Q 0)), (0, .ref b)]) hx hb dL_law_1484 hl (by decide) rfl (fun ls hl => ?_)
  refine lv_aload_n hx hb dL_law_1486 rfl (lv_at hl 3 rfl) ?_
  refine lw_rd hx hb hX hbl hz w (lv_at hl 5 rfl) (lv_at hl 1 rfl) (j := 1) (hin 1 (by decide)) dL_law_1487 dL_law_1488 dL_law_1490 (by decide) dL_law_1491 dL_law_1492 ?_
  refine lw_rd hx hb hX hbl hz w (lv_at hl 5 rfl) (lv_at hl 1 rfl) (j := 2) (hin 2 (by decide)) dL_law_1493 dL_law_1494 dL_law_1496 (by decide) dL_law_1497 dL_law_1498 ?_
  refine lw_rd hx hb hX hbl hz w (lv_at hl 5 rfl) (lv_at hl 1 rfl) (j := 3) (hin 3 (by decide)) dL_law_1499 dL_law_1500 dL_law_1502 (by decide) dL_law_1503 dL_law_1504 ?_
  refine lw_V rJ (n := 3) (F := 7) (Lc := 193) (av := [.int (xs (x4 + 1).toNatClampNeg), .int (xs (x4 + 2).toNatClampNeg), .int (xs (x4 + 3).toNatClampNeg)]) (rest := []) (a := mm) C w hz rfl (by decide) m1 (k_M_against l D cy z N h1 mm (xs (x4 + 1).toNatClampNeg) (xs (x4 + 2).toNatClampNeg) (xs (x4 + 3).toNatClampNeg) v h2 m3) (Or.inl rfl) (Or.inl rfl) (sh_M_against N h1 mm (xs (x4 + 1).toNatClampNeg) (xs (x4 + 2).toNatClampNeg) (xs (x4 + 3).toNatClampNeg) _ _ m3).gr hB2 gw_48_17 gw_48_18 gw_48_19 gw_1_5 gw_48_20 (by decide +kernel) ⟨Nat.le_of_ble_eq_true rfl, Nat.le_of_ble_eq_true rfl⟩ rfl hl.1 rfl (Nat.le_of_ble_eq_true rfl) dL_law_1505 (fun k H locs w => ?_)
  show W p l e room_1 s m #[Value.ref b] below meth c H locs k (h_s h2) Qp (F0 m 1508 ls [.long v])
  refine lv_lstore (lv' := [(6, .long v), (5, .int kc), (4, .int x4), (3, .ref o), (2, .ref mm), (1, .ref (Q 0)), (0, .ref b)]) hx hb dL_law_1508 hl (by decide) rfl (fun ls hl => ?_)
  refine lv_aload_n hx hb dL_law_1510 rfl (lv_at hl 4 rfl) ?_
  have e9 : f_M_thrown N h2 mm = some (kc, h2) := by unfold f_M_thrown; rw [gI_k hkm2, m4]
  refine lw_V rI (n := 0) (F := 0) (Lc := 0) (av := []) (rest := []) (a := mm) C w hz rfl (by decide) hkm2 (k_M_thrown l D cy z N h2 mm kc h2 e9) (Or.inl rfl) (Or.inl rfl) (sh_M_thrown N h2 mm _ _ e9).gr hB2 gw_31_11 gw_31_12 gw_31_13 gw_1_5 gw_31_14 (by decide +kernel) ⟨Nat.le_of_ble_eq_true rfl, Nat.le_of_ble_eq_true rfl⟩ rfl hl.1 rfl (Nat.le_of_ble_eq_true rfl) dL_law_1511 (fun k H locs w => ?_)
  show W p l e room_1 s m #[Value.ref b] below meth c H locs k (h_s h2) Qp (F0 m 1514 ls [.int kc])
  refine lv_iload hx hb dL_law_1514 (lv_at hl 1 rfl) ?_
  refine lv_icmp_eq (tgt := 1521) hx hb dL_law_1516 (by decide) (fun _ => ?_) (fun q => absurd rfl q)
  refine lv_iload hx hb dL_law_1521 (lv_at hl 1 rfl) ?_
  refine lv_if_ne (tgt := 1537) hx hb dL_law_1523 (by decide) (fun _ => ?_) (fun q0 => ?_)
  · exact lv_goto (tgt := 2554) hx hb dL_law_1537 (by decide) (NX h2 k H locs ls m6 w (lv_sub hl [2, 3, 4, 5, 6] rfl))
  · refine lv_aload_n hx hb dL_law_1526 rfl (lv_at hl 3 rfl) ?_
    refine lv_iconst (v := 0) hx hb dL_law_1527 (by decide) ?_
    have hu : aJ h2 (some o) (0 : Int32) (fun v => some v) = some (h_j h2 o 0) := by rw [show (0 : Int32) = iI ((0 : Nat) : Int) from rfl, aJ_i (n := 1) ⟨hko2.1, hko2.2.1⟩ (by omega) (by omega)]
    refine w_aJ (r := some o) C w dL_law_1528 hu (fun v9 e9 => ?_)
    cases e9
    refine lv_lload hx hb dL_law_1529 (lv_at hl 0 rfl) ?_
    refine W.lcmp hx hb dL_law_1531 ?_
    refine lv_if_eq (tgt := 1537) hx hb dL_law_1532 (by decide) (fun _ => ?_) (fun q => absurd (by rw [m5 q0]; exact lg_cmp_self _) q)
    exact lv_goto (tgt := 2554) hx hb dL_law_1537 (by decide) (NX h2 k H locs ls m6 w (lv_sub hl [2, 3, 4, 5, 6] rfl))
set_option maxRecDepth 20000 in
set_option maxHeartbeats 4000000 in
theorem lc_meet (E : lwC p s m meth c b L xs z w0) (hst : l.stackTraces = false) (hN : 100000 ≤ N) (P : PJ Q A mm o (13 * z + 7293034) n h) (hn : n < 512) (w : wd D cy z s k h H locs) (hl : lv_has ls 8 [(4, .int x4), (3, .ref o), (2, .ref mm), (1, .ref (Q 0)), (0, .ref b)]) (hin : ∀ j : Int32, (j = 1 ∨ j = 2 ∨ j = 3 ∨ j = 4 ∨ j = 5) → vp_in (x4 + j) L) (NX : LN p l e s m b below meth c D cy z Q A mm o n x4 Qp) : W p l e room_1 s m #[Value.ref b] below meth c H locs k (h_s h) Qp (F0 m 1540 ls []) := by
  obtain ⟨C, hX, hbl, hz⟩ := E
  obtain ⟨hx, hb, -, -, hown, hts, -⟩ := id C
  obtain ⟨hkx, hko, hkm, hB0⟩ := P.top
  obtain ⟨r, g, e1, e2, e3, e4⟩ := op_meet N hN P hn (xs (x4 + 1).toNatClampNeg) (xs (x4 + 2).toNatClampNeg)
  refine lv_aload_n hx hb dL_law_1540 rfl (lv_at hl 3 rfl) ?_
  refine lw_rd hx hb hX hbl hz w (lv_at hl 4 rfl) (lv_at hl 0 rfl) (j := 1) (hin 1 (by decide)) dL_law_1541 dL_law_1542 dL_law_1544 (by decide) dL_law_1545 dL_law_1546 ?_
  refine lw_rd hx hb hX hbl hz w (lv_at hl 4 rfl) (lv_at hl 0 rfl) (j := 2) (hin 2 (by decide)) dL_law_1547 dL_law_1548 dL_law_1550 (by decide) dL_law_1551 dL_law_1552 ?_
  refine lv_aload_n hx hb dL_law_1553 rfl (lv_at hl 1 rfl) ?_
  refine lw_SL (n := 4) (F := 10) (Lc := 167) (av := [.ref (Q 0), .int (xs (x4 + 1).toNatClampNeg), .int (xs (x4 + 2).toNatClampNeg), .ref o]) (rest := []) C w hz (k_L_meet l hst D cy z N h (Q 0) o (xs (x4 + 1).toNatClampNeg) (xs (x4 + 2).toNatClampNeg) r g e1 hkx hko e2) e1 (mo_K_meet N h (Q 0) (xs (x4 + 1).toNatClampNeg) (xs (x4 + 2).toNatClampNeg) _ _ e1) e3 gw_49_9 gw_49_10 gw_8_22 gw_49_11 (by decide +kernel) ⟨Nat.le_of_ble_eq_true rfl, Nat.le_of_ble_eq_true rfl⟩ rfl hl.1 rfl (Nat.le_of_ble_eq_true rfl) dL_law_1554 (fun kc h1 k H locs wr w => ?_)
  obtain ⟨m1, m2, v, h2, m3, m4, m5, m6⟩ := e4 kc h1 wr
  have m3 : f_M_meet N h1 mm (xs (x4 + 1).toNatClampNeg) (xs (x4 + 2).toNatClampNeg) = some (v, h2) := m3
  obtain ⟨-, hko2, hkm2, hB2⟩ := m6.top
  refine lv_istore (lv' := [(5, .int kc), (4, .int x4), (3, .ref o), (2, .ref mm), (1, .ref (Q 0)), (0, .ref b)]) hx hb dL_law_1557 hl (by decide) rfl (fun ls hl => ?_)
  refine lv_aload_n hx hb dL_law_1559 rfl (lv_at hl 3 rfl) ?_
  refine lw_rd hx hb hX hbl hz w (lv_at hl 5 rfl) (lv_at hl 1 rfl) (j := 1) (hin 1 (by decide)) dL_law_1560 dL_law_1561 dL_law_1563 (by decide) dL_law_1564 dL_law_1565 ?_
  refine lw_rd hx hb hX hbl hz w (lv_at hl 5 rfl) (lv_at hl 1 rfl) (j := 2) (hin 2 (by decide)) dL_law_1566 dL_law_1567 dL_law_1569 (by decide) dL_law_1570 dL_law_1571 ?_
  refine lw_V rI (n := 2) (F := 9) (Lc := 237) (av := [.int (xs (x4 + 1).toNatClampNeg), .int (xs (x4 + 2).toNatClampNeg)]) (rest := []) (a := mm) C w hz rfl (by decide) m1 (k_M_meet l D cy z N h1 mm (xs (x4 + 1).toNatClampNeg) (xs (x4 + 2).toNatClampNeg) v h2 m3) (Or.inl rfl) (Or.inl rfl) (sh_M_meet N h1 mm (xs (x4 + 1).toNatClampNeg) (xs (x4 + 2).toNatClampNeg) _ _ m3).gr hB2 gw_49_17 gw_49_18 gw_49_19 gw_1_5 gw_49_20 (by decide +kernel) ⟨Nat.le_of_ble_eq_true rfl, Nat.le_of_ble_eq_true rfl⟩ rfl hl.1 rfl (Nat.le_of_ble_eq_true rfl) dL_law_1572 (fun k H locs w => ?_)
  show W p l e room_1 s m #[Value.ref b] below meth c H locs k (h_s h2) Qp (F0 m 1575 ls [.int v])
  refine lv_istore (lv' := [(6, .int v), (5, .int kc), (4, .int x4), (3, .ref o), (2, .ref mm), (1, .ref (Q 0)), (0, .ref b)]) hx hb dL_law_1575 hl (by decide) rfl (fun ls hl => ?_)
  refine lv_aload_n hx hb dL_law_1577 rfl (lv_at hl 4 rfl) ?_
  have e9 : f_M_thrown N h2 mm = some (kc, h2) := by unfold f_M_thrown; rw [gI_k hkm2, m4]
  refine lw_V rI (n := 0) (F := 0) (Lc := 0) (av := []) (rest := []) (a := mm) C w hz rfl (by decide) hkm2 (k_M_thrown l D cy z N h2 mm kc h2 e9) (Or.inl rfl) (Or.inl rfl) (sh_M_thrown N h2 mm _ _ e9).gr hB2 gw_31_11 gw_31_12 gw_31_13 gw_1_5 gw_31_14 (by decide +kernel) ⟨Nat.le_of_ble_eq_true rfl, Nat.le_of_ble_eq_true rfl⟩ rfl hl.1 rfl (Nat.le_of_ble_eq_true rfl) dL_law_1578 (fun k H locs w => ?_)
  show W p l e room_1 s m #[Value.ref b] below meth c H locs k (h_s h2) Qp (F0 m 1581 ls [.int kc])
  refine lv_iload hx hb dL_law_1581 (lv_at hl 1 rfl) ?_
  refine lv_icmp_eq (tgt := 1588) hx hb dL_law_1583 (by decide) (fun _ => ?_) (fun q => absurd rfl q)
  refine lv_iload hx hb dL_law_1588 (lv_at hl 1 rfl) ?_
  refine lv_if_ne (tgt := 1605) hx hb dL_law_1590 (by decide) (fun _ => ?_) (fun q0 => ?_)
  · exact lv_goto (tgt := 2554) hx hb dL_law_1605 (by decide) (NX h2 k H locs ls m6 w (lv_sub hl [2, 3, 4, 5, 6] rfl))
  · refine lv_aload_n hx hb dL_law_1593 rfl (lv_at hl 3 rfl) ?_
    refine lv_iconst (v := 0) hx hb dL_law_1594 (by decide) ?_
    have hu : aJ h2 (some o) (0 : Int32) (fun v => some v) = some (h_j h2 o 0) := by rw [show (0 : Int32) = iI ((0 : Nat) : Int) from rfl, aJ_i (n := 1) ⟨hko2.1, hko2.2.1⟩ (by omega) (by omega)]
    refine w_aJ (r := some o) C w dL_law_1595 hu (fun v9 e9 => ?_)
    cases e9
    refine lv_iload hx hb dL_law_1596 (lv_at hl 0 rfl) ?_
    refine lv_i2l hx hb dL_law_1598 rfl ?_
    refine W.lcmp hx hb dL_law_1599 ?_
    refine lv_if_eq (tgt := 1605) hx hb dL_law_1600 (by decide) (fun _ => ?_) (fun q => absurd (by rw [m5 q0]; exact lg_cmp_self _) q)
    exact lv_goto (tgt := 2554) hx hb dL_law_1605 (by decide) (NX h2 k H locs ls m6 w (lv_sub hl [2, 3, 4, 5, 6] rfl))
set_option maxRecDepth 20000 in
set_option maxHeartbeats 4000000 in
theorem lc_heaviest (E : lwC p s m meth c b L xs z w0) (hst : l.stackTraces = false) (hN : 100000 ≤ N) (P : PJ Q A mm o (13 * z + 7293034) n h) (hn : n < 512) (w : wd D cy z s k h H locs) (hl : lv_has ls 8 [(4, .int x4), (3, .ref o), (2, .ref mm), (1, .ref (Q 0)), (0, .ref b)]) (hin : ∀ j : Int32, (j = 1 ∨ j = 2 ∨ j = 3 ∨ j = 4 ∨ j = 5) → vp_in (x4 + j) L) (NX : LN p l e s m b below meth c D cy z Q A mm o n x4 Qp) : W p l e room_1 s m #[Value.ref b] below meth c H locs k (h_s h) Qp (F0 m 1608 ls []) := by
  obtain ⟨C, hX, hbl, hz⟩ := E
  obtain ⟨hx, hb, -, -, hown, hts, -⟩ := id C
  obtain ⟨hkx, hko, hkm, hB0⟩ := P.top
  obtain ⟨r, g, e1, e2, e3, e4⟩ := op_heaviest N hN P hn (xs (x4 + 1).toNatClampNeg) (xs (x4 + 2).toNatClampNeg) (xs (x4 + 3).toNatClampNeg)
  refine lv_aload_n hx hb dL_law_1608 rfl (lv_at hl 3 rfl) ?_
  refine lw_rd hx hb hX hbl hz w (lv_at hl 4 rfl) (lv_at hl 0 rfl) (j := 1) (hin 1 (by decide)) dL_law_1609 dL_law_1610 dL_law_1612 (by decide) dL_law_1613 dL_law_1614 ?_
  refine lw_rd hx hb hX hbl hz w (lv_at hl 4 rfl) (lv_at hl 0 rfl) (j := 2) (hin 2 (by decide)) dL_law_1615 dL_law_1616 dL_law_1618 (by decide) dL_law_1619 dL_law_1620 ?_
  refine lw_rd hx hb hX hbl hz w (lv_at hl 4 rfl) (lv_at hl 0 rfl) (j := 3) (hin 3 (by decide)) dL_law_1621 dL_law_1622 dL_law_1624 (by decide) dL_law_1625 dL_law_1626 ?_
  refine lv_aload_n hx hb dL_law_1627 rfl (lv_at hl 1 rfl) ?_
  refine lw_SL (n := 5) (F := 11) (Lc := 192) (av := [.ref (Q 0), .int (xs (x4 + 1).toNatClampNeg), .int (xs (x4 + 2).toNatClampNeg), .int (xs (x4 + 3).toNatClampNeg), .ref o]) (rest := []) C w hz (k_L_heaviest l hst D cy z N h (Q 0) o (xs (x4 + 1).toNatClampNeg) (xs (x4 + 2).toNatClampNeg) (xs (x4 + 3).toNatClampNeg) r g e1 hkx hko e2) e1 (mo_K_heaviest N h (Q 0) (xs (x4 + 1).toNatClampNeg) (xs (x4 + 2).toNatClampNeg) (xs (x4 + 3).toNatClampNeg) _ _ e1) e3 gw_49_21 gw_49_22 gw_8_22 gw_49_23 (by decide +kernel) ⟨Nat.le_of_ble_eq_true rfl, Nat.le_of_ble_eq_true rfl⟩ rfl hl.1 rfl (Nat.le_of_ble_eq_true rfl) dL_law_1628 (fun kc h1 k H locs wr w => ?_)
  obtain ⟨m1, m2, v, h2, m3, m4, m5, m6⟩ := e4 kc h1 wr
  have m3 : f_M_heaviest N h1 mm (xs (x4 + 1).toNatClampNeg) (xs (x4 + 2).toNatClampNeg) (xs (x4 + 3).toNatClampNeg) = some (v, h2) := m3
  obtain ⟨-, hko2, hkm2, hB2⟩ := m6.top
  refine lv_istore (lv' := [(5, .int kc), (4, .int x4), (3, .ref o), (2, .ref mm), (1, .ref (Q 0)), (0, .ref b)]) hx hb dL_law_1631 hl (by decide) rfl (fun ls hl => ?_)
  refine lv_aload_n hx hb dL_law_1633 rfl (lv_at hl 3 rfl) ?_
  refine lw_rd hx hb hX hbl hz w (lv_at hl 5 rfl) (lv_at hl 1 rfl) (j := 1) (hin 1 (by decide)) dL_law_1634 dL_law_1635 dL_law_1637 (by decide) dL_law_1638 dL_law_1639 ?_
  refine lw_rd hx hb hX hbl hz w (lv_at hl 5 rfl) (lv_at hl 1 rfl) (j := 2) (hin 2 (by decide)) dL_law_1640 dL_law_1641 dL_law_1643 (by decide) dL_law_1644 dL_law_1645 ?_
  refine lw_rd hx hb hX hbl hz w (lv_at hl 5 rfl) (lv_at hl 1 rfl) (j := 3) (hin 3 (by decide)) dL_law_1646 dL_law_1647 dL_law_1649 (by decide) dL_law_1650 dL_law_1651 ?_
  refine lw_V rI (n := 3) (F := 7) (Lc := 195) (av := [.int (xs (x4 + 1).toNatClampNeg), .int (xs (x4 + 2).toNatClampNeg), .int (xs (x4 + 3).toNatClampNeg)]) (rest := []) (a := mm) C w hz rfl (by decide) m1 (k_M_heaviest l D cy z N h1 mm (xs (x4 + 1).toNatClampNeg) (xs (x4 + 2).toNatClampNeg) (xs (x4 + 3).toNatClampNeg) v h2 m3) (Or.inl rfl) (Or.inl rfl) (sh_M_heaviest N h1 mm (xs (x4 + 1).toNatClampNeg) (xs (x4 + 2).toNatClampNeg) (xs (x4 + 3).toNatClampNeg) _ _ m3).gr hB2 gw_50_14 gw_50_15 gw_50_16 gw_1_5 gw_50_17 (by decide +kernel) ⟨Nat.le_of_ble_eq_true rfl, Nat.le_of_ble_eq_true rfl⟩ rfl hl.1 rfl (Nat.le_of_ble_eq_true rfl) dL_law_1652 (fun k H locs w => ?_)
  show W p l e room_1 s m #[Value.ref b] below meth c H locs k (h_s h2) Qp (F0 m 1655 ls [.int v])
  refine lv_istore (lv' := [(6, .int v), (5, .int kc), (4, .int x4), (3, .ref o), (2, .ref mm), (1, .ref (Q 0)), (0, .ref b)]) hx hb dL_law_1655 hl (by decide) rfl (fun ls hl => ?_)
  refine lv_aload_n hx hb dL_law_1657 rfl (lv_at hl 4 rfl) ?_
  have e9 : f_M_thrown N h2 mm = some (kc, h2) := by unfold f_M_thrown; rw [gI_k hkm2, m4]
  refine lw_V rI (n := 0) (F := 0) (Lc := 0) (av := []) (rest := []) (a := mm) C w hz rfl (by decide) hkm2 (k_M_thrown l D cy z N h2 mm kc h2 e9) (Or.inl rfl) (Or.inl rfl) (sh_M_thrown N h2 mm _ _ e9).gr hB2 gw_31_11 gw_31_12 gw_31_13 gw_1_5 gw_31_14 (by decide +kernel) ⟨Nat.le_of_ble_eq_true rfl, Nat.le_of_ble_eq_true rfl⟩ rfl hl.1 rfl (Nat.le_of_ble_eq_true rfl) dL_law_1658 (fun k H locs w => ?_)
  show W p l e room_1 s m #[Value.ref b] below meth c H locs k (h_s h2) Qp (F0 m 1661 ls [.int kc])
  refine lv_iload hx hb dL_law_1661 (lv_at hl 1 rfl) ?_
  refine lv_icmp_eq (tgt := 1668) hx hb dL_law_1663 (by decide) (fun _ => ?_) (fun q => absurd rfl q)
  refine lv_iload hx hb dL_law_1668 (lv_at hl 1 rfl) ?_
  refine lv_if_ne (tgt := 1685) hx hb dL_law_1670 (by decide) (fun _ => ?_) (fun q0 => ?_)
  · exact lv_goto (tgt := 2554) hx hb dL_law_1685 (by decide) (NX h2 k H locs ls m6 w (lv_sub hl [2, 3, 4, 5, 6] rfl))
  · refine lv_aload_n hx hb dL_law_1673 rfl (lv_at hl 3 rfl) ?_
    refine lv_iconst (v := 0) hx hb dL_law_1674 (by decide) ?_
    have hu : aJ h2 (some o) (0 : Int32) (fun v => some v) = some (h_j h2 o 0) := by rw [show (0 : Int32) = iI ((0 : Nat) : Int) from rfl, aJ_i (n := 1) ⟨hko2.1, hko2.2.1⟩ (by omega) (by omega)]
    refine w_aJ (r := some o) C w dL_law_1675 hu (fun v9 e9 => ?_)
    cases e9
    refine lv_iload hx hb dL_law_1676 (lv_at hl 0 rfl) ?_
    refine lv_i2l hx hb dL_law_1678 rfl ?_
    refine W.lcmp hx hb dL_law_1679 ?_
    refine lv_if_eq (tgt := 1685) hx hb dL_law_1680 (by decide) (fun _ => ?_) (fun q => absurd (by rw [m5 q0]; exact lg_cmp_self _) q)
    exact lv_goto (tgt := 2554) hx hb dL_law_1685 (by decide) (NX h2 k H locs ls m6 w (lv_sub hl [2, 3, 4, 5, 6] rfl))
set_option maxRecDepth 20000 in
set_option maxHeartbeats 4000000 in
theorem lc_spared (E : lwC p s m meth c b L xs z w0) (hst : l.stackTraces = false) (hN : 100000 ≤ N) (P : PJ Q A mm o (13 * z + 7293034) n h) (hn : n < 512) (w : wd D cy z s k h H locs) (hl : lv_has ls 8 [(4, .int x4), (3, .ref o), (2, .ref mm), (1, .ref (Q 0)), (0, .ref b)]) (hin : ∀ j : Int32, (j = 1 ∨ j = 2 ∨ j = 3 ∨ j = 4 ∨ j = 5) → vp_in (x4 + j) L) (NX : LN p l e s m b below meth c D cy z Q A mm o n x4 Qp) : W p l e room_1 s m #[Value.ref b] below meth c H locs k (h_s h) Qp (F0 m 1688 ls []) := by
  obtain ⟨C, hX, hbl, hz⟩ := E
  obtain ⟨hx, hb, -, -, hown, hts, -⟩ := id C
  obtain ⟨hkx, hko, hkm, hB0⟩ := P.top
  obtain ⟨r, g, e1, e2, e3, e4⟩ := op_spared N hN P hn (xs (x4 + 1).toNatClampNeg) (xs (x4 + 2).toNatClampNeg)
  refine lv_aload_n hx hb dL_law_1688 rfl (lv_at hl 3 rfl) ?_
  refine lw_rd hx hb hX hbl hz w (lv_at hl 4 rfl) (lv_at hl 0 rfl) (j := 1) (hin 1 (by decide)) dL_law_1689 dL_law_1690 dL_law_1692 (by decide) dL_law_1693 dL_law_1694 ?_
  refine lw_rd hx hb hX hbl hz w (lv_at hl 4 rfl) (lv_at hl 0 rfl) (j := 2) (hin 2 (by decide)) dL_law_1695 dL_law_1696 dL_law_1698 (by decide) dL_law_1699 dL_law_1700 ?_
  refine lv_aload_n hx hb dL_law_1701 rfl (lv_at hl 1 rfl) ?_
  refine lw_SL (n := 4) (F := 11) (Lc := 212) (av := [.ref (Q 0), .int (xs (x4 + 1).toNatClampNeg), .int (xs (x4 + 2).toNatClampNeg), .ref o]) (rest := []) C w hz (k_L_spared l hst D cy z N h (Q 0) o (xs (x4 + 1).toNatClampNeg) (xs (x4 + 2).toNatClampNeg) r g e1 hkx hko e2) e1 (mo_K_spared N h (Q 0) (xs (x4 + 1).toNatClampNeg) (xs (x4 + 2).toNatClampNeg) _ _ e1) e3 gw_51_2 gw_51_3 gw_8_22 gw_51_4 (by decide +kernel) ⟨Nat.le_of_ble_eq_true rfl, Nat.le_of_ble_eq_true rfl⟩ rfl hl.1 rfl (Nat.le_of_ble_eq_true rfl) dL_law_1702 (fun kc h1 k H locs wr w => ?_)
  obtain ⟨m1, m2, v, h2, m3, m4, m5, m6⟩ := e4 kc h1 wr
  have m3 : f_M_spared N h1 mm (xs (x4 + 1).toNatClampNeg) (xs (x4 + 2).toNatClampNeg) = some (v, h2) := m3
  obtain ⟨-, hko2, hkm2, hB2⟩ := m6.top
  refine lv_istore (lv' := [(5, .int kc), (4, .int x4), (3, .ref o), (2, .ref mm), (1, .ref (Q 0)), (0, .ref b)]) hx hb dL_law_1705 hl (by decide) rfl (fun ls hl => ?_)
  refine lv_aload_n hx hb dL_law_1707 rfl (lv_at hl 3 rfl) ?_
  refine lw_rd hx hb hX hbl hz w (lv_at hl 5 rfl) (lv_at hl 1 rfl) (j := 1) (hin 1 (by decide)) dL_law_1708 dL_law_1709 dL_law_1711 (by decide) dL_law_1712 dL_law_1713 ?_
  refine lw_rd hx hb hX hbl hz w (lv_at hl 5 rfl) (lv_at hl 1 rfl) (j := 2) (hin 2 (by decide)) dL_law_1714 dL_law_1715 dL_law_1717 (by decide) dL_law_1718 dL_law_1719 ?_
  refine lw_V rJ (n := 2) (F := 8) (Lc := 218) (av := [.int (xs (x4 + 1).toNatClampNeg), .int (xs (x4 + 2).toNatClampNeg)]) (rest := []) (a := mm) C w hz rfl (by decide) m1 (k_M_spared l D cy z N h1 mm (xs (x4 + 1).toNatClampNeg) (xs (x4 + 2).toNatClampNeg) v h2 m3) (Or.inl rfl) (Or.inl rfl) (sh_M_spared N h1 mm (xs (x4 + 1).toNatClampNeg) (xs (x4 + 2).toNatClampNeg) _ _ m3).gr hB2 gw_51_14 gw_51_15 gw_51_16 gw_1_5 gw_51_17 (by decide +kernel) ⟨Nat.le_of_ble_eq_true rfl, Nat.le_of_ble_eq_true rfl⟩ rfl hl.1 rfl (Nat.le_of_ble_eq_true rfl) dL_law_1720 (fun k H locs w => ?_)
  show W p l e room_1 s m #[Value.ref b] below meth c H locs k (h_s h2) Qp (F0 m 1723 ls [.long v])
  refine lv_lstore (lv' := [(6, .long v), (5, .int kc), (4, .int x4), (3, .ref o), (2, .ref mm), (1, .ref (Q 0)), (0, .ref b)]) hx hb dL_law_1723 hl (by decide) rfl (fun ls hl => ?_)
  refine lv_aload_n hx hb dL_law_1725 rfl (lv_at hl 4 rfl) ?_
  have e9 : f_M_thrown N h2 mm = some (kc, h2) := by unfold f_M_thrown; rw [gI_k hkm2, m4]
  refine lw_V rI (n := 0) (F := 0) (Lc := 0) (av := []) (rest := []) (a := mm) C w hz rfl (by decide) hkm2 (k_M_thrown l D cy z N h2 mm kc h2 e9) (Or.inl rfl) (Or.inl rfl) (sh_M_thrown N h2 mm _ _ e9).gr hB2 gw_31_11 gw_31_12 gw_31_13 gw_1_5 gw_31_14 (by decide +kernel) ⟨Nat.le_of_ble_eq_true rfl, Nat.le_of_ble_eq_true rfl⟩ rfl hl.1 rfl (Nat.le_of_ble_eq_true rfl) dL_law_1726 (fun k H locs w => ?_)
  show W p l e room_1 s m #[Value.ref b] below meth c H locs k (h_s h2) Qp (F0 m 1729 ls [.int kc])
  refine lv_iload hx hb dL_law_1729 (lv_at hl 1 rfl) ?_
  refine lv_icmp_eq (tgt := 1736) hx hb dL_law_1731 (by decide) (fun _ => ?_) (fun q => absurd rfl q)
  refine lv_iload hx hb dL_law_1736 (lv_at hl 1 rfl) ?_
  refine lv_if_ne (tgt := 1752) hx hb dL_law_1738 (by decide) (fun _ => ?_) (fun q0 => ?_)
  · exact lv_goto (tgt := 2554) hx hb dL_law_1752 (by decide) (NX h2 k H locs ls m6 w (lv_sub hl [2, 3, 4, 5, 6] rfl))
  · refine lv_aload_n hx hb dL_law_1741 rfl (lv_at hl 3 rfl) ?_
    refine lv_iconst (v := 0) hx hb dL_law_1742 (by decide) ?_
    have hu : aJ h2 (some o) (0 : Int32) (fun v => some v) = some (h_j h2 o 0) := by rw [show (0 : Int32) = iI ((0 : Nat) : Int) from rfl, aJ_i (n := 1) ⟨hko2.1, hko2.2.1⟩ (by omega) (by omega)]
    refine w_aJ (r := some o) C w dL_law_1743 hu (fun v9 e9 => ?_)
    cases e9
    refine lv_lload hx hb dL_law_1744 (lv_at hl 0 rfl) ?_
    refine W.lcmp hx hb dL_law_1746 ?_
    refine lv_if_eq (tgt := 1752) hx hb dL_law_1747 (by decide) (fun _ => ?_) (fun q => absurd (by rw [m5 q0]; exact lg_cmp_self _) q)
    exact lv_goto (tgt := 2554) hx hb dL_law_1752 (by decide) (NX h2 k H locs ls m6 w (lv_sub hl [2, 3, 4, 5, 6] rfl))
set_option maxRecDepth 20000 in
set_option maxHeartbeats 4000000 in
theorem lc_dearest (E : lwC p s m meth c b L xs z w0) (hst : l.stackTraces = false) (hN : 100000 ≤ N) (P : PJ Q A mm o (13 * z + 7293034) n h) (hn : n < 512) (w : wd D cy z s k h H locs) (hl : lv_has ls 8 [(4, .int x4), (3, .ref o), (2, .ref mm), (1, .ref (Q 0)), (0, .ref b)]) (hin : ∀ j : Int32, (j = 1 ∨ j = 2 ∨ j = 3 ∨ j = 4 ∨ j = 5) → vp_in (x4 + j) L) (NX : LN p l e s m b below meth c D cy z Q A mm o n x4 Qp) : W p l e room_1 s m #[Value.ref b] below meth c H locs k (h_s h) Qp (F0 m 1755 ls []) := by
  obtain ⟨C, hX, hbl, hz⟩ := E
  obtain ⟨hx, hb, -, -, hown, hts, -⟩ := id C
  obtain ⟨hkx, hko, hkm, hB0⟩ := P.top
  obtain ⟨r, g, e1, e2, e3, e4⟩ := op_dearest N hN P hn (xs (x4 + 1).toNatClampNeg)
  refine lv_aload_n hx hb dL_law_1755 rfl (lv_at hl 3 rfl) ?_
  refine lw_rd hx hb hX hbl hz w (lv_at hl 4 rfl) (lv_at hl 0 rfl) (j := 1) (hin 1 (by decide)) dL_law_1756 dL_law_1757 dL_law_1759 (by decide) dL_law_1760 dL_law_1761 ?_
  refine lv_aload_n hx hb dL_law_1762 rfl (lv_at hl 1 rfl) ?_
  refine lw_SL (n := 3) (F := 10) (Lc := 218) (av := [.ref (Q 0), .int (xs (x4 + 1).toNatClampNeg), .ref o]) (rest := []) C w hz (k_L_dearest l hst D cy z N h (Q 0) o (xs (x4 + 1).toNatClampNeg) r g e1 hkx hko e2) e1 (mo_K_dearest N h (Q 0) (xs (x4 + 1).toNatClampNeg) _ _ e1) e3 gw_52_3 gw_52_4 gw_8_22 gw_52_5 (by decide +kernel) ⟨Nat.le_of_ble_eq_true rfl, Nat.le_of_ble_eq_true rfl⟩ rfl hl.1 rfl (Nat.le_of_ble_eq_true rfl) dL_law_1763 (fun kc h1 k H locs wr w => ?_)
  obtain ⟨m1, m2, v, h2, m3, m4, m5, m6⟩ := e4 kc h1 wr
  have m3 : f_M_dearest N h1 mm (xs (x4 + 1).toNatClampNeg) = some (v, h2) := m3
  obtain ⟨-, hko2, hkm2, hB2⟩ := m6.top
  refine lv_istore (lv' := [(5, .int kc), (4, .int x4), (3, .ref o), (2, .ref mm), (1, .ref (Q 0)), (0, .ref b)]) hx hb dL_law_1766 hl (by decide) rfl (fun ls hl => ?_)
  refine lv_aload_n hx hb dL_law_1768 rfl (lv_at hl 3 rfl) ?_
  refine lw_rd hx hb hX hbl hz w (lv_at hl 5 rfl) (lv_at hl 1 rfl) (j := 1) (hin 1 (by decide)) dL_law_1769 dL_law_1770 dL_law_1772 (by decide) dL_law_1773 dL_law_1774 ?_
  refine lw_V rI (n := 1) (F := 8) (Lc := 218) (av := [.int (xs (x4 + 1).toNatClampNeg)]) (rest := []) (a := mm) C w hz rfl (by decide) m1 (k_M_dearest l D cy z N h1 mm (xs (x4 + 1).toNatClampNeg) v h2 m3) (Or.inl rfl) (Or.inl rfl) (sh_M_dearest N h1 mm (xs (x4 + 1).toNatClampNeg) _ _ m3).gr hB2 gw_52_10 gw_52_11 gw_52_12 gw_1_5 gw_52_13 (by decide +kernel) ⟨Nat.le_of_ble_eq_true rfl, Nat.le_of_ble_eq_true rfl⟩ rfl hl.1 rfl (Nat.le_of_ble_eq_true rfl) dL_law_1775 (fun k H locs w => ?_)
  show W p l e room_1 s m #[Value.ref b] below meth c H locs k (h_s h2) Qp (F0 m 1778 ls [.int v])
  refine lv_istore (lv' := [(6, .int v), (5, .int kc), (4, .int x4), (3, .ref o), (2, .ref mm), (1, .ref (Q 0)), (0, .ref b)]) hx hb dL_law_1778 hl (by decide) rfl (fun ls hl => ?_)
  refine lv_aload_n hx hb dL_law_1780 rfl (lv_at hl 4 rfl) ?_
  have e9 : f_M_thrown N h2 mm = some (kc, h2) := by unfold f_M_thrown; rw [gI_k hkm2, m4]
  refine lw_V rI (n := 0) (F := 0) (Lc := 0) (av := []) (rest := []) (a := mm) C w hz rfl (by decide) hkm2 (k_M_thrown l D cy z N h2 mm kc h2 e9) (Or.inl rfl) (Or.inl rfl) (sh_M_thrown N h2 mm _ _ e9).gr hB2 gw_31_11 gw_31_12 gw_31_13 gw_1_5 gw_31_14 (by decide +kernel) ⟨Nat.le_of_ble_eq_true rfl, Nat.le_of_ble_eq_true rfl⟩ rfl hl.1 rfl (Nat.le_of_ble_eq_true rfl) dL_law_1781 (fun k H locs w => ?_)
  show W p l e room_1 s m #[Value.ref b] below meth c H locs k (h_s h2) Qp (F0 m 1784 ls [.int kc])
  refine lv_iload hx hb dL_law_1784 (lv_at hl 1 rfl) ?_
  refine lv_icmp_eq (tgt := 1791) hx hb dL_law_1786 (by decide) (fun _ => ?_) (fun q => absurd rfl q)
  refine lv_iload hx hb dL_law_1791 (lv_at hl 1 rfl) ?_
  refine lv_if_ne (tgt := 1808) hx hb dL_law_1793 (by decide) (fun _ => ?_) (fun q0 => ?_)
  · exact lv_goto (tgt := 2554) hx hb dL_law_1808 (by decide) (NX h2 k H locs ls m6 w (lv_sub hl [2, 3, 4, 5, 6] rfl))
  · refine lv_aload_n hx hb dL_law_1796 rfl (lv_at hl 3 rfl) ?_
    refine lv_iconst (v := 0) hx hb dL_law_1797 (by decide) ?_
    have hu : aJ h2 (some o) (0 : Int32) (fun v => some v) = some (h_j h2 o 0) := by rw [show (0 : Int32) = iI ((0 : Nat) : Int) from rfl, aJ_i (n := 1) ⟨hko2.1, hko2.2.1⟩ (by omega) (by omega)]
    refine w_aJ (r := some o) C w dL_law_1798 hu (fun v9 e9 => ?_)
    cases e9
    refine lv_iload hx hb dL_law_1799 (lv_at hl 0 rfl) ?_
    refine lv_i2l hx hb dL_law_1801 rfl ?_
    refine W.lcmp hx hb dL_law_1802 ?_
    refine lv_if_eq (tgt := 1808) hx hb dL_law_1803 (by decide) (fun _ => ?_) (fun q => absurd (by rw [m5 q0]; exact lg_cmp_self _) q)
    exact lv_goto (tgt := 2554) hx hb dL_law_1808 (by decide) (NX h2 k H locs ls m6 w (lv_sub hl [2, 3, 4, 5, 6] rfl))
set_option maxRecDepth 20000 in
set_option maxHeartbeats 4000000 in
theorem lc_gap (E : lwC p s m meth c b L xs z w0) (hst : l.stackTraces = false) (hN : 100000 ≤ N) (P : PJ Q A mm o (13 * z + 7293034) n h) (hn : n < 512) (w : wd D cy z s k h H locs) (hl : lv_has ls 8 [(4, .int x4), (3, .ref o), (2, .ref mm), (1, .ref (Q 0)), (0, .ref b)]) (hin : ∀ j : Int32, (j = 1 ∨ j = 2 ∨ j = 3 ∨ j = 4 ∨ j = 5) → vp_in (x4 + j) L) (NX : LN p l e s m b below meth c D cy z Q A mm o n x4 Qp) : W p l e room_1 s m #[Value.ref b] below meth c H locs k (h_s h) Qp (F0 m 1811 ls []) := by
  obtain ⟨C, hX, hbl, hz⟩ := E
  obtain ⟨hx, hb, -, -, hown, hts, -⟩ := id C
  obtain ⟨hkx, hko, hkm, hB0⟩ := P.top
  obtain ⟨r, g, e1, e2, e3, e4⟩ := op_gap N hN P hn (xs (x4 + 1).toNatClampNeg) (xs (x4 + 2).toNatClampNeg)
  refine lv_aload_n hx hb dL_law_1811 rfl (lv_at hl 3 rfl) ?_
  refine lw_rd hx hb hX hbl hz w (lv_at hl 4 rfl) (lv_at hl 0 rfl) (j := 1) (hin 1 (by decide)) dL_law_1812 dL_law_1813 dL_law_1815 (by decide) dL_law_1816 dL_law_1817 ?_
  refine lw_rd hx hb hX hbl hz w (lv_at hl 4 rfl) (lv_at hl 0 rfl) (j := 2) (hin 2 (by decide)) dL_law_1818 dL_law_1819 dL_law_1821 (by decide) dL_law_1822 dL_law_1823 ?_
  refine lv_aload_n hx hb dL_law_1824 rfl (lv_at hl 1 rfl) ?_
  refine lw_SL (n := 4) (F := 10) (Lc := 168) (av := [.ref (Q 0), .int (xs (x4 + 1).toNatClampNeg), .int (xs (x4 + 2).toNatClampNeg), .ref o]) (rest := []) C w hz (k_L_gap l hst D cy z N h (Q 0) o (xs (x4 + 1).toNatClampNeg) (xs (x4 + 2).toNatClampNeg) r g e1 hkx hko e2) e1 (mo_K_gap N h (Q 0) (xs (x4 + 1).toNatClampNeg) (xs (x4 + 2).toNatClampNeg) _ _ e1) e3 gw_52_14 gw_52_15 gw_8_22 gw_52_16 (by decide +kernel) ⟨Nat.le_of_ble_eq_true rfl, Nat.le_of_ble_eq_true rfl⟩ rfl hl.1 rfl (Nat.le_of_ble_eq_true rfl) dL_law_1825 (fun kc h1 k H locs wr w => ?_)
  obtain ⟨m1, m2, v, h2, m3, m4, m5, m6⟩ := e4 kc h1 wr
  have m3 : f_M_gap N h1 mm (xs (x4 + 1).toNatClampNeg) (xs (x4 + 2).toNatClampNeg) = some (v, h2) := m3
  obtain ⟨-, hko2, hkm2, hB2⟩ := m6.top
  refine lv_istore (lv' := [(5, .int kc), (4, .int x4), (3, .ref o), (2, .ref mm), (1, .ref (Q 0)), (0, .ref b)]) hx hb dL_law_1828 hl (by decide) rfl (fun ls hl => ?_)
  refine lv_aload_n hx hb dL_law_1830 rfl (lv_at hl 3 rfl) ?_
  refine lw_rd hx hb hX hbl hz w (lv_at hl 5 rfl) (lv_at hl 1 rfl) (j := 1) (hin 1 (by decide)) dL_law_1831 dL_law_1832 dL_law_1834 (by decide) dL_law_1835 dL_law_1836 ?_
  refine lw_rd hx hb hX hbl hz w (lv_at hl 5 rfl) (lv_at hl 1 rfl) (j := 2) (hin 2 (by decide)) dL_law_1837 dL_law_1838 dL_law_1840 (by decide) dL_law_1841 dL_law_1842 ?_
  refine lw_V rJ (n := 2) (F := 9) (Lc := 237) (av := [.int (xs (x4 + 1).toNatClampNeg), .int (xs (x4 + 2).toNatClampNeg)]) (rest := []) (a := mm) C w hz rfl (by decide) m1 (k_M_gap l D cy z N h1 mm (xs (x4 + 1).toNatClampNeg) (xs (x4 + 2).toNatClampNeg) v h2 m3) (Or.inl rfl) (Or.inl rfl) (sh_M_gap N h1 mm (xs (x4 + 1).toNatClampNeg) (xs (x4 + 2).toNatClampNeg) _ _ m3).gr hB2 gw_53_3 gw_53_4 gw_53_5 gw_1_5 gw_53_6 (by decide +kernel) ⟨Nat.le_of_ble_eq_true rfl, Nat.le_of_ble_eq_true rfl⟩ rfl hl.1 rfl (Nat.le_of_ble_eq_true rfl) dL_law_1843 (fun k H locs w => ?_)
  show W p l e room_1 s m #[Value.ref b] below meth c H locs k (h_s h2) Qp (F0 m 1846 ls [.long v])
  refine lv_lstore (lv' := [(6, .long v), (5, .int kc), (4, .int x4), (3, .ref o), (2, .ref mm), (1, .ref (Q 0)), (0, .ref b)]) hx hb dL_law_1846 hl (by decide) rfl (fun ls hl => ?_)
  refine lv_aload_n hx hb dL_law_1848 rfl (lv_at hl 4 rfl) ?_
  have e9 : f_M_thrown N h2 mm = some (kc, h2) := by unfold f_M_thrown; rw [gI_k hkm2, m4]
  refine lw_V rI (n := 0) (F := 0) (Lc := 0) (av := []) (rest := []) (a := mm) C w hz rfl (by decide) hkm2 (k_M_thrown l D cy z N h2 mm kc h2 e9) (Or.inl rfl) (Or.inl rfl) (sh_M_thrown N h2 mm _ _ e9).gr hB2 gw_31_11 gw_31_12 gw_31_13 gw_1_5 gw_31_14 (by decide +kernel) ⟨Nat.le_of_ble_eq_true rfl, Nat.le_of_ble_eq_true rfl⟩ rfl hl.1 rfl (Nat.le_of_ble_eq_true rfl) dL_law_1849 (fun k H locs w => ?_)
  show W p l e room_1 s m #[Value.ref b] below meth c H locs k (h_s h2) Qp (F0 m 1852 ls [.int kc])
  refine lv_iload hx hb dL_law_1852 (lv_at hl 1 rfl) ?_
  refine lv_icmp_eq (tgt := 1859) hx hb dL_law_1854 (by decide) (fun _ => ?_) (fun q => absurd rfl q)
  refine lv_iload hx hb dL_law_1859 (lv_at hl 1 rfl) ?_
  refine lv_if_ne (tgt := 1875) hx hb dL_law_1861 (by decide) (fun _ => ?_) (fun q0 => ?_)
  · exact lv_goto (tgt := 2554) hx hb dL_law_1875 (by decide) (NX h2 k H locs ls m6 w (lv_sub hl [2, 3, 4, 5, 6] rfl))
  · refine lv_aload_n hx hb dL_law_1864 rfl (lv_at hl 3 rfl) ?_
    refine lv_iconst (v := 0) hx hb dL_law_1865 (by decide) ?_
    have hu : aJ h2 (some o) (0 : Int32) (fun v => some v) = some (h_j h2 o 0) := by rw [show (0 : Int32) = iI ((0 : Nat) : Int) from rfl, aJ_i (n := 1) ⟨hko2.1, hko2.2.1⟩ (by omega) (by omega)]
    refine w_aJ (r := some o) C w dL_law_1866 hu (fun v9 e9 => ?_)
    cases e9
    refine lv_lload hx hb dL_law_1867 (lv_at hl 0 rfl) ?_
    refine W.lcmp hx hb dL_law_1869 ?_
    refine lv_if_eq (tgt := 1875) hx hb dL_law_1870 (by decide) (fun _ => ?_) (fun q => absurd (by rw [m5 q0]; exact lg_cmp_self _) q)
    exact lv_goto (tgt := 2554) hx hb dL_law_1875 (by decide) (NX h2 k H locs ls m6 w (lv_sub hl [2, 3, 4, 5, 6] rfl))
set_option maxRecDepth 20000 in
set_option maxHeartbeats 4000000 in
theorem lc_alike (E : lwC p s m meth c b L xs z w0) (hst : l.stackTraces = false) (hN : 100000 ≤ N) (P : PJ Q A mm o (13 * z + 7293034) n h) (hn : n < 512) (w : wd D cy z s k h H locs) (hl : lv_has ls 8 [(4, .int x4), (3, .ref o), (2, .ref mm), (1, .ref (Q 0)), (0, .ref b)]) (hin : ∀ j : Int32, (j = 1 ∨ j = 2 ∨ j = 3 ∨ j = 4 ∨ j = 5) → vp_in (x4 + j) L) (NX : LN p l e s m b below meth c D cy z Q A mm o n x4 Qp) : W p l e room_1 s m #[Value.ref b] below meth c H locs k (h_s h) Qp (F0 m 1878 ls []) := by
  obtain ⟨C, hX, hbl, hz⟩ := E
  obtain ⟨hx, hb, -, -, hown, hts, -⟩ := id C
  obtain ⟨hkx, hko, hkm, hB0⟩ := P.top
  obtain ⟨r, g, e1, e2, e3, e4⟩ := op_alike N hN P hn (xs (x4 + 1).toNatClampNeg) (xs (x4 + 2).toNatClampNeg)
  refine lv_aload_n hx hb dL_law_1878 rfl (lv_at hl 3 rfl) ?_
  refine lw_rd hx hb hX hbl hz w (lv_at hl 4 rfl) (lv_at hl 0 rfl) (j := 1) (hin 1 (by decide)) dL_law_1879 dL_law_1880 dL_law_1882 (by decide) dL_law_1883 dL_law_1884 ?_
  refine lw_rd hx hb hX hbl hz w (lv_at hl 4 rfl) (lv_at hl 0 rfl) (j := 2) (hin 2 (by decide)) dL_law_1885 dL_law_1886 dL_law_1888 (by decide) dL_law_1889 dL_law_1890 ?_
  refine lv_aload_n hx hb dL_law_1891 rfl (lv_at hl 1 rfl) ?_
  refine lw_SL (n := 4) (F := 10) (Lc := 165) (av := [.ref (Q 0), .int (xs (x4 + 1).toNatClampNeg), .int (xs (x4 + 2).toNatClampNeg), .ref o]) (rest := []) C w hz (k_L_alike l hst D cy z N h (Q 0) o (xs (x4 + 1).toNatClampNeg) (xs (x4 + 2).toNatClampNeg) r g e1 hkx hko e2) e1 (mo_K_alike N h (Q 0) (xs (x4 + 1).toNatClampNeg) (xs (x4 + 2).toNatClampNeg) _ _ e1) e3 gw_53_9 gw_53_10 gw_8_22 gw_53_11 (by decide +kernel) ⟨Nat.le_of_ble_eq_true rfl, Nat.le_of_ble_eq_true rfl⟩ rfl hl.1 rfl (Nat.le_of_ble_eq_true rfl) dL_law_1892 (fun kc h1 k H locs wr w => ?_)
  obtain ⟨m1, m2, v, h2, m3, m4, m5, m6⟩ := e4 kc h1 wr
  have m3 : f_M_alike N h1 mm (xs (x4 + 1).toNatClampNeg) (xs (x4 + 2).toNatClampNeg) = some (v, h2) := m3
  obtain ⟨-, hko2, hkm2, hB2⟩ := m6.top
  refine lv_istore (lv' := [(5, .int kc), (4, .int x4), (3, .ref o), (2, .ref mm), (1, .ref (Q 0)), (0, .ref b)]) hx hb dL_law_1895 hl (by decide) rfl (fun ls hl => ?_)
  refine lv_aload_n hx hb dL_law_1897 rfl (lv_at hl 3 rfl) ?_
  refine lw_rd hx hb hX hbl hz w (lv_at hl 5 rfl) (lv_at hl 1 rfl) (j := 1) (hin 1 (by decide)) dL_law_1898 dL_law_1899 dL_law_1901 (by decide) dL_law_1902 dL_law_1903 ?_
  refine lw_rd hx hb hX hbl hz w (lv_at hl 5 rfl) (lv_at hl 1 rfl) (j := 2) (hin 2 (by decide)) dL_law_1904 dL_law_1905 dL_law_1907 (by decide) dL_law_1908 dL_law_1909 ?_
  refine lw_V rI (n := 2) (F := 8) (Lc := 215) (av := [.int (xs (x4 + 1).toNatClampNeg), .int (xs (x4 + 2).toNatClampNeg)]) (rest := []) (a := mm) C w hz rfl (by decide) m1 (k_M_alike l D cy z N h1 mm (xs (x4 + 1).toNatClampNeg) (xs (x4 + 2).toNatClampNeg) v h2 m3) (Or.inl rfl) (Or.inl rfl) (sh_M_alike N h1 mm (xs (x4 + 1).toNatClampNeg) (xs (x4 + 2).toNatClampNeg) _ _ m3).gr hB2 gw_53_20 gw_53_21 gw_53_22 gw_1_5 gw_53_23 (by decide +kernel) ⟨Nat.le_of_ble_eq_true rfl, Nat.le_of_ble_eq_true rfl⟩ rfl hl.1 rfl (Nat.le_of_ble_eq_true rfl) dL_law_1910 (fun k H locs w => ?_)
  show W p l e room_1 s m #[Value.ref b] below meth c H locs k (h_s h2) Qp (F0 m 1913 ls [.int v])
  refine lv_istore (lv' := [(6, .int v), (5, .int kc), (4, .int x4), (3, .ref o), (2, .ref mm), (1, .ref (Q 0)), (0, .ref b)]) hx hb dL_law_1913 hl (by decide) rfl (fun ls hl => ?_)
  refine lv_aload_n hx hb dL_law_1915 rfl (lv_at hl 4 rfl) ?_
  have e9 : f_M_thrown N h2 mm = some (kc, h2) := by unfold f_M_thrown; rw [gI_k hkm2, m4]
  refine lw_V rI (n := 0) (F := 0) (Lc := 0) (av := []) (rest := []) (a := mm) C w hz rfl (by decide) hkm2 (k_M_thrown l D cy z N h2 mm kc h2 e9) (Or.inl rfl) (Or.inl rfl) (sh_M_thrown N h2 mm _ _ e9).gr hB2 gw_31_11 gw_31_12 gw_31_13 gw_1_5 gw_31_14 (by decide +kernel) ⟨Nat.le_of_ble_eq_true rfl, Nat.le_of_ble_eq_true rfl⟩ rfl hl.1 rfl (Nat.le_of_ble_eq_true rfl) dL_law_1916 (fun k H locs w => ?_)
  show W p l e room_1 s m #[Value.ref b] below meth c H locs k (h_s h2) Qp (F0 m 1919 ls [.int kc])
  refine lv_iload hx hb dL_law_1919 (lv_at hl 1 rfl) ?_
  refine lv_icmp_eq (tgt := 1926) hx hb dL_law_1921 (by decide) (fun _ => ?_) (fun q => absurd rfl q)
  refine lv_iload hx hb dL_law_1926 (lv_at hl 1 rfl) ?_
  refine lv_if_ne (tgt := 1943) hx hb dL_law_1928 (by decide) (fun _ => ?_) (fun q0 => ?_)
  · exact lv_goto (tgt := 2554) hx hb dL_law_1943 (by decide) (NX h2 k H locs ls m6 w (lv_sub hl [2, 3, 4, 5, 6] rfl))
  · refine lv_aload_n hx hb dL_law_1931 rfl (lv_at hl 3 rfl) ?_
    refine lv_iconst (v := 0) hx hb dL_law_1932 (by decide) ?_
    have hu : aJ h2 (some o) (0 : Int32) (fun v => some v) = some (h_j h2 o 0) := by rw [show (0 : Int32) = iI ((0 : Nat) : Int) from rfl, aJ_i (n := 1) ⟨hko2.1, hko2.2.1⟩ (by omega) (by omega)]
    refine w_aJ (r := some o) C w dL_law_1933 hu (fun v9 e9 => ?_)
    cases e9
    refine lv_iload hx hb dL_law_1934 (lv_at hl 0 rfl) ?_
    refine lv_i2l hx hb dL_law_1936 rfl ?_
    refine W.lcmp hx hb dL_law_1937 ?_
    refine lv_if_eq (tgt := 1943) hx hb dL_law_1938 (by decide) (fun _ => ?_) (fun q => absurd (by rw [m5 q0]; exact lg_cmp_self _) q)
    exact lv_goto (tgt := 2554) hx hb dL_law_1943 (by decide) (NX h2 k H locs ls m6 w (lv_sub hl [2, 3, 4, 5, 6] rfl))
set_option maxRecDepth 20000 in
set_option maxHeartbeats 4000000 in
theorem lc_told (E : lwC p s m meth c b L xs z w0) (hst : l.stackTraces = false) (hN : 100000 ≤ N) (P : PJ Q A mm o (13 * z + 7293034) n h) (hn : n < 512) (w : wd D cy z s k h H locs) (hl : lv_has ls 8 [(4, .int x4), (3, .ref o), (2, .ref mm), (1, .ref (Q 0)), (0, .ref b)]) (hin : ∀ j : Int32, (j = 1 ∨ j = 2 ∨ j = 3 ∨ j = 4 ∨ j = 5) → vp_in (x4 + j) L) (NX : LN p l e s m b below meth c D cy z Q A mm o n x4 Qp) : W p l e room_1 s m #[Value.ref b] below meth c H locs k (h_s h) Qp (F0 m 1946 ls []) := by
  obtain ⟨C, hX, hbl, hz⟩ := E
  obtain ⟨hx, hb, -, -, hown, hts, -⟩ := id C
  obtain ⟨hkx, hko, hkm, hB0⟩ := P.top
  obtain ⟨r, g, e1, e2, e3, e4⟩ := op_told N hN P hn (xs (x4 + 1).toNatClampNeg) (xs (x4 + 2).toNatClampNeg)
  refine lv_aload_n hx hb dL_law_1946 rfl (lv_at hl 3 rfl) ?_
  refine lw_rd hx hb hX hbl hz w (lv_at hl 4 rfl) (lv_at hl 0 rfl) (j := 1) (hin 1 (by decide)) dL_law_1947 dL_law_1948 dL_law_1950 (by decide) dL_law_1951 dL_law_1952 ?_
  refine lw_rd hx hb hX hbl hz w (lv_at hl 4 rfl) (lv_at hl 0 rfl) (j := 2) (hin 2 (by decide)) dL_law_1953 dL_law_1954 dL_law_1956 (by decide) dL_law_1957 dL_law_1958 ?_
  refine lv_aload_n hx hb dL_law_1959 rfl (lv_at hl 1 rfl) ?_
  refine lw_SL (n := 4) (F := 10) (Lc := 167) (av := [.ref (Q 0), .int (xs (x4 + 1).toNatClampNeg), .int (xs (x4 + 2).toNatClampNeg), .ref o]) (rest := []) C w hz (k_L_told l hst D cy z N h (Q 0) o (xs (x4 + 1).toNatClampNeg) (xs (x4 + 2).toNatClampNeg) r g e1 hkx hko e2) e1 (mo_K_told N h (Q 0) (xs (x4 + 1).toNatClampNeg) (xs (x4 + 2).toNatClampNeg) _ _ e1) e3 gw_54_0 gw_54_1 gw_8_22 gw_54_2 (by decide +kernel) ⟨Nat.le_of_ble_eq_true rfl, Nat.le_of_ble_eq_true rfl⟩ rfl hl.1 rfl (Nat.le_of_ble_eq_true rfl) dL_law_1960 (fun kc h1 k H locs wr w => ?_)
  obtain ⟨m1, m2, v, h2, m3, m4, m5, m6⟩ := e4 kc h1 wr
  have m3 : f_M_told N h1 mm (xs (x4 + 1).toNatClampNeg) (xs (x4 + 2).toNatClampNeg) = some (v, h2) := m3
  obtain ⟨-, hko2, hkm2, hB2⟩ := m6.top
  refine lv_istore (lv' := [(5, .int kc), (4, .int x4), (3, .ref o), (2, .ref mm), (1, .ref (Q 0)), (0, .ref b)]) hx hb dL_law_1963 hl (by decide) rfl (fun ls hl => ?_)
  refine lv_aload_n hx hb dL_law_1965 rfl (lv_at hl 3 rfl) ?_
  refine lw_rd hx hb hX hbl hz w (lv_at hl 5 rfl) (lv_at hl 1 rfl) (j := 1) (hin 1 (by decide)) dL_law_1966 dL_law_1967 dL_law_1969 (by decide) dL_law_1970 dL_law_1971 ?_
  refine lw_rd hx hb hX hbl hz w (lv_at hl 5 rfl) (lv_at hl 1 rfl) (j := 2) (hin 2 (by decide)) dL_law_1972 dL_law_1973 dL_law_1975 (by decide) dL_law_1976 dL_law_1977 ?_
  refine lw_V rI (n := 2) (F := 15) (Lc := 318) (av := [.int (xs (x4 + 1).toNatClampNeg), .int (xs (x4 + 2).toNatClampNeg)]) (rest := []) (a := mm) C w hz rfl (by decide) m1 (k_M_told l D cy z N h1 mm (xs (x4 + 1).toNatClampNeg) (xs (x4 + 2).toNatClampNeg) v h2 m3) (Or.inl rfl) (Or.inl rfl) (sh_M_told N h1 mm (xs (x4 + 1).toNatClampNeg) (xs (x4 + 2).toNatClampNeg) _ _ m3).gr hB2 gw_55_10 gw_55_11 gw_55_12 gw_1_5 gw_55_13 (by decide +kernel) ⟨Nat.le_of_ble_eq_true rfl, Nat.le_of_ble_eq_true rfl⟩ rfl hl.1 rfl (Nat.le_of_ble_eq_true rfl) dL_law_1978 (fun k H locs w => ?_)
  show W p l e room_1 s m #[Value.ref b] below meth c H locs k (h_s h2) Qp (F0 m 1981 ls [.int v])
  refine lv_istore (lv' := [(6, .int v), (5, .int kc), (4, .int x4), (3, .ref o), (2, .ref mm), (1, .ref (Q 0)), (0, .ref b)]) hx hb dL_law_1981 hl (by decide) rfl (fun ls hl => ?_)
  refine lv_aload_n hx hb dL_law_1983 rfl (lv_at hl 4 rfl) ?_
  have e9 : f_M_thrown N h2 mm = some (kc, h2) := by unfold f_M_thrown; rw [gI_k hkm2, m4]
  refine lw_V rI (n := 0) (F := 0) (Lc := 0) (av := []) (rest := []) (a := mm) C w hz rfl (by decide) hkm2 (k_M_thrown l D cy z N h2 mm kc h2 e9) (Or.inl rfl) (Or.inl rfl) (sh_M_thrown N h2 mm _ _ e9).gr hB2 gw_31_11 gw_31_12 gw_31_13 gw_1_5 gw_31_14 (by decide +kernel) ⟨Nat.le_of_ble_eq_true rfl, Nat.le_of_ble_eq_true rfl⟩ rfl hl.1 rfl (Nat.le_of_ble_eq_true rfl) dL_law_1984 (fun k H locs w => ?_)
  show W p l e room_1 s m #[Value.ref b] below meth c H locs k (h_s h2) Qp (F0 m 1987 ls [.int kc])
  refine lv_iload hx hb dL_law_1987 (lv_at hl 1 rfl) ?_
  refine lv_icmp_eq (tgt := 1994) hx hb dL_law_1989 (by decide) (fun _ => ?_) (fun q => absurd rfl q)
  refine lv_iload hx hb dL_law_1994 (lv_at hl 1 rfl) ?_
  refine lv_if_ne (tgt := 2011) hx hb dL_law_1996 (by decide) (fun _ => ?_) (fun q0 => ?_)
  · exact lv_goto (tgt := 2554) hx hb dL_law_2011 (by decide) (NX h2 k H locs ls m6 w (lv_sub hl [2, 3, 4, 5, 6] rfl))
  · refine lv_aload_n hx hb dL_law_1999 rfl (lv_at hl 3 rfl) ?_
    refine lv_iconst (v := 0) hx hb dL_law_2000 (by decide) ?_
    have hu : aJ h2 (some o) (0 : Int32) (fun v => some v) = some (h_j h2 o 0) := by rw [show (0 : Int32) = iI ((0 : Nat) : Int) from rfl, aJ_i (n := 1) ⟨hko2.1, hko2.2.1⟩ (by omega) (by omega)]
    refine w_aJ (r := some o) C w dL_law_2001 hu (fun v9 e9 => ?_)
    cases e9
    refine lv_iload hx hb dL_law_2002 (lv_at hl 0 rfl) ?_
    refine lv_i2l hx hb dL_law_2004 rfl ?_
    refine W.lcmp hx hb dL_law_2005 ?_
    refine lv_if_eq (tgt := 2011) hx hb dL_law_2006 (by decide) (fun _ => ?_) (fun q => absurd (by rw [m5 q0]; exact lg_cmp_self _) q)
    exact lv_goto (tgt := 2554) hx hb dL_law_2011 (by decide) (NX h2 k H locs ls m6 w (lv_sub hl [2, 3, 4, 5, 6] rfl))
set_option maxRecDepth 20000 in
set_option maxHeartbeats 4000000 in
theorem lc_does (E : lwC p s m meth c b L xs z w0) (hst : l.stackTraces = false) (hN : 100000 ≤ N) (P : PJ Q A mm o (13 * z + 7293034) n h) (hn : n < 512) (w : wd D cy z s k h H locs) (hl : lv_has ls 8 [(4, .int x4), (3, .ref o), (2, .ref mm), (1, .ref (Q 0)), (0, .ref b)]) (hin : ∀ j : Int32, (j = 1 ∨ j = 2 ∨ j = 3 ∨ j = 4 ∨ j = 5) → vp_in (x4 + j) L) (NX : LN p l e s m b below meth c D cy z Q A mm o n x4 Qp) : W p l e room_1 s m #[Value.ref b] below meth c H locs k (h_s h) Qp (F0 m 2014 ls []) := by
  obtain ⟨C, hX, hbl, hz⟩ := E
  obtain ⟨hx, hb, -, -, hown, hts, -⟩ := id C
  obtain ⟨hkx, hko, hkm, hB0⟩ := P.top
  obtain ⟨a, g, h2, e1, e2, e3, e4, e5⟩ := op_does N hN P hn (xs (x4 + 1).toNatClampNeg) (xs (x4 + 2).toNatClampNeg) (xs (x4 + 3).toNatClampNeg) (xs (x4 + 4).toNatClampNeg)
  have e4 : f_M_does N g mm (xs (x4 + 1).toNatClampNeg) (xs (x4 + 2).toNatClampNeg) (xs (x4 + 3).toNatClampNeg) (xs (x4 + 4).toNatClampNeg) = some (a, h2) := e4
  have hB2 := e5.top.2.2.2
  refine lv_aload_n hx hb dL_law_2014 rfl (lv_at hl 3 rfl) ?_
  refine lw_rd hx hb hX hbl hz w (lv_at hl 4 rfl) (lv_at hl 0 rfl) (j := 1) (hin 1 (by decide)) dL_law_2015 dL_law_2016 dL_law_2018 (by decide) dL_law_2019 dL_law_2020 ?_
  refine lw_rd hx hb hX hbl hz w (lv_at hl 4 rfl) (lv_at hl 0 rfl) (j := 2) (hin 2 (by decide)) dL_law_2021 dL_law_2022 dL_law_2024 (by decide) dL_law_2025 dL_law_2026 ?_
  refine lw_rd hx hb hX hbl hz w (lv_at hl 4 rfl) (lv_at hl 0 rfl) (j := 3) (hin 3 (by decide)) dL_law_2027 dL_law_2028 dL_law_2030 (by decide) dL_law_2031 dL_law_2032 ?_
  refine lw_rd hx hb hX hbl hz w (lv_at hl 4 rfl) (lv_at hl 0 rfl) (j := 4) (hin 4 (by decide)) dL_law_2033 dL_law_2034 dL_law_2036 (by decide) dL_law_2037 dL_law_2038 ?_
  refine lw_V rI (n := 4) (F := 10) (Lc := 168) (av := [.int (xs (x4 + 1).toNatClampNeg), .int (xs (x4 + 2).toNatClampNeg), .int (xs (x4 + 3).toNatClampNeg), .int (xs (x4 + 4).toNatClampNeg)]) (rest := []) (a := (Q 0)) C w hz rfl (by decide) hkx (k_K_does l hst D cy z N h (Q 0) (xs (x4 + 1).toNatClampNeg) (xs (x4 + 2).toNatClampNeg) (xs (x4 + 3).toNatClampNeg) (xs (x4 + 4).toNatClampNeg) a g e1) (Or.inr rfl) (Or.inr rfl) (mo_K_does N h (Q 0) (xs (x4 + 1).toNatClampNeg) (xs (x4 + 2).toNatClampNeg) (xs (x4 + 3).toNatClampNeg) (xs (x4 + 4).toNatClampNeg) _ _ e1) e3 gw_56_9 gw_56_10 gw_56_11 gw_1_2 gw_56_12 (by decide +kernel) ⟨Nat.le_of_ble_eq_true rfl, Nat.le_of_ble_eq_true rfl⟩ rfl hl.1 rfl (Nat.le_of_ble_eq_true rfl) dL_law_2039 (fun k H locs w => ?_)
  show W p l e room_1 s m #[Value.ref b] below meth c H locs k (h_s g) Qp (F0 m 2042 ls [.int a])
  refine lv_aload_n hx hb dL_law_2042 rfl (lv_at hl 2 rfl) ?_
  refine lw_rd hx hb hX hbl hz w (lv_at hl 4 rfl) (lv_at hl 0 rfl) (j := 1) (hin 1 (by decide)) dL_law_2043 dL_law_2044 dL_law_2046 (by decide) dL_law_2047 dL_law_2048 ?_
  refine lw_rd hx hb hX hbl hz w (lv_at hl 4 rfl) (lv_at hl 0 rfl) (j := 2) (hin 2 (by decide)) dL_law_2049 dL_law_2050 dL_law_2052 (by decide) dL_law_2053 dL_law_2054 ?_
  refine lw_rd hx hb hX hbl hz w (lv_at hl 4 rfl) (lv_at hl 0 rfl) (j := 3) (hin 3 (by decide)) dL_law_2055 dL_law_2056 dL_law_2058 (by decide) dL_law_2059 dL_law_2060 ?_
  refine lw_rd hx hb hX hbl hz w (lv_at hl 4 rfl) (lv_at hl 0 rfl) (j := 4) (hin 4 (by decide)) dL_law_2061 dL_law_2062 dL_law_2064 (by decide) dL_law_2065 dL_law_2066 ?_
  refine lw_V rI (n := 4) (F := 9) (Lc := 242) (av := [.int (xs (x4 + 1).toNatClampNeg), .int (xs (x4 + 2).toNatClampNeg), .int (xs (x4 + 3).toNatClampNeg), .int (xs (x4 + 4).toNatClampNeg)]) (rest := [.int a]) (a := mm) C w hz rfl (by decide) e2 (k_M_does l D cy z N g mm (xs (x4 + 1).toNatClampNeg) (xs (x4 + 2).toNatClampNeg) (xs (x4 + 3).toNatClampNeg) (xs (x4 + 4).toNatClampNeg) a h2 e4) (Or.inr rfl) (Or.inr rfl) (mo_M_does N g mm (xs (x4 + 1).toNatClampNeg) (xs (x4 + 2).toNatClampNeg) (xs (x4 + 3).toNatClampNeg) (xs (x4 + 4).toNatClampNeg) _ _ e4) hB2 gw_57_8 gw_57_9 gw_57_10 gw_1_5 gw_57_11 (by decide +kernel) ⟨Nat.le_of_ble_eq_true rfl, Nat.le_of_ble_eq_true rfl⟩ rfl hl.1 rfl (Nat.le_of_ble_eq_true rfl) dL_law_2067 (fun k H locs w => ?_)
  show W p l e room_1 s m #[Value.ref b] below meth c H locs k (h_s h2) Qp (F0 m 2070 ls [.int a, .int a])
  refine lv_icmp_eq (tgt := 2554) hx hb dL_law_2070 (by decide) (fun _ => ?_) (fun q => absurd rfl q)
  exact NX h2 k H locs ls e5 w hl
set_option maxRecDepth 20000 in
set_option maxHeartbeats 4000000 in
theorem lc_puts (E : lwC p s m meth c b L xs z w0) (hst : l.stackTraces = false) (hN : 100000 ≤ N) (P : PJ Q A mm o (13 * z + 7293034) n h) (hn : n < 512) (w : wd D cy z s k h H locs) (hl : lv_has ls 8 [(4, .int x4), (3, .ref o), (2, .ref mm), (1, .ref (Q 0)), (0, .ref b)]) (hin : ∀ j : Int32, (j = 1 ∨ j = 2 ∨ j = 3 ∨ j = 4 ∨ j = 5) → vp_in (x4 + j) L) (NX : LN p l e s m b below meth c D cy z Q A mm o n x4 Qp) : W p l e room_1 s m #[Value.ref b] below meth c H locs k (h_s h) Qp (F0 m 2075 ls []) := by
  obtain ⟨C, hX, hbl, hz⟩ := E
  obtain ⟨hx, hb, -, -, hown, hts, -⟩ := id C
  obtain ⟨hkx, hko, hkm, hB0⟩ := P.top
  obtain ⟨a, g, h2, e1, e2, e3, e4, e5⟩ := op_puts N hN P hn (xs (x4 + 1).toNatClampNeg) (xs (x4 + 2).toNatClampNeg) (xs (x4 + 3).toNatClampNeg) (xs (x4 + 4).toNatClampNeg) (xs (x4 + 5).toNatClampNeg)
  have e4 : f_M_puts N g mm (xs (x4 + 1).toNatClampNeg) (xs (x4 + 2).toNatClampNeg) (xs (x4 + 3).toNatClampNeg) (xs (x4 + 4).toNatClampNeg) (xs (x4 + 5).toNatClampNeg) = some (a, h2) := e4
  have hB2 := e5.top.2.2.2
  refine lv_aload_n hx hb dL_law_2075 rfl (lv_at hl 3 rfl) ?_
  refine lw_rd hx hb hX hbl hz w (lv_at hl 4 rfl) (lv_at hl 0 rfl) (j := 1) (hin 1 (by decide)) dL_law_2076 dL_law_2077 dL_law_2079 (by decide) dL_law_2080 dL_law_2081 ?_
  refine lw_rd hx hb hX hbl hz w (lv_at hl 4 rfl) (lv_at hl 0 rfl) (j := 2) (hin 2 (by decide)) dL_law_2082 dL_law_2083 dL_law_2085 (by decide) dL_law_2086 dL_law_2087 ?_
  refine lw_rd hx hb hX hbl hz w (lv_at hl 4 rfl) (lv_at hl 0 rfl) (j := 3) (hin 3 (by decide)) dL_law_2088 dL_law_2089 dL_law_2091 (by decide) dL_law_2092 dL_law_2093 ?_
  refine lw_rd hx hb hX hbl hz w (lv_at hl 4 rfl) (lv_at hl 0 rfl) (j := 4) (hin 4 (by decide)) dL_law_2094 dL_law_2095 dL_law_2097 (by decide) dL_law_2098 dL_law_2099 ?_
  refine lw_rd hx hb hX hbl hz w (lv_at hl 4 rfl) (lv_at hl 0 rfl) (j := 5) (hin 5 (by decide)) dL_law_2100 dL_law_2101 dL_law_2103 (by decide) dL_law_2104 dL_law_2105 ?_
  refine lw_V rI (n := 5) (F := 11) (Lc := 185) (av := [.int (xs (x4 + 1).toNatClampNeg), .int (xs (x4 + 2).toNatClampNeg), .int (xs (x4 + 3).toNatClampNeg), .int (xs (x4 + 4).toNatClampNeg), .int (xs (x4 + 5).toNatClampNeg)]) (rest := []) (a := (Q 0)) C w hz rfl (by decide) hkx (k_K_puts l hst D cy z N h (Q 0) (xs (x4 + 1).toNatClampNeg) (xs (x4 + 2).toNatClampNeg) (xs (x4 + 3).toNatClampNeg) (xs (x4 + 4).toNatClampNeg) (xs (x4 + 5).toNatClampNeg) a g e1) (Or.inr rfl) (Or.inr rfl) (mo_K_puts N h (Q 0) (xs (x4 + 1).toNatClampNeg) (xs (x4 + 2).toNatClampNeg) (xs (x4 + 3).toNatClampNeg) (xs (x4 + 4).toNatClampNeg) (xs (x4 + 5).toNatClampNeg) _ _ e1) e3 gw_58_7 gw_58_8 gw_58_9 gw_1_2 gw_58_10 (by decide +kernel) ⟨Nat.le_of_ble_eq_true rfl, Nat.le_of_ble_eq_true rfl⟩ rfl hl.1 rfl (Nat.le_of_ble_eq_true rfl) dL_law_2106 (fun k H locs w => ?_)
  show W p l e room_1 s m #[Value.ref b] below meth c H locs k (h_s g) Qp (F0 m 2109 ls [.int a])
  refine lv_aload_n hx hb dL_law_2109 rfl (lv_at hl 2 rfl) ?_
  refine lw_rd hx hb hX hbl hz w (lv_at hl 4 rfl) (lv_at hl 0 rfl) (j := 1) (hin 1 (by decide)) dL_law_2110 dL_law_2111 dL_law_2113 (by decide) dL_law_2114 dL_law_2115 ?_
  refine lw_rd hx hb hX hbl hz w (lv_at hl 4 rfl) (lv_at hl 0 rfl) (j := 2) (hin 2 (by decide)) dL_law_2116 dL_law_2117 dL_law_2119 (by decide) dL_law_2120 dL_law_2121 ?_
  refine lw_rd hx hb hX hbl hz w (lv_at hl 4 rfl) (lv_at hl 0 rfl) (j := 3) (hin 3 (by decide)) dL_law_2122 dL_law_2123 dL_law_2125 (by decide) dL_law_2126 dL_law_2127 ?_
  refine lw_rd hx hb hX hbl hz w (lv_at hl 4 rfl) (lv_at hl 0 rfl) (j := 4) (hin 4 (by decide)) dL_law_2128 dL_law_2129 dL_law_2131 (by decide) dL_law_2132 dL_law_2133 ?_
  refine lw_rd hx hb hX hbl hz w (lv_at hl 4 rfl) (lv_at hl 0 rfl) (j := 5) (hin 5 (by decide)) dL_law_2134 dL_law_2135 dL_law_2137 (by decide) dL_law_2138 dL_law_2139 ?_
  refine lw_V rI (n := 5) (F := 8) (Lc := 215) (av := [.int (xs (x4 + 1).toNatClampNeg), .int (xs (x4 + 2).toNatClampNeg), .int (xs (x4 + 3).toNatClampNeg), .int (xs (x4 + 4).toNatClampNeg), .int (xs (x4 + 5).toNatClampNeg)]) (rest := [.int a]) (a := mm) C w hz rfl (by decide) e2 (k_M_puts l D cy z N g mm (xs (x4 + 1).toNatClampNeg) (xs (x4 + 2).toNatClampNeg) (xs (x4 + 3).toNatClampNeg) (xs (x4 + 4).toNatClampNeg) (xs (x4 + 5).toNatClampNeg) a h2 e4) (Or.inr rfl) (Or.inr rfl) (mo_M_puts N g mm (xs (x4 + 1).toNatClampNeg) (xs (x4 + 2).toNatClampNeg) (xs (x4 + 3).toNatClampNeg) (xs (x4 + 4).toNatClampNeg) (xs (x4 + 5).toNatClampNeg) _ _ e4) hB2 gw_58_15 gw_57_13 gw_57_14 gw_1_5 gw_57_15 (by decide +kernel) ⟨Nat.le_of_ble_eq_true rfl, Nat.le_of_ble_eq_true rfl⟩ rfl hl.1 rfl (Nat.le_of_ble_eq_true rfl) dL_law_2140 (fun k H locs w => ?_)
  show W p l e room_1 s m #[Value.ref b] below meth c H locs k (h_s h2) Qp (F0 m 2143 ls [.int a, .int a])
  refine lv_icmp_eq (tgt := 2554) hx hb dL_law_2143 (by decide) (fun _ => ?_) (fun q => absurd rfl q)
  exact NX h2 k H locs ls e5 w hl
set_option maxRecDepth 20000 in
set_option maxHeartbeats 4000000 in
theorem lc_takes (E : lwC p s m meth c b L xs z w0) (hst : l.stackTraces = false) (hN : 100000 ≤ N) (P : PJ Q A mm o (13 * z + 7293034) n h) (hn : n < 512) (w : wd D cy z s k h H locs) (hl : lv_has ls 8 [(4, .int x4), (3, .ref o), (2, .ref mm), (1, .ref (Q 0)), (0, .ref b)]) (hin : ∀ j : Int32, (j = 1 ∨ j = 2 ∨ j = 3 ∨ j = 4 ∨ j = 5) → vp_in (x4 + j) L) (NX : LN p l e s m b below meth c D cy z Q A mm o n x4 Qp) : W p l e room_1 s m #[Value.ref b] below meth c H locs k (h_s h) Qp (F0 m 2148 ls []) := by
  obtain ⟨C, hX, hbl, hz⟩ := E
  obtain ⟨hx, hb, -, -, hown, hts, -⟩ := id C
  obtain ⟨hkx, hko, hkm, hB0⟩ := P.top
  obtain ⟨a, g, h2, e1, e2, e3, e4, e5⟩ := op_takes N hN P hn (xs (x4 + 1).toNatClampNeg) (xs (x4 + 2).toNatClampNeg)
  have e4 : f_M_takes N g mm (xs (x4 + 1).toNatClampNeg) (xs (x4 + 2).toNatClampNeg) = some (a, h2) := e4
  have hB2 := e5.top.2.2.2
  refine lv_aload_n hx hb dL_law_2148 rfl (lv_at hl 3 rfl) ?_
  refine lw_rd hx hb hX hbl hz w (lv_at hl 4 rfl) (lv_at hl 0 rfl) (j := 1) (hin 1 (by decide)) dL_law_2149 dL_law_2150 dL_law_2152 (by decide) dL_law_2153 dL_law_2154 ?_
  refine lw_rd hx hb hX hbl hz w (lv_at hl 4 rfl) (lv_at hl 0 rfl) (j := 2) (hin 2 (by decide)) dL_law_2155 dL_law_2156 dL_law_2158 (by decide) dL_law_2159 dL_law_2160 ?_
  refine lw_V rI (n := 2) (F := 11) (Lc := 185) (av := [.int (xs (x4 + 1).toNatClampNeg), .int (xs (x4 + 2).toNatClampNeg)]) (rest := []) (a := (Q 0)) C w hz rfl (by decide) hkx (k_K_takes l hst D cy z N h (Q 0) (xs (x4 + 1).toNatClampNeg) (xs (x4 + 2).toNatClampNeg) a g e1) (Or.inr rfl) (Or.inr rfl) (mo_K_takes N h (Q 0) (xs (x4 + 1).toNatClampNeg) (xs (x4 + 2).toNatClampNeg) _ _ e1) e3 gw_58_16 gw_58_17 gw_58_18 gw_1_2 gw_58_19 (by decide +kernel) ⟨Nat.le_of_ble_eq_true rfl, Nat.le_of_ble_eq_true rfl⟩ rfl hl.1 rfl (Nat.le_of_ble_eq_true rfl) dL_law_2161 (fun k H locs w => ?_)
  show W p l e room_1 s m #[Value.ref b] below meth c H locs k (h_s g) Qp (F0 m 2164 ls [.int a])
  refine lv_aload_n hx hb dL_law_2164 rfl (lv_at hl 2 rfl) ?_
  refine lw_rd hx hb hX hbl hz w (lv_at hl 4 rfl) (lv_at hl 0 rfl) (j := 1) (hin 1 (by decide)) dL_law_2165 dL_law_2166 dL_law_2168 (by decide) dL_law_2169 dL_law_2170 ?_
  refine lw_rd hx hb hX hbl hz w (lv_at hl 4 rfl) (lv_at hl 0 rfl) (j := 2) (hin 2 (by decide)) dL_law_2171 dL_law_2172 dL_law_2174 (by decide) dL_law_2175 dL_law_2176 ?_
  refine lw_V rI (n := 2) (F := 7) (Lc := 193) (av := [.int (xs (x4 + 1).toNatClampNeg), .int (xs (x4 + 2).toNatClampNeg)]) (rest := [.int a]) (a := mm) C w hz rfl (by decide) e2 (k_M_takes l D cy z N g mm (xs (x4 + 1).toNatClampNeg) (xs (x4 + 2).toNatClampNeg) a h2 e4) (Or.inl rfl) (Or.inl rfl) (sh_M_takes N g mm (xs (x4 + 1).toNatClampNeg) (xs (x4 + 2).toNatClampNeg) _ _ e4).gr hB2 gw_59_0 gw_59_1 gw_59_2 gw_1_5 gw_59_3 (by decide +kernel) ⟨Nat.le_of_ble_eq_true rfl, Nat.le_of_ble_eq_true rfl⟩ rfl hl.1 rfl (Nat.le_of_ble_eq_true rfl) dL_law_2177 (fun k H locs w => ?_)
  show W p l e room_1 s m #[Value.ref b] below meth c H locs k (h_s h2) Qp (F0 m 2180 ls [.int a, .int a])
  refine lv_icmp_eq (tgt := 2554) hx hb dL_law_2180 (by decide) (fun _ => ?_) (fun q => absurd rfl q)
  exact NX h2 k H locs ls e5 w hl
set_option maxRecDepth 20000 in
set_option maxHeartbeats 4000000 in
theorem lc_copy (E : lwC p s m meth c b L xs z w0) (hst : l.stackTraces = false) (hN : 100000 ≤ N) (P : PJ Q A mm o (13 * z + 7293034) n h) (hn : n < 512) (w : wd D cy z s k h H locs) (hl : lv_has ls 8 [(4, .int x4), (3, .ref o), (2, .ref mm), (1, .ref (Q 0)), (0, .ref b)]) (hin : ∀ j : Int32, (j = 1 ∨ j = 2 ∨ j = 3 ∨ j = 4 ∨ j = 5) → vp_in (x4 + j) L) (NX : LN p l e s m b below meth c D cy z Q A mm o n x4 Qp) : W p l e room_1 s m #[Value.ref b] below meth c H locs k (h_s h) Qp (F0 m 2185 ls []) := by
  obtain ⟨C, hX, hbl, hz⟩ := E
  obtain ⟨hx, hb, -, -, hown, hts, -⟩ := id C
  obtain ⟨hkx, hko, hkm, hB0⟩ := P.top
  obtain ⟨a, g, h2, e1, e2, e3, e4, e5⟩ := op_copy N hN P hn (xs (x4 + 1).toNatClampNeg) (xs (x4 + 2).toNatClampNeg)
  have e4 : f_M_copy N g mm (xs (x4 + 1).toNatClampNeg) (xs (x4 + 2).toNatClampNeg) = some (a, h2) := e4
  have hB2 := e5.top.2.2.2
  refine lv_aload_n hx hb dL_law_2185 rfl (lv_at hl 3 rfl) ?_
  refine lw_rd hx hb hX hbl hz w (lv_at hl 4 rfl) (lv_at hl 0 rfl) (j := 1) (hin 1 (by decide)) dL_law_2186 dL_law_2187 dL_law_2189 (by decide) dL_law_2190 dL_law_2191 ?_
  refine lw_rd hx hb hX hbl hz w (lv_at hl 4 rfl) (lv_at hl 0 rfl) (j := 2) (hin 2 (by decide)) dL_law_2192 dL_law_2193 dL_law_2195 (by decide) dL_law_2196 dL_law_2197 ?_
  refine lw_V rI (n := 2) (F := 10) (Lc := 164) (av := [.int (xs (x4 + 1).toNatClampNeg), .int (xs (x4 + 2).toNatClampNeg)]) (rest := []) (a := (Q 0)) C w hz rfl (by decide) hkx (k_K_copy l hst D cy z N h (Q 0) (xs (x4 + 1).toNatClampNeg) (xs (x4 + 2).toNatClampNeg) a g e1) (Or.inr rfl) (Or.inr rfl) (mo_K_copy N h (Q 0) (xs (x4 + 1).toNatClampNeg) (xs (x4 + 2).toNatClampNeg) _ _ e1) e3 gw_59_4 gw_59_5 gw_59_6 gw_1_2 gw_59_7 (by decide +kernel) ⟨Nat.le_of_ble_eq_true rfl, Nat.le_of_ble_eq_true rfl⟩ rfl hl.1 rfl (Nat.le_of_ble_eq_true rfl) dL_law_2198 (fun k H locs w => ?_)
  show W p l e room_1 s m #[Value.ref b] below meth c H locs k (h_s g) Qp (F0 m 2201 ls [.int a])
  refine lv_aload_n hx hb dL_law_2201 rfl (lv_at hl 2 rfl) ?_
  refine lw_rd hx hb hX hbl hz w (lv_at hl 4 rfl) (lv_at hl 0 rfl) (j := 1) (hin 1 (by decide)) dL_law_2202 dL_law_2203 dL_law_2205 (by decide) dL_law_2206 dL_law_2207 ?_
  refine lw_rd hx hb hX hbl hz w (lv_at hl 4 rfl) (lv_at hl 0 rfl) (j := 2) (hin 2 (by decide)) dL_law_2208 dL_law_2209 dL_law_2211 (by decide) dL_law_2212 dL_law_2213 ?_
  refine lw_V rI (n := 2) (F := 7) (Lc := 193) (av := [.int (xs (x4 + 1).toNatClampNeg), .int (xs (x4 + 2).toNatClampNeg)]) (rest := [.int a]) (a := mm) C w hz rfl (by decide) e2 (k_M_copy l D cy z N g mm (xs (x4 + 1).toNatClampNeg) (xs (x4 + 2).toNatClampNeg) a h2 e4) (Or.inl rfl) (Or.inl rfl) (sh_M_copy N g mm (xs (x4 + 1).toNatClampNeg) (xs (x4 + 2).toNatClampNeg) _ _ e4).gr hB2 gw_59_14 gw_59_15 gw_59_16 gw_1_5 gw_59_17 (by decide +kernel) ⟨Nat.le_of_ble_eq_true rfl, Nat.le_of_ble_eq_true rfl⟩ rfl hl.1 rfl (Nat.le_of_ble_eq_true rfl) dL_law_2214 (fun k H locs w => ?_)
  show W p l e room_1 s m #[Value.ref b] below meth c H locs k (h_s h2) Qp (F0 m 2217 ls [.int a, .int a])
  refine lv_icmp_eq (tgt := 2554) hx hb dL_law_2217 (by decide) (fun _ => ?_) (fun q => absurd rfl q)
  exact NX h2 k H locs ls e5 w hl
set_option maxRecDepth 20000 in
set_option maxHeartbeats 4000000 in
theorem lc_undo (E : lwC p s m meth c b L xs z w0) (hst : l.stackTraces = false) (hN : 100000 ≤ N) (P : PJ Q A mm o (13 * z + 7293034) n h) (hn : n < 512) (w : wd D cy z s k h H locs) (hl : lv_has ls 8 [(4, .int x4), (3, .ref o), (2, .ref mm), (1, .ref (Q 0)), (0, .ref b)]) (hin : ∀ j : Int32, (j = 1 ∨ j = 2 ∨ j = 3 ∨ j = 4 ∨ j = 5) → vp_in (x4 + j) L) (NX : LN p l e s m b below meth c D cy z Q A mm o n x4 Qp) : W p l e room_1 s m #[Value.ref b] below meth c H locs k (h_s h) Qp (F0 m 2222 ls []) := by
  obtain ⟨C, hX, hbl, hz⟩ := E
  obtain ⟨hx, hb, -, -, hown, hts, -⟩ := id C
  obtain ⟨hkx, hko, hkm, hB0⟩ := P.top
  obtain ⟨a, g, h2, e1, e2, e3, e4, e5⟩ := op_undo N hN P hn
  have e4 : f_M_undo N g mm = some (a, h2) := e4
  have hB2 := e5.top.2.2.2
  refine lv_aload_n hx hb dL_law_2222 rfl (lv_at hl 3 rfl) ?_
  refine lw_V rI (n := 0) (F := 10) (Lc := 185) (av := []) (rest := []) (a := (Q 0)) C w hz rfl (by decide) hkx (k_K_undo l hst D cy z N h (Q 0) a g e1) (Or.inr rfl) (Or.inr rfl) (mo_K_undo N h (Q 0) _ _ e1) e3 gw_59_18 gw_59_19 gw_59_20 gw_1_2 gw_59_21 (by decide +kernel) ⟨Nat.le_of_ble_eq_true rfl, Nat.le_of_ble_eq_true rfl⟩ rfl hl.1 rfl (Nat.le_of_ble_eq_true rfl) dL_law_2223 (fun k H locs w => ?_)
  show W p l e room_1 s m #[Value.ref b] below meth c H locs k (h_s g) Qp (F0 m 2226 ls [.int a])
  refine lv_aload_n hx hb dL_law_2226 rfl (lv_at hl 2 rfl) ?_
  refine lw_V rI (n := 0) (F := 0) (Lc := 0) (av := []) (rest := [.int a]) (a := mm) C w hz rfl (by decide) e2 (k_M_undo l D cy z N g mm a h2 e4) (Or.inl rfl) (Or.inl rfl) (sh_M_undo N g mm _ _ e4).gr hB2 gw_60_6 gw_60_7 gw_60_8 gw_1_5 gw_60_9 (by decide +kernel) ⟨Nat.le_of_ble_eq_true rfl, Nat.le_of_ble_eq_true rfl⟩ rfl hl.1 rfl (Nat.le_of_ble_eq_true rfl) dL_law_2227 (fun k H locs w => ?_)
  show W p l e room_1 s m #[Value.ref b] below meth c H locs k (h_s h2) Qp (F0 m 2230 ls [.int a, .int a])
  refine lv_icmp_eq (tgt := 2554) hx hb dL_law_2230 (by decide) (fun _ => ?_) (fun q => absurd rfl q)
  exact NX h2 k H locs ls e5 w hl
set_option maxRecDepth 20000 in
set_option maxHeartbeats 4000000 in
theorem lc_note (E : lwC p s m meth c b L xs z w0) (hst : l.stackTraces = false) (hN : 100000 ≤ N) (P : PJ Q A mm o (13 * z + 7293034) n h) (hn : n < 512) (w : wd D cy z s k h H locs) (hl : lv_has ls 8 [(4, .int x4), (3, .ref o), (2, .ref mm), (1, .ref (Q 0)), (0, .ref b)]) (hin : ∀ j : Int32, (j = 1 ∨ j = 2 ∨ j = 3 ∨ j = 4 ∨ j = 5) → vp_in (x4 + j) L) (NX : LN p l e s m b below meth c D cy z Q A mm o n x4 Qp) : W p l e room_1 s m #[Value.ref b] below meth c H locs k (h_s h) Qp (F0 m 2235 ls []) := by
  obtain ⟨C, hX, hbl, hz⟩ := E
  obtain ⟨hx, hb, -, -, hown, hts, -⟩ := id C
  obtain ⟨hkx, hko, hkm, hB0⟩ := P.top
  obtain ⟨a, g, h2, e1, e2, e3, e4, e5⟩ := op_note N hN P hn (xs (x4 + 1).toNatClampNeg) ((xs (x4 + 2).toNatClampNeg).toInt64 <<< ((32 : Int32).toInt64 &&& 63) ||| (xs (x4 + 3).toNatClampNeg).toInt64 &&& (4294967295 : Int64))
  have e4 : f_M_note N g mm (xs (x4 + 1).toNatClampNeg) ((xs (x4 + 2).toNatClampNeg).toInt64 <<< ((32 : Int32).toInt64 &&& 63) ||| (xs (x4 + 3).toNatClampNeg).toInt64 &&& (4294967295 : Int64)) = some (a, h2) := e4
  have hB2 := e5.top.2.2.2
  refine lv_aload_n hx hb dL_law_2235 rfl (lv_at hl 3 rfl) ?_
  refine lw_rd hx hb hX hbl hz w (lv_at hl 4 rfl) (lv_at hl 0 rfl) (j := 1) (hin 1 (by decide)) dL_law_2236 dL_law_2237 dL_law_2239 (by decide) dL_law_2240 dL_law_2241 ?_
  refine lw_rd hx hb hX hbl hz w (lv_at hl 4 rfl) (lv_at hl 0 rfl) (j := 2) (hin 2 (by decide)) dL_law_2242 dL_law_2243 dL_law_2245 (by decide) dL_law_2246 dL_law_2247 ?_
  refine lv_i2l hx hb dL_law_2248 rfl ?_
  refine lv_bipush (v := 32) hx hb dL_law_2249 (by decide) ?_
  refine lv_lshl hx hb dL_law_2251 rfl ?_
  refine lw_rd hx hb hX hbl hz w (lv_at hl 4 rfl) (lv_at hl 0 rfl) (j := 3) (hin 3 (by decide)) dL_law_2252 dL_law_2253 dL_law_2255 (by decide) dL_law_2256 dL_law_2257 ?_
  refine lv_i2l hx hb dL_law_2258 rfl ?_
  refine lv_ldc2 hx hb hown (hts _ (List.mem_cons_of_mem _ gw_1_7)) dL_law_2259 ?_
  refine lv_land hx hb dL_law_2262 ?_
  refine lv_lor hx hb dL_law_2263 ?_
  refine lw_V rI (n := 2) (F := 1) (Lc := 20) (av := [.int (xs (x4 + 1).toNatClampNeg), .long ((xs (x4 + 2).toNatClampNeg).toInt64 <<< ((32 : Int32).toInt64 &&& 63) ||| (xs (x4 + 3).toNatClampNeg).toInt64 &&& (4294967295 : Int64))]) (rest := []) (a := (Q 0)) C w hz rfl (by decide) hkx (k_K_note l D cy z N h (Q 0) (xs (x4 + 1).toNatClampNeg) ((xs (x4 + 2).toNatClampNeg).toInt64 <<< ((32 : Int32).toInt64 &&& 63) ||| (xs (x4 + 3).toNatClampNeg).toInt64 &&& (4294967295 : Int64)) a g e1) (Or.inl rfl) (Or.inl rfl) (sh_K_note N h (Q 0) (xs (x4 + 1).toNatClampNeg) ((xs (x4 + 2).toNatClampNeg).toInt64 <<< ((32 : Int32).toInt64 &&& 63) ||| (xs (x4 + 3).toNatClampNeg).toInt64 &&& (4294967295 : Int64)) _ _ e1).gr e3 gw_60_10 gw_60_11 gw_60_12 gw_1_2 gw_60_13 (by decide +kernel) ⟨Nat.le_of_ble_eq_true rfl, Nat.le_of_ble_eq_true rfl⟩ rfl hl.1 rfl (Nat.le_of_ble_eq_true rfl) dL_law_2264 (fun k H locs w => ?_)
  show W p l e room_1 s m #[Value.ref b] below meth c H locs k (h_s g) Qp (F0 m 2267 ls [.int a])
  refine lv_aload_n hx hb dL_law_2267 rfl (lv_at hl 2 rfl) ?_
  refine lw_rd hx hb hX hbl hz w (lv_at hl 4 rfl) (lv_at hl 0 rfl) (j := 1) (hin 1 (by decide)) dL_law_2268 dL_law_2269 dL_law_2271 (by decide) dL_law_2272 dL_law_2273 ?_
  refine lw_rd hx hb hX hbl hz w (lv_at hl 4 rfl) (lv_at hl 0 rfl) (j := 2) (hin 2 (by decide)) dL_law_2274 dL_law_2275 dL_law_2277 (by decide) dL_law_2278 dL_law_2279 ?_
  refine lv_i2l hx hb dL_law_2280 rfl ?_
  refine lv_bipush (v := 32) hx hb dL_law_2281 (by decide) ?_
  refine lv_lshl hx hb dL_law_2283 rfl ?_
  refine lw_rd hx hb hX hbl hz w (lv_at hl 4 rfl) (lv_at hl 0 rfl) (j := 3) (hin 3 (by decide)) dL_law_2284 dL_law_2285 dL_law_2287 (by decide) dL_law_2288 dL_law_2289 ?_
  refine lv_i2l hx hb dL_law_2290 rfl ?_
  refine lv_ldc2 hx hb hown (hts _ (List.mem_cons_of_mem _ gw_1_7)) dL_law_2291 ?_
  refine lv_land hx hb dL_law_2294 ?_
  refine lv_lor hx hb dL_law_2295 ?_
  refine lw_V rI (n := 2) (F := 2) (Lc := 45) (av := [.int (xs (x4 + 1).toNatClampNeg), .long ((xs (x4 + 2).toNatClampNeg).toInt64 <<< ((32 : Int32).toInt64 &&& 63) ||| (xs (x4 + 3).toNatClampNeg).toInt64 &&& (4294967295 : Int64))]) (rest := [.int a]) (a := mm) C w hz rfl (by decide) e2 (k_M_note l D cy z N g mm (xs (x4 + 1).toNatClampNeg) ((xs (x4 + 2).toNatClampNeg).toInt64 <<< ((32 : Int32).toInt64 &&& 63) ||| (xs (x4 + 3).toNatClampNeg).toInt64 &&& (4294967295 : Int64)) a h2 e4) (Or.inl rfl) (Or.inl rfl) (sh_M_note N g mm (xs (x4 + 1).toNatClampNeg) ((xs (x4 + 2).toNatClampNeg).toInt64 <<< ((32 : Int32).toInt64 &&& 63) ||| (xs (x4 + 3).toNatClampNeg).toInt64 &&& (4294967295 : Int64)) _ _ e4).gr hB2 gw_60_16 gw_60_17 gw_60_18 gw_1_5 gw_60_19 (by decide +kernel) ⟨Nat.le_of_ble_eq_true rfl, Nat.le_of_ble_eq_true rfl⟩ rfl hl.1 rfl (Nat.le_of_ble_eq_true rfl) dL_law_2296 (fun k H locs w => ?_)
  show W p l e room_1 s m #[Value.ref b] below meth c H locs k (h_s h2) Qp (F0 m 2299 ls [.int a, .int a])
  refine lv_icmp_eq (tgt := 2554) hx hb dL_law_2299 (by decide) (fun _ => ?_) (fun q => absurd rfl q)
  exact NX h2 k H locs ls e5 w hl
set_option maxRecDepth 20000 in
set_option maxHeartbeats 4000000 in
theorem lc_fits (E : lwC p s m meth c b L xs z w0) (hst : l.stackTraces = false) (hN : 100000 ≤ N) (P : PJ Q A mm o (13 * z + 7293034) n h) (hn : n < 512) (w : wd D cy z s k h H locs) (hl : lv_has ls 8 [(4, .int x4), (3, .ref o), (2, .ref mm), (1, .ref (Q 0)), (0, .ref b)]) (hin : ∀ j : Int32, (j = 1 ∨ j = 2 ∨ j = 3 ∨ j = 4 ∨ j = 5) → vp_in (x4 + j) L) (NX : LN p l e s m b below meth c D cy z Q A mm o n x4 Qp) : W p l e room_1 s m #[Value.ref b] below meth c H locs k (h_s h) Qp (F0 m 2304 ls []) := by
  obtain ⟨C, hX, hbl, hz⟩ := E
  obtain ⟨hx, hb, -, -, hown, hts, -⟩ := id C
  obtain ⟨hkx, hko, hkm, hB0⟩ := P.top
  obtain ⟨r, g, e1, e2, e3, e4⟩ := op_fits N hN P hn (xs (x4 + 1).toNatClampNeg) (xs (x4 + 2).toNatClampNeg)
  refine lv_aload_n hx hb dL_law_2304 rfl (lv_at hl 3 rfl) ?_
  refine lw_rd hx hb hX hbl hz w (lv_at hl 4 rfl) (lv_at hl 0 rfl) (j := 1) (hin 1 (by decide)) dL_law_2305 dL_law_2306 dL_law_2308 (by decide) dL_law_2309 dL_law_2310 ?_
  refine lw_rd hx hb hX hbl hz w (lv_at hl 4 rfl) (lv_at hl 0 rfl) (j := 2) (hin 2 (by decide)) dL_law_2311 dL_law_2312 dL_law_2314 (by decide) dL_law_2315 dL_law_2316 ?_
  refine lv_aload_n hx hb dL_law_2317 rfl (lv_at hl 1 rfl) ?_
  refine lw_SL (n := 4) (F := 12) (Lc := 214) (av := [.ref (Q 0), .int (xs (x4 + 1).toNatClampNeg), .int (xs (x4 + 2).toNatClampNeg), .ref o]) (rest := []) C w hz (k_L_fits l hst D cy z N h (Q 0) o (xs (x4 + 1).toNatClampNeg) (xs (x4 + 2).toNatClampNeg) r g e1 hkx hko e2) e1 (mo_K_fits N h (Q 0) (xs (x4 + 1).toNatClampNeg) (xs (x4 + 2).toNatClampNeg) _ _ e1) e3 gw_60_20 gw_60_21 gw_8_22 gw_60_22 (by decide +kernel) ⟨Nat.le_of_ble_eq_true rfl, Nat.le_of_ble_eq_true rfl⟩ rfl hl.1 rfl (Nat.le_of_ble_eq_true rfl) dL_law_2318 (fun kc h1 k H locs wr w => ?_)
  obtain ⟨m1, m2, v, h2, m3, m4, m5, m6⟩ := e4 kc h1 wr
  have m3 : f_M_fits N h1 mm (xs (x4 + 1).toNatClampNeg) (xs (x4 + 2).toNatClampNeg) = some (v, h2) := m3
  obtain ⟨-, hko2, hkm2, hB2⟩ := m6.top
  refine lv_istore (lv' := [(5, .int kc), (4, .int x4), (3, .ref o), (2, .ref mm), (1, .ref (Q 0)), (0, .ref b)]) hx hb dL_law_2321 hl (by decide) rfl (fun ls hl => ?_)
  refine lv_aload_n hx hb dL_law_2323 rfl (lv_at hl 3 rfl) ?_
  refine lw_rd hx hb hX hbl hz w (lv_at hl 5 rfl) (lv_at hl 1 rfl) (j := 1) (hin 1 (by decide)) dL_law_2324 dL_law_2325 dL_law_2327 (by decide) dL_law_2328 dL_law_2329 ?_
  refine lw_rd hx hb hX hbl hz w (lv_at hl 5 rfl) (lv_at hl 1 rfl) (j := 2) (hin 2 (by decide)) dL_law_2330 dL_law_2331 dL_law_2333 (by decide) dL_law_2334 dL_law_2335 ?_
  refine lw_V rI (n := 2) (F := 8) (Lc := 219) (av := [.int (xs (x4 + 1).toNatClampNeg), .int (xs (x4 + 2).toNatClampNeg)]) (rest := []) (a := mm) C w hz rfl (by decide) m1 (k_M_fits l D cy z N h1 mm (xs (x4 + 1).toNatClampNeg) (xs (x4 + 2).toNatClampNeg) v h2 m3) (Or.inl rfl) (Or.inl rfl) (sh_M_fits N h1 mm (xs (x4 + 1).toNatClampNeg) (xs (x4 + 2).toNatClampNeg) _ _ m3).gr hB2 gw_61_12 gw_61_13 gw_61_14 gw_1_5 gw_61_15 (by decide +kernel) ⟨Nat.le_of_ble_eq_true rfl, Nat.le_of_ble_eq_true rfl⟩ rfl hl.1 rfl (Nat.le_of_ble_eq_true rfl) dL_law_2336 (fun k H locs w => ?_)
  show W p l e room_1 s m #[Value.ref b] below meth c H locs k (h_s h2) Qp (F0 m 2339 ls [.int v])
  refine lv_istore (lv' := [(6, .int v), (5, .int kc), (4, .int x4), (3, .ref o), (2, .ref mm), (1, .ref (Q 0)), (0, .ref b)]) hx hb dL_law_2339 hl (by decide) rfl (fun ls hl => ?_)
  refine lv_aload_n hx hb dL_law_2341 rfl (lv_at hl 4 rfl) ?_
  have e9 : f_M_thrown N h2 mm = some (kc, h2) := by unfold f_M_thrown; rw [gI_k hkm2, m4]
  refine lw_V rI (n := 0) (F := 0) (Lc := 0) (av := []) (rest := []) (a := mm) C w hz rfl (by decide) hkm2 (k_M_thrown l D cy z N h2 mm kc h2 e9) (Or.inl rfl) (Or.inl rfl) (sh_M_thrown N h2 mm _ _ e9).gr hB2 gw_31_11 gw_31_12 gw_31_13 gw_1_5 gw_31_14 (by decide +kernel) ⟨Nat.le_of_ble_eq_true rfl, Nat.le_of_ble_eq_true rfl⟩ rfl hl.1 rfl (Nat.le_of_ble_eq_true rfl) dL_law_2342 (fun k H locs w => ?_)
  show W p l e room_1 s m #[Value.ref b] below meth c H locs k (h_s h2) Qp (F0 m 2345 ls [.int kc])
  refine lv_iload hx hb dL_law_2345 (lv_at hl 1 rfl) ?_
  refine lv_icmp_eq (tgt := 2352) hx hb dL_law_2347 (by decide) (fun _ => ?_) (fun q => absurd rfl q)
  refine lv_iload hx hb dL_law_2352 (lv_at hl 1 rfl) ?_
  refine lv_if_ne (tgt := 2369) hx hb dL_law_2354 (by decide) (fun _ => ?_) (fun q0 => ?_)
  · exact lv_goto (tgt := 2554) hx hb dL_law_2369 (by decide) (NX h2 k H locs ls m6 w (lv_sub hl [2, 3, 4, 5, 6] rfl))
  · refine lv_aload_n hx hb dL_law_2357 rfl (lv_at hl 3 rfl) ?_
    refine lv_iconst (v := 0) hx hb dL_law_2358 (by decide) ?_
    have hu : aJ h2 (some o) (0 : Int32) (fun v => some v) = some (h_j h2 o 0) := by rw [show (0 : Int32) = iI ((0 : Nat) : Int) from rfl, aJ_i (n := 1) ⟨hko2.1, hko2.2.1⟩ (by omega) (by omega)]
    refine w_aJ (r := some o) C w dL_law_2359 hu (fun v9 e9 => ?_)
    cases e9
    refine lv_iload hx hb dL_law_2360 (lv_at hl 0 rfl) ?_
    refine lv_i2l hx hb dL_law_2362 rfl ?_
    refine W.lcmp hx hb dL_law_2363 ?_
    refine lv_if_eq (tgt := 2369) hx hb dL_law_2364 (by decide) (fun _ => ?_) (fun q => absurd (by rw [m5 q0]; exact lg_cmp_self _) q)
    exact lv_goto (tgt := 2554) hx hb dL_law_2369 (by decide) (NX h2 k H locs ls m6 w (lv_sub hl [2, 3, 4, 5, 6] rfl))
set_option maxRecDepth 20000 in
set_option maxHeartbeats 4000000 in
theorem lc_look (E : lwC p s m meth c b L xs z w0) (hst : l.stackTraces = false) (hN : 100000 ≤ N) (P : PJ Q A mm o (13 * z + 7293034) n h) (hn : n < 512) (w : wd D cy z s k h H locs) (hl : lv_has ls 8 [(4, .int x4), (3, .ref o), (2, .ref mm), (1, .ref (Q 0)), (0, .ref b)]) (hin : ∀ j : Int32, (j = 1 ∨ j = 2 ∨ j = 3 ∨ j = 4 ∨ j = 5) → vp_in (x4 + j) L) (NX : LN p l e s m b below meth c D cy z Q A mm o n x4 Qp) : W p l e room_1 s m #[Value.ref b] below meth c H locs k (h_s h) Qp (F0 m 2372 ls []) := by
  obtain ⟨C, hX, hbl, hz⟩ := E
  obtain ⟨hx, hb, -, -, hown, hts, -⟩ := id C
  obtain ⟨hkx, hko, hkm, hB0⟩ := P.top
  obtain ⟨r, g, e1, e2, e3, e4⟩ := op_look N hN P hn (xs (x4 + 1).toNatClampNeg) (xs (x4 + 2).toNatClampNeg)
  refine lv_aload_n hx hb dL_law_2372 rfl (lv_at hl 3 rfl) ?_
  refine lw_rd hx hb hX hbl hz w (lv_at hl 4 rfl) (lv_at hl 0 rfl) (j := 1) (hin 1 (by decide)) dL_law_2373 dL_law_2374 dL_law_2376 (by decide) dL_law_2377 dL_law_2378 ?_
  refine lw_rd hx hb hX hbl hz w (lv_at hl 4 rfl) (lv_at hl 0 rfl) (j := 2) (hin 2 (by decide)) dL_law_2379 dL_law_2380 dL_law_2382 (by decide) dL_law_2383 dL_law_2384 ?_
  refine lv_aload_n hx hb dL_law_2385 rfl (lv_at hl 1 rfl) ?_
  refine lw_SL (n := 4) (F := 12) (Lc := 213) (av := [.ref (Q 0), .int (xs (x4 + 1).toNatClampNeg), .int (xs (x4 + 2).toNatClampNeg), .ref o]) (rest := []) C w hz (k_L_look l hst D cy z N h (Q 0) o (xs (x4 + 1).toNatClampNeg) (xs (x4 + 2).toNatClampNeg) r g e1 hkx hko e2) e1 (mo_K_look N h (Q 0) (xs (x4 + 1).toNatClampNeg) (xs (x4 + 2).toNatClampNeg) _ _ e1) e3 gw_61_20 gw_61_21 gw_8_22 gw_61_22 (by decide +kernel) ⟨Nat.le_of_ble_eq_true rfl, Nat.le_of_ble_eq_true rfl⟩ rfl hl.1 rfl (Nat.le_of_ble_eq_true rfl) dL_law_2386 (fun kc h1 k H locs wr w => ?_)
  obtain ⟨m1, m2, v, h2, m3, m4, m5, m6⟩ := e4 kc h1 wr
  have m3 : f_M_look N h1 mm (xs (x4 + 1).toNatClampNeg) (xs (x4 + 2).toNatClampNeg) = some (v, h2) := m3
  obtain ⟨-, hko2, hkm2, hB2⟩ := m6.top
  refine lv_istore (lv' := [(5, .int kc), (4, .int x4), (3, .ref o), (2, .ref mm), (1, .ref (Q 0)), (0, .ref b)]) hx hb dL_law_2389 hl (by decide) rfl (fun ls hl => ?_)
  refine lv_aload_n hx hb dL_law_2391 rfl (lv_at hl 3 rfl) ?_
  refine lw_rd hx hb hX hbl hz w (lv_at hl 5 rfl) (lv_at hl 1 rfl) (j := 1) (hin 1 (by decide)) dL_law_2392 dL_law_2393 dL_law_2395 (by decide) dL_law_2396 dL_law_2397 ?_
  refine lw_rd hx hb hX hbl hz w (lv_at hl 5 rfl) (lv_at hl 1 rfl) (j := 2) (hin 2 (by decide)) dL_law_2398 dL_law_2399 dL_law_2401 (by decide) dL_law_2402 dL_law_2403 ?_
  refine lw_V rI (n := 2) (F := 8) (Lc := 219) (av := [.int (xs (x4 + 1).toNatClampNeg), .int (xs (x4 + 2).toNatClampNeg)]) (rest := []) (a := mm) C w hz rfl (by decide) m1 (k_M_look l D cy z N h1 mm (xs (x4 + 1).toNatClampNeg) (xs (x4 + 2).toNatClampNeg) v h2 m3) (Or.inl rfl) (Or.inl rfl) (sh_M_look N h1 mm (xs (x4 + 1).toNatClampNeg) (xs (x4 + 2).toNatClampNeg) _ _ m3).gr hB2 gw_62_10 gw_62_11 gw_62_12 gw_1_5 gw_62_13 (by decide +kernel) ⟨Nat.le_of_ble_eq_true rfl, Nat.le_of_ble_eq_true rfl⟩ rfl hl.1 rfl (Nat.le_of_ble_eq_true rfl) dL_law_2404 (fun k H locs w => ?_)
  show W p l e room_1 s m #[Value.ref b] below meth c H locs k (h_s h2) Qp (F0 m 2407 ls [.int v])
  refine lv_istore (lv' := [(6, .int v), (5, .int kc), (4, .int x4), (3, .ref o), (2, .ref mm), (1, .ref (Q 0)), (0, .ref b)]) hx hb dL_law_2407 hl (by decide) rfl (fun ls hl => ?_)
  refine lv_aload_n hx hb dL_law_2409 rfl (lv_at hl 4 rfl) ?_
  have e9 : f_M_thrown N h2 mm = some (kc, h2) := by unfold f_M_thrown; rw [gI_k hkm2, m4]
  refine lw_V rI (n := 0) (F := 0) (Lc := 0) (av := []) (rest := []) (a := mm) C w hz rfl (by decide) hkm2 (k_M_thrown l D cy z N h2 mm kc h2 e9) (Or.inl rfl) (Or.inl rfl) (sh_M_thrown N h2 mm _ _ e9).gr hB2 gw_31_11 gw_31_12 gw_31_13 gw_1_5 gw_31_14 (by decide +kernel) ⟨Nat.le_of_ble_eq_true rfl, Nat.le_of_ble_eq_true rfl⟩ rfl hl.1 rfl (Nat.le_of_ble_eq_true rfl) dL_law_2410 (fun k H locs w => ?_)
  show W p l e room_1 s m #[Value.ref b] below meth c H locs k (h_s h2) Qp (F0 m 2413 ls [.int kc])
  refine lv_iload hx hb dL_law_2413 (lv_at hl 1 rfl) ?_
  refine lv_icmp_eq (tgt := 2420) hx hb dL_law_2415 (by decide) (fun _ => ?_) (fun q => absurd rfl q)
  refine lv_iload hx hb dL_law_2420 (lv_at hl 1 rfl) ?_
  refine lv_if_ne (tgt := 2437) hx hb dL_law_2422 (by decide) (fun _ => ?_) (fun q0 => ?_)
  · exact lv_goto (tgt := 2554) hx hb dL_law_2437 (by decide) (NX h2 k H locs ls m6 w (lv_sub hl [2, 3, 4, 5, 6] rfl))
  · refine lv_aload_n hx hb dL_law_2425 rfl (lv_at hl 3 rfl) ?_
    refine lv_iconst (v := 0) hx hb dL_law_2426 (by decide) ?_
    have hu : aJ h2 (some o) (0 : Int32) (fun v => some v) = some (h_j h2 o 0) := by rw [show (0 : Int32) = iI ((0 : Nat) : Int) from rfl, aJ_i (n := 1) ⟨hko2.1, hko2.2.1⟩ (by omega) (by omega)]
    refine w_aJ (r := some o) C w dL_law_2427 hu (fun v9 e9 => ?_)
    cases e9
    refine lv_iload hx hb dL_law_2428 (lv_at hl 0 rfl) ?_
    refine lv_i2l hx hb dL_law_2430 rfl ?_
    refine W.lcmp hx hb dL_law_2431 ?_
    refine lv_if_eq (tgt := 2437) hx hb dL_law_2432 (by decide) (fun _ => ?_) (fun q => absurd (by rw [m5 q0]; exact lg_cmp_self _) q)
    exact lv_goto (tgt := 2554) hx hb dL_law_2437 (by decide) (NX h2 k H locs ls m6 w (lv_sub hl [2, 3, 4, 5, 6] rfl))
set_option maxRecDepth 20000 in
set_option maxHeartbeats 4000000 in
theorem lc_forget (E : lwC p s m meth c b L xs z w0) (hst : l.stackTraces = false) (hN : 100000 ≤ N) (P : PJ Q A mm o (13 * z + 7293034) n h) (hn : n < 512) (w : wd D cy z s k h H locs) (hl : lv_has ls 8 [(4, .int x4), (3, .ref o), (2, .ref mm), (1, .ref (Q 0)), (0, .ref b)]) (hin : ∀ j : Int32, (j = 1 ∨ j = 2 ∨ j = 3 ∨ j = 4 ∨ j = 5) → vp_in (x4 + j) L) (NX : LN p l e s m b below meth c D cy z Q A mm o n x4 Qp) : W p l e room_1 s m #[Value.ref b] below meth c H locs k (h_s h) Qp (F0 m 2440 ls []) := by
  obtain ⟨C, hX, hbl, hz⟩ := E
  obtain ⟨hx, hb, -, -, hown, hts, -⟩ := id C
  obtain ⟨hkx, hko, hkm, hB0⟩ := P.top
  obtain ⟨a, g, h2, e1, e2, e3, e4, e5⟩ := op_forget N hN P hn
  have e4 : f_M_forget N g mm = some (a, h2) := e4
  have hB2 := e5.top.2.2.2
  refine lv_aload_n hx hb dL_law_2440 rfl (lv_at hl 3 rfl) ?_
  refine lw_V rV (n := 0) (F := 0) (Lc := 0) (av := []) (rest := []) (a := (Q 0)) C w hz rfl (by decide) hkx (k_K_forget l D cy z N h (Q 0) a g e1) (Or.inl rfl) (Or.inl rfl) (sh_K_forget N h (Q 0) _ _ e1).gr e3 gw_62_18 gw_62_19 gw_62_20 gw_1_2 gw_62_21 (by decide +kernel) ⟨Nat.le_of_ble_eq_true rfl, Nat.le_of_ble_eq_true rfl⟩ rfl hl.1 rfl (Nat.le_of_ble_eq_true rfl) dL_law_2441 (fun k H locs w => ?_)
  show W p l e room_1 s m #[Value.ref b] below meth c H locs k (h_s g) Qp (F0 m 2444 ls [])
  refine lv_aload_n hx hb dL_law_2444 rfl (lv_at hl 2 rfl) ?_
  refine lw_V rV (n := 0) (F := 0) (Lc := 0) (av := []) (rest := []) (a := mm) C w hz rfl (by decide) e2 (k_M_forget l D cy z N g mm a h2 e4) (Or.inl rfl) (Or.inl rfl) (sh_M_forget N g mm _ _ e4).gr hB2 gw_62_22 gw_62_23 gw_63_0 gw_1_5 gw_63_1 (by decide +kernel) ⟨Nat.le_of_ble_eq_true rfl, Nat.le_of_ble_eq_true rfl⟩ rfl hl.1 rfl (Nat.le_of_ble_eq_true rfl) dL_law_2445 (fun k H locs w => ?_)
  show W p l e room_1 s m #[Value.ref b] below meth c H locs k (h_s h2) Qp (F0 m 2448 ls [])
  refine lv_goto (tgt := 2554) hx hb dL_law_2448 (by decide) ?_
  exact NX h2 k H locs ls e5 w hl
set_option maxRecDepth 20000 in
set_option maxHeartbeats 4000000 in
theorem lc_years (E : lwC p s m meth c b L xs z w0) (hst : l.stackTraces = false) (hN : 100000 ≤ N) (P : PJ Q A mm o (13 * z + 7293034) n h) (hn : n < 512) (w : wd D cy z s k h H locs) (hl : lv_has ls 8 [(4, .int x4), (3, .ref o), (2, .ref mm), (1, .ref (Q 0)), (0, .ref b)]) (hin : ∀ j : Int32, (j = 1 ∨ j = 2 ∨ j = 3 ∨ j = 4 ∨ j = 5) → vp_in (x4 + j) L) (NX : LN p l e s m b below meth c D cy z Q A mm o n x4 Qp) : W p l e room_1 s m #[Value.ref b] below meth c H locs k (h_s h) Qp (F0 m 2451 ls []) := by
  obtain ⟨C, hX, hbl, hz⟩ := E
  obtain ⟨hx, hb, -, -, hown, hts, -⟩ := id C
  obtain ⟨hkx, hko, hkm, hB0⟩ := P.top
  obtain ⟨r, g, e1, e2, e3, e4⟩ := op_years N hN P hn (xs (x4 + 1).toNatClampNeg) (xs (x4 + 2).toNatClampNeg) (xs (x4 + 3).toNatClampNeg)
  refine lv_aload_n hx hb dL_law_2451 rfl (lv_at hl 3 rfl) ?_
  refine lw_rd hx hb hX hbl hz w (lv_at hl 4 rfl) (lv_at hl 0 rfl) (j := 1) (hin 1 (by decide)) dL_law_2452 dL_law_2453 dL_law_2455 (by decide) dL_law_2456 dL_law_2457 ?_
  refine lw_rd hx hb hX hbl hz w (lv_at hl 4 rfl) (lv_at hl 0 rfl) (j := 2) (hin 2 (by decide)) dL_law_2458 dL_law_2459 dL_law_2461 (by decide) dL_law_2462 dL_law_2463 ?_
  refine lw_rd hx hb hX hbl hz w (lv_at hl 4 rfl) (lv_at hl 0 rfl) (j := 3) (hin 3 (by decide)) dL_law_2464 dL_law_2465 dL_law_2467 (by decide) dL_law_2468 dL_law_2469 ?_
  refine lv_aload_n hx hb dL_law_2470 rfl (lv_at hl 1 rfl) ?_
  refine lw_SL (n := 5) (F := 10) (Lc := 192) (av := [.ref (Q 0), .int (xs (x4 + 1).toNatClampNeg), .int (xs (x4 + 2).toNatClampNeg), .int (xs (x4 + 3).toNatClampNeg), .ref o]) (rest := []) C w hz (k_L_years l hst D cy z N h (Q 0) o (xs (x4 + 1).toNatClampNeg) (xs (x4 + 2).toNatClampNeg) (xs (x4 + 3).toNatClampNeg) r g e1 hkx hko e2) e1 (mo_K_years N h (Q 0) (xs (x4 + 1).toNatClampNeg) (xs (x4 + 2).toNatClampNeg) (xs (x4 + 3).toNatClampNeg) _ _ e1) e3 gw_63_2 gw_63_3 gw_8_22 gw_63_4 (by decide +kernel) ⟨Nat.le_of_ble_eq_true rfl, Nat.le_of_ble_eq_true rfl⟩ rfl hl.1 rfl (Nat.le_of_ble_eq_true rfl) dL_law_2471 (fun kc h1 k H locs wr w => ?_)
  obtain ⟨m1, m2, v, h2, m3, m4, m5, m6⟩ := e4 kc h1 wr
  have m3 : f_M_years N h1 mm (xs (x4 + 1).toNatClampNeg) (xs (x4 + 2).toNatClampNeg) (xs (x4 + 3).toNatClampNeg) = some (v, h2) := m3
  obtain ⟨-, hko2, hkm2, hB2⟩ := m6.top
  refine lv_istore (lv' := [(5, .int kc), (4, .int x4), (3, .ref o), (2, .ref mm), (1, .ref (Q 0)), (0, .ref b)]) hx hb dL_law_2474 hl (by decide) rfl (fun ls hl => ?_)
  refine lv_aload_n hx hb dL_law_2476 rfl (lv_at hl 3 rfl) ?_
  refine lw_rd hx hb hX hbl hz w (lv_at hl 5 rfl) (lv_at hl 1 rfl) (j := 1) (hin 1 (by decide)) dL_law_2477 dL_law_2478 dL_law_2480 (by decide) dL_law_2481 dL_law_2482 ?_
  refine lw_rd hx hb hX hbl hz w (lv_at hl 5 rfl) (lv_at hl 1 rfl) (j := 2) (hin 2 (by decide)) dL_law_2483 dL_law_2484 dL_law_2486 (by decide) dL_law_2487 dL_law_2488 ?_
  refine lw_rd hx hb hX hbl hz w (lv_at hl 5 rfl) (lv_at hl 1 rfl) (j := 3) (hin 3 (by decide)) dL_law_2489 dL_law_2490 dL_law_2492 (by decide) dL_law_2493 dL_law_2494 ?_
  refine lw_V rJ (n := 3) (F := 7) (Lc := 193) (av := [.int (xs (x4 + 1).toNatClampNeg), .int (xs (x4 + 2).toNatClampNeg), .int (xs (x4 + 3).toNatClampNeg)]) (rest := []) (a := mm) C w hz rfl (by decide) m1 (k_M_years l D cy z N h1 mm (xs (x4 + 1).toNatClampNeg) (xs (x4 + 2).toNatClampNeg) (xs (x4 + 3).toNatClampNeg) v h2 m3) (Or.inl rfl) (Or.inl rfl) (sh_M_years N h1 mm (xs (x4 + 1).toNatClampNeg) (xs (x4 + 2).toNatClampNeg) (xs (x4 + 3).toNatClampNeg) _ _ m3).gr hB2 gw_63_22 gw_63_23 gw_64_0 gw_1_5 gw_64_1 (by decide +kernel) ⟨Nat.le_of_ble_eq_true rfl, Nat.le_of_ble_eq_true rfl⟩ rfl hl.1 rfl (Nat.le_of_ble_eq_true rfl) dL_law_2495 (fun k H locs w => ?_)
  show W p l e room_1 s m #[Value.ref b] below meth c H locs k (h_s h2) Qp (F0 m 2498 ls [.long v])
  refine lv_lstore (lv' := [(6, .long v), (5, .int kc), (4, .int x4), (3, .ref o), (2, .ref mm), (1, .ref (Q 0)), (0, .ref b)]) hx hb dL_law_2498 hl (by decide) rfl (fun ls hl => ?_)
  refine lv_aload_n hx hb dL_law_2500 rfl (lv_at hl 4 rfl) ?_
  have e9 : f_M_thrown N h2 mm = some (kc, h2) := by unfold f_M_thrown; rw [gI_k hkm2, m4]
  refine lw_V rI (n := 0) (F := 0) (Lc := 0) (av := []) (rest := []) (a := mm) C w hz rfl (by decide) hkm2 (k_M_thrown l D cy z N h2 mm kc h2 e9) (Or.inl rfl) (Or.inl rfl) (sh_M_thrown N h2 mm _ _ e9).gr hB2 gw_31_11 gw_31_12 gw_31_13 gw_1_5 gw_31_14 (by decide +kernel) ⟨Nat.le_of_ble_eq_true rfl, Nat.le_of_ble_eq_true rfl⟩ rfl hl.1 rfl (Nat.le_of_ble_eq_true rfl) dL_law_2501 (fun k H locs w => ?_)
  show W p l e room_1 s m #[Value.ref b] below meth c H locs k (h_s h2) Qp (F0 m 2504 ls [.int kc])
  refine lv_iload hx hb dL_law_2504 (lv_at hl 1 rfl) ?_
  refine lv_icmp_eq (tgt := 2511) hx hb dL_law_2506 (by decide) (fun _ => ?_) (fun q => absurd rfl q)
  refine lv_iload hx hb dL_law_2511 (lv_at hl 1 rfl) ?_
  refine lv_if_ne (tgt := 2527) hx hb dL_law_2513 (by decide) (fun _ => ?_) (fun q0 => ?_)
  · exact lv_goto (tgt := 2554) hx hb dL_law_2527 (by decide) (NX h2 k H locs ls m6 w (lv_sub hl [2, 3, 4, 5, 6] rfl))
  · refine lv_aload_n hx hb dL_law_2516 rfl (lv_at hl 3 rfl) ?_
    refine lv_iconst (v := 0) hx hb dL_law_2517 (by decide) ?_
    have hu : aJ h2 (some o) (0 : Int32) (fun v => some v) = some (h_j h2 o 0) := by rw [show (0 : Int32) = iI ((0 : Nat) : Int) from rfl, aJ_i (n := 1) ⟨hko2.1, hko2.2.1⟩ (by omega) (by omega)]
    refine w_aJ (r := some o) C w dL_law_2518 hu (fun v9 e9 => ?_)
    cases e9
    refine lv_lload hx hb dL_law_2519 (lv_at hl 0 rfl) ?_
    refine W.lcmp hx hb dL_law_2521 ?_
    refine lv_if_eq (tgt := 2527) hx hb dL_law_2522 (by decide) (fun _ => ?_) (fun q => absurd (by rw [m5 q0]; exact lg_cmp_self _) q)
    exact lv_goto (tgt := 2554) hx hb dL_law_2527 (by decide) (NX h2 k H locs ls m6 w (lv_sub hl [2, 3, 4, 5, 6] rfl))
set_option maxRecDepth 20000 in
set_option maxHeartbeats 4000000 in
theorem lc_image (E : lwC p s m meth c b L xs z w0) (hst : l.stackTraces = false) (hN : 100000 ≤ N) (P : PJ Q A mm o (13 * z + 7293034) n h) (hn : n < 512) (w : wd D cy z s k h H locs) (hl : lv_has ls 8 [(4, .int x4), (3, .ref o), (2, .ref mm), (1, .ref (Q 0)), (0, .ref b)]) (hin : ∀ j : Int32, (j = 1 ∨ j = 2 ∨ j = 3 ∨ j = 4 ∨ j = 5) → vp_in (x4 + j) L) (NX : LN p l e s m b below meth c D cy z Q A mm o n x4 Qp) : W p l e room_1 s m #[Value.ref b] below meth c H locs k (h_s h) Qp (F0 m 2530 ls []) := by
  obtain ⟨C, hX, hbl, hz⟩ := E
  obtain ⟨hx, hb, -, -, hown, hts, -⟩ := id C
  obtain ⟨hkx, hko, hkm, hB0⟩ := P.top
  obtain ⟨a, g, h2, e1, e2, e3, e4, e5⟩ := op_image N hN P hn
  have e4 : f_M_image N g mm = some (a, h2) := e4
  have hB2 := e5.top.2.2.2
  refine lv_aload_n hx hb dL_law_2530 rfl (lv_at hl 3 rfl) ?_
  refine lw_V rV (n := 0) (F := 4) (Lc := 107) (av := []) (rest := []) (a := (Q 0)) C w hz rfl (by decide) hkx (k_K_image l D cy z N h (Q 0) a g e1) (Or.inr rfl) (Or.inr rfl) (mo_K_image N h (Q 0) _ _ e1) e3 gw_64_13 gw_64_14 gw_64_15 gw_1_2 gw_64_16 (by decide +kernel) ⟨Nat.le_of_ble_eq_true rfl, Nat.le_of_ble_eq_true rfl⟩ rfl hl.1 rfl (Nat.le_of_ble_eq_true rfl) dL_law_2531 (fun k H locs w => ?_)
  show W p l e room_1 s m #[Value.ref b] below meth c H locs k (h_s g) Qp (F0 m 2534 ls [])
  refine lv_aload_n hx hb dL_law_2534 rfl (lv_at hl 2 rfl) ?_
  refine lw_V rV (n := 0) (F := 1) (Lc := 22) (av := []) (rest := []) (a := mm) C w hz rfl (by decide) e2 (k_M_image l D cy z N g mm a h2 e4) (Or.inl rfl) (Or.inl rfl) (sh_M_image N g mm _ _ e4).gr hB2 gw_64_21 gw_64_22 gw_64_23 gw_1_5 gw_65_0 (by decide +kernel) ⟨Nat.le_of_ble_eq_true rfl, Nat.le_of_ble_eq_true rfl⟩ rfl hl.1 rfl (Nat.le_of_ble_eq_true rfl) dL_law_2535 (fun k H locs w => ?_)
  show W p l e room_1 s m #[Value.ref b] below meth c H locs k (h_s h2) Qp (F0 m 2538 ls [])
  refine lv_goto (tgt := 2554) hx hb dL_law_2538 (by decide) ?_
  exact NX h2 k H locs ls e5 w hl
set_option maxRecDepth 20000 in
set_option maxHeartbeats 4000000 in
theorem lc_restore (E : lwC p s m meth c b L xs z w0) (hst : l.stackTraces = false) (hN : 100000 ≤ N) (P : PJ Q A mm o (13 * z + 7293034) n h) (hn : n < 512) (w : wd D cy z s k h H locs) (hl : lv_has ls 8 [(4, .int x4), (3, .ref o), (2, .ref mm), (1, .ref (Q 0)), (0, .ref b)]) (hin : ∀ j : Int32, (j = 1 ∨ j = 2 ∨ j = 3 ∨ j = 4 ∨ j = 5) → vp_in (x4 + j) L) (NX : LN p l e s m b below meth c D cy z Q A mm o n x4 Qp) : W p l e room_1 s m #[Value.ref b] below meth c H locs k (h_s h) Qp (F0 m 2541 ls []) := by
  obtain ⟨C, hX, hbl, hz⟩ := E
  obtain ⟨hx, hb, -, -, hown, hts, -⟩ := id C
  obtain ⟨hkx, hko, hkm, hB0⟩ := P.top
  obtain ⟨a, g, h2, e1, e2, e3, e4, e5⟩ := op_restore N hN P hn
  have e4 : f_M_restore N g mm = some (a, h2) := e4
  have hB2 := e5.top.2.2.2
  refine lv_aload_n hx hb dL_law_2541 rfl (lv_at hl 3 rfl) ?_
  refine lw_V rI (n := 0) (F := 10) (Lc := 185) (av := []) (rest := []) (a := (Q 0)) C w hz rfl (by decide) hkx (k_K_restore l hst D cy z N h (Q 0) a g e1) (Or.inr rfl) (Or.inr rfl) (mo_K_restore N h (Q 0) _ _ e1) e3 gw_65_4 gw_65_5 gw_65_6 gw_1_2 gw_65_7 (by decide +kernel) ⟨Nat.le_of_ble_eq_true rfl, Nat.le_of_ble_eq_true rfl⟩ rfl hl.1 rfl (Nat.le_of_ble_eq_true rfl) dL_law_2542 (fun k H locs w => ?_)
  show W p l e room_1 s m #[Value.ref b] below meth c H locs k (h_s g) Qp (F0 m 2545 ls [.int a])
  refine lv_aload_n hx hb dL_law_2545 rfl (lv_at hl 2 rfl) ?_
  refine lw_V rI (n := 0) (F := 1) (Lc := 22) (av := []) (rest := [.int a]) (a := mm) C w hz rfl (by decide) e2 (k_M_restore l D cy z N g mm a h2 e4) (Or.inl rfl) (Or.inl rfl) (sh_M_restore N g mm _ _ e4).gr hB2 gw_65_8 gw_65_9 gw_65_10 gw_1_5 gw_65_11 (by decide +kernel) ⟨Nat.le_of_ble_eq_true rfl, Nat.le_of_ble_eq_true rfl⟩ rfl hl.1 rfl (Nat.le_of_ble_eq_true rfl) dL_law_2546 (fun k H locs w => ?_)
  show W p l e room_1 s m #[Value.ref b] below meth c H locs k (h_s h2) Qp (F0 m 2549 ls [.int a, .int a])
  refine lv_icmp_eq (tgt := 2554) hx hb dL_law_2549 (by decide) (fun _ => ?_) (fun q => absurd rfl q)
  exact NX h2 k H locs ls e5 w hl
end LC
