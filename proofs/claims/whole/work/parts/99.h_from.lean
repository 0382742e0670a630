/-! THE LAW'S START (written by wip/gen/genH.py) -/
theorem start_J (N : Nat) (hN : 20000 ≤ N) {ρ0 : Nat → Nat} {h0 : hS} (cn : CN ρ0 h0) (ws : ∀ k, k < 9 → WD ρ0 h0 (h_r h0 0 (18 + k)) (zWord k)) : ∃ g g2, f_K_init N (nw h0 13 0 18) (h_x h0) = some ((), g) ∧ f_M_init N (nw g 1 0 57) (h_x g) = some ((), g2) ∧ hm (nw g2 51 1 1) = hm h0 + 113736 ∧ qK (h_x h0) 0 = h_x h0 ∧ ∀ B, hm h0 + 6409356 ≤ B → PJ (qK (h_x h0)) (aM (h_x g)) (h_x g) (h_x g2) B 0 (nw g2 51 1 1) := by
  obtain ⟨ρ1, g, a1, K1, t1, m1, p1⟩ := kstart_is N hN ρ0 h0
  have cn1 := cn.keep (t1 (fun _ => False)) (fun z => z)
  have h00 : h_r g 0 = h_r h0 0 := (((t1 (fun _ => False)).2 0 cn.1.1).2.2.2 (fun z => z)).2.2
  have ws1 : ∀ k, k < 9 → WD ρ1 g (h_r g 0 (18 + k)) (zWord k) := fun k hk => by
    rw [h00]
    exact (ws k hk).keep (t1 (fun _ => False)) (fun z => z)
  obtain ⟨ρ2, g2, b1, M2, t2, m2, p2⟩ := mstart_is N ρ1 g cn1.1.1 ws1
  have tF := t2 (fun _ => False)
  obtain ⟨K2, k2⟩ := K1.oth tF (fun q z => z.elim)
  have cn2 := cn1.keep tF (fun z => z)
  have t3 : tr ρ2 g2 (fun _ => False) (ext ρ2 g2 301) (nw g2 51 1 1) := tr_nw
  obtain ⟨K3, k3⟩ := K2.oth t3 (fun q z => z.elim)
  have M3 := M2.keep t3 (fun z => z) (fun z => z)
  have p3 := M2.ptb t3 (fun z => z)
  have cn3 := cn2.keep t3 (fun z => z)
  have O3 : OU (ext ρ2 g2 301) (nw g2 51 1 1) (h_x g2) := ⟨by simp [h_k, nw, va_up], by simp [h_n, nw, va_up], by simp [ext], Nat.lt_succ_self _⟩
  have hm3 : hm (nw g2 51 1 1) = hm g2 + 14 := by
    unfold hm
    show 13 * (h_x g2 + 1) + (h_s g2 + 1) = 13 * h_x g2 + h_s g2 + 14
    omega
  refine ⟨g, g2, a1, b1, by omega, rfl, fun B hB => ⟨ext ρ2 g2 301, F00, [], ⟨K3, M3, cn3, O3⟩, Nat.le_refl _, ?_⟩⟩
  show jr _ _ _ + 57 * 0 + 1160 * (512 - 0) ≤ B
  unfold jr
  omega
section LH
variable {p : Program} {l : Launch} {e : Env} {s : State} {m : MethodId} {below : List Frame} {meth : Method} {c : Code} {Qp : State → Prop} {D : va_G} {cy : cyT} {z : Nat} {b L : Nat} {xs : Nat → Int32} {w0 : Cond} {N : Nat}
set_option maxRecDepth 20000 in
set_option maxHeartbeats 4000000 in
theorem law_from {ls : Array Slot} {ρ0 : Nat → Nat} {h0 : hS} (E : lwC p s m meth c b L xs z w0) (hst : l.stackTraces = false) (hN : 100000 ≤ N) (hL : L ≤ 3072) (RT : ∀ (H : Heap) (ls : Array Slot), W p l e room_1 s m #[Value.ref b] below meth c H [] 601024 7293034 Qp (F0 m 2561 ls [.int 1])) (w : wd D cy z s 0 h0 s.heap []) (hs0 : h_s h0 = 0) (cn : CN ρ0 h0) (ws : ∀ k, k < 9 → WD ρ0 h0 (h_r h0 0 (18 + k)) (zWord k)) (hl : lv_has ls 8 [(0, .ref b)]) : W p l e room_1 s m #[Value.ref b] below meth c s.heap [] 0 0 Qp (F0 m 0 ls []) := by
  obtain ⟨C, hX, hbl, hz⟩ := id E
  obtain ⟨hx, hb, -, -, hown, hts, -⟩ := id C
  have hx0 : h_x h0 = z := by
    have := wd_x w
    omega
  obtain ⟨g, g2, f1, f2, hm3, q00, PP⟩ := start_J N (by omega) cn ws
  have P := PP (13 * z + 7293034) (by unfold hm; omega)
  have u1 := mo_K_init N (nw h0 13 0 18) (h_x h0) _ _ f1
  have u2 := mo_M_init N (nw g 1 0 57) (h_x g) _ _ f2
  have u1a : h_x h0 + 1 ≤ h_x g := u1.1
  have u1b : h_s h0 + 18 ≤ h_s g := u1.2.1
  have u2a : h_x g + 1 ≤ h_x g2 := u2.1
  have u2b : h_s g + 57 ≤ h_s g2 := u2.2.1
  have hm4 : 13 * (h_x g2 + 1) + (h_s g2 + 1) = 13 * h_x h0 + h_s h0 + 113736 := hm3
  refine w_newO (R := room_1) (ci := 12) (f := fun _ _ => some ()) (res := ()) C w rfl (by decide) (GF_wsX110 _) tyX11 tyX11_ok (List.mem_cons_of_mem _ gw_1_0) (List.mem_cons_of_mem _ gw_1_1) (List.mem_cons_of_mem _ gw_1_2) (fun j hj => by rcases (show j = 0 ∨ j = 1 ∨ j = 2 ∨ j = 3 ∨ j = 4 ∨ j = 5 ∨ j = 6 ∨ j = 7 ∨ j = 8 ∨ j = 9 ∨ j = 10 ∨ j = 11 ∨ j = 12 ∨ j = 13 ∨ j = 14 ∨ j = 15 ∨ j = 16 ∨ j = 17 by omega) with rfl | rfl | rfl | rfl | rfl | rfl | rfl | rfl | rfl | rfl | rfl | rfl | rfl | rfl | rfl | rfl | rfl | rfl <;> rfl) dL_law_0 rfl (by show 0 + 1 ≤ 601024; omega) (by show 0 + 18 ≤ 7293034; omega) (fun H w _ => ?_)
  refine lv_dup hx hb dL_law_3 rfl ?_
  refine w_IAV (R := room_1) GW_good (b := h_x h0) (n := 0) (F := 3) (Lc := 85) (av := []) (rest := [.ref (h_x h0)]) (f := some ((), g)) (K := fun r g' => some (r, g')) (res := ((), g)) C w (fun r g' hf => by cases hf; exact k_K_init l D cy z N _ _ () _ f1) gw_1_8 gw_1_9 gw_1_2 gw_1_10 rfl (by decide +kernel) ⟨Nat.le_of_ble_eq_true rfl, Nat.le_of_ble_eq_true rfl⟩ rfl hl.1 rfl (Nat.le_of_ble_eq_true rfl) dL_law_4 (fun r g' hf => by cases hf; exact u1) (fun r g' hf _ => by cases hf; exact ⟨by show 0 + 1 + (h_x g - (h_x h0 + 1)) ≤ 601024; omega, by show 0 + 18 + (h_s g - (h_s h0 + 18)) ≤ 7293034; omega⟩) rfl (fun r g' H locs w hgr hk => ?_)
  have eg : g' = g := by
    injection hk with hk
    injection hk
  subst eg
  refine lv_astore_n (lv' := [(1, .ref (h_x h0)), (0, .ref b)]) hx hb dL_law_7 rfl hl (by decide) rfl (fun ls hl => ?_)
  refine w_newO (R := room_1) (ci := 0) (f := fun _ _ => some ()) (res := ()) C w rfl (by decide) (GF_wsX120 _) tyX12 tyX12_ok (List.mem_cons_of_mem _ gw_1_3) (List.mem_cons_of_mem _ gw_1_4) (List.mem_cons_of_mem _ gw_1_5) (fun j hj => by rcases (show j = 0 ∨ j = 1 ∨ j = 2 ∨ j = 3 ∨ j = 4 ∨ j = 5 ∨ j = 6 ∨ j = 7 ∨ j = 8 ∨ j = 9 ∨ j = 10 ∨ j = 11 ∨ j = 12 ∨ j = 13 ∨ j = 14 ∨ j = 15 ∨ j = 16 ∨ j = 17 ∨ j = 18 ∨ j = 19 ∨ j = 20 ∨ j = 21 ∨ j = 22 ∨ j = 23 ∨ j = 24 ∨ j = 25 ∨ j = 26 ∨ j = 27 ∨ j = 28 ∨ j = 29 ∨ j = 30 ∨ j = 31 ∨ j = 32 ∨ j = 33 ∨ j = 34 ∨ j = 35 ∨ j = 36 ∨ j = 37 ∨ j = 38 ∨ j = 39 ∨ j = 40 ∨ j = 41 ∨ j = 42 ∨ j = 43 ∨ j = 44 ∨ j = 45 ∨ j = 46 ∨ j = 47 ∨ j = 48 ∨ j = 49 ∨ j = 50 ∨ j = 51 ∨ j = 52 ∨ j = 53 ∨ j = 54 ∨ j = 55 ∨ j = 56 by omega) with rfl | rfl | rfl | rfl | rfl | rfl | rfl | rfl | rfl | rfl | rfl | rfl | rfl | rfl | rfl | rfl | rfl | rfl | rfl | rfl | rfl | rfl | rfl | rfl | rfl | rfl | rfl | rfl | rfl | rfl | rfl | rfl | rfl | rfl | rfl | rfl | rfl | rfl | rfl | rfl | rfl | rfl | rfl | rfl | rfl | rfl | rfl | rfl | rfl | rfl | rfl | rfl | rfl | rfl | rfl | rfl | rfl <;> rfl) dL_law_8 rfl (by show 0 + 1 + (h_x g' - (h_x h0 + 1)) + 1 ≤ 601024; omega) (by show 0 + 18 + (h_s g' - (h_s h0 + 18)) + 57 ≤ 7293034; omega) (fun H w _ => ?_)
  refine lv_dup hx hb dL_law_11 rfl ?_
  refine w_IAV (R := room_1) GW_good (b := h_x g') (n := 0) (F := 1) (Lc := 44) (av := []) (rest := [.ref (h_x g')]) (f := some ((), g2)) (K := fun r g' => some (r, g')) (res := ((), g2)) C w (fun r g' hf => by cases hf; exact k_M_init l D cy z N _ _ () _ f2) gw_6_15 gw_6_16 gw_1_5 gw_6_17 rfl (by decide +kernel) ⟨Nat.le_of_ble_eq_true rfl, Nat.le_of_ble_eq_true rfl⟩ rfl hl.1 rfl (Nat.le_of_ble_eq_true rfl) dL_law_12 (fun r g' hf => by cases hf; exact u2) (fun r g' hf _ => by cases hf; exact ⟨by show 0 + 1 + (h_x g' - (h_x h0 + 1)) + 1 + (h_x g2 - (h_x g' + 1)) ≤ 601024; omega, by show 0 + 18 + (h_s g' - (h_s h0 + 18)) + 57 + (h_s g2 - (h_s g' + 57)) ≤ 7293034; omega⟩) rfl (fun r g3 H locs w hgr hk => ?_)
  have eg : g3 = g2 := by
    injection hk with hk
    injection hk
  subst eg
  refine lv_astore_n (lv' := [(2, .ref (h_x g')), (1, .ref (h_x h0)), (0, .ref b)]) hx hb dL_law_15 rfl hl (by decide) rfl (fun ls hl => ?_)
  refine lv_iconst (v := 1) hx hb dL_law_16 (by decide) ?_
  refine w_nwJ (R := room_1) (n := 1) (f := fun _ _ => some ()) (res := ()) C w (List.mem_cons_of_mem _ gw_1_6) dL_law_17 (by unfold nwA; rw [if_pos (by decide)]) (by show 0 + 1 + (h_x g' - (h_x h0 + 1)) + 1 + (h_x g3 - (h_x g' + 1)) + 1 ≤ 601024; omega) (by show 0 + 18 + (h_s g' - (h_s h0 + 18)) + 57 + (h_s g3 - (h_s g' + 57)) + 1 ≤ 7293034; omega) (fun H w _ => ?_)
  rw [show (1 : Int32).toNatClampNeg = 1 from rfl] at w ⊢
  refine lv_astore_n (lv' := [(3, .ref (h_x g3)), (2, .ref (h_x g')), (1, .ref (h_x h0)), (0, .ref b)]) hx hb dL_law_19 rfl hl (by decide) rfl (fun ls hl => ?_)
  refine lv_iconst (v := nI (6 * 0)) hx hb dL_law_20 (by decide) ?_
  refine lv_istore (lv' := [(4, .int (nI (6 * 0))), (3, .ref (h_x g3)), (2, .ref (h_x g')), (1, .ref (h_x h0)), (0, .ref b)]) hx hb dL_law_21 hl (by decide) rfl (fun ls hl => ?_)
  rw [← q00] at hl
  refine W.widen (k := _) (n := h_s (nw g3 51 1 1)) (Nat.le_refl _) ?_ (law_loop E hst hN hL RT L 0 _ _ H locs ls (by omega) (by omega) P w hl)
  show 0 + 18 + (h_s g' - (h_s h0 + 18)) + 57 + (h_s g3 - (h_s g' + 57)) + 1 ≤ h_s g3 + 1
  omega
end LH
