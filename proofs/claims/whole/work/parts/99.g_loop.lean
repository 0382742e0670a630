/-! THE LAW'S LOOP (written by wip/gen/genLoop.py) -/
theorem PJ.next {Q A : Nat → Nat} {m o B n : Nat} {h : hS} (P : PJ Q A m o B n h) : PJ Q A m o B (n + 1) h := by
  obtain ⟨ρ, F, ks, J, hl, hB⟩ := P
  exact ⟨ρ, F, ks, J, by omega, by omega⟩
section LL
variable {p : Program} {l : Launch} {e : Env} {s : State} {m : MethodId} {below : List Frame} {meth : Method} {c : Code} {Qp : State → Prop} {D : va_G} {cy : cyT} {z : Nat} {b L : Nat} {xs : Nat → Int32} {w0 : Cond} {N : Nat} {Q A : Nat → Nat} {mm o : Nat}
set_option maxRecDepth 20000 in
set_option maxHeartbeats 4000000 in
theorem law_switch {H : Heap} {locs : List Loc} {k : Nat} {ls : Array Slot} {h : hS} {n : Nat} (v : Int32) (E : lwC p s m meth c b L xs z w0) (hst : l.stackTraces = false) (hN : 100000 ≤ N) (P : PJ Q A mm o (13 * z + 7293034) n h) (hn : n < 512) (w : wd D cy z s k h H locs) (hl : lv_has ls 8 [(4, .int (nI (6 * n))), (3, .ref o), (2, .ref mm), (1, .ref (Q 0)), (0, .ref b)]) (hin : ∀ j : Int32, (j = 1 ∨ j = 2 ∨ j = 3 ∨ j = 4 ∨ j = 5) → vp_in (nI (6 * n) + j) L) (NX : LN p l e s m b below meth c D cy z Q A mm o n (nI (6 * n)) Qp) : W p l e room_1 s m #[Value.ref b] below meth c H locs k (h_s h) Qp (F0 m 40 ls [.int v]) := by
  obtain ⟨hx, hb, -, -, hown, hts, -⟩ := id E.1
  by_cases q : v.toInt < 0 ∨ 37 < v.toInt
  · exact lv_tableOut (tgt := 2554) hx hb dL_law_40 q (by decide) (NX h k H locs ls P.next w hl)
  obtain ⟨t, ht⟩ : ∃ t : Nat, v.toInt = (t : Int) := ⟨v.toInt.toNat, by omega⟩
  have key : t = 0 ∨ t = 1 ∨ t = 2 ∨ t = 3 ∨ t = 4 ∨ t = 5 ∨ t = 6 ∨ t = 7 ∨ t = 8 ∨ t = 9 ∨ t = 10 ∨ t = 11 ∨ t = 12 ∨ t = 13 ∨ t = 14 ∨ t = 15 ∨ t = 16 ∨ t = 17 ∨ t = 18 ∨ t = 19 ∨ t = 20 ∨ t = 21 ∨ t = 22 ∨ t = 23 ∨ t = 24 ∨ t = 25 ∨ t = 26 ∨ t = 27 ∨ t = 28 ∨ t = 29 ∨ t = 30 ∨ t = 31 ∨ t = 32 ∨ t = 33 ∨ t = 34 ∨ t = 35 ∨ t = 36 ∨ t = 37 := by omega
  rcases key with rfl | rfl | rfl | rfl | rfl | rfl | rfl | rfl | rfl | rfl | rfl | rfl | rfl | rfl | rfl | rfl | rfl | rfl | rfl | rfl | rfl | rfl | rfl | rfl | rfl | rfl | rfl | rfl | rfl | rfl | rfl | rfl | rfl | rfl | rfl | rfl | rfl | rfl
  · exact lv_tableIn (tgt := 208) (off := 168) hx hb dL_law_40 (by omega) (by omega) (by rw [ht]; rfl) (by decide) (lc_feed E hst hN P hn w hl hin NX)
  · exact lv_tableIn (tgt := 281) (off := 241) hx hb dL_law_40 (by omega) (by omega) (by rw [ht]; rfl) (by decide) (lc_text E hst hN P hn w hl hin NX)
  · exact lv_tableIn (tgt := 349) (off := 309) hx hb dL_law_40 (by omega) (by omega) (by rw [ht]; rfl) (by decide) (lc_fault E hst hN P hn w hl hin NX)
  · exact lv_tableIn (tgt := 362) (off := 322) hx hb dL_law_40 (by omega) (by omega) (by rw [ht]; rfl) (by decide) (lc_count E hst hN P hn w hl hin NX)
  · exact lv_tableIn (tgt := 418) (off := 378) hx hb dL_law_40 (by omega) (by omega) (by rw [ht]; rfl) (by decide) (lc_step E hst hN P hn w hl hin NX)
  · exact lv_tableIn (tgt := 498) (off := 458) hx hb dL_law_40 (by omega) (by omega) (by rw [ht]; rfl) (by decide) (lc_at E hst hN P hn w hl hin NX)
  · exact lv_tableIn (tgt := 565) (off := 525) hx hb dL_law_40 (by omega) (by omega) (by rw [ht]; rfl) (by decide) (lc_least E hst hN P hn w hl hin NX)
  · exact lv_tableIn (tgt := 620) (off := 580) hx hb dL_law_40 (by omega) (by omega) (by rw [ht]; rfl) (by decide) (lc_flat E hst hN P hn w hl hin NX)
  · exact lv_tableIn (tgt := 688) (off := 648) hx hb dL_law_40 (by omega) (by omega) (by rw [ht]; rfl) (by decide) (lc_kink E hst hN P hn w hl hin NX)
  · exact lv_tableIn (tgt := 768) (off := 728) hx hb dL_law_40 (by omega) (by omega) (by rw [ht]; rfl) (by decide) (lc_slope E hst hN P hn w hl hin NX)
  · exact lv_tableIn (tgt := 848) (off := 808) hx hb dL_law_40 (by omega) (by omega) (by rw [ht]; rfl) (by decide) (lc_path E hst hN P hn w hl hin NX)
  · exact lv_tableIn (tgt := 928) (off := 888) hx hb dL_law_40 (by omega) (by omega) (by rw [ht]; rfl) (by decide) (lc_paid E hst hN P hn w hl hin NX)
  · exact lv_tableIn (tgt := 1007) (off := 967) hx hb dL_law_40 (by omega) (by omega) (by rw [ht]; rfl) (by decide) (lc_off E hst hN P hn w hl hin NX)
  · exact lv_tableIn (tgt := 1087) (off := 1047) hx hb dL_law_40 (by omega) (by omega) (by rw [ht]; rfl) (by decide) (lc_split E hst hN P hn w hl hin NX)
  · exact lv_tableIn (tgt := 1166) (off := 1126) hx hb dL_law_40 (by omega) (by omega) (by rw [ht]; rfl) (by decide) (lc_where E hst hN P hn w hl hin NX)
  · exact lv_tableIn (tgt := 1246) (off := 1206) hx hb dL_law_40 (by omega) (by omega) (by rw [ht]; rfl) (by decide) (lc_shared E hst hN P hn w hl hin NX)
  · exact lv_tableIn (tgt := 1313) (off := 1273) hx hb dL_law_40 (by omega) (by omega) (by rw [ht]; rfl) (by decide) (lc_stretch E hst hN P hn w hl hin NX)
  · exact lv_tableIn (tgt := 1381) (off := 1341) hx hb dL_law_40 (by omega) (by omega) (by rw [ht]; rfl) (by decide) (lc_leads E hst hN P hn w hl hin NX)
  · exact lv_tableIn (tgt := 1461) (off := 1421) hx hb dL_law_40 (by omega) (by omega) (by rw [ht]; rfl) (by decide) (lc_against E hst hN P hn w hl hin NX)
  · exact lv_tableIn (tgt := 1540) (off := 1500) hx hb dL_law_40 (by omega) (by omega) (by rw [ht]; rfl) (by decide) (lc_meet E hst hN P hn w hl hin NX)
  · exact lv_tableIn (tgt := 1608) (off := 1568) hx hb dL_law_40 (by omega) (by omega) (by rw [ht]; rfl) (by decide) (lc_heaviest E hst hN P hn w hl hin NX)
  · exact lv_tableIn (tgt := 1688) (off := 1648) hx hb dL_law_40 (by omega) (by omega) (by rw [ht]; rfl) (by decide) (lc_spared E hst hN P hn w hl hin NX)
  · exact lv_tableIn (tgt := 1755) (off := 1715) hx hb dL_law_40 (by omega) (by omega) (by rw [ht]; rfl) (by decide) (lc_dearest E hst hN P hn w hl hin NX)
  · exact lv_tableIn (tgt := 1811) (off := 1771) hx hb dL_law_40 (by omega) (by omega) (by rw [ht]; rfl) (by decide) (lc_gap E hst hN P hn w hl hin NX)
  · exact lv_tableIn (tgt := 1878) (off := 1838) hx hb dL_law_40 (by omega) (by omega) (by rw [ht]; rfl) (by decide) (lc_alike E hst hN P hn w hl hin NX)
  · exact lv_tableIn (tgt := 1946) (off := 1906) hx hb dL_law_40 (by omega) (by omega) (by rw [ht]; rfl) (by decide) (lc_told E hst hN P hn w hl hin NX)
  · exact lv_tableIn (tgt := 2014) (off := 1974) hx hb dL_law_40 (by omega) (by omega) (by rw [ht]; rfl) (by decide) (lc_does E hst hN P hn w hl hin NX)
  · exact lv_tableIn (tgt := 2075) (off := 2035) hx hb dL_law_40 (by omega) (by omega) (by rw [ht]; rfl) (by decide) (lc_puts E hst hN P hn w hl hin NX)
  · exact lv_tableIn (tgt := 2148) (off := 2108) hx hb dL_law_40 (by omega) (by omega) (by rw [ht]; rfl) (by decide) (lc_takes E hst hN P hn w hl hin NX)
  · exact lv_tableIn (tgt := 2185) (off := 2145) hx hb dL_law_40 (by omega) (by omega) (by rw [ht]; rfl) (by decide) (lc_copy E hst hN P hn w hl hin NX)
  · exact lv_tableIn (tgt := 2222) (off := 2182) hx hb dL_law_40 (by omega) (by omega) (by rw [ht]; rfl) (by decide) (lc_undo E hst hN P hn w hl hin NX)
  · exact lv_tableIn (tgt := 2235) (off := 2195) hx hb dL_law_40 (by omega) (by omega) (by rw [ht]; rfl) (by decide) (lc_note E hst hN P hn w hl hin NX)
  · exact lv_tableIn (tgt := 2304) (off := 2264) hx hb dL_law_40 (by omega) (by omega) (by rw [ht]; rfl) (by decide) (lc_fits E hst hN P hn w hl hin NX)
  · exact lv_tableIn (tgt := 2372) (off := 2332) hx hb dL_law_40 (by omega) (by omega) (by rw [ht]; rfl) (by decide) (lc_look E hst hN P hn w hl hin NX)
  · exact lv_tableIn (tgt := 2440) (off := 2400) hx hb dL_law_40 (by omega) (by omega) (by rw [ht]; rfl) (by decide) (lc_forget E hst hN P hn w hl hin NX)
  · exact lv_tableIn (tgt := 2451) (off := 2411) hx hb dL_law_40 (by omega) (by omega) (by rw [ht]; rfl) (by decide) (lc_years E hst hN P hn w hl hin NX)
  · exact lv_tableIn (tgt := 2530) (off := 2490) hx hb dL_law_40 (by omega) (by omega) (by rw [ht]; rfl) (by decide) (lc_image E hst hN P hn w hl hin NX)
  · exact lv_tableIn (tgt := 2541) (off := 2501) hx hb dL_law_40 (by omega) (by omega) (by rw [ht]; rfl) (by decide) (lc_restore E hst hN P hn w hl hin NX)
set_option maxRecDepth 20000 in
set_option maxHeartbeats 4000000 in
theorem law_loop (E : lwC p s m meth c b L xs z w0) (hst : l.stackTraces = false) (hN : 100000 ≤ N) (hL : L ≤ 3072) (RT : ∀ (H : Heap) (ls : Array Slot), W p l e room_1 s m #[Value.ref b] below meth c H [] 601024 7293034 Qp (F0 m 2561 ls [.int 1])) : ∀ (q n : Nat) (h : hS) (k : Nat) (H : Heap) (locs : List Loc) (ls : Array Slot), L ≤ 6 * n + 6 * q + 5 → 6 * n ≤ L → PJ Q A mm o (13 * z + 7293034) n h → wd D cy z s k h H locs → lv_has ls 8 [(4, .int (nI (6 * n))), (3, .ref o), (2, .ref mm), (1, .ref (Q 0)), (0, .ref b)] → W p l e room_1 s m #[Value.ref b] below meth c H locs k (h_s h) Qp (F0 m 23 ls []) := by
  obtain ⟨hx, hb, -, -, hown, hts, -⟩ := id E.1
  obtain ⟨-, hX, hbl, hz⟩ := id E
  intro q
  induction q with
  | zero =>
    intro n h k H locs ls h1 h2 P w hl
    have hxx := wd_x w
    have hB := P.top.2.2.2
    unfold hm at hB
    refine lv_iload hx hb dL_law_23 (lv_at hl 0 rfl) ?_
    refine lv_aload_n hx hb dL_law_25 rfl (lv_at hl 4 rfl) ?_
    refine va_slen (A := fun q => z ≤ q) hx hb hX (by omega) (by show ¬ z ≤ b; omega) (wd_S w) dL_law_26 ?_
    refine lv_bipush (v := 6) hx hb dL_law_27 (by decide) ?_
    refine lv_isub hx hb dL_law_29 ?_
    refine lv_icmp_gt (tgt := 2560) hx hb dL_law_30 (by decide) (fun _ => ?_) (fun q => ?_)
    · refine lv_iconst (v := 1) hx hb dL_law_2560 (by decide) ?_
      refine va_forget (fun q hq => by have : z ≤ q.base := (wd_S w).2.2 q hq; omega) ?_
      exact W.widen (k := 601024) (n := 7293034) (by omega) (by omega) (RT _ _)
    · exfalso
      apply q
      show nI L - iI 6 < nI (6 * n)
      rw [nI_iI, nI_iI, iI_sub]
      exact (iI_lt (by omega) (by omega)).mpr (by omega)
  | succ q ih =>
    intro n h k H locs ls h1 h2 P w hl
    have hxx := wd_x w
    have hB := P.top.2.2.2
    unfold hm at hB
    refine lv_iload hx hb dL_law_23 (lv_at hl 0 rfl) ?_
    refine lv_aload_n hx hb dL_law_25 rfl (lv_at hl 4 rfl) ?_
    refine va_slen (A := fun q => z ≤ q) hx hb hX (by omega) (by show ¬ z ≤ b; omega) (wd_S w) dL_law_26 ?_
    refine lv_bipush (v := 6) hx hb dL_law_27 (by decide) ?_
    refine lv_isub hx hb dL_law_29 ?_
    refine lv_icmp_gt (tgt := 2560) hx hb dL_law_30 (by decide) (fun _ => ?_) (fun t => ?_)
    · refine lv_iconst (v := 1) hx hb dL_law_2560 (by decide) ?_
      refine va_forget (fun q hq => by have : z ≤ q.base := (wd_S w).2.2 q hq; omega) ?_
      exact W.widen (k := 601024) (n := 7293034) (by omega) (by omega) (RT _ _)
    · have hlt : 6 * n + 6 ≤ L := by
        rcases Nat.lt_or_ge L (6 * n + 6) with u | u
        · exfalso
          apply t
          show nI L - iI 6 < nI (6 * n)
          rw [nI_iI, nI_iI, iI_sub]
          exact (iI_lt (by omega) (by omega)).mpr (by omega)
        · exact u
      refine lv_aload_n hx hb dL_law_33 rfl (lv_at hl 4 rfl) ?_
      refine lv_iload hx hb dL_law_34 (lv_at hl 0 rfl) ?_
      refine va_sld (A := fun q => z ≤ q) hx hb hX (by omega) (by show ¬ z ≤ b; omega) (wd_S w) (vp_in_nI (by omega) (by omega)) dL_law_36 ?_
      refine lv_bipush (v := 63) hx hb dL_law_37 (by decide) ?_
      refine lv_iand hx hb dL_law_39 ?_
      refine law_switch _ E hst hN P (by omega) w hl (fun j hj => ?_) (fun h2 k2 H2 locs2 ls2 P2 w2 hl2 => ?_)
      · rcases hj with rfl | rfl | rfl | rfl | rfl
        · rw [show (1 : Int32) = nI 1 from rfl, nI_add]; exact vp_in_nI (by omega) (by omega)
        · rw [show (2 : Int32) = nI 2 from rfl, nI_add]; exact vp_in_nI (by omega) (by omega)
        · rw [show (3 : Int32) = nI 3 from rfl, nI_add]; exact vp_in_nI (by omega) (by omega)
        · rw [show (4 : Int32) = nI 4 from rfl, nI_add]; exact vp_in_nI (by omega) (by omega)
        · rw [show (5 : Int32) = nI 5 from rfl, nI_add]; exact vp_in_nI (by omega) (by omega)
      · refine lv_iinc (v := nI (6 * (n + 1))) (lv' := [(4, .int (nI (6 * (n + 1)))), (3, .ref o), (2, .ref mm), (1, .ref (Q 0)), (0, .ref b)]) hx hb dL_law_2554 hl2 (k := 0) rfl (by rw [show Int32.ofInt 6 = nI 6 from rfl, nI_add]; rfl) (by decide) rfl (fun ls hl => ?_)
        refine lv_goto (tgt := 23) hx hb dL_law_2557 (by decide) ?_
        exact ih (n + 1) h2 k2 H2 locs2 ls (by omega) (by omega) P2 w2 hl
end LL
