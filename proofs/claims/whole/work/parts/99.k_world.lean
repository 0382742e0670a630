/-! THE WORLD AT THE LAW'S START -/
theorem g_lk : (∀ q ∈ nsf, Cond.fieldLinkNest q.1 q.2.1 q.2.2.1 q.2.2.2.1 q.2.2.2.2.1 q.2.2.2.2.2 ∈ lw_tbl) ∧ (∀ q ∈ nsm, Cond.methodLinkNest q.1 q.2.1 q.2.2.1 q.2.2.2 ∈ lw_tbl) ∧ (∀ C ∈ aos, Cond.arrayOver (.object C) ∈ lw_tbl) ∧ (∀ q ∈ cst, Cond.castable q.1 q.2 ∈ lw_tbl) ∧ ∀ y ∈ dcl, Cond.declares y ∈ lw_tbl := by decide +kernel
theorem g_sr : ∀ q ∈ scs, Cond.stringRef q.1 q.2.1 q.2.2.1 ∈ lw_tbl := by decide +kernel
theorem g_st : ∀ q ∈ sts, Cond.laysStatic q.1 q.2.1 q.2.2.1 ∈ lw_tbl ∧ Cond.initialized q.1 ∈ lw_tbl := by decide +kernel
theorem g_tn : Cond.laysStatic Bundle.tN "UNASSIGNED_STACK" Bundle.steD ∈ lw_tbl ∧ Cond.laysStatic Bundle.tN "SUPPRESSED_SENTINEL" Bundle.listD ∈ lw_tbl ∧ Cond.initialized Bundle.tN ∈ lw_tbl ∧ Cond.arrayOver (.array .int) ∈ lw_tbl := by decide +kernel
theorem g_ex : ∀ q ∈ scs, Cond.exactly (.string q.1 q.2.1) "java/lang/String" ∈ FLx := by decide +kernel
theorem g_nc : ∀ q ∈ ncs, Cond.not (.castable q.1 q.2) ∈ FLx := by decide +kernel
theorem g_rf : Cond.isRef (.static Bundle.tN "UNASSIGNED_STACK" Bundle.steD) ∈ FLx ∧ Cond.isRef (.static Bundle.tN "SUPPRESSED_SENTINEL" Bundle.listD) ∈ FLx ∧ Cond.isRef (.static "jdk/internal/util/Preconditions" "SIOOBE_FORMATTER" "Ljava/util/function/BiFunction;") ∈ FLx ∧ Cond.eq (.static "java/lang/String" "COMPACT_STRINGS" "Z") (.int 1) ∈ FLx := by decide +kernel
def rowZ (n : Nat) : String × List Int := if n = 1 then ("NUMBERS", [2, 2, 2, 1, 2, 0, 0, 1, 1]) else if n = 2 then ("LOWEST_FIRST", [-500, -500, -500, -500, 0, 0, 0, 0, 0]) else ("HIGHEST_FIRST", [500, 500, 500, 500, 99, 0, 0, 999, 3])
theorem g_row : ∀ n, n < 3 → Cond.arrayOf (.static "SlopeKeeper" (rowZ (n + 1)).1 "[I") .int ∈ FLx ∧ Cond.eq (.length (.static "SlopeKeeper" (rowZ (n + 1)).1 "[I")) (.int (Int32.ofNat (rowZ (n + 1)).2.length)) ∈ FLx ∧ ∀ j, j < (rowZ (n + 1)).2.length → Cond.eq (.elem (.static "SlopeKeeper" (rowZ (n + 1)).1 "[I") (.int (Int32.ofNat j))) (.int (iI ((rowZ (n + 1)).2.getD j 0))) ∈ FLx := by decide +kernel
theorem g_wK : ∀ k, k < 9 → Cond.exactly (.string "SlopeKeeper" (493 + 2 * k)) "java/lang/String" ∈ FLx ∧ Cond.eq (.field (.string "SlopeKeeper" (493 + 2 * k)) "java/lang/String" "coder" "B") (.int 0) ∈ FLx ∧ Cond.arrayOf (.field (.string "SlopeKeeper" (493 + 2 * k)) "java/lang/String" "value" "[B") .byte ∈ FLx ∧ Cond.eq (.length (.field (.string "SlopeKeeper" (493 + 2 * k)) "java/lang/String" "value" "[B")) (.int (Int32.ofNat (zWord k).length)) ∈ FLx ∧ ∀ j, j < (zWord k).length → Cond.eq (.elem (.field (.string "SlopeKeeper" (493 + 2 * k)) "java/lang/String" "value" "[B") (.int (Int32.ofNat j))) (.int (iI ((zWord k).getD j 0))) ∈ FLx := by decide +kernel
theorem g_wM : ∀ k, k < 9 → Cond.exactly (.string "SlopeKeeperModel" (9 + 2 * k)) "java/lang/String" ∈ FLx ∧ Cond.eq (.field (.string "SlopeKeeperModel" (9 + 2 * k)) "java/lang/String" "coder" "B") (.int 0) ∈ FLx ∧ Cond.arrayOf (.field (.string "SlopeKeeperModel" (9 + 2 * k)) "java/lang/String" "value" "[B") .byte ∈ FLx ∧ Cond.eq (.length (.field (.string "SlopeKeeperModel" (9 + 2 * k)) "java/lang/String" "value" "[B")) (.int (Int32.ofNat (zWord k).length)) ∈ FLx ∧ ∀ j, j < (zWord k).length → Cond.eq (.elem (.field (.string "SlopeKeeperModel" (9 + 2 * k)) "java/lang/String" "value" "[B") (.int (Int32.ofNat j))) (.int (iI ((zWord k).getD j 0))) ∈ FLx := by decide +kernel
theorem g_pK : ∀ k, k < 9 → (scs[4 + k]?).map (fun q => (q.1, q.2.1)) = some ("SlopeKeeper", 493 + 2 * k) := by decide +kernel
theorem g_pM : ∀ k, k < 9 → (scs[14 + k]?).map (fun q => (q.1, q.2.1)) = some ("SlopeKeeperModel", 9 + 2 * k) := by decide +kernel
theorem g_pl : ∀ i, i < 23 → (scs[i]?).map (fun q => q.2.2.2) = some (i + 4) := by decide +kernel
theorem g_len : ∀ k, k < 9 → (zWord k).length < 2 ^ 31 := by decide +kernel
section WK
variable {args : Array Value} {s : State} {z : Nat}
theorem cstZ_s {t1 t2 t3 : Nat} {r : Option Nat} {j i : Nat} {C : String} {n a : Nat} (hj : j = i + 4) (hi : i < 23) (hq : (scs[i]?).map (fun q => (q.1, q.2.1)) = some (C, n)) (h : (Term.string C n).eval args s none [] s = some (.ref a)) : rZ s z (cstZ args s t1 t2 t3 r) 0 j = some a := by
  rw [rZ_0 (by omega)]
  unfold cstZ
  rw [if_neg (by omega), if_neg (by omega), if_neg (by omega), if_neg (by omega), show j - 4 = i by omega, hq]
  exact adr_is h
theorem gd_at {w : List Int} (i : Nat) (hi : i < w.length) : iI (w.getD i 0) = iI w[i] := by
  rw [List.getD_eq_getElem?_getD, List.getElem?_eq_getElem hi]
  rfl
set_option maxRecDepth 20000 in
set_option maxHeartbeats 4000000 in
theorem world_start (hz : s.heap.size = z) (h0 : 0 < z) (hts : ∀ w ∈ lw_tbl, w.before args s = true) (hs : ∀ w ∈ FLx, w.before args s = true) (hf : heapFits s = true) : ∃ (D : va_G) (cy1 : Nat → ClassId) (cs : Nat → Option Nat), wX (cy1, rZ s z cs 0) z s s.heap ∧ va_K D cls (tys cy1) s ∧ CN (fun _ => 30) (hZ s z cs) ∧ ∀ k, k < 9 → WD (fun _ => 30) (hZ s z cs) (h_r (hZ s z cs) 0 (18 + k)) (zWord k) := by
  have hA : ∀ a : Nat, a < s.heap.size → ¬ (fun q => z ≤ q) a := fun a ha q => by have : z ≤ a := q; omega
  obtain ⟨D, cy1, hK, k60, hk1, hk2⟩ := start_K hts
  have noB : ∀ a v n f, St s z a v → Rr s z .byte a n f → False := fun a v n f u1 u2 => St_no hf (Or.inl rfl) u1 u2
  have noI : ∀ a v n f, St s z a v → Rr s z .int a n f → False := fun a v n f u1 u2 => St_no hf (Or.inr rfl) u1 u2
  have rw9 : ∀ n, n < 3 → ∃ t, va_Z "SlopeKeeper" (rowZ (n + 1)).1 "[I" (.ref t) (fun q => z ≤ q) s s.heap ∧ Rr s z .int t (rowZ (n + 1)).2.length (fun j => iI ((rowZ (n + 1)).2.getD j 0)) := fun n hn => by
    obtain ⟨g1, g2, g3⟩ := g_row n hn
    have gl : Cond.laysStatic "SlopeKeeper" (rowZ (n + 1)).1 "[I" ∈ lw_tbl ∧ Cond.initialized "SlopeKeeper" ∈ lw_tbl := by
      rcases (show n = 0 ∨ n = 1 ∨ n = 2 by omega) with rfl | rfl | rfl
      · exact g_st _ (List.mem_of_getElem? (i := 2) rfl)
      · exact g_st _ (List.mem_of_getElem? (i := 3) rfl)
      · exact g_st _ (List.mem_of_getElem? (i := 4) rfl)
    have hl : (rowZ (n + 1)).2.length < 2 ^ 31 := by
      rcases (show n = 0 ∨ n = 1 ∨ n = 2 by omega) with rfl | rfl | rfl <;> decide
    exact row_at (args := args) hz hl (hts _ gl.1) (hts _ gl.2) (hs _ g1) (hs _ g2) (fun j hj => hs _ (g3 j hj))
  obtain ⟨t1, z1, r1⟩ := rw9 0 (by omega)
  obtain ⟨t2, z2, r2⟩ := rw9 1 (by omega)
  obtain ⟨t3, z3, r3⟩ := rw9 2 (by omega)
  obtain ⟨r27, z27⟩ : ∃ r : Option Nat, va_Z "jdk/internal/util/Preconditions" "SIOOBE_FORMATTER" "Ljava/util/function/BiFunction;" (va_rf r) (fun q => z ≤ q) s s.heap := by
    have gl := g_st _ (List.mem_of_getElem? (i := 1) rfl)
    rcases va_Zqof (A := fun q => z ≤ q) (hts _ gl.1) (hts _ gl.2) (hs _ g_rf.2.2.1) hA with q | ⟨t, q⟩
    · exact ⟨none, q⟩
    · exact ⟨some t, q⟩
  have z0 : va_Z "java/lang/String" "COMPACT_STRINGS" "Z" (.int 1) (fun q => z ≤ q) s s.heap := by
    have gl := g_st _ (List.mem_of_getElem? (i := 0) rfl)
    exact va_Zof (hts _ gl.1) (hts _ gl.2) (va_eqt (hs _ g_rf.2.2.2)) hA
  have ev : ∀ q ∈ scs, ∃ a, (Term.string q.1 q.2.1).eval args s none [] s = some (.ref a) := fun q hq => by
    obtain ⟨a, _, _, _, h, _⟩ := Cond.exactly_spec (hs _ (g_ex q hq))
    exact ⟨a, h⟩
  have wK : ∀ k, k < 9 → ∃ a v, (Term.string "SlopeKeeper" (493 + 2 * k)).eval args s none [] s = some (.ref a) ∧ St s z a v ∧ Rr s z .byte v (zWord k).length (fun j => iI ((zWord k).getD j 0)) := fun k hk => by
    obtain ⟨g1, g2, g3, g4, g5⟩ := g_wK k hk
    exact wordZ hz (g_len k hk) (hs _ g1) (hs _ g2) (hs _ g3) (hs _ g4) (fun j hj => hs _ (g5 j hj))
  have wM : ∀ k, k < 9 → ∃ a v, (Term.string "SlopeKeeperModel" (9 + 2 * k)).eval args s none [] s = some (.ref a) ∧ St s z a v ∧ Rr s z .byte v (zWord k).length (fun j => iI ((zWord k).getD j 0)) := fun k hk => by
    obtain ⟨g1, g2, g3, g4, g5⟩ := g_wM k hk
    exact wordZ hz (g_len k hk) (hs _ g1) (hs _ g2) (hs _ g3) (hs _ g4) (fun j hj => hs _ (g5 j hj))
  have c1 : rZ s z (cstZ args s t1 t2 t3 r27) 0 1 = some t1 := by rw [rZ_0 (by omega)]; rfl
  have c2 : rZ s z (cstZ args s t1 t2 t3 r27) 0 2 = some t2 := by rw [rZ_0 (by omega)]; rfl
  have c3 : rZ s z (cstZ args s t1 t2 t3 r27) 0 3 = some t3 := by rw [rZ_0 (by omega)]; rfl
  have c27 : rZ s z (cstZ args s t1 t2 t3 r27) 0 27 = r27 := by rw [rZ_0 (by omega)]; rfl
  refine ⟨D, cy1, cstZ args s t1 t2 t3 r27, ⟨fun q hq => ?_, fun q hq => ?_, fun q hq => va_Nw.of rfl (hts _ (g_lk.1 q hq)), fun q hq => va_Nw.of rfl (hts _ (g_lk.2.1 q hq)), fun C hC => va_AO.of (hts _ (g_lk.2.2.1 C hC)), ⟨k60, hk1, hk2⟩, fun q hq => va_Nw.of rfl (hts _ (g_lk.2.2.2.1 q hq)), fun q hq => va_Nc.of (hs _ (g_nc q hq)), vx_Zqof (hts _ g_tn.1) (hts _ g_tn.2.2.1) (hs _ g_rf.1) hA, vx_Zqof (hts _ g_tn.2.1) (hts _ g_tn.2.2.1) (hs _ g_rf.2.1) hA, hts _ g_tn.2.2.2, fun y hy => va_Nw.of rfl (hts _ (g_lk.2.2.2.2 y hy))⟩, hK, ⟨⟨h0, rfl⟩, fun k hk => ?_, ?_, ?_, ?_⟩, fun k hk => ?_⟩
  · simp only [sts, List.mem_cons, List.not_mem_nil, or_false] at hq
    rcases hq with rfl | rfl | rfl | rfl | rfl
    · exact z0
    · show va_Z _ _ _ (va_rf (rZ s z (cstZ args s t1 t2 t3 r27) 0 27)) _ _ _
      rw [c27]; exact z27
    · show va_Z _ _ _ (va_rf (rZ s z (cstZ args s t1 t2 t3 r27) 0 1)) _ _ _
      rw [c1]; exact z1
    · show va_Z _ _ _ (va_rf (rZ s z (cstZ args s t1 t2 t3 r27) 0 2)) _ _ _
      rw [c2]; exact z2
    · show va_Z _ _ _ (va_rf (rZ s z (cstZ args s t1 t2 t3 r27) 0 3)) _ _ _
      rw [c3]; exact z3
  · obtain ⟨a, ha⟩ := ev q hq
    obtain ⟨i, hi⟩ := List.getElem?_of_mem hq
    have hlt : i < 23 := (List.getElem?_eq_some_iff.mp hi).1
    have hp := g_pl i hlt
    rw [hi] at hp
    have hp : (some q.2.2.2 : Option Nat) = some (i + 4) := hp
    injection hp with hp
    refine ⟨a, cstZ_s hp hlt (by rw [hi]; rfl) ha, vk_R.of (hts _ (g_sr q hq)) ha⟩
  · obtain ⟨a, v, e1, e2, e3⟩ := wK k hk
    exact WD_start noB (cstZ_s (i := 4 + k) (by omega) (by omega) (g_pK k hk) e1) e2 e3 (fun i hi => gd_at i hi)
  · exact NR_start noI c1 r1 (fun i hi => gd_at i hi)
  · exact NR_start noI c2 r2 (fun i hi => gd_at i hi)
  · exact NR_start noI c3 r3 (fun i hi => gd_at i hi)
  · obtain ⟨a, v, e1, e2, e3⟩ := wM k hk
    exact WD_start noB (cstZ_s (i := 14 + k) (by omega) (by omega) (g_pM k hk) e1) e2 e3 (fun i hi => gd_at i hi)
end WK
