/-! WHAT THE STATEMENT GIVES OF THE START (written by wip/gen/genJ.py) -/
set_option maxRecDepth 20000 in
theorem xN_in : ∀ w ∈ xwN, w ∈ lw_tbl := by unfold xwN; decide +kernel
set_option maxRecDepth 20000 in
theorem xI_in : ∀ w ∈ xwI, w ∈ lw_tbl := by unfold xwI; decide +kernel
theorem GW_in : ∀ w ∈ GW, w ∈ lw_tbl := fun w h => (List.mem_append.mp h).elim (fun h => wsL_in w h) (fun h => (List.mem_append.mp h).elim (fun h => xN_in w h) (fun h => xI_in w h))
def FLx : List Cond := flatC (Jvm.Cond.and given_1 narrow_1)
def adr (args : Array Value) (s : State) (q : Option (String × Nat)) : Option Nat := match q.bind (fun q => (Term.string q.1 q.2).eval args s none [] s) with
  | some (.ref a) => some a
  | _ => none
def cstZ (args : Array Value) (s : State) (t1 t2 t3 : Nat) (r : Option Nat) (j : Nat) : Option Nat := if j = 27 then r else if j = 1 then some t1 else if j = 2 then some t2 else if j = 3 then some t3 else adr args s ((scs[j - 4]?).map (fun q => (q.1, q.2.1)))
section WJ
variable {args : Array Value} {s : State} {z : Nat}
theorem adr_is {C : String} {k a : Nat} (h : (Term.string C k).eval args s none [] s = some (.ref a)) : adr args s (some (C, k)) = some a := by
  unfold adr
  simp only [Option.bind_some]
  rw [h]
theorem rZ_0 {cst : Nat → Option Nat} {j : Nat} (h : j ≠ 0) : rZ s z cst 0 j = cst j := by
  unfold rZ
  rw [if_pos ⟨rfl, h⟩]
theorem arr_of {ty : FieldType} (h : (Cond.arrayClass ty).before args s = true) : ∃ c, ArrOfT s c ty ∧ s.vm.findClass ("[" ++ ty.toString) = some c := by
  obtain ⟨c, k, comp, h1, h2, h3⟩ := Cond.arrayClass_spec h
  exact ⟨c, fun n z => ⟨fun k h => (by cases h), k, h2, comp, h3⟩, h1⟩
theorem arr_ob {C : String} (h : (Cond.arrayOver (.object C)).before args s = true) : ∃ c, ArrOfT s c (.object C) ∧ va_RA s c (.object C) := by
  obtain ⟨comp, c, k, h1, h2, h3, h4, h5⟩ := Cond.arrayOver_spec h
  exact ⟨c, fun n z => ⟨fun k h => (by cases h), k, h3, comp, h4⟩, k, comp, h3, h4, h1, h5⟩
set_option maxRecDepth 20000 in
set_option maxHeartbeats 4000000 in
theorem start_K (hts : ∀ w ∈ lw_tbl, w.before args s = true) : ∃ (D : va_G) (cy1 : Nat → ClassId), va_K D cls (tys cy1) s ∧ ∃ k : Class, s.vm.classes[cy1 60]? = some k ∧ k.kind = .array (cy1 50) (.array .int) := by
  have hG : ∀ w ∈ Cond.initialized RL :: GW, w.before args s = true := fun w hw => by
    rcases List.mem_cons.mp hw with h | h
    · rw [h]; exact hts _ (GW_in _ gw_8_22)
    · exact hts _ (GW_in _ h)
  have e : ∀ k : Nat, ∃ (c : ClassId) (i : Nat → Nat), ∀ q : vw_C, cls[k]? = some q → u_Kn s q.1 q.2.1 q.2.2 c i := by
    intro k
    match k with
    | 0 =>
      obtain ⟨c, i, h⟩ := u_known (C := RX12) (T := TX12) (N := 57) (n := 57) hG (GF_wsX120 _) (hG _ (List.mem_cons_of_mem _ gw_1_4))
      exact ⟨c, i, fun q hq => by cases hq; exact h⟩
    | 1 =>
      obtain ⟨c, i, h⟩ := u_known (C := RX0) (T := TX0) (N := 5) (n := 5) hG (GF_wsX00 _) (hG _ (List.mem_cons_of_mem _ gw_1_23))
      exact ⟨c, i, fun q hq => by cases hq; exact h⟩
    | 2 =>
      obtain ⟨c, i, h⟩ := u_known (C := RX1) (T := TX1) (N := 2) (n := 2) hG (GF_wsX10 _) (hG _ (List.mem_cons_of_mem _ gw_3_5))
      exact ⟨c, i, fun q hq => by cases hq; exact h⟩
    | 3 =>
      obtain ⟨c, i, h⟩ := u_known (C := RX2) (T := TX2) (N := 5) (n := 5) hG (GF_wsX20 _) (hG _ (List.mem_cons_of_mem _ gw_2_21))
      exact ⟨c, i, fun q hq => by cases hq; exact h⟩
    | 4 =>
      obtain ⟨c, i, h⟩ := u_known (C := RX3) (T := TX3) (N := 6) (n := 6) hG (GF_wsX30 _) (hG _ (List.mem_cons_of_mem _ gw_16_13))
      exact ⟨c, i, fun q hq => by cases hq; exact h⟩
    | 5 =>
      obtain ⟨c, i, h⟩ := u_known (C := RX4) (T := TX4) (N := 13) (n := 13) hG (GF_wsX40 _) (hG _ (List.mem_cons_of_mem _ gw_1_19))
      exact ⟨c, i, fun q hq => by cases hq; exact h⟩
    | 6 =>
      obtain ⟨c, i, h⟩ := u_known (C := RX5) (T := TX5) (N := 3) (n := 3) hG (GF_wsX50 _) (hG _ (List.mem_cons_of_mem _ gw_2_3))
      exact ⟨c, i, fun q hq => by cases hq; exact h⟩
    | 7 =>
      obtain ⟨c, i, h⟩ := u_known (C := RX6) (T := TX6) (N := 8) (n := 8) hG (GF_wsX60 _) (hG _ (List.mem_cons_of_mem _ gw_3_9))
      exact ⟨c, i, fun q hq => by cases hq; exact h⟩
    | 8 =>
      obtain ⟨c, i, h⟩ := u_known (C := RX7) (T := TX7) (N := 4) (n := 4) hG (GF_wsX70 _) (hG _ (List.mem_cons_of_mem _ gw_15_23))
      exact ⟨c, i, fun q hq => by cases hq; exact h⟩
    | 9 =>
      obtain ⟨c, i, h⟩ := u_known (C := RX8) (T := TX8) (N := 3) (n := 3) hG (GF_wsX80 _) (hG _ (List.mem_cons_of_mem _ gw_2_11))
      exact ⟨c, i, fun q hq => by cases hq; exact h⟩
    | 10 =>
      obtain ⟨c, i, h⟩ := u_known (C := RX9) (T := TX9) (N := 3) (n := 3) hG (GF_wsX90 _) (hG _ (List.mem_cons_of_mem _ gw_2_7))
      exact ⟨c, i, fun q hq => by cases hq; exact h⟩
    | 11 =>
      obtain ⟨c, i, h⟩ := u_known (C := RX10) (T := TX10) (N := 5) (n := 5) hG (GF_wsX100 _) (hG _ (List.mem_cons_of_mem _ gw_3_0))
      exact ⟨c, i, fun q hq => by cases hq; exact h⟩
    | 12 =>
      obtain ⟨c, i, h⟩ := u_known (C := RX11) (T := TX11) (N := 18) (n := 18) hG (GF_wsX110 _) (hG _ (List.mem_cons_of_mem _ gw_1_1))
      exact ⟨c, i, fun q hq => by cases hq; exact h⟩
    | k + 13 => exact ⟨0, fun _ => 0, fun q hq => by simp [cls] at hq⟩
  obtain ⟨c50, a50, r50⟩ := arr_of (ty := .int) (hts _ (GW_in _ gw_2_16))
  obtain ⟨c51, a51, r51⟩ := arr_of (ty := .long) (hts _ (GW_in _ gw_1_6))
  obtain ⟨c52, a52, r52⟩ := arr_of (ty := .byte) (hts _ (GW_in _ gw_1_14))
  obtain ⟨c53, a53, r53⟩ := arr_of (ty := .boolean) (hts _ (GW_in _ gw_7_4))
  obtain ⟨p60, c60, k60, b1, b2, b3, b4, b5⟩ := arrayOverA_spec (hts (Cond.arrayOver (.array .int)) (by decide +kernel))
  have a60 : ArrOfT s c60 (.array .int) := fun n z => ⟨fun k h => (by cases h), k60, b3, p60, b4⟩
  have ep : p60 = c50 := by
    have q : s.vm.findClass (FieldType.array .int).toString = some c50 := r50
    rw [b1] at q
    injection q
  obtain ⟨c61, a61, r61⟩ := arr_ob (hts (Cond.arrayOver (.object "java/lang/String")) (by decide +kernel))
  obtain ⟨c62, a62, r62⟩ := arr_ob (hts (Cond.arrayOver (.object "SlopeKeeper$Chain")) (by decide +kernel))
  obtain ⟨c63, a63, r63⟩ := arr_ob (hts (Cond.arrayOver (.object "SlopeKeeper$Curve")) (by decide +kernel))
  obtain ⟨c64, a64, r64⟩ := arr_ob (hts (Cond.arrayOver (.object "SlopeKeeper$Step")) (by decide +kernel))
  refine ⟨(fun k => (e k).choose, fun k => (e k).choose_spec.choose), fun k => if k = 50 then c50 else if k = 51 then c51 else if k = 52 then c52 else if k = 53 then c53 else if k = 60 then c60 else if k = 61 then c61 else if k = 62 then c62 else if k = 63 then c63 else c64, ⟨fun c q hq => (e c).choose_spec.choose_spec q hq, fun k q hq => ?_⟩, k60, b3, by rw [← ep]; exact b4⟩
  match k, hq with
  | 0, hq => cases hq; exact ⟨a50, r50⟩
  | 1, hq => cases hq; exact ⟨a51, r51⟩
  | 2, hq => cases hq; exact ⟨a52, r52⟩
  | 3, hq => cases hq; exact ⟨a53, r53⟩
  | 4, hq => cases hq; exact ⟨a60, b5⟩
  | 5, hq => cases hq; exact ⟨a61, r61⟩
  | 6, hq => cases hq; exact ⟨a62, r62⟩
  | 7, hq => cases hq; exact ⟨a63, r63⟩
  | 8, hq => cases hq; exact ⟨a64, r64⟩
  | k + 9, hq => simp [tys] at hq
/-- a word that lies there -/
theorem wordZ (hz : s.heap.size = z) {tm : Term} {w : List Int} (hw : w.length < 2 ^ 31) (hex : (Cond.exactly tm "java/lang/String").before args s = true) (hco : (Cond.eq (.field tm "java/lang/String" "coder" "B") (.int 0)).before args s = true) (har : (Cond.arrayOf (.field tm "java/lang/String" "value" "[B") .byte).before args s = true) (hle : (Cond.eq (.length (.field tm "java/lang/String" "value" "[B")) (.int (Int32.ofNat w.length))).before args s = true) (hel : ∀ j, j < w.length → (Cond.eq (.elem (.field tm "java/lang/String" "value" "[B") (.int (Int32.ofNat j))) (.int (iI (w.getD j 0)))).before args s = true) : ∃ a v, tm.eval args s none [] s = some (.ref a) ∧ St s z a v ∧ Rr s z .byte v w.length (fun j => iI (w.getD j 0)) := by
  obtain ⟨adK, adV, ⟨h1, -⟩, h2⟩ := vk_Sof (args := args) (s := s) (N := 1) (tm := fun _ => tm) (len := [w.length]) (byt := [w.map iI]) (A := fun q => z ≤ q) (fun i hi => by rw [show i = 0 by omega]; exact hw) (fun i _ => hex) (fun i _ => hco) (fun i _ => har) (fun i hi => by rw [show i = 0 by omega]; exact hle) (fun i hi j hj => by
    rw [show i = 0 by omega] at hj ⊢
    have hj : j < w.length := hj
    have q := hel j hj
    show (Cond.eq _ (.int ((w.map iI).getD j 0))).before args s = true
    rw [show (w.map iI).getD j 0 = iI (w.getD j 0) by simp [List.getD, List.getElem?_map, List.getElem?_eq_getElem hj]]
    exact q) (fun i j hi hj hne => absurd (by omega) hne) (fun a ha q => by have : z ≤ a := q; omega)
  obtain ⟨g1, g2, g3, g4⟩ := h1 0 (by omega)
  refine ⟨adK 0, adV 0, h2 0 (by omega), ⟨g1, g2, g3⟩, hw, ?_⟩
  obtain ⟨cell, t1, t2, t3, t4, t5, t6, t7⟩ := g4
  refine ⟨cell, t1, t2, t3, t4, t5, fun j hj => ?_, t7⟩
  have hj' : j < w.length := hj
  rw [t6 j hj]
  show some (Value.int ((w.map iI).getD j 0)) = some (Value.int (iI (w.getD j 0)))
  rw [show (w.map iI).getD j 0 = iI (w.getD j 0) by simp [List.getD, List.getElem?_map, List.getElem?_eq_getElem hj']]
/-- a static row of ints -/
theorem row_at (hz : s.heap.size = z) {C n : String} {w : List Int} (hw : w.length < 2 ^ 31) (hl : (Cond.laysStatic C n "[I").before args s = true) (hini : (Cond.initialized C).before args s = true) (har : (Cond.arrayOf (.static C n "[I") .int).before args s = true) (hle : (Cond.eq (.length (.static C n "[I")) (.int (Int32.ofNat w.length))).before args s = true) (hel : ∀ j, j < w.length → (Cond.eq (.elem (.static C n "[I") (.int (Int32.ofNat j))) (.int (iI (w.getD j 0)))).before args s = true) : ∃ t, va_Z C n "[I" (.ref t) (fun q => z ≤ q) s s.heap ∧ Rr s z .int t w.length (fun j => iI (w.getD j 0)) := by
  have hA : ∀ a : Nat, a < s.heap.size → ¬ (fun q => z ≤ q) a := fun a ha q => by have : z ≤ a := q; omega
  obtain ⟨t, h1, h2⟩ := va_Tof (f := fun j => .int (iI (w.getD j 0))) hw har (va_eqt hle) (fun j hj => va_eqt (hel j hj)) hA
  exact ⟨t, va_Zof hl hini h1 hA, hw, h2⟩
end WJ
