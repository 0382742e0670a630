/-! THE HEAP AT THE LAW'S START: every String, every row of bytes and of ints that is there -/
def St (s : State) (z a v : Nat) : Prop := va_O "java/lang/String" a (fun q => z ≤ q) s s.heap ∧ va_OF "java/lang/String" "coder" "B" (.int 0) a (fun q => z ≤ q) s s.heap ∧ va_OF "java/lang/String" "value" "[B" (.ref v) a (fun q => z ≤ q) s s.heap
def Rr (s : State) (z : Nat) (ty : FieldType) (a n : Nat) (f : Nat → Int32) : Prop := n < 2 ^ 31 ∧ va_T ty a n (fun j => .int (f j)) (fun q => z ≤ q) s s.heap
section WS
variable {s : State} {z : Nat}
theorem St_un {a v u : Nat} (h1 : St s z a v) (h2 : St s z a u) : v = u := by
  obtain ⟨-, -, cf, k, i, f, cell, e1, e2, e3, e4, e5, e6⟩ := h1
  obtain ⟨-, -, cf', k', i', f', cell', d1, d2, d3, d4, d5, d6⟩ := h2
  rw [e1] at d1
  injection d1 with d1
  injection d1 with d1 d7
  injection d7 with d7 d8
  injection d8 with d8 d9
  rw [e3] at d3
  injection d3 with d3
  subst d3 d9
  rw [e5] at d5
  injection d5 with d5
  injection d5
theorem Rr_un {ty : FieldType} {a n n' : Nat} {f f' : Nat → Int32} (h1 : Rr s z ty a n f) (h2 : Rr s z ty a n' f') : n = n' ∧ ∀ j, j < n → f j = f' j := by
  obtain ⟨b1, cell, e1, e2, e3, e4, e5, e6, e7⟩ := h1
  obtain ⟨b2, cell', d1, d2, d3, d4, d5, d6, d7⟩ := h2
  rw [e1] at d1
  injection d1 with d1
  subst d1
  have e : nI n = nI n' := e5.symm.trans d5
  rw [nI_iI, nI_iI] at e
  have en : n = n' := by
    have := (iI_eq (by omega) (by omega)).mp e
    omega
  subst en
  refine ⟨rfl, fun j hj => ?_⟩
  have q1 := e6 j hj
  have q2 := d6 j hj
  rw [q1] at q2
  injection q2 with q2
  injection q2
theorem Rr_no {a n n' : Nat} {f f' : Nat → Int32} (h1 : Rr s z .byte a n f) (h2 : Rr s z .int a n' f') : False := by
  obtain ⟨b1, cell, e1, ⟨-, kA, e2, comp, e8⟩, e3, e4, e5, e6, e7⟩ := h1
  obtain ⟨b2, cell', d1, ⟨-, kA', d2, comp', d8⟩, d3, d4, d5, d6, d7⟩ := h2
  rw [e1] at d1
  injection d1 with d1
  subst d1
  rw [e2] at d2
  injection d2 with d2
  subst d2
  rw [e8] at d8
  injection d8 with d8 d9
  cases d9
theorem St_no (hf : heapFits s = true) {ty : FieldType} (hty : ty = .byte ∨ ty = .int) {a v n : Nat} {f : Nat → Int32} (h1 : St s z a v) (h2 : Rr s z ty a n f) : False := by
  obtain ⟨-, -, cf, k, i, fd, cell, e1, e2, e3, e4, e5, e6⟩ := h1
  obtain ⟨b1, cell', d1, ⟨dv, kA, d2, comp, d8⟩, -⟩ := h2
  rw [e3] at d1
  injection d1 with d1
  subst d1
  have hc : cellFits s cell = true := by
    unfold heapFits at hf
    obtain ⟨hlt, he⟩ := Array.getElem?_eq_some_iff.mp e3
    have q := Array.all_eq_true.mp hf a hlt
    rw [he] at q
    exact q
  unfold cellFits at hc
  obtain ⟨hlt, he⟩ := Array.getElem?_eq_some_iff.mp e5
  have q := List.all_eq_true.mp hc fd.slot (List.mem_range.mpr hlt)
  rw [e5] at q
  have q : s.fitsSlot cell.cls cell.vm fd.slot (.ref v) = true := q
  have es : s.slotType? cell.cls cell.vm fd.slot = some ty := by
    unfold State.slotType?
    rw [d2]
    simp only [Option.bind_eq_bind, Option.bind_some]
    cases hv : cell.vm <;> first | exact absurd hv (dv _) | simp [d8]
  unfold State.fitsSlot at q
  rw [es] at q
  rcases hty with rfl | rfl <;> simp [fits] at q
noncomputable def kZ (s : State) (z a : Nat) : Nat := by classical exact if ∃ v, St s z a v then 57 else if ∃ n f, Rr s z .byte a n f then 55 else if ∃ n f, Rr s z .int a n f then 56 else 0
noncomputable def nZ (s : State) (z a : Nat) : Nat := by classical exact if h : ∃ n f, Rr s z .byte a n f then h.choose else if h : ∃ n f, Rr s z .int a n f then h.choose else 0
noncomputable def iZ (s : State) (z a : Nat) : Nat → Int32 := by classical exact if ∃ v, St s z a v then fun _ => 0 else if h : ∃ n f, Rr s z .byte a n f then h.choose_spec.choose else if h : ∃ n f, Rr s z .int a n f then h.choose_spec.choose else fun _ => 0
noncomputable def rZ (s : State) (z : Nat) (cst : Nat → Option Nat) (a : Nat) : Nat → Option Nat := by classical exact fun j => if a = 0 ∧ j ≠ 0 then cst j else if h : ∃ v, St s z a v then some h.choose else none
noncomputable def hZ (s : State) (z : Nat) (cst : Nat → Option Nat) : hS := (kZ s z, nZ s z, iZ s z, fun _ _ => 0, rZ s z cst, z, 0)
variable {cst : Nat → Option Nat}
theorem St_lt {a v : Nat} (h : St s z a v) : a < z := by
  obtain ⟨⟨cell, h1, h2, h3, h4⟩, -⟩ := h
  exact Nat.lt_of_not_le h4
theorem Rr_lt {ty : FieldType} {a n : Nat} {f : Nat → Int32} (h : Rr s z ty a n f) : a < z := Nat.lt_of_not_le h.2.out
theorem hZ_str {a v : Nat} (h : St s z a v) : h_k (hZ s z cst) a = 57 ∧ h_i (hZ s z cst) a 1 = 0 ∧ h_r (hZ s z cst) a 0 = some v ∧ a < z := by
  have e : ∃ v, St s z a v := ⟨v, h⟩
  refine ⟨?_, ?_, ?_, St_lt h⟩
  · show kZ s z a = 57
    unfold kZ
    rw [if_pos e]
  · show iZ s z a 1 = 0
    unfold iZ
    rw [if_pos e]
  · show rZ s z cst a 0 = some v
    unfold rZ
    rw [if_neg (fun q => q.2 rfl), dif_pos e, St_un e.choose_spec h]
theorem hZ_byt (no : ∀ a v n f, St s z a v → Rr s z .byte a n f → False) {a n : Nat} {f : Nat → Int32} (h : Rr s z .byte a n f) : h_k (hZ s z cst) a = 55 ∧ h_n (hZ s z cst) a = n ∧ (∀ j, j < n → h_i (hZ s z cst) a j = f j) ∧ a < z := by
  have e : ∃ n f, Rr s z .byte a n f := ⟨n, f, h⟩
  have ne : ¬ ∃ v, St s z a v := fun ⟨v, q⟩ => no a v n f q h
  obtain ⟨u1, u2⟩ := Rr_un e.choose_spec.choose_spec h
  refine ⟨?_, ?_, fun j hj => ?_, Rr_lt h⟩
  · show kZ s z a = 55
    unfold kZ
    rw [if_neg ne, if_pos e]
  · show nZ s z a = n
    unfold nZ
    rw [dif_pos e]
    exact u1
  · show iZ s z a j = f j
    unfold iZ
    rw [if_neg ne, dif_pos e]
    exact u2 j (by rw [u1]; exact hj)
theorem hZ_int (no : ∀ a v n f, St s z a v → Rr s z .int a n f → False) {a n : Nat} {f : Nat → Int32} (h : Rr s z .int a n f) : h_k (hZ s z cst) a = 56 ∧ h_n (hZ s z cst) a = n ∧ (∀ j, j < n → h_i (hZ s z cst) a j = f j) ∧ a < z := by
  have e : ∃ n f, Rr s z .int a n f := ⟨n, f, h⟩
  have ne : ¬ ∃ v, St s z a v := fun ⟨v, q⟩ => no a v n f q h
  have nb : ¬ ∃ n f, Rr s z .byte a n f := fun ⟨n', f', q⟩ => Rr_no q h
  obtain ⟨u1, u2⟩ := Rr_un e.choose_spec.choose_spec h
  refine ⟨?_, ?_, fun j hj => ?_, Rr_lt h⟩
  · show kZ s z a = 56
    unfold kZ
    rw [if_neg ne, if_neg nb, if_pos e]
  · show nZ s z a = n
    unfold nZ
    rw [dif_neg nb, dif_pos e]
    exact u1
  · show iZ s z a j = f j
    unfold iZ
    rw [if_neg ne, dif_neg nb, dif_pos e]
    exact u2 j (by rw [u1]; exact hj)
theorem kZ_ro (a : Nat) : kZ s z a = 0 ∨ roK (kZ s z a) := by
  unfold kZ roK
  split
  · exact Or.inr (Or.inr (Or.inr rfl))
  · split
    · exact Or.inr (Or.inl rfl)
    · split
      · exact Or.inr (Or.inr (Or.inl rfl))
      · exact Or.inl rfl
theorem hZ_ro (a : Nat) (ha : roK (h_k (hZ s z cst) a)) : a < z ∧ rA z (hZ s z cst) a s s.heap := by
  by_cases q1 : ∃ v, St s z a v
  · obtain ⟨v, hv⟩ := q1
    obtain ⟨e1, e2, e3, e4⟩ := hZ_str (cst := cst) hv
    refine ⟨e4, ?_⟩
    unfold rA
    rw [if_pos e1, e2, e3]
    exact ⟨hv.1, hv.2.1, hv.2.2⟩
  · by_cases q2 : ∃ n f, Rr s z .byte a n f
    · have e1 : h_k (hZ s z cst) a = 55 := by
        show kZ s z a = 55
        unfold kZ
        rw [if_neg q1, if_pos q2]
      have e2 : h_n (hZ s z cst) a = q2.choose := by
        show nZ s z a = _
        unfold nZ
        rw [dif_pos q2]
      have e3 : h_i (hZ s z cst) a = q2.choose_spec.choose := by
        show iZ s z a = _
        unfold iZ
        rw [if_neg q1, dif_pos q2]
      have q := q2.choose_spec.choose_spec
      refine ⟨Rr_lt q, ?_⟩
      unfold rA
      rw [if_neg (by omega), if_pos e1, e2, e3]
      exact q.2
    · by_cases q3 : ∃ n f, Rr s z .int a n f
      · have e1 : h_k (hZ s z cst) a = 56 := by
          show kZ s z a = 56
          unfold kZ
          rw [if_neg q1, if_neg q2, if_pos q3]
        have e2 : h_n (hZ s z cst) a = q3.choose := by
          show nZ s z a = _
          unfold nZ
          rw [dif_neg q2, dif_pos q3]
        have e3 : h_i (hZ s z cst) a = q3.choose_spec.choose := by
          show iZ s z a = _
          unfold iZ
          rw [if_neg q1, dif_neg q2, dif_pos q3]
        have q := q3.choose_spec.choose_spec
        refine ⟨Rr_lt q, ?_⟩
        unfold rA
        rw [if_neg (by omega), if_neg (by omega), e2, e3]
        exact q.2
      · exfalso
        have e1 : h_k (hZ s z cst) a = 0 := by
          show kZ s z a = 0
          unfold kZ
          rw [if_neg q1, if_neg q2, if_neg q3]
        rw [e1] at ha
        unfold roK at ha
        omega
theorem wd_start {D : va_G} {cy1 : Nat → ClassId} (hX : wX (cy1, rZ s z cst 0) z s s.heap) (hK : va_K D cls (tys cy1) s) (hz : 0 < z) (hs : s.heap.size = z) : wd D (cy1, rZ s z cst 0) z s 0 (hZ s z cst) s.heap [] :=
  ⟨[], fun a h1 h2 => absurd ((kZ_ro (s := s) (z := z) a).resolve_left h1) h2, fun k q h => by simp [va_pl] at h, ⟨fun i j p q h => by simp [va_pl] at h, fun k q h => by simp [va_pl] at h⟩, va_S.rf, hK, ⟨hz, Nat.le_of_eq hs.symm⟩, hs, rfl, hZ_ro, hX, kZ_ro 0, rfl⟩
theorem WD_start (no : ∀ a v n f, St s z a v → Rr s z .byte a n f → False) {r : Option Nat} {w : List Int} {a v : Nat} {f : Nat → Int32} (e : r = some a) (h1 : St s z a v) (h2 : Rr s z .byte v w.length f) (hw : ∀ i, (hi : i < w.length) → f i = iI w[i]) : WD (fun _ => 30) (hZ s z cst) r w := by
  obtain ⟨a1, a2, a3, a4⟩ := hZ_str (cst := cst) h1
  obtain ⟨b1, b2, b3, b4⟩ := hZ_byt (cst := cst) no h2
  exact ⟨a, v, e, ⟨a1, rfl, a4⟩, a2, a3, ⟨b1, rfl, b4, b2⟩, fun i hi => (b3 i hi).trans (hw i hi)⟩
theorem NR_start (no : ∀ a v n f, St s z a v → Rr s z .int a n f → False) {r : Option Nat} {w : List Int} {a : Nat} {f : Nat → Int32} (e : r = some a) (h2 : Rr s z .int a w.length f) (hw : ∀ i, (hi : i < w.length) → f i = iI w[i]) : NR (fun _ => 30) (hZ s z cst) r w := by
  obtain ⟨b1, b2, b3, b4⟩ := hZ_int (cst := cst) no h2
  exact ⟨a, e, ⟨b1, rfl, b4, b2⟩, fun i hi => (b3 i hi).trans (hw i hi)⟩
end WS
