/-! THE REFERENCE: names of tables -/
theorem php : ∀ (n : Nat) (L : List Nat), (∀ t, t < n → t ∈ L) → n ≤ L.length := by
  intro n
  induction n with
  | zero => intro L _; exact Nat.zero_le _
  | succ n ih =>
    intro L h
    have h1 := ih (L.erase n) (fun t ht => (List.mem_erase_of_ne (by omega)).mpr (h t (by omega)))
    have h2 := List.length_erase_of_mem (h n (by omega))
    have h3 : 0 < L.length := List.length_pos_of_mem (h n (by omega))
    omega
/-- all numbers that may be named by a row of four costs -/
def nl1 (h : hS) (r off : Nat) : Nat → List Nat
  | 0 => []
  | i + 1 => (h_i h r (off + 1 + 4 * i + 3)).toInt.toNat :: nl1 h r off i
theorem nl1_len (h : hS) (r off : Nat) : ∀ i, (nl1 h r off i).length = i := by
  intro i
  induction i with
  | zero => rfl
  | succ i ih => rw [nl1, List.length_cons, ih]
theorem nl1_mem (h : hS) (r off : Nat) : ∀ i j, j < i → (h_i h r (off + 1 + 4 * j + 3)).toInt.toNat ∈ nl1 h r off i := by
  intro i
  induction i with
  | zero => intro j hj; omega
  | succ i ih =>
    intro j hj
    rw [nl1]
    by_cases e : j = i
    · rw [e]; exact List.mem_cons_self ..
    · exact List.mem_cons_of_mem _ (ih j (by omega))
def nl4 (h : hS) (r off : Nat) : List Nat := nl1 h r off 40 ++ nl1 h r (off + 161) 40 ++ nl1 h r (off + 322) 40 ++ nl1 h r (off + 483) 40
theorem nl4_len (h : hS) (r off : Nat) : (nl4 h r off).length = 160 := by unfold nl4; simp only [List.length_append, nl1_len]
theorem nmd_nl {h : hS} {r off t : Nat} (ht : t < 1000) (q : nmd h r off t) : t ∈ nl4 h r off := by
  obtain ⟨c, hc, i, i4, _, _, i3⟩ := q
  have e : (h_i h r (off + 161 * c + 1 + 4 * i + 3)).toInt.toNat = t := by rw [i3, iI_toInt (by omega) (by omega)]; omega
  have m := nl1_mem h r (off + 161 * c) 40 i i4
  rw [e] at m
  unfold nl4
  simp only [List.mem_append]
  rcases (show c = 0 ∨ c = 1 ∨ c = 2 ∨ c = 3 by omega) with z | z | z | z <;> subst z
  · exact Or.inl (Or.inl (Or.inl m))
  · exact Or.inl (Or.inl (Or.inr m))
  · exact Or.inl (Or.inr m)
  · exact Or.inr m
/-- the numbers that a state names are few -/
theorem cov_few {h : hS} {r0 rp na : Nat} (C : cov h r0 rp na) : ∃ L : List Nat, L.length ≤ 160 + 3 * na ∧ ∀ t, t < 1000 → (nmd h r0 0 t ∨ ∃ k, k < na ∧ nmd h rp (644 * k) t) → t ∈ L := by
  obtain ⟨D, d1, d2⟩ := C
  -- up to the k-th
  have up : ∀ k, k ≤ na → ∃ L : List Nat, L.length ≤ 160 + 3 * k ∧ ∀ t, t < 1000 → ((∃ j, j ≤ k ∧ j < na ∧ nmd h rp (644 * j) t) ∨ (k = na ∧ nmd h r0 0 t)) → t ∈ L := by
    intro k
    induction k with
    | zero =>
      intro _
      by_cases e : na = 0
      · exact ⟨nl4 h r0 0, by rw [nl4_len]; omega, fun t ht q => by
          rcases q with ⟨j, _, j2, _⟩ | ⟨_, q⟩
          · omega
          · exact nmd_nl ht q⟩
      · exact ⟨nl4 h rp 0, by rw [nl4_len]; omega, fun t ht q => by
          rcases q with ⟨j, j1, _, j3⟩ | ⟨q, _⟩
          · have e0 : j = 0 := by omega
            subst e0
            exact nmd_nl ht j3
          · omega⟩
    | succ k ih =>
      intro hk
      obtain ⟨L, l1, l2⟩ := ih (by omega)
      refine ⟨D k ++ L, by rw [List.length_append]; have := d1 k (by omega); omega, fun t ht q => ?_⟩
      rw [List.mem_append]
      have back : (if k + 1 = na then nmd h r0 0 t else nmd h rp (644 * (k + 1)) t) → t ∈ D k ∨ t ∈ L := fun z => by
        rcases d2 k (by omega) t ht z with y | y
        · exact Or.inr (l2 t ht (Or.inl ⟨k, Nat.le_refl _, by omega, y⟩))
        · exact Or.inl y
      rcases q with ⟨j, j1, j2, j3⟩ | ⟨q1, q2⟩
      · by_cases e : j = k + 1
        · subst e
          exact back (by rw [if_neg (by omega)]; exact j3)
        · exact Or.inr (l2 t ht (Or.inl ⟨j, by omega, j2, j3⟩))
      · exact back (by rw [if_pos q1]; exact q2)
  obtain ⟨L, l1, l2⟩ := up na (Nat.le_refl _)
  refine ⟨L, l1, fun t ht q => l2 t ht ?_⟩
  rcases q with q | ⟨k, k1, k2⟩
  · exact Or.inr ⟨rfl, q⟩
  · exact Or.inl ⟨k, by omega, k1, k2⟩
/-- a place for a cost's steps, as names reads it -/
def RVl (h : hS) (r off : Nat) : Prop := ∃ n : Nat, n ≤ 40 ∧ h_i h r off = iI n ∧ ∀ i, i < n → ∃ kd t : Int, h_i h r (off + 1 + 4 * i) = iI kd ∧ (0 ≤ kd ∧ kd ≤ 8) ∧ h_i h r (off + 1 + 4 * i + 3) = iI t ∧ (kd = 8 → 0 ≤ t ∧ t < 1000)
def b01 (B : Nat → Int32) : Prop := ∀ t, t < 1000 → B t = 0 ∨ B t = 1
section
variable {ρ : Nat → Nat} {A : Nat → Nat} {m : Nat} {h g u : hS} {F F' : FT}
theorem R1.rv {r k : Nat} {x : ChT} (R : R1 A h r k x) (ha : ∀ i, i < x.1 → okArg (x.2.1 i).1 (x.2.1 i).2.1 (x.2.1 i).2.2) : RVl h r k := by
  refine ⟨x.1, R.2.1, R.1, fun i hi => ?_⟩
  obtain ⟨b1, b2, b3, t, b4, b5⟩ := R.2.2 i hi
  refine ⟨(x.2.1 i).1, t, b1, (ha i hi).1, b4, fun q => ?_⟩
  obtain ⟨c, c1, _⟩ := b5 q
  exact c1
theorem RVl.z {r k : Nat} (e : h_i h r k = 0) : RVl h r k := ⟨0, by omega, e, fun i hi => absurd hi (Nat.not_lt_zero _)⟩
theorem uZ_1 {β : Type} {a j : Nat} {f : hS → Option β} (hk : h_k h a = 53) (hl : h_n h a = 1000) (hj : j < 1000) (B : Nat → Int32) : uZ (s_w h a B) (some a) (iI j) (1 : Int32) f = f (s_w h a (upd B j 1)) := by
  have h1 : inb (iI j) (h_n (s_w h a B) a) := by show inb (iI j) (h_n h a); rw [hl, ← nI_iI]; exact nI_in hj (by omega)
  show (if h_k (s_w h a B) a = 53 ∧ inb (iI j) (h_n (s_w h a B) a) then f (s_i (s_w h a B) a (iI j).toNatClampNeg (vp_nar .boolean 1)) else none) = _
  rw [if_pos ⟨hk, h1⟩, ← nI_iI, nI_clamp (by omega), s_w_i]
  rfl
theorem uZ_0 {β : Type} {a j : Nat} {f : hS → Option β} (hk : h_k h a = 53) (hl : h_n h a = 1000) (hj : j < 1000) (B : Nat → Int32) : uZ (s_w h a B) (some a) (iI j) (0 : Int32) f = f (s_w h a (upd B j 0)) := by
  have h1 : inb (iI j) (h_n (s_w h a B) a) := by show inb (iI j) (h_n h a); rw [hl, ← nI_iI]; exact nI_in hj (by omega)
  show (if h_k (s_w h a B) a = 53 ∧ inb (iI j) (h_n (s_w h a B) a) then f (s_i (s_w h a B) a (iI j).toNatClampNeg (vp_nar .boolean 0)) else none) = _
  rw [if_pos ⟨hk, h1⟩, ← nI_iI, nI_clamp (by omega), s_w_i]
  rfl
theorem aZ_i {β : Type} {a j : Nat} {f : Int32 → Option β} (hk : h_k h a = 53) (hl : h_n h a = 1000) (hj : j < 1000) : aI h 53 (some a) (iI j) f = f (h_i h a j) := by
  have h1 : inb (iI j) (h_n h a) := by rw [hl, ← nI_iI]; exact nI_in hj (by omega)
  show (if h_k h a = 53 ∧ inb (iI j) (h_n h a) then f (h_i h a (iI j).toNatClampNeg) else none) = _
  rw [if_pos ⟨hk, h1⟩, ← nI_iI, nI_clamp (by omega)]
theorem b01_1 {B : Nat → Int32} (hB : b01 B) (j : Nat) : b01 (upd B j 1) := fun t ht => by
  unfold upd
  by_cases e : t = j
  · rw [if_pos e]; exact Or.inr rfl
  · rw [if_neg e]; exact hB t ht
/-- the names of one cost's steps -/
theorem names14 (N : Nat) (M : MO A m h) {r L s : Nat} (hr : ro h r L) (hr8 : r ≠ A 8) (hs : 161 * s + 161 ≤ L) (hL : L ≤ 25760) (rc : hS → Nat → Nat → Int32 → Option (Unit × hS)) {n : Nat} (hn : n ≤ 40) (en : h_i h r (161 * s) = iI n) (hv : ∀ i, i < n → ∃ kd t : Int, h_i h r (161 * s + 1 + 4 * i) = iI kd ∧ (0 ≤ kd ∧ kd ≤ 8) ∧ h_i h r (161 * s + 1 + 4 * i + 3) = iI t ∧ (kd = 8 → 0 ≤ t ∧ t < 1000)) : ∀ (q i fuel : Nat) (B : Nat → Int32), i + q = n → b01 B → ∃ B', f_M_names_14 N rc (q + (fuel + 1)) (s_w h (A 8) B) m r (iI s) (iI i) = rc (s_w h (A 8) B') m r (iI ((s + 1 : Nat) : Int)) ∧ b01 B' ∧ ∀ t, t < 1000 → (B' t = 1 ↔ (B t = 1 ∨ ∃ j, i ≤ j ∧ j < n ∧ h_i h r (161 * s + 1 + 4 * j) = 8 ∧ h_i h r (161 * s + 1 + 4 * j + 3) = iI t)) := by
  have m8 : (8, 53, 1000) ∈ mrows := by decide
  have r8 := M.2.1 (8, 53, 1000) (by decide)
  have ea : ∀ B, h_i (s_w h (A 8) B) r = h_i h r := fun B => by rw [h_i_sw, if_neg hr8]
  intro q
  induction q with
  | zero =>
    intro i fuel B hi hB
    refine ⟨B, ?_, hB, fun t _ => ⟨fun z => Or.inl z, fun z => by rcases z with z | ⟨j, j1, j2, _⟩; exact z; omega⟩⟩
    rw [Nat.zero_add]
    unfold f_M_names_14
    rw [show (161 : Int32) * iI (s : Int) = iI ((161 * s : Nat) : Int) by rw [show (161 : Int32) = iI 161 from rfl, iI_mul]; rfl, aI_iI (h := s_w h (A 8) B) (z := ((161 * s : Nat) : Int)) hr (by omega) (by omega) (by omega), Int.toNat_natCast, ea, en, if_pos ((iI_le (by omega) (by omega)).mpr (by omega)), bn_i, show iI (s : Int) + (1 : Int32) = iI ((s + 1 : Nat) : Int) by rw [show (1 : Int32) = iI 1 from rfl, iI_add]; rfl]
  | succ q ih =>
    intro i fuel B hi hB
    obtain ⟨kd, t0, v1, v2, v3, v4⟩ := hv i (by omega)
    have e1 : iI (i : Int) + (1 : Int32) = iI ((i + 1 : Nat) : Int) := by rw [show (1 : Int32) = iI 1 from rfl, iI_add]; rfl
    have st : f_M_names_14 N rc ((q + (fuel + 1)) + 1) (s_w h (A 8) B) m r (iI s) (iI i) = if iI kd = (8 : Int32) then (gR (s_w h (A 8) B) (some m) 0 8 fun v5 => aI (s_w h (A 8) B) 50 (some r) (iI ((161 * s + 1 + 4 * i : Nat) : Int) + (3 : Int32)) fun v6 => uZ (s_w h (A 8) B) v5 v6 (1 : Int32) fun h7 => f_M_names_14 N rc (q + (fuel + 1)) h7 m r (iI s) (iI ((i + 1 : Nat) : Int))) else f_M_names_14 N rc (q + (fuel + 1)) (s_w h (A 8) B) m r (iI s) (iI ((i + 1 : Nat) : Int)) := by
      conv => lhs; unfold f_M_names_14
      unfold f_M_names_59
      rw [show (161 : Int32) * iI (s : Int) = iI ((161 * s : Nat) : Int) by rw [show (161 : Int32) = iI 161 from rfl, iI_mul]; rfl, aI_iI (h := s_w h (A 8) B) (z := ((161 * s : Nat) : Int)) hr (by omega) (by omega) (by omega), Int.toNat_natCast, ea, en, if_neg (fun z => absurd ((iI_le (by omega) (by omega)).mp z) (by omega)), bn_i, show iI ((161 * s : Nat) : Int) + (1 : Int32) + (4 : Int32) * iI (i : Int) = iI ((161 * s + 1 + 4 * i : Nat) : Int) by rw [show (1 : Int32) = iI 1 from rfl, iI_add, show (4 : Int32) = iI 4 from rfl, iI_mul, iI_add]; congr 1, aI_iI (h := s_w h (A 8) B) (z := ((161 * s + 1 + 4 * i : Nat) : Int)) hr (by omega) (by omega) (by omega), Int.toNat_natCast, ea, v1]
      simp only [bn_i, e1]
    rw [show q + 1 + (fuel + 1) = (q + (fuel + 1)) + 1 by omega, st]
    by_cases k8 : kd = 8
    · obtain ⟨t1, t2⟩ := v4 k8
      obtain ⟨B', b1, b2, b3⟩ := ih (i + 1) fuel (upd B t0.toNat 1) (by omega) (b01_1 hB _)
      refine ⟨B', ?_, b2, fun t ht => ?_⟩
      · rw [if_pos (show iI kd = (8 : Int32) by rw [k8]; rfl), gR_at (M.sw _ _) m8, show iI ((161 * s + 1 + 4 * i : Nat) : Int) + (3 : Int32) = iI ((161 * s + 1 + 4 * i + 3 : Nat) : Int) by rw [show (3 : Int32) = iI 3 from rfl, iI_add]; rfl, aI_iI (h := s_w h (A 8) B) (z := ((161 * s + 1 + 4 * i + 3 : Nat) : Int)) hr (by omega) (by omega) (by omega), Int.toNat_natCast, ea, v3, show iI t0 = iI ((t0.toNat : Nat) : Int) by congr 1; omega, uZ_1 r8.2.1 r8.2.2 (by omega)]
        exact b1
      · rw [b3 t ht]
        constructor
        · rintro (z | ⟨j, j1, j2, j3⟩)
          · unfold upd at z
            by_cases e : t = t0.toNat
            · exact Or.inr ⟨i, Nat.le_refl _, by omega, by rw [v1, k8]; rfl, by rw [v3, e]; congr 1; omega⟩
            · rw [if_neg e] at z; exact Or.inl z
          · exact Or.inr ⟨j, by omega, j2, j3⟩
        · rintro (z | ⟨j, j1, j2, j3, j4⟩)
          · left
            unfold upd
            split
            · rfl
            · exact z
          · by_cases e : j = i
            · left
              subst e
              rw [v3] at j4
              have := (iI_eq (by omega) (by omega)).mp j4
              unfold upd
              rw [if_pos (by omega)]
            · exact Or.inr ⟨j, by omega, j2, j3, j4⟩
    · obtain ⟨B', b1, b2, b3⟩ := ih (i + 1) fuel B (by omega) hB
      refine ⟨B', ?_, b2, fun t ht => ?_⟩
      · rw [if_neg (show ¬ iI kd = (8 : Int32) from fun z => k8 ((iI_eq (b := 8) (by omega) (by omega)).mp z))]
        exact b1
      · rw [b3 t ht]
        constructor
        · rintro (z | ⟨j, j1, j2, j3⟩)
          · exact Or.inl z
          · exact Or.inr ⟨j, by omega, j2, j3⟩
        · rintro (z | ⟨j, j1, j2, j3, j4⟩)
          · exact Or.inl z
          · by_cases e : j = i
            · subst e
              rw [v1] at j3
              exact absurd ((iI_eq (b := 8) (by omega) (by omega)).mp j3) k8
            · exact Or.inr ⟨j, by omega, j2, j3, j4⟩
theorem names2 (N : Nat) (hN : 30000 ≤ N) (M : MO A m h) {r S : Nat} (hS1 : S ≤ 160) (hr : ro h r (161 * S)) (hr8 : r ≠ A 8) (hv : ∀ s, s < S → RVl h r (161 * s)) : ∀ (q s fuel : Nat) (B : Nat → Int32), s + q = S → b01 B → ∃ B', f_M_names_2 N (q + (fuel + 1)) (s_w h (A 8) B) m r (iI s) = some ((), s_w h (A 8) B') ∧ b01 B' ∧ ∀ t, t < 1000 → (B' t = 1 ↔ (B t = 1 ∨ ∃ j, s ≤ j ∧ j < S ∧ nm1 h r (161 * j) t)) := by
  intro q
  induction q with
  | zero =>
    intro s fuel B hs hB
    refine ⟨B, ?_, hB, fun t _ => ⟨fun z => Or.inl z, fun z => by rcases z with z | ⟨j, j1, j2, _⟩; exact z; omega⟩⟩
    rw [Nat.zero_add]
    unfold f_M_names_2
    have ed : iI ((161 * S : Nat) : Int) / (161 : Int32) = iI (S : Int) := by
      have : ∀ k : Fin 161, iI ((161 * k.val : Nat) : Int) / (161 : Int32) = iI (k.val : Int) := by decide +kernel
      exact this ⟨S, by omega⟩
    rw [lnA_i (h := s_w h (A 8) B) hr, dv_ok (by decide), ed, if_pos ((iI_le (by omega) (by omega)).mpr (by omega))]
  | succ q ih =>
    intro s fuel B hs hB
    obtain ⟨n, n1, n2, n3⟩ := hv s (by omega)
    obtain ⟨B1, b1, b2, b3⟩ := names14 N M hr hr8 (s := s) (by omega) (by omega) (f_M_names_2 N (q + (fuel + 1))) n1 n2 n3 n 0 (N - n - 1) B (by omega) hB
    rw [show n + (N - n - 1 + 1) = N by omega] at b1
    obtain ⟨B', c1, c2, c3⟩ := ih (s + 1) fuel B1 (by omega) b2
    refine ⟨B', ?_, c2, fun t ht => ?_⟩
    · rw [show q + 1 + (fuel + 1) = (q + (fuel + 1)) + 1 by omega]
      have ed : iI ((161 * S : Nat) : Int) / (161 : Int32) = iI (S : Int) := by
        have : ∀ k : Fin 161, iI ((161 * k.val : Nat) : Int) / (161 : Int32) = iI (k.val : Int) := by decide +kernel
        exact this ⟨S, by omega⟩
      conv => lhs; unfold f_M_names_2
      rw [lnA_i (h := s_w h (A 8) B) hr, dv_ok (by decide), ed, if_neg (fun z => absurd ((iI_le (by omega) (by omega)).mp z) (by omega))]
      exact b1.trans c1
    · rw [c3 t ht, b3 t ht]
      constructor
      · rintro ((z | ⟨j, j1, j2, j3, j4⟩) | ⟨j, j1, j2, j3⟩)
        · exact Or.inl z
        · exact Or.inr ⟨s, Nat.le_refl _, by omega, j, by omega, by rw [n2, iI_toInt (by omega) (by omega)]; omega, j3, j4⟩
        · exact Or.inr ⟨j, by omega, j2, j3⟩
      · rintro (z | ⟨j, j1, j2, i, i1, i2, i3, i4⟩)
        · exact Or.inl (Or.inl z)
        · by_cases e : j = s
          · subst e
            rw [n2, iI_toInt (by omega) (by omega)] at i2
            exact Or.inl (Or.inr ⟨i, Nat.zero_le _, by omega, i3, i4⟩)
          · exact Or.inr ⟨j, by omega, j2, i, i1, i2, i3, i4⟩
theorem names_is (N : Nat) (hN : 30000 ≤ N) (M : MO A m h) {r S : Nat} (hS1 : S ≤ 160) (hr : ro h r (161 * S)) (hr8 : r ≠ A 8) (hv : ∀ s, s < S → RVl h r (161 * s)) (B : Nat → Int32) (hB : b01 B) : ∃ B', f_M_names N (s_w h (A 8) B) m r = some ((), s_w h (A 8) B') ∧ b01 B' ∧ ∀ t, t < 1000 → (B' t = 1 ↔ (B t = 1 ∨ ∃ j, j < S ∧ nm1 h r (161 * j) t)) := by
  obtain ⟨B', b1, b2, b3⟩ := names2 N hN M hS1 hr hr8 hv S 0 (N - S - 1) B (by omega) hB
  rw [show S + (N - S - 1 + 1) = N by omega] at b1
  refine ⟨B', b1, b2, fun t ht => ?_⟩
  rw [b3 t ht]
  constructor
  · rintro (z | ⟨j, _, j2, j3⟩)
    · exact Or.inl z
    · exact Or.inr ⟨j, j2, j3⟩
  · rintro (z | ⟨j, j2, j3⟩)
    · exact Or.inl z
    · exact Or.inr ⟨j, Nat.zero_le _, j2, j3⟩
end
