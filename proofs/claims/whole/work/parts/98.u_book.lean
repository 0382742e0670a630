/-! A BOOK OF NEW CELLS: those from X on, by their places; all their numbers are 0 but those of the first -/
def BK (ρ0 : Nat → Nat) (h0 : hS) (X ex er : Nat) (W : Nat → Option Nat) (L : List (Nat × Nat × Nat × Nat)) (Rf : List (Nat × Nat × Nat)) (I : Nat → Int32) (M : Nat) (ρ : Nat → Nat) (g : hS) : Prop := (FX L ρ g (fun i => X + i) ∧ RF Rf g (fun i => X + i) ∧ ∀ e ∈ Rf, e.1 < L.length) ∧ (∀ a, X < a → a < h_x g → (a ≠ X + ex → h_i g a = fun _ => 0) ∧ h_j g a = fun _ => 0) ∧ (h_i g X = I ∧ 0 < L.length) ∧ (h_x g = X + L.length ∧ hm g = M) ∧ ((∀ i k, i < L.length → i ≠ er → (∀ e ∈ Rf, e.1 ≠ i ∨ e.2.1 ≠ k) → h_r g (X + i) k = none) ∧ (er < L.length → h_r g (X + er) = W)) ∧ h_x h0 ≤ X ∧ ∀ R, tr ρ0 h0 R ρ g
def PB (Φ : (Nat → Nat) → hS → Prop) (r : Option (Unit × hS)) : Prop := ∃ ρ' g, r = some ((), g) ∧ Φ ρ' g
section
variable {α β : Type} {h : hS} {K : α → hS → Option β}
theorem cl_nwA {kd : Nat} {n : Int32} {f : Nat → hS → Option (α × hS)} : cl (nwA h kd n f) K = nwA h kd n (fun q g => cl (f q g) K) := by
  unfold nwA
  split
  · rfl
  · rfl
theorem cl_nwO {ci ms : Nat} {f : Nat → hS → Option (α × hS)} : cl (nwO h ci ms f) K = nwO h ci ms (fun q g => cl (f q g) K) := rfl
theorem cl_cl {γ : Type} {o : Option (γ × hS)} {f : γ → hS → Option (α × hS)} : cl (cl o f) K = cl o (fun a g => cl (f a g) K) := by
  cases o with
  | none => rfl
  | some q => rfl
theorem cl_pR {r v : Option Nat} {ci k : Nat} {f : hS → Option (α × hS)} : cl (pR h r ci k v f) K = pR h r ci k v (fun g => cl (f g) K) := by
  unfold pR
  cases r with
  | none => rfl
  | some a =>
    simp only [nn]
    split
    · rfl
    · rfl
theorem cl_pI {r : Option Nat} {v : Int32} {ci k : Nat} {f : hS → Option (α × hS)} : cl (pI h r ci k v f) K = pI h r ci k v (fun g => cl (f g) K) := by
  unfold pI
  cases r with
  | none => rfl
  | some a =>
    simp only [nn]
    split
    · rfl
    · rfl
theorem cl_pJ {r : Option Nat} {v : Int64} {ci k : Nat} {f : hS → Option (α × hS)} : cl (pJ h r ci k v f) K = pJ h r ci k v (fun g => cl (f g) K) := by
  unfold pJ
  cases r with
  | none => rfl
  | some a =>
    simp only [nn]
    split
    · rfl
    · rfl
end
section
variable {ρ0 ρ : Nat → Nat} {h0 g : hS} {X ex er : Nat} {W : Nat → Option Nat} {L : List (Nat × Nat × Nat × Nat)} {Rf : List (Nat × Nat × Nat)} {I : Nat → Int32} {M : Nat} {Φ : (Nat → Nat) → hS → Prop}
theorem upd_00 (k : Nat) : upd (fun _ => (0 : Int32)) k 0 = fun _ => 0 := by
  funext j
  unfold upd
  split <;> rfl
theorem updL_00 (k : Nat) : vp_updL (fun _ => (0 : Int64)) k 0 = fun _ => 0 := by
  funext j
  unfold vp_updL
  split <;> rfl
theorem BK.new (B : BK ρ0 h0 X ex er W L Rf I M ρ g) (kd l n ms : Nat) (hW : L.length = er → W = fun _ => none) : BK ρ0 h0 X ex er W ((L.length, kd, l, n) :: L) Rf I (M + 13 + ms) (ext ρ g l) (nw g kd n ms) := by
  obtain ⟨⟨f1, f2, f3⟩, z, ⟨i1, i2⟩, ⟨x1, m1⟩, ⟨nr, wr⟩, x0, t⟩ := B
  refine ⟨⟨f1.cons (i := L.length) x1.symm, f2.nw (fun e he => by have := f3 e he; show X + e.1 < _; omega), fun e he => by have := f3 e he; rw [List.length_cons]; omega⟩, fun a h1 h2 => ?_, ⟨?_, by rw [List.length_cons]; omega⟩, ⟨by show h_x g + 1 = _; rw [List.length_cons]; omega, ?_⟩, ⟨fun i k h1 h3 h2 => ?_, fun h1 => ?_⟩, x0, fun R => (t R).trans tr_nw⟩
  · have h2' : a < h_x g + 1 := h2
    rw [i_nw, j_nw]
    by_cases e : a = h_x g
    · rw [if_pos e, if_pos e]; exact ⟨fun _ => rfl, rfl⟩
    · rw [if_neg e, if_neg e]; exact z a h1 (by omega)
  · rw [i_nw, if_neg (by omega)]; exact i1
  · show 13 * (h_x g + 1) + (h_s g + ms) = M + 13 + ms
    have : 13 * h_x g + h_s g = M := m1
    omega
  · rw [List.length_cons] at h1
    rw [r_nw]
    by_cases e : X + i = h_x g
    · rw [if_pos e]
    · rw [if_neg e]; exact nr i k (by omega) h3 h2
  · rw [List.length_cons] at h1
    rw [r_nw]
    by_cases e : X + er = h_x g
    · rw [if_pos e, hW (by omega)]
    · rw [if_neg e]; exact wr (by omega)
theorem BK.ref (B : BK ρ0 h0 X ex er W L Rf I M ρ g) {i k : Nat} (j : Nat) (hi : i < L.length) (hr : i ≠ er) (hL : ∀ e ∈ Rf, e.1 ≠ i ∨ e.2.1 ≠ k) : BK ρ0 h0 X ex er W L ((i, k, j) :: Rf) I M ρ (s_r g (X + i) k (some (X + j))) := by
  obtain ⟨⟨f1, f2, f3⟩, z, ⟨i1, i2⟩, ⟨x1, m1⟩, ⟨nr, wr⟩, x0, t⟩ := B
  refine ⟨⟨f1.keep (R := fun _ => True) (tr_sr trivial), f2.cons (i := i) (k := k) (j := j) (fun e he => ?_), fun e he => ?_⟩, z, ⟨i1, i2⟩, ⟨x1, m1⟩, ⟨fun i' k' h1 h3 h2 => ?_, fun h1 => by rw [h_r_sr, if_neg (by omega)]; exact wr h1⟩, x0, fun R => (t R).nr (by omega)⟩
  · rcases hL e he with q | q
    · exact Or.inl (by show X + e.1 ≠ X + i; omega)
    · exact Or.inr q
  · rcases List.mem_cons.mp he with rfl | he
    · exact hi
    · exact f3 e he
  · rw [h_r_sr]
    have hd := h2 (i, k, j) (by simp)
    by_cases e : X + i' = X + i
    · have e' : i' = i := by omega
      subst e'
      rw [if_pos e]
      unfold va_up
      rw [if_neg (by
        rcases hd with q | q
        · exact absurd rfl q
        · exact fun y => q y.symm)]
      exact nr i' k' h1 h3 (fun e he => h2 e (by simp [he]))
    · rw [if_neg e]
      exact nr i' k' h1 h3 (fun e he => h2 e (by simp [he]))
theorem BK.non (B : BK ρ0 h0 X ex er W L Rf I M ρ g) {i k : Nat} (hi : i < L.length) (hr : i ≠ er) (hL : ∀ e ∈ Rf, e.1 ≠ i ∨ e.2.1 ≠ k) : BK ρ0 h0 X ex er W L Rf I M ρ (s_r g (X + i) k none) := by
  obtain ⟨⟨f1, f2, f3⟩, z, ⟨i1, i2⟩, ⟨x1, m1⟩, ⟨nr, wr⟩, x0, t⟩ := B
  have e0 : s_r g (X + i) k none = g := by
    have q := nr i k hi hr hL
    unfold s_r
    have : va_up g.2.2.2.2.1 (X + i) (va_up (g.2.2.2.2.1 (X + i)) k none) = g.2.2.2.2.1 := by
      funext a b
      unfold va_up
      by_cases e : a = X + i
      · rw [if_pos e]
        show (if b = k then none else g.2.2.2.2.1 (X + i) b) = _
        by_cases e2 : b = k
        · rw [if_pos e2, e, e2]; exact q.symm
        · rw [if_neg e2, e]
      · rw [if_neg e]
    rw [this]
  rw [e0]
  exact ⟨⟨f1, f2, f3⟩, z, ⟨i1, i2⟩, ⟨x1, m1⟩, ⟨nr, wr⟩, x0, t⟩
theorem BK.refx (B : BK ρ0 h0 X ex er W L Rf I M ρ g) (k : Nat) (v : Option Nat) (hi : er < L.length) (hL : ∀ e ∈ Rf, e.1 ≠ er) : BK ρ0 h0 X ex er (va_up W k v) L Rf I M ρ (s_r g (X + er) k v) := by
  obtain ⟨⟨f1, f2, f3⟩, z, ⟨i1, i2⟩, ⟨x1, m1⟩, ⟨nr, wr⟩, x0, t⟩ := B
  refine ⟨⟨f1.keep (R := fun _ => True) (tr_sr trivial), fun e he => ?_, f3⟩, z, ⟨i1, i2⟩, ⟨x1, m1⟩, ⟨fun i k' h1 h3 h2 => ?_, fun _ => by rw [h_r_sr, if_pos rfl, wr hi]⟩, x0, fun R => (t R).nr (by omega)⟩
  · have q := hL e he
    show h_r (s_r g (X + er) k v) (X + e.1) e.2.1 = some (X + e.2.2)
    rw [h_r_sr, if_neg (by omega)]
    exact f2 e he
  · rw [h_r_sr, if_neg (by omega)]; exact nr i k' h1 h3 h2
theorem BK.int0 (B : BK ρ0 h0 X ex er W L Rf I M ρ g) {i : Nat} (k : Nat) (hi0 : 0 < i) (hi : i < L.length) (hx : i ≠ ex) : BK ρ0 h0 X ex er W L Rf I M ρ (s_i g (X + i) k 0) := by
  obtain ⟨⟨f1, f2, f3⟩, z, ⟨i1, i2⟩, ⟨x1, m1⟩, ⟨nr, wr⟩, x0, t⟩ := B
  refine ⟨⟨f1.keep (R := fun _ => True) (tr_si trivial), f2, f3⟩, fun a h1 h2 => ?_, ⟨by rw [h_i_si, if_neg (by omega)]; exact i1, i2⟩, ⟨x1, m1⟩, ⟨nr, wr⟩, x0, fun R => (t R).ni (by omega)⟩
  rw [h_i_si]
  by_cases e : a = X + i
  · subst e
    rw [if_pos rfl, (z (X + i) (by omega) (by omega)).1 (by omega), upd_00]
    exact ⟨fun _ => rfl, (z (X + i) (by omega) (by omega)).2⟩
  · rw [if_neg e]; exact z a h1 h2
theorem BK.int (B : BK ρ0 h0 X ex er W L Rf I M ρ g) (k : Nat) (v : Int32) : BK ρ0 h0 X ex er W L Rf (upd I k v) M ρ (s_i g X k v) := by
  obtain ⟨⟨f1, f2, f3⟩, z, ⟨i1, i2⟩, ⟨x1, m1⟩, ⟨nr, wr⟩, x0, t⟩ := B
  refine ⟨⟨f1.keep (R := fun _ => True) (tr_si trivial), f2, f3⟩, fun a h1 h2 => ?_, ⟨by rw [h_i_si, if_pos rfl, i1], i2⟩, ⟨x1, m1⟩, ⟨nr, wr⟩, x0, fun R => (t R).ni x0⟩
  rw [h_i_si, if_neg (by omega)]
  exact z a h1 h2
theorem BK.intx (B : BK ρ0 h0 X ex er W L Rf I M ρ g) (k : Nat) (v : Int32) (hi0 : 0 < ex) : BK ρ0 h0 X ex er W L Rf I M ρ (s_i g (X + ex) k v) := by
  obtain ⟨⟨f1, f2, f3⟩, z, ⟨i1, i2⟩, ⟨x1, m1⟩, ⟨nr, wr⟩, x0, t⟩ := B
  refine ⟨⟨f1.keep (R := fun _ => True) (tr_si trivial), f2, f3⟩, fun a h1 h2 => ⟨fun h3 => by rw [h_i_si, if_neg h3]; exact (z a h1 h2).1 h3, (z a h1 h2).2⟩, ⟨by rw [h_i_si, if_neg (by omega)]; exact i1, i2⟩, ⟨x1, m1⟩, ⟨nr, wr⟩, x0, fun R => (t R).ni (by omega)⟩
theorem BK.lng0 (B : BK ρ0 h0 X ex er W L Rf I M ρ g) {i : Nat} (k : Nat) (hi0 : 0 < i) (hi : i < L.length) : BK ρ0 h0 X ex er W L Rf I M ρ (s_j g (X + i) k 0) := by
  obtain ⟨⟨f1, f2, f3⟩, z, ⟨i1, i2⟩, ⟨x1, m1⟩, ⟨nr, wr⟩, x0, t⟩ := B
  refine ⟨⟨f1.keep (R := fun _ => True) (tr_sj trivial), f2, f3⟩, fun a h1 h2 => ?_, ⟨i1, i2⟩, ⟨x1, m1⟩, ⟨nr, wr⟩, x0, fun R => (t R).nj (by omega)⟩
  rw [h_j_sj]
  by_cases e : a = X + i
  · subst e
    rw [if_pos rfl, (z (X + i) (by omega) (by omega)).2, updL_00]
    exact ⟨(z (X + i) (by omega) (by omega)).1, rfl⟩
  · rw [if_neg e]; exact z a h1 h2
theorem BK.k (B : BK ρ0 h0 X ex er W L Rf I M ρ g) {i kd l n : Nat} (hi : (i, kd, l, n) ∈ L) : h_k g (X + i) = kd ∧ h_n g (X + i) = n ∧ i < L.length := by
  obtain ⟨q1, q2, q3, q4⟩ := B.1.1 _ hi
  have := B.2.2.2.1.1
  exact ⟨q1, q3, by have q4' : X + i < h_x g := q4; omega⟩
theorem BK.A (B : BK ρ0 h0 X ex er W L Rf I M ρ g) (kd l n c : Nat) (hc : L.length = c) (hW : c = er → W = fun _ => none) (hn : n ≤ 10000000) {v : Int32} (hv : v = iI n) {f : Nat → hS → Option (Unit × hS)} (k : ∀ ρ' g', BK ρ0 h0 X ex er W ((c, kd, l, n) :: L) Rf I (M + 13 + n) ρ' g' → PB Φ (f (X + c) g')) : PB Φ (nwA g kd v f) := by
  have x1 := B.2.2.2.1.1
  subst hc
  rw [hv, nwA_n hn, x1]
  exact k _ _ (B.new kd l n n hW)
theorem BK.O (B : BK ρ0 h0 X ex er W L Rf I M ρ g) (ci l ms c kd : Nat) (hc : L.length = c) (hW : c = er → W = fun _ => none) (hk : kd = ci + 1) {f : Nat → hS → Option (Unit × hS)} (k : ∀ ρ' g', BK ρ0 h0 X ex er W ((c, kd, l, 0) :: L) Rf I (M + 13 + ms) ρ' g' → PB Φ (f (X + c) g')) : PB Φ (nwO g ci ms f) := by
  have x1 := B.2.2.2.1.1
  subst hc hk
  unfold nwO
  rw [x1]
  exact k _ _ (B.new (ci + 1) l 0 ms hW)
theorem BK.R (B : BK ρ0 h0 X ex er W L Rf I M ρ g) (i k j kd l n : Nat) {ci a b : Nat} (ha : a = X + i) (hb : b = X + j) (hi : (i, kd, l, n) ∈ L) (hr : i ≠ er) (hk : kd = ci + 1) (hL : ∀ e ∈ Rf, e.1 ≠ i ∨ e.2.1 ≠ k) {f : hS → Option (Unit × hS)} (kk : ∀ g', BK ρ0 h0 X ex er W L ((i, k, j) :: Rf) I M ρ g' → PB Φ (f g')) : PB Φ (pR g (some a) ci k (some b) f) := by
  subst ha hb hk
  obtain ⟨k1, k2, k3⟩ := B.k hi
  rw [pR_k k1]
  exact kk _ (B.ref j k3 hr hL)
theorem BK.N (B : BK ρ0 h0 X ex er W L Rf I M ρ g) (i k kd l n : Nat) {ci a : Nat} (ha : a = X + i) (hi : (i, kd, l, n) ∈ L) (hr : i ≠ er) (hk : kd = ci + 1) (hL : ∀ e ∈ Rf, e.1 ≠ i ∨ e.2.1 ≠ k) {f : hS → Option (Unit × hS)} (kk : ∀ g', BK ρ0 h0 X ex er W L Rf I M ρ g' → PB Φ (f g')) : PB Φ (pR g (some a) ci k none f) := by
  subst ha hk
  obtain ⟨k1, k2, k3⟩ := B.k hi
  rw [pR_k k1]
  exact kk _ (B.non k3 hr hL)
theorem BK.Z (B : BK ρ0 h0 X ex er W L Rf I M ρ g) (i k kd l n : Nat) {ci a : Nat} (ha : a = X + i) (hi : (i, kd, l, n) ∈ L) (hk : kd = ci + 1) (hi0 : 0 < i ∧ i ≠ ex) {f : hS → Option (Unit × hS)} (kk : ∀ g', BK ρ0 h0 X ex er W L Rf I M ρ g' → PB Φ (f g')) : PB Φ (pI g (some a) ci k (0 : Int32) f) := by
  subst ha hk
  obtain ⟨k1, k2, k3⟩ := B.k hi
  rw [pI_k k1]
  exact kk _ (B.int0 k hi0.1 k3 hi0.2)
theorem BK.V (B : BK ρ0 h0 X ex er W L Rf I M ρ g) (k kd l n : Nat) {ci : Nat} (v : Int32) (hi : (0, kd, l, n) ∈ L) (hk : kd = ci + 1) {f : hS → Option (Unit × hS)} (kk : ∀ g', BK ρ0 h0 X ex er W L Rf (upd I k v) M ρ g' → PB Φ (f g')) : PB Φ (pI g (some X) ci k v f) := by
  subst hk
  obtain ⟨k1, k2, k3⟩ := B.k hi
  rw [pI_k (show h_k g X = ci + 1 from k1)]
  exact kk _ (B.int k v)
theorem BK.Wx (B : BK ρ0 h0 X ex er W L Rf I M ρ g) (k kd l n : Nat) {ci a : Nat} (v : Int32) (ha : a = X + ex) (hi : (ex, kd, l, n) ∈ L) (hk : kd = ci + 1) (hi0 : 0 < ex) {f : hS → Option (Unit × hS)} (kk : ∀ g', BK ρ0 h0 X ex er W L Rf I M ρ g' → PB Φ (f g')) : PB Φ (pI g (some a) ci k v f) := by
  subst ha hk
  obtain ⟨k1, k2, k3⟩ := B.k hi
  rw [pI_k k1]
  exact kk _ (B.intx k v hi0)
theorem BK.J (B : BK ρ0 h0 X ex er W L Rf I M ρ g) (i k kd l n : Nat) {ci a : Nat} (ha : a = X + i) (hi : (i, kd, l, n) ∈ L) (hk : kd = ci + 1) (hi0 : 0 < i) {f : hS → Option (Unit × hS)} (kk : ∀ g', BK ρ0 h0 X ex er W L Rf I M ρ g' → PB Φ (f g')) : PB Φ (pJ g (some a) ci k (0 : Int64) f) := by
  subst ha hk
  obtain ⟨k1, k2, k3⟩ := B.k hi
  rw [pJ_k k1]
  exact kk _ (B.lng0 k hi0 k3)
theorem BK.U (B : BK ρ0 h0 X ex er W L Rf I M ρ g) (i k j kd l n l2 kd2 : Nat) {ci a b : Nat} {v : Int32} (ha : a = X + i) (hb : b = X + j) (hv : v = iI k) (hi : (i, kd, l, n) ∈ L) (hj : (j, kd2, l2, 0) ∈ L) (hr : i ≠ er) (h2 : kd2 = ci + 1) (hkn : k < n) (hn : n < 2 ^ 31) (hL : ∀ e ∈ Rf, e.1 ≠ i ∨ e.2.1 ≠ k) {f : hS → Option (Unit × hS)} (kk : ∀ g', BK ρ0 h0 X ex er W L ((i, k, j) :: Rf) I M ρ g' → PB Φ (f g')) : PB Φ (uR g kd ci (some a) v (some b) f) := by
  subst ha hb hv h2
  obtain ⟨k1, k2, k3⟩ := B.k hi
  obtain ⟨j1, j2, j3⟩ := B.k hj
  rw [uR_i k1 k2 hkn hn (fun b hb => by injection hb with hb; subst hb; exact j1)]
  exact kk _ (B.ref j k3 hr hL)
theorem BK.G (B : BK ρ0 h0 X ex er W L Rf I M ρ g) (i k j kd l n : Nat) {ci a : Nat} (ha : a = X + i) (hi : (i, kd, l, n) ∈ L) (hk : kd = ci + 1) (hr : (i, k, j) ∈ Rf) {f : Option Nat → Option (Unit × hS)} (kk : PB Φ (f (some (X + j)))) : PB Φ (gR g (some a) ci k f) := by
  subst ha hk
  obtain ⟨k1, k2, k3⟩ := B.k hi
  rw [gR_k k1, show h_r g (X + i) k = some (X + j) from B.1.2.1 _ hr]
  exact kk
theorem BK.E (B : BK ρ0 h0 X ex er W L Rf I M ρ g) (i k j kd l n : Nat) {a : Nat} {v : Int32} (ha : a = X + i) (hv : v = iI k) (hi : (i, kd, l, n) ∈ L) (hr : (i, k, j) ∈ Rf) (hkn : k < n) (hn : n < 2 ^ 31) {f : Option Nat → Option (Unit × hS)} (kk : PB Φ (f (some (X + j)))) : PB Φ (aR g kd (some a) v f) := by
  subst ha hv
  obtain ⟨k1, k2, k3⟩ := B.k hi
  rw [aR_i k1 k2 hkn hn, show h_r g (X + i) k = some (X + j) from B.1.2.1 _ hr]
  exact kk
theorem BK.beg (ρ0 : Nat → Nat) (h0 : hS) (ex er kd l ms : Nat) (W : Nat → Option Nat) (he : 0 < er) : BK ρ0 h0 (h_x h0) ex er W [(0, kd, l, 0)] [] (fun _ => 0) (hm h0 + 13 + ms) (ext ρ0 h0 l) (nw h0 kd 0 ms) := by
  refine ⟨⟨fun e he => ?_, fun e he => by simp at he, fun e he => by simp at he⟩, fun a h1 h2 => ?_, ⟨by rw [i_nw, if_pos rfl], by simp⟩, ⟨rfl, ?_⟩, ⟨fun i k h1 h3 h2 => ?_, fun h1 => ?_⟩, Nat.le_refl _, fun R => tr_nw⟩
  · have e0 : e = (0, kd, l, 0) := by simpa using he
    subst e0
    exact ⟨show (if h_x h0 = h_x h0 then kd else h_k h0 (h_x h0)) = kd from if_pos rfl, show (if h_x h0 < h_x h0 then ρ0 (h_x h0) else l) = l from if_neg (Nat.lt_irrefl _), show (if h_x h0 = h_x h0 then 0 else h_n h0 (h_x h0)) = 0 from if_pos rfl, Nat.lt_succ_self _⟩
  · have h2' : a < h_x h0 + 1 := h2
    omega
  · show 13 * (h_x h0 + 1) + (h_s h0 + ms) = 13 * h_x h0 + h_s h0 + 13 + ms
    omega
  · have h1' : i < 1 := h1
    rw [r_nw, if_pos (by omega)]
  · have h1' : er < 1 := h1
    omega
end
