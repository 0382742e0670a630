/-! A STATE IS WRITTEN: acts, notes, what was refused. Its room: chains not made yet -/
def rcO (h : hS) (r : Option Nat) : Nat := match r with
  | none => 81
  | some a => rch h a
def rf1 (h : hS) (r : Option Nat) (k : Nat) : Option Nat := match r with
  | none => none
  | some a => h_r h a k
def sumN (f : Nat → Nat) : Nat → Nat
  | 0 => 0
  | n + 1 => sumN f n + f n
theorem sumN_congr {f g : Nat → Nat} : ∀ n, (∀ k, k < n → f k = g k) → sumN f n = sumN g n := by
  intro n
  induction n with
  | zero => intro _; rfl
  | succ n ih => intro h; rw [sumN, sumN, ih (fun k hk => h k (by omega)), h n (by omega)]
theorem sumN_one {f g : Nat → Nat} {k : Nat} : ∀ n, k < n → (∀ j, j < n → j ≠ k → g j = f j) → sumN g n + f k = sumN f n + g k := by
  intro n
  induction n with
  | zero => intro h _; omega
  | succ n ih =>
    intro hk h
    rw [sumN, sumN]
    by_cases e : k = n
    · subst e
      rw [sumN_congr k (fun j hj => h j (by omega) (by omega))]
      omega
    · have := ih (by omega) (fun j hj hne => h j (by omega) hne)
      have := h n (by omega) (fun z => e z.symm)
      omega
theorem sumN_shift (f : Nat → Nat) : ∀ n, sumN f (n + 1) = f 0 + sumN (fun k => f (k + 1)) n := by
  intro n
  induction n with
  | zero => simp [sumN]
  | succ n ih => rw [sumN, ih, sumN]; omega
/-- the room that a state may take yet -/
def pSt (h : hS) (s : Nat) : Nat := sumN (fun c => rcO h (rf1 h (h_r h s 0) c)) 4 + sumN (fun k => rcO h (rf1 h (h_r h s 2) k)) 40
/-- a state, its acts' chains by their labels -/
def SY (ρ : Nat → Nat) (h : hS) (P : Nat → Nat) (ls : Nat) (S : StT) (lab : Nat → Nat) : Prop := (FX (fixS ls) ρ h P ∧ RF refS h P ∧ (P 33 ≠ P 35 ∧ P 33 ≠ P 37 ∧ P 35 ≠ P 37 ∧ P 32 ≠ P 34)) ∧ (h_i h (P 16) 3 = iI S.2.1 ∧ h_i h (P 16) 6 = iI S.2.2.2.1) ∧ (∀ c, c < 4 → CH ρ (ls + 1 + c) h (P (40 + c)) (S.1 c).1 (S.1 c).2.1 (S.1 c).2.2) ∧ ((∀ j k, j < 40 → k < 40 → lab j = lab k → j = k) ∧ (∀ j, j < 40 → ls + 10 ≤ lab j ∧ lab j < ls + 50) ∧ ∀ k, k < 40 → AS ρ h (P 34) (lab k) S.2.1 k S.2.2.1) ∧ (∀ k, k < S.2.1 → h_i h (P 33) k = iI (S.2.2.1 k).1) ∧ (∀ k, k < S.2.2.2.1 → h_i h (P 35) k = iI (S.2.2.2.2.1 k) ∧ h_j h (P 36) k = S.2.2.2.2.2.1 k) ∧ ∀ k, k < 3 → h_i h (P 37) k = S.2.2.2.2.2.2 k
theorem SX.y {ρ : Nat → Nat} {h : hS} {P : Nat → Nat} {ls : Nat} {S : StT} (X : SX ρ h P ls S) : ∃ lab, SY ρ h P ls S lab := by
  obtain ⟨a, b, c, ⟨lab, d⟩, e, f, g⟩ := X
  exact ⟨lab, a, b, c, d, e, f, g⟩
section
variable {ρ : Nat → Nat} {h : hS} {P : Nat → Nat} {ls : Nat} {S : StT} {lab : Nat → Nat}
theorem SY.x (X : SY ρ h P ls S lab) : SX ρ h P ls S := by
  obtain ⟨a, b, c, d, e, f, g⟩ := X
  exact ⟨a, b, c, ⟨lab, d⟩, e, f, g⟩
theorem SY.keep {ρ' : Nat → Nat} {g : hS} {R : Nat → Prop} (X : SY ρ h P ls S lab) (t : tr ρ h R ρ' g) (h9 : ¬ R 9) (hR : ∀ q, ls ≤ q → q < ls + 50 → ¬ R q) : SY ρ' g P ls S lab := by
  obtain ⟨a, b, c, ⟨l1, l2, l3⟩, e, f, i⟩ := X
  have x2 : SX ρ' g P ls S := SX.keep ⟨a, b, c, ⟨lab, l1, l2, l3⟩, e, f, i⟩ t h9 hR
  have s34 := a.1.same t (e := (34, 62, ls, 40)) (by simp [fixS]) (hR _ (by simp) (by simp))
  exact ⟨x2.1, x2.2.1, x2.2.2.1, ⟨l1, l2, fun k hk => (l3 k hk).keep t s34.2.2 h9 (hR _ (by have := l2 k hk; omega) (by have := l2 k hk; omega))⟩, x2.2.2.2.2.1, x2.2.2.2.2.2.1, x2.2.2.2.2.2.2⟩
theorem SY.ref (X : SY ρ h P ls S lab) {i k j : Nat} (hi : (i, k, j) ∈ refS) : h_r h (P i) k = some (P j) := X.1.2.1 _ hi
theorem SY.fx (X : SY ρ h P ls S lab) {i k l n : Nat} (hi : (i, k, l, n) ∈ fixS ls) : h_k h (P i) = k ∧ ρ (P i) = l ∧ h_n h (P i) = n ∧ P i < h_x h := X.1.1 _ hi
theorem SY.f16 (X : SY ρ h P ls S lab) : h_k h (P 16) = 7 + 1 ∧ ρ (P 16) = ls ∧ P 16 < h_x h := by
  have := X.fx (i := 16) (k := 8) (l := ls) (n := 0) (by simp [fixS]); exact ⟨this.1, this.2.1, this.2.2.2⟩
theorem SY.f32 (X : SY ρ h P ls S lab) : h_k h (P 32) = 62 ∧ ρ (P 32) = ls ∧ h_n h (P 32) = 4 ∧ P 32 < h_x h := X.fx (by simp [fixS])
theorem SY.f33 (X : SY ρ h P ls S lab) : h_k h (P 33) = 50 ∧ ρ (P 33) = ls ∧ h_n h (P 33) = 40 ∧ P 33 < h_x h := X.fx (by simp [fixS])
theorem SY.f34 (X : SY ρ h P ls S lab) : h_k h (P 34) = 62 ∧ ρ (P 34) = ls ∧ h_n h (P 34) = 40 ∧ P 34 < h_x h := X.fx (by simp [fixS])
theorem SY.f35 (X : SY ρ h P ls S lab) : h_k h (P 35) = 50 ∧ ρ (P 35) = ls ∧ h_n h (P 35) = 8 ∧ P 35 < h_x h := X.fx (by simp [fixS])
theorem SY.f36 (X : SY ρ h P ls S lab) : h_k h (P 36) = 51 ∧ ρ (P 36) = ls ∧ h_n h (P 36) = 8 ∧ P 36 < h_x h := X.fx (by simp [fixS])
theorem SY.f37 (X : SY ρ h P ls S lab) : h_k h (P 37) = 50 ∧ ρ (P 37) = ls ∧ h_n h (P 37) = 3 ∧ P 37 < h_x h := X.fx (by simp [fixS])
theorem SY.chr (X : SY ρ h P ls S lab) {c : Nat} (hc : c < 4) : h_r h (P 32) c = some (P (40 + c)) := by
  rcases (show c = 0 ∨ c = 1 ∨ c = 2 ∨ c = 3 by omega) with e | e | e | e <;> subst e
  · exact X.ref (i := 32) (k := 0) (j := 40) (by decide)
  · exact X.ref (i := 32) (k := 1) (j := 41) (by decide)
  · exact X.ref (i := 32) (k := 2) (j := 42) (by decide)
  · exact X.ref (i := 32) (k := 3) (j := 43) (by decide)
theorem SY.pst (X : SY ρ h P ls S lab) : pSt h (P 16) = sumN (fun c => rch h (P (40 + c))) 4 + sumN (fun k => rcO h (h_r h (P 34) k)) 40 := by
  unfold pSt
  rw [X.ref (i := 16) (k := 0) (j := 32) (by decide), X.ref (i := 16) (k := 2) (j := 34) (by decide)]
  congr 1
  exact sumN_congr 4 (fun c hc => by show rcO h (h_r h (P 32) c) = _; rw [X.chr hc]; rfl)
theorem rch_keep {ρ' : Nat → Nat} {g : hS} {R : Nat → Prop} {l c n : Nat} {p : Nat → Int × Int × Int} {Y : Nat → Nat → Int} (C : CH ρ l h c n p Y) (t : tr ρ h R ρ' g) (hl : ¬ R l) : rch g c = rch h c := by unfold rch; rw [C.cap t hl]
theorem AS.rc {ρ' : Nat → Nat} {g : hS} {R : Nat → Prop} {q l na k : Nat} {E : AcT} (A : AS ρ h q l na k E) (t : tr ρ h R ρ' g) (hl : ¬ R l) : rcO g (h_r h q k) = rcO h (h_r h q k) := by
  rcases A with ⟨a1, a2⟩ | ⟨a, n, p, Y, a1, a2, a3⟩
  · rw [a1]; rfl
  · rw [a1]; exact rch_keep a2 t hl
theorem SY.pk {ρ' : Nat → Nat} {g : hS} {R : Nat → Prop} (X : SY ρ h P ls S lab) (t : tr ρ h R ρ' g) (h9 : ¬ R 9) (hR : ∀ q, ls ≤ q → q < ls + 50 → ¬ R q) : pSt g (P 16) = pSt h (P 16) := by
  have X' := X.keep t h9 hR
  rw [X.pst, X'.pst]
  have s34 := X.1.1.same t (e := (34, 62, ls, 40)) (by simp [fixS]) (hR _ (by simp) (by simp))
  simp only [] at s34
  rw [sumN_congr 4 (fun c hc => rch_keep (X.2.2.1 c hc) t (hR _ (by omega) (by omega))), s34.2.2]
  congr 1
  exact sumN_congr 40 (fun k hk => (X.2.2.2.1.2.2 k hk).rc t (hR _ (by have := X.2.2.2.1.2.1 k hk; omega) (by have := X.2.2.2.1.2.1 k hk; omega)))
/-- a field or a row of numbers of the state itself is written -/
theorem SY.wi (X : SY ρ h P ls S lab) (hls : 100 ≤ ls) {a k : Nat} {v : Int32} {S' : StT} (ha : ρ a = ls) (hC : S'.1 = S.1) (hA : ∀ k, k < 40 → AS ρ h (P 34) (lab k) S'.2.1 k S'.2.2.1)
    (h1 : (if P 16 = a then upd (h_i h a) k v else h_i h (P 16)) 3 = iI S'.2.1) (h2 : (if P 16 = a then upd (h_i h a) k v else h_i h (P 16)) 6 = iI S'.2.2.2.1) (h3 : ∀ j, j < S'.2.1 → (if P 33 = a then upd (h_i h a) k v else h_i h (P 33)) j = iI (S'.2.2.1 j).1) (h4 : ∀ j, j < S'.2.2.2.1 → (if P 35 = a then upd (h_i h a) k v else h_i h (P 35)) j = iI (S'.2.2.2.2.1 j) ∧ h_j h (P 36) j = S'.2.2.2.2.2.1 j) (h5 : ∀ j, j < 3 → (if P 37 = a then upd (h_i h a) k v else h_i h (P 37)) j = S'.2.2.2.2.2.2 j) : SY ρ (s_i h a k v) P ls S' lab ∧ pSt (s_i h a k v) (P 16) = pSt h (P 16) := by
  obtain ⟨⟨f1, f2, f3⟩, b, c, ⟨l1, l2, l3⟩, e, f, i⟩ := X
  have t : tr ρ h (rg ls) ρ (s_i h a k v) := tr_si ha
  have n9 : ¬ rg ls 9 := fun z => by have : 9 = ls := z; omega
  refine ⟨⟨⟨f1.keep t, fun e he => f2 e he, f3⟩, ⟨by rw [h_i_si]; exact h1, by rw [h_i_si]; exact h2⟩, fun c hc => by rw [hC]; exact ((‹∀ c, c < 4 → _› : ∀ c, c < 4 → CH ρ (ls + 1 + c) h (P (40 + c)) (S.1 c).1 (S.1 c).2.1 (S.1 c).2.2) c hc).keep t n9 (fun z => by have : ls + 1 + c = ls := z; omega), ⟨l1, l2, fun k hk => (hA k hk).keep t rfl n9 (fun z => by have h1 : lab k = ls := z; have := l2 k hk; omega)⟩, fun j hj => by rw [h_i_si]; exact h3 j hj, fun j hj => by rw [h_i_si]; exact h4 j hj, fun j hj => by rw [h_i_si]; exact h5 j hj⟩, rfl⟩
end
