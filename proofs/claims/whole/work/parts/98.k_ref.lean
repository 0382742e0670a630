/-! THE REFERENCE'S ASKERS, beside the class's: values of a table in a row -/
def s_v (h : hS) (a : Nat) (T : Nat → Int64) : hS := (h.1, h.2.1, h.2.2.1, va_up h.2.2.2.1 a T, h.2.2.2.2)
theorem h_j_sv (h : hS) (a : Nat) (T : Nat → Int64) (b : Nat) : h_j (s_v h a T) b = if b = a then T else h_j h b := rfl
theorem s_v_j (h : hS) (a k : Nat) (v : Int64) (T : Nat → Int64) : s_j (s_v h a T) a k v = s_v h a (vp_updL T k v) := by
  unfold s_j s_v
  simp only []
  refine congrArg (fun x => (h.1, h.2.1, h.2.2.1, x, h.2.2.2.2)) ?_
  funext b
  by_cases e : b = a
  · subst e; simp [va_up]
  · simp [va_up, e]
theorem s_v_self (h : hS) (a : Nat) : s_v h a (h_j h a) = h := by
  unfold s_v
  have : va_up h.2.2.2.1 a (h_j h a) = h.2.2.2.1 := by
    funext b
    by_cases e : b = a
    · subst e; simp [va_up]; rfl
    · simp [va_up, e]
  rw [this]
section
variable {ρ : Nat → Nat} {A : Nat → Nat} {m : Nat} {h g u : hS} {F F' : FT} {a b : Nat}
theorem lays44 (N : Nat) (ra : rj h a 2001) (rb : ro h b 10003) (hZ : zInv (zi (h_i h b))) : ∀ (q k fuel : Nat) (T : Nat → Int64), k + q = 2001 → (∀ j, j < k → T j = lI (zVal (zi (h_i h b)) ((j : Int) - 1000))) → ∃ T', f_M_lays_44 N (q + (fuel + 1)) (s_v h a T) a b (lI (zVal (zi (h_i h b)) ((k : Int) - 1000))) (iI (zS (zi (h_i h b)) (4000 + k))) (iI k) = some ((), s_v h a T') ∧ ∀ j, j < 2001 → T' j = lI (zVal (zi (h_i h b)) ((j : Int) - 1000)) := by
  have lnn : ∀ (T : Nat → Int64) {β : Type} (f : Int32 → Option β), lnA (s_v h a T) 51 (some a) f = f (iI 2001) := fun T {β} f => by
    show (if h_k h a = 51 then f (Int32.ofNat (h_n h a)) else none) = _
    rw [if_pos ra.1, ra.2]; rfl
  intro q
  induction q with
  | zero =>
    intro k fuel T hk ht
    have e : k = 2001 := by omega
    subst e
    refine ⟨T, ?_, ht⟩
    rw [Nat.zero_add]
    unfold f_M_lays_44
    rw [lnn, if_pos (by decide)]
  | succ q ih =>
    intro k fuel T hk ht
    obtain ⟨T', t1, t2⟩ := ih (k + 1) fuel (vp_updL T k (lI (zVal (zi (h_i h b)) ((k : Int) - 1000)))) (by omega) (fun j hj => by
      unfold vp_updL
      by_cases e : j = k
      · rw [if_pos e, e]
      · rw [if_neg e]; exact ht j (by omega))
    refine ⟨T', ?_, t2⟩
    have sl : zVal (zi (h_i h b)) (((k + 1 : Nat) : Int) - 1000) = zVal (zi (h_i h b)) ((k : Int) - 1000) + zS (zi (h_i h b)) (4000 + (k + 1)) := by
      have := slp_S (zi (h_i h b)) (4000 + (k + 1))
      unfold zSlp at this
      rw [show ((4000 + (k + 1) : Nat) : Int) - 5001 = (k : Int) - 1000 by omega, show (k : Int) - 1000 + 1 = ((k + 1 : Nat) : Int) - 1000 by omega] at this
      omega
    have zs : zS (zi (h_i h b)) (4000 + (k + 1)) = zS (zi (h_i h b)) (4000 + k) + zi (h_i h b) (4002 + k) := by
      rw [show 4000 + (k + 1) = (4000 + k) + 1 by omega, zS]
      unfold zW
      rw [if_pos (by omega), show 2 + (4000 + k) = 4002 + k by omega]
    have sbd := hZ.sb (4000 + (k + 1)) (by omega)
    have e1 : iI (k : Int) + (1 : Int32) = iI ((k + 1 : Nat) : Int) := by rw [show (1 : Int32) = iI 1 from rfl, iI_add]; rfl
    have zz : h_i h b (4002 + k) = iI (zi (h_i h b) (4002 + k)) := by unfold zi; rw [toInt_iI]
    rw [show q + 1 + (fuel + 1) = (q + (fuel + 1)) + 1 by omega]
    conv => lhs; unfold f_M_lays_44
    rw [lnn, if_neg (show ¬ iI 2001 ≤ iI (k : Int) from fun z => by have := (iI_le (by omega) (by omega)).mp z; omega), uJ_i (h := s_v h a T) (n := 2001) ra (show k < 2001 by omega) (by omega), s_v_j, show (4002 : Int32) + iI (k : Int) = iI ((4002 + k : Nat) : Int) by rw [show (4002 : Int32) = iI 4002 from rfl, iI_add]; rfl, aI_iI (z := ((4002 + k : Nat) : Int)) (show ro (s_v h a (vp_updL T k (lI (zVal (zi (h_i h b)) ((k : Int) - 1000))))) b 10003 from rb) (by omega) (by omega) (by omega), Int.toNat_natCast, show h_i (s_v h a (vp_updL T k (lI (zVal (zi (h_i h b)) ((k : Int) - 1000))))) b (4002 + k) = iI (zi (h_i h b) (4002 + k)) from zz, bn_i, iI_add, ← zs, bn_i, iI_l (by omega) (by omega), lI_add, ← sl, bn_i, e1]
    exact t1
end
