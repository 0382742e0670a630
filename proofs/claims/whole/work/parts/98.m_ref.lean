/-! THE REFERENCE: the twelve askers of parts 37 to 49, as RX -/
section
variable {ρ : Nat → Nat} {A : Nat → Nat} {m : Nat} {h g u : hS} {F F' : FT}
theorem RM.ask (X : RM ρ A m h F) {α : Type} {ans : α} {code : Int32} {r : Option (α × hS)} (a : aEnd A m h (h_i h) ans code r) : RX ρ A m h ans F code r := X.rx a.e
theorem at_M (N : Nat) (hN : 30000 ≤ N) (X : RM ρ A m h F) {c x : Int} (hc : i32 c) (hx : i32 x) : RX ρ A m h (if (0 ≤ c ∧ c ≤ 3) ∧ (-100000 ≤ x ∧ x ≤ 100000) then lI (zVal (zC F.1.1 c.toNat) x) else 0) F (if 0 ≤ c ∧ c ≤ 3 then (if -100000 ≤ x ∧ x ≤ 100000 then 0 else 2) else 1) (f_M_at N (h) m (iI c) (iI x)) := by
  have a := at_S N (by omega) X.rs.1 (h_i h) X.rs.2 hc hx
  rw [w_i_self] at a
  exact X.ask a
theorem least_M (N : Nat) (hN : 30000 ≤ N) (X : RM ρ A m h F) {c : Int} (hc : i32 c) : RX ρ A m h (if 0 ≤ c ∧ c ≤ 3 then lI (zLeast (zC F.1.1 c.toNat)) else 0) F (if 0 ≤ c ∧ c ≤ 3 then 0 else 1) (f_M_least N (h) m (iI c)) := by
  have a := least_S N (by omega) X.rs.1 (h_i h) X.rs.2 hc
  rw [w_i_self] at a
  exact X.ask a
theorem slope_M (N : Nat) (hN : 30000 ≤ N) (X : RM ρ A m h F) {c x w : Int} (hc : i32 c) (hx : i32 x) (hw : i32 w) : RX ρ A m h (if ((0 ≤ c ∧ c ≤ 3) ∧ (0 ≤ w ∧ w ≤ 1)) ∧ (-100000 ≤ x ∧ x ≤ 100000) then iI (zVal (zC F.1.1 c.toNat) (x + w) - zVal (zC F.1.1 c.toNat) (x + w - 1)) else 0) F (if (0 ≤ c ∧ c ≤ 3) ∧ (0 ≤ w ∧ w ≤ 1) then (if -100000 ≤ x ∧ x ≤ 100000 then 0 else 2) else 1) (f_M_slope N (h) m (iI c) (iI x) (iI w)) := by
  have a := slope_S N (by omega) X.rs.1 (h_i h) X.rs.2 hc hx hw
  rw [w_i_self] at a
  exact X.ask a
theorem flat_M (N : Nat) (hN : 30000 ≤ N) (X : RM ρ A m h F) {c w : Int} (hc : i32 c) (hw : i32 w) : RX ρ A m h (if (0 ≤ c ∧ c ≤ 3) ∧ (0 ≤ w ∧ w ≤ 4) then iI (zFlat (zC F.1.1 c.toNat) w) else 0) F (if (0 ≤ c ∧ c ≤ 3) ∧ (0 ≤ w ∧ w ≤ 4) then 0 else 1) (f_M_flat N (h) m (iI c) (iI w)) := by
  have a := flat_S N (by omega) X.rs.1 (h_i h) X.rs.2 hc hw
  rw [w_i_self] at a
  exact X.ask a
theorem kink_M (N : Nat) (hN : 30000 ≤ N) (X : RM ρ A m h F) {c i w : Int} (hc : i32 c) (hi : i32 i) (hw : i32 w) : RX ρ A m h (iI ((kinkAns F.1.1 c i w).getD 0)) F (if (kinkAns F.1.1 c i w).isSome then 0 else 1) (f_M_kink N (h) m (iI c) (iI i) (iI w)) := by
  have a := kink_S N (by omega) X.rs.1 (h_i h) X.rs.2 hc hi hw
  rw [w_i_self] at a
  exact X.ask a
theorem against_M (N : Nat) (hN : 30000 ≤ N) (X : RM ρ A m h F) {c x w : Int} (hc : i32 c) (hx : i32 x) (hw : i32 w) : RX ρ A m h (if ((0 ≤ c ∧ c ≤ 3) ∧ (0 ≤ w ∧ w ≤ 1)) ∧ (-200 ≤ x ∧ x ≤ 200) then lI (zAg (zC F.1.1 c.toNat) x w) else 0) F (if (0 ≤ c ∧ c ≤ 3) ∧ (0 ≤ w ∧ w ≤ 1) then (if -200 ≤ x ∧ x ≤ 200 then 0 else 2) else 1) (f_M_against N (h) m (iI c) (iI x) (iI w)) := by
  have a := against_S N (by omega) X.rs.1 (h_i h) X.rs.2 hc hx hw
  rw [w_i_self] at a
  exact X.ask a
theorem path_M (N : Nat) (hN : 30000 ≤ N) (X : RM ρ A m h F) {c x i : Int} (hc : i32 c) (hx : i32 x) (hi : i32 i) : RX ρ A m h (if ((0 ≤ c ∧ c ≤ 3) ∧ (0 ≤ i ∧ i ≤ (F.1.1 c.toNat).1)) ∧ (-100000 ≤ x ∧ x ≤ 100000) then iI (zPath F.1.1 c.toNat x i.toNat) else 0) F (if (0 ≤ c ∧ c ≤ 3) ∧ (0 ≤ i ∧ i ≤ (F.1.1 c.toNat).1) then (if -100000 ≤ x ∧ x ≤ 100000 then 0 else 2) else 1) (f_M_path N (h) m (iI c) (iI x) (iI i)) := by
  have a := path_S N (by omega) X.rs.1 (h_i h) X.rs.2 hc hx hi
  rw [w_i_self] at a
  exact X.ask a
theorem stretch_M (N : Nat) (hN : 30000 ≤ N) (X : RM ρ A m h F) {c x : Int} (hc : i32 c) (hx : i32 x) : RX ρ A m h (if (0 ≤ c ∧ c ≤ 3) ∧ (-100000 ≤ x ∧ x ≤ 100000) then iI (zWay F.1.1 c.toNat x (F.1.1 c.toNat).1 0) else 0) F (if 0 ≤ c ∧ c ≤ 3 then (if -100000 ≤ x ∧ x ≤ 100000 then 0 else 2) else 1) (f_M_stretch N (h) m (iI c) (iI x)) := by
  have a := stretch_S N (by omega) X.rs.1 (h_i h) X.rs.2 hc hx
  rw [w_i_self] at a
  exact X.ask a
theorem dearest_M (N : Nat) (hN : 30000 ≤ N) (X : RM ρ A m h F) {c : Int} (hc : i32 c) (sp : Nat → Int) (hsp : ∀ i, i < (F.1.1 c.toNat).1 → zSpare F.1.1 c.toNat i (sp i)) : RX ρ A m h (if 0 ≤ c ∧ c ≤ 3 then iI (zDear sp (F.1.1 c.toNat).1 0 (-1) 0) else 0) F (if 0 ≤ c ∧ c ≤ 3 then 0 else 1) (f_M_dearest N (h) m (iI c)) := by
  have a := dearest_S N (by omega) X.rs.1 (h_i h) X.rs.2 hc sp hsp
  rw [w_i_self] at a
  exact X.ask a
end
