/-! ACTS OF THE CLASS: does, puts, takes, copy -/
theorem ins_lt {α : Type} {f : Nat → α} {i j : Nat} {v : α} (h : j < i) : ins f i v j = f j := by unfold ins; rw [if_pos h]
theorem ins_at {α : Type} {f : Nat → α} {i : Nat} {v : α} : ins f i v i = v := by unfold ins; rw [if_neg (Nat.lt_irrefl _), if_pos rfl]
theorem ins_gt {α : Type} {f : Nat → α} {i j : Nat} {v : α} (h : i < j) : ins f i v j = f (j - 1) := by unfold ins; rw [if_neg (by omega), if_neg (by omega)]
theorem zT_ins {p : Nat → Int × Int × Int} {Y : Nat → Nat → Int} {k : Nat} {q : Int × Int × Int} {y : Nat → Int} {lo : Int} : ∀ i, i ≤ k → zT (ins p k q) (ins Y k y) lo i = zT p Y lo i := by
  intro i
  induction i with
  | zero => intro _; rfl
  | succ i ih =>
    intro hi
    rw [zT, zT, ih (by omega), ins_lt (show i < k by omega), ins_lt (show i < k by omega)]
theorem zT_end {p : Nat → Int × Int × Int} {Y : Nat → Nat → Int} {n : Nat} {q : Int × Int × Int} {y : Nat → Int} : zT (ins p n q) (ins Y n y) (-1) (n + 1) = zStep (zT p Y (-1) n) y q.1 q.2.1 q.2.2 := by
  rw [zT_go (by omega), zT_ins n (Nat.le_refl _), ins_at, ins_at]
theorem okS_end {p : Nat → Int × Int × Int} {Y : Nat → Nat → Int} {n : Nat} {q : Int × Int × Int} {y : Nat → Int} (hok : ∀ j, j < n → okS p Y (-1) j) : (∀ j, j < n + 1 → okS (ins p n q) (ins Y n y) (-1) j) ↔ stOk (zT p Y (-1) n) y q.1 q.2.1 q.2.2 := by
  constructor
  · intro h
    have h1 := (okS_go (show ¬ (n : Int) = -1 by omega)).mp (h n (by omega))
    rw [zT_ins n (Nat.le_refl _), ins_at, ins_at] at h1
    exact h1
  · intro h j hj
    by_cases e : j = n
    · subst e
      refine (okS_go (show ¬ (j : Int) = -1 by omega)).mpr ?_
      rw [zT_ins j (Nat.le_refl _), ins_at, ins_at]
      exact h
    · refine (okS_go (show ¬ (j : Int) = -1 by omega)).mpr ?_
      rw [zT_ins j (by omega), ins_lt (show j < n by omega), ins_lt (show j < n by omega)]
      exact (okS_go (show ¬ (j : Int) = -1 by omega)).mp (hok j (by omega))
/-- a step is told at the place i -/
def putX (C : Cs) (c i : Nat) (kd a b : Int) : ChT := ((C c).1 + 1, ins (C c).2.1 i (zSt kd a b), ins (C c).2.2 i (zC C a.toNat))
/-- the step i goes -/
def delX (x : ChT) (i : Nat) : ChT := (x.1 - 1, del x.2.1 i, del x.2.2 i)
def okX (x : ChT) : Prop := ∀ j, j < x.1 → okS x.2.1 x.2.2 (-1) j
theorem vC.inv {x : ChT} (v : vC x) : zInv (zT x.2.1 x.2.2 (-1) x.1) := zT_inv (fun j hj => ⟨(v.2.1 j hj).1, fun q => ((v.2.1 j hj).2 q).1⟩) v.2.2 _ (Nat.le_refl _)
theorem vC_put {C : Cs} (v : ∀ c, c < 4 → vC (C c)) {c i : Nat} (hc : c < 4) (hn : (C c).1 < 40) (hi : i ≤ (C c).1) {kd a b : Int} (hk : 0 ≤ kd ∧ kd ≤ 8) (o : okNum kd a b) (ok : okX (putX C c i kd a b)) : vC (putX C c i kd a b) := by
  refine ⟨by show (C c).1 + 1 ≤ 40; omega, fun j hj => ?_, ok⟩
  have hj' : j < (C c).1 + 1 := hj
  show okArg (ins (C c).2.1 i (zSt kd a b) j).1 (ins (C c).2.1 i (zSt kd a b) j).2.1 (ins (C c).2.1 i (zSt kd a b) j).2.2 ∧ ((ins (C c).2.1 i (zSt kd a b) j).1 = 8 → zInv (ins (C c).2.2 i (zC C a.toNat) j) ∧ 0 ≤ (ins (C c).2.1 i (zSt kd a b) j).2.1 ∧ (ins (C c).2.1 i (zSt kd a b) j).2.1 ≤ 3)
  rcases Nat.lt_trichotomy j i with e | e | e
  · rw [ins_lt e, ins_lt e]; exact (v c hc).2.1 j (by omega)
  · subst e
    rw [ins_at, ins_at]
    refine ⟨o.arg hk, fun q => ?_⟩
    have q8 : kd = 8 := q
    subst q8
    have h1 := o.1 (by decide)
    have h2 : 0 ≤ a ∧ a ≤ 3 := ⟨by have := h1.1; unfold loF at this; simp at this; omega, by have := h1.2; unfold hiF at this; simp at this; omega⟩
    refine ⟨(v _ (n4 h2).1).inv, ?_⟩
    show 0 ≤ (if 1 ≤ zNum 8 then a else 0) ∧ (if 1 ≤ zNum 8 then a else 0) ≤ 3
    rw [if_pos (by decide)]
    exact h2
  · rw [ins_gt e, ins_gt e]; exact (v c hc).2.1 (j - 1) (by omega)
theorem vC_del {x : ChT} (v : vC x) {i : Nat} (hi : i < x.1) (ok : okX (delX x i)) : vC (delX x i) := by
  refine ⟨by have := v.1; show x.1 - 1 ≤ 40; omega, fun j hj => ?_, ok⟩
  have hj' : j < x.1 - 1 := hj
  show okArg (del x.2.1 i j).1 (del x.2.1 i j).2.1 (del x.2.1 i j).2.2 ∧ ((del x.2.1 i j).1 = 8 → zInv (del x.2.2 i j) ∧ 0 ≤ (del x.2.1 i j).2.1 ∧ (del x.2.1 i j).2.1 ≤ 3)
  unfold del
  by_cases e : j < i
  · rw [if_pos e, if_pos e]; exact v.2.1 j (by omega)
  · rw [if_neg e, if_neg e]; exact v.2.1 (j + 1) (by omega)
theorem actS_1 (S : StT) (c : Nat) (x : ChT) : (actS S c x).1 = upC S.1 c x := by unfold actS; split <;> rfl
theorem vS_act {S : StT} (v : vS S) {c : Nat} (hc : c < 4) {x : ChT} (vx : vC x) : vS (actS S c x) := by
  have up : ∀ d, d < 4 → vC (upC S.1 c x d) := fun d hd => by
    unfold upC
    by_cases e : d = c
    · rw [if_pos e]; exact vx
    · rw [if_neg e]; exact v.1 d hd
  unfold actS
  by_cases e : S.2.1 < 40
  · rw [if_pos e]
    refine ⟨up, by show S.2.1 + 1 ≤ 40; omega, fun k hk => ?_, v.2.2.2⟩
    have hk' : k < S.2.1 + 1 := hk
    show (upE S.2.2.1 S.2.1 (c, S.1 c) k).1 < 4 ∧ vC (upE S.2.2.1 S.2.1 (c, S.1 c) k).2
    unfold upE
    by_cases q : k = S.2.1
    · rw [if_pos q]; exact ⟨hc, v.1 c hc⟩
    · rw [if_neg q]; exact v.2.2.1 k (by omega)
  · rw [if_neg e]
    refine ⟨up, Nat.le_refl _, fun k hk => ?_, v.2.2.2⟩
    have hk' : k < 40 := hk
    have h40 := v.2.1
    show (upE (fun k => S.2.2.1 (k + 1)) 39 (c, S.1 c) k).1 < 4 ∧ vC (upE (fun k => S.2.2.1 (k + 1)) 39 (c, S.1 c) k).2
    unfold upE
    by_cases q : k = 39
    · rw [if_pos q]; exact ⟨hc, v.1 c hc⟩
    · rw [if_neg q]; exact v.2.2.1 (k + 1) (by omega)
/-- what an act leaves: its answer, the new state, its room (d steps made) -/
def KA (ρ : Nat → Nat) (h : hS) (Q : Nat → Nat) (ks : List Nat) {α : Type} (a : α) (F' : FT) (d : Nat) (r : Option (α × hS)) : Prop := ∃ ρ' g ks', r = some (a, g) ∧ KS ρ' g Q F' ks' ∧ tr ρ h RC ρ' g ∧ ks'.length ≤ ks.length + d ∧ hm g + kpt g Q ≤ hm h + kpt h Q + 284 * d
section
variable {ρ ρ' : Nat → Nat} {h g : hS} {Q : Nat → Nat} {S S' : StT} {Zs Zs' : Nat → Nat → Int} {I : Option StT} {T : Nat × (Nat → Int)} {f : Int} {ks ks' : List Nat} {F : FT}
theorem becomeK (N : Nat) (hN : 100 ≤ N) (K : KW ρ h Q S (zC S.1) I T f ks) (v : vS S) {c : Nat} (hc : c < 4) {x : ChT} (vx : vC x) (D : CH ρ 19 h (Q 15) x.1 x.2.1 x.2.2) (B : BS ρ h (Q 4) (Q 24) (Q 25) (zT x.2.1 x.2.2 (-1) x.1)) : ∃ ρ' g, f_K_become N h (Q 0) (iI c) = some (iI x.1, g) ∧ tr ρ h RC ρ' g ∧ KS ρ' g Q (actS S c x, I, T, f) ks ∧ hm g + kpt g Q ≤ hm h + kpt h Q := by
  obtain ⟨ρ', g, a1, a2, a3, a4⟩ := become_is N hN K v.2.1 hc D B
  refine ⟨ρ', g, a1, a2, KW.s (F := (actS S c x, I, T, f)) a3 (fun d hd => ?_) (vS_act v hc vx), a4⟩
  show (if d = c then zT x.2.1 x.2.2 (-1) x.1 else zC S.1 d) = zC (actS S c x).1 d
  rw [actS_1]
  unfold zC upC
  by_cases e : d = c
  · rw [if_pos e, if_pos e]
  · rw [if_neg e, if_neg e]
theorem KW.rs (K : KW ρ h Q S (zC S.1) I T f ks) (v : vS S) : KS ρ h Q (S, I, T, f) ks := KW.s (F := (S, I, T, f)) K (fun _ _ => rfl) v
theorem refuseK (N : Nat) (K : KW ρ h Q S (zC S.1) I T f ks) (v : vS S) : ∃ g, f_K_refuseAct N h (Q 0) = some (-1, g) ∧ tr ρ h RC ρ g ∧ KS ρ g Q (rfS S 1, I, T, f) ks ∧ hm g + kpt g Q ≤ hm h + kpt h Q := by
  obtain ⟨g, a1, a2, a3, a4⟩ := refuse_is N K
  exact ⟨g, a1, a2, KW.s (F := (rfS S 1, I, T, f)) a3 (fun _ _ => rfl) (vS_rf v), a4⟩
/-- the draft is built: it becomes the cost's steps, or it is too much -/
theorem unlessK (N : Nat) (hN : 20000 ≤ N) (K : KW ρ h Q S (zC S.1) I T f ks) (v : vS S) {c : Nat} (hc : c < 4) {x : ChT} (vx : okX x → vC x) (D : CH ρ 19 h (Q 15) x.1 x.2.1 x.2.2) : ∃ ρ' g r, f_K_becomeUnlessTooMuch N h (Q 0) (iI c) = some (r, g) ∧ tr ρ h RC ρ' g ∧ hm g + kpt g Q ≤ hm h + kpt h Q ∧ (okX x → r = iI x.1 ∧ KS ρ' g Q (actS S c x, I, T, f) ks) ∧ (¬ okX x → r = -1 ∧ KS ρ' g Q (rfS S 1, I, T, f) ks) := by
  obtain ⟨ρ1, g1, w, b1, b2, b3, b4, b5⟩ := build_is N hN (show ¬ RW 19 from fun z => by unfold RW at z; omega) D K.2.1.1
  have h4 := K.ko (i := 4) (k := 2) (l := 1) (n := 0) (by decide)
  have D1 := D.keep b2 (fun z => by unfold RW at z; omega) (fun z => by unfold RW at z; omega)
  have tB := b2.mono RW_B
  unfold f_K_becomeUnlessTooMuch f_K_becomeUnlessTooMuch_11 f_K_becomeUnlessTooMuch_19 f_K_becomeUnlessTooMuch_26
  rw [gR_k K.x.1, K.ref (i := 0) (k := 4) (j := 4) (by decide), gR_k K.x.1, K.ref (i := 0) (k := 15) (j := 15) (by decide), cv_k (show h_k h (Q 4) = 1 + 1 from h4.1), b1, cl_s]
  by_cases ok : okX x
  · obtain ⟨e1, B1⟩ := b4 ok
    obtain ⟨K1, m1⟩ := K.bw tB B1.x
    obtain ⟨ρ2, g2, a1, a2, a3, a4⟩ := becomeK N (by omega) K1 v hc (vx ok) D1 B1
    have := m1 b3
    rw [if_neg (show ¬ w = 0 by rw [e1]; decide), cv_k K1.x.1, a1, cl_s]
    exact ⟨ρ2, g2, _, rfl, (tB.mono RB_C).trans a2, by omega, fun _ => ⟨rfl, a3⟩, fun q => absurd ok q⟩
  · obtain ⟨e1, B1, _⟩ := b5 ok
    obtain ⟨K1, m1⟩ := K.bw tB B1
    obtain ⟨g2, a1, a2, a3, a4⟩ := refuseK N K1 v
    have := m1 b3
    rw [if_pos (show w = 0 from e1), cv_k K1.x.1, a1, cl_s]
    exact ⟨ρ1, g2, _, rfl, (tB.mono RB_C).trans a2, by omega, fun q => absurd q ok, fun _ => ⟨rfl, a3⟩⟩
/-- the draft takes a cost's steps -/
theorem draft_take (N : Nat) (hN : 100 ≤ N) (K : KW ρ h Q S Zs I T f ks) {c : Nat} (hc : c < 4) : ∃ ρ' g, f_Chain_take N h (Q 15) (some (Q (40 + c))) = some ((), g) ∧ tr ρ h (rg 19) ρ' g ∧ CH ρ' 19 g (Q 15) (S.1 c).1 (S.1 c).2.1 (S.1 c).2.2 ∧ KW ρ' g Q S Zs I T f ks ∧ hm g + kpt g Q ≤ hm h + kpt h Q := by
  obtain ⟨n0, p0, Y0, D0⟩ := K.2.1.2.2.2
  obtain ⟨ρ', g, a1, a2, a3, a4⟩ := chtake_is N hN (show (19 : Nat) ≠ 9 by omega) D0 (show 101 + c ≠ 19 by omega) (K.ch hc)
  obtain ⟨K1, m1⟩ := K.dw a2 ⟨_, _, _, a3⟩
  exact ⟨ρ', g, a1, a2, a3, K1, m1 a4⟩
theorem draft_insert (N : Nat) (hN : 100 ≤ N) (K : KW ρ h Q S Zs I T f ks) {n : Nat} {p : Nat → Int × Int × Int} {Y : Nat → Nat → Int} (D : CH ρ 19 h (Q 15) n p Y) (hn : n < 40) {i : Nat} (hi : i ≤ n) {st : Nat} {q : Int × Int × Int} {Yq : Nat → Int} (X : ST ρ h st q Yq) : ∃ ρ' g, f_Chain_insert N h (Q 15) (iI i) (some st) = some ((), g) ∧ tr ρ h (rg 19) ρ' g ∧ CH ρ' 19 g (Q 15) (n + 1) (ins p i q) (ins Y i Yq) ∧ KW ρ' g Q S Zs I T f ks ∧ hm g + kpt g Q ≤ hm h + kpt h Q := by
  obtain ⟨ρ', g, a1, a2, a3, a4⟩ := chinsert_is N hN (show (19 : Nat) ≠ 9 by omega) D hn hi X
  obtain ⟨K1, m1⟩ := K.dw a2 ⟨_, _, _, a3⟩
  exact ⟨ρ', g, a1, a2, a3, K1, m1 a4⟩
theorem tellable.a8 {C : Cs} {c kd a b : Int} (t : tellable C c kd a b) (q : kd = 8) : 0 ≤ a ∧ a ≤ 3 := by
  subst q
  have h1 := t.2.2.1.1 (by decide)
  exact ⟨by have := h1.1; unfold loF at this; simp at this; omega, by have := h1.2; unfold hiF at this; simp at this; omega⟩
def putOk (C : Cs) (c i kd a b : Int) : Prop := tellable C c kd a b ∧ (0 ≤ i ∧ i ≤ (C c.toNat).1) ∧ okX (putX C c.toNat i.toNat kd a b)
theorem puts_K (N : Nat) (hN : 20000 ≤ N) (K : KS ρ h Q F ks) (C : CN ρ h) (hks : ks.length < N) {c i kd a b : Int} (hc : i32 c) (hi : i32 i) (hk : i32 kd) (ha : i32 a) (hb : i32 b) : (putOk F.1.1 c i kd a b → KA ρ h Q ks (iI (((F.1.1 c.toNat).1 + 1 : Nat) : Int)) (actS F.1 c.toNat (putX F.1.1 c.toNat i.toNat kd a b), F.2) 1 (f_K_puts N h (Q 0) (iI c) (iI i) (iI kd) (iI a) (iI b))) ∧ (¬ putOk F.1.1 c i kd a b → KA ρ h Q ks (-1 : Int32) (rfS F.1 1, F.2) 1 (f_K_puts N h (Q 0) (iI c) (iI i) (iI kd) (iI a) (iI b))) := by
  have hi' := hi
  unfold i32 at hi'
  have K0 := K.w
  have v := K.2.2.2.1.2
  obtain ⟨w, w1, w2, w3⟩ := tellb_is N K0 C hc hk ha hb
  have no : (∃ g, f_K_puts N h (Q 0) (iI c) (iI i) (iI kd) (iI a) (iI b) = some (-1, g) ∧ tr ρ h RC ρ g ∧ KS ρ g Q (rfS F.1 1, F.2.1, F.2.2.1, F.2.2.2) ks ∧ hm g + kpt g Q ≤ hm h + kpt h Q) → KA ρ h Q ks (-1 : Int32) (rfS F.1 1, F.2) 1 (f_K_puts N h (Q 0) (iI c) (iI i) (iI kd) (iI a) (iI b)) := fun ⟨g, a1, a2, a3, a4⟩ => ⟨ρ, g, ks, a1, a3, a2, by omega, by omega⟩
  have e0 : f_K_puts N h (Q 0) (iI c) (iI i) (iI kd) (iI a) (iI b) = f_K_puts_10 N h (Q 0) (iI c) (iI i) (iI kd) (iI a) (iI b) w := by
    unfold f_K_puts
    rw [cv_k K.x.1, w1, cl_s]
  obtain ⟨gR1, r1, r2, r3, r4⟩ := refuseK N K0 v
  by_cases ht : tellable F.1.1 c kd a b
  · obtain ⟨c1, c2⟩ := n4 ht.1
    have Cc := K0.ch c1
    have hn := ht.2.2.2.2
    have e1 : f_K_puts N h (Q 0) (iI c) (iI i) (iI kd) (iI a) (iI b) = f_K_puts_23 N h (Q 0) (iI c) (iI i) (iI kd) (iI a) (iI b) (some (Q (40 + c.toNat))) := by
      rw [e0]
      unfold f_K_puts_10
      rw [if_neg (show ¬ w = 0 by rw [w2 ht]; decide), ← c2, chain_w N K0 c1, c2]
    by_cases hr : 0 ≤ i ∧ i ≤ (F.1.1 c.toNat).1
    · have ei : i = ((i.toNat : Nat) : Int) := by omega
      have hi2 : i.toNat ≤ (F.1.1 c.toNat).1 := by omega
      obtain ⟨ρ1, g1, d1, d2, d3, K1, m1⟩ := draft_take N (by omega) K0 c1
      have C1 := C.keep d2 (fun z => by have : (30 : Nat) = 19 := z; omega)
      obtain ⟨ρ2, g2, st, ks', s1, s2, K2, s4, s5, s6⟩ := newStep_is N hN K1 C1 hks (kd := kd) (a := a) (b := b) ht.2.1 (ht.2.2.1.arg ht.2.1) ht.a8 (Y := zC F.1.1 a.toNat) (fun _ => rfl)
      have D2 := d3.keep s2 (fun z => by have : (9 : Nat) = 11 := z; omega) (fun z => by have : (19 : Nat) = 11 := z; omega)
      obtain ⟨ρ3, g3, i1, i2, i3, K3, m3⟩ := draft_insert N (by omega) K2 D2 hn hi2 s4
      obtain ⟨ρ4, g4, r, b1, b2, b3, b4, b5⟩ := unlessK N hN K3 v c1 (x := putX F.1.1 c.toNat i.toNat kd a b) (fun o => vC_put v.1 c1 hn hi2 ht.2.1 ht.2.2.1 o) i3
      have e2 : f_K_puts N h (Q 0) (iI c) (iI i) (iI kd) (iI a) (iI b) = some (r, g4) := by
        rw [e1]
        unfold f_K_puts_23 f_K_puts_52 f_K_puts_66 f_K_puts_69 f_K_puts_74
        rw [if_neg (show ¬ iI i < (0 : Int32) from fun z => absurd ((iI_lt (b := 0) hi' (by omega)).mp z) (by omega)), gI_k Cc.k, Cc.sz.1, if_pos (show iI i ≤ iI ((F.1.1 c.toNat).1 : Int) from (iI_le hi' (by omega)).mpr (by omega)), gR_k K.x.1, K.ref (i := 0) (k := 15) (j := 15) (by decide), cv_k (show h_k h (Q 15) = 2 + 1 from (K.ko (i := 15) (k := 3) (l := 19) (n := 0) (by decide)).1), d1, cl_s, gR_k K1.x.1, K1.ref (i := 0) (k := 15) (j := 15) (by decide), cv_k K1.x.1, s1, cl_s, cv_k D2.k, ei, i1, cl_s, cv_k K3.x.1, ← c2, b1, cl_s]
      have tt : tr ρ h RC ρ4 g4 := (((d2.mono r19_C).trans (s2.mono r11_C)).trans (i2.mono r19_C)).trans b2
      rw [e2]
      exact ⟨fun q => by obtain ⟨q1, q2⟩ := b4 q.2.2; rw [q1]; exact ⟨ρ4, g4, ks', rfl, q2, tt, s5, by omega⟩, fun q => by obtain ⟨q1, q2⟩ := b5 (fun z => q ⟨ht, hr, z⟩); rw [q1]; exact ⟨ρ4, g4, ks', rfl, q2, tt, s5, by omega⟩⟩
    · refine ⟨fun q => absurd q.2.1 hr, fun _ => no ⟨gR1, ?_, r2, r3, r4⟩⟩
      rw [e1]
      unfold f_K_puts_23 f_K_puts_38
      by_cases i0 : i < 0
      · rw [if_pos (show iI i < (0 : Int32) from (iI_lt (b := 0) hi' (by omega)).mpr i0), cv_k K.x.1, r1, cl_s]
      · rw [if_neg (show ¬ iI i < (0 : Int32) from fun z => i0 ((iI_lt (b := 0) hi' (by omega)).mp z)), gI_k Cc.k, Cc.sz.1, if_neg (show ¬ iI i ≤ iI ((F.1.1 c.toNat).1 : Int) from fun z => absurd ((iI_le hi' (by omega)).mp z) (by omega)), cv_k K.x.1, r1, cl_s]
  · refine ⟨fun q => absurd q.1 ht, fun _ => no ⟨gR1, ?_, r2, r3, r4⟩⟩
    rw [e0]
    unfold f_K_puts_10
    rw [if_pos (show w = 0 from w3 ht), cv_k K.x.1, r1, cl_s]
def doOk (C : Cs) (c kd a b : Int) : Prop := tellable C c kd a b ∧ okX (putX C c.toNat (C c.toNat).1 kd a b)
theorem does_K (N : Nat) (hN : 20000 ≤ N) (K : KS ρ h Q F ks) (C : CN ρ h) (hks : ks.length < N) {c kd a b : Int} (hc : i32 c) (hk : i32 kd) (ha : i32 a) (hb : i32 b) : (doOk F.1.1 c kd a b → KA ρ h Q ks (iI (((F.1.1 c.toNat).1 + 1 : Nat) : Int)) (actS F.1 c.toNat (putX F.1.1 c.toNat (F.1.1 c.toNat).1 kd a b), F.2) 1 (f_K_does N h (Q 0) (iI c) (iI kd) (iI a) (iI b))) ∧ (¬ doOk F.1.1 c kd a b → KA ρ h Q ks (-1 : Int32) (rfS F.1 1, F.2) 1 (f_K_does N h (Q 0) (iI c) (iI kd) (iI a) (iI b))) := by
  have K0 := K.w
  have v := K.2.2.2.1.2
  obtain ⟨w, w1, w2, w3⟩ := tellb_is N K0 C hc hk ha hb
  have e0 : f_K_does N h (Q 0) (iI c) (iI kd) (iI a) (iI b) = f_K_does_9 N h (Q 0) (iI c) (iI kd) (iI a) (iI b) w := by
    unfold f_K_does
    rw [cv_k K.x.1, w1, cl_s]
  by_cases ht : tellable F.1.1 c kd a b
  · obtain ⟨c1, c2⟩ := n4 ht.1
    have hn := ht.2.2.2.2
    obtain ⟨ρ1, g1, st, ks', s1, s2, K1, s4, s5, s6⟩ := newStep_is N hN K0 C hks (kd := kd) (a := a) (b := b) ht.2.1 (ht.2.2.1.arg ht.2.1) ht.a8 (Y := zC F.1.1 a.toNat) (fun _ => rfl)
    have h4 := K1.ko (i := 4) (k := 2) (l := 1) (n := 0) (by decide)
    obtain ⟨ρ2, g2, t1, t2, t3, t4⟩ := startWith_is N K1.2.1.1 (K1.2.2.1 _ c1) (show ¬ RW (20 + c.toNat) from fun z => by unfold RW at z; omega)
    obtain ⟨K2, m2⟩ := K1.bw (t2.mono RW_B) t4.x
    have s4' := s4.keep t2 (fun z => by unfold RW at z; omega)
    obtain ⟨ρ3, g3, r, u1, u2, u3, u4, u5⟩ := applyStep_is N hN t4 s4'
    have s4'' := s4'.keep u2 (fun z => by unfold RW at z; omega)
    have h4' := K2.ko (i := 4) (k := 2) (l := 1) (n := 0) (by decide)
    have e1 : f_K_does N h (Q 0) (iI c) (iI kd) (iI a) (iI b) = f_K_does_48 N g3 (Q 0) (iI c) (some st) r := by
      rw [e0]
      unfold f_K_does_9 f_K_does_25 f_K_does_36 f_K_does_39
      rw [if_neg (show ¬ w = 0 by rw [w2 ht]; decide), cv_k K.x.1, s1, cl_s, gR_k K1.x.1, K1.ref (i := 0) (k := 4) (j := 4) (by decide), ← c2, curve_w N K1 c1, cv_k (show h_k g1 (Q 4) = 1 + 1 from h4.1), t1, cl_s, gR_k K2.x.1, K2.ref (i := 0) (k := 4) (j := 4) (by decide), cv_k (show h_k g2 (Q 4) = 1 + 1 from h4'.1), u1, cl_s]
    have tt : tr ρ h RC ρ3 g3 := ((s2.mono r11_C).trans ((t2.mono RW_B).mono RB_C)).trans ((u2.mono RW_B).mono RB_C)
    have key := okS_end (q := zSt kd a b) (y := zC F.1.1 a.toNat) ((v.1 _ c1).2.2)
    rw [e1]
    by_cases ok : stOk (zC F.1.1 c.toNat) (zC F.1.1 a.toNat) (zSt kd a b).1 (zSt kd a b).2.1 (zSt kd a b).2.2
    · obtain ⟨q1, q2⟩ := u4 ok
      have okx : okX (putX F.1.1 c.toNat (F.1.1 c.toNat).1 kd a b) := key.mpr ok
      obtain ⟨K3, m3⟩ := K2.bw (u2.mono RW_B) q2.x
      obtain ⟨ρ4, g4, d1, d2, d3, K4, m4⟩ := draft_take N (by omega) K3 c1
      have s5' := s4''.keep d2 (fun z => by have : (9 : Nat) = 19 := z; omega)
      obtain ⟨ρ5, g5, i1, i2, i3, K5, m5⟩ := draft_insert N (by omega) K4 d3 hn (Nat.le_refl _) s5'
      have B5 : BS ρ5 g5 (Q 4) (Q 24) (Q 25) (zT (putX F.1.1 c.toNat (F.1.1 c.toNat).1 kd a b).2.1 (putX F.1.1 c.toNat (F.1.1 c.toNat).1 kd a b).2.2 (-1) (putX F.1.1 c.toNat (F.1.1 c.toNat).1 kd a b).1) := by
        have e : zT (putX F.1.1 c.toNat (F.1.1 c.toNat).1 kd a b).2.1 (putX F.1.1 c.toNat (F.1.1 c.toNat).1 kd a b).2.2 (-1) (putX F.1.1 c.toNat (F.1.1 c.toNat).1 kd a b).1 = zStep (zC F.1.1 c.toNat) (zC F.1.1 a.toNat) (zSt kd a b).1 (zSt kd a b).2.1 (zSt kd a b).2.2 := zT_end
        rw [e]
        exact (q2.keep d2 (fun q hq z => by have : q = 19 := z; unfold RB at hq; omega)).keep i2 (fun q hq z => by have : q = 19 := z; unfold RB at hq; omega)
      obtain ⟨ρ6, g6, a1, a2, a3, a4⟩ := becomeK N (by omega) K5 v c1 (vC_put v.1 c1 hn (Nat.le_refl _) ht.2.1 ht.2.2.1 okx) i3 B5
      have e2 : f_K_does_48 N g3 (Q 0) (iI c) (some st) r = some (iI (((F.1.1 c.toNat).1 + 1 : Nat) : Int), g6) := by
        unfold f_K_does_48 f_K_does_65 f_K_does_68 f_K_does_84 f_K_does_89
        rw [if_neg (show ¬ r = 0 by rw [q1]; decide), gR_k K3.x.1, K3.ref (i := 0) (k := 15) (j := 15) (by decide), ← c2, chain_w N K3 c1, cv_k (show h_k g3 (Q 15) = 2 + 1 from (K3.ko (i := 15) (k := 3) (l := 19) (n := 0) (by decide)).1), d1, cl_s, gR_k K4.x.1, K4.ref (i := 0) (k := 15) (j := 15) (by decide), gR_k K4.x.1, K4.ref (i := 0) (k := 15) (j := 15) (by decide), gI_k d3.k, d3.sz.1, cv_k d3.k, i1, cl_s, cv_k K5.x.1, a1, cl_s]
        rfl
      have m2' := m2 t3
      have m3' := m3 u3
      refine ⟨fun _ => ?_, fun q => absurd ⟨ht, okx⟩ q⟩
      rw [e2]
      exact ⟨ρ6, g6, ks', rfl, a3, ((tt.trans (d2.mono r19_C)).trans (i2.mono r19_C)).trans a2, s5, by omega⟩
    · obtain ⟨q1, q2⟩ := u5 ok
      obtain ⟨K3, m3⟩ := K2.bw (u2.mono RW_B) q2
      obtain ⟨gR1, r1, r2, r3, r4⟩ := refuseK N K3 v
      have m2' := m2 t3
      have m3' := m3 u3
      refine ⟨fun q => absurd (key.mp q.2) ok, fun _ => ?_⟩
      unfold f_K_does_48
      rw [if_pos (show r = 0 from q1), cv_k K3.x.1, r1, cl_s]
      exact ⟨ρ3, gR1, ks', rfl, r3, tt.trans r2, s5, by omega⟩
  · obtain ⟨gR1, r1, r2, r3, r4⟩ := refuseK N K0 v
    refine ⟨fun q => absurd q.1 ht, fun _ => ?_⟩
    rw [e0]
    unfold f_K_does_9
    rw [if_pos (show w = 0 from w3 ht), cv_k K.x.1, r1, cl_s]
    exact ⟨ρ, gR1, ks, rfl, r3, r2, by omega, by omega⟩
def takeOk (C : Cs) (c i : Int) : Prop := (0 ≤ c ∧ c ≤ 3) ∧ (0 ≤ i ∧ i < (C c.toNat).1) ∧ okX (delX (C c.toNat) i.toNat)
theorem takes_K (N : Nat) (hN : 20000 ≤ N) (K : KS ρ h Q F ks) {c i : Int} (hc : i32 c) (hi : i32 i) : (takeOk F.1.1 c i → KA ρ h Q ks (iI (((F.1.1 c.toNat).1 - 1 : Nat) : Int)) (actS F.1 c.toNat (delX (F.1.1 c.toNat) i.toNat), F.2) 0 (f_K_takes N h (Q 0) (iI c) (iI i))) ∧ (¬ takeOk F.1.1 c i → KA ρ h Q ks (-1 : Int32) (rfS F.1 1, F.2) 0 (f_K_takes N h (Q 0) (iI c) (iI i))) := by
  have hi' := hi
  unfold i32 at hi'
  have K0 := K.w
  have v := K.2.2.2.1.2
  obtain ⟨gR1, r1, r2, r3, r4⟩ := refuseK N K0 v
  by_cases h1 : 0 ≤ c ∧ c ≤ 3
  · obtain ⟨c1, c2⟩ := n4 h1
    have Cc := K0.ch c1
    have h40 := Cc.sz.2
    have e1 : f_K_takes N h (Q 0) (iI c) (iI i) = f_K_takes_17 N h (Q 0) (iI c) (iI i) (some (Q (40 + c.toNat))) := by
      unfold f_K_takes
      rw [kcost_y N h h1, cl_s, if_neg (by decide), ← c2, chain_w N K0 c1, c2]
    rw [e1]
    by_cases hr : 0 ≤ i ∧ i < (F.1.1 c.toNat).1
    · have ei : i = ((i.toNat : Nat) : Int) := by omega
      have hi2 : i.toNat < (F.1.1 c.toNat).1 := by omega
      obtain ⟨ρ1, g1, d1, d2, d3, K1, m1⟩ := draft_take N (by omega) K0 c1
      obtain ⟨g2, a1, a2, a3, a4, a5⟩ := chremove_is N (by omega) (show (19 : Nat) ≠ 9 by omega) d3 hi2
      obtain ⟨K2, m2⟩ := K1.dw a2 ⟨_, _, _, a3⟩
      have m2' := m2 (by unfold rch; rw [a4, a5]; exact Nat.le_refl _)
      obtain ⟨ρ4, g4, r, b1, b2, b3, b4, b5⟩ := unlessK N hN K2 v c1 (x := delX (F.1.1 c.toNat) i.toNat) (fun o => vC_del (v.1 _ c1) hi2 o) a3
      have e2 : f_K_takes_17 N h (Q 0) (iI c) (iI i) (some (Q (40 + c.toNat))) = some (r, g4) := by
        unfold f_K_takes_17 f_K_takes_43 f_K_takes_56
        rw [if_neg (show ¬ iI i < (0 : Int32) from fun z => absurd ((iI_lt (b := 0) hi' (by omega)).mp z) (by omega)), gI_k Cc.k, Cc.sz.1, if_pos (show iI i < iI ((F.1.1 c.toNat).1 : Int) from (iI_lt hi' (by omega)).mpr (by omega)), gR_k K.x.1, K.ref (i := 0) (k := 15) (j := 15) (by decide), cv_k (show h_k h (Q 15) = 2 + 1 from (K.ko (i := 15) (k := 3) (l := 19) (n := 0) (by decide)).1), d1, cl_s, gR_k K1.x.1, K1.ref (i := 0) (k := 15) (j := 15) (by decide), cv_k d3.k, ei, a1, cl_s, cv_k K2.x.1, ← c2, b1, cl_s]
      have tt : tr ρ h RC ρ4 g4 := ((d2.mono r19_C).trans (a2.mono r19_C)).trans b2
      rw [e2]
      exact ⟨fun q => by obtain ⟨q1, q2⟩ := b4 q.2.2; rw [q1]; exact ⟨ρ4, g4, ks, rfl, q2, tt, by omega, by omega⟩, fun q => by obtain ⟨q1, q2⟩ := b5 (fun z => q ⟨h1, hr, z⟩); rw [q1]; exact ⟨ρ4, g4, ks, rfl, q2, tt, by omega, by omega⟩⟩
    · refine ⟨fun q => absurd q.2.1 hr, fun _ => ?_⟩
      have e2 : f_K_takes_17 N h (Q 0) (iI c) (iI i) (some (Q (40 + c.toNat))) = some (-1, gR1) := by
        unfold f_K_takes_17 f_K_takes_30
        by_cases i0 : i < 0
        · rw [if_pos (show iI i < (0 : Int32) from (iI_lt (b := 0) hi' (by omega)).mpr i0), cv_k K.x.1, r1, cl_s]
        · rw [if_neg (show ¬ iI i < (0 : Int32) from fun z => i0 ((iI_lt (b := 0) hi' (by omega)).mp z)), gI_k Cc.k, Cc.sz.1, if_neg (show ¬ iI i < iI ((F.1.1 c.toNat).1 : Int) from fun z => absurd ((iI_lt hi' (by omega)).mp z) (by omega)), cv_k K.x.1, r1, cl_s]
      rw [e2]
      exact ⟨ρ, gR1, ks, rfl, r3, r2, by omega, by omega⟩
  · refine ⟨fun q => absurd q.1 h1, fun _ => ?_⟩
    unfold f_K_takes
    rw [kcost_n N h hc h1, cl_s, if_pos rfl, cv_k K.x.1, r1, cl_s]
    exact ⟨ρ, gR1, ks, rfl, r3, r2, by omega, by omega⟩
def copyOk (C : Cs) (c o : Int) : Prop := (0 ≤ c ∧ c ≤ 3) ∧ (0 ≤ o ∧ o ≤ 3) ∧ c ≠ o ∧ ¬ ∃ j, j < (C o.toNat).1 ∧ ((C o.toNat).2.1 j).1 = 8 ∧ ((C o.toNat).2.1 j).2.1 = c
theorem copy_K (N : Nat) (hN : 20000 ≤ N) (K : KS ρ h Q F ks) {c o : Int} (hc : i32 c) (ho : i32 o) : (copyOk F.1.1 c o → KA ρ h Q ks (iI ((F.1.1 o.toNat).1 : Int)) (actS F.1 c.toNat (F.1.1 o.toNat), F.2) 0 (f_K_copy N h (Q 0) (iI c) (iI o))) ∧ (¬ copyOk F.1.1 c o → KA ρ h Q ks (-1 : Int32) (rfS F.1 1, F.2) 0 (f_K_copy N h (Q 0) (iI c) (iI o))) := by
  have K0 := K.w
  have v := K.2.2.2.1.2
  obtain ⟨gR1, r1, r2, r3, r4⟩ := refuseK N K0 v
  have e31 : f_K_copy_31 N h (Q 0) = some (-1, gR1) := by unfold f_K_copy_31; rw [cv_k K.x.1, r1, cl_s]
  have no : f_K_copy N h (Q 0) (iI c) (iI o) = f_K_copy_31 N h (Q 0) → KA ρ h Q ks (-1 : Int32) (rfS F.1 1, F.2) 0 (f_K_copy N h (Q 0) (iI c) (iI o)) := fun e => by
    rw [e, e31]
    exact ⟨ρ, gR1, ks, rfl, r3, r2, by omega, by omega⟩
  by_cases h1 : 0 ≤ c ∧ c ≤ 3
  · by_cases h2 : 0 ≤ o ∧ o ≤ 3
    · by_cases h3 : c = o
      · refine ⟨fun q => absurd h3 q.2.2.1, fun _ => no ?_⟩
        unfold f_K_copy
        rw [kcost_y N h h1, cl_s, if_neg (by decide), kcost_y N h h2, cl_s, if_neg (by decide), if_pos (show iI c = iI o by rw [h3])]
      · obtain ⟨c1, c2⟩ := n4 h1
        obtain ⟨o1, o2⟩ := n4 h2
        have Co := K0.ch o1
        obtain ⟨w, w1, w2, w3⟩ := onTop_is N (by omega) Co (iI c)
        have e1 : f_K_copy N h (Q 0) (iI c) (iI o) = if w = (0 : Int32) then (gR h (some (Q 0)) 12 15 fun v3 => cv h (some (Q 0)) 12 (fun a => fN (f_K_chainOf N h a (iI o))) fun v4 h5 => f_K_copy_45 N h5 (Q 0) (iI c) (iI o) v3 v4) else (f_K_copy_31 N h (Q 0)) := by
          unfold f_K_copy
          rw [kcost_y N h h1, cl_s, if_neg (by decide), kcost_y N h h2, cl_s, if_neg (by decide), if_neg (fun z => h3 ((iI_eq hc ho).mp z))]
          have : (cv h (some (Q 0)) 12 (fun a => fN (f_K_chainOf N h a (iI o))) fun v5 h6 => f_K_copy_24 N h6 (Q 0) (iI c) (iI o) v5) = f_K_copy_24 N h (Q 0) (iI c) (iI o) (some (Q (40 + o.toNat))) := by
            rw [← o2, chain_w N K0 o1, o2]
          rw [this]
          unfold f_K_copy_24
          rw [cv_k Co.k, w1, cl_s]
        have eqv : (∃ j, j < (F.1.1 o.toNat).1 ∧ ((F.1.1 o.toNat).2.1 j).1 = 8 ∧ iI ((F.1.1 o.toNat).2.1 j).2.1 = iI c) ↔ ∃ j, j < (F.1.1 o.toNat).1 ∧ ((F.1.1 o.toNat).2.1 j).1 = 8 ∧ ((F.1.1 o.toNat).2.1 j).2.1 = c := by
          constructor
          · rintro ⟨j, j1, j2, j3⟩
            have := ((v.1 _ o1).2.1 j j1).2 j2
            exact ⟨j, j1, j2, (iI_eq (by omega) hc).mp j3⟩
          · rintro ⟨j, j1, j2, j3⟩
            exact ⟨j, j1, j2, by rw [j3]⟩
        by_cases h4 : ∃ j, j < (F.1.1 o.toNat).1 ∧ ((F.1.1 o.toNat).2.1 j).1 = 8 ∧ ((F.1.1 o.toNat).2.1 j).2.1 = c
        · refine ⟨fun q => absurd h4 q.2.2.2, fun _ => no ?_⟩
          rw [e1, if_neg (show ¬ w = 0 by rw [w2 (eqv.mpr h4)]; decide)]
        · refine ⟨fun _ => ?_, fun q => absurd ⟨h1, h2, h3, h4⟩ q⟩
          obtain ⟨ρ1, g1, d1, d2, d3, K1, m1⟩ := draft_take N (by omega) K0 o1
          have h4' := K1.ko (i := 4) (k := 2) (l := 1) (n := 0) (by decide)
          obtain ⟨ρ2, g2, t1, t2, t3, t4⟩ := startWith_is N K1.2.1.1 (K1.2.2.1 _ o1) (show ¬ RW (20 + o.toNat) from fun z => by unfold RW at z; omega)
          obtain ⟨K2, m2⟩ := K1.bw (t2.mono RW_B) t4.x
          have m2' := m2 t3
          have D2 := d3.keep t2 (fun z => by unfold RW at z; omega) (fun z => by unfold RW at z; omega)
          obtain ⟨ρ6, g6, a1, a2, a3, a4⟩ := becomeK N (by omega) K2 v c1 (x := F.1.1 o.toNat) (v.1 _ o1) D2 t4
          have e2 : f_K_copy N h (Q 0) (iI c) (iI o) = some (iI ((F.1.1 o.toNat).1 : Int), g6) := by
            rw [e1, if_pos (show w = 0 from w3 (fun z => h4 (eqv.mp z))), gR_k K.x.1, K.ref (i := 0) (k := 15) (j := 15) (by decide), ← o2, chain_w N K0 o1]
            unfold f_K_copy_45 f_K_copy_48 f_K_copy_57 f_K_copy_60 f_K_copy_65
            rw [cv_k (show h_k h (Q 15) = 2 + 1 from (K.ko (i := 15) (k := 3) (l := 19) (n := 0) (by decide)).1), d1, cl_s, gR_k K1.x.1, K1.ref (i := 0) (k := 4) (j := 4) (by decide), curve_w N K1 o1, cv_k (show h_k g1 (Q 4) = 1 + 1 from h4'.1), t1, cl_s, cv_k K2.x.1, ← c2, a1, cl_s]
            rfl
          rw [e2]
          exact ⟨ρ6, g6, ks, rfl, a3, ((d2.mono r19_C).trans ((t2.mono RW_B).mono RB_C)).trans a2, by omega, by omega⟩
    · refine ⟨fun q => absurd q.2.1 h2, fun _ => no ?_⟩
      unfold f_K_copy
      rw [kcost_y N h h1, cl_s, if_neg (by decide), kcost_n N h ho h2, cl_s, if_pos rfl]
  · refine ⟨fun q => absurd q.1 h1, fun _ => no ?_⟩
    unfold f_K_copy
    rw [kcost_n N h hc h1, cl_s, if_pos rfl]
end
