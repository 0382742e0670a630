/-! ROWS OF KINKS AS LISTS: rising places, weights above 0; the weight at a place tells all -/
def srt : List (Int × Int) → Prop
  | [] => True
  | e :: t => 1 ≤ e.2 ∧ (∀ q ∈ t, e.1 < q.1) ∧ srt t
def wt (p : Int) (L : List (Int × Int)) : Int := zF (fun q => if q = p then 1 else 0) L
theorem wt_cons (p : Int) (e : Int × Int) (t : List (Int × Int)) : wt p (e :: t) = (if e.1 = p then e.2 else 0) + wt p t := by
  unfold wt
  rw [zF]
  split <;> simp
theorem wt_0 {p : Int} {L : List (Int × Int)} (h : ∀ q ∈ L, q.1 ≠ p) : wt p L = 0 := by
  induction L with
  | nil => rfl
  | cons e t ih => rw [wt_cons, if_neg (h e (List.mem_cons_self ..)), ih (fun q hq => h q (List.mem_cons_of_mem _ hq))]; rfl
theorem srt_ext : ∀ {L K : List (Int × Int)}, srt L → srt K → (∀ p, wt p L = wt p K) → L = K := by
  intro L
  induction L with
  | nil =>
    intro K _ hK h
    cases K with
    | nil => rfl
    | cons b t =>
      exfalso
      have h1 := h b.1
      rw [wt_cons, if_pos rfl, wt_0 (L := t) (fun q hq => by have := hK.2.1 q hq; omega)] at h1
      have h2 : wt b.1 [] = 0 := rfl
      have := hK.1
      omega
  | cons a s ih =>
    intro K hL hK h
    cases K with
    | nil =>
      exfalso
      have h1 := h a.1
      rw [wt_cons, if_pos rfl, wt_0 (L := s) (fun q hq => by have := hL.2.1 q hq; omega)] at h1
      have h2 : wt a.1 [] = 0 := rfl
      have := hL.1
      omega
    | cons b t =>
      have h1 := h a.1
      have h2 := h b.1
      rw [wt_cons, wt_cons, if_pos rfl, wt_0 (L := s) (fun q hq => by have := hL.2.1 q hq; omega)] at h1
      rw [wt_cons, wt_cons, if_pos rfl, wt_0 (L := t) (fun q hq => by have := hK.2.1 q hq; omega)] at h2
      have hab : a.1 = b.1 := by
        rcases Int.lt_trichotomy a.1 b.1 with q | q | q
        · exfalso
          rw [if_neg (by omega), wt_0 (L := t) (fun r hr => by have := hK.2.1 r hr; omega)] at h1
          have := hL.1; omega
        · exact q
        · exfalso
          rw [if_neg (by omega), wt_0 (L := s) (fun r hr => by have := hL.2.1 r hr; omega)] at h2
          have := hK.1; omega
      rw [if_pos hab.symm, wt_0 (L := t) (fun q hq => by have := hK.2.1 q hq; omega)] at h1
      have hab2 : a.2 = b.2 := by omega
      have hE : a = b := Prod.ext hab hab2
      subst hE
      rw [ih hL.2.2 hK.2.2 (fun p => by have := h p; rw [wt_cons, wt_cons] at this; omega)]
theorem srt_pos : ∀ {L : List (Int × Int)}, srt L → ∀ e ∈ L, 1 ≤ e.2 := by
  intro L
  induction L with
  | nil => intro _ e he; cases he
  | cons a t ih =>
    intro h e he
    rcases List.mem_cons.mp he with rfl | he
    · exact h.1
    · exact ih h.2.2 e he
theorem srt_snoc : ∀ {K : List (Int × Int)} {e : Int × Int}, srt (K ++ [e]) ↔ srt K ∧ 1 ≤ e.2 ∧ ∀ q ∈ K, q.1 < e.1 := by
  intro K
  induction K with
  | nil => intro e; simp [srt]
  | cons a t ih =>
    intro e
    rw [List.cons_append, srt, srt, ih]
    constructor
    · intro ⟨h1, h2, h3, h4, h5⟩
      exact ⟨⟨h1, fun q hq => h2 q (List.mem_append_left _ hq), h3⟩, h4, fun q hq => by
        rcases List.mem_cons.mp hq with rfl | hq
        · exact h2 e (by simp)
        · exact h5 q hq⟩
    · intro ⟨⟨h1, h2, h3⟩, h4, h5⟩
      exact ⟨h1, fun q hq => by
        rcases List.mem_append.mp hq with hq | hq
        · exact h2 q hq
        · simp at hq; subst hq; exact h5 a (List.mem_cons_self ..), h3, h4, fun q hq => h5 q (List.mem_cons_of_mem _ hq)⟩
theorem app_F (φ : Int → Int) {L : List (Int × Int)} {p w : Int} (hw : 0 ≤ w) : zF φ (app L p w) = zF φ L + w * φ p := by
  unfold app
  by_cases h0 : w ≤ 0
  · rw [if_pos h0, show w = 0 by omega]; simp
  · rw [if_neg h0]
    rcases nil_or_snoc L with rfl | ⟨K, e, rfl⟩
    · simp [zF]
    · simp only [List.getLast?_concat, List.dropLast_concat]
      split
      · rename_i he
        rw [zF_app, zF_app]; simp only [zF]; rw [← he, Int.add_mul]; omega
      · rw [zF_app]; simp [zF]
theorem app_srt {L : List (Int × Int)} {p w : Int} (h : srt L) (hp : ∀ e ∈ L, e.1 ≤ p) : srt (app L p w) := by
  unfold app
  by_cases h0 : w ≤ 0
  · rw [if_pos h0]; exact h
  · rw [if_neg h0]
    rcases nil_or_snoc L with rfl | ⟨K, e, rfl⟩
    · simp [srt]; omega
    · simp only [List.getLast?_concat, List.dropLast_concat]
      have hs := srt_snoc.mp h
      split
      · exact srt_snoc.mpr ⟨hs.1, by simp; omega, hs.2.2⟩
      · rename_i he
        refine srt_snoc.mpr ⟨h, by simp; omega, fun q hq => ?_⟩
        have h1 := hp e (by simp)
        rcases List.mem_append.mp hq with hq | hq
        · have := hs.2.2 q hq; simp; omega
        · simp at hq; subst hq; simp; omega
theorem app_le {L : List (Int × Int)} {p w : Int} (hp : ∀ e ∈ L, e.1 ≤ p) : ∀ e ∈ app L p w, e.1 ≤ p := by
  unfold app
  by_cases h0 : w ≤ 0
  · rw [if_pos h0]; exact hp
  · rw [if_neg h0]
    rcases nil_or_snoc L with rfl | ⟨K, e, rfl⟩
    · intro q hq; simp at hq; subst hq; exact Int.le_refl _
    · simp only [List.getLast?_concat, List.dropLast_concat]
      split
      · intro q hq
        rcases List.mem_append.mp hq with hq | hq
        · exact hp q (List.mem_append_left _ hq)
        · simp at hq; subst hq; exact hp e (by simp)
      · intro q hq
        rcases List.mem_append.mp hq with hq | hq
        · exact hp q hq
        · simp at hq; subst hq; exact Int.le_refl _
/-- many weights come behind each other -/
def apps : List (Int × Int) → List (Int × Int) → List (Int × Int)
  | L, [] => L
  | L, e :: t => apps (app L e.1 e.2) t
theorem apps_F (φ : Int → Int) : ∀ (M L : List (Int × Int)), (∀ e ∈ M, 0 ≤ e.2) → zF φ (apps L M) = zF φ L + zF φ M := by
  intro M
  induction M with
  | nil => intro L _; simp [apps, zF]
  | cons e t ih =>
    intro L h
    rw [apps, ih _ (fun q hq => h q (List.mem_cons_of_mem _ hq)), app_F φ (h e (List.mem_cons_self ..)), zF]; omega
/-- weakly rising -/
def ris : List (Int × Int) → Prop
  | [] => True
  | e :: t => (∀ q ∈ t, e.1 ≤ q.1) ∧ ris t
theorem apps_srt : ∀ (M L : List (Int × Int)), srt L → ris M → (∀ e ∈ L, ∀ q ∈ M, e.1 ≤ q.1) → srt (apps L M) := by
  intro M
  induction M with
  | nil => intro L h _ _; exact h
  | cons e t ih =>
    intro L h hr hb
    rw [apps]
    refine ih _ (app_srt h (fun q hq => hb q hq e (List.mem_cons_self ..))) hr.2 (fun q hq r hr' => ?_)
    have h1 := app_le (w := e.2) (fun q hq => hb q hq e (List.mem_cons_self ..)) q hq
    have h2 := hr.1 r hr'
    omega
theorem apps_kf : ∀ (M L : List (Int × Int)), (∀ e ∈ M, 0 ≤ e.2) → apps L (M.filter kf) = apps L M := by
  intro M
  induction M with
  | nil => intro L _; rfl
  | cons e t ih =>
    intro L h
    by_cases he : kf e = true
    · rw [List.filter_cons_of_pos he, apps, apps, ih _ (fun q hq => h q (List.mem_cons_of_mem _ hq))]
    · rw [List.filter_cons_of_neg he, apps, ih _ (fun q hq => h q (List.mem_cons_of_mem _ hq))]
      have h0 : e.2 = 0 := by
        unfold kf at he; simpa using he
      unfold app
      rw [if_pos (by omega)]
theorem apps_len : ∀ (M L : List (Int × Int)), (∀ e ∈ M, 0 ≤ e.2) → (apps L M).length ≤ L.length + (M.filter kf).length := by
  intro M
  induction M with
  | nil => intro L _; simp [apps]
  | cons e t ih =>
    intro L h
    rw [apps]
    have h1 := ih (app L e.1 e.2) (fun q hq => h q (List.mem_cons_of_mem _ hq))
    by_cases he : kf e = true
    · rw [List.filter_cons_of_pos he]
      have := (app_len L e.1 e.2).2
      simp only [List.length_cons]; omega
    · rw [List.filter_cons_of_neg he]
      have h0 : e.2 = 0 := by unfold kf at he; simpa using he
      have : app L e.1 e.2 = L := by unfold app; rw [if_pos (by omega)]
      rw [this] at h1 ⊢
      exact h1
theorem kf_pos {M : List (Int × Int)} {e : Int × Int} (h : e ∈ M.filter kf) : e ∈ M ∧ e.2 ≠ 0 := by
  have := List.mem_filter.mp h
  exact ⟨this.1, by have h2 := this.2; unfold kf at h2; simpa using h2⟩
/-- what a reshaping brings, kink by kink -/
def rl (fa ri : Bool) (dn up : Int) : Int → List (Int × Int) → List (Int × Int)
  | _, [] => []
  | f, e :: t => (e.1 - dn, if fa then min f e.2 else 0) :: (e.1 + up, if ri then e.2 - min f e.2 else 0) :: rl fa ri dn up (f - min f e.2) t
theorem rl_nn (fa ri : Bool) (dn up : Int) : ∀ (L : List (Int × Int)) (f : Int), 0 ≤ f → (∀ e ∈ L, 1 ≤ e.2) → ∀ e ∈ rl fa ri dn up f L, 0 ≤ e.2 := by
  intro L
  induction L with
  | nil => intro f _ _ e he; cases he
  | cons a t ih =>
    intro f hf hL e he
    have ha := hL a (List.mem_cons_self ..)
    rw [rl] at he
    rcases List.mem_cons.mp he with rfl | he
    · simp only []; split <;> omega
    · rcases List.mem_cons.mp he with rfl | he
      · simp only []; split <;> omega
      · exact ih _ (by omega) (fun q hq => hL q (List.mem_cons_of_mem _ hq)) e he
/-- no more that falls -/
theorem rl_0 (fa ri : Bool) (dn up : Int) : ∀ (L : List (Int × Int)), (∀ e ∈ L, 1 ≤ e.2) → ∀ e ∈ (rl fa ri dn up 0 L).filter kf, ∃ q ∈ L, e.1 = q.1 + up := by
  intro L
  induction L with
  | nil => intro _ e he; cases he
  | cons a t ih =>
    intro hL e he
    have ha := hL a (List.mem_cons_self ..)
    obtain ⟨h1, h2⟩ := kf_pos he
    rw [rl, show min (0 : Int) a.2 = 0 by omega] at h1
    rcases List.mem_cons.mp h1 with rfl | h1
    · exfalso; apply h2; simp
    · rcases List.mem_cons.mp h1 with rfl | h1
      · exact ⟨a, List.mem_cons_self .., rfl⟩
      · obtain ⟨q, hq, hq2⟩ := ih (fun q hq => hL q (List.mem_cons_of_mem _ hq)) e (List.mem_filter.mpr ⟨by simpa using h1, (List.mem_filter.mp he).2⟩)
        exact ⟨q, List.mem_cons_of_mem _ hq, hq2⟩
theorem rl_lo (fa ri : Bool) {dn up : Int} (hdu : -dn ≤ up) : ∀ (L : List (Int × Int)) (f : Int), ∀ e ∈ rl fa ri dn up f L, ∃ q ∈ L, q.1 - dn ≤ e.1 ∧ e.1 ≤ q.1 + up := by
  intro L
  induction L with
  | nil => intro f e he; cases he
  | cons a t ih =>
    intro f e he
    rw [rl] at he
    rcases List.mem_cons.mp he with rfl | he
    · exact ⟨a, List.mem_cons_self .., by simp; omega⟩
    · rcases List.mem_cons.mp he with rfl | he
      · exact ⟨a, List.mem_cons_self .., by simp; omega⟩
      · obtain ⟨q, hq, hq2⟩ := ih _ e he
        exact ⟨q, List.mem_cons_of_mem _ hq, hq2⟩
theorem rl_len0 (fa ri : Bool) (dn up : Int) : ∀ (L : List (Int × Int)), (∀ e ∈ L, 1 ≤ e.2) → ((rl fa ri dn up 0 L).filter kf).length ≤ L.length := by
  intro L
  induction L with
  | nil => intro _; simp [rl]
  | cons a t ih =>
    intro hL
    have ha := hL a (List.mem_cons_self ..)
    have h1 := ih (fun q hq => hL q (List.mem_cons_of_mem _ hq))
    rw [rl, show min (0 : Int) a.2 = 0 by omega, List.filter_cons_of_neg (by unfold kf; simp), Int.sub_zero, show (0 : Int) - 0 = 0 from rfl]
    by_cases h2 : kf (a.1 + up, if ri = true then a.2 else 0) = true
    · rw [List.filter_cons_of_pos h2]; simp only [List.length_cons]; omega
    · rw [List.filter_cons_of_neg h2]; simp only [List.length_cons]; omega
theorem rl_len (fa ri : Bool) (dn up : Int) : ∀ (L : List (Int × Int)) (f : Int), 0 ≤ f → (∀ e ∈ L, 1 ≤ e.2) → ((rl fa ri dn up f L).filter kf).length ≤ L.length + 1 := by
  intro L
  induction L with
  | nil => intro f _ _; simp [rl]
  | cons a t ih =>
    intro f hf hL
    have ha := hL a (List.mem_cons_self ..)
    have hL' := fun q hq => hL q (List.mem_cons_of_mem _ hq)
    rw [rl]
    by_cases hc : a.2 ≤ f
    · have h1 := ih (f - min f a.2) (by omega) hL'
      rw [show min f a.2 = a.2 by omega] at h1 ⊢
      have h3 : ∀ (M : List (Int × Int)), (((a.1 + up, if ri = true then a.2 - a.2 else 0) :: M).filter kf).length = (M.filter kf).length := fun M => by
        rw [List.filter_cons_of_neg (by unfold kf; cases ri <;> simp)]
      by_cases h2 : kf (a.1 - dn, if fa = true then a.2 else 0) = true
      · rw [List.filter_cons_of_pos h2]; simp only [List.length_cons]; rw [h3]; omega
      · rw [List.filter_cons_of_neg h2, h3]; simp only [List.length_cons]; omega
    · have h1 := rl_len0 fa ri dn up t hL'
      rw [show min f a.2 = f by omega, show f - f = 0 by omega]
      have h3 : ∀ (e : Int × Int) (M : List (Int × Int)), ((e :: M).filter kf).length ≤ (M.filter kf).length + 1 := fun e M => by
        by_cases h2 : kf e = true
        · rw [List.filter_cons_of_pos h2]; simp
        · rw [List.filter_cons_of_neg h2]; omega
      have h4 := h3 (a.1 - dn, if fa = true then f else 0) ((a.1 + up, if ri = true then a.2 - f else 0) :: rl fa ri dn up 0 t)
      have h5 := h3 (a.1 + up, if ri = true then a.2 - f else 0) (rl fa ri dn up 0 t)
      by_cases hf0 : f = 0
      · have h6 : kf (a.1 - dn, if fa = true then f else 0) ≠ true := by unfold kf; simp [hf0]
        rw [List.filter_cons_of_neg h6]; simp only [List.length_cons]; omega
      · simp only [List.length_cons]; omega
theorem rl_ris (fa ri : Bool) {dn up : Int} (hdu : -dn ≤ up) : ∀ (L : List (Int × Int)) (f : Int), 0 ≤ f → srt L → ris ((rl fa ri dn up f L).filter kf) := by
  intro L
  induction L with
  | nil => intro f _ _; exact trivial
  | cons a t ih =>
    intro f hf hL
    have ha := hL.1
    have hpos := srt_pos hL.2.2
    have step : ∀ (e : Int × Int) (M : List (Int × Int)), (kf e = true → ∀ q ∈ M.filter kf, e.1 ≤ q.1) → ris (M.filter kf) → ris ((e :: M).filter kf) := fun e M h1 h2 => by
      by_cases he : kf e = true
      · rw [List.filter_cons_of_pos he]; exact ⟨h1 he, h2⟩
      · rw [List.filter_cons_of_neg he]; exact h2
    have i1 := ih (f - min f a.2) (by omega) hL.2.2
    rw [rl]
    by_cases hc : a.2 ≤ f
    · have hlo : ∀ q ∈ (rl fa ri dn up (f - min f a.2) t).filter kf, a.1 - dn ≤ q.1 := fun q hq => by
        obtain ⟨r, hr, hr2, _⟩ := rl_lo fa ri hdu t _ q (kf_pos hq).1
        have := hL.2.1 r hr
        omega
      have hne : ¬ kf (a.1 + up, if ri = true then a.2 - min f a.2 else 0) = true := by
        rw [show min f a.2 = a.2 by omega]; unfold kf; cases ri <;> simp
      refine step _ _ (fun _ q hq => ?_) (step _ _ (fun h => absurd h hne) i1)
      rw [List.filter_cons_of_neg hne] at hq
      exact hlo q hq
    · have e0 : f - min f a.2 = 0 := by omega
      rw [e0] at i1 ⊢
      have hlo : ∀ q ∈ (rl fa ri dn up 0 t).filter kf, a.1 + up ≤ q.1 := fun q hq => by
        obtain ⟨r, hr, hr2⟩ := rl_0 fa ri dn up t hpos q hq
        have := hL.2.1 r hr
        omega
      refine step _ _ (fun _ q hq => ?_) (step _ _ (fun _ q hq => hlo q hq) i1)
      rcases List.mem_cons.mp (kf_pos hq).1 with rfl | hq2
      · simp; omega
      · have := hlo q (List.mem_filter.mpr ⟨hq2, (List.mem_filter.mp hq).2⟩)
        simp; omega
/-- both parts go the same way -/
theorem rl_drift (φ : Int → Int) (d : Int) : ∀ (L : List (Int × Int)) (f : Int), zF φ (rl true true (-d) d f L) = zF (fun p => φ (p + d)) L := by
  intro L
  induction L with
  | nil => intro f; rfl
  | cons a t ih =>
    intro f
    rw [rl, zF, zF, zF, ih]
    simp only [if_true]
    rw [show a.1 - -d = a.1 + d by omega, ← Int.add_assoc, ← Int.add_mul, show min f a.2 + (a.2 - min f a.2) = a.2 by omega]
/-! TABLES AND LISTS -/
theorem dl_srt {Z : Nat → Int} (hn : zNn Z) : ∀ (q s : Nat), s + q = 10001 → srt ((dlist Z 0 q s).filter kf) := by
  intro q
  induction q with
  | zero => intro s _; exact trivial
  | succ q ih =>
    intro s hs
    rw [dlist]
    have h1 := ih (s + 1) (by omega)
    by_cases he : kf ((s : Int) - 5000 + 0, Z (2 + s)) = true
    · rw [List.filter_cons_of_pos he]
      have h2 := hn (2 + s) (by omega) (by omega)
      have h3 : Z (2 + s) ≠ 0 := by unfold kf at he; simpa using he
      refine ⟨by simp only []; omega, fun e hq => ?_, h1⟩
      have := dlist_rng Z 0 q (s + 1) e (kf_pos hq).1
      simp only []; omega
    · rw [List.filter_cons_of_neg he]; exact h1
theorem zK_srt {Z : Nat → Int} (hn : zNn Z) : srt (zK Z) := dl_srt hn 10001 0 (by omega)
theorem zK_F (φ : Int → Int) (Z : Nat → Int) : zF φ (zK Z) = zF φ (zL Z) := zF_K φ _
theorem zK_rng {Z : Nat → Int} : ∀ e ∈ zK Z, -5000 ≤ e.1 ∧ e.1 ≤ 5000 := fun e he => by
  have := dlist_rng Z 0 10001 0 e (kf_pos he).1
  omega
/-- a list of kinks is that of a table, if its sums are -/
theorem srt_zK {L : List (Int × Int)} {Z : Nat → Int} (hL : srt L) (hn : zNn Z) (h : ∀ φ, zF φ L = zF φ (zL Z)) : L = zK Z := srt_ext hL (zK_srt hn) (fun p => by unfold wt; rw [zK_F]; exact h _)
theorem zF_sum (L : List (Int × Int)) : zSum L = zF (fun _ => 1) L := (zF_one L).symm
theorem zK_sum (Z : Nat → Int) : zSum (zK Z) = zWts Z := by rw [zF_sum, zK_F, zWts_F]
theorem kv_dl {Z : Nat → Int} (hn : zNn Z) (x : Int) : ∀ (q s : Nat), s + q = 10001 → kv x (max 0 (-zS Z s)) ((dlist Z 0 q s).filter kf) = zF (fun p => max (p - x) 0) (dlist (zB Z) 0 q s) + zF (fun p => max (x - p) 0) (dlist (zA Z) 0 q s) := by
  intro q
  induction q with
  | zero => intro s _; rfl
  | succ q ih =>
    intro s hs
    have h1 := ih (s + 1) (by omega)
    have h2 := hn (2 + s) (by omega) (by omega)
    have hw : zS Z (s + 1) = zS Z s + Z (2 + s) := by rw [zS, zW, if_pos (by omega)]
    have eB : zB Z (2 + s) = zBel Z s := by unfold zB; rw [show 2 + s - 2 = s by omega]
    have eA : zA Z (2 + s) = Z (2 + s) - zBel Z s := by unfold zA; rw [show 2 + s - 2 = s by omega]
    have eb : zBel Z s = min (max 0 (-zS Z s)) (Z (2 + s)) := by unfold zBel; omega
    rw [dlist, dlist, dlist, zF, zF, eB, eA, eb]
    by_cases he : kf ((s : Int) - 5000 + 0, Z (2 + s)) = true
    · rw [List.filter_cons_of_pos he, kv, show max 0 (-zS Z s) - min (max 0 (-zS Z s)) (Z (2 + s)) = max 0 (-zS Z (s + 1)) by omega, h1]
      simp only []
      by_cases hx : x - ((s : Int) - 5000 + 0) < 0
      · rw [if_pos hx, show max ((s : Int) - 5000 + 0 - x) 0 = -(x - ((s : Int) - 5000 + 0)) by omega, show max (x - ((s : Int) - 5000 + 0)) 0 = 0 by omega, Int.mul_zero, Int.mul_comm (-(x - ((s : Int) - 5000 + 0)))]
        omega
      · rw [if_neg hx, show max ((s : Int) - 5000 + 0 - x) 0 = 0 by omega, show max (x - ((s : Int) - 5000 + 0)) 0 = x - ((s : Int) - 5000 + 0) by omega, Int.mul_zero, Int.mul_comm (x - ((s : Int) - 5000 + 0))]
        omega
    · rw [List.filter_cons_of_neg he]
      have h3 : Z (2 + s) = 0 := by unfold kf at he; simpa using he
      rw [h3] at hw
      rw [h3, show min (max 0 (-zS Z s)) 0 = 0 by omega, show max 0 (-zS Z s) = max 0 (-zS Z (s + 1)) by omega, h1]
      omega
theorem kv_val {Z : Nat → Int} (h : zVee Z) (x : Int) : zLeast Z + kv x (-Z 0) (zK Z) = zVal Z x := by
  have h1 := kv_dl h.1 x 10001 0 (by omega)
  have h2 : max 0 (-zS Z 0) = -Z 0 := by have := h.2.1; show max 0 (-Z 0) = -Z 0; omega
  rw [h2] at h1
  have h3 : kv x (-Z 0) (zK Z) = zFall Z x + zRise Z x := h1
  rw [h3, zVal_parts h]
  omega
/-- far away: of a table, of a curve -/
def ft (t : Int) : Int := if t = 100000000 then 1000000000 else if t = -100000000 then -1000000000 else t
theorem kU_dl {Z : Nat → Int} (hn : zNn Z) (u : Int) : ∀ (q s : Nat), s + q = 10001 → zS Z s < u → kU (u - zS Z s) ((dlist Z 0 q s).filter kf) = ft (zFd Z u q s) := by
  intro q
  induction q with
  | zero => intro s _ _; rfl
  | succ q ih =>
    intro s hs hu
    have h2 := hn (2 + s) (by omega) (by omega)
    have hw : zS Z (s + 1) = zS Z s + Z (2 + s) := by rw [zS, zW, if_pos (by omega)]
    rw [dlist, zFd]
    by_cases he : kf ((s : Int) - 5000 + 0, Z (2 + s)) = true
    · rw [List.filter_cons_of_pos he, kU]
      simp only []
      by_cases hc : u ≤ zS Z (s + 1)
      · rw [if_neg (by omega), if_pos hc]
        unfold ft
        rw [if_neg (by omega), if_neg (by omega)]; omega
      · rw [if_pos (by omega), if_neg hc, show u - zS Z s - Z (2 + s) = u - zS Z (s + 1) by omega]
        exact ih (s + 1) (by omega) (by omega)
    · rw [List.filter_cons_of_neg he]
      have h3 : Z (2 + s) = 0 := by unfold kf at he; simpa using he
      rw [if_neg (by omega), show u - zS Z s = u - zS Z (s + 1) by omega]
      exact ih (s + 1) (by omega) (by omega)
theorem cUnit_turn {Z : Nat → Int} (hn : zNn Z) (s : Int) : cUnit (-Z 0 + s) (zK Z) = ft (zTurn Z s) := by
  unfold cUnit zTurn
  by_cases h : s ≤ Z 0
  · rw [if_neg (by omega), if_pos h]; rfl
  · rw [if_pos (by omega), if_neg h]
    have := kU_dl hn s 10001 0 (by omega) (by show Z 0 < s; omega)
    rw [show -Z 0 + s = s - zS Z 0 by show _ = s - Z 0; omega]
    exact this
theorem kSl_F {x : Int} : ∀ {L : List (Int × Int)} (s : Int), srt L → kSl x s L = s + zF (fun p => if p ≤ x then 1 else 0) L := by
  intro L
  induction L with
  | nil => intro s _; simp [kSl, zF]
  | cons e t ih =>
    intro s h
    rw [kSl, zF]
    by_cases hx : x < e.1
    · rw [if_pos hx, if_neg (by omega), zF_null t (fun q hq _ => by have := h.2.1 q hq; rw [if_neg (by omega)])]; omega
    · rw [if_neg hx, if_pos (by omega), ih _ h.2.2]; omega
theorem zVal_slope (Z : Nat → Int) (x : Int) : zVal Z (x + 1) - zVal Z x = Z 0 + zF (fun p => if p ≤ x then 1 else 0) (zL Z) := by
  rw [zVal_form, zVal_form]
  have h1 : zF (fun p => max (x + 1 - p) 0) (zL Z) = zF (fun p => max (x - p) 0) (zL Z) + zF (fun p => if p ≤ x then 1 else 0) (zL Z) := by
    rw [← zF_add]
    exact zF_congr _ (fun e _ _ => by by_cases h : e.1 ≤ x <;> simp [h] <;> omega)
  rw [h1, show x + 1 + 5000 = x + 5000 + 1 by omega, Int.mul_add]
  omega
theorem kSl_val {Z : Nat → Int} (hn : zNn Z) (x : Int) : kSl x (- -Z 0) (zK Z) = zVal Z (x + 1) - zVal Z x := by
  rw [kSl_F _ (zK_srt hn), zVal_slope, zK_F]; omega
theorem least_at {Z : Nat → Int} (h : zVee Z) {n : Nat} (h1 : zS Z n ≤ 0) (h2 : 0 ≤ zS Z (n + 1)) : zVal Z ((n : Int) - 5000) = zLeast Z := by
  have hl := zLeast_le h ((n : Int) - 5000)
  obtain ⟨n0, a1, a2, a3, a4⟩ := zNear_spec h
  have e : zLeast Z = zV Z n0 := by unfold zLeast; rw [a2, zVal_n]
  rw [zVal_n] at hl ⊢
  have : zV Z n ≤ zV Z n0 := by
    rcases Nat.le_total n n0 with q | q
    · have := zV_right h.1 h2 (n0 - n)
      rw [show n + (n0 - n) = n0 by omega] at this
      exact this
    · have := zV_left h.1 h1 (n - n0) (by omega)
      rw [show n - (n - n0) = n0 by omega] at this
      exact this
  omega
theorem kLow_dl {Z : Nat → Int} (hn : zNn Z) (h0 : 0 ≤ zS Z 10001) : ∀ (q s : Nat), s + q = 10001 → zS Z s ≤ 0 → ((dlist Z 0 q s).filter kf = [] ∧ zS Z s = 0) ∨ ∃ n : Nat, n < 10001 ∧ kLow (-zS Z s) ((dlist Z 0 q s).filter kf) = (n : Int) - 5000 ∧ zS Z n ≤ 0 ∧ 0 ≤ zS Z (n + 1) := by
  intro q
  induction q with
  | zero =>
    intro s hs h1
    refine Or.inl ⟨rfl, ?_⟩
    rw [show s = 10001 by omega] at h1 ⊢
    omega
  | succ q ih =>
    intro s hs h1
    have h2 := hn (2 + s) (by omega) (by omega)
    have hw : zS Z (s + 1) = zS Z s + Z (2 + s) := by rw [zS, zW, if_pos (by omega)]
    rw [dlist]
    by_cases he : kf ((s : Int) - 5000 + 0, Z (2 + s)) = true
    · refine Or.inr ?_
      rw [List.filter_cons_of_pos he, kLow]
      simp only []
      by_cases hc : 0 ≤ zS Z (s + 1)
      · exact ⟨s, by omega, by rw [if_neg (by omega)]; omega, h1, hc⟩
      · rw [if_pos (by omega), show -zS Z s - Z (2 + s) = -zS Z (s + 1) by omega]
        rcases ih (s + 1) (by omega) (by omega) with ⟨_, q2⟩ | r
        · omega
        · exact r
    · rw [List.filter_cons_of_neg he]
      have h3 : Z (2 + s) = 0 := by unfold kf at he; simpa using he
      have e0 : zS Z s = zS Z (s + 1) := by omega
      rw [e0]
      exact ih (s + 1) (by omega) (by omega)
theorem zK_nil {Z : Nat → Int} (h : zK Z = []) : ∀ n, zS Z n = Z 0 := by
  have h1 : ∀ n, zW Z n = 0 := fun n => by
    rw [← zL_W, ← zK_F, h]; rfl
  intro n
  induction n with
  | zero => rfl
  | succ n ih => rw [zS, h1, ih]; omega
theorem kLow_least {Z : Nat → Int} (h : zVee Z) : zVal Z (kLow (-Z 0) (zK Z)) = zLeast Z ∧ -5000 ≤ kLow (-Z 0) (zK Z) ∧ kLow (-Z 0) (zK Z) ≤ 5000 := by
  rcases kLow_dl h.1 h.2.2 10001 0 (by omega) h.2.1 with ⟨q1, q2⟩ | ⟨n, q1, q2, q3, q4⟩
  · have e : zK Z = [] := q1
    have hz : Z 0 = 0 := q2
    rw [e]
    have h3 := zK_nil e
    refine ⟨?_, by rw [kLow]; decide, by rw [kLow]; decide⟩
    exact least_at h (n := 5000) (by rw [h3, hz]; exact Int.le_refl _) (by rw [h3, hz]; exact Int.le_refl _)
  · have e : kLow (-Z 0) (zK Z) = (n : Int) - 5000 := q2
    rw [e]
    exact ⟨least_at h q3 q4, by omega, by omega⟩
/-- of a rising list the first and the last place tell whether all lie near -/
theorem srt_in {L : List (Int × Int)} (h : srt L) : ((∃ e, L.head? = some e ∧ e.1 < -5000) ∨ ∃ e, L.getLast? = some e ∧ 5000 < e.1) ↔ ∃ e ∈ L, ¬ (-5000 ≤ e.1 ∧ e.1 ≤ 5000) := by
  constructor
  · intro q
    rcases q with ⟨e, h1, h2⟩ | ⟨e, h1, h2⟩
    · exact ⟨e, List.mem_of_head? h1, by omega⟩
    · exact ⟨e, List.mem_of_getLast? h1, by omega⟩
  · intro ⟨e, he, h1⟩
    by_cases hlo : e.1 < -5000
    · left
      cases L with
      | nil => cases he
      | cons a t =>
        refine ⟨a, rfl, ?_⟩
        rcases List.mem_cons.mp he with rfl | he
        · exact hlo
        · have := h.2.1 e he; omega
    · right
      rcases nil_or_snoc L with rfl | ⟨K, a, rfl⟩
      · cases he
      · refine ⟨a, by simp, ?_⟩
        have hs := srt_snoc.mp h
        rcases List.mem_append.mp he with he | he
        · have := hs.2.2 e he; omega
        · simp at he; subst he; omega
theorem wt_nn {p : Int} {L : List (Int × Int)} (h : ∀ e ∈ L, 0 ≤ e.2) : 0 ≤ wt p L := zF_nn _ h (fun q => by split <;> omega)
theorem wt_pos {p : Int} : ∀ {L : List (Int × Int)}, (∀ e ∈ L, 0 ≤ e.2) → (wt p L ≠ 0 ↔ ∃ e ∈ L, e.1 = p ∧ e.2 ≠ 0) := by
  intro L
  induction L with
  | nil => intro _; simp [wt, zF]
  | cons a t ih =>
    intro h
    have h1 := ih (fun e he => h e (List.mem_cons_of_mem _ he))
    have h2 := h a (List.mem_cons_self ..)
    have h3 := wt_nn (p := p) (L := t) (fun e he => h e (List.mem_cons_of_mem _ he))
    rw [wt_cons]
    constructor
    · intro q
      by_cases ha : a.1 = p ∧ a.2 ≠ 0
      · exact ⟨a, List.mem_cons_self .., ha⟩
      · have : wt p t ≠ 0 := fun z => q (by rw [z]; by_cases hp : a.1 = p <;> simp [hp]; by_cases hz : a.2 = 0; exact hz; exact absurd ⟨hp, hz⟩ ha)
        obtain ⟨e, he, he2⟩ := h1.mp this
        exact ⟨e, List.mem_cons_of_mem _ he, he2⟩
    · intro ⟨e, he, he1, he2⟩
      rcases List.mem_cons.mp he with rfl | he
      · rw [if_pos he1]; omega
      · have := h1.mpr ⟨e, he, he1, he2⟩
        split <;> omega
theorem zWide_iff : ∀ {L : List (Int × Int)}, zWide L = true ↔ ∃ e ∈ L, e.2 ≠ 0 ∧ ¬ (-5000 ≤ e.1 ∧ e.1 ≤ 5000) := by
  intro L
  induction L with
  | nil => simp [zWide]
  | cons a t ih =>
    rw [zWide, Bool.or_eq_true, ih]
    simp only [Bool.and_eq_true, Bool.not_eq_true', decide_eq_true_eq, decide_eq_false_iff_not, List.mem_cons, exists_eq_or_imp]
/-- lists of the same weights: one of them lies near where the other one does -/
theorem wide_eq {L K : List (Int × Int)} (hL : ∀ e ∈ L, 0 ≤ e.2) (hK : ∀ e ∈ K, 0 ≤ e.2) (h : ∀ p, wt p L = wt p K) : zWide L = zWide K := by
  have key : ∀ {L K : List (Int × Int)}, (∀ e ∈ L, 0 ≤ e.2) → (∀ e ∈ K, 0 ≤ e.2) → (∀ p, wt p L = wt p K) → zWide L = true → zWide K = true := by
    intro L K hL hK h q
    obtain ⟨e, he, he1, he2⟩ := zWide_iff.mp q
    have := (wt_pos (p := e.1) hL).mpr ⟨e, he, rfl, he1⟩
    rw [h] at this
    obtain ⟨f, hf, hf1, hf2⟩ := (wt_pos hK).mp this
    exact zWide_iff.mpr ⟨f, hf, hf2, by rw [hf1]; exact he2⟩
  cases q1 : zWide L <;> cases q2 : zWide K
  · rfl
  · have := key hK hL (fun p => (h p).symm) q2; rw [q1] at this; cases this
  · have := key hL hK h q1; rw [q2] at this; cases this
  · rfl
theorem kMuch_iff {L : List (Int × Int)} (h : srt L) (bt : Int) : kMuch L bt ↔ 5000 < zSum L ∨ 100000000 < bt ∨ zWide L = true := by
  unfold kMuch
  rw [srt_in h, zWide_iff]
  have : (∃ e ∈ L, ¬ (-5000 ≤ e.1 ∧ e.1 ≤ 5000)) ↔ ∃ e ∈ L, e.2 ≠ 0 ∧ ¬ (-5000 ≤ e.1 ∧ e.1 ≤ 5000) := ⟨fun ⟨e, he, h1⟩ => ⟨e, he, by have := srt_pos h e he; omega, h1⟩, fun ⟨e, he, _, h1⟩ => ⟨e, he, h1⟩⟩
  rw [this]
theorem rl_dl (φ : Int → Int) {Z : Nat → Int} (hn : zNn Z) (fa ri : Bool) (dn up : Int) : ∀ (q s : Nat), s + q = 10001 → zF φ (rl fa ri dn up (max 0 (-zS Z s)) ((dlist Z 0 q s).filter kf)) = zF φ (plist Z dn up fa ri q s) := by
  intro q
  induction q with
  | zero => intro s _; rfl
  | succ q ih =>
    intro s hs
    have h1 := ih (s + 1) (by omega)
    have h2 := hn (2 + s) (by omega) (by omega)
    have hw : zS Z (s + 1) = zS Z s + Z (2 + s) := by rw [zS, zW, if_pos (by omega)]
    have eb : zBel Z s = min (max 0 (-zS Z s)) (Z (2 + s)) := by unfold zBel; omega
    rw [dlist, plist, zF_app, zF_app, ← h1]
    have e1 : zF φ (if fa = true then [pfall Z dn s] else []) = (if fa = true then zBel Z s else 0) * φ ((s : Int) - 5000 - dn) := by
      cases fa <;> simp [zF, pfall]
    have e2 : zF φ (if ri = true then [prise Z up s] else []) = (if ri = true then Z (2 + s) - zBel Z s else 0) * φ ((s : Int) - 5000 + up) := by
      cases ri <;> simp [zF, prise]
    rw [e1, e2, eb]
    by_cases he : kf ((s : Int) - 5000 + 0, Z (2 + s)) = true
    · rw [List.filter_cons_of_pos he, rl, zF, zF]
      simp only [Int.add_zero]
      rw [show max 0 (-zS Z s) - min (max 0 (-zS Z s)) (Z (2 + s)) = max 0 (-zS Z (s + 1)) by omega]
    · rw [List.filter_cons_of_neg he]
      have h3 : Z (2 + s) = 0 := by unfold kf at he; simpa using he
      rw [h3] at hw
      rw [h3, show min (max 0 (-zS Z s)) 0 = 0 by omega, show max 0 (-zS Z s) = max 0 (-zS Z (s + 1)) by omega]
      cases fa <;> cases ri <;> simp
