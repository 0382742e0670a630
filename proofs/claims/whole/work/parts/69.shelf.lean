theorem nn_s {β : Type} {a : Nat} {f : Nat → Option β} : nn (some a) f = f a := rfl
theorem fp_rng {L : List (Int × Int)} (h : ∀ e ∈ L, -20000 ≤ e.1 ∧ e.1 ≤ 20000) : -20000 ≤ fp L ∧ fp L ≤ 20000 := by
  cases L with
  | nil => show -20000 ≤ (0 : Int) ∧ (0 : Int) ≤ 20000; omega
  | cons a t => exact h a (List.mem_cons_self ..)
theorem bF_congr {F G : Nat → Int64} {n : Nat} (h : ∀ j, j < n → F j = G j) : bF F n = bF G n := by
  funext i
  unfold bF
  by_cases hi : i < 64 * n
  · rw [h (i / 64) (by omega)]
  · rw [decide_eq_false hi, Bool.false_and, Bool.false_and]
section
variable {ρ : Nat → Nat} {l sh c : Nat} {L : List (Int × Int)} {lf bt : Int}
theorem kinit_is (N : Nat) {h : hS} (C : CR ρ l h c L lf bt) (hl : l ≠ 9) {q : Nat} (hk : h_k h q = 5) (hq : ρ q = 9) (b o : Option Nat) : f_Keepsake_init N h q (some c) b o = some ((), s_r (s_r (s_j (s_i (s_i (s_i h q 0 (iI L.length)) q 1 (iI (fp L))) q 2 (iI lf)) q 3 (lI bt)) q 4 b) q 5 o) := by
  have C1 := C.keep (tr_si (k := 0) (v := iI L.length) (R := rg 9) hq) (fun e => hl e)
  have C2 := C1.keep (tr_si (k := 1) (v := iI (fp L)) (R := rg 9) hq) (fun e => hl e)
  have C3 := C2.keep (tr_si (k := 2) (v := iI lf) (R := rg 9) hq) (fun e => hl e)
  unfold f_Keepsake_init
  rw [gI_k C.k, C.f.1, pI_k (show h_k h q = 4 + 1 from hk), cv_k C1.k, place0 N C1, cl_s, pI_k (show h_k (s_i h q 0 _) q = 4 + 1 from hk), gI_k C2.k, C2.f.2.1, pI_k (show h_k (s_i (s_i h q 0 _) q 1 _) q = 4 + 1 from hk), gJ_k C3.k, C3.f.2.2.2, pJ_k (show h_k (s_i (s_i (s_i h q 0 _) q 1 _) q 2 _) q = 4 + 1 from hk), pR_k (show h_k (s_j (s_i (s_i (s_i h q 0 _) q 1 _) q 2 _) q 3 _) q = 4 + 1 from hk), pR_k (show h_k (s_r (s_j (s_i (s_i (s_i h q 0 _) q 1 _) q 2 _) q 3 _) q 4 _) q = 4 + 1 from hk)]
theorem keep_75 (N : Nat) {ρ0 : Nat → Nat} {h0 h : hS} {wr q bb n : Nat} {ks : List Nat} (T : tr ρ0 h0 (rg 11) ρ h) (hq0 : h_x h0 ≤ q) (hqx : q < h_x h) (hqk : h_k h q = 5) (hq9 : ρ q = 9) (S : SO ρ h sh wr) (hS0 : ρ0 sh = 11 ∧ sh < h_x h0) (C : CR ρ l h c L lf bt) (hl : l ≠ 9) (hb : rj h bb n) (hn : n ≤ 235) (hb9 : ρ bb = 9) (hbx : bb < h_x h) (hE : ENC (bF (h_j h bb) n) 0 (fp L) L) (hL : srt L) (hs : zSum L ≤ 5000) (hK : KC ρ0 h0 (h_r h sh 2) ks) :
    ∃ g, f_Shelf_keep_75 N h sh (some sh) (some q) (some q) (some c) (some bb) = some (some q, g) ∧ tr ρ0 h0 (rg 11) ρ g ∧ KP ρ g q L lf bt ∧ SH ρ g sh (q :: ks) ∧ hm g = hm h ∧ rsh g sh = 0 := by
  have ho := C.ok
  have hsq : ¬ sh = q := fun e => by have := S.1.1; rw [e, hqk] at this; cases this
  have hqs : ¬ q = sh := fun e => hsq e.symm
  have hbq : ¬ bb = q := fun e => by have := hb.1; rw [e, hqk] at this; cases this
  have hbs : ¬ bb = sh := fun e => by have := hb.1; rw [e, S.1.1] at this; cases this
  have hws : ¬ wr = sh := fun e => by have := S.2.2.1.1; rw [e, S.1.1] at this; cases this
  obtain ⟨g1, hg1⟩ : ∃ g1, g1 = s_r (s_r (s_j (s_i (s_i (s_i h q 0 (iI L.length)) q 1 (iI (fp L))) q 2 (iI lf)) q 3 (lI bt)) q 4 (some bb)) q 5 (h_r h sh 2) := ⟨_, rfl⟩
  have T1 : tr ρ0 h0 (rg 11) ρ g1 := by
    rw [hg1]
    exact (((((T.ni hq0).ni hq0).ni hq0).nj hq0).nr hq0).nr hq0
  have hk1 : h_k g1 = h_k h := by rw [hg1]; rfl
  have hn1 : h_n g1 = h_n h := by rw [hg1]; rfl
  have T2 : tr ρ0 h0 (rg 11) ρ (s_r g1 sh 2 (some q)) := T1.trans (tr_sr S.1.2.1)
  have hE1 : h_r (s_r g1 sh 2 (some q)) sh 2 = some q := by simp [h_r_sr, va_up]
  have hrq : ∀ j, h_r (s_r g1 sh 2 (some q)) q j = h_r g1 q j := fun j => by rw [h_r_sr, if_neg hqs]
  refine ⟨s_r g1 sh 2 (some q), ?_, T2, ⟨bb, ⟨?_, hq9, ?_⟩, ⟨?_, ?_, ?_, ?_⟩, ⟨?_, ?_, hb9, ?_, ?_⟩, ?_, hL, ho, hs⟩, ⟨wr, ⟨?_, S.1.2.1, ?_⟩, ⟨?_, ?_, S.2.2.2.1, ?_, ?_⟩, ?_⟩, ?_, ?_⟩
  · unfold f_Shelf_keep_75
    rw [gR_k (show h_k h sh = 6 + 1 from S.1.1)]
    rw [nn_s, kinit_is N C hl hqk hq9, cl_s, ← hg1, pR_k (by rw [hk1]; exact S.1.1), gR_k (by show h_k g1 sh = 6 + 1; rw [hk1]; exact S.1.1), hE1]
  · show h_k g1 q = 5; rw [hk1]; exact hqk
  · show q < h_x g1; rw [hg1]; exact hqx
  · show h_i g1 q 0 = _; rw [hg1]; simp [h_i_sr, h_i_sj, h_i_si, upd]
  · show h_i g1 q 1 = _; rw [hg1]; simp [h_i_sr, h_i_sj, h_i_si, upd]
  · show h_i g1 q 2 = _; rw [hg1]; simp [h_i_sr, h_i_sj, h_i_si, upd]
  · show h_j g1 q 3 = _; rw [hg1]; simp [h_j_sr, h_j_sj, vp_updL]
  · rw [hrq, hg1]; simp [h_r_sr, va_up]
  · show h_k g1 bb = 51; rw [hk1]; exact hb.1
  · show bb < h_x g1; rw [hg1]; exact hbx
  · show h_n g1 bb ≤ 235; rw [hn1, hb.2]; exact hn
  · show ENC (bF (h_j g1 bb) (h_n g1 bb)) 0 (fp L) L
    rw [hn1, hb.2, show h_j g1 bb = h_j h bb by rw [hg1]; simp [h_j_sr, h_j_sj, hbq, h_j_si]]
    exact hE
  · show h_k g1 sh = 7; rw [hk1]; exact S.1.1
  · show sh < h_x g1; rw [hg1]; exact S.1.2.2
  · have : h_r (s_r g1 sh 2 (some q)) sh 0 = h_r g1 sh 0 := by simp [h_r_sr, va_up]
    rw [this, show h_r g1 sh 0 = h_r h sh 0 by rw [hg1]; simp [h_r_sr, hsq, h_r_sj, h_r_si]]
    exact S.2.1
  · show h_k g1 wr = 51; rw [hk1]; exact S.2.2.1.1
  · show wr < h_x g1; rw [hg1]; exact S.2.2.2.2
  · right; show h_n g1 wr = 235; rw [hn1]; exact S.2.2.1.2
  · rw [hE1]
    refine ⟨rfl, ⟨L, lf, bt, ?_⟩, ?_⟩
    · refine ⟨bb, ⟨?_, hq9, ?_⟩, ⟨?_, ?_, ?_, ?_⟩, ⟨?_, ?_, hb9, ?_, ?_⟩, ?_, hL, ho, hs⟩
      · show h_k g1 q = 5; rw [hk1]; exact hqk
      · show q < h_x g1; rw [hg1]; exact hqx
      · show h_i g1 q 0 = _; rw [hg1]; simp [h_i_sr, h_i_sj, h_i_si, upd]
      · show h_i g1 q 1 = _; rw [hg1]; simp [h_i_sr, h_i_sj, h_i_si, upd]
      · show h_i g1 q 2 = _; rw [hg1]; simp [h_i_sr, h_i_sj, h_i_si, upd]
      · show h_j g1 q 3 = _; rw [hg1]; simp [h_j_sr, h_j_sj, vp_updL]
      · rw [hrq, hg1]; simp [h_r_sr, va_up]
      · show h_k g1 bb = 51; rw [hk1]; exact hb.1
      · show bb < h_x g1; rw [hg1]; exact hbx
      · show h_n g1 bb ≤ 235; rw [hn1, hb.2]; exact hn
      · show ENC (bF (h_j g1 bb) (h_n g1 bb)) 0 (fp L) L
        rw [hn1, hb.2, show h_j g1 bb = h_j h bb by rw [hg1]; simp [h_j_sr, h_j_sj, hbq, h_j_si]]
        exact hE
    · rw [show h_r (s_r g1 sh 2 (some q)) q 5 = h_r h sh 2 by rw [hrq, hg1]; simp [h_r_sr, va_up]]
      exact KC.keep T2 (fun z => by cases z) hK
  · rw [hg1]; rfl
  · have : h_r (s_r g1 sh 2 (some q)) sh 0 = some wr := by
      have : h_r (s_r g1 sh 2 (some q)) sh 0 = h_r g1 sh 0 := by simp [h_r_sr, va_up]
      rw [this, show h_r g1 sh 0 = h_r h sh 0 by rw [hg1]; simp [h_r_sr, hsq, h_r_sj, h_r_si]]
      exact S.2.1
    rw [rsh_of this, if_neg (by show ¬ h_n g1 wr = 0; rw [hn1, S.2.2.1.2]; omega)]
theorem keep_loop (N : Nat) (hN : 20000 ≤ N) {h : hS} {wr n : Nat} {ks : List Nat} (S : SO ρ h sh wr) (hw : h_i h sh 1 = iI (n : Nat)) (hn : n ≤ 235) (hE : ENC (bF (h_j h wr) n) 0 (fp L) L) (C : CR ρ l h c L lf bt) (hl : l ≠ 9 ∧ l ≠ 11) (hL : srt L) (hs : zSum L ≤ 5000) (hK : KC ρ h (h_r h sh 2) ks) : ∀ (ts : List Nat) (a3 a2 : Option Nat) (fuel : Nat), KC ρ h a3 ts → (a2 = none ∨ ∃ mb, a2 = some mb ∧ ρ mb = 9 ∧ mb < h_x h ∧ rj h mb n ∧ ENC (bF (h_j h mb) n) 0 (fp L) L) →
    ∃ ρ' g k ks', f_Shelf_keep_12 N (ts.length + (fuel + 1)) h sh (some c) a2 a3 = some (some k, g) ∧ tr ρ h (rg 11) ρ' g ∧ KP ρ' g k L lf bt ∧ SH ρ' g sh ks' ∧ ks'.length ≤ ks.length + 1 ∧ hm g ≤ hm h + 267 ∧ rsh g sh = 0 := by
  intro ts
  have ho := C.ok
  induction ts with
  | nil =>
    intro a3 a2 fuel hC ha2
    have ha3 : a3 = none := hC
    subst ha3
    rw [List.length_nil, Nat.zero_add]
    have hne : ∀ a, a < h_x h → ¬ a = h_x h := fun a ha => by omega
    obtain ⟨ρ1, hρ1⟩ : ∃ ρ1, ρ1 = ext ρ h 9 := ⟨_, rfl⟩
    obtain ⟨h1, hh1⟩ : ∃ h1, h1 = nw h 5 0 6 := ⟨_, rfl⟩
    have T1 : ∀ R, tr ρ h R ρ1 h1 := fun R => by rw [hρ1, hh1]; exact tr_nw
    have hx1 : h_x h1 = h_x h + 1 := by rw [hh1]; rfl
    have hqk : h_k h1 (h_x h) = 5 := by rw [hh1, k_nw, if_pos rfl]
    have hq9 : ρ1 (h_x h) = 9 := by rw [hρ1]; unfold ext; rw [if_neg (Nat.lt_irrefl _)]
    have C1 := C.keep (T1 (fun _ => False)) (fun z => z)
    obtain ⟨b1, b2, b3, b4⟩ := (T1 (fun _ => False)).2 sh S.1.2.2
    obtain ⟨c1, c2, c3, c4⟩ := (T1 (fun _ => False)).2 wr S.2.2.2.2
    obtain ⟨b5, b6, b7⟩ := b4 (fun z => z)
    obtain ⟨c5, c6, c7⟩ := c4 (fun z => z)
    have S1 : SO ρ1 h1 sh wr := ⟨⟨b1.trans S.1.1, b3.trans S.1.2.1, by have := S.1.2.2; omega⟩, by rw [b7]; exact S.2.1, ⟨c1.trans S.2.2.1.1, c2.trans S.2.2.1.2⟩, c3.trans S.2.2.2.1, by have := S.2.2.2.2; omega⟩
    have hm1 : hm h1 = hm h + 19 := by rw [hh1]; show 13 * (h_x h + 1) + (h_s h + 6) = 13 * h_x h + h_s h + 19; omega
    have hstart : f_Shelf_keep_12 N (fuel + 1) h sh (some c) a2 none = f_Shelf_keep_54 N h1 sh (some c) a2 (some sh) (some (h_x h)) := by
      unfold f_Shelf_keep_12
      rw [if_pos rfl, hh1]
      rfl
    rw [hstart]
    unfold f_Shelf_keep_54
    rcases ha2 with ha2 | ⟨mb, ha2, hm9, hmx, hmr, hmE⟩
    · subst ha2
      rw [if_pos rfl, gR_k (show h_k h1 sh = 6 + 1 from S1.1.1), S1.2.1, gI_k (show h_k h1 sh = 6 + 1 from S1.1.1), b5, hw]
      obtain ⟨g2, e1, e2, e3, e4, e5, e6⟩ := copyOf_is (ρ := ρ1) (R := rg 11) N S1.2.2.1 S1.2.2.2.2 hn
      rw [e1, cl_s]
      unfold f_Shelf_keep_71
      have C2 := C1.keep e2 (fun z => hl.2 z)
      obtain ⟨d1, d2, d3, d4⟩ := e2.2 sh S1.1.2.2
      obtain ⟨f1, f2, f3, f4⟩ := e2.2 wr S1.2.2.2.2
      obtain ⟨k1, k2, k3, k4⟩ := e2.2 (h_x h) (by omega)
      have hrs : h_r g2 sh = h_r h1 sh ∧ h_j g2 wr = h_j h1 wr := by
        have e2' := (copyOf_is (ρ := ρ1) (R := fun _ => False) N S1.2.2.1 S1.2.2.2.2 hn)
        obtain ⟨g3, z1, z2, _⟩ := e2'
        have : g3 = g2 := by rw [e1] at z1; cases z1; rfl
        subst this
        exact ⟨((z2.2 sh S1.1.2.2).2.2.2 (fun w => w)).2.2, ((z2.2 wr S1.2.2.2.2).2.2.2 (fun w => w)).2.1⟩
      have S2 : SO (ext ρ1 h1 9) g2 sh wr := ⟨⟨d1.trans S1.1.1, d3.trans S1.1.2.1, by have := S1.1.2.2; omega⟩, by rw [hrs.1]; exact S1.2.1, ⟨f1.trans S1.2.2.1.1, f2.trans S1.2.2.1.2⟩, f3.trans S1.2.2.2.1, by have := S1.2.2.2.2; omega⟩
      have hbE : ENC (bF (h_j g2 (h_x h1)) n) 0 (fp L) L := by
        rw [bF_congr e4, c6]; exact hE
      obtain ⟨g, a1, a2, a3, a4, a5, a6⟩ := keep_75 N (ρ0 := ρ) (h0 := h) (q := h_x h) (bb := h_x h1) (ks := ks) ((T1 (rg 11)).trans e2) (Nat.le_refl _) (by omega) (k1.trans hqk) (k3.trans hq9) S2 ⟨S.1.2.1, S.1.2.2⟩ C2 hl.1 e3 hn (by unfold ext; rw [if_neg (Nat.lt_irrefl _)]) (by omega) hbE hL hs (by rw [hrs.1, b7]; exact hK)
      exact ⟨_, g, h_x h, h_x h :: ks, a1, a2, a3, a4, by simp, by rw [a5, e6, hm1]; omega, a6⟩
    · subst ha2
      rw [if_neg (by simp)]
      obtain ⟨d1, d2, d3, d4⟩ := (T1 (fun _ => False)).2 mb hmx
      obtain ⟨d5, d6, d7⟩ := d4 (fun z => z)
      obtain ⟨g, a1, a2, a3, a4, a5, a6⟩ := keep_75 N (ρ0 := ρ) (h0 := h) (q := h_x h) (bb := mb) (ks := ks) (T1 (rg 11)) (Nat.le_refl _) (by omega) hqk hq9 S1 ⟨S.1.2.1, S.1.2.2⟩ C1 hl.1 ⟨d1.trans hmr.1, d2.trans hmr.2⟩ hn (d3.trans hm9) (by omega) (by rw [d6]; exact hmE) hL hs (by rw [b7]; exact hK)
      exact ⟨_, g, h_x h, h_x h :: ks, a1, a2, a3, a4, by simp, by rw [a5, hm1]; omega, a6⟩
  | cons k ts ih =>
    intro a3 a2 fuel hC ha2
    obtain ⟨ha3, ⟨L', lf', bt', K⟩, hC2⟩ := hC
    subst ha3
    obtain ⟨mb, q1, q2, q3, q4, q5, q6, q7⟩ := id K
    rw [List.length_cons, show ts.length + 1 + (fuel + 1) = (ts.length + (fuel + 1)) + 1 by omega]
    unfold f_Shelf_keep_12 f_Shelf_keep_42
    rw [if_neg (by simp), gR_k (show h_k h k = 4 + 1 from q1.1), q3.1, cv_k (show h_k h sh = 6 + 1 from S.1.1)]
    obtain ⟨v, v1, v2, v3⟩ := isW_is N (by omega) S hw hn q3.2.1 q3.2.2.2.2
    rw [v1, cl_s]
    rcases v2 with v0 | v0
    · rw [v0, if_pos rfl, gR_k (show h_k h k = 4 + 1 from q1.1)]
      exact ih _ _ fuel hC2 ha2
    · rw [v0, if_neg (by decide), cv_k (show h_k h k = 4 + 1 from q1.1)]
      obtain ⟨w1, w2⟩ := v3 v0
      obtain ⟨u, u1, u2, u3⟩ := beside_is N K C
      have hbe : bF (h_j h mb) n = bF (h_j h wr) n := bF_congr w2
      rw [u1, cl_s]
      rcases u2 with u0 | u0
      · rw [u0, if_pos rfl, gR_k (show h_k h k = 4 + 1 from q1.1), q3.1, gR_k (show h_k h k = 4 + 1 from q1.1)]
        exact ih _ _ fuel hC2 (Or.inr ⟨mb, rfl, q3.2.2.1, q3.2.2.2.1, ⟨q3.2.1, w1⟩, by rw [hbe]; exact hE⟩)
      · rw [u0, if_neg (by decide)]
        obtain ⟨x1, x2, x3⟩ := u3 u0
        have hfpe : fp L' = fp L := (iI_eq (by have := fp_rng q6.p; omega) (by have := fp_rng ho.p; omega)).mp x1
        rw [w1, hfpe, hbe] at q4
        have hLL : L' = L := enc_un (bF_end _ _) q5 hL q4 hE
        subst hLL; subst x2; subst x3
        exact ⟨ρ, h, k, ks, rfl, tr.rf, K, ⟨wr, S.1, ⟨S.2.1, S.2.2.1.1, S.2.2.2.1, S.2.2.2.2, Or.inr S.2.2.1.2⟩, hK⟩, by omega, by omega, by rw [rsh_of S.2.1, if_neg (by rw [S.2.2.1.2]; omega)]⟩
theorem keep_is (N : Nat) (hN : 20000 ≤ N) {h : hS} {ks : List Nat} (S : SH ρ h sh ks) (hks : ks.length < N) (C : CR ρ l h c L lf bt) (hl : l ≠ 9 ∧ l ≠ 11) (hL : srt L) (hp : ∀ e ∈ L, -5000 ≤ e.1 ∧ e.1 ≤ 5000) (hs : zSum L ≤ 5000) :
    ∃ ρ' g k ks', f_Shelf_keep N h sh (some c) = some (some k, g) ∧ tr ρ h (rg 11) ρ' g ∧ KP ρ' g k L lf bt ∧ SH ρ' g sh ks' ∧ ks'.length ≤ ks.length + 1 ∧ hm g + rsh g sh ≤ hm h + rsh h sh + 267 := by
  obtain ⟨ρ1, g1, wr, n, e1, e2, e3, e4, e5, e6, e7, e8⟩ := write_is N hN hl.2 S C hL hp hs
  obtain ⟨w0, q1, q2, q3⟩ := S
  have hK := KC.keep e2 (fun z => by cases z) q3
  rw [← e4] at hK
  have C1 := C.keep e2 (fun z => hl.2 z)
  obtain ⟨fuel, hfu⟩ : ∃ fuel, N = ks.length + (fuel + 1) := ⟨N - ks.length - 1, by omega⟩
  obtain ⟨ρ2, g2, k, ks', a1, a2, a3, a4, a5, a6, a7⟩ := keep_loop N hN e3 e5 e6 e7 C1 hl hL hs hK ks (h_r g1 sh 2) none fuel hK (Or.inl rfl)
  refine ⟨ρ2, g2, k, ks', ?_, e2.trans a2, a3, a4, a5, by omega⟩
  unfold f_Shelf_keep f_Shelf_keep_5
  rw [cv_k (show h_k h sh = 6 + 1 from q1.1), e1, cl_s, gR_k (show h_k g1 sh = 6 + 1 from e3.1.1)]
  rw [← hfu] at a1
  exact a1
end
