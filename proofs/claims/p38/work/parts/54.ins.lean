section
/-! Corners are inserted. -/
theorem q_lc00 : w32 (l_cmp 0 0) = 0 := by decide
theorem r_tr {a b c : Rat} (h : a < b) (h2 : b < c) : a < c := by grind
def w_top (N : Nat → Nat → Int) (t : Int) (g : Nat) (p q v : Int) : Prop := (∃ i, i < w_nn N ∧ w_F N t g i p q = v) ∧ ∀ i, i < w_nn N → w_F N t g i p q ≤ v
def w_kf (σ : Nat → Nat → Int) (i : Nat) : Rat := fr (σ 172 i) (σ 174 i)
def w_ko (σ N : Nat → Nat → Int) (t : Int) (g c : Nat) : Prop := σ 170 3 = (c : Int) ∧ c ≤ 122 ∧ (∀ i, i < c → w_pq N t g (σ 172 i) (σ 174 i) ∧ w_top N t g (σ 172 i) (σ 174 i) (σ 176 i)) ∧ ∀ i j, i < j → j < c → w_kf σ i < w_kf σ j
def w_in (σ : Nat → Nat → Int) (c : Nat) (x : Rat) : Prop := ∃ i, i < c ∧ w_kf σ i = x
def q_fo (σ τ : Nat → Nat → Int) : Prop := (∀ a, a ≠ 170 → a ≠ 172 → a ≠ 174 → a ≠ 176 → τ a = σ a) ∧ τ 170 1 = σ 170 1
theorem q_fo_r {σ : Nat → Nat → Int} : q_fo σ σ := ⟨fun _ _ _ _ _ => rfl, rfl⟩
theorem q_fo_t {σ τ ρ : Nat → Nat → Int} (h : q_fo σ τ) (h2 : q_fo τ ρ) : q_fo σ ρ := ⟨fun a h3 h4 h5 h6 => (h2.1 a h3 h4 h5 h6).trans (h.1 a h3 h4 h5 h6), h2.2.trans h.2⟩
theorem v_a_fo {σ τ N : Nat → Nat → Int} {t : Int} (h : v_a σ N t) (hf : q_fo σ τ) : v_a τ N t := v_a_fr h (fun a _ _ => hf.1 a (by omega) (by omega) (by omega) (by omega))
def w_ins (T : Nat → Int) (k : Nat) (v : Int) (j : Nat) : Int := if j = k then v else if k < j ∧ j < 122 then T (j - 1) else T j
theorem q_ins {σ : Nat → Nat → Int} {c k : Nat} {v : Int} (hk : k < 122) : q_set (q_open σ c 122 k) c 122 (k : Int) v = q_put σ c (w_ins (σ c) k v) := by
  rw [q_set_nat hk (by omega)]
  funext a j
  unfold m_up2 q_open q_put w_ins
  by_cases h1 : a = c
  · subst h1
    rw [if_pos rfl]
    by_cases h2 : j = k
    · rw [if_pos ⟨rfl, h2⟩, if_pos h2]
    · rw [if_neg (fun q => h2 q.2), if_neg h2]
      by_cases h3 : k < j ∧ j < 122
      · rw [if_pos ⟨rfl, h3⟩, if_pos h3]
      · rw [if_neg (fun q => h3 q.2), if_neg h3]
  · rw [if_neg (fun q => h1 q.1), if_neg (fun q => h1 q.1), if_neg h1]
theorem w_ins_lt {T : Nat → Int} {k j : Nat} {v : Int} (h : j < k) : w_ins T k v j = T j := by
  unfold w_ins
  rw [if_neg (by omega), if_neg (by omega)]
theorem w_ins_eq {T : Nat → Int} {k : Nat} {v : Int} : w_ins T k v k = v := by
  unfold w_ins
  rw [if_pos rfl]
theorem w_ins_gt {T : Nat → Int} {k j : Nat} {v : Int} (h : k < j) (h2 : j < 122) : w_ins T k v j = T (j - 1) := by
  unfold w_ins
  rw [if_neg (by omega), if_pos ⟨h, h2⟩]
section
variable {Z : mZ} {K : Nat → mK} {σ N : Nat → Nat → Int} {e s g i c : Nat} {t p q : Int}
theorem s_putAt {b k : Nat} {v : Int} (hb : q_row K 191 b) (hl : q_ln K (b + 1) = 122) (hk : k < 122) : m_cl Z 42 [(0, (k : Int)), (2, ((b : Nat) : Int)), (0, v)] (K, σ, 191, e, s) = some (.inl (9, 0), (K, q_put σ (b + 1) (w_ins (σ (b + 1)) k v), 191, e, s)) := by
  simp only [e_42, b_42_0, b_42_5, b_42_11, ↓reduceIte, Nat.reduceEqDiff, Nat.reduceMul, q_n10, q_n01, Option.bind_some, g_aft0, g_aft1, g_aft2, g_aft3, g_aft9, Nat.reduceAdd, m_kill_0, m_kill_2, m_kill_3, m_kill_4, m_kill_9, true_or, or_true, q_lm1, q_l0, q_l1, q_l2, q_l3, q_l4, q_l5, q_l6, q_l8, q_l9, q_l10, q_l12, q_l32, q_l50, q_l120, q_l122, q_l126, q_l372, q_l1000, q_l1000000, hb.1, r_open hb (show k ≤ 1000 by omega), r_set hb, hl, q_ins hk]
theorem w_pqb (hw : q_wf N) (hg : g < w_ne N) (h : w_pq N t g p q) : 1 ≤ q ∧ q ≤ 1000 ∧ 0 ≤ p ∧ p ≤ 50000 := by
  have h7 := wf_ed hw hg
  have m := q_mb (show 0 ≤ N 10 g by omega) h7.2.2.2.2.2.2 (show 0 ≤ q by have := h.1; omega) h.2.1
  have := h.1
  have := h.2.1
  have := h.2.2.2.2.1
  have := h.2.2.2.2.2
  omega
theorem s_insert {v : Int} (hL : q_lay K) (hw : q_wf N) (hg : g < w_ne N) (hk : w_ko σ N t g c) (hc : c < 122) (hp : w_pq N t g p q) (hv : w_top N t g p q v) (h2 : σ 170 2 = v) : ∃ c' τ, m_cl Z 41 [(2, ((170 : Nat) : Int)), (0, p), (0, q)] (K, σ, 191, e, s) = some (.inl (9, 0), (K, τ, 191, e, s)) ∧ w_ko τ N t g c' ∧ c' ≤ c + 1 ∧ q_fo σ τ ∧ ∀ x, w_in τ c' x ↔ w_in σ c x ∨ x = fr p q := by
  obtain ⟨k1, k2, k3, k4⟩ := hk
  have bp := w_pqb hw hg hp
  have hn : w32 (σ 170 3) = (c : Int) := by rw [k1, q_w (by omega)]
  have key : ∀ k i place l5 l6, i + k = c → place ≤ i → (∀ j, j < place → w_kf σ j < fr p q) → (∀ j, place ≤ j → j < i → fr p q < w_kf σ j) → (w_in σ c (fr p q) ∧ m_run Z (41, 5, [(2, ((170 : Nat) : Int)), (0, p), (0, q), (0, (place : Int)), (0, (i : Int)), l5, l6], [], (K, σ, 191, e, s)) = some (.inl (9, 0), (K, σ, 191, e, s))) ∨ ∃ place' l5' l6', place' ≤ c ∧ (∀ j, j < place' → w_kf σ j < fr p q) ∧ (∀ j, place' ≤ j → j < c → fr p q < w_kf σ j) ∧ m_run Z (41, 5, [(2, ((170 : Nat) : Int)), (0, p), (0, q), (0, (place : Int)), (0, (i : Int)), l5, l6], [], (K, σ, 191, e, s)) = m_run Z (41, 69, [(2, ((170 : Nat) : Int)), (0, p), (0, q), (0, (place' : Int)), (0, (c : Int)), l5', l6'], [], (K, σ, 191, e, s)) := by
    intro k
    induction k with
    | zero =>
      intro i place l5 l6 hi hpl a1 a2
      have e : i = c := by clear hn; omega
      subst e
      refine Or.inr ⟨place, l5, l6, hpl, a1, a2, ?_⟩
      have w9 : w32 (i : Int) = (i : Int) := q_w (by clear hn; omega)
      simp only [b_41_5, ↓reduceIte, Nat.reduceEqDiff, Nat.reduceMul, q_n10, q_n01, Option.bind_some, g_aft0, g_aft1, g_aft2, g_aft3, g_aft9, Nat.reduceAdd, m_kill_0, m_kill_2, m_kill_3, m_kill_4, m_kill_9, true_or, or_true, q_lm1, q_l0, q_l1, q_l2, q_l3, q_l4, q_l5, q_l6, q_l8, q_l9, q_l10, q_l12, q_l32, q_l50, q_l120, q_l122, q_l126, q_l372, q_l1000, q_l1000000, q_outF hL.2.2.2.1, hn, w9, Int.le_refl]
    | succ k ih =>
      intro i place l5 l6 hi hpl a1 a2
      have hic : i < c := by clear hn; omega
      have c0 : ¬ (c : Int) ≤ (i : Int) := by clear hn; omega
      have bi := w_pqb hw hg (k3 i hic).1
      have g1 : q_get σ 172 122 (i : Int) = σ 172 i := q_get_nat (by clear hn; omega) (by omega)
      have g2 : q_get σ 174 122 (i : Int) = σ 174 i := q_get_nat (by clear hn g1; omega) (by omega)
      have m1 := q_mb bp.2.2.1 bp.2.2.2 (show 0 ≤ σ 174 i by clear hn g1 g2; omega) bi.2.1
      have m2 := q_mb bi.2.2.1 bi.2.2.2 (show 0 ≤ q by clear hn g1 g2; omega) bp.2.1
      have f1 := fr_lt (p := σ 172 i) (q := σ 174 i) (r := p) (s := q) (by clear hn g1 g2; omega) (by clear hn g1 g2; omega)
      have f2 := fr_lt (p := p) (q := q) (r := σ 172 i) (s := σ 174 i) (by clear hn g1 g2; omega) (by clear hn g1 g2; omega)
      have f3 := fr_eq (p := σ 172 i) (q := σ 174 i) (r := p) (s := q) (by clear hn g1 g2; omega) (by clear hn g1 g2; omega)
      have wm : w64 (p * σ 174 i - σ 172 i * q) = p * σ 174 i - σ 172 i * q := q_w64 (by clear hn g1 g2; omega) (by clear hn g1 g2; omega)
      have w0 : w32 (i : Int) = (i : Int) := q_w (by clear hn g1 g2 wm; omega)
      have wp : w32 p = p := q_wB (by clear hn g1 g2 wm w0; omega) (by clear hn g1 g2 wm w0; omega)
      have wq : w32 q = q := q_wB (by clear hn g1 g2 wm w0 wp; omega) (by clear hn g1 g2 wm w0 wp; omega)
      have wP : w32 (σ 172 i) = σ 172 i := q_wB (by clear hn g1 g2 wm w0 wp wq; omega) (by clear hn g1 g2 wm w0 wp wq; omega)
      have wQ : w32 (σ 174 i) = σ 174 i := q_wB (by clear hn g1 g2 wm w0 wp wq wP; omega) (by clear hn g1 g2 wm w0 wp wq wP; omega)
      have w64_0 : w64 0 = 0 := by decide
      by_cases c1 : p * σ 174 i - σ 172 i * q = 0
      · left
        refine ⟨⟨i, hic, f3.mpr (by clear hn g1 g2 wm w0 wp wq wP wQ; omega)⟩, ?_⟩
        conv => lhs; simp only [b_41_5, ↓reduceIte, Nat.reduceEqDiff, Nat.reduceMul, q_n10, q_n01, Option.bind_some, g_aft0, g_aft1, g_aft2, g_aft3, g_aft9, Nat.reduceAdd, m_kill_0, m_kill_2, m_kill_3, m_kill_4, m_kill_9, true_or, or_true, q_lm1, q_l0, q_l1, q_l2, q_l3, q_l4, q_l5, q_l6, q_l8, q_l9, q_l10, q_l12, q_l32, q_l50, q_l120, q_l122, q_l126, q_l372, q_l1000, q_l1000000, q_outF hL.2.2.2.1, hn, w0, c0]
        simp only [b_41_14, b_41_25, b_41_36, b_41_50, ↓reduceIte, Nat.reduceEqDiff, Nat.reduceMul, q_n10, q_n01, Option.bind_some, g_aft0, g_aft1, g_aft2, g_aft3, g_aft9, Nat.reduceAdd, m_kill_0, m_kill_2, m_kill_3, m_kill_4, m_kill_9, true_or, or_true, q_lm1, q_l0, q_l1, q_l2, q_l3, q_l4, q_l5, q_l6, q_l8, q_l9, q_l10, q_l12, q_l32, q_l50, q_l120, q_l122, q_l126, q_l372, q_l1000, q_l1000000, q_outF hL.2.2.2.1, r_get, g1, g2, wp, wq, wP, wQ, l_ce wm w64_0, c1, q_lc00]
      · by_cases c2 : p * σ 174 i - σ 172 i * q ≤ 0
        · have hlt : fr p q < w_kf σ i := f2.mpr (by clear hn g1 g2 wm w0 wp wq wP wQ; omega)
          have e1 : (((i + 1 : Nat)) : Int) = (i : Int) + 1 := by omega
          rcases ih (i + 1) place (1, p * σ 174 i - σ 172 i * q) (9, 0) (by clear hn g1 g2 wm w0 wp wq wP wQ; omega) (by clear hn g1 g2 wm w0 wp wq wP wQ; omega) a1 (fun j b1 b2 => by
            rcases Nat.lt_succ_iff_lt_or_eq.mp b2 with b2 | b2
            · exact a2 j b1 b2
            · rw [b2]; exact hlt) with ⟨d1, d2⟩ | ⟨pl, m5, m6, d1, d2, d3, d4⟩
          · left
            refine ⟨d1, ?_⟩
            rw [← d2]
            conv => lhs; simp only [b_41_5, ↓reduceIte, Nat.reduceEqDiff, Nat.reduceMul, q_n10, q_n01, Option.bind_some, g_aft0, g_aft1, g_aft2, g_aft3, g_aft9, Nat.reduceAdd, m_kill_0, m_kill_2, m_kill_3, m_kill_4, m_kill_9, true_or, or_true, q_lm1, q_l0, q_l1, q_l2, q_l3, q_l4, q_l5, q_l6, q_l8, q_l9, q_l10, q_l12, q_l32, q_l50, q_l120, q_l122, q_l126, q_l372, q_l1000, q_l1000000, q_outF hL.2.2.2.1, hn, w0, c0]
            simp only [b_41_14, b_41_25, b_41_36, b_41_51, b_41_63, ↓reduceIte, Nat.reduceEqDiff, Nat.reduceMul, q_n10, q_n01, Option.bind_some, g_aft0, g_aft1, g_aft2, g_aft3, g_aft9, Nat.reduceAdd, m_kill_0, m_kill_2, m_kill_3, m_kill_4, m_kill_9, true_or, or_true, q_lm1, q_l0, q_l1, q_l2, q_l3, q_l4, q_l5, q_l6, q_l8, q_l9, q_l10, q_l12, q_l32, q_l50, q_l120, q_l122, q_l126, q_l372, q_l1000, q_l1000000, q_outF hL.2.2.2.1, r_get, g1, g2, wp, wq, wP, wQ, l_ce wm w64_0, l_cle wm w64_0, c1, c2, e1]
          · right
            refine ⟨pl, m5, m6, d1, d2, d3, ?_⟩
            rw [← d4]
            conv => lhs; simp only [b_41_5, ↓reduceIte, Nat.reduceEqDiff, Nat.reduceMul, q_n10, q_n01, Option.bind_some, g_aft0, g_aft1, g_aft2, g_aft3, g_aft9, Nat.reduceAdd, m_kill_0, m_kill_2, m_kill_3, m_kill_4, m_kill_9, true_or, or_true, q_lm1, q_l0, q_l1, q_l2, q_l3, q_l4, q_l5, q_l6, q_l8, q_l9, q_l10, q_l12, q_l32, q_l50, q_l120, q_l122, q_l126, q_l372, q_l1000, q_l1000000, q_outF hL.2.2.2.1, hn, w0, c0]
            simp only [b_41_14, b_41_25, b_41_36, b_41_51, b_41_63, ↓reduceIte, Nat.reduceEqDiff, Nat.reduceMul, q_n10, q_n01, Option.bind_some, g_aft0, g_aft1, g_aft2, g_aft3, g_aft9, Nat.reduceAdd, m_kill_0, m_kill_2, m_kill_3, m_kill_4, m_kill_9, true_or, or_true, q_lm1, q_l0, q_l1, q_l2, q_l3, q_l4, q_l5, q_l6, q_l8, q_l9, q_l10, q_l12, q_l32, q_l50, q_l120, q_l122, q_l126, q_l372, q_l1000, q_l1000000, q_outF hL.2.2.2.1, r_get, g1, g2, wp, wq, wP, wQ, l_ce wm w64_0, l_cle wm w64_0, c1, c2, e1]
        · have hlt : w_kf σ i < fr p q := f1.mpr (by clear hn g1 g2 wm w0 wp wq wP wQ; omega)
          have e1 : (((i + 1 : Nat)) : Int) = (i : Int) + 1 := by omega
          rcases ih (i + 1) (i + 1) (1, p * σ 174 i - σ 172 i * q) (9, 0) (by clear hn g1 g2 wm w0 wp wq wP wQ; omega) (Nat.le_refl _) (fun j b1 => by
            rcases Nat.lt_succ_iff_lt_or_eq.mp b1 with b1 | b1
            · exact r_tr (k4 j i b1 hic) hlt
            · rw [b1]; exact hlt) (fun j b1 b2 => absurd b2 (by clear hn g1 g2 wm w0 wp wq wP wQ; omega)) with ⟨d1, d2⟩ | ⟨pl, m5, m6, d1, d2, d3, d4⟩
          · left
            refine ⟨d1, ?_⟩
            rw [← d2]
            conv => lhs; simp only [b_41_5, ↓reduceIte, Nat.reduceEqDiff, Nat.reduceMul, q_n10, q_n01, Option.bind_some, g_aft0, g_aft1, g_aft2, g_aft3, g_aft9, Nat.reduceAdd, m_kill_0, m_kill_2, m_kill_3, m_kill_4, m_kill_9, true_or, or_true, q_lm1, q_l0, q_l1, q_l2, q_l3, q_l4, q_l5, q_l6, q_l8, q_l9, q_l10, q_l12, q_l32, q_l50, q_l120, q_l122, q_l126, q_l372, q_l1000, q_l1000000, q_outF hL.2.2.2.1, hn, w0, c0]
            simp only [b_41_14, b_41_25, b_41_36, b_41_51, b_41_58, b_41_63, ↓reduceIte, Nat.reduceEqDiff, Nat.reduceMul, q_n10, q_n01, Option.bind_some, g_aft0, g_aft1, g_aft2, g_aft3, g_aft9, Nat.reduceAdd, m_kill_0, m_kill_2, m_kill_3, m_kill_4, m_kill_9, true_or, or_true, q_lm1, q_l0, q_l1, q_l2, q_l3, q_l4, q_l5, q_l6, q_l8, q_l9, q_l10, q_l12, q_l32, q_l50, q_l120, q_l122, q_l126, q_l372, q_l1000, q_l1000000, q_outF hL.2.2.2.1, r_get, g1, g2, wp, wq, wP, wQ, l_ce wm w64_0, l_cle wm w64_0, c1, c2, e1]
          · right
            refine ⟨pl, m5, m6, d1, d2, d3, ?_⟩
            rw [← d4]
            conv => lhs; simp only [b_41_5, ↓reduceIte, Nat.reduceEqDiff, Nat.reduceMul, q_n10, q_n01, Option.bind_some, g_aft0, g_aft1, g_aft2, g_aft3, g_aft9, Nat.reduceAdd, m_kill_0, m_kill_2, m_kill_3, m_kill_4, m_kill_9, true_or, or_true, q_lm1, q_l0, q_l1, q_l2, q_l3, q_l4, q_l5, q_l6, q_l8, q_l9, q_l10, q_l12, q_l32, q_l50, q_l120, q_l122, q_l126, q_l372, q_l1000, q_l1000000, q_outF hL.2.2.2.1, hn, w0, c0]
            simp only [b_41_14, b_41_25, b_41_36, b_41_51, b_41_58, b_41_63, ↓reduceIte, Nat.reduceEqDiff, Nat.reduceMul, q_n10, q_n01, Option.bind_some, g_aft0, g_aft1, g_aft2, g_aft3, g_aft9, Nat.reduceAdd, m_kill_0, m_kill_2, m_kill_3, m_kill_4, m_kill_9, true_or, or_true, q_lm1, q_l0, q_l1, q_l2, q_l3, q_l4, q_l5, q_l6, q_l8, q_l9, q_l10, q_l12, q_l32, q_l50, q_l120, q_l122, q_l126, q_l372, q_l1000, q_l1000000, q_outF hL.2.2.2.1, r_get, g1, g2, wp, wq, wP, wQ, l_ce wm w64_0, l_cle wm w64_0, c1, c2, e1]
  rcases key c 0 0 (9, 0) (9, 0) (by omega) (Nat.le_refl _) (fun j hj => absurd hj (by omega)) (fun j _ hj => absurd hj (by omega)) with ⟨d1, d2⟩ | ⟨k, m5, m6, d1, d2, d3, d4⟩
  · refine ⟨c, σ, ?_, ⟨k1, k2, k3, k4⟩, by omega, q_fo_r, fun x => ?_⟩
    · rw [e_41, b_41_0]
      exact d2
    · constructor
      · exact fun h => Or.inl h
      · rintro (h | h)
        · exact h
        · rw [h]; exact d1
  · have hk : k < 122 := by clear hn; omega
    have hF : ∀ j, w_kf (m_up2 (q_put (q_put (q_put σ 172 (w_ins (σ 172) k p)) 174 (w_ins (σ 174) k q)) 176 (w_ins (σ 176) k v)) 170 3 (c + 1)) j = fr (w_ins (σ 172) k p j) (w_ins (σ 174) k q j) := by
      intro j
      unfold w_kf
      simp (disch := omega) only [m_up2_ne, q_put_ne, q_put_at]
    refine ⟨c + 1, m_up2 (q_put (q_put (q_put σ 172 (w_ins (σ 172) k p)) 174 (w_ins (σ 174) k q)) 176 (w_ins (σ 176) k v)) 170 3 (c + 1), ?_, ⟨m_up2_at, by omega, ?_, ?_⟩, Nat.le_refl _, ⟨fun a a1 a2 a3 a4 => ?_, ?_⟩, fun x => ?_⟩
    · have c0 : ¬ (122 : Int) ≤ (c : Int) := by clear hn; omega
      have wk : w32 (c : Int) = (c : Int) := q_w (by clear hn; omega)
      rw [e_41, b_41_0]
      refine d4.trans ?_
      simp only [b_41_69, b_41_78, b_41_87, b_41_96, b_41_108, b_41_118, ↓reduceIte, Nat.reduceEqDiff, Nat.reduceMul, q_n10, q_n01, Option.bind_some, g_aft0, g_aft1, g_aft2, g_aft3, g_aft9, Nat.reduceAdd, m_kill_0, m_kill_2, m_kill_3, m_kill_4, m_kill_9, true_or, or_true, q_lm1, q_l0, q_l1, q_l2, q_l3, q_l4, q_l5, q_l6, q_l8, q_l9, q_l10, q_l12, q_l32, q_l50, q_l120, q_l122, q_l126, q_l372, q_l1000, q_l1000000, q_outF hL.2.2.2.1, hn, c0, wk, s_putAt (b := 171) (k := k) (q_outF hL.2.2.2.1).2.2.2.2.2.2.2.2.2.2.1 (q_outF hL.2.2.2.1).2.2.2.2.2.2.2.2.2.2.2.1 hk, s_putAt (b := 173) (k := k) (q_outF hL.2.2.2.1).2.2.2.2.2.2.2.2.2.2.2.2.2.1 (q_outF hL.2.2.2.1).2.2.2.2.2.2.2.2.2.2.2.2.2.2.1 hk, s_putAt (b := 175) (k := k) (q_outF hL.2.2.2.1).2.2.2.2.2.2.2.2.2.2.2.2.2.2.2.2.1 (q_outF hL.2.2.2.1).2.2.2.2.2.2.2.2.2.2.2.2.2.2.2.2.2 hk, q_put_ap, h2, k1]
    · intro i hi
      simp (disch := omega) only [m_up2_ne, q_put_ne, q_put_at]
      rcases Nat.lt_trichotomy i k with h | h | h
      · rw [w_ins_lt h, w_ins_lt h, w_ins_lt h]
        exact k3 i (by omega)
      · subst h
        rw [w_ins_eq, w_ins_eq, w_ins_eq]
        exact ⟨hp, hv⟩
      · rw [w_ins_gt h (by omega), w_ins_gt h (by omega), w_ins_gt h (by omega)]
        exact k3 (i - 1) (by omega)
    · intro i j hij hj
      rw [hF, hF]
      rcases Nat.lt_trichotomy j k with h | h | h
      · rw [w_ins_lt h, w_ins_lt h, w_ins_lt (show i < k by omega), w_ins_lt (show i < k by omega)]
        exact k4 i j hij (by omega)
      · subst h
        rw [w_ins_eq, w_ins_eq, w_ins_lt hij, w_ins_lt hij]
        exact d2 i hij
      · rw [w_ins_gt h (by omega), w_ins_gt h (by omega)]
        rcases Nat.lt_trichotomy i k with h' | h' | h'
        · rw [w_ins_lt h', w_ins_lt h']
          exact k4 i (j - 1) (by omega) (by omega)
        · subst h'
          rw [w_ins_eq, w_ins_eq]
          exact d3 (j - 1) (by omega) (by omega)
        · rw [w_ins_gt h' (by omega), w_ins_gt h' (by omega)]
          exact k4 (i - 1) (j - 1) (by omega) (by omega)
    · rw [m_up2_ne a1, q_put_ne a4, q_put_ne a3, q_put_ne a2]
    · rw [m_up2_nk (by omega), q_put_ne (by omega), q_put_ne (by omega), q_put_ne (by omega)]
    · constructor
      · rintro ⟨i, hi, hx⟩
        rw [hF] at hx
        rcases Nat.lt_trichotomy i k with h | h | h
        · rw [w_ins_lt h, w_ins_lt h] at hx
          exact Or.inl ⟨i, by omega, hx⟩
        · subst h
          rw [w_ins_eq, w_ins_eq] at hx
          exact Or.inr hx.symm
        · rw [w_ins_gt h (by omega), w_ins_gt h (by omega)] at hx
          exact Or.inl ⟨i - 1, by omega, hx⟩
      · rintro (⟨i, hi, hx⟩ | hx)
        · by_cases h : i < k
          · refine ⟨i, by omega, ?_⟩
            rw [hF, w_ins_lt h, w_ins_lt h]
            exact hx
          · refine ⟨i + 1, by omega, ?_⟩
            rw [hF, w_ins_gt (by omega) (by omega), w_ins_gt (by omega) (by omega)]
            exact hx
        · refine ⟨k, by omega, ?_⟩
          rw [hF, w_ins_eq, w_ins_eq]
          exact hx.symm
end
end
