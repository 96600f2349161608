section
/-! The class's calls: centers. -/
def y_cc (N : Nat → Nat → Int) : Prop := w_cn N ∧ 0 < w_ne N
section
variable {Z : mZ} {K : Nat → mK} {σ τ N M : Nat → Nat → Int} {R : Nat → Nat → Nat → Int} {e s g i L n c k : Nat} {t p q v b x y z w u S : Int} {X : Nat → Int}
theorem a_hasC (hL : q_lay K) (h : w_sv σ N t) : (y_cc N → m_cl Z 66 [(2, ((138 : Nat) : Int))] (K, σ, 191, e, s) = some (.inl (0, 1), (K, σ, 191, e, s))) ∧ (¬ y_cc N → m_cl Z 66 [(2, ((138 : Nat) : Int))] (K, σ, 191, e, s) = some (.inl (0, 0), (K, σ, 191, e, s))) := by
  have hh := s_hasCenters (Z := Z) (e := e) (s := s) (σ := σ) hL
  have hm := v_m h.2.2.2.1.1 h.1
  have vc : v_c σ N := h.2.2.2.2.1
  have e0 : w32 0 = 0 := by decide
  have e1 : w32 1 = 1 := by decide
  rw [hh, hm]
  constructor
  · rintro ⟨c1, c2⟩
    rw [vc.1 c1, e1, if_pos ⟨by decide, by clear hm e0 e1; omega⟩]
  · intro hn
    by_cases c1 : w_cn N
    · rw [if_neg (fun q => hn ⟨c1, by have := q.2; clear hm e0 e1; omega⟩)]
    · rw [vc.2 c1, e0, if_neg (fun q => q.1 rfl)]
theorem w_icBs {x5 : Int × Int × Int × Int × Int} (h : w_ic σ N R c X L k) : w_ic (q_bs σ x5) N R c X L k := w_icB h (fun a ha => q_bs_o (by omega)) (fun a h1 _ => q_bs_o (by omega)) (fun j hj => q_bs_n (by omega) (by omega) (by omega) (by omega) (by omega)) (q_bs_o (by omega)) (q_bs_o (by omega)) (q_bs_o (by omega))
theorem w_svBs {x5 : Int × Int × Int × Int × Int} (h : w_sv σ N t) : w_sv (q_bs σ x5) N t := w_svB (σ := σ) (τ := q_bs σ x5) (fun a h1 _ => q_bs_o (by omega)) (fun j hj => q_bs_n (by omega) (by omega) (by omega) (by omega) (by omega)) h
theorem w_bok (hw : q_wf N) (hc : w_cn N) (ht : 0 ≤ t) (ht2 : t ≤ 10) {V : wP → Int} {b : wP} (hb : w_best V (w_pts N t) b) : b.1 < w_ne N ∧ w_pq N t b.1 b.2.1 b.2.2 ∧ b.2.1 ≤ 50000 := by
  have := w_pts_ok hw hc ht ht2 hb.1
  exact ⟨this.1, this.2.1, this.2.2.2⟩
theorem a_seekC (hL : q_lay K) (h : w_sv σ N t) (hc : y_cc N) : ∃ b, w_best (w_Hv N t S) (w_pts N t) b ∧ m_cl Z 88 [(2, ((138 : Nat) : Int)), (0, S)] (K, σ, 191, e, s) = some (.inl (9, 0), (K, q_bs σ (w_x5 (w_Hv N t S) b), 191, e, s)) := by
  obtain ⟨hw, hf, ⟨ht, ht2⟩, hv, -, hp, -⟩ := h
  obtain ⟨x5, h1, h2, h3⟩ := s_seekC (Z := Z) (e := e) (s := s) (S := S) hL hv hw hc.1 ht ht2 (hp hc.1)
  obtain ⟨b, b1, b2⟩ := h3 (w_pts_ne hw hc.2)
  exact ⟨b, b1, by rw [← b2]; exact h1⟩
theorem a_seekM (hL : q_lay K) (h : w_sv σ N t) (hc : y_cc N) : ∃ b, w_best (w_Cv N t) (w_pts N t) b ∧ m_cl Z 89 [(2, ((138 : Nat) : Int))] (K, σ, 191, e, s) = some (.inl (9, 0), (K, q_bs σ (w_x5 (w_Cv N t) b), 191, e, s)) := by
  obtain ⟨hw, hf, ⟨ht, ht2⟩, hv, -, hp, -⟩ := h
  obtain ⟨x5, h1, h2, h3⟩ := s_seekM (Z := Z) (e := e) (s := s) hL hv hw hc.1 ht ht2 (hp hc.1)
  obtain ⟨b, b1, b2⟩ := h3 (w_pts_ne hw hc.2)
  exact ⟨b, b1, by rw [← b2]; exact h1⟩
theorem w_Hvb (hw : q_wf N) (hc : w_cn N) (ht : 0 ≤ t) (ht2 : t ≤ 10) {b : wP} (hb : b.1 < w_ne N ∧ w_pq N t b.1 b.2.1 b.2.2) : 0 ≤ w_Hv N t S b ∧ w_Hv N t S b ≤ 2147483647 := by
  have := w_Hb hw hc hb.1 hb.2 (S := S) (w_nn N) (Nat.le_refl _)
  unfold w_Hv
  omega
theorem w_Cvb (hw : q_wf N) (hc : w_cn N) (ht : 0 ≤ t) (ht2 : t ≤ 10) {b : wP} (hb : b.1 < w_ne N ∧ w_pq N t b.1 b.2.1 b.2.2) : 0 ≤ w_Cv N t b ∧ w_Cv N t b ≤ 2147483647 := by
  have := w_Cb hw hc hb.1 hb.2 (w_nn N) (Nat.le_refl _)
  have := (wf_n hw).2.2
  unfold w_Cv
  omega
/-- what is told of the best point -/
def y_bf (V : wP → Int) (b : wP) (w : Int) : Int := if w = 0 then (b.1 : Int) else if w = 1 then w_red b.2.1 b.2.2 0 else if w = 2 then w_red b.2.1 b.2.2 1 else if w = 3 then w_red (V b) b.2.2 0 else w_red (V b) b.2.2 1
theorem a_bf {V : wP → Int} {b : wP} (hL : q_lay K) (hq : 1 ≤ b.2.2 ∧ b.2.2 ≤ 1000) (hp : 0 ≤ b.2.1 ∧ b.2.1 ≤ 50000) (hV : 0 ≤ V b ∧ V b ≤ 2147483647) (hw0 : 0 ≤ w) (hw4 : w ≤ 4) : m_cl Z 143 [(2, ((0 : Nat) : Int)), (0, w)] (K, q_bs σ (w_x5 V b), 191, e, s) = some (.inl (0, y_bf V b w), (K, q_bs σ (w_x5 V b), 191, e, s)) := by
  have l1 := a_lowest (Z := Z) (h := (K, q_bs σ (w_x5 V b), 191, e, s)) (x := b.2.1) (y := b.2.2) (part := 0) hp.1 (by omega) hq.1 hq.2 (by decide)
  have l2 := a_lowest (Z := Z) (h := (K, q_bs σ (w_x5 V b), 191, e, s)) (x := b.2.1) (y := b.2.2) (part := 1) hp.1 (by omega) hq.1 hq.2 (by decide)
  have l3 := a_lowest (Z := Z) (h := (K, q_bs σ (w_x5 V b), 191, e, s)) (x := V b) (y := b.2.2) (part := 0) hV.1 hV.2 hq.1 hq.2 (by decide)
  have l4 := a_lowest (Z := Z) (h := (K, q_bs σ (w_x5 V b), 191, e, s)) (x := V b) (y := b.2.2) (part := 1) hV.1 hV.2 hq.1 hq.2 (by decide)
  have e2 : w32 2 = 2 := by decide
  have e3 : w32 3 = 3 := by decide
  have e4 : w32 4 = 4 := by decide
  rcases (show w = 0 ∨ w = 1 ∨ w = 2 ∨ w = 3 ∨ w = 4 by omega) with rfl | rfl | rfl | rfl | rfl
  · simp only [e_143, b_143_0, b_143_4, b_143_12, b_143_17, b_143_27, b_143_34, b_143_51, ↓reduceIte, Nat.reduceEqDiff, Nat.reduceMul, q_n10, q_n01, Option.bind_some, g_aft0, g_aft1, g_aft2, g_aft3, g_aft9, Nat.reduceAdd, m_kill_0, m_kill_2, m_kill_3, m_kill_4, m_kill_9, true_or, or_true, q_lm1, q_l0, q_l1, q_l2, q_l3, q_l4, q_l5, q_l6, q_l8, q_l9, q_l10, q_l12, q_l32, q_l50, q_l120, q_l122, q_l126, q_l372, q_l1000, q_l1000000, q_clsF hL.1, q_obF hL, q_bs_13]
    rfl
  · have t1 : (w32 (1 + 1)).tmod 2 = 0 := by decide
    have c1 : ¬ (1 : Int) = 0 := by decide
    have c2 : ¬ (3 : Int) ≤ 1 := by decide
    unfold w_x5 at l1 ⊢
    simp only [e_143, b_143_0, b_143_4, b_143_12, b_143_17, b_143_27, b_143_34, b_143_51, ↓reduceIte, Nat.reduceEqDiff, Nat.reduceMul, q_n10, q_n01, Option.bind_some, g_aft0, g_aft1, g_aft2, g_aft3, g_aft9, Nat.reduceAdd, m_kill_0, m_kill_2, m_kill_3, m_kill_4, m_kill_9, true_or, or_true, q_lm1, q_l0, q_l1, q_l2, q_l3, q_l4, q_l5, q_l6, q_l8, q_l9, q_l10, q_l12, q_l32, q_l50, q_l120, q_l122, q_l126, q_l372, q_l1000, q_l1000000, q_clsF hL.1, q_obF hL, q_n20, not_false_eq_true, q_bs_14, q_bs_15, c1, c2, t1, l1]
    rfl
  · have t1 : (w32 (2 + 1)).tmod 2 = 1 := by decide
    have c1 : ¬ (2 : Int) = 0 := by decide
    have c2 : ¬ (3 : Int) ≤ 2 := by decide
    unfold w_x5 at l2 ⊢
    simp only [e_143, b_143_0, b_143_4, b_143_12, b_143_17, b_143_27, b_143_34, b_143_51, ↓reduceIte, Nat.reduceEqDiff, Nat.reduceMul, q_n10, q_n01, Option.bind_some, g_aft0, g_aft1, g_aft2, g_aft3, g_aft9, Nat.reduceAdd, m_kill_0, m_kill_2, m_kill_3, m_kill_4, m_kill_9, true_or, or_true, q_lm1, q_l0, q_l1, q_l2, q_l3, q_l4, q_l5, q_l6, q_l8, q_l9, q_l10, q_l12, q_l32, q_l50, q_l120, q_l122, q_l126, q_l372, q_l1000, q_l1000000, q_clsF hL.1, q_obF hL, q_n20, not_false_eq_true, q_bs_14, q_bs_15, c1, c2, t1, l2]
    rfl
  · have t1 : (w32 (3 + 1)).tmod 2 = 0 := by decide
    have c1 : ¬ (3 : Int) = 0 := by decide
    have c2 : (3 : Int) ≤ 3 := by decide
    unfold w_x5 at l3 ⊢
    simp only [e_143, b_143_0, b_143_4, b_143_12, b_143_17, b_143_27, b_143_34, b_143_51, ↓reduceIte, Nat.reduceEqDiff, Nat.reduceMul, q_n10, q_n01, Option.bind_some, g_aft0, g_aft1, g_aft2, g_aft3, g_aft9, Nat.reduceAdd, m_kill_0, m_kill_2, m_kill_3, m_kill_4, m_kill_9, true_or, or_true, q_lm1, q_l0, q_l1, q_l2, q_l3, q_l4, q_l5, q_l6, q_l8, q_l9, q_l10, q_l12, q_l32, q_l50, q_l120, q_l122, q_l126, q_l372, q_l1000, q_l1000000, q_clsF hL.1, q_obF hL, q_n20, not_false_eq_true, q_bs_14, q_bs_15, q_bs_16, c1, c2, t1, l3]
    rfl
  · have t1 : (w32 (4 + 1)).tmod 2 = 1 := by decide
    have c1 : ¬ (4 : Int) = 0 := by decide
    have c2 : (3 : Int) ≤ 4 := by decide
    unfold w_x5 at l4 ⊢
    simp only [e_143, b_143_0, b_143_4, b_143_12, b_143_17, b_143_27, b_143_34, b_143_51, ↓reduceIte, Nat.reduceEqDiff, Nat.reduceMul, q_n10, q_n01, Option.bind_some, g_aft0, g_aft1, g_aft2, g_aft3, g_aft9, Nat.reduceAdd, m_kill_0, m_kill_2, m_kill_3, m_kill_4, m_kill_9, true_or, or_true, q_lm1, q_l0, q_l1, q_l2, q_l3, q_l4, q_l5, q_l6, q_l8, q_l9, q_l10, q_l12, q_l32, q_l50, q_l120, q_l122, q_l126, q_l372, q_l1000, q_l1000000, q_clsF hL.1, q_obF hL, q_n20, not_false_eq_true, q_bs_14, q_bs_15, q_bs_16, c1, c2, t1, l4]
    rfl
end
end
