section
/-! The survey measures, going on. -/
theorem q_cV2 {K : Nat → mK} {σ τ : Nat → Nat → Int} {e s : Nat} {Z : mZ} {m pc : Nat} {ls st : List mV} (h : σ = τ) : m_run Z (m, pc, ls, st, (K, σ, 191, e, s)) = m_run Z (m, pc, ls, st, (K, τ, 191, e, s)) := by rw [h]
section
variable {Z : mZ} {K : Nat → mK} {σ N : Nat → Nat → Int} {e s g i : Nat} {t p q : Int}
theorem s_mtE {T : Nat → Int} (hL : q_lay K) (ht : nAt σ 139 N) (hw : q_wf N) (hT : ∀ a b, a < 8 → b < 8 → T (8 * a + b) = d_in 1000000 N 0 a b) : ∃ y : (Nat → Int) × mV × mV, m_run Z (72, 39, [(2, ((138 : Nat) : Int)), (0, ((0 : Nat) : Int)), (9, 0), (9, 0)], [], (K, q_put σ 159 T, 191, e, s)) = m_run Z (72, 39, [(2, ((138 : Nat) : Int)), (0, (w_ne N : Int)), y.2.1, y.2.2], [], (K, q_put σ 159 y.1, 191, e, s)) ∧ ∀ a b, a < 8 → b < 8 → y.1 (8 * a + b) = d_in 1000000 N (w_ne N) a b := by
  have hm := v_m ht hw
  have n8 := (wf_n hw).2.2
  have m12 := (wf_e hw).2
  exact q_loop (Z := Z) (N := w_ne N) (S := fun i (x : (Nat → Int) × mV × mV) => (72, 39, [(2, ((138 : Nat) : Int)), (0, (i : Int)), x.2.1, x.2.2], [], (K, q_put σ 159 x.1, 191, e, s))) (P := fun i x => ∀ a b, a < 8 → b < 8 → x.1 (8 * a + b) = d_in 1000000 N i a b) (by
    intro i x hi hx
    have w0 : w32 (i : Int) = (i : Int) := q_w (by omega)
    have e1 : (((i + 1 : Nat)) : Int) = (i : Int) + 1 := by omega
    have c0 : ¬ (w_ne N : Int) ≤ (i : Int) := by omega
    obtain ⟨f1, f2, f3, f4, f5, f6, f7⟩ := wf_ed hw hi
    generalize hu : w_f N i = u at *
    generalize hv : w_s N i = v at *
    have g1 : ∀ y, q_get (q_put σ 159 y) 145 12 (i : Int) = (u : Int) := by
      intro y
      rw [q_get_nat (by omega) (by omega), q_put_ne (by omega), ← f1]
      exact ht 6 i (by rw [q_len2]; simp; omega)
    have g2 : ∀ y, q_get (q_put σ 159 y) 147 12 (i : Int) = (v : Int) := by
      intro y
      rw [q_get_nat (by omega) (by omega), q_put_ne (by omega), ← f2]
      exact ht 8 i (by rw [q_len2]; simp; omega)
    have g3 : ∀ y, q_get (q_put σ 159 y) 149 12 (i : Int) = N 10 i := by
      intro y
      rw [q_get_nat (by omega) (by omega), q_put_ne (by omega)]
      exact ht 10 i (by rw [q_len2]; simp; omega)
    have r4 : ∀ y z, q_set (q_put σ 159 y) 159 64 ((u : Int) * 8 + (v : Int)) z = q_put σ 159 (m_up y (8 * u + v) z) := by
      intro y z
      rw [q_set_ix (8 * u + v) (by omega) (by omega) (by omega), q_put_at, q_put_put]
    have r5 : ∀ y z, q_set (q_put σ 159 y) 159 64 ((v : Int) * 8 + (u : Int)) z = q_put σ 159 (m_up y (8 * v + u) z) := by
      intro y z
      rw [q_set_ix (8 * v + u) (by omega) (by omega) (by omega), q_put_at, q_put_put]
    refine ⟨(m_up (m_up x.1 (8 * u + v) (N 10 i)) (8 * v + u) (N 10 i), (0, (u : Int)), (0, (v : Int))), ?_, ?_⟩
    · conv => lhs; simp only [b_72_39, ↓reduceIte, Nat.reduceEqDiff, Nat.reduceMul, q_n10, q_n01, Option.bind_some, g_aft0, g_aft1, g_aft2, g_aft3, g_aft9, Nat.reduceAdd, m_kill_0, m_kill_2, m_kill_3, m_kill_4, m_kill_9, true_or, or_true, q_lm1, q_l0, q_l1, q_l2, q_l3, q_l4, q_l5, q_l6, q_l8, q_l9, q_l10, q_l12, q_l32, q_l50, q_l120, q_l122, q_l126, q_l372, q_l1000, q_l1000000, q_surF hL.2.2.1, q_tkF hL.2.1, q_put_ap, hm, w0, c0]
      simp only [b_72_0, b_72_9, b_72_17, b_72_31, b_72_37, b_72_50, b_72_61, b_72_73, b_72_89, b_72_92, b_72_107, b_72_110, b_72_116, b_72_129, b_72_134, b_72_140, b_72_158, b_72_166, b_72_172, b_72_177, b_72_181, b_72_182, b_72_191, ↓reduceIte, Nat.reduceEqDiff, Nat.reduceMul, q_n10, q_n01, Option.bind_some, g_aft0, g_aft1, g_aft2, g_aft3, g_aft9, Nat.reduceAdd, m_kill_0, m_kill_2, m_kill_3, m_kill_4, m_kill_9, true_or, or_true, q_lm1, q_l0, q_l1, q_l2, q_l3, q_l4, q_l5, q_l6, q_l8, q_l9, q_l10, q_l12, q_l32, q_l50, q_l120, q_l122, q_l126, q_l372, q_l1000, q_l1000000, q_surF hL.2.2.1, q_tkF hL.2.1, r_set, r_get, g1, g2, s_lengthOf hL, g3, r4, r5, e1]
    · intro a b ha hb
      try dsimp only
      unfold d_in
      rw [hu, hv]
      by_cases c1 : a = v ∧ b = u
      · obtain ⟨rfl, rfl⟩ := c1
        rw [m_up_at, if_pos (by omega)]
      · by_cases c2 : a = u ∧ b = v
        · obtain ⟨rfl, rfl⟩ := c2
          rw [m_up_ne (by omega), m_up_at, if_pos (by omega)]
        · rw [m_up_ne (by omega), m_up_ne (by omega), if_neg (by omega)]
          exact hx a b ha hb) (w_ne N) 0 (T, (9, 0), (9, 0)) (by omega) hT
theorem s_mtab (hL : q_lay K) (ht : nAt σ 139 N) (hw : q_wf N) : ∃ T l2 l3, m_cl Z 72 [(2, ((138 : Nat) : Int))] (K, σ, 191, e, s) = m_run Z (72, 140, [(2, ((138 : Nat) : Int)), (0, (w_nn N : Int)), l2, l3], [], (K, q_put σ 159 T, 191, e, s)) ∧ ∀ a b, a < w_nn N → b < w_nn N → T (8 * a + b) = w_D N a b := by
  have hn := v_n ht hw
  have hm := v_m ht hw
  have n8 := (wf_n hw).2.2
  have m12 := (wf_e hw).2
  -- the diagonal
  obtain ⟨y1, h1, p1⟩ := q_loop (Z := Z) (N := 8) (S := fun i (x : Nat → Int) => (72, 11, [(2, ((138 : Nat) : Int)), (0, (i : Int)), (9, 0), (9, 0)], [], (K, q_put σ 159 x, 191, e, s))) (P := fun i x => ∀ a b, a < 8 → b < 8 → x (8 * a + b) = if a = b ∧ a < i then 0 else 1000000) (by
    intro i x hi hx
    have w0 : w32 (i : Int) = (i : Int) := q_w (by omega)
    have e1 : (((i + 1 : Nat)) : Int) = (i : Int) + 1 := by omega
    have c0 : ¬ (8 : Int) ≤ (i : Int) := by omega
    have r4 : q_set (q_put σ 159 x) 159 64 ((i : Int) * 8 + (i : Int)) 0 = q_put σ 159 (m_up x (8 * i + i) 0) := by
      rw [q_set_ix (8 * i + i) (by omega) (by omega) (by omega), q_put_at, q_put_put]
    refine ⟨m_up x (8 * i + i) 0, ?_, ?_⟩
    · conv => lhs; simp only [b_72_11, ↓reduceIte, Nat.reduceEqDiff, Nat.reduceMul, q_n10, q_n01, Option.bind_some, g_aft0, g_aft1, g_aft2, g_aft3, g_aft9, Nat.reduceAdd, m_kill_0, m_kill_2, m_kill_3, m_kill_4, m_kill_9, true_or, or_true, q_lm1, q_l0, q_l1, q_l2, q_l3, q_l4, q_l5, q_l6, q_l8, q_l9, q_l10, q_l12, q_l32, q_l50, q_l120, q_l122, q_l126, q_l372, q_l1000, q_l1000000, w0, c0]
      simp only [b_72_0, b_72_9, b_72_17, b_72_31, b_72_37, b_72_50, b_72_61, b_72_73, b_72_89, b_72_92, b_72_107, b_72_110, b_72_116, b_72_129, b_72_134, b_72_140, b_72_158, b_72_166, b_72_172, b_72_177, b_72_181, b_72_182, b_72_191, ↓reduceIte, Nat.reduceEqDiff, Nat.reduceMul, q_n10, q_n01, Option.bind_some, g_aft0, g_aft1, g_aft2, g_aft3, g_aft9, Nat.reduceAdd, m_kill_0, m_kill_2, m_kill_3, m_kill_4, m_kill_9, true_or, or_true, q_lm1, q_l0, q_l1, q_l2, q_l3, q_l4, q_l5, q_l6, q_l8, q_l9, q_l10, q_l12, q_l32, q_l50, q_l120, q_l122, q_l126, q_l372, q_l1000, q_l1000000, q_surF hL.2.2.1, q_tkF hL.2.1, r_set, r4, e1]
    · intro a b ha hb
      by_cases c2 : a = i ∧ b = i
      · obtain ⟨rfl, rfl⟩ := c2
        rw [m_up_at, if_pos (by omega)]
      · rw [m_up_ne (by omega), hx a b ha hb]
        by_cases c3 : a = b ∧ a < i
        · rw [if_pos c3, if_pos (by omega)]
        · rw [if_neg c3, if_neg (by omega)]) 8 0 (fun j => if j < 64 then 1000000 else σ 159 j) (by omega) (by
    intro a b ha hb
    rw [if_neg (by omega)]
    exact if_pos (by omega))
  -- the edges
  obtain ⟨y2, h2, p2⟩ := s_mtE (Z := Z) (e := e) (s := s) (T := y1) hL ht hw (by
    intro a b ha hb
    try dsimp only
    rw [p1 a b ha hb]
    unfold d_in
    by_cases c : a = b
    · rw [if_pos (by omega), if_pos c]
    · rw [if_neg (by omega), if_neg c])
  -- shortening
  obtain ⟨y3, h3, p3⟩ := q_loop (Z := Z) (N := w_nn N) (S := fun i (x : Nat → Int) => (72, 118, [(2, ((138 : Nat) : Int)), (0, (i : Int)), y2.2.1, y2.2.2], [], (K, q_put σ 159 x, 191, e, s))) (P := fun i x => ∀ a b, a < w_nn N → b < w_nn N → x (8 * a + b) = d_fw 1000000 N i a b) (by
    intro i x hi hx
    have w0 : w32 (i : Int) = (i : Int) := q_w (by omega)
    have e1 : (((i + 1 : Nat)) : Int) = (i : Int) + 1 := by omega
    have c0 : ¬ (w_nn N : Int) ≤ (i : Int) := by omega
    obtain ⟨T, t1, t2⟩ := s_short (Z := Z) (σ := q_put σ 159 x) (e := e) (s := s) hL (nAt_fr ht (fun y _ _ => q_put_ne (by omega))) hw hi (fun a b ha hb => by rw [q_put_at]; exact hx a b ha hb)
    rw [q_put_put] at t1
    refine ⟨T, ?_, t2⟩
    conv => lhs; simp only [b_72_118, ↓reduceIte, Nat.reduceEqDiff, Nat.reduceMul, q_n10, q_n01, Option.bind_some, g_aft0, g_aft1, g_aft2, g_aft3, g_aft9, Nat.reduceAdd, m_kill_0, m_kill_2, m_kill_3, m_kill_4, m_kill_9, true_or, or_true, q_lm1, q_l0, q_l1, q_l2, q_l3, q_l4, q_l5, q_l6, q_l8, q_l9, q_l10, q_l12, q_l32, q_l50, q_l120, q_l122, q_l126, q_l372, q_l1000, q_l1000000, q_surF hL.2.2.1, q_tkF hL.2.1, q_put_ap, hn, w0, c0]
    simp only [b_72_0, b_72_9, b_72_17, b_72_31, b_72_37, b_72_50, b_72_61, b_72_73, b_72_89, b_72_92, b_72_107, b_72_110, b_72_116, b_72_129, b_72_134, b_72_140, b_72_158, b_72_166, b_72_172, b_72_177, b_72_181, b_72_182, b_72_191, ↓reduceIte, Nat.reduceEqDiff, Nat.reduceMul, q_n10, q_n01, Option.bind_some, g_aft0, g_aft1, g_aft2, g_aft3, g_aft9, Nat.reduceAdd, m_kill_0, m_kill_2, m_kill_3, m_kill_4, m_kill_9, true_or, or_true, q_lm1, q_l0, q_l1, q_l2, q_l3, q_l4, q_l5, q_l6, q_l8, q_l9, q_l10, q_l12, q_l32, q_l50, q_l120, q_l122, q_l126, q_l372, q_l1000, q_l1000000, q_surF hL.2.2.1, q_tkF hL.2.1, t1, e1]) (w_nn N) 0 y2.1 (by omega) (fun a b ha hb => p2 a b (by omega) (by omega))
  refine ⟨y3, y2.2.1, y2.2.2, ?_, p3⟩
  have w8 : w32 ((8 : Nat) : Int) = 8 := by decide
  have w9 : w32 (w_nn N : Int) = (w_nn N : Int) := q_w (by omega)
  have w7 : w32 (w_ne N : Int) = (w_ne N : Int) := q_w (by omega)
  rw [e_72]
  simp only [b_72_0, b_72_9, ↓reduceIte, Nat.reduceEqDiff, Nat.reduceMul, q_n10, q_n01, Option.bind_some, g_aft0, g_aft1, g_aft2, g_aft3, g_aft9, Nat.reduceAdd, m_kill_0, m_kill_2, m_kill_3, m_kill_4, m_kill_9, true_or, or_true, q_lm1, q_l0, q_l1, q_l2, q_l3, q_l4, q_l5, q_l6, q_l8, q_l9, q_l10, q_l12, q_l32, q_l50, q_l120, q_l122, q_l126, q_l372, q_l1000, q_l1000000, q_surF hL.2.2.1, q_tkF hL.2.1, r_fill]
  rw [q_fill_put]
  refine h1.trans ?_
  conv => lhs; simp only [b_72_11, ↓reduceIte, Nat.reduceEqDiff, Nat.reduceMul, q_n10, q_n01, Option.bind_some, g_aft0, g_aft1, g_aft2, g_aft3, g_aft9, Nat.reduceAdd, m_kill_0, m_kill_2, m_kill_3, m_kill_4, m_kill_9, true_or, or_true, q_lm1, q_l0, q_l1, q_l2, q_l3, q_l4, q_l5, q_l6, q_l8, q_l9, q_l10, q_l12, q_l32, q_l50, q_l120, q_l122, q_l126, q_l372, q_l1000, q_l1000000, w8, b_72_37, Int.le_refl]
  refine h2.trans ?_
  conv => lhs; simp only [b_72_39, b_72_116, ↓reduceIte, Nat.reduceEqDiff, Nat.reduceMul, q_n10, q_n01, Option.bind_some, g_aft0, g_aft1, g_aft2, g_aft3, g_aft9, Nat.reduceAdd, m_kill_0, m_kill_2, m_kill_3, m_kill_4, m_kill_9, true_or, or_true, q_lm1, q_l0, q_l1, q_l2, q_l3, q_l4, q_l5, q_l6, q_l8, q_l9, q_l10, q_l12, q_l32, q_l50, q_l120, q_l122, q_l126, q_l372, q_l1000, q_l1000000, q_surF hL.2.2.1, q_tkF hL.2.1, q_put_ap, hm, w7, Int.le_refl]
  refine h3.trans ?_
  conv => lhs; simp only [b_72_118, ↓reduceIte, Nat.reduceEqDiff, Nat.reduceMul, q_n10, q_n01, Option.bind_some, g_aft0, g_aft1, g_aft2, g_aft3, g_aft9, Nat.reduceAdd, m_kill_0, m_kill_2, m_kill_3, m_kill_4, m_kill_9, true_or, or_true, q_lm1, q_l0, q_l1, q_l2, q_l3, q_l4, q_l5, q_l6, q_l8, q_l9, q_l10, q_l12, q_l32, q_l50, q_l120, q_l122, q_l126, q_l372, q_l1000, q_l1000000, q_surF hL.2.2.1, q_tkF hL.2.1, q_put_ap, hn, w9, Int.le_refl]
theorem s_mnodes (hL : q_lay K) (ht : nAt σ 139 N) (hw : q_wf N) : ∃ T c, m_cl Z 72 [(2, ((138 : Nat) : Int))] (K, σ, 191, e, s) = some (.inl (9, 0), (K, m_up2 (q_put σ 159 T) 138 3 c, 191, e, s)) ∧ (∀ a b, a < w_nn N → b < w_nn N → T (8 * a + b) = w_D N a b) ∧ (w_cn N → c = 1) ∧ (¬ w_cn N → c = 0) := by
  have hn := v_n ht hw
  have n8 := (wf_n hw).2.2
  have n1 := (wf_n hw).2.1
  have w9 : w32 (w_nn N : Int) = (w_nn N : Int) := q_w (by omega)
  obtain ⟨T, l2, l3, h1, h2⟩ := s_mtab (Z := Z) (e := e) (s := s) hL ht hw
  obtain ⟨y, h3, h4⟩ := q_loop (Z := Z) (N := w_nn N) (S := fun i (x : Int) => (72, 147, [(2, ((138 : Nat) : Int)), (0, (i : Int)), l2, l3], [], (K, m_up2 (q_put σ 159 T) 138 3 x, 191, e, s))) (P := fun i x => (x = 0 ∨ x = 1) ∧ (x = 1 ↔ ∀ j, j < i → w_D N 0 j < 1000000)) (by
    intro i x hi hx
    obtain ⟨x1, x2⟩ := hx
    have w0 : w32 (i : Int) = (i : Int) := q_w (by omega)
    have wx : w32 x = x := q_wi (by omega) (by omega)
    have e1 : (((i + 1 : Nat)) : Int) = (i : Int) + 1 := by omega
    have c0 : ¬ (w_nn N : Int) ≤ (i : Int) := by omega
    have d1 := w_D_b hw 0 i
    have r1 : ∀ v, q_get (m_up2 (q_put σ 159 T) 138 3 v) 159 64 (0 * 8 + (i : Int)) = w_D N 0 i := by
      intro v
      rw [q_get_ix (8 * 0 + i) (by omega) (by omega) (by omega), m_up2_ne (by omega), q_put_at]
      exact h2 0 i (by omega) hi
    have wd : w32 (w_D N 0 i) = w_D N 0 i := q_wB (by omega) (by omega)
    have z1 : ∀ v w, m_up2 (m_up2 (q_put σ 159 T) 138 3 v) 138 3 w = m_up2 (q_put σ 159 T) 138 3 w := by
      intro v w
      funext a j
      unfold m_up2
      split <;> simp_all
    have hk : ∀ y : Int, m_run Z (72, 147, [(2, ((138 : Nat) : Int)), (0, (i : Int)), l2, l3], [], (K, m_up2 (q_put σ 159 T) 138 3 x, 191, e, s)) = m_run Z (72, 158, [(2, ((138 : Nat) : Int)), (0, (i : Int)), l2, l3], [], (K, m_up2 (q_put σ 159 T) 138 3 x, 191, e, s)) := by
      intro _
      simp only [b_72_147, ↓reduceIte, Nat.reduceEqDiff, Nat.reduceMul, q_n10, q_n01, Option.bind_some, g_aft0, g_aft1, g_aft2, g_aft3, g_aft9, Nat.reduceAdd, m_kill_0, m_kill_2, m_kill_3, m_kill_4, m_kill_9, true_or, or_true, q_lm1, q_l0, q_l1, q_l2, q_l3, q_l4, q_l5, q_l6, q_l8, q_l9, q_l10, q_l12, q_l32, q_l50, q_l120, q_l122, q_l126, q_l372, q_l1000, q_l1000000, q_surF hL.2.2.1, q_tkF hL.2.1, q_put_ap, hn, w0, c0, m_up2_ne (show (139 : Nat) ≠ 138 by omega)]
    have ia : ∀ P : Prop, (∀ j, j < i + 1 → w_D N 0 j < 1000000) ↔ (∀ j, j < i → w_D N 0 j < 1000000) ∧ w_D N 0 i < 1000000 := by
      intro _
      constructor
      · intro h
        exact ⟨fun j hj => h j (by omega), h i (by omega)⟩
      · rintro ⟨h, h'⟩ j hj
        rcases Nat.lt_succ_iff_lt_or_eq.mp hj with c | c
        · exact h j c
        · rw [c]; exact h'
    by_cases c1 : x = 0
    · refine ⟨0, ?_, Or.inl rfl, ?_⟩
      · refine (hk 0).trans ?_
        subst c1
        simp only [b_72_0, b_72_9, b_72_17, b_72_31, b_72_37, b_72_50, b_72_61, b_72_73, b_72_89, b_72_92, b_72_107, b_72_110, b_72_116, b_72_129, b_72_134, b_72_140, b_72_158, b_72_166, b_72_172, b_72_177, b_72_181, b_72_182, b_72_191, ↓reduceIte, Nat.reduceEqDiff, Nat.reduceMul, q_n10, q_n01, Option.bind_some, g_aft0, g_aft1, g_aft2, g_aft3, g_aft9, Nat.reduceAdd, m_kill_0, m_kill_2, m_kill_3, m_kill_4, m_kill_9, true_or, or_true, q_lm1, q_l0, q_l1, q_l2, q_l3, q_l4, q_l5, q_l6, q_l8, q_l9, q_l10, q_l12, q_l32, q_l50, q_l120, q_l122, q_l126, q_l372, q_l1000, q_l1000000, q_surF hL.2.2.1, q_tkF hL.2.1, m_up2_at, z1, e1, true_or]
      · rw [ia True, ← x2]
        omega
    · have c1' : x = 1 := by omega
      by_cases c2 : w_D N 0 i < 1000000
      · refine ⟨1, ?_, Or.inr rfl, ?_⟩
        · refine (hk 0).trans ?_
          simp only [b_72_0, b_72_9, b_72_17, b_72_31, b_72_37, b_72_50, b_72_61, b_72_73, b_72_89, b_72_92, b_72_107, b_72_110, b_72_116, b_72_129, b_72_134, b_72_140, b_72_158, b_72_166, b_72_172, b_72_177, b_72_181, b_72_182, b_72_191, ↓reduceIte, Nat.reduceEqDiff, Nat.reduceMul, q_n10, q_n01, Option.bind_some, g_aft0, g_aft1, g_aft2, g_aft3, g_aft9, Nat.reduceAdd, m_kill_0, m_kill_2, m_kill_3, m_kill_4, m_kill_9, true_or, or_true, q_lm1, q_l0, q_l1, q_l2, q_l3, q_l4, q_l5, q_l6, q_l8, q_l9, q_l10, q_l12, q_l32, q_l50, q_l120, q_l122, q_l126, q_l372, q_l1000, q_l1000000, q_surF hL.2.2.1, q_tkF hL.2.1, m_up2_at, wx, c1, s_between hL, r1, wd, Int.not_le.mpr c2, z1, e1, or_true]
        · rw [ia True, ← x2]
          exact ⟨fun _ => ⟨c1', c2⟩, fun _ => rfl⟩
      · refine ⟨0, ?_, Or.inl rfl, ?_⟩
        · refine (hk 0).trans ?_
          simp only [b_72_0, b_72_9, b_72_17, b_72_31, b_72_37, b_72_50, b_72_61, b_72_73, b_72_89, b_72_92, b_72_107, b_72_110, b_72_116, b_72_129, b_72_134, b_72_140, b_72_158, b_72_166, b_72_172, b_72_177, b_72_181, b_72_182, b_72_191, ↓reduceIte, Nat.reduceEqDiff, Nat.reduceMul, q_n10, q_n01, Option.bind_some, g_aft0, g_aft1, g_aft2, g_aft3, g_aft9, Nat.reduceAdd, m_kill_0, m_kill_2, m_kill_3, m_kill_4, m_kill_9, true_or, or_true, q_lm1, q_l0, q_l1, q_l2, q_l3, q_l4, q_l5, q_l6, q_l8, q_l9, q_l10, q_l12, q_l32, q_l50, q_l120, q_l122, q_l126, q_l372, q_l1000, q_l1000000, q_surF hL.2.2.1, q_tkF hL.2.1, m_up2_at, wx, c1, s_between hL, r1, wd, Int.not_lt.mp c2, z1, e1, true_or]
        · rw [ia True, ← x2]
          exact ⟨fun h => absurd h (by omega), fun h => absurd h.2 c2⟩) (w_nn N) 0 1 (by omega) ⟨Or.inr rfl, ⟨fun _ j hj => absurd hj (by omega), fun _ => rfl⟩⟩
  refine ⟨T, y, ?_, h2, fun hc => h4.2.mpr hc, fun hc => ?_⟩
  · rw [h1]
    simp only [b_72_140, ↓reduceIte, Nat.reduceEqDiff, Nat.reduceMul, q_n10, q_n01, Option.bind_some, g_aft0, g_aft1, g_aft2, g_aft3, g_aft9, Nat.reduceAdd, m_kill_0, m_kill_2, m_kill_3, m_kill_4, m_kill_9, true_or, or_true, q_lm1, q_l0, q_l1, q_l2, q_l3, q_l4, q_l5, q_l6, q_l8, q_l9, q_l10, q_l12, q_l32, q_l50, q_l120, q_l122, q_l126, q_l372, q_l1000, q_l1000000, q_surF hL.2.2.1, q_tkF hL.2.1, or_true]
    refine h3.trans ?_
    simp only [b_72_147, b_72_191, ↓reduceIte, Nat.reduceEqDiff, Nat.reduceMul, q_n10, q_n01, Option.bind_some, g_aft0, g_aft1, g_aft2, g_aft3, g_aft9, Nat.reduceAdd, m_kill_0, m_kill_2, m_kill_3, m_kill_4, m_kill_9, true_or, or_true, q_lm1, q_l0, q_l1, q_l2, q_l3, q_l4, q_l5, q_l6, q_l8, q_l9, q_l10, q_l12, q_l32, q_l50, q_l120, q_l122, q_l126, q_l372, q_l1000, q_l1000000, q_surF hL.2.2.1, q_tkF hL.2.1, q_put_ap, hn, w9, Int.le_refl, m_up2_ne (show (139 : Nat) ≠ 138 by omega)]
  · rcases h4.1 with h | h
    · exact h
    · exact absurd (h4.2.mp h) hc
theorem s_medges (hL : q_lay K) (ht : nAt σ 139 N) (hv : v_d σ N) (hw : q_wf N) : ∃ A B, m_cl Z 74 [(2, ((138 : Nat) : Int))] (K, σ, 191, e, s) = some (.inl (9, 0), (K, q_put (q_put σ 161 A) 163 B, 191, e, s)) ∧ ∀ g i, g < w_ne N → i < w_nn N → A (8 * g + i) = w_o N g i ∧ B (8 * g + i) = w_b N g i := by
  have hn := v_n ht hw
  have hm := v_m ht hw
  have n8 := (wf_n hw).2.2
  have m12 := (wf_e hw).2
  have w9 : w32 (w_nn N : Int) = (w_nn N : Int) := q_w (by omega)
  have w7 : w32 (w_ne N : Int) = (w_ne N : Int) := q_w (by omega)
  have inner : ∀ g, g < w_ne N → ∀ (x : (Nat → Int) × (Nat → Int)), (∀ h i, h < g → i < w_nn N → x.1 (8 * h + i) = w_o N h i ∧ x.2 (8 * h + i) = w_b N h i) → ∃ y : (Nat → Int) × (Nat → Int), m_run Z (74, 15, [(2, ((138 : Nat) : Int)), (0, (g : Int)), (0, ((0 : Nat) : Int))], [], (K, q_put (q_put σ 161 x.1) 163 x.2, 191, e, s)) = m_run Z (74, 15, [(2, ((138 : Nat) : Int)), (0, (g : Int)), (0, (w_nn N : Int))], [], (K, q_put (q_put σ 161 y.1) 163 y.2, 191, e, s)) ∧ ∀ h i, (h < g ∧ i < w_nn N) ∨ (h = g ∧ i < w_nn N) → y.1 (8 * h + i) = w_o N h i ∧ y.2 (8 * h + i) = w_b N h i := by
    intro g hg x hx
    refine q_loop (Z := Z) (N := w_nn N) (S := fun i (x : (Nat → Int) × (Nat → Int)) => (74, 15, [(2, ((138 : Nat) : Int)), (0, (g : Int)), (0, (i : Int))], [], (K, q_put (q_put σ 161 x.1) 163 x.2, 191, e, s))) (P := fun k x => ∀ h i, (h < g ∧ i < w_nn N) ∨ (h = g ∧ i < k) → x.1 (8 * h + i) = w_o N h i ∧ x.2 (8 * h + i) = w_b N h i) ?_ (w_nn N) 0 x (by omega) ?_
    · intro i x hi hx
      have w0 : w32 (i : Int) = (i : Int) := q_w (by omega)
      have e1 : (((i + 1 : Nat)) : Int) = (i : Int) + 1 := by omega
      have c0 : ¬ (w_nn N : Int) ≤ (i : Int) := by omega
      obtain ⟨f1, f2, f3, f4, f5, f6, f7⟩ := wf_ed hw hg
      have g1 : ∀ A B, q_get (q_put (q_put σ 161 A) 163 B) 145 12 (g : Int) = (w_f N g : Int) := by
        intro A B
        rw [q_get_nat (by omega) (by omega), q_put_ne (by omega), q_put_ne (by omega), ← f1]
        exact ht 6 g (by rw [q_len2]; simp; omega)
      have g2 : ∀ A B, q_get (q_put (q_put σ 161 A) 163 B) 147 12 (g : Int) = (w_s N g : Int) := by
        intro A B
        rw [q_get_nat (by omega) (by omega), q_put_ne (by omega), q_put_ne (by omega), ← f2]
        exact ht 8 g (by rw [q_len2]; simp; omega)
      have g3 : ∀ A B, q_get (q_put (q_put σ 161 A) 163 B) 149 12 (g : Int) = N 10 g := by
        intro A B
        rw [q_get_nat (by omega) (by omega), q_put_ne (by omega), q_put_ne (by omega)]
        exact ht 10 g (by rw [q_len2]; simp; omega)
      have r1 : ∀ A B, q_get (q_put (q_put σ 161 A) 163 B) 159 64 ((i : Int) * 8 + (w_f N g : Int)) = w_o N g i := by
        intro A B
        rw [q_get_ix (8 * i + w_f N g) (by omega) (by omega) (by omega), q_put_ne (by omega), q_put_ne (by omega)]
        exact hv i _ hi f3
      have r2 : ∀ A B, q_get (q_put (q_put σ 161 A) 163 B) 159 64 ((i : Int) * 8 + (w_s N g : Int)) = w_D N i (w_s N g) := by
        intro A B
        rw [q_get_ix (8 * i + w_s N g) (by omega) (by omega) (by omega), q_put_ne (by omega), q_put_ne (by omega)]
        exact hv i _ hi f4
      have r4 : ∀ A B v, q_set (q_put (q_put σ 161 A) 163 B) 161 96 ((g : Int) * 8 + (i : Int)) v = q_put (q_put σ 161 (m_up A (8 * g + i) v)) 163 B := by
        intro A B v
        rw [q_set_ix (8 * g + i) (by omega) (by omega) (by omega), q_put_ne (by omega), q_put_at, q_put_comm (by omega), q_put_put]
      have r5 : ∀ A B v, q_set (q_put (q_put σ 161 A) 163 B) 163 96 ((g : Int) * 8 + (i : Int)) v = q_put (q_put σ 161 A) 163 (m_up B (8 * g + i) v) := by
        intro A B v
        rw [q_set_ix (8 * g + i) (by omega) (by omega) (by omega), q_put_at, q_put_put]
      refine ⟨(m_up x.1 (8 * g + i) (w_o N g i), m_up x.2 (8 * g + i) (w_b N g i)), ?_, ?_⟩
      · conv => lhs; simp only [b_74_15, ↓reduceIte, Nat.reduceEqDiff, Nat.reduceMul, q_n10, q_n01, Option.bind_some, g_aft0, g_aft1, g_aft2, g_aft3, g_aft9, Nat.reduceAdd, m_kill_0, m_kill_2, m_kill_3, m_kill_4, m_kill_9, true_or, or_true, q_lm1, q_l0, q_l1, q_l2, q_l3, q_l4, q_l5, q_l6, q_l8, q_l9, q_l10, q_l12, q_l32, q_l50, q_l120, q_l122, q_l126, q_l372, q_l1000, q_l1000000, q_surF hL.2.2.1, q_tkF hL.2.1, q_put_ap, hn, w0, c0]
        simp only [b_74_0, b_74_13, b_74_26, b_74_49, b_74_52, b_74_55, b_74_78, b_74_81, b_74_86, b_74_90, b_74_96, b_74_102, ↓reduceIte, Nat.reduceEqDiff, Nat.reduceMul, q_n10, q_n01, Option.bind_some, g_aft0, g_aft1, g_aft2, g_aft3, g_aft9, Nat.reduceAdd, m_kill_0, m_kill_2, m_kill_3, m_kill_4, m_kill_9, true_or, or_true, q_lm1, q_l0, q_l1, q_l2, q_l3, q_l4, q_l5, q_l6, q_l8, q_l9, q_l10, q_l12, q_l32, q_l50, q_l120, q_l122, q_l126, q_l372, q_l1000, q_l1000000, q_surF hL.2.2.1, q_tkF hL.2.1, r_set, r_get, g1, g2, g3, s_lengthOf hL, s_between hL, r1, r2, r4, r5, e1]
        rfl
      · intro h j hj
        try dsimp only
        by_cases c1 : h = g ∧ j = i
        · obtain ⟨rfl, rfl⟩ := c1
          exact ⟨m_up_at, m_up_at⟩
        · rw [m_up_ne (by omega), m_up_ne (by omega)]
          exact hx h j (by omega)
    · intro h i hh
      exact hx h i (by omega) (by omega)
  obtain ⟨y, h1, h2⟩ := q_loop (Z := Z) (N := w_ne N) (S := fun g (x : ((Nat → Int) × (Nat → Int)) × mV) => (74, 2, [(2, ((138 : Nat) : Int)), (0, (g : Int)), x.2], [], (K, q_put (q_put σ 161 x.1.1) 163 x.1.2, 191, e, s))) (P := fun g x => ∀ h i, h < g → i < w_nn N → x.1.1 (8 * h + i) = w_o N h i ∧ x.1.2 (8 * h + i) = w_b N h i) (by
    intro g x hg hx
    have w0 : w32 (g : Int) = (g : Int) := q_w (by omega)
    have e1 : (((g + 1 : Nat)) : Int) = (g : Int) + 1 := by omega
    have c0 : ¬ (w_ne N : Int) ≤ (g : Int) := by omega
    obtain ⟨y, h1, h2⟩ := inner g hg x.1 hx
    refine ⟨(y, (0, (w_nn N : Int))), ?_, ?_⟩
    · conv => lhs; simp only [b_74_2, b_74_13, ↓reduceIte, Nat.reduceEqDiff, Nat.reduceMul, q_n10, q_n01, Option.bind_some, g_aft0, g_aft1, g_aft2, g_aft3, g_aft9, Nat.reduceAdd, m_kill_0, m_kill_2, m_kill_3, m_kill_4, m_kill_9, true_or, or_true, q_lm1, q_l0, q_l1, q_l2, q_l3, q_l4, q_l5, q_l6, q_l8, q_l9, q_l10, q_l12, q_l32, q_l50, q_l120, q_l122, q_l126, q_l372, q_l1000, q_l1000000, q_surF hL.2.2.1, q_tkF hL.2.1, q_put_ap, hm, w0, c0]
      refine Eq.trans h1 ?_
      simp only [b_74_15, b_74_96, ↓reduceIte, Nat.reduceEqDiff, Nat.reduceMul, q_n10, q_n01, Option.bind_some, g_aft0, g_aft1, g_aft2, g_aft3, g_aft9, Nat.reduceAdd, m_kill_0, m_kill_2, m_kill_3, m_kill_4, m_kill_9, true_or, or_true, q_lm1, q_l0, q_l1, q_l2, q_l3, q_l4, q_l5, q_l6, q_l8, q_l9, q_l10, q_l12, q_l32, q_l50, q_l120, q_l122, q_l126, q_l372, q_l1000, q_l1000000, q_surF hL.2.2.1, q_tkF hL.2.1, q_put_ap, hn, w9, Int.le_refl, e1]
    · intro h i hh hi
      exact h2 h i (by omega)) (w_ne N) 0 ((σ 161, σ 163), (9, 0)) (by omega) (fun h i hh _ => absurd hh (by omega))
  refine ⟨y.1.1, y.1.2, ?_, h2⟩
  rw [e_74, b_74_0]
  rw [show q_put (q_put σ 161 (σ 161)) 163 (σ 163) = σ by rw [q_put_self, q_put_self]] at h1
  refine h1.trans ?_
  simp only [b_74_2, b_74_102, ↓reduceIte, Nat.reduceEqDiff, Nat.reduceMul, q_n10, q_n01, Option.bind_some, g_aft0, g_aft1, g_aft2, g_aft3, g_aft9, Nat.reduceAdd, m_kill_0, m_kill_2, m_kill_3, m_kill_4, m_kill_9, true_or, or_true, q_lm1, q_l0, q_l1, q_l2, q_l3, q_l4, q_l5, q_l6, q_l8, q_l9, q_l10, q_l12, q_l32, q_l50, q_l120, q_l122, q_l126, q_l372, q_l1000, q_l1000000, q_surF hL.2.2.1, q_tkF hL.2.1, q_put_ap, hm, w7, Int.le_refl]
end
end
