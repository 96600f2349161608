section
/-! The model: changes of the network. -/
section
variable {Z : mZ} {K : Nat → mK} {σ τ N M : Nat → Nat → Int} {e g i L n c k a p : Nat} {t q v b x y z w u S s : Int} {X : Nat → Int} {h : mH}
theorem z_nR (h : z_row (σ 192) N) (hr : τ 192 = σ 192) : z_row (τ 192) N := by rw [hr]; exact h
theorem z_nF (h : z_n σ N) (hr : τ 192 = σ 192) : z_n τ N := ⟨h.1, by rw [hr]; exact h.2⟩
theorem z_row_rs (h1 : 1 ≤ x) (h8 : x ≤ 8) {f : Nat → Int} (h0 : f 0 = x) (hf : ∀ j, 1 ≤ j → j < 73 → f j = if (j : Int) < 1 + x then 1 else 0) : z_row f (o_rs x N) := by
  have r0 : o_rs x N 0 0 = x := by
    unfold o_rs
    rw [q_fill_ne (by omega), q_fill_ne (by omega), m_up2_nk (by omega), m_up2_nk (by omega), m_up2_at]
  have r1 : o_rs x N 0 1 = 0 := by
    unfold o_rs
    rw [q_fill_ne (by omega), q_fill_ne (by omega), m_up2_nk (by omega), m_up2_at]
  have r2 : o_rs x N 0 2 = 0 := by
    unfold o_rs
    rw [q_fill_ne (by omega), q_fill_ne (by omega), m_up2_at]
  have n0 : w_nn (o_rs x N) = x.toNat := by unfold w_nn; rw [r0]
  have n1 : w_ne (o_rs x N) = 0 := by unfold w_ne; rw [r1]; rfl
  have n2 : w_ns (o_rs x N) = 0 := by unfold w_ns; rw [r2]; rfl
  refine ⟨⟨by rw [r0]; exact h0, by rw [r1, hf 17 (by omega) (by omega), if_neg (by omega)], by rw [r2, hf 54 (by omega) (by omega), if_neg (by omega)]⟩, fun j hj => ?_, fun j hj => by omega, fun j hj => by omega⟩
  rw [n0] at hj
  constructor
  · rw [hf (1 + j) (by omega) (by omega), if_pos (by omega)]
    unfold o_rs
    rw [q_fill_ne (by omega), q_fill_at (by omega)]
  · rw [hf (9 + j) (by omega) (by omega), if_neg (by omega)]
    unfold o_rs
    rw [q_fill_at (by omega)]
theorem z_begins {s : Nat} (hL : q_lay K) (h1 : 1 ≤ x) (h8 : x ≤ 8) : ∃ τ, m_cl Z 149 [(2, ((191 : Nat) : Int)), (0, x)] (K, σ, 206, e, s) = some (.inl (9, 0), (K, τ, 206, e, s)) ∧ (∀ N, z_row (τ 192) (o_rs x N)) ∧ ∀ a, a ≠ 192 → τ a = σ a := by
  obtain ⟨f, hf⟩ : ∃ f : Nat → Int, f = fun j : Nat => if 1 ≤ j ∧ (j : Int) < 1 + x then (1 : Int) else 0 := ⟨fun j : Nat => if 1 ≤ j ∧ (j : Int) < 1 + x then (1 : Int) else 0, rfl⟩
  have lp := q_loopf (Z := Z) (N := 73) (S := fun i => (149, 2, [(2, ((191 : Nat) : Int)), (0, x), (0, (i : Int))], [], (K, q_fill σ 192 i f, 206, e, s))) (by
    intro i hi
    have wi : w32 (i : Int) = (i : Int) := q_w (by omega)
    have wx : w32 (1 + x) = 1 + x := by clear wi; exact q_wi (by omega) (by omega)
    have c0 : ¬ (73 : Int) ≤ (i : Int) := by clear wi wx; omega
    have p0 : 0 ≤ (i : Int) := by clear wi wx; omega
    have p1 : (i : Int) < ((73 : Nat) : Int) := by clear wi wx; omega
    have tn : ((i : Int)).toNat = i := rfl
    have e1 : ((i + 1 : Nat) : Int) = (i : Int) + 1 := rfl
    rw [e1, ← q_fill_s σ 192 i f]
    conv => lhs; simp only [b_149_2, ↓reduceIte, Nat.reduceEqDiff, Nat.reduceMul, q_n10, q_n01, Option.bind_some, g_aft0, g_aft1, g_aft2, g_aft3, g_aft9, Nat.reduceAdd, m_kill_0, m_kill_2, m_kill_3, m_kill_4, m_kill_9, true_or, or_true, q_lm1, q_l0, q_l1, q_l2, q_l3, q_l4, q_l5, q_l6, q_l8, q_l9, q_l10, q_l12, q_l17, q_l32, q_l35, q_l48, q_l50, q_l54, q_l57, q_l64, q_l73, q_l118, q_l119, q_l120, q_l122, q_l126, q_l160, q_l256, q_l365, q_l372, q_l438, q_l1000, q_l100000, q_l1000000, wi, c0]
    by_cases c1 : (i : Int) < 1
    · have fi : f i = 0 := by rw [hf]; show (if 1 ≤ i ∧ (i : Int) < 1 + x then (1 : Int) else 0) = 0; rw [if_neg (by clear wi wx; omega)]
      rw [fi]
      simp only [b_149_8, b_149_29, b_149_30, ↓reduceIte, Nat.reduceEqDiff, Nat.reduceMul, q_n10, q_n01, Option.bind_some, g_aft0, g_aft1, g_aft2, g_aft3, g_aft9, Nat.reduceAdd, m_kill_0, m_kill_2, m_kill_3, m_kill_4, m_kill_9, true_or, or_true, q_lm1, q_l0, q_l1, q_l2, q_l3, q_l4, q_l5, q_l6, q_l8, q_l9, q_l10, q_l12, q_l17, q_l32, q_l35, q_l48, q_l50, q_l54, q_l57, q_l64, q_l73, q_l118, q_l119, q_l120, q_l122, q_l126, q_l160, q_l256, q_l365, q_l372, q_l438, q_l1000, q_l100000, q_l1000000, q_modF hL.2.2.2.2.2.2.1, wi, c1, p0, p1, tn]
    · by_cases c2 : 1 + x ≤ (i : Int)
      · have fi : f i = 0 := by rw [hf]; show (if 1 ≤ i ∧ (i : Int) < 1 + x then (1 : Int) else 0) = 0; rw [if_neg (by clear wi wx; omega)]
        rw [fi]
        simp only [b_149_8, b_149_18, b_149_29, b_149_30, ↓reduceIte, Nat.reduceEqDiff, Nat.reduceMul, q_n10, q_n01, Option.bind_some, g_aft0, g_aft1, g_aft2, g_aft3, g_aft9, Nat.reduceAdd, m_kill_0, m_kill_2, m_kill_3, m_kill_4, m_kill_9, true_or, or_true, q_lm1, q_l0, q_l1, q_l2, q_l3, q_l4, q_l5, q_l6, q_l8, q_l9, q_l10, q_l12, q_l17, q_l32, q_l35, q_l48, q_l50, q_l54, q_l57, q_l64, q_l73, q_l118, q_l119, q_l120, q_l122, q_l126, q_l160, q_l256, q_l365, q_l372, q_l438, q_l1000, q_l100000, q_l1000000, q_modF hL.2.2.2.2.2.2.1, wi, wx, c1, c2, p0, p1, tn]
      · have fi : f i = 1 := by rw [hf]; show (if 1 ≤ i ∧ (i : Int) < 1 + x then (1 : Int) else 0) = 1; rw [if_pos (by clear wi wx; omega)]
        rw [fi]
        simp only [b_149_8, b_149_18, b_149_25, ↓reduceIte, Nat.reduceEqDiff, Nat.reduceMul, q_n10, q_n01, Option.bind_some, g_aft0, g_aft1, g_aft2, g_aft3, g_aft9, Nat.reduceAdd, m_kill_0, m_kill_2, m_kill_3, m_kill_4, m_kill_9, true_or, or_true, q_lm1, q_l0, q_l1, q_l2, q_l3, q_l4, q_l5, q_l6, q_l8, q_l9, q_l10, q_l12, q_l17, q_l32, q_l35, q_l48, q_l50, q_l54, q_l57, q_l64, q_l73, q_l118, q_l119, q_l120, q_l122, q_l126, q_l160, q_l256, q_l365, q_l372, q_l438, q_l1000, q_l100000, q_l1000000, q_modF hL.2.2.2.2.2.2.1, wi, wx, c1, c2, p0, p1, tn])
  have w73 : w32 ((73 : Nat) : Int) = 73 := by decide
  have w73' : w32 73 = 73 := by decide
  refine ⟨m_up2 (q_fill σ 192 73 f) 192 0 x, ?_, fun N => z_row_rs h1 h8 m_up2_at (fun j hj hj2 => ?_), fun a ha => by rw [m_up2_ne ha, q_fill_ne ha]⟩
  · rw [e_149, b_149_0]
    have e0 : q_fill σ 192 0 f = σ := q_fill_0 _ _ _
    rw [e0] at lp
    refine Eq.trans lp ?_
    conv => lhs; simp only [b_149_2, ↓reduceIte, Nat.reduceEqDiff, Nat.reduceMul, q_n10, q_n01, Option.bind_some, g_aft0, g_aft1, g_aft2, g_aft3, g_aft9, Nat.reduceAdd, m_kill_0, m_kill_2, m_kill_3, m_kill_4, m_kill_9, true_or, or_true, q_lm1, q_l0, q_l1, q_l2, q_l3, q_l4, q_l5, q_l6, q_l8, q_l9, q_l10, q_l12, q_l17, q_l32, q_l35, q_l48, q_l50, q_l54, q_l57, q_l64, q_l73, q_l118, q_l119, q_l120, q_l122, q_l126, q_l160, q_l256, q_l365, q_l372, q_l438, q_l1000, q_l100000, q_l1000000, w73, w73', Int.le_refl]
    simp only [b_149_37, ↓reduceIte, Nat.reduceEqDiff, Nat.reduceMul, q_n10, q_n01, Option.bind_some, g_aft0, g_aft1, g_aft2, g_aft3, g_aft9, Nat.reduceAdd, m_kill_0, m_kill_2, m_kill_3, m_kill_4, m_kill_9, true_or, or_true, q_lm1, q_l0, q_l1, q_l2, q_l3, q_l4, q_l5, q_l6, q_l8, q_l9, q_l10, q_l12, q_l17, q_l32, q_l35, q_l48, q_l50, q_l54, q_l57, q_l64, q_l73, q_l118, q_l119, q_l120, q_l122, q_l126, q_l160, q_l256, q_l365, q_l372, q_l438, q_l1000, q_l100000, q_l1000000, q_modF hL.2.2.2.2.2.2.1, Int.le_refl, z_c0, z_t0]
  · rw [m_up2_nk (by omega), q_fill_at hj2, hf]
    show (if 1 ≤ j ∧ (j : Int) < 1 + x then (1 : Int) else 0) = _
    by_cases c : (j : Int) < 1 + x
    · rw [if_pos ⟨hj, c⟩, if_pos c]
    · rw [if_neg (fun q => c q.2), if_neg c]
section
variable {s : Nat}
theorem z_needC (hL : q_lay K) (h : z_n σ N) (hx : w32 x = x) (hy : w32 y = y) (hz : w32 z = z) : m_cl Z 165 [(2, ((191 : Nat) : Int)), (0, x), (0, y), (0, z)] (K, σ, 206, e, s) = some (.inl (0, y_cn N x y z), (K, σ, 206, e, s)) := by
  have h1 := z_isNode (Z := Z) (e := e) (s := s) hL h hx
  have h2 := z_isNode (Z := Z) (e := e) (s := s) hL h hy
  have h3 := z_within2 (Z := Z) (h := (K, σ, 206, e, s)) (x := z) (y := 1) (z := 50) hz (by decide) (by decide)
  have h4 := z_joined (Z := Z) (e := e) (s := s) hL h hx hy
  have h5 := z_emany (Z := Z) (e := e) (s := s) hL h
  have hne := wf_e h.1
  have w12 : w32 12 = 12 := by decide
  have wE : w32 (N 0 1) = N 0 1 := by clear hx hy hz h1 h2 h3 h4 w12; exact q_wi (by omega) (by omega)
  unfold y_cn
  by_cases c1 : ¬ (0 ≤ x ∧ x < N 0 0) ∨ ¬ (0 ≤ y ∧ y < N 0 0)
  · rw [if_pos c1]
    by_cases c2 : 0 ≤ x ∧ x < N 0 0
    · have c3 : ¬ (0 ≤ y ∧ y < N 0 0) := by clear hx hy hz h1 h2 h3 h4 w12 wE; omega
      rw [if_pos c2] at h1
      rw [if_neg c3] at h2
      simp only [e_165, b_165_0, b_165_5, b_165_8, b_165_13, b_165_16, b_165_18, b_165_23, b_165_30, b_165_33, b_165_35, b_165_41, b_165_44, b_165_48, b_165_53, b_165_57, b_165_58, ↓reduceIte, Nat.reduceEqDiff, Nat.reduceMul, q_n10, q_n01, Option.bind_some, g_aft0, g_aft1, g_aft2, g_aft3, g_aft9, Nat.reduceAdd, m_kill_0, m_kill_2, m_kill_3, m_kill_4, m_kill_9, true_or, or_true, q_lm1, q_l0, q_l1, q_l2, q_l3, q_l4, q_l5, q_l6, q_l8, q_l9, q_l10, q_l12, q_l17, q_l32, q_l35, q_l48, q_l50, q_l54, q_l57, q_l64, q_l73, q_l118, q_l119, q_l120, q_l122, q_l126, q_l160, q_l256, q_l365, q_l372, q_l438, q_l1000, q_l100000, q_l1000000, q_modF hL.2.2.2.2.2.2.1, h1, h2]
    · rw [if_neg c2] at h1
      simp only [e_165, b_165_0, b_165_5, b_165_8, b_165_13, b_165_16, b_165_18, b_165_23, b_165_30, b_165_33, b_165_35, b_165_41, b_165_44, b_165_48, b_165_53, b_165_57, b_165_58, ↓reduceIte, Nat.reduceEqDiff, Nat.reduceMul, q_n10, q_n01, Option.bind_some, g_aft0, g_aft1, g_aft2, g_aft3, g_aft9, Nat.reduceAdd, m_kill_0, m_kill_2, m_kill_3, m_kill_4, m_kill_9, true_or, or_true, q_lm1, q_l0, q_l1, q_l2, q_l3, q_l4, q_l5, q_l6, q_l8, q_l9, q_l10, q_l12, q_l17, q_l32, q_l35, q_l48, q_l50, q_l54, q_l57, q_l64, q_l73, q_l118, q_l119, q_l120, q_l122, q_l126, q_l160, q_l256, q_l365, q_l372, q_l438, q_l1000, q_l100000, q_l1000000, q_modF hL.2.2.2.2.2.2.1, h1]
  · rw [if_neg c1]
    have c2 : 0 ≤ x ∧ x < N 0 0 := by clear hx hy hz h1 h2 h3 h4 w12 wE; omega
    have c3 : 0 ≤ y ∧ y < N 0 0 := by clear hx hy hz h1 h2 h3 h4 w12 wE; omega
    rw [if_pos c2] at h1
    rw [if_pos c3] at h2
    by_cases d1 : x = y
    · rw [if_pos (Or.inl d1)]
      subst d1
      simp only [e_165, b_165_0, b_165_5, b_165_8, b_165_13, b_165_16, b_165_18, b_165_23, b_165_30, b_165_33, b_165_35, b_165_41, b_165_44, b_165_48, b_165_53, b_165_57, b_165_58, ↓reduceIte, Nat.reduceEqDiff, Nat.reduceMul, q_n10, q_n01, Option.bind_some, g_aft0, g_aft1, g_aft2, g_aft3, g_aft9, Nat.reduceAdd, m_kill_0, m_kill_2, m_kill_3, m_kill_4, m_kill_9, true_or, or_true, q_lm1, q_l0, q_l1, q_l2, q_l3, q_l4, q_l5, q_l6, q_l8, q_l9, q_l10, q_l12, q_l17, q_l32, q_l35, q_l48, q_l50, q_l54, q_l57, q_l64, q_l73, q_l118, q_l119, q_l120, q_l122, q_l126, q_l160, q_l256, q_l365, q_l372, q_l438, q_l1000, q_l100000, q_l1000000, q_modF hL.2.2.2.2.2.2.1, h1]
    · by_cases d2 : 1 ≤ z ∧ z ≤ 50
      · rw [if_neg (by clear hx hy hz h1 h2 h3 h4 w12 wE; omega)]
        rw [if_pos d2] at h3
        by_cases d3 : w_ebI N x y = -1
        · rw [if_pos d3] at h4
          by_cases d4 : 12 ≤ w_ne N
          · have d5 : N 0 1 = 12 := by clear hx hy hz h1 h2 h3 h4 w12 wE; omega
            rw [if_pos (Or.inr d4)]
            rw [d5] at h5
            simp only [e_165, b_165_0, b_165_5, b_165_8, b_165_13, b_165_16, b_165_18, b_165_23, b_165_30, b_165_33, b_165_35, b_165_41, b_165_44, b_165_48, b_165_53, b_165_57, b_165_58, ↓reduceIte, Nat.reduceEqDiff, Nat.reduceMul, q_n10, q_n01, Option.bind_some, g_aft0, g_aft1, g_aft2, g_aft3, g_aft9, Nat.reduceAdd, m_kill_0, m_kill_2, m_kill_3, m_kill_4, m_kill_9, true_or, or_true, q_lm1, q_l0, q_l1, q_l2, q_l3, q_l4, q_l5, q_l6, q_l8, q_l9, q_l10, q_l12, q_l17, q_l32, q_l35, q_l48, q_l50, q_l54, q_l57, q_l64, q_l73, q_l118, q_l119, q_l120, q_l122, q_l126, q_l160, q_l256, q_l365, q_l372, q_l438, q_l1000, q_l100000, q_l1000000, q_modF hL.2.2.2.2.2.2.1, h1, h2, hx, hy, d1, h3, h4, h5]
          · have d5 : ¬ N 0 1 = 12 := by clear hx hy hz h1 h2 h3 h4 w12 wE; omega
            rw [if_neg (by clear hx hy hz h1 h2 h3 h4 w12 wE; omega)]
            simp only [e_165, b_165_0, b_165_5, b_165_8, b_165_13, b_165_16, b_165_18, b_165_23, b_165_30, b_165_33, b_165_35, b_165_41, b_165_44, b_165_48, b_165_53, b_165_57, b_165_58, ↓reduceIte, Nat.reduceEqDiff, Nat.reduceMul, q_n10, q_n01, Option.bind_some, g_aft0, g_aft1, g_aft2, g_aft3, g_aft9, Nat.reduceAdd, m_kill_0, m_kill_2, m_kill_3, m_kill_4, m_kill_9, true_or, or_true, q_lm1, q_l0, q_l1, q_l2, q_l3, q_l4, q_l5, q_l6, q_l8, q_l9, q_l10, q_l12, q_l17, q_l32, q_l35, q_l48, q_l50, q_l54, q_l57, q_l64, q_l73, q_l118, q_l119, q_l120, q_l122, q_l126, q_l160, q_l256, q_l365, q_l372, q_l438, q_l1000, q_l100000, q_l1000000, q_modF hL.2.2.2.2.2.2.1, h1, h2, hx, hy, d1, h3, h4, h5, wE, d5]
        · rw [if_neg d3] at h4
          rw [if_pos (Or.inl d3)]
          simp only [e_165, b_165_0, b_165_5, b_165_8, b_165_13, b_165_16, b_165_18, b_165_23, b_165_30, b_165_33, b_165_35, b_165_41, b_165_44, b_165_48, b_165_53, b_165_57, b_165_58, ↓reduceIte, Nat.reduceEqDiff, Nat.reduceMul, q_n10, q_n01, Option.bind_some, g_aft0, g_aft1, g_aft2, g_aft3, g_aft9, Nat.reduceAdd, m_kill_0, m_kill_2, m_kill_3, m_kill_4, m_kill_9, true_or, or_true, q_lm1, q_l0, q_l1, q_l2, q_l3, q_l4, q_l5, q_l6, q_l8, q_l9, q_l10, q_l12, q_l17, q_l32, q_l35, q_l48, q_l50, q_l54, q_l57, q_l64, q_l73, q_l118, q_l119, q_l120, q_l122, q_l126, q_l160, q_l256, q_l365, q_l372, q_l438, q_l1000, q_l100000, q_l1000000, q_modF hL.2.2.2.2.2.2.1, h1, h2, hx, hy, d1, h3, h4]
      · rw [if_pos (by clear hx hy hz h1 h2 h3 h4 w12 wE; omega)]
        rw [if_neg d2] at h3
        simp only [e_165, b_165_0, b_165_5, b_165_8, b_165_13, b_165_16, b_165_18, b_165_23, b_165_30, b_165_33, b_165_35, b_165_41, b_165_44, b_165_48, b_165_53, b_165_57, b_165_58, ↓reduceIte, Nat.reduceEqDiff, Nat.reduceMul, q_n10, q_n01, Option.bind_some, g_aft0, g_aft1, g_aft2, g_aft3, g_aft9, Nat.reduceAdd, m_kill_0, m_kill_2, m_kill_3, m_kill_4, m_kill_9, true_or, or_true, q_lm1, q_l0, q_l1, q_l2, q_l3, q_l4, q_l5, q_l6, q_l8, q_l9, q_l10, q_l12, q_l17, q_l32, q_l35, q_l48, q_l50, q_l54, q_l57, q_l64, q_l73, q_l118, q_l119, q_l120, q_l122, q_l126, q_l160, q_l256, q_l365, q_l372, q_l438, q_l1000, q_l100000, q_l1000000, q_modF hL.2.2.2.2.2.2.1, h1, h2, hx, hy, d1, h3]
theorem z_needS (hL : q_lay K) (h : z_n σ N) (hx : w32 x = x) (hy : w32 y = y) : m_cl Z 171 [(2, ((191 : Nat) : Int)), (0, x), (0, y)] (K, σ, 206, e, s) = some (.inl (0, y_sv N x y), (K, σ, 206, e, s)) := by
  have h1 := z_isNode (Z := Z) (e := e) (s := s) hL h hx
  have h3 := z_within2 (Z := Z) (h := (K, σ, 206, e, s)) (x := y) (y := 0) (z := 9) hy (by decide) (by decide)
  unfold y_sv
  by_cases c2 : 0 ≤ x ∧ x < N 0 0
  · rw [if_pos c2] at h1
    rw [if_neg (fun q => q c2)]
    by_cases d2 : 0 ≤ y ∧ y ≤ 9
    · rw [if_pos d2] at h3
      rw [if_neg (by clear hx hy h1 h3; omega)]
      simp only [e_171, b_171_0, b_171_5, b_171_8, b_171_12, b_171_19, b_171_22, b_171_26, b_171_27, ↓reduceIte, Nat.reduceEqDiff, Nat.reduceMul, q_n10, q_n01, Option.bind_some, g_aft0, g_aft1, g_aft2, g_aft3, g_aft9, Nat.reduceAdd, m_kill_0, m_kill_2, m_kill_3, m_kill_4, m_kill_9, true_or, or_true, q_lm1, q_l0, q_l1, q_l2, q_l3, q_l4, q_l5, q_l6, q_l8, q_l9, q_l10, q_l12, q_l17, q_l32, q_l35, q_l48, q_l50, q_l54, q_l57, q_l64, q_l73, q_l118, q_l119, q_l120, q_l122, q_l126, q_l160, q_l256, q_l365, q_l372, q_l438, q_l1000, q_l100000, q_l1000000, q_modF hL.2.2.2.2.2.2.1, h1, h3]
    · rw [if_neg d2] at h3
      rw [if_pos (by clear hx hy h1 h3; omega)]
      simp only [e_171, b_171_0, b_171_5, b_171_8, b_171_12, b_171_19, b_171_22, b_171_26, b_171_27, ↓reduceIte, Nat.reduceEqDiff, Nat.reduceMul, q_n10, q_n01, Option.bind_some, g_aft0, g_aft1, g_aft2, g_aft3, g_aft9, Nat.reduceAdd, m_kill_0, m_kill_2, m_kill_3, m_kill_4, m_kill_9, true_or, or_true, q_lm1, q_l0, q_l1, q_l2, q_l3, q_l4, q_l5, q_l6, q_l8, q_l9, q_l10, q_l12, q_l17, q_l32, q_l35, q_l48, q_l50, q_l54, q_l57, q_l64, q_l73, q_l118, q_l119, q_l120, q_l122, q_l126, q_l160, q_l256, q_l365, q_l372, q_l438, q_l1000, q_l100000, q_l1000000, q_modF hL.2.2.2.2.2.2.1, h1, h3]
  · rw [if_neg c2] at h1
    rw [if_pos c2]
    simp only [e_171, b_171_0, b_171_5, b_171_8, b_171_12, b_171_19, b_171_22, b_171_26, b_171_27, ↓reduceIte, Nat.reduceEqDiff, Nat.reduceMul, q_n10, q_n01, Option.bind_some, g_aft0, g_aft1, g_aft2, g_aft3, g_aft9, Nat.reduceAdd, m_kill_0, m_kill_2, m_kill_3, m_kill_4, m_kill_9, true_or, or_true, q_lm1, q_l0, q_l1, q_l2, q_l3, q_l4, q_l5, q_l6, q_l8, q_l9, q_l10, q_l12, q_l17, q_l32, q_l35, q_l48, q_l50, q_l54, q_l57, q_l64, q_l73, q_l118, q_l119, q_l120, q_l122, q_l126, q_l160, q_l256, q_l365, q_l372, q_l438, q_l1000, q_l100000, q_l1000000, q_modF hL.2.2.2.2.2.2.1, h1]
theorem z_needF (hL : q_lay K) (h : z_n σ N) (hx : w32 x = x) (hy : w32 y = y) (hz : w32 z = z) : m_cl Z 174 [(2, ((191 : Nat) : Int)), (0, x), (0, y), (0, z)] (K, σ, 206, e, s) = some (.inl (0, y_fb N x y z), (K, σ, 206, e, s)) := by
  have h1 := z_isEdge (Z := Z) (e := e) (s := s) hL h hx
  have h5 := z_smany (Z := Z) (e := e) (s := s) hL h
  have hns := h.1.2.2.1
  have hne := wf_e h.1
  have w6 : w32 6 = 6 := by decide
  have wS : w32 (N 0 2) = N 0 2 := by clear hx hy hz h1 h5 w6; exact q_wi (by omega) (by omega)
  unfold y_fb
  by_cases c2 : 0 ≤ x ∧ x < N 0 1
  · rw [if_pos c2] at h1
    rw [if_neg (fun q => q c2)]
    have ex : ((x.toNat : Nat) : Int) = x := by clear hx hy hz h1 h5 w6 wS; omega
    have hg : x.toNat < w_ne N := by clear hx hy hz h1 h5 w6 wS; omega
    have ho := (z_of (Z := Z) (e := e) (s := s) hL h hg).2.2
    rw [ex] at ho
    have h7 := wf_ed h.1 hg
    have wl : w32 (N 10 x.toNat) = N 10 x.toNat := by clear hx hy hz h1 h5 w6 wS ho; exact q_wi (by omega) (by omega)
    by_cases d1 : y < 0
    · rw [if_pos (Or.inl d1)]
      simp only [e_174, b_174_0, b_174_5, b_174_8, b_174_10, b_174_14, b_174_19, b_174_26, b_174_29, b_174_33, b_174_37, b_174_42, b_174_46, b_174_47, ↓reduceIte, Nat.reduceEqDiff, Nat.reduceMul, q_n10, q_n01, Option.bind_some, g_aft0, g_aft1, g_aft2, g_aft3, g_aft9, Nat.reduceAdd, m_kill_0, m_kill_2, m_kill_3, m_kill_4, m_kill_9, true_or, or_true, q_lm1, q_l0, q_l1, q_l2, q_l3, q_l4, q_l5, q_l6, q_l8, q_l9, q_l10, q_l12, q_l17, q_l32, q_l35, q_l48, q_l50, q_l54, q_l57, q_l64, q_l73, q_l118, q_l119, q_l120, q_l122, q_l126, q_l160, q_l256, q_l365, q_l372, q_l438, q_l1000, q_l100000, q_l1000000, q_modF hL.2.2.2.2.2.2.1, h1, hy, d1]
    · by_cases d2 : z ≤ y
      · rw [if_pos (Or.inr (Or.inl d2))]
        simp only [e_174, b_174_0, b_174_5, b_174_8, b_174_10, b_174_14, b_174_19, b_174_26, b_174_29, b_174_33, b_174_37, b_174_42, b_174_46, b_174_47, ↓reduceIte, Nat.reduceEqDiff, Nat.reduceMul, q_n10, q_n01, Option.bind_some, g_aft0, g_aft1, g_aft2, g_aft3, g_aft9, Nat.reduceAdd, m_kill_0, m_kill_2, m_kill_3, m_kill_4, m_kill_9, true_or, or_true, q_lm1, q_l0, q_l1, q_l2, q_l3, q_l4, q_l5, q_l6, q_l8, q_l9, q_l10, q_l12, q_l17, q_l32, q_l35, q_l48, q_l50, q_l54, q_l57, q_l64, q_l73, q_l118, q_l119, q_l120, q_l122, q_l126, q_l160, q_l256, q_l365, q_l372, q_l438, q_l1000, q_l100000, q_l1000000, q_modF hL.2.2.2.2.2.2.1, h1, hy, hz, d1, d2]
      · by_cases d3 : z ≤ N 10 x.toNat
        · rw [if_neg (by clear hx hy hz h1 h5 w6 wS ho wl; omega)]
          by_cases d4 : 6 ≤ N 0 2
          · have d5 : N 0 2 = 6 := by clear hx hy hz h1 h5 w6 wS ho wl; omega
            rw [if_pos d4]
            rw [d5] at h5
            simp only [e_174, b_174_0, b_174_5, b_174_8, b_174_10, b_174_14, b_174_19, b_174_26, b_174_29, b_174_33, b_174_37, b_174_42, b_174_46, b_174_47, ↓reduceIte, Nat.reduceEqDiff, Nat.reduceMul, q_n10, q_n01, Option.bind_some, g_aft0, g_aft1, g_aft2, g_aft3, g_aft9, Nat.reduceAdd, m_kill_0, m_kill_2, m_kill_3, m_kill_4, m_kill_9, true_or, or_true, q_lm1, q_l0, q_l1, q_l2, q_l3, q_l4, q_l5, q_l6, q_l8, q_l9, q_l10, q_l12, q_l17, q_l32, q_l35, q_l48, q_l50, q_l54, q_l57, q_l64, q_l73, q_l118, q_l119, q_l120, q_l122, q_l126, q_l160, q_l256, q_l365, q_l372, q_l438, q_l1000, q_l100000, q_l1000000, q_modF hL.2.2.2.2.2.2.1, h1, hy, hz, d1, d2, ho, wl, d3, h5]
          · have d5 : ¬ N 0 2 = 6 := by clear hx hy hz h1 h5 w6 wS ho wl; omega
            rw [if_neg d4]
            simp only [e_174, b_174_0, b_174_5, b_174_8, b_174_10, b_174_14, b_174_19, b_174_26, b_174_29, b_174_33, b_174_37, b_174_42, b_174_46, b_174_47, ↓reduceIte, Nat.reduceEqDiff, Nat.reduceMul, q_n10, q_n01, Option.bind_some, g_aft0, g_aft1, g_aft2, g_aft3, g_aft9, Nat.reduceAdd, m_kill_0, m_kill_2, m_kill_3, m_kill_4, m_kill_9, true_or, or_true, q_lm1, q_l0, q_l1, q_l2, q_l3, q_l4, q_l5, q_l6, q_l8, q_l9, q_l10, q_l12, q_l17, q_l32, q_l35, q_l48, q_l50, q_l54, q_l57, q_l64, q_l73, q_l118, q_l119, q_l120, q_l122, q_l126, q_l160, q_l256, q_l365, q_l372, q_l438, q_l1000, q_l100000, q_l1000000, q_modF hL.2.2.2.2.2.2.1, h1, hy, hz, d1, d2, ho, wl, d3, h5, wS, d5]
        · rw [if_pos (by clear hx hy hz h1 h5 w6 wS ho wl; omega)]
          simp only [e_174, b_174_0, b_174_5, b_174_8, b_174_10, b_174_14, b_174_19, b_174_26, b_174_29, b_174_33, b_174_37, b_174_42, b_174_46, b_174_47, ↓reduceIte, Nat.reduceEqDiff, Nat.reduceMul, q_n10, q_n01, Option.bind_some, g_aft0, g_aft1, g_aft2, g_aft3, g_aft9, Nat.reduceAdd, m_kill_0, m_kill_2, m_kill_3, m_kill_4, m_kill_9, true_or, or_true, q_lm1, q_l0, q_l1, q_l2, q_l3, q_l4, q_l5, q_l6, q_l8, q_l9, q_l10, q_l12, q_l17, q_l32, q_l35, q_l48, q_l50, q_l54, q_l57, q_l64, q_l73, q_l118, q_l119, q_l120, q_l122, q_l126, q_l160, q_l256, q_l365, q_l372, q_l438, q_l1000, q_l100000, q_l1000000, q_modF hL.2.2.2.2.2.2.1, h1, hy, hz, d1, d2, ho, wl, d3]
  · rw [if_neg c2] at h1
    rw [if_pos c2]
    simp only [e_174, b_174_0, b_174_5, b_174_8, b_174_10, b_174_14, b_174_19, b_174_26, b_174_29, b_174_33, b_174_37, b_174_42, b_174_46, b_174_47, ↓reduceIte, Nat.reduceEqDiff, Nat.reduceMul, q_n10, q_n01, Option.bind_some, g_aft0, g_aft1, g_aft2, g_aft3, g_aft9, Nat.reduceAdd, m_kill_0, m_kill_2, m_kill_3, m_kill_4, m_kill_9, true_or, or_true, q_lm1, q_l0, q_l1, q_l2, q_l3, q_l4, q_l5, q_l6, q_l8, q_l9, q_l10, q_l12, q_l17, q_l32, q_l35, q_l48, q_l50, q_l54, q_l57, q_l64, q_l73, q_l118, q_l119, q_l120, q_l122, q_l126, q_l160, q_l256, q_l365, q_l372, q_l438, q_l1000, q_l100000, q_l1000000, q_modF hL.2.2.2.2.2.2.1, h1]
end
end
end
