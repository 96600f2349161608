section
/-! The model: facts; next; diameter. -/
section
variable {Z : mZ} {K : Nat → mK} {σ τ N M : Nat → Nat → Int} {e g i L n c k p s a b : Nat} {t q v x y z w u S : Int} {X : Nat → Int} {h : mH} {R : Nat → Nat → Nat → Int} {T : Nat → Int}
theorem z_nodeTold (hL : q_lay K) (hn : z_n σ N) (hi : i < w_nn N) (hy : 0 ≤ y) (hy2 : y ≤ 2) : m_cl Z 181 [(2, ((191 : Nat) : Int)), (0, (i : Int)), (0, y)] (K, σ, 206, e, s) = some (.inl (0, if y = 0 then N 2 i else if y = 1 then N 4 i else w_deg N (i : Int)), (K, σ, 206, e, s)) := by
  have hw := hn.1
  have hne := wf_e hw
  have hnn := wf_n hw
  have hm := z_emany (Z := Z) (e := e) (s := s) hL hn
  obtain ⟨p, hp⟩ : ∃ p : Nat → Bool, p = fun j => decide (N 6 j = (i : Int) ∨ N 8 j = (i : Int)) := ⟨_, rfl⟩
  have wm : w32 (N 0 1) = N 0 1 := q_wi (by omega) (by omega)
  have wi : w32 (i : Int) = (i : Int) := q_w (by clear wm; omega)
  have lp := q_loopf (Z := Z) (N := w_ne N) (S := fun j => (181, 5, [(2, ((191 : Nat) : Int)), (0, (i : Int)), (0, y), (0, q_cnt p j), (0, (j : Int))], [], (K, σ, 206, e, s))) (by
    intro j hj
    obtain ⟨o1, o2, o3⟩ := z_of (Z := Z) (e := e) (s := s) hL hn hj
    have h7 := wf_ed hw hj
    have wj : w32 (j : Int) = (j : Int) := q_w (by clear wm wi; omega)
    have c0 : ¬ N 0 1 ≤ (j : Int) := by clear wm wi wj; omega
    have w6 : w32 (N 6 j) = N 6 j := by clear wm wi wj; exact q_wi (by omega) (by omega)
    have w8 : w32 (N 8 j) = N 8 j := by clear wm wi wj w6; exact q_wi (by omega) (by omega)
    have e1 : (((j + 1 : Nat)) : Int) = (j : Int) + 1 := rfl
    have es : q_cnt p (j + 1) = q_cnt p j + (if p j = true then 1 else 0) := rfl
    rw [e1, es]
    conv => lhs; simp only [b_181_5, ↓reduceIte, Nat.reduceEqDiff, Nat.reduceMul, q_n10, q_n01, Option.bind_some, g_aft0, g_aft1, g_aft2, g_aft3, g_aft9, Nat.reduceAdd, m_kill_0, m_kill_2, m_kill_3, m_kill_4, m_kill_9, true_or, or_true, q_lm1, q_l0, q_l1, q_l2, q_l3, q_l4, q_l5, q_l6, q_l8, q_l9, q_l10, q_l12, q_l17, q_l32, q_l35, q_l48, q_l50, q_l54, q_l57, q_l64, q_l73, q_l118, q_l119, q_l120, q_l122, q_l126, q_l160, q_l256, q_l365, q_l372, q_l438, q_l1000, q_l100000, q_l1000000, q_modF hL.2.2.2.2.2.2.1, hm]
    conv => lhs; simp only [b_181_11, ↓reduceIte, Nat.reduceEqDiff, Nat.reduceMul, q_n10, q_n01, Option.bind_some, g_aft0, g_aft1, g_aft2, g_aft3, g_aft9, Nat.reduceAdd, m_kill_0, m_kill_2, m_kill_3, m_kill_4, m_kill_9, true_or, or_true, q_lm1, q_l0, q_l1, q_l2, q_l3, q_l4, q_l5, q_l6, q_l8, q_l9, q_l10, q_l12, q_l17, q_l32, q_l35, q_l48, q_l50, q_l54, q_l57, q_l64, q_l73, q_l118, q_l119, q_l120, q_l122, q_l126, q_l160, q_l256, q_l365, q_l372, q_l438, q_l1000, q_l100000, q_l1000000, wj, wm, c0]
    by_cases c1 : N 6 j = (i : Int)
    · have pj : p j = true := by rw [hp]; exact decide_eq_true (Or.inl c1)
      rw [pj, if_pos rfl]
      simp only [b_181_14, b_181_22, b_181_37, ↓reduceIte, Nat.reduceEqDiff, Nat.reduceMul, q_n10, q_n01, Option.bind_some, g_aft0, g_aft1, g_aft2, g_aft3, g_aft9, Nat.reduceAdd, m_kill_0, m_kill_2, m_kill_3, m_kill_4, m_kill_9, true_or, or_true, q_lm1, q_l0, q_l1, q_l2, q_l3, q_l4, q_l5, q_l6, q_l8, q_l9, q_l10, q_l12, q_l17, q_l32, q_l35, q_l48, q_l50, q_l54, q_l57, q_l64, q_l73, q_l118, q_l119, q_l120, q_l122, q_l126, q_l160, q_l256, q_l365, q_l372, q_l438, q_l1000, q_l100000, q_l1000000, q_modF hL.2.2.2.2.2.2.1, o1, c1]
    · by_cases c2 : N 8 j = (i : Int)
      · have pj : p j = true := by rw [hp]; exact decide_eq_true (Or.inr c2)
        rw [pj, if_pos rfl]
        simp only [b_181_14, b_181_22, b_181_26, b_181_33, b_181_37, ↓reduceIte, Nat.reduceEqDiff, Nat.reduceMul, q_n10, q_n01, Option.bind_some, g_aft0, g_aft1, g_aft2, g_aft3, g_aft9, Nat.reduceAdd, m_kill_0, m_kill_2, m_kill_3, m_kill_4, m_kill_9, true_or, or_true, q_lm1, q_l0, q_l1, q_l2, q_l3, q_l4, q_l5, q_l6, q_l8, q_l9, q_l10, q_l12, q_l17, q_l32, q_l35, q_l48, q_l50, q_l54, q_l57, q_l64, q_l73, q_l118, q_l119, q_l120, q_l122, q_l126, q_l160, q_l256, q_l365, q_l372, q_l438, q_l1000, q_l100000, q_l1000000, q_modF hL.2.2.2.2.2.2.1, o1, o2, w6, wi, c1, c2]
      · have pj : p j = false := by rw [hp]; exact decide_eq_false (by rintro (q | q); exact c1 q; exact c2 q)
        rw [pj, if_neg Bool.false_ne_true]
        simp only [b_181_14, b_181_22, b_181_26, b_181_33, b_181_41, b_181_42, ↓reduceIte, Nat.reduceEqDiff, Nat.reduceMul, q_n10, q_n01, Option.bind_some, g_aft0, g_aft1, g_aft2, g_aft3, g_aft9, Nat.reduceAdd, m_kill_0, m_kill_2, m_kill_3, m_kill_4, m_kill_9, true_or, or_true, q_lm1, q_l0, q_l1, q_l2, q_l3, q_l4, q_l5, q_l6, q_l8, q_l9, q_l10, q_l12, q_l17, q_l32, q_l35, q_l48, q_l50, q_l54, q_l57, q_l64, q_l73, q_l118, q_l119, q_l120, q_l122, q_l126, q_l160, q_l256, q_l365, q_l372, q_l438, q_l1000, q_l100000, q_l1000000, q_modF hL.2.2.2.2.2.2.1, o1, o2, w6, w8, wi, c1, c2])
  have hcn : q_cnt p (w_ne N) = w_deg N (i : Int) := by rw [hp]; rfl
  have c0 : q_cnt p 0 = 0 := rfl
  obtain ⟨i1, i2, i3⟩ := z_ix (x := 1 + (i : Int)) (m := 1 + i) (L' := 73) (by clear wm wi; omega) (by clear wm wi; omega) (by omega)
  obtain ⟨j1, j2, j3⟩ := z_ix (x := 9 + (i : Int)) (m := 9 + i) (L' := 73) (by clear wm wi i1 i2 i3; omega) (by clear wm wi i1 i2 i3; omega) (by omega)
  have hb := hn.2.2.1 i hi
  rw [c0, hcn] at lp
  rw [e_181, b_181_0]
  refine Eq.trans lp ?_
  rw [hne.1] at hm wm
  conv => lhs; simp only [b_181_5, ↓reduceIte, Nat.reduceEqDiff, Nat.reduceMul, q_n10, q_n01, Option.bind_some, g_aft0, g_aft1, g_aft2, g_aft3, g_aft9, Nat.reduceAdd, m_kill_0, m_kill_2, m_kill_3, m_kill_4, m_kill_9, true_or, or_true, q_lm1, q_l0, q_l1, q_l2, q_l3, q_l4, q_l5, q_l6, q_l8, q_l9, q_l10, q_l12, q_l17, q_l32, q_l35, q_l48, q_l50, q_l54, q_l57, q_l64, q_l73, q_l118, q_l119, q_l120, q_l122, q_l126, q_l160, q_l256, q_l365, q_l372, q_l438, q_l1000, q_l100000, q_l1000000, q_modF hL.2.2.2.2.2.2.1, hm]
  conv => lhs; simp only [b_181_11, ↓reduceIte, Nat.reduceEqDiff, Nat.reduceMul, q_n10, q_n01, Option.bind_some, g_aft0, g_aft1, g_aft2, g_aft3, g_aft9, Nat.reduceAdd, m_kill_0, m_kill_2, m_kill_3, m_kill_4, m_kill_9, true_or, or_true, q_lm1, q_l0, q_l1, q_l2, q_l3, q_l4, q_l5, q_l6, q_l8, q_l9, q_l10, q_l12, q_l17, q_l32, q_l35, q_l48, q_l50, q_l54, q_l57, q_l64, q_l73, q_l118, q_l119, q_l120, q_l122, q_l126, q_l160, q_l256, q_l365, q_l372, q_l438, q_l1000, q_l100000, q_l1000000, wm, Int.le_refl]
  rcases (show y = 0 ∨ y = 1 ∨ y = 2 by clear wm wi i1 i2 i3 j1 j2 j3; omega) with rfl | rfl | rfl
  · rw [if_pos rfl]
    simp only [b_181_50, b_181_54, ↓reduceIte, Nat.reduceEqDiff, Nat.reduceMul, q_n10, q_n01, Option.bind_some, g_aft0, g_aft1, g_aft2, g_aft3, g_aft9, Nat.reduceAdd, m_kill_0, m_kill_2, m_kill_3, m_kill_4, m_kill_9, true_or, or_true, q_lm1, q_l0, q_l1, q_l2, q_l3, q_l4, q_l5, q_l6, q_l8, q_l9, q_l10, q_l12, q_l17, q_l32, q_l35, q_l48, q_l50, q_l54, q_l57, q_l64, q_l73, q_l118, q_l119, q_l120, q_l122, q_l126, q_l160, q_l256, q_l365, q_l372, q_l438, q_l1000, q_l100000, q_l1000000, q_modF hL.2.2.2.2.2.2.1, i1, i2, i3, hb.1]
  · rw [if_neg (by decide), if_pos rfl]
    simp only [b_181_50, b_181_65, b_181_70, ↓reduceIte, Nat.reduceEqDiff, Nat.reduceMul, q_n10, q_n01, Option.bind_some, g_aft0, g_aft1, g_aft2, g_aft3, g_aft9, Nat.reduceAdd, m_kill_0, m_kill_2, m_kill_3, m_kill_4, m_kill_9, true_or, or_true, q_lm1, q_l0, q_l1, q_l2, q_l3, q_l4, q_l5, q_l6, q_l8, q_l9, q_l10, q_l12, q_l17, q_l32, q_l35, q_l48, q_l50, q_l54, q_l57, q_l64, q_l73, q_l118, q_l119, q_l120, q_l122, q_l126, q_l160, q_l256, q_l365, q_l372, q_l438, q_l1000, q_l100000, q_l1000000, q_modF hL.2.2.2.2.2.2.1, j1, j2, j3, hb.2]
  · rw [if_neg (by decide), if_neg (by decide)]
    have q1 : ¬ (2 : Int) = 0 := by decide
    have q2 : ¬ (2 : Int) = 1 := by decide
    simp only [b_181_50, b_181_65, b_181_82, b_181_83, ↓reduceIte, Nat.reduceEqDiff, Nat.reduceMul, q_n10, q_n01, Option.bind_some, g_aft0, g_aft1, g_aft2, g_aft3, g_aft9, Nat.reduceAdd, m_kill_0, m_kill_2, m_kill_3, m_kill_4, m_kill_9, true_or, or_true, q_lm1, q_l0, q_l1, q_l2, q_l3, q_l4, q_l5, q_l6, q_l8, q_l9, q_l10, q_l12, q_l17, q_l32, q_l35, q_l48, q_l50, q_l54, q_l57, q_l64, q_l73, q_l118, q_l119, q_l120, q_l122, q_l126, q_l160, q_l256, q_l365, q_l372, q_l438, q_l1000, q_l100000, q_l1000000, q1, q2]
theorem z_edge (hL : q_lay K) (h : z_inv σ N R c X L) (hx : w32 x = x) (hy : w32 y = y) : (¬ (0 ≤ x ∧ x < N 0 1) → z_O (m_cl Z 180 [(2, ((191 : Nat) : Int)), (0, x), (0, y)] (K, σ, 206, e, s)) K e s σ N R c X L 1 0) ∧ ((0 ≤ x ∧ x < N 0 1) → ¬ (0 ≤ y ∧ y ≤ 2) → z_O (m_cl Z 180 [(2, ((191 : Nat) : Int)), (0, x), (0, y)] (K, σ, 206, e, s)) K e s σ N R c X L 2 0) ∧ ((0 ≤ x ∧ x < N 0 1) → (0 ≤ y ∧ y ≤ 2) → z_O (m_cl Z 180 [(2, ((191 : Nat) : Int)), (0, x), (0, y)] (K, σ, 206, e, s)) K e s σ N R c X L 0 (if y = 0 then N 6 x.toNat else if y = 1 then N 8 x.toNat else N 10 x.toNat)) := by
  have h1 := z_isEdge (Z := Z) (e := e) (s := s) hL h.1 hx
  have h2 := z_within2 (Z := Z) (h := (K, σ, 206, e, s)) (x := y) (y := 0) (z := 2) hy (by decide) (by decide)
  have hne := wf_e h.1.1
  refine ⟨fun hn => ?_, fun hn hm => ?_, fun hn hm => ?_⟩
  · rw [if_neg hn] at h1
    refine z_no h ?_
    simp only [e_180, b_180_0, b_180_6, b_180_9, b_180_13, b_180_19, b_180_22, b_180_26, b_180_27, b_180_30, b_180_33, b_180_37, b_180_43, ↓reduceIte, Nat.reduceEqDiff, Nat.reduceMul, q_n10, q_n01, Option.bind_some, g_aft0, g_aft1, g_aft2, g_aft3, g_aft9, Nat.reduceAdd, m_kill_0, m_kill_2, m_kill_3, m_kill_4, m_kill_9, true_or, or_true, q_lm1, q_l0, q_l1, q_l2, q_l3, q_l4, q_l5, q_l6, q_l8, q_l9, q_l10, q_l12, q_l17, q_l32, q_l35, q_l48, q_l50, q_l54, q_l57, q_l64, q_l73, q_l118, q_l119, q_l120, q_l122, q_l126, q_l160, q_l256, q_l365, q_l372, q_l438, q_l1000, q_l100000, q_l1000000, q_modF hL.2.2.2.2.2.2.1, h1, z_ref1 hL (x := 1) (by decide) (by decide)]
  · rw [if_pos hn] at h1
    rw [if_neg hm] at h2
    refine z_no h ?_
    simp only [e_180, b_180_0, b_180_6, b_180_9, b_180_13, b_180_19, b_180_22, b_180_26, b_180_27, b_180_30, b_180_33, b_180_37, b_180_43, ↓reduceIte, Nat.reduceEqDiff, Nat.reduceMul, q_n10, q_n01, Option.bind_some, g_aft0, g_aft1, g_aft2, g_aft3, g_aft9, Nat.reduceAdd, m_kill_0, m_kill_2, m_kill_3, m_kill_4, m_kill_9, true_or, or_true, q_lm1, q_l0, q_l1, q_l2, q_l3, q_l4, q_l5, q_l6, q_l8, q_l9, q_l10, q_l12, q_l17, q_l32, q_l35, q_l48, q_l50, q_l54, q_l57, q_l64, q_l73, q_l118, q_l119, q_l120, q_l122, q_l126, q_l160, q_l256, q_l365, q_l372, q_l438, q_l1000, q_l100000, q_l1000000, q_modF hL.2.2.2.2.2.2.1, h1, h2, z_ref1 hL (x := 2) (by decide) (by decide)]
  · rw [if_pos hn] at h1
    rw [if_pos hm] at h2
    have ex : ((x.toNat : Nat) : Int) = x := by clear hx hy h1 h2; omega
    obtain ⟨o1, o2, o3⟩ := z_of (Z := Z) (e := e) (s := s) hL (z_inv4 (v := 0) h).1 (g := x.toNat) (by clear hx hy h1 h2; omega)
    rw [ex] at o1 o2 o3
    refine ⟨m_up2 σ 191 4 0, ?_, m_up2_at, z_inv4 h, z_fr_u z_fr_r (by omega) (by omega)⟩
    rcases (show y = 0 ∨ y = 1 ∨ y = 2 by clear hx hy h1 h2; omega) with rfl | rfl | rfl
    · rw [if_pos rfl]
      simp only [e_180, b_180_0, b_180_6, b_180_9, b_180_13, b_180_19, b_180_22, b_180_26, b_180_27, b_180_30, b_180_33, b_180_37, b_180_43, ↓reduceIte, Nat.reduceEqDiff, Nat.reduceMul, q_n10, q_n01, Option.bind_some, g_aft0, g_aft1, g_aft2, g_aft3, g_aft9, Nat.reduceAdd, m_kill_0, m_kill_2, m_kill_3, m_kill_4, m_kill_9, true_or, or_true, q_lm1, q_l0, q_l1, q_l2, q_l3, q_l4, q_l5, q_l6, q_l8, q_l9, q_l10, q_l12, q_l17, q_l32, q_l35, q_l48, q_l50, q_l54, q_l57, q_l64, q_l73, q_l118, q_l119, q_l120, q_l122, q_l126, q_l160, q_l256, q_l365, q_l372, q_l438, q_l1000, q_l100000, q_l1000000, q_modF hL.2.2.2.2.2.2.1, h1, h2, z_ref0 hL, o1]
    · rw [if_neg (by decide), if_pos rfl]
      simp only [e_180, b_180_0, b_180_6, b_180_9, b_180_13, b_180_19, b_180_22, b_180_26, b_180_27, b_180_30, b_180_33, b_180_37, b_180_43, ↓reduceIte, Nat.reduceEqDiff, Nat.reduceMul, q_n10, q_n01, Option.bind_some, g_aft0, g_aft1, g_aft2, g_aft3, g_aft9, Nat.reduceAdd, m_kill_0, m_kill_2, m_kill_3, m_kill_4, m_kill_9, true_or, or_true, q_lm1, q_l0, q_l1, q_l2, q_l3, q_l4, q_l5, q_l6, q_l8, q_l9, q_l10, q_l12, q_l17, q_l32, q_l35, q_l48, q_l50, q_l54, q_l57, q_l64, q_l73, q_l118, q_l119, q_l120, q_l122, q_l126, q_l160, q_l256, q_l365, q_l372, q_l438, q_l1000, q_l100000, q_l1000000, q_modF hL.2.2.2.2.2.2.1, h1, h2, z_ref0 hL, o2]
    · rw [if_neg (by decide), if_neg (by decide)]
      simp only [e_180, b_180_0, b_180_6, b_180_9, b_180_13, b_180_19, b_180_22, b_180_26, b_180_27, b_180_30, b_180_33, b_180_37, b_180_43, ↓reduceIte, Nat.reduceEqDiff, Nat.reduceMul, q_n10, q_n01, Option.bind_some, g_aft0, g_aft1, g_aft2, g_aft3, g_aft9, Nat.reduceAdd, m_kill_0, m_kill_2, m_kill_3, m_kill_4, m_kill_9, true_or, or_true, q_lm1, q_l0, q_l1, q_l2, q_l3, q_l4, q_l5, q_l6, q_l8, q_l9, q_l10, q_l12, q_l17, q_l32, q_l35, q_l48, q_l50, q_l54, q_l57, q_l64, q_l73, q_l118, q_l119, q_l120, q_l122, q_l126, q_l160, q_l256, q_l365, q_l372, q_l438, q_l1000, q_l100000, q_l1000000, q_modF hL.2.2.2.2.2.2.1, h1, h2, z_ref0 hL, o3]
theorem z_node (hL : q_lay K) (h : z_inv σ N R c X L) (hx : w32 x = x) (hy : w32 y = y) : (¬ (0 ≤ x ∧ x < N 0 0) → z_O (m_cl Z 182 [(2, ((191 : Nat) : Int)), (0, x), (0, y)] (K, σ, 206, e, s)) K e s σ N R c X L 1 0) ∧ ((0 ≤ x ∧ x < N 0 0) → ¬ (0 ≤ y ∧ y ≤ 2) → z_O (m_cl Z 182 [(2, ((191 : Nat) : Int)), (0, x), (0, y)] (K, σ, 206, e, s)) K e s σ N R c X L 2 0) ∧ ((0 ≤ x ∧ x < N 0 0) → (0 ≤ y ∧ y ≤ 2) → z_O (m_cl Z 182 [(2, ((191 : Nat) : Int)), (0, x), (0, y)] (K, σ, 206, e, s)) K e s σ N R c X L 0 (if y = 0 then N 2 x.toNat else if y = 1 then N 4 x.toNat else w_deg N x)) := by
  have h1 := z_isNode (Z := Z) (e := e) (s := s) hL h.1 hx
  have h2 := z_within2 (Z := Z) (h := (K, σ, 206, e, s)) (x := y) (y := 0) (z := 2) hy (by decide) (by decide)
  have hne := wf_n h.1.1
  refine ⟨fun hn => ?_, fun hn hm => ?_, fun hn hm => ?_⟩
  · rw [if_neg hn] at h1
    refine z_no h ?_
    simp only [e_182, b_182_0, b_182_6, b_182_9, b_182_13, b_182_19, b_182_22, b_182_26, b_182_27, b_182_30, b_182_33, b_182_37, b_182_43, ↓reduceIte, Nat.reduceEqDiff, Nat.reduceMul, q_n10, q_n01, Option.bind_some, g_aft0, g_aft1, g_aft2, g_aft3, g_aft9, Nat.reduceAdd, m_kill_0, m_kill_2, m_kill_3, m_kill_4, m_kill_9, true_or, or_true, q_lm1, q_l0, q_l1, q_l2, q_l3, q_l4, q_l5, q_l6, q_l8, q_l9, q_l10, q_l12, q_l17, q_l32, q_l35, q_l48, q_l50, q_l54, q_l57, q_l64, q_l73, q_l118, q_l119, q_l120, q_l122, q_l126, q_l160, q_l256, q_l365, q_l372, q_l438, q_l1000, q_l100000, q_l1000000, q_modF hL.2.2.2.2.2.2.1, h1, z_ref1 hL (x := 1) (by decide) (by decide)]
  · rw [if_pos hn] at h1
    rw [if_neg hm] at h2
    refine z_no h ?_
    simp only [e_182, b_182_0, b_182_6, b_182_9, b_182_13, b_182_19, b_182_22, b_182_26, b_182_27, b_182_30, b_182_33, b_182_37, b_182_43, ↓reduceIte, Nat.reduceEqDiff, Nat.reduceMul, q_n10, q_n01, Option.bind_some, g_aft0, g_aft1, g_aft2, g_aft3, g_aft9, Nat.reduceAdd, m_kill_0, m_kill_2, m_kill_3, m_kill_4, m_kill_9, true_or, or_true, q_lm1, q_l0, q_l1, q_l2, q_l3, q_l4, q_l5, q_l6, q_l8, q_l9, q_l10, q_l12, q_l17, q_l32, q_l35, q_l48, q_l50, q_l54, q_l57, q_l64, q_l73, q_l118, q_l119, q_l120, q_l122, q_l126, q_l160, q_l256, q_l365, q_l372, q_l438, q_l1000, q_l100000, q_l1000000, q_modF hL.2.2.2.2.2.2.1, h1, h2, z_ref1 hL (x := 2) (by decide) (by decide)]
  · rw [if_pos hn] at h1
    rw [if_pos hm] at h2
    have ex : ((x.toNat : Nat) : Int) = x := by clear hx hy h1 h2; omega
    have o1 := z_nodeTold (Z := Z) (e := e) (s := s) (i := x.toNat) hL (z_inv4 (v := 0) h).1 (by clear hx hy h1 h2; omega) hm.1 hm.2
    rw [ex] at o1
    refine ⟨m_up2 σ 191 4 0, ?_, m_up2_at, z_inv4 h, z_fr_u z_fr_r (by omega) (by omega)⟩
    simp only [e_182, b_182_0, b_182_6, b_182_9, b_182_13, b_182_19, b_182_22, b_182_26, b_182_27, b_182_30, b_182_33, b_182_37, b_182_43, ↓reduceIte, Nat.reduceEqDiff, Nat.reduceMul, q_n10, q_n01, Option.bind_some, g_aft0, g_aft1, g_aft2, g_aft3, g_aft9, Nat.reduceAdd, m_kill_0, m_kill_2, m_kill_3, m_kill_4, m_kill_9, true_or, or_true, q_lm1, q_l0, q_l1, q_l2, q_l3, q_l4, q_l5, q_l6, q_l8, q_l9, q_l10, q_l12, q_l17, q_l32, q_l35, q_l48, q_l50, q_l54, q_l57, q_l64, q_l73, q_l118, q_l119, q_l120, q_l122, q_l126, q_l160, q_l256, q_l365, q_l372, q_l438, q_l1000, q_l100000, q_l1000000, q_modF hL.2.2.2.2.2.2.1, h1, h2, z_ref0 hL, o1]
theorem z_stretch (hL : q_lay K) (h : z_inv σ N R c X L) (hx : w32 x = x) (hy : w32 y = y) : (¬ (0 ≤ x ∧ x < N 0 2) → z_O (m_cl Z 183 [(2, ((191 : Nat) : Int)), (0, x), (0, y)] (K, σ, 206, e, s)) K e s σ N R c X L 1 0) ∧ ((0 ≤ x ∧ x < N 0 2) → ¬ (0 ≤ y ∧ y ≤ 2) → z_O (m_cl Z 183 [(2, ((191 : Nat) : Int)), (0, x), (0, y)] (K, σ, 206, e, s)) K e s σ N R c X L 2 0) ∧ ((0 ≤ x ∧ x < N 0 2) → (0 ≤ y ∧ y ≤ 2) → z_O (m_cl Z 183 [(2, ((191 : Nat) : Int)), (0, x), (0, y)] (K, σ, 206, e, s)) K e s σ N R c X L 0 (if y = 0 then N 12 x.toNat else if y = 1 then N 14 x.toNat else N 16 x.toNat)) := by
  have hs := z_smany (Z := Z) (e := e) (s := s) hL h.1
  have h1 := z_isStr (Z := Z) (K := K) (e := e) (s := s) h.1 hx
  have h2 := z_within2 (Z := Z) (h := (K, σ, 206, e, s)) (x := y) (y := 0) (z := 2) hy (by decide) (by decide)
  have hne := wf_s h.1.1
  refine ⟨fun hn => ?_, fun hn hm => ?_, fun hn hm => ?_⟩
  · rw [if_neg hn] at h1
    refine z_no h ?_
    simp only [e_183, b_183_0, b_183_7, b_183_12, b_183_15, b_183_19, b_183_25, b_183_28, b_183_32, b_183_33, b_183_36, b_183_39, b_183_43, b_183_49, ↓reduceIte, Nat.reduceEqDiff, Nat.reduceMul, q_n10, q_n01, Option.bind_some, g_aft0, g_aft1, g_aft2, g_aft3, g_aft9, Nat.reduceAdd, m_kill_0, m_kill_2, m_kill_3, m_kill_4, m_kill_9, true_or, or_true, q_lm1, q_l0, q_l1, q_l2, q_l3, q_l4, q_l5, q_l6, q_l8, q_l9, q_l10, q_l12, q_l17, q_l32, q_l35, q_l48, q_l50, q_l54, q_l57, q_l64, q_l73, q_l118, q_l119, q_l120, q_l122, q_l126, q_l160, q_l256, q_l365, q_l372, q_l438, q_l1000, q_l100000, q_l1000000, q_modF hL.2.2.2.2.2.2.1, hs, h1, z_ref1 hL (x := 1) (by decide) (by decide)]
  · rw [if_pos hn] at h1
    rw [if_neg hm] at h2
    refine z_no h ?_
    simp only [e_183, b_183_0, b_183_7, b_183_12, b_183_15, b_183_19, b_183_25, b_183_28, b_183_32, b_183_33, b_183_36, b_183_39, b_183_43, b_183_49, ↓reduceIte, Nat.reduceEqDiff, Nat.reduceMul, q_n10, q_n01, Option.bind_some, g_aft0, g_aft1, g_aft2, g_aft3, g_aft9, Nat.reduceAdd, m_kill_0, m_kill_2, m_kill_3, m_kill_4, m_kill_9, true_or, or_true, q_lm1, q_l0, q_l1, q_l2, q_l3, q_l4, q_l5, q_l6, q_l8, q_l9, q_l10, q_l12, q_l17, q_l32, q_l35, q_l48, q_l50, q_l54, q_l57, q_l64, q_l73, q_l118, q_l119, q_l120, q_l122, q_l126, q_l160, q_l256, q_l365, q_l372, q_l438, q_l1000, q_l100000, q_l1000000, q_modF hL.2.2.2.2.2.2.1, hs, h1, h2, z_ref1 hL (x := 2) (by decide) (by decide)]
  · rw [if_pos hn] at h1
    rw [if_pos hm] at h2
    have ex : ((x.toNat : Nat) : Int) = x := by clear hx hy h1 h2; omega
    obtain ⟨o1, o2, o3⟩ := z_at (Z := Z) (e := e) (s := s) hL (z_inv4 (v := 0) h).1 (k := x.toNat) (by clear hx hy h1 h2; omega)
    rw [ex] at o1 o2 o3
    refine ⟨m_up2 σ 191 4 0, ?_, m_up2_at, z_inv4 h, z_fr_u z_fr_r (by omega) (by omega)⟩
    rcases (show y = 0 ∨ y = 1 ∨ y = 2 by clear hx hy h1 h2; omega) with rfl | rfl | rfl
    · rw [if_pos rfl]
      simp only [e_183, b_183_0, b_183_7, b_183_12, b_183_15, b_183_19, b_183_25, b_183_28, b_183_32, b_183_33, b_183_36, b_183_39, b_183_43, b_183_49, ↓reduceIte, Nat.reduceEqDiff, Nat.reduceMul, q_n10, q_n01, Option.bind_some, g_aft0, g_aft1, g_aft2, g_aft3, g_aft9, Nat.reduceAdd, m_kill_0, m_kill_2, m_kill_3, m_kill_4, m_kill_9, true_or, or_true, q_lm1, q_l0, q_l1, q_l2, q_l3, q_l4, q_l5, q_l6, q_l8, q_l9, q_l10, q_l12, q_l17, q_l32, q_l35, q_l48, q_l50, q_l54, q_l57, q_l64, q_l73, q_l118, q_l119, q_l120, q_l122, q_l126, q_l160, q_l256, q_l365, q_l372, q_l438, q_l1000, q_l100000, q_l1000000, q_modF hL.2.2.2.2.2.2.1, hs, h1, h2, z_ref0 hL, o1]
    · rw [if_neg (by decide), if_pos rfl]
      simp only [e_183, b_183_0, b_183_7, b_183_12, b_183_15, b_183_19, b_183_25, b_183_28, b_183_32, b_183_33, b_183_36, b_183_39, b_183_43, b_183_49, ↓reduceIte, Nat.reduceEqDiff, Nat.reduceMul, q_n10, q_n01, Option.bind_some, g_aft0, g_aft1, g_aft2, g_aft3, g_aft9, Nat.reduceAdd, m_kill_0, m_kill_2, m_kill_3, m_kill_4, m_kill_9, true_or, or_true, q_lm1, q_l0, q_l1, q_l2, q_l3, q_l4, q_l5, q_l6, q_l8, q_l9, q_l10, q_l12, q_l17, q_l32, q_l35, q_l48, q_l50, q_l54, q_l57, q_l64, q_l73, q_l118, q_l119, q_l120, q_l122, q_l126, q_l160, q_l256, q_l365, q_l372, q_l438, q_l1000, q_l100000, q_l1000000, q_modF hL.2.2.2.2.2.2.1, hs, h1, h2, z_ref0 hL, o2]
    · rw [if_neg (by decide), if_neg (by decide)]
      simp only [e_183, b_183_0, b_183_7, b_183_12, b_183_15, b_183_19, b_183_25, b_183_28, b_183_32, b_183_33, b_183_36, b_183_39, b_183_43, b_183_49, ↓reduceIte, Nat.reduceEqDiff, Nat.reduceMul, q_n10, q_n01, Option.bind_some, g_aft0, g_aft1, g_aft2, g_aft3, g_aft9, Nat.reduceAdd, m_kill_0, m_kill_2, m_kill_3, m_kill_4, m_kill_9, true_or, or_true, q_lm1, q_l0, q_l1, q_l2, q_l3, q_l4, q_l5, q_l6, q_l8, q_l9, q_l10, q_l12, q_l17, q_l32, q_l35, q_l48, q_l50, q_l54, q_l57, q_l64, q_l73, q_l118, q_l119, q_l120, q_l122, q_l126, q_l160, q_l256, q_l365, q_l372, q_l438, q_l1000, q_l100000, q_l1000000, q_modF hL.2.2.2.2.2.2.1, hs, h1, h2, z_ref0 hL, o3]
theorem z_diameter (hL : q_lay K) (h : z_inv σ N R c X L) : ∃ v, z_O (m_cl Z 189 [(2, ((191 : Nat) : Int))] (K, σ, 206, e, s)) K e s σ N R c X L 0 v ∧ (w_cn N → v = w_gd (w_D N) (w_nn N)) ∧ (¬ w_cn N → v = -1) := by
  obtain ⟨τ, v, t1, t2, t3, t4, t5⟩ := z_conn (Z := Z) (e := e) (s := s) hL (z_inv4 (v := 0) h).1
  have hO : ∀ b, m_cl Z 189 [(2, ((191 : Nat) : Int))] (K, σ, 206, e, s) = some (.inl (0, b), (K, τ, 206, e, s)) → z_O (m_cl Z 189 [(2, ((191 : Nat) : Int))] (K, σ, 206, e, s)) K e s σ N R c X L 0 b := fun b hb => ⟨τ, hb, by rw [t3 191 (by omega), m_up2_at], z_inv6 (z_inv4 h) t3, fun a ha => by rw [t3 a (by omega), m_up2_ne (by omega)]⟩
  have hw := h.1.1
  have n0 := wf_n hw
  by_cases hc : w_cn N
  · refine ⟨w_gd (w_D N) (w_nn N), hO _ ?_, fun _ => rfl, fun q => absurd hc q⟩
    rw [t4 hc] at t1
    have hn' : z_n τ N := z_nF h.1 (by rw [t3 192 (by omega), m_up2_ne (by omega)])
    have hm := z_many (Z := Z) (e := e) (s := s) hL hn'
    have wn : w32 (N 0 0) = N 0 0 := q_wi (by omega) (by omega)
    have hD : ∀ a b, a < w_nn N → b < w_nn N → τ 196 (8 * a + b) = w_D N a b := fun a b ha hb => by
      rw [t2 a b ha hb]
      exact (d_cap_lt hw).2.1 (by have := w_D_cn hw hc ha hb; clear wn; omega)
    have gb := w_gd_b hw (w_nn N)
    obtain ⟨y, y1, y2⟩ := q_loop (Z := Z) (N := w_nn N) (α := mV) (S := fun a l => (189, 18, [(2, ((191 : Nat) : Int)), (0, q_it (fun a x => q_it (fun b y => if y < w_D N a b then w_D N a b else y) (w_nn N) x) a 0), (0, (a : Int)), l], [], (K, τ, 206, e, s))) (P := fun _ _ => True) (by
      intro a l ha _
      have wa : w32 (a : Int) = (a : Int) := q_w (by clear wn; omega)
      have ca : ¬ N 0 0 ≤ (a : Int) := by clear wn wa; omega
      obtain ⟨G, hG⟩ : ∃ G, G = q_it (fun a x => q_it (fun b y => if y < w_D N a b then w_D N a b else y) (w_nn N) x) a 0 := ⟨_, rfl⟩
      have gG : 0 ≤ G ∧ G ≤ 1000000 := by rw [hG]; exact gb a
      have inv := q_it_inv (f := fun b y => if y < w_D N a b then w_D N a b else y) (P := fun _ y => 0 ≤ y ∧ y ≤ 1000000) (x := G) (n := w_nn N) gG (fun b y hb hy => by
        have := w_D_b hw a b
        show 0 ≤ (if y < w_D N a b then w_D N a b else y) ∧ (if y < w_D N a b then w_D N a b else y) ≤ 1000000
        split <;> omega)
      have lp := q_loopf (Z := Z) (N := w_nn N) (S := fun b => (189, 28, [(2, ((191 : Nat) : Int)), (0, q_it (fun b y => if y < w_D N a b then w_D N a b else y) b G), (0, (a : Int)), (0, (b : Int))], [], (K, τ, 206, e, s))) (by
        intro b hb
        have wb : w32 (b : Int) = (b : Int) := q_w (by clear wn wa; omega)
        have cb : ¬ N 0 0 ≤ (b : Int) := by clear wn wa wb; omega
        obtain ⟨i1, i2, i3⟩ := z_fix (a := a) (b := b) (by clear wn wa wb; omega) (by clear wn wa wb; omega)
        have hd := hD a b ha hb
        have bd := w_D_b hw a b
        have iv := inv b (by clear wn wa wb i1 i2 i3; omega)
        have e1 : (((b + 1 : Nat)) : Int) = (b : Int) + 1 := rfl
        rw [e1, q_it_s]
        generalize q_it (fun b y => if y < w_D N a b then w_D N a b else y) b G = Y at *
        have wY : w32 Y = Y := by clear wn wa wb i1 i2 i3; exact q_wi (by omega) (by omega)
        have wD : w32 (w_D N a b) = w_D N a b := by clear wn wa wb i1 i2 i3 wY; exact q_wi (by omega) (by omega)
        conv => lhs; simp only [b_189_28, ↓reduceIte, Nat.reduceEqDiff, Nat.reduceMul, q_n10, q_n01, Option.bind_some, g_aft0, g_aft1, g_aft2, g_aft3, g_aft9, Nat.reduceAdd, m_kill_0, m_kill_2, m_kill_3, m_kill_4, m_kill_9, true_or, or_true, q_lm1, q_l0, q_l1, q_l2, q_l3, q_l4, q_l5, q_l6, q_l8, q_l9, q_l10, q_l12, q_l17, q_l32, q_l35, q_l48, q_l50, q_l54, q_l57, q_l64, q_l73, q_l118, q_l119, q_l120, q_l122, q_l126, q_l160, q_l256, q_l365, q_l372, q_l438, q_l1000, q_l100000, q_l1000000, q_modF hL.2.2.2.2.2.2.1, hm]
        conv => lhs; simp only [b_189_33, ↓reduceIte, Nat.reduceEqDiff, Nat.reduceMul, q_n10, q_n01, Option.bind_some, g_aft0, g_aft1, g_aft2, g_aft3, g_aft9, Nat.reduceAdd, m_kill_0, m_kill_2, m_kill_3, m_kill_4, m_kill_9, true_or, or_true, q_lm1, q_l0, q_l1, q_l2, q_l3, q_l4, q_l5, q_l6, q_l8, q_l9, q_l10, q_l12, q_l17, q_l32, q_l35, q_l48, q_l50, q_l54, q_l57, q_l64, q_l73, q_l118, q_l119, q_l120, q_l122, q_l126, q_l160, q_l256, q_l365, q_l372, q_l438, q_l1000, q_l100000, q_l1000000, wb, wn, cb]
        by_cases c1 : Y < w_D N a b
        · rw [if_pos c1]
          simp only [b_189_36, b_189_51, ↓reduceIte, Nat.reduceEqDiff, Nat.reduceMul, q_n10, q_n01, Option.bind_some, g_aft0, g_aft1, g_aft2, g_aft3, g_aft9, Nat.reduceAdd, m_kill_0, m_kill_2, m_kill_3, m_kill_4, m_kill_9, true_or, or_true, q_lm1, q_l0, q_l1, q_l2, q_l3, q_l4, q_l5, q_l6, q_l8, q_l9, q_l10, q_l12, q_l17, q_l32, q_l35, q_l48, q_l50, q_l54, q_l57, q_l64, q_l73, q_l118, q_l119, q_l120, q_l122, q_l126, q_l160, q_l256, q_l365, q_l372, q_l438, q_l1000, q_l100000, q_l1000000, q_modF hL.2.2.2.2.2.2.1, i1, i2, i3, hd, wD, wY, Int.not_le.mpr c1]
        · rw [if_neg c1]
          simp only [b_189_36, b_189_65, b_189_66, ↓reduceIte, Nat.reduceEqDiff, Nat.reduceMul, q_n10, q_n01, Option.bind_some, g_aft0, g_aft1, g_aft2, g_aft3, g_aft9, Nat.reduceAdd, m_kill_0, m_kill_2, m_kill_3, m_kill_4, m_kill_9, true_or, or_true, q_lm1, q_l0, q_l1, q_l2, q_l3, q_l4, q_l5, q_l6, q_l8, q_l9, q_l10, q_l12, q_l17, q_l32, q_l35, q_l48, q_l50, q_l54, q_l57, q_l64, q_l73, q_l118, q_l119, q_l120, q_l122, q_l126, q_l160, q_l256, q_l365, q_l372, q_l438, q_l1000, q_l100000, q_l1000000, q_modF hL.2.2.2.2.2.2.1, i1, i2, i3, hd, wD, wY, Int.not_lt.mp c1])
      have e1 : (((a + 1 : Nat)) : Int) = (a : Int) + 1 := rfl
      refine ⟨(0, (w_nn N : Int)), ?_, trivial⟩
      rw [e1, q_it_s, ← hG]
      conv => lhs; simp only [b_189_18, ↓reduceIte, Nat.reduceEqDiff, Nat.reduceMul, q_n10, q_n01, Option.bind_some, g_aft0, g_aft1, g_aft2, g_aft3, g_aft9, Nat.reduceAdd, m_kill_0, m_kill_2, m_kill_3, m_kill_4, m_kill_9, true_or, or_true, q_lm1, q_l0, q_l1, q_l2, q_l3, q_l4, q_l5, q_l6, q_l8, q_l9, q_l10, q_l12, q_l17, q_l32, q_l35, q_l48, q_l50, q_l54, q_l57, q_l64, q_l73, q_l118, q_l119, q_l120, q_l122, q_l126, q_l160, q_l256, q_l365, q_l372, q_l438, q_l1000, q_l100000, q_l1000000, q_modF hL.2.2.2.2.2.2.1, hm]
      conv => lhs; simp only [b_189_23, b_189_26, ↓reduceIte, Nat.reduceEqDiff, Nat.reduceMul, q_n10, q_n01, Option.bind_some, g_aft0, g_aft1, g_aft2, g_aft3, g_aft9, Nat.reduceAdd, m_kill_0, m_kill_2, m_kill_3, m_kill_4, m_kill_9, true_or, or_true, q_lm1, q_l0, q_l1, q_l2, q_l3, q_l4, q_l5, q_l6, q_l8, q_l9, q_l10, q_l12, q_l17, q_l32, q_l35, q_l48, q_l50, q_l54, q_l57, q_l64, q_l73, q_l118, q_l119, q_l120, q_l122, q_l126, q_l160, q_l256, q_l365, q_l372, q_l438, q_l1000, q_l100000, q_l1000000, wa, wn, ca]
      refine Eq.trans lp ?_
      rw [n0.1] at hm wn
      conv => lhs; simp only [b_189_28, ↓reduceIte, Nat.reduceEqDiff, Nat.reduceMul, q_n10, q_n01, Option.bind_some, g_aft0, g_aft1, g_aft2, g_aft3, g_aft9, Nat.reduceAdd, m_kill_0, m_kill_2, m_kill_3, m_kill_4, m_kill_9, true_or, or_true, q_lm1, q_l0, q_l1, q_l2, q_l3, q_l4, q_l5, q_l6, q_l8, q_l9, q_l10, q_l12, q_l17, q_l32, q_l35, q_l48, q_l50, q_l54, q_l57, q_l64, q_l73, q_l118, q_l119, q_l120, q_l122, q_l126, q_l160, q_l256, q_l365, q_l372, q_l438, q_l1000, q_l100000, q_l1000000, q_modF hL.2.2.2.2.2.2.1, hm]
      conv => lhs; simp only [b_189_33, b_189_73, ↓reduceIte, Nat.reduceEqDiff, Nat.reduceMul, q_n10, q_n01, Option.bind_some, g_aft0, g_aft1, g_aft2, g_aft3, g_aft9, Nat.reduceAdd, m_kill_0, m_kill_2, m_kill_3, m_kill_4, m_kill_9, true_or, or_true, q_lm1, q_l0, q_l1, q_l2, q_l3, q_l4, q_l5, q_l6, q_l8, q_l9, q_l10, q_l12, q_l17, q_l32, q_l35, q_l48, q_l50, q_l54, q_l57, q_l64, q_l73, q_l118, q_l119, q_l120, q_l122, q_l126, q_l160, q_l256, q_l365, q_l372, q_l438, q_l1000, q_l100000, q_l1000000, wn, Int.le_refl]) (w_nn N) 0 (9, 0) (by clear wn; omega) trivial
    simp only [e_189, b_189_0, b_189_9, b_189_14, ↓reduceIte, Nat.reduceEqDiff, Nat.reduceMul, q_n10, q_n01, Option.bind_some, g_aft0, g_aft1, g_aft2, g_aft3, g_aft9, Nat.reduceAdd, m_kill_0, m_kill_2, m_kill_3, m_kill_4, m_kill_9, true_or, or_true, q_lm1, q_l0, q_l1, q_l2, q_l3, q_l4, q_l5, q_l6, q_l8, q_l9, q_l10, q_l12, q_l17, q_l32, q_l35, q_l48, q_l50, q_l54, q_l57, q_l64, q_l73, q_l118, q_l119, q_l120, q_l122, q_l126, q_l160, q_l256, q_l365, q_l372, q_l438, q_l1000, q_l100000, q_l1000000, q_modF hL.2.2.2.2.2.2.1, t1]
    refine Eq.trans y1 ?_
    rw [n0.1] at hm wn
    conv => lhs; simp only [b_189_18, ↓reduceIte, Nat.reduceEqDiff, Nat.reduceMul, q_n10, q_n01, Option.bind_some, g_aft0, g_aft1, g_aft2, g_aft3, g_aft9, Nat.reduceAdd, m_kill_0, m_kill_2, m_kill_3, m_kill_4, m_kill_9, true_or, or_true, q_lm1, q_l0, q_l1, q_l2, q_l3, q_l4, q_l5, q_l6, q_l8, q_l9, q_l10, q_l12, q_l17, q_l32, q_l35, q_l48, q_l50, q_l54, q_l57, q_l64, q_l73, q_l118, q_l119, q_l120, q_l122, q_l126, q_l160, q_l256, q_l365, q_l372, q_l438, q_l1000, q_l100000, q_l1000000, q_modF hL.2.2.2.2.2.2.1, hm]
    simp only [b_189_23, b_189_79, ↓reduceIte, Nat.reduceEqDiff, Nat.reduceMul, q_n10, q_n01, Option.bind_some, g_aft0, g_aft1, g_aft2, g_aft3, g_aft9, Nat.reduceAdd, m_kill_0, m_kill_2, m_kill_3, m_kill_4, m_kill_9, true_or, or_true, q_lm1, q_l0, q_l1, q_l2, q_l3, q_l4, q_l5, q_l6, q_l8, q_l9, q_l10, q_l12, q_l17, q_l32, q_l35, q_l48, q_l50, q_l54, q_l57, q_l64, q_l73, q_l118, q_l119, q_l120, q_l122, q_l126, q_l160, q_l256, q_l365, q_l372, q_l438, q_l1000, q_l100000, q_l1000000, wn, Int.le_refl]
    rfl
  · refine ⟨-1, hO _ ?_, fun q => absurd q hc, fun _ => rfl⟩
    rw [t5 hc] at t1
    simp only [e_189, b_189_0, b_189_9, b_189_12, ↓reduceIte, Nat.reduceEqDiff, Nat.reduceMul, q_n10, q_n01, Option.bind_some, g_aft0, g_aft1, g_aft2, g_aft3, g_aft9, Nat.reduceAdd, m_kill_0, m_kill_2, m_kill_3, m_kill_4, m_kill_9, true_or, or_true, q_lm1, q_l0, q_l1, q_l2, q_l3, q_l4, q_l5, q_l6, q_l8, q_l9, q_l10, q_l12, q_l17, q_l32, q_l35, q_l48, q_l50, q_l54, q_l57, q_l64, q_l73, q_l118, q_l119, q_l120, q_l122, q_l126, q_l160, q_l256, q_l365, q_l372, q_l438, q_l1000, q_l100000, q_l1000000, q_modF hL.2.2.2.2.2.2.1, t1]
end
end
