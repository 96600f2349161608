section
/-! areGroups answers true. -/
section
variable {Z : mZ} {K : Nat → mK} {N : Nat → Nat → Int} {R : Nat → Nat → Nat → Int} {c j S k i r : Nat} {ρ : Int} {l9 : mV} {h : mH}
noncomputable def gA (N : Nat → Nat → Int) (k : Nat) : Int := q_pt (vv_k N k) 0
noncomputable def gB (N : Nat → Nat → Int) (k : Nat) : Int := q_pt (vv_k N k) 1
theorem g_bd (hw : q_wf N) (hd : y_cc N) (hy : y_gF N 0 (vv_f N).1 (vv_f N).2.1 (vv_f N).2.2) (hk : 1 ≤ k) (hk3 : k ≤ 3) : (w32 (gA N k) = gA N k ∧ 0 ≤ gA N k ∧ gA N k ≤ 2147483647) ∧ w32 (gB N k) = gB N k ∧ 1 ≤ gB N k ∧ gB N k ≤ 1000 := by
  obtain ⟨S, hS⟩ := vv_k_ex hw hd hy hk hk3
  obtain ⟨-, h1, h2, -⟩ := c_bd (S := S) hw hd
  unfold gA gB
  rw [hS]
  exact ⟨h1, h2⟩
theorem gF : fr (gA N k) (gB N k) = vv_k N k := q_ptf _
theorem g_eq : (cA N r = gA N k ∧ cB N r = gB N k) ↔ vv_r N (r : Int) = vv_k N k := by
  constructor
  · rintro ⟨h1, h2⟩
    rw [← gF, ← h1, ← h2]
    exact (q_ptf _).symm
  · intro h
    unfold cA cB gA gB
    rw [h]
    exact ⟨rfl, rfl⟩
theorem L_radOf (hL : q_lay K) (w : l_S K h N R c j) (hj : j < 600000) {u : Int} (hk : 1 ≤ k) (hk3 : k ≤ 3) (hu : u = 0 ∨ u = 1) (hd : y_cc N) : l_C K (m_cl Z 265 [(2, ((0 : Nat) : Int)), (0, (k : Int)), (0, u)] h) (q_pt (vv_k N k) u) N R c (j + 1) ∧ ∃ f1 f2 f3, y_gF N 0 f1 f2 f3 := by
  have h1 := L_radiusOf (Z := Z) (x := (k : Int)) (u := u) hL w hj ⟨by omega, by omega⟩ hu hd
  rw [Int.toNat_natCast] at h1
  exact h1
theorem L_grp (hL : q_lay K) (w : l_S K h N R c j) (hj : j < 600000) (hk : 1 ≤ k) (hk3 : k ≤ 3) (hi : i < k) (hd : y_cc N) : l_C K (m_cl Z 266 [(2, ((0 : Nat) : Int)), (0, (k : Int)), (0, (i : Int))] h) ((vv_g N k i : Nat) : Int) N R c (j + 1) := by
  have h1 := (L_group (Z := Z) (x := (k : Int)) (y := (i : Int)) hL w hj ⟨by omega, by omega⟩ ⟨by omega, by omega⟩ hd).1
  rw [Int.toNat_natCast, Int.toNat_natCast] at h1
  exact h1
/-- one group -/
theorem t_grp1 (hL : q_lay K) (w : l_S K h N R c j) (hj : j < 500000) (hd : y_cc N) (hy : y_gF N 0 (vv_f N).1 (vv_f N).2.1 (vv_f N).2.2) (hk : 1 ≤ k) (hk3 : k ≤ 3) (hi : i < k) (hr : vv_g N k i = r) (hrb : r < 2 ^ w_nn N) {set : Nat} (hset : set < 256) (hdis : r &&& set = 0) (hle : vv_r N (r : Int) ≤ vv_k N k) (hρ : ρ = 0 ∨ ρ = 1) : ∃ h', l_S K h' N R c (j + 5) ∧ m_run Z (279, 96, [(2, ((0 : Nat) : Int)), (0, (k : Int)), (0, (vv_A N : Int)), (0, gA N k), (0, gB N k), (0, (set : Int)), (0, 1), (0, ρ), (0, (i : Int)), l9], [], h) = m_run Z (279, 96, [(2, ((0 : Nat) : Int)), (0, (k : Int)), (0, (vv_A N : Int)), (0, gA N k), (0, gB N k), (0, ((set ||| r : Nat) : Int)), (0, 1), (0, if ρ = 1 then 1 else if vv_r N (r : Int) = vv_k N k then 1 else 0), (0, (i : Int) + 1), (0, (r : Int))], [], h') := by
  have hw := l_Sw w
  have p8 := q_pow8 (wf_n hw).2.2
  have r256 : r < 256 := Nat.lt_of_lt_of_le hrb p8.2
  obtain ⟨A1, A2, A3, -⟩ := vv_Ab hw
  obtain ⟨⟨b1, b2⟩, b3, b4⟩ := g_bd hw hd hy hk hk3
  obtain ⟨-, ⟨d1, d2⟩, ⟨d3, d4⟩, -⟩ := c_bd (S := r) hw hd
  have wk : w32 (k : Int) = (k : Int) := q_w (by clear b1 b3 d1 d3; omega)
  have wi : w32 (i : Int) = (i : Int) := q_w (by clear b1 b3 d1 d3 wk; omega)
  have c0 : ¬ (k : Int) ≤ (i : Int) := by clear b1 b3 d1 d3 wk wi; omega
  have a1 : i_and (r : Int) (set : Int) = 0 := by rw [q_and r256 hset, hdis]; rfl
  have a2 : i_and (r : Int) (i_xor (vv_A N : Int) (-1)) = 0 := (w_sub_m A2 r256).mpr (w_suball (wf_n hw).2.2 hrb)
  have a3 : i_or (set : Int) (r : Int) = ((set ||| r : Nat) : Int) := q_or hset r256
  obtain ⟨h1, e1, w1⟩ := L_grp (Z := Z) hL w (by clear b1 b3 d1 d3 wk wi; omega) hk hk3 hi hd
  rw [hr] at e1
  obtain ⟨h2, e2, w2⟩ := L_radius0 (Z := Z) hL w1 (by clear b1 b3 d1 d3 wk wi; omega) hrb hd
  obtain ⟨h3, e3, w3⟩ := L_radius1 (Z := Z) hL w2 (by clear b1 b3 d1 d3 wk wi; omega) hrb hd
  have k1 := q_ptle.mpr hle
  have t1 := t_most (Z := Z) (h := h3) (x := cA N r) (y := cB N r) (z := gA N k) (u := gB N k) d2 ⟨by clear b1 b3 d1 d3 wk wi; omega, by clear b1 b3 d1 d3 wk wi; omega⟩ b2 ⟨by clear b1 b3 d1 d3 wk wi; omega, by clear b1 b3 d1 d3 wk wi; omega⟩ k1
  conv => enter [1, h', 2, 1]; rw [b_279_96, wk, wi, if_neg c0]
  rcases hρ with rfl | rfl
  · obtain ⟨h4, e4, w4⟩ := L_radius0 (Z := Z) hL w3 (by clear b1 b3 d1 d3 wk wi; omega) hrb hd
    by_cases q1 : cA N r = gA N k
    · obtain ⟨h5, e5, w5⟩ := L_radius1 (Z := Z) hL w4 (by clear b1 b3 d1 d3 wk wi; omega) hrb hd
      refine ⟨h5, l_Sm w5 (by clear b1 b3 d1 d3 wk wi; omega), ?_⟩
      by_cases q2 : cB N r = gB N k
      · have q3 := g_eq.mp ⟨q1, q2⟩
        rw [q1] at e2 e4 t1
        rw [q2] at e3 e5 t1
        simp only [b_279_0, b_279_6, b_279_16, b_279_23, b_279_33, b_279_46, b_279_55, b_279_59, b_279_62, b_279_69, b_279_72, b_279_80, b_279_83, b_279_87, b_279_88, b_279_102, b_279_107, b_279_114, b_279_124, b_279_133, b_279_140, b_279_148, b_279_157, b_279_160, b_279_164, b_279_165, b_279_172, b_279_179, b_279_183, b_279_190, b_279_195, b_279_199, b_279_200, b_279_215, b_279_225, b_279_231, b_279_233, b_279_236, b_279_243, b_279_248, b_279_254, b_279_262, b_279_268, b_279_274, b_279_282, b_279_292, b_279_297, b_279_301, b_279_302, ↓reduceIte, Nat.reduceEqDiff, Nat.reduceMul, q_n10, q_n01, Option.bind_some, g_aft0, g_aft1, g_aft2, g_aft3, g_aft9, Nat.reduceAdd, m_kill_0, m_kill_2, m_kill_3, m_kill_4, m_kill_9, true_or, or_true, q_lm53, q_lm52, q_lm51, q_lm1, q_l0, q_l1, q_l2, q_l3, q_l4, q_l5, q_l6, q_l7, q_l8, q_l9, q_l10, q_l11, q_l12, q_l20, q_l32, q_l50, q_l64, q_l80, q_l120, q_l122, q_l126, q_l372, q_l1000, q_l1000000, e1, a1, a2, a3, e2, e3, b1, b3, t1, e4, e5, q3]
      · have q3 : ¬ vv_r N (r : Int) = vv_k N k := fun q => q2 (g_eq.mpr q).2
        rw [q1] at e2 e4 t1
        simp only [b_279_0, b_279_6, b_279_16, b_279_23, b_279_33, b_279_46, b_279_55, b_279_59, b_279_62, b_279_69, b_279_72, b_279_80, b_279_83, b_279_87, b_279_88, b_279_102, b_279_107, b_279_114, b_279_124, b_279_133, b_279_140, b_279_148, b_279_157, b_279_160, b_279_164, b_279_165, b_279_172, b_279_179, b_279_183, b_279_190, b_279_195, b_279_199, b_279_200, b_279_215, b_279_225, b_279_231, b_279_233, b_279_236, b_279_243, b_279_248, b_279_254, b_279_262, b_279_268, b_279_274, b_279_282, b_279_292, b_279_297, b_279_301, b_279_302, ↓reduceIte, Nat.reduceEqDiff, Nat.reduceMul, q_n10, q_n01, Option.bind_some, g_aft0, g_aft1, g_aft2, g_aft3, g_aft9, Nat.reduceAdd, m_kill_0, m_kill_2, m_kill_3, m_kill_4, m_kill_9, true_or, or_true, q_lm53, q_lm52, q_lm51, q_lm1, q_l0, q_l1, q_l2, q_l3, q_l4, q_l5, q_l6, q_l7, q_l8, q_l9, q_l10, q_l11, q_l12, q_l20, q_l32, q_l50, q_l64, q_l80, q_l120, q_l122, q_l126, q_l372, q_l1000, q_l1000000, e1, a1, a2, a3, e2, e3, b1, b3, d3, t1, e4, e5, q2, q3]
    · have q3 : ¬ vv_r N (r : Int) = vv_k N k := fun q => q1 (g_eq.mpr q).1
      refine ⟨h4, l_Sm w4 (by clear b1 b3 d1 d3 wk wi; omega), ?_⟩
      simp only [b_279_0, b_279_6, b_279_16, b_279_23, b_279_33, b_279_46, b_279_55, b_279_59, b_279_62, b_279_69, b_279_72, b_279_80, b_279_83, b_279_87, b_279_88, b_279_102, b_279_107, b_279_114, b_279_124, b_279_133, b_279_140, b_279_148, b_279_157, b_279_160, b_279_164, b_279_165, b_279_172, b_279_179, b_279_183, b_279_190, b_279_195, b_279_199, b_279_200, b_279_215, b_279_225, b_279_231, b_279_233, b_279_236, b_279_243, b_279_248, b_279_254, b_279_262, b_279_268, b_279_274, b_279_282, b_279_292, b_279_297, b_279_301, b_279_302, ↓reduceIte, Nat.reduceEqDiff, Nat.reduceMul, q_n10, q_n01, Option.bind_some, g_aft0, g_aft1, g_aft2, g_aft3, g_aft9, Nat.reduceAdd, m_kill_0, m_kill_2, m_kill_3, m_kill_4, m_kill_9, true_or, or_true, q_lm53, q_lm52, q_lm51, q_lm1, q_l0, q_l1, q_l2, q_l3, q_l4, q_l5, q_l6, q_l7, q_l8, q_l9, q_l10, q_l11, q_l12, q_l20, q_l32, q_l50, q_l64, q_l80, q_l120, q_l122, q_l126, q_l372, q_l1000, q_l1000000, e1, a1, a2, a3, e2, e3, b1, b3, d1, d3, t1, e4, q1, q3]
  · refine ⟨h3, l_Sm w3 (by clear b1 b3 d1 d3 wk wi; omega), ?_⟩
    simp only [b_279_0, b_279_6, b_279_16, b_279_23, b_279_33, b_279_46, b_279_55, b_279_59, b_279_62, b_279_69, b_279_72, b_279_80, b_279_83, b_279_87, b_279_88, b_279_102, b_279_107, b_279_114, b_279_124, b_279_133, b_279_140, b_279_148, b_279_157, b_279_160, b_279_164, b_279_165, b_279_172, b_279_179, b_279_183, b_279_190, b_279_195, b_279_199, b_279_200, b_279_215, b_279_225, b_279_231, b_279_233, b_279_236, b_279_243, b_279_248, b_279_254, b_279_262, b_279_268, b_279_274, b_279_282, b_279_292, b_279_297, b_279_301, b_279_302, ↓reduceIte, Nat.reduceEqDiff, Nat.reduceMul, q_n10, q_n01, Option.bind_some, g_aft0, g_aft1, g_aft2, g_aft3, g_aft9, Nat.reduceAdd, m_kill_0, m_kill_2, m_kill_3, m_kill_4, m_kill_9, true_or, or_true, q_lm53, q_lm52, q_lm51, q_lm1, q_l0, q_l1, q_l2, q_l3, q_l4, q_l5, q_l6, q_l7, q_l8, q_l9, q_l10, q_l11, q_l12, q_l20, q_l32, q_l50, q_l64, q_l80, q_l120, q_l122, q_l126, q_l372, q_l1000, q_l1000000, e1, a1, a2, a3, e2, e3, b1, b3, d1, d3, t1]
theorem vv_few_b {x : Rat} {v : Int} (hw : q_wf N) (h : vv_few N x v) : 0 ≤ v ∧ v ≤ 8 := by
  obtain ⟨A1, A2, A3, -⟩ := vv_Ab hw
  obtain ⟨m, h, rfl⟩ := h
  have h : w_few (vv_f N).1 x 8 (vv_A N) m := h
  have key : ∀ T, T ≤ vv_A N → 0 ≤ m T := by
    intro T
    induction T using Nat.strongRecOn with
    | _ T ih =>
      intro hT
      by_cases c1 : T = 0
      · rw [c1, h.1]; decide
      · obtain ⟨a1, a2, a3⟩ := h.2 T (by omega) hT
        rcases a3 with a3 | ⟨a, c2, c3, c4, c5, c6⟩
        · rw [a3]; decide
        · have := ih (T - a) (by omega) (by omega)
          omega
  exact ⟨key _ (Nat.le_refl _), (h.2 (vv_A N) A3 (Nat.le_refl _)).1⟩
/-- the end: coverings -/
theorem t_grp2 (hL : q_lay K) (w : l_S K h N R c j) (hj : j < 500000) (hd : y_cc N) (hy : y_gF N 0 (vv_f N).1 (vv_f N).2.1 (vv_f N).2.2) (hk : 1 ≤ k) (hk3 : k ≤ 3) : l_C K (m_run Z (279, 96, [(2, ((0 : Nat) : Int)), (0, (k : Int)), (0, (vv_A N : Int)), (0, gA N k), (0, gB N k), (0, (vv_A N : Int)), (0, 1), (0, 1), (0, (k : Int)), l9], [], h)) 1 N R c (j + 3) := by
  have hw := l_Sw w
  obtain ⟨⟨b1, b2⟩, b3, b4⟩ := g_bd hw hd hy hk hk3
  have wk : w32 (k : Int) = (k : Int) := q_w (by clear b1 b3; omega)
  obtain ⟨v, ⟨h1, e1, w1⟩, f1⟩ := L_covering (Z := Z) hL w (by clear b1 b3 wk; omega) b2 b4 hd
  rw [gF] at f1
  have v1 := vv_few_k hw hd hy hk hk3 f1
  have v2 := vv_few_b hw f1
  have wv : w32 v = v := q_wi (by clear b1 b3 wk; omega) (by clear b1 b3 wk; omega)
  have c1 : gB N k ≤ 1000 := b4.2
  have c2 : ¬ 1000 < gB N k := by clear b1 b3 wk wv; omega
  have c3 : ¬ (k : Int) < v := by clear b1 b3 wk wv; omega
  by_cases c4 : gA N k < gB N k
  · refine ⟨h1, ?_, l_Sm w1 (by clear b1 b3 wk wv; omega)⟩
    rw [b_279_96, if_pos (Int.le_refl _)]
    simp only [b_279_0, b_279_6, b_279_16, b_279_23, b_279_33, b_279_46, b_279_55, b_279_59, b_279_62, b_279_69, b_279_72, b_279_80, b_279_83, b_279_87, b_279_88, b_279_102, b_279_107, b_279_114, b_279_124, b_279_133, b_279_140, b_279_148, b_279_157, b_279_160, b_279_164, b_279_165, b_279_172, b_279_179, b_279_183, b_279_190, b_279_195, b_279_199, b_279_200, b_279_215, b_279_225, b_279_231, b_279_233, b_279_236, b_279_243, b_279_248, b_279_254, b_279_262, b_279_268, b_279_274, b_279_282, b_279_292, b_279_297, b_279_301, b_279_302, ↓reduceIte, Nat.reduceEqDiff, Nat.reduceMul, q_n10, q_n01, Option.bind_some, g_aft0, g_aft1, g_aft2, g_aft3, g_aft9, Nat.reduceAdd, m_kill_0, m_kill_2, m_kill_3, m_kill_4, m_kill_9, true_or, or_true, q_lm53, q_lm52, q_lm51, q_lm1, q_l0, q_l1, q_l2, q_l3, q_l4, q_l5, q_l6, q_l7, q_l8, q_l9, q_l10, q_l11, q_l12, q_l20, q_l32, q_l50, q_l64, q_l80, q_l120, q_l122, q_l126, q_l372, q_l1000, q_l1000000, b1, b3, c1, e1, c2, wk, wv, c3, c4]
  · obtain ⟨v', ⟨h2, e2, w2⟩, f2⟩ := L_covering (Z := Z) (x := gA N k - gB N k) (y := gB N k) hL w1 (by clear b1 b3 wk wv; omega) ⟨by clear b1 b3 wk wv; omega, by clear b1 b3 wk wv; omega⟩ b4 hd
    have v3 := vv_few_b hw f2
    have hq : 0 < gB N k := by clear b1 b3 wk wv; omega
    have hlt : fr (gA N k - gB N k) (gB N k) ≤ vv_k N k := by
      rw [← gF, fr_le hq hq]
      refine Int.mul_le_mul_of_nonneg_right ?_ (by clear b1 b3 wk wv; omega)
      clear b1 b3 wk wv
      omega
    have v4 := vv_few_m hlt f1 f2
    have wv2 : w32 v' = v' := q_wi (by clear b1 b3 wk wv; omega) (by clear b1 b3 wk wv; omega)
    have c5 : ¬ v' < v := by clear b1 b3 wk wv wv2; omega
    refine ⟨h2, ?_, l_Sm w2 (by clear b1 b3 wk wv wv2; omega)⟩
    rw [b_279_96, if_pos (Int.le_refl _)]
    simp only [b_279_0, b_279_6, b_279_16, b_279_23, b_279_33, b_279_46, b_279_55, b_279_59, b_279_62, b_279_69, b_279_72, b_279_80, b_279_83, b_279_87, b_279_88, b_279_102, b_279_107, b_279_114, b_279_124, b_279_133, b_279_140, b_279_148, b_279_157, b_279_160, b_279_164, b_279_165, b_279_172, b_279_179, b_279_183, b_279_190, b_279_195, b_279_199, b_279_200, b_279_215, b_279_225, b_279_231, b_279_233, b_279_236, b_279_243, b_279_248, b_279_254, b_279_262, b_279_268, b_279_274, b_279_282, b_279_292, b_279_297, b_279_301, b_279_302, ↓reduceIte, Nat.reduceEqDiff, Nat.reduceMul, q_n10, q_n01, Option.bind_some, g_aft0, g_aft1, g_aft2, g_aft3, g_aft9, Nat.reduceAdd, m_kill_0, m_kill_2, m_kill_3, m_kill_4, m_kill_9, true_or, or_true, q_lm53, q_lm52, q_lm51, q_lm1, q_l0, q_l1, q_l2, q_l3, q_l4, q_l5, q_l6, q_l7, q_l8, q_l9, q_l10, q_l11, q_l12, q_l20, q_l32, q_l50, q_l64, q_l80, q_l120, q_l122, q_l126, q_l372, q_l1000, q_l1000000, b1, b3, c1, e1, c2, wk, wv, c3, c4, e2, wv2, c5]
/-- the start -/
theorem t_grp0 (hL : q_lay K) (w : l_S K h N R c j) (hj : j < 500000) (hd : y_cc N) (hk : 1 ≤ k) (hk3 : k ≤ 3) : y_gF N 0 (vv_f N).1 (vv_f N).2.1 (vv_f N).2.2 ∧ ∃ h', l_S K h' N R c (j + 5) ∧ m_cl Z 279 [(2, ((0 : Nat) : Int)), (0, (k : Int))] h = m_run Z (279, 96, [(2, ((0 : Nat) : Int)), (0, (k : Int)), (0, (vv_A N : Int)), (0, gA N k), (0, gB N k), (0, ((0 : Nat) : Int)), (0, 1), (0, 0), (0, ((0 : Nat) : Int)), (9, 0)], [], h') := by
  have hw := l_Sw w
  have n8 := (wf_n hw).2.2
  obtain ⟨A1, A2, A3, -⟩ := vv_Ab hw
  obtain ⟨h1, e1, w1⟩ := L_count0 (Z := Z) hL w (by omega)
  rw [(wf_n hw).1] at e1
  obtain ⟨⟨h2, e2, w2⟩, f1, f2, f3, hy0⟩ := L_radOf (Z := Z) (u := 0) hL w1 (by omega) hk hk3 (Or.inl rfl) hd
  obtain ⟨⟨h3, e3, w3⟩, -⟩ := L_radOf (Z := Z) (u := 1) hL w2 (by omega) hk hk3 (Or.inr rfl) hd
  have hy := (vv_f_u hw hy0).1
  refine ⟨hy, ?_⟩
  have r1 : q_pt (vv_k N k) 0 = gA N k := rfl
  have r2 : q_pt (vv_k N k) 1 = gB N k := rfl
  rw [r1] at e2
  rw [r2] at e3
  obtain ⟨⟨b1, b2⟩, b3, b4⟩ := g_bd hw hd hy hk hk3
  have hA : i_shl 1 (w_nn N : Int) - 1 = (vv_A N : Int) := by
    rw [q_shl n8]
    unfold vv_A
    have := (q_pow8 n8).1
    clear b1 b3
    omega
  have z0 : ((0 : Nat) : Int) = 0 := rfl
  rcases (show k = 1 ∨ 2 ≤ k by omega) with rfl | k2
  · obtain ⟨h4, e4, w4⟩ := L_radius0 (Z := Z) hL w3 (by clear b1 b3; omega) A1 hd
    obtain ⟨h5, e5, w5⟩ := L_radius1 (Z := Z) hL w4 (by clear b1 b3; omega) A1 hd
    obtain ⟨q1, q2⟩ := g_eq.mpr (vv_k1 hw hd hy).symm
    rw [q1] at e4
    rw [q2] at e5
    have c1 : w32 ((1 : Nat) : Int) ≤ w32 1 := by decide
    refine ⟨h5, w5, ?_⟩
    simp only [e_279, b_279_0, b_279_6, b_279_16, b_279_23, b_279_33, b_279_46, b_279_55, b_279_59, b_279_62, b_279_69, b_279_72, b_279_80, b_279_83, b_279_87, b_279_88, b_279_102, b_279_107, b_279_114, b_279_124, b_279_133, b_279_140, b_279_148, b_279_157, b_279_160, b_279_164, b_279_165, b_279_172, b_279_179, b_279_183, b_279_190, b_279_195, b_279_199, b_279_200, b_279_215, b_279_225, b_279_231, b_279_233, b_279_236, b_279_243, b_279_248, b_279_254, b_279_262, b_279_268, b_279_274, b_279_282, b_279_292, b_279_297, b_279_301, b_279_302, ↓reduceIte, Nat.reduceEqDiff, Nat.reduceMul, q_n10, q_n01, Option.bind_some, g_aft0, g_aft1, g_aft2, g_aft3, g_aft9, Nat.reduceAdd, m_kill_0, m_kill_2, m_kill_3, m_kill_4, m_kill_9, true_or, or_true, q_lm53, q_lm52, q_lm51, q_lm1, q_l0, q_l1, q_l2, q_l3, q_l4, q_l5, q_l6, q_l7, q_l8, q_l9, q_l10, q_l11, q_l12, q_l20, q_l32, q_l50, q_l64, q_l80, q_l120, q_l122, q_l126, q_l372, q_l1000, q_l1000000, e1, hA, e2, e3, c1, e4, e5]
    rfl
  · obtain ⟨⟨h4, e4, w4⟩, -⟩ := L_radOf (Z := Z) (k := k - 1) (u := 0) hL w3 (by clear b1 b3; omega) (by omega) (by omega) (Or.inl rfl) hd
    obtain ⟨⟨h5, e5, w5⟩, -⟩ := L_radOf (Z := Z) (k := k - 1) (u := 1) hL w4 (by clear b1 b3; omega) (by omega) (by omega) (Or.inr rfl) hd
    have r3 : q_pt (vv_k N (k - 1)) 0 = gA N (k - 1) := rfl
    have r4 : q_pt (vv_k N (k - 1)) 1 = gB N (k - 1) := rfl
    have ek : ((k - 1 : Nat) : Int) = (k : Int) - 1 := by clear b1 b3; omega
    rw [r3, ek] at e4
    rw [r4, ek] at e5
    obtain ⟨⟨d1, d2⟩, d3, d4⟩ := g_bd (k := k - 1) hw hd hy (by omega) (by omega)
    have hle : vv_k N k ≤ vv_k N (k - 1) := by
      obtain ⟨l1, l2⟩ := vv_k_le hw hd hy
      rcases (show k = 2 ∨ k = 3 by clear b1 b3 d1 d3; omega) with rfl | rfl
      · exact l1
      · exact l2
    have t1 := t_most (Z := Z) (h := h5) (x := gA N k) (y := gB N k) (z := gA N (k - 1)) (u := gB N (k - 1)) b2 ⟨by clear b1 b3 d1 d3; omega, by clear b1 b3 d1 d3; omega⟩ d2 ⟨by clear b1 b3 d1 d3; omega, by clear b1 b3 d1 d3; omega⟩ (q_ptle.mpr hle)
    have wk : w32 (k : Int) = (k : Int) := q_w (by clear b1 b3 d1 d3; omega)
    have c1 : ¬ (k : Int) ≤ 1 := by clear b1 b3 d1 d3 wk; omega
    refine ⟨h5, w5, ?_⟩
    simp only [e_279, b_279_0, b_279_6, b_279_16, b_279_23, b_279_33, b_279_46, b_279_55, b_279_59, b_279_62, b_279_69, b_279_72, b_279_80, b_279_83, b_279_87, b_279_88, b_279_102, b_279_107, b_279_114, b_279_124, b_279_133, b_279_140, b_279_148, b_279_157, b_279_160, b_279_164, b_279_165, b_279_172, b_279_179, b_279_183, b_279_190, b_279_195, b_279_199, b_279_200, b_279_215, b_279_225, b_279_231, b_279_233, b_279_236, b_279_243, b_279_248, b_279_254, b_279_262, b_279_268, b_279_274, b_279_282, b_279_292, b_279_297, b_279_301, b_279_302, ↓reduceIte, Nat.reduceEqDiff, Nat.reduceMul, q_n10, q_n01, Option.bind_some, g_aft0, g_aft1, g_aft2, g_aft3, g_aft9, Nat.reduceAdd, m_kill_0, m_kill_2, m_kill_3, m_kill_4, m_kill_9, true_or, or_true, q_lm53, q_lm52, q_lm51, q_lm1, q_l0, q_l1, q_l2, q_l3, q_l4, q_l5, q_l6, q_l7, q_l8, q_l9, q_l10, q_l11, q_l12, q_l20, q_l32, q_l50, q_l64, q_l80, q_l120, q_l122, q_l126, q_l372, q_l1000, q_l1000000, e1, hA, e2, e3, wk, c1, e4, e5, b1, b3, d1, d3, t1]
    rfl
theorem n_dis {a b d : Nat} (h : (a ||| b) &&& d = 0) : a &&& d = 0 ∧ b &&& d = 0 := by
  constructor
  · apply Nat.eq_of_testBit_eq
    intro i
    have a1 := congrArg (fun x => Nat.testBit x i) h
    simp only [Nat.testBit_and, Nat.testBit_or, Nat.zero_testBit] at a1 ⊢
    revert a1
    cases a.testBit i <;> cases b.testBit i <;> cases d.testBit i <;> simp
  · apply Nat.eq_of_testBit_eq
    intro i
    have a1 := congrArg (fun x => Nat.testBit x i) h
    simp only [Nat.testBit_and, Nat.testBit_or, Nat.zero_testBit] at a1 ⊢
    revert a1
    cases a.testBit i <;> cases b.testBit i <;> cases d.testBit i <;> simp
theorem n_dis2 {a b d : Nat} (h : a &&& b = 0) (h2 : a &&& d = 0) : a &&& (d ||| b) = 0 := by
  apply Nat.eq_of_testBit_eq
  intro i
  have a1 := congrArg (fun x => Nat.testBit x i) h
  have a2 := congrArg (fun x => Nat.testBit x i) h2
  simp only [Nat.testBit_and, Nat.testBit_or, Nat.zero_testBit] at a1 a2 ⊢
  revert a1 a2
  cases a.testBit i <;> cases b.testBit i <;> cases d.testBit i <;> simp
/-- areGroups -/
theorem t_groups (hL : q_lay K) (w : l_S K h N R c j) (hj : j < 400000) (hd : y_cc N) (hk : 1 ≤ k) (hk3 : k ≤ 3) : l_C K (m_cl Z 279 [(2, ((0 : Nat) : Int)), (0, (k : Int))] h) 1 N R c (j + 50) := by
  have hw := l_Sw w
  obtain ⟨A1, A2, A3, -⟩ := vv_Ab hw
  obtain ⟨hy, h1, w1, e1⟩ := t_grp0 (Z := Z) hL w (by omega) hd hk hk3
  have i1 : ((0 : Nat) : Int) + 1 = ((1 : Nat) : Int) := rfl
  have i2 : ((1 : Nat) : Int) + 1 = ((2 : Nat) : Int) := rfl
  have i3 : ((2 : Nat) : Int) + 1 = ((3 : Nat) : Int) := rfl
  have n01 : ¬ (0 : Int) = 1 := by decide
  rcases (show k = 1 ∨ k = 2 ∨ k = 3 by omega) with rfl | rfl | rfl
  · obtain ⟨h2, w2, e2⟩ := t_grp1 (Z := Z) (l9 := (9, 0)) (ρ := 0) (set := 0) (i := 0) hL w1 (by omega) hd hy hk hk3 (by decide) vv_g1 A1 (by decide) (Nat.and_zero _) (by rw [vv_k1 hw hd hy]; exact Rat.le_refl) (Or.inl rfl)
    rw [if_neg n01, if_pos (vv_k1 hw hd hy).symm, Nat.zero_or, i1] at e2
    obtain ⟨h3, e3, w3⟩ := t_grp2 (Z := Z) (k := 1) (l9 := (0, (vv_A N : Int))) hL w2 (by omega) hd hy hk hk3
    exact ⟨h3, by rw [e1, e2, e3], l_Sm w3 (by omega)⟩
  · obtain ⟨g, g1, g2, g3, g4, g5, g6, g7⟩ := vv_g2 hw hd hy
    obtain ⟨q1, q2⟩ := q_part (Nat.lt_of_le_of_lt g1 A2) A2 g2
    obtain ⟨h2, w2, e2⟩ := t_grp1 (Z := Z) (l9 := (9, 0)) (ρ := 0) (set := 0) (i := 0) hL w1 (by omega) hd hy hk hk3 (by decide) g3 (by omega) (by decide) (Nat.and_zero _) g5 (Or.inl rfl)
    rw [if_neg n01, Nat.zero_or, i1] at e2
    obtain ⟨h3, w3, e3⟩ := t_grp1 (Z := Z) (l9 := (0, (g : Int))) (ρ := if vv_r N (g : Int) = vv_k N 2 then 1 else 0) (set := g) (i := 1) hL w2 (by omega) hd hy hk hk3 (by decide) g4 (by omega) (by omega) q1 g6 (by split <;> simp)
    have hρ : (if (if vv_r N (g : Int) = vv_k N 2 then (1 : Int) else 0) = 1 then (1 : Int) else if vv_r N ((vv_A N - g : Nat) : Int) = vv_k N 2 then 1 else 0) = 1 := by
      rcases g7 with g7 | g7
      · simp [g7]
      · simp [g7]
    rw [hρ, q2, i2] at e3
    obtain ⟨h4, e4, w4⟩ := t_grp2 (Z := Z) (k := 2) (l9 := (0, ((vv_A N - g : Nat) : Int))) hL w3 (by omega) hd hy hk hk3
    exact ⟨h4, by rw [e1, e2, e3, e4], l_Sm w4 (by omega)⟩
  · obtain ⟨g, e, g1, g2, g3, g4, g5, g6, g7, g8, g9, ga, gb⟩ := vv_g3 hw hd hy
    obtain ⟨q1, q2⟩ := q_part (Nat.lt_of_le_of_lt g1 A2) A2 g2
    obtain ⟨q3, q4⟩ := q_part (a := e) (S := vv_A N - g) (by omega) (by omega) g4
    rw [← q4] at q1
    obtain ⟨d1, d4⟩ := n_dis q1
    rw [q4] at q1
    have d2 := n_dis2 q3 d4
    have d3 : (g ||| e) ||| (vv_A N - g - e) = vv_A N := by
      rw [Nat.or_assoc, q4, q2]
    have ge256 : g ||| e < 256 := by
      have := Nat.or_lt_two_pow (x := g) (y := e) (n := 8) (by omega) (by omega)
      omega
    obtain ⟨h2, w2, e2⟩ := t_grp1 (Z := Z) (l9 := (9, 0)) (ρ := 0) (set := 0) (i := 0) hL w1 (by omega) hd hy hk hk3 (by decide) g5 (by omega) (by decide) (Nat.and_zero _) g8 (Or.inl rfl)
    rw [if_neg n01, Nat.zero_or, i1] at e2
    obtain ⟨h3, w3, e3⟩ := t_grp1 (Z := Z) (l9 := (0, (g : Int))) (ρ := if vv_r N (g : Int) = vv_k N 3 then 1 else 0) (set := g) (i := 1) hL w2 (by omega) hd hy hk hk3 (by decide) g6 (by omega) (by omega) d1 g9 (by split <;> simp)
    rw [i2] at e3
    obtain ⟨h4, w4, e4⟩ := t_grp1 (Z := Z) (l9 := (0, (e : Int))) (ρ := if (if vv_r N (g : Int) = vv_k N 3 then (1 : Int) else 0) = 1 then (1 : Int) else if vv_r N (e : Int) = vv_k N 3 then 1 else 0) (set := g ||| e) (i := 2) hL w3 (by omega) hd hy hk hk3 (by decide) g7 (by omega) ge256 d2 ga (by
      split
      · exact Or.inr rfl
      · split
        · exact Or.inr rfl
        · exact Or.inl rfl)
    have hρ : (if (if (if vv_r N (g : Int) = vv_k N 3 then (1 : Int) else 0) = 1 then (1 : Int) else if vv_r N (e : Int) = vv_k N 3 then 1 else 0) = 1 then (1 : Int) else if vv_r N ((vv_A N - g - e : Nat) : Int) = vv_k N 3 then 1 else 0) = 1 := by
      rcases gb with gb | gb | gb
      · simp [gb]
      · simp [gb]
      · simp [gb]
    rw [hρ, d3, i3] at e4
    obtain ⟨h5, e5, w5⟩ := t_grp2 (Z := Z) (k := 3) (l9 := (0, ((vv_A N - g - e : Nat) : Int))) hL w4 (by omega) hd hy hk hk3
    exact ⟨h5, by rw [e1, e2, e3, e4, e5], l_Sm w5 (by omega)⟩
end
end
