section
/-! print, has, isAtMost, refused. -/
section
variable {Z : mZ} {K : Nat → mK} {N : Nat → Nat → Int} {R : Nat → Nat → Nat → Int} {c j : Nat} {x y z u : Int} {h : mH}
/-- the checksum without the number of records -/
noncomputable def vv_pr (N : Nat → Nat → Int) : Int := 31 * (31 * vv_ck N + w32 ((0 : Nat) : Int))
theorem w_pRc (hc : c ≤ 6) : w_pR R c N (w_pc c - 1) = N ∧ w_pc c ≠ 0 := by
  by_cases c1 : c = 6
  · subst c1
    exact ⟨by simp [w_pc, w_pR], by simp [w_pc]⟩
  · exact ⟨by simp [w_pc, w_pR, c1], by simp [w_pc, c1]⟩
theorem t_print (hL : q_lay K) (w : l_S K h N R c j) (hj : j < 500000) : ∃ h', m_cl Z 273 [(2, ((0 : Nat) : Int))] h = some (.inl (1, vv_pr N), h') ∧ l_S K h' N (w_pR R c N) (w_pc c - 1) (j + 4) := by
  have hw := l_Sw w
  have hc := l_Sc w
  obtain ⟨⟨n1, n8⟩, -⟩ := wf_b hw
  obtain ⟨h1, e1, w1⟩ := L_node0 (Z := Z) hL w (by omega) (x := 0) ⟨by decide, by omega⟩
  have hv := hw.2.2.2.1 2 0 (by decide) (by decide)
  have hv9 := (hw.2.2.2.2.1 0 (by decide)).1
  have wv : w32 (N 2 0) = N 2 0 := q_wi (by omega) (by omega)
  have hy : y_sv N 0 (N 2 0) = 0 := by
    unfold y_sv
    rw [if_neg (by omega), if_neg (by omega)]
  obtain ⟨h2, e2, w2⟩ := L_setWeight (Z := Z) hL w1 (by omega) (by decide) wv hy
  obtain ⟨q1, q2⟩ := w_pRc (R := R) (N := N) hc
  obtain ⟨h3, e3, w3⟩ := L_undo (Z := Z) hL w2 (by omega) q2
  rw [q1] at w3
  obtain ⟨h4, e4, w4⟩ := L_checksum (Z := Z) hL w3 (by omega)
  have c7 := l_Sc w4
  have wc : w32 ((w_pc c - 1 : Nat) : Int) = ((w_pc c - 1 : Nat) : Int) := q_w (by clear wv; omega)
  have n2 : ¬ N 2 0 < 0 := by clear wv wc; omega
  have n3 : ¬ ((w_pc c - 1 : Nat) : Int) < 0 := by clear wv wc; omega
  have t0 : (0 : Int).toNat = 0 := rfl
  rw [t0] at e1 e2
  refine ⟨h4, ?_, l_Sm w4 (by omega)⟩
  obtain ⟨σ3, x3, s3, X3, rfl, -⟩ := id w3
  have q6 := (q_clsF hL.1).1
  have hp : 31 * (31 * vv_ck N + w32 ((0 : Nat) : Int)) + w32 ((w_pc c - 1 : Nat) : Int) - w32 ((w_pc c - 1 : Nat) : Int) = vv_pr N := by
    unfold vv_pr
    generalize 31 * (31 * vv_ck N + w32 ((0 : Nat) : Int)) = p
    generalize w32 ((w_pc c - 1 : Nat) : Int) = q
    clear wv wc n2 n3
    omega
  rw [e_273, b_273_0, e1, Option.bind_some, g_aft0, b_273_8, e2, Option.bind_some, g_aft0, b_273_11, e3, Option.bind_some, g_aft0, b_273_16, wv, if_neg n2, b_273_21, wc, if_neg n3, b_273_25 q6, e4, Option.bind_some, g_aft1, b_273_29, hp]
/-- has -/
theorem t_has {i : Nat} : m_cl Z 275 [(0, x), (0, (i : Int))] h = some (.inl (0, if q_bt x i = true then 1 else 0), h) := by
  have h1 := q_btE (x := x) (i := i)
  have e1 : w32 1 = 1 := by decide
  by_cases c1 : q_bt x i = true
  · rw [if_pos c1, e_275, b_275_0, e1, if_pos (h1.mpr c1), b_275_9]
  · rw [if_neg c1, e_275, b_275_0, e1, if_neg (fun q => c1 (h1.mp q)), b_275_13, b_275_14 (Or.inl (by decide))]
/-- isAtMost -/
theorem t_most (hx : 0 ≤ x ∧ x ≤ 2147483647) (hy : 0 ≤ y ∧ y ≤ 2147483647) (hz : 0 ≤ z ∧ z ≤ 2147483647) (hu : 0 ≤ u ∧ u ≤ 2147483647) (hle : x * u ≤ z * y) : m_cl Z 276 [(1, x), (1, y), (1, z), (1, u)] h = some (.inl (0, 1), h) := by
  have m1 : x * u ≤ 2147483647 * 2147483647 := Int.mul_le_mul hx.2 hu.2 hu.1 (by decide)
  have m2 : z * y ≤ 2147483647 * 2147483647 := Int.mul_le_mul hz.2 hy.2 hy.1 (by decide)
  have m3 : 0 ≤ x * u := Int.mul_nonneg hx.1 hu.1
  have m4 : 0 ≤ z * y := Int.mul_nonneg hz.1 hy.1
  have w1 : w64 (x * u) = x * u := q_w64 (by omega) (by omega)
  have w2 : w64 (z * y) = z * y := q_w64 (by omega) (by omega)
  have h1 := l_cg w1 w2
  have h2 : ¬ 0 < w32 (l_cmp (x * u) (z * y)) := by rw [h1]; clear w1 w2 h1; omega
  rw [e_276, b_276_0, if_neg h2, b_276_12]
theorem l_cmp_r {a : Int} : l_cmp a a = 0 := by
  unfold l_cmp
  rw [if_neg (by omega), if_pos rfl]
theorem t_refused (hL : q_lay K) (w : l_S K h N R c j) (hj : j < 400000) : ∃ R' c', l_C K (m_cl Z 274 [(2, ((0 : Nat) : Int))] h) 1 N R' c' (j + 50) := by
  obtain ⟨h0, e0, w0⟩ := t_print (Z := Z) hL w (by omega)
  obtain ⟨h1, e1, w1⟩ := L_f_reset0 (Z := Z) hL w0 (by omega)
  obtain ⟨h2, e2, w2⟩ := L_f_reset9 (Z := Z) hL w1 (by omega)
  obtain ⟨h3, e3, w3⟩ := L_f_connect8 (Z := Z) hL w2 (by omega)
  obtain ⟨h4, e4, w4⟩ := L_f_connect0 (Z := Z) hL w3 (by omega)
  obtain ⟨h5, e5, w5⟩ := L_f_disconnect (Z := Z) hL w4 (by omega)
  obtain ⟨h6, e6, w6⟩ := L_f_setWeight8 (Z := Z) hL w5 (by omega)
  obtain ⟨h7, e7, w7⟩ := L_f_setWeight0 (Z := Z) hL w6 (by omega)
  obtain ⟨h8, e8, w8⟩ := L_f_setTrend (Z := Z) hL w7 (by omega)
  obtain ⟨h9, e9, w9⟩ := L_f_forbid (Z := Z) hL w8 (by omega)
  obtain ⟨h10, e10, w10⟩ := L_f_allow (Z := Z) hL w9 (by omega)
  obtain ⟨h11, e11, w11⟩ := L_f_count (Z := Z) hL w10 (by omega)
  obtain ⟨h12, e12, w12⟩ := L_f_edge (Z := Z) hL w11 (by omega)
  obtain ⟨h13, e13, w13⟩ := L_f_node (Z := Z) hL w12 (by omega)
  obtain ⟨h14, e14, w14⟩ := L_f_stretch (Z := Z) hL w13 (by omega)
  obtain ⟨h15, e15, w15⟩ := L_f_distance (Z := Z) hL w14 (by omega)
  obtain ⟨h16, e16, w16⟩ := L_f_next (Z := Z) hL w15 (by omega)
  obtain ⟨h17, e17, w17⟩ := L_f_distanceTo (Z := Z) hL w16 (by omega)
  obtain ⟨h18, e18, w18⟩ := L_f_isAllowed (Z := Z) hL w17 (by omega)
  obtain ⟨h19, e19, w19⟩ := L_f_height (Z := Z) hL w18 (by omega)
  obtain ⟨h20, e20, w20⟩ := L_f_cost (Z := Z) hL w19 (by omega)
  obtain ⟨h21, e21, w21⟩ := L_f_corner (Z := Z) hL w20 (by omega)
  obtain ⟨h22, e22, w22⟩ := L_f_radius256 (Z := Z) hL w21 (by omega)
  obtain ⟨h23, e23, w23⟩ := L_f_radius0 (Z := Z) hL w22 (by omega)
  obtain ⟨h24, e24, w24⟩ := L_f_center (Z := Z) hL w23 (by omega)
  obtain ⟨h25, e25, w25⟩ := L_f_critical (Z := Z) hL w24 (by omega)
  obtain ⟨h26, e26, w26⟩ := L_f_median (Z := Z) hL w25 (by omega)
  obtain ⟨h27, e27, w27⟩ := L_f_radiusOf (Z := Z) hL w26 (by omega)
  obtain ⟨h28, e28, w28⟩ := L_f_group (Z := Z) hL w27 (by omega)
  obtain ⟨h29, e29, w29⟩ := L_f_covering1 (Z := Z) hL w28 (by omega)
  obtain ⟨h30, e30, w30⟩ := L_f_covering0 (Z := Z) hL w29 (by omega)
  obtain ⟨h31, e31, w31⟩ := L_f_covered (Z := Z) hL w30 (by omega)
  obtain ⟨h32, e32, w32⟩ := L_f_changed (Z := Z) hL w31 (by omega)
  obtain ⟨h33, e33, w33⟩ := L_f_without (Z := Z) hL w32 (by omega)
  obtain ⟨h34, e34, w34⟩ := L_f_type (Z := Z) hL w33 (by omega)
  obtain ⟨h35, e35, w35⟩ := t_print (Z := Z) hL w34 (by omega)
  refine ⟨_, _, h35, ?_, l_Sm w35 (by omega)⟩
  simp only [e_274, b_274_0, b_274_4, b_274_10, b_274_15, b_274_21, b_274_26, b_274_34, b_274_39, b_274_46, b_274_51, b_274_57, b_274_62, b_274_70, b_274_75, b_274_82, b_274_87, b_274_93, b_274_98, b_274_106, b_274_111, b_274_117, b_274_122, b_274_127, b_274_132, b_274_138, b_274_143, b_274_149, b_274_154, b_274_161, b_274_166, b_274_170, b_274_171, b_274_176, b_274_183, b_274_188, b_274_194, b_274_199, b_274_209, b_274_214, b_274_222, b_274_227, b_274_237, b_274_242, b_274_250, b_274_255, b_274_263, b_274_268, b_274_276, b_274_281, b_274_287, b_274_292, b_274_298, b_274_303, b_274_310, b_274_315, b_274_320, b_274_325, b_274_329, b_274_330, b_274_335, b_274_341, b_274_346, b_274_352, b_274_357, b_274_363, b_274_368, b_274_374, b_274_379, b_274_387, b_274_392, b_274_399, b_274_404, b_274_411, b_274_416, b_274_422, b_274_427, b_274_431, b_274_436, b_274_440, b_274_441, ↓reduceIte, Nat.reduceEqDiff, Nat.reduceMul, q_n10, q_n01, Option.bind_some, g_aft0, g_aft1, g_aft2, g_aft3, g_aft9, Nat.reduceAdd, m_kill_0, m_kill_2, m_kill_3, m_kill_4, m_kill_9, true_or, or_true, q_lm53, q_lm52, q_lm51, q_lm1, q_l0, q_l1, q_l2, q_l3, q_l4, q_l5, q_l6, q_l7, q_l8, q_l9, q_l10, q_l11, q_l12, q_l20, q_l32, q_l50, q_l64, q_l80, q_l120, q_l122, q_l126, q_l372, q_l1000, q_l1000000, e0, e1, e2, e3, e4, e5, e6, e7, e8, e9, e10, e11, e12, e13, e14, e15, e16, e17, e18, e19, e20, e21, e22, e23, e24, e25, e26, e27, e28, e29, e30, e31, e32, e33, e34, e35, l_cmp_r]
end
end
