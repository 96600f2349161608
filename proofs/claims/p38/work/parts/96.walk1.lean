section
/-! areWays answers true. -/
section
variable {Z : mZ} {K : Nat → mK} {N : Nat → Nat → Int} {R : Nat → Nat → Nat → Int} {c j a b : Nat} {n M AL A B way v x3 x4 : Int} {l7 l8 l9 : mV} {h : mH}
theorem q_it_sh {α : Type} (f : Nat → α → α) (i : Nat) (x : α) : ∀ m, q_it (fun k => f (i + 1 + k)) m (f i x) = q_it (fun k => f (i + k)) (m + 1) x
  | 0 => rfl
  | m + 1 => by
    have ih := q_it_sh f i x m
    rw [q_it, ih, q_it, q_it]
    show f (i + 1 + m) _ = f (i + (m + 1)) _
    rw [show i + 1 + m = i + (m + 1) by omega]
    rfl
theorem t_ways1 (hM : w32 M = M) (hw : w32 way = way) (hA : AL = 0 ∨ AL = 1) : m_run Z (277, 57, [(2, ((0 : Nat) : Int)), (0, n), (0, 1), (0, M), (0, AL), (0, A), (0, B), (0, way), l8, l9], [(0, v)], h) = (m_cl Z 254 [(2, ((0 : Nat) : Int)), (0, B), (0, A)] h).bind (m_aft (m_run Z) 277 97 [(2, ((0 : Nat) : Int)), (0, n), (0, 1), (0, if M < way then way else M), (0, if AL = 0 then 0 else if way = -1 then 0 else 1), (0, A), (0, B), (0, way), (0, v), l9] [(0, way)]) := by
  by_cases c1 : way ≤ M
  · have c2 : ¬ M < way := by clear hM hw; omega
    by_cases c3 : way = -1
    · subst c3
      rcases hA with rfl | rfl <;> simp only [b_277_0, b_277_5, b_277_22, b_277_26, b_277_35, b_277_39, b_277_47, b_277_57, b_277_65, b_277_70, b_277_71, b_277_77, b_277_83, b_277_87, b_277_88, b_277_100, b_277_103, b_277_108, b_277_112, b_277_113, b_277_120, b_277_124, b_277_125, b_277_128, b_277_134, b_277_138, b_277_139, b_277_144, b_277_148, b_277_149, b_277_152, b_277_158, b_277_166, b_277_169, b_277_177, b_277_185, b_277_191, b_277_198, b_277_202, b_277_203, b_277_213, b_277_217, b_277_223, b_277_231, b_277_235, b_277_243, b_277_253, b_277_257, b_277_261, b_277_262, b_277_269, b_277_275, b_277_281, b_277_285, b_277_290, b_277_295, b_277_299, b_277_300, b_277_303, b_277_307, b_277_312, b_277_316, b_277_317, b_277_320, b_277_324, b_277_325, ↓reduceIte, Nat.reduceEqDiff, Nat.reduceMul, q_n10, q_n01, Option.bind_some, g_aft0, g_aft1, g_aft2, g_aft3, g_aft9, Nat.reduceAdd, m_kill_0, m_kill_2, m_kill_3, m_kill_4, m_kill_9, true_or, or_true, q_lm53, q_lm52, q_lm51, q_lm1, q_l0, q_l1, q_l2, q_l3, q_l4, q_l5, q_l6, q_l7, q_l8, q_l9, q_l10, q_l11, q_l12, q_l20, q_l32, q_l50, q_l64, q_l80, q_l120, q_l122, q_l126, q_l372, q_l1000, q_l1000000, hM, c1, c2]
    · rcases hA with rfl | rfl <;> simp only [b_277_0, b_277_5, b_277_22, b_277_26, b_277_35, b_277_39, b_277_47, b_277_57, b_277_65, b_277_70, b_277_71, b_277_77, b_277_83, b_277_87, b_277_88, b_277_100, b_277_103, b_277_108, b_277_112, b_277_113, b_277_120, b_277_124, b_277_125, b_277_128, b_277_134, b_277_138, b_277_139, b_277_144, b_277_148, b_277_149, b_277_152, b_277_158, b_277_166, b_277_169, b_277_177, b_277_185, b_277_191, b_277_198, b_277_202, b_277_203, b_277_213, b_277_217, b_277_223, b_277_231, b_277_235, b_277_243, b_277_253, b_277_257, b_277_261, b_277_262, b_277_269, b_277_275, b_277_281, b_277_285, b_277_290, b_277_295, b_277_299, b_277_300, b_277_303, b_277_307, b_277_312, b_277_316, b_277_317, b_277_320, b_277_324, b_277_325, ↓reduceIte, Nat.reduceEqDiff, Nat.reduceMul, q_n10, q_n01, Option.bind_some, g_aft0, g_aft1, g_aft2, g_aft3, g_aft9, Nat.reduceAdd, m_kill_0, m_kill_2, m_kill_3, m_kill_4, m_kill_9, true_or, or_true, q_lm53, q_lm52, q_lm51, q_lm1, q_l0, q_l1, q_l2, q_l3, q_l4, q_l5, q_l6, q_l7, q_l8, q_l9, q_l10, q_l11, q_l12, q_l20, q_l32, q_l50, q_l64, q_l80, q_l120, q_l122, q_l126, q_l372, q_l1000, q_l1000000, hM, hw, c1, c2, c3]
  · have c2 : M < way := by clear hM hw; omega
    by_cases c3 : way = -1
    · subst c3
      rcases hA with rfl | rfl <;> simp only [b_277_0, b_277_5, b_277_22, b_277_26, b_277_35, b_277_39, b_277_47, b_277_57, b_277_65, b_277_70, b_277_71, b_277_77, b_277_83, b_277_87, b_277_88, b_277_100, b_277_103, b_277_108, b_277_112, b_277_113, b_277_120, b_277_124, b_277_125, b_277_128, b_277_134, b_277_138, b_277_139, b_277_144, b_277_148, b_277_149, b_277_152, b_277_158, b_277_166, b_277_169, b_277_177, b_277_185, b_277_191, b_277_198, b_277_202, b_277_203, b_277_213, b_277_217, b_277_223, b_277_231, b_277_235, b_277_243, b_277_253, b_277_257, b_277_261, b_277_262, b_277_269, b_277_275, b_277_281, b_277_285, b_277_290, b_277_295, b_277_299, b_277_300, b_277_303, b_277_307, b_277_312, b_277_316, b_277_317, b_277_320, b_277_324, b_277_325, ↓reduceIte, Nat.reduceEqDiff, Nat.reduceMul, q_n10, q_n01, Option.bind_some, g_aft0, g_aft1, g_aft2, g_aft3, g_aft9, Nat.reduceAdd, m_kill_0, m_kill_2, m_kill_3, m_kill_4, m_kill_9, true_or, or_true, q_lm53, q_lm52, q_lm51, q_lm1, q_l0, q_l1, q_l2, q_l3, q_l4, q_l5, q_l6, q_l7, q_l8, q_l9, q_l10, q_l11, q_l12, q_l20, q_l32, q_l50, q_l64, q_l80, q_l120, q_l122, q_l126, q_l372, q_l1000, q_l1000000, hM, c1, c2]
    · rcases hA with rfl | rfl <;> simp only [b_277_0, b_277_5, b_277_22, b_277_26, b_277_35, b_277_39, b_277_47, b_277_57, b_277_65, b_277_70, b_277_71, b_277_77, b_277_83, b_277_87, b_277_88, b_277_100, b_277_103, b_277_108, b_277_112, b_277_113, b_277_120, b_277_124, b_277_125, b_277_128, b_277_134, b_277_138, b_277_139, b_277_144, b_277_148, b_277_149, b_277_152, b_277_158, b_277_166, b_277_169, b_277_177, b_277_185, b_277_191, b_277_198, b_277_202, b_277_203, b_277_213, b_277_217, b_277_223, b_277_231, b_277_235, b_277_243, b_277_253, b_277_257, b_277_261, b_277_262, b_277_269, b_277_275, b_277_281, b_277_285, b_277_290, b_277_295, b_277_299, b_277_300, b_277_303, b_277_307, b_277_312, b_277_316, b_277_317, b_277_320, b_277_324, b_277_325, ↓reduceIte, Nat.reduceEqDiff, Nat.reduceMul, q_n10, q_n01, Option.bind_some, g_aft0, g_aft1, g_aft2, g_aft3, g_aft9, Nat.reduceAdd, m_kill_0, m_kill_2, m_kill_3, m_kill_4, m_kill_9, true_or, or_true, q_lm53, q_lm52, q_lm51, q_lm1, q_l0, q_l1, q_l2, q_l3, q_l4, q_l5, q_l6, q_l7, q_l8, q_l9, q_l10, q_l11, q_l12, q_l20, q_l32, q_l50, q_l64, q_l80, q_l120, q_l122, q_l126, q_l372, q_l1000, q_l1000000, hM, hw, c1, c2, c3]
theorem t_ways2 (hw : w32 way = way) (hA : w32 A = A) (hB : w32 B = B) (h0 : way = 0 ↔ A = B) (hle : way ≤ 0) : m_run Z (277, 100, [(2, ((0 : Nat) : Int)), (0, n), (0, 1), (0, x3), (0, x4), (0, A), (0, B), (0, way), (0, -1), l9], [(0, way), (0, way)], h) = m_run Z (277, 207, [(2, ((0 : Nat) : Int)), (0, n), (0, 1), (0, x3), (0, x4), (0, A), (0, B), (0, way), (0, -1), (0, 0)], [], h) := by
  have c2 : ¬ 0 < way := by clear hw hA hB; omega
  by_cases c1 : way = 0
  · have c3 := h0.mp c1
    subst c3
    subst c1
    simp only [b_277_0, b_277_5, b_277_22, b_277_26, b_277_35, b_277_39, b_277_47, b_277_57, b_277_65, b_277_70, b_277_71, b_277_77, b_277_83, b_277_87, b_277_88, b_277_100, b_277_103, b_277_108, b_277_112, b_277_113, b_277_120, b_277_124, b_277_125, b_277_128, b_277_134, b_277_138, b_277_139, b_277_144, b_277_148, b_277_149, b_277_152, b_277_158, b_277_166, b_277_169, b_277_177, b_277_185, b_277_191, b_277_198, b_277_202, b_277_203, b_277_213, b_277_217, b_277_223, b_277_231, b_277_235, b_277_243, b_277_253, b_277_257, b_277_261, b_277_262, b_277_269, b_277_275, b_277_281, b_277_285, b_277_290, b_277_295, b_277_299, b_277_300, b_277_303, b_277_307, b_277_312, b_277_316, b_277_317, b_277_320, b_277_324, b_277_325, ↓reduceIte, Nat.reduceEqDiff, Nat.reduceMul, q_n10, q_n01, Option.bind_some, g_aft0, g_aft1, g_aft2, g_aft3, g_aft9, Nat.reduceAdd, m_kill_0, m_kill_2, m_kill_3, m_kill_4, m_kill_9, true_or, or_true, q_lm53, q_lm52, q_lm51, q_lm1, q_l0, q_l1, q_l2, q_l3, q_l4, q_l5, q_l6, q_l7, q_l8, q_l9, q_l10, q_l11, q_l12, q_l20, q_l32, q_l50, q_l64, q_l80, q_l120, q_l122, q_l126, q_l372, q_l1000, q_l1000000, hA, c2]
  · have c3 : ¬ A = B := fun q => c1 (h0.mpr q)
    simp only [b_277_0, b_277_5, b_277_22, b_277_26, b_277_35, b_277_39, b_277_47, b_277_57, b_277_65, b_277_70, b_277_71, b_277_77, b_277_83, b_277_87, b_277_88, b_277_100, b_277_103, b_277_108, b_277_112, b_277_113, b_277_120, b_277_124, b_277_125, b_277_128, b_277_134, b_277_138, b_277_139, b_277_144, b_277_148, b_277_149, b_277_152, b_277_158, b_277_166, b_277_169, b_277_177, b_277_185, b_277_191, b_277_198, b_277_202, b_277_203, b_277_213, b_277_217, b_277_223, b_277_231, b_277_235, b_277_243, b_277_253, b_277_257, b_277_261, b_277_262, b_277_269, b_277_275, b_277_281, b_277_285, b_277_290, b_277_295, b_277_299, b_277_300, b_277_303, b_277_307, b_277_312, b_277_316, b_277_317, b_277_320, b_277_324, b_277_325, ↓reduceIte, Nat.reduceEqDiff, Nat.reduceMul, q_n10, q_n01, Option.bind_some, g_aft0, g_aft1, g_aft2, g_aft3, g_aft9, Nat.reduceAdd, m_kill_0, m_kill_2, m_kill_3, m_kill_4, m_kill_9, true_or, or_true, q_lm53, q_lm52, q_lm51, q_lm1, q_l0, q_l1, q_l2, q_l3, q_l4, q_l5, q_l6, q_l7, q_l8, q_l9, q_l10, q_l11, q_l12, q_l20, q_l32, q_l50, q_l64, q_l80, q_l120, q_l122, q_l126, q_l372, q_l1000, q_l1000000, hw, hA, hB, c1, c2, c3]
theorem t_ways3 (hw : w32 way = way) (hA : w32 A = A) (hB : w32 B = B) (h0 : ¬ A = B) (hle : 0 < way) (hv : w32 v = v) (hv0 : 0 ≤ v) : m_run Z (277, 100, [(2, ((0 : Nat) : Int)), (0, n), (0, 1), (0, x3), (0, x4), (0, A), (0, B), (0, way), (0, v), l9], [(0, way), (0, way)], h) = (m_cl Z 254 [(2, ((0 : Nat) : Int)), (0, v), (0, B)] h).bind (m_aft (m_run Z) 277 163 [(2, ((0 : Nat) : Int)), (0, n), (0, 1), (0, x3), (0, x4), (0, A), (0, B), (0, way), (0, v), l9] []) := by
  have c1 : ¬ way = 0 := by clear hw hA hB hv; omega
  have c2 : ¬ v = -1 := by clear hw hA hB hv; omega
  simp only [b_277_0, b_277_5, b_277_22, b_277_26, b_277_35, b_277_39, b_277_47, b_277_57, b_277_65, b_277_70, b_277_71, b_277_77, b_277_83, b_277_87, b_277_88, b_277_100, b_277_103, b_277_108, b_277_112, b_277_113, b_277_120, b_277_124, b_277_125, b_277_128, b_277_134, b_277_138, b_277_139, b_277_144, b_277_148, b_277_149, b_277_152, b_277_158, b_277_166, b_277_169, b_277_177, b_277_185, b_277_191, b_277_198, b_277_202, b_277_203, b_277_213, b_277_217, b_277_223, b_277_231, b_277_235, b_277_243, b_277_253, b_277_257, b_277_261, b_277_262, b_277_269, b_277_275, b_277_281, b_277_285, b_277_290, b_277_295, b_277_299, b_277_300, b_277_303, b_277_307, b_277_312, b_277_316, b_277_317, b_277_320, b_277_324, b_277_325, ↓reduceIte, Nat.reduceEqDiff, Nat.reduceMul, q_n10, q_n01, Option.bind_some, g_aft0, g_aft1, g_aft2, g_aft3, g_aft9, Nat.reduceAdd, m_kill_0, m_kill_2, m_kill_3, m_kill_4, m_kill_9, true_or, or_true, q_lm53, q_lm52, q_lm51, q_lm1, q_l0, q_l1, q_l2, q_l3, q_l4, q_l5, q_l6, q_l7, q_l8, q_l9, q_l10, q_l11, q_l12, q_l20, q_l32, q_l50, q_l64, q_l80, q_l120, q_l122, q_l126, q_l372, q_l1000, q_l1000000, hw, hA, hB, hv, c1, c2, h0, hle]
/-- the inner loop: triangles -/
theorem t_ways_c (hL : q_lay K) (hw : q_wf N) (ha : a < w_nn N) (hb : b < w_nn N) : ∀ (m i j : Nat) (h : mH), i + m = w_nn N → l_S K h N R c j → j + 3 * m < 600000 → ∃ h', l_S K h' N R c (j + 3 * m) ∧ m_run Z (277, 207, [(2, ((0 : Nat) : Int)), (0, (w_nn N : Int)), (0, 1), (0, x3), (0, x4), (0, (a : Int)), (0, (b : Int)), (0, vv_d N a b), (0, v), (0, (i : Int))], [], h) = m_run Z (277, 269, [(2, ((0 : Nat) : Int)), (0, (w_nn N : Int)), (0, 1), (0, x3), (0, x4), (0, (a : Int)), (0, (b : Int)), (0, vv_d N a b), (0, v), (0, (w_nn N : Int))], [], h') := by
  have n8 := (wf_n hw).2.2
  have n0 := (wf_n hw).1
  have wn : w32 (w_nn N : Int) = (w_nn N : Int) := q_w (by omega)
  intro m
  induction m with
  | zero =>
    intro i j h hi w hj
    have hi : i = w_nn N := by omega
    subst hi
    refine ⟨h, w, ?_⟩
    conv => lhs; rw [b_277_207, if_pos (Int.le_refl _)]
  | succ m ih =>
    intro i j h hi w hj
    have wi : w32 (i : Int) = (i : Int) := q_w (by clear wn; omega)
    have c0 : ¬ (w_nn N : Int) ≤ (i : Int) := by clear wn wi; omega
    have e1 : ((i + 1 : Nat) : Int) = (i : Int) + 1 := by clear wn wi; omega
    have w1 := vv_d_w hw a b
    have w2 := vv_d_w hw b i
    have w3 := vv_d_w hw a i
    have rb : 0 ≤ (b : Int) ∧ (b : Int) < N 0 0 := by clear wn wi w1 w2 w3; omega
    have ra : 0 ≤ (a : Int) ∧ (a : Int) < N 0 0 := by clear wn wi w1 w2 w3; omega
    have ri : 0 ≤ (i : Int) ∧ (i : Int) < N 0 0 := by clear wn wi w1 w2 w3; omega
    have step : ∃ h2, l_S K h2 N R c (j + 3) ∧ m_run Z (277, 207, [(2, ((0 : Nat) : Int)), (0, (w_nn N : Int)), (0, 1), (0, x3), (0, x4), (0, (a : Int)), (0, (b : Int)), (0, vv_d N a b), (0, v), (0, (i : Int))], [], h) = m_run Z (277, 207, [(2, ((0 : Nat) : Int)), (0, (w_nn N : Int)), (0, 1), (0, x3), (0, x4), (0, (a : Int)), (0, (b : Int)), (0, vv_d N a b), (0, v), (0, (i : Int) + 1)], [], h2) := by
      conv => enter [1, h2, 2, 1]; rw [b_277_207, wn, wi, if_neg c0]
      by_cases c1 : vv_d N a b = -1
      · refine ⟨h, l_Sm w (by omega), ?_⟩
        simp only [b_277_0, b_277_5, b_277_22, b_277_26, b_277_35, b_277_39, b_277_47, b_277_57, b_277_65, b_277_70, b_277_71, b_277_77, b_277_83, b_277_87, b_277_88, b_277_100, b_277_103, b_277_108, b_277_112, b_277_113, b_277_120, b_277_124, b_277_125, b_277_128, b_277_134, b_277_138, b_277_139, b_277_144, b_277_148, b_277_149, b_277_152, b_277_158, b_277_166, b_277_169, b_277_177, b_277_185, b_277_191, b_277_198, b_277_202, b_277_203, b_277_213, b_277_217, b_277_223, b_277_231, b_277_235, b_277_243, b_277_253, b_277_257, b_277_261, b_277_262, b_277_269, b_277_275, b_277_281, b_277_285, b_277_290, b_277_295, b_277_299, b_277_300, b_277_303, b_277_307, b_277_312, b_277_316, b_277_317, b_277_320, b_277_324, b_277_325, ↓reduceIte, Nat.reduceEqDiff, Nat.reduceMul, q_n10, q_n01, Option.bind_some, g_aft0, g_aft1, g_aft2, g_aft3, g_aft9, Nat.reduceAdd, m_kill_0, m_kill_2, m_kill_3, m_kill_4, m_kill_9, true_or, or_true, q_lm53, q_lm52, q_lm51, q_lm1, q_l0, q_l1, q_l2, q_l3, q_l4, q_l5, q_l6, q_l7, q_l8, q_l9, q_l10, q_l11, q_l12, q_l20, q_l32, q_l50, q_l64, q_l80, q_l120, q_l122, q_l126, q_l372, q_l1000, q_l1000000, w1, c1]
      · obtain ⟨h1, e2, w4⟩ := L_distance (Z := Z) hL w (by omega) rb ri
        rw [Int.toNat_natCast, Int.toNat_natCast] at e2
        by_cases c2 : vv_d N b i = -1
        · refine ⟨h1, l_Sm w4 (by omega), ?_⟩
          simp only [b_277_0, b_277_5, b_277_22, b_277_26, b_277_35, b_277_39, b_277_47, b_277_57, b_277_65, b_277_70, b_277_71, b_277_77, b_277_83, b_277_87, b_277_88, b_277_100, b_277_103, b_277_108, b_277_112, b_277_113, b_277_120, b_277_124, b_277_125, b_277_128, b_277_134, b_277_138, b_277_139, b_277_144, b_277_148, b_277_149, b_277_152, b_277_158, b_277_166, b_277_169, b_277_177, b_277_185, b_277_191, b_277_198, b_277_202, b_277_203, b_277_213, b_277_217, b_277_223, b_277_231, b_277_235, b_277_243, b_277_253, b_277_257, b_277_261, b_277_262, b_277_269, b_277_275, b_277_281, b_277_285, b_277_290, b_277_295, b_277_299, b_277_300, b_277_303, b_277_307, b_277_312, b_277_316, b_277_317, b_277_320, b_277_324, b_277_325, ↓reduceIte, Nat.reduceEqDiff, Nat.reduceMul, q_n10, q_n01, Option.bind_some, g_aft0, g_aft1, g_aft2, g_aft3, g_aft9, Nat.reduceAdd, m_kill_0, m_kill_2, m_kill_3, m_kill_4, m_kill_9, true_or, or_true, q_lm53, q_lm52, q_lm51, q_lm1, q_l0, q_l1, q_l2, q_l3, q_l4, q_l5, q_l6, q_l7, q_l8, q_l9, q_l10, q_l11, q_l12, q_l20, q_l32, q_l50, q_l64, q_l80, q_l120, q_l122, q_l126, q_l372, q_l1000, q_l1000000, w1, w2, c1, c2, e2]
        · obtain ⟨h2, e3, w5⟩ := L_distance (Z := Z) hL w4 (by omega) ra ri
          obtain ⟨h3, e4, w6⟩ := L_distance (Z := Z) hL w5 (by omega) rb ri
          rw [Int.toNat_natCast, Int.toNat_natCast] at e3 e4
          have t := vv_d_tri hw hb c1 c2
          have b1 := vv_d_b hw a b
          have b2 := vv_d_b hw b i
          have w7 : w32 (vv_d N a b + vv_d N b i) = vv_d N a b + vv_d N b i := q_wi (by omega) (by omega)
          have c3 : ¬ vv_d N a b + vv_d N b i < vv_d N a i := by clear w1 w2 w3 w7 wn wi; omega
          refine ⟨h3, w6, ?_⟩
          simp only [b_277_0, b_277_5, b_277_22, b_277_26, b_277_35, b_277_39, b_277_47, b_277_57, b_277_65, b_277_70, b_277_71, b_277_77, b_277_83, b_277_87, b_277_88, b_277_100, b_277_103, b_277_108, b_277_112, b_277_113, b_277_120, b_277_124, b_277_125, b_277_128, b_277_134, b_277_138, b_277_139, b_277_144, b_277_148, b_277_149, b_277_152, b_277_158, b_277_166, b_277_169, b_277_177, b_277_185, b_277_191, b_277_198, b_277_202, b_277_203, b_277_213, b_277_217, b_277_223, b_277_231, b_277_235, b_277_243, b_277_253, b_277_257, b_277_261, b_277_262, b_277_269, b_277_275, b_277_281, b_277_285, b_277_290, b_277_295, b_277_299, b_277_300, b_277_303, b_277_307, b_277_312, b_277_316, b_277_317, b_277_320, b_277_324, b_277_325, ↓reduceIte, Nat.reduceEqDiff, Nat.reduceMul, q_n10, q_n01, Option.bind_some, g_aft0, g_aft1, g_aft2, g_aft3, g_aft9, Nat.reduceAdd, m_kill_0, m_kill_2, m_kill_3, m_kill_4, m_kill_9, true_or, or_true, q_lm53, q_lm52, q_lm51, q_lm1, q_l0, q_l1, q_l2, q_l3, q_l4, q_l5, q_l6, q_l7, q_l8, q_l9, q_l10, q_l11, q_l12, q_l20, q_l32, q_l50, q_l64, q_l80, q_l120, q_l122, q_l126, q_l372, q_l1000, q_l1000000, w1, w2, w3, w7, c1, c2, c3, e2, e3, e4]
    obtain ⟨h2, w4, e2⟩ := step
    obtain ⟨h3, w5, e3⟩ := ih (i + 1) (j + 3) h2 (by omega) w4 (by omega)
    refine ⟨h3, l_Sm w5 (by omega), e2.trans ?_⟩
    rw [← e1]
    exact e3
/-- one round of the middle loop -/
theorem t_ways_b1 (hL : q_lay K) (hw : q_wf N) (ha : a < w_nn N) (hb : b < w_nn N) (w : l_S K h N R c j) (hj : j + 6 < 600000) (hx : (0 ≤ M ∧ M ≤ 12800) ∧ (AL = 0 ∨ AL = 1)) : ∃ h' v, l_S K h' N R c (j + 6) ∧ m_run Z (277, 39, [(2, ((0 : Nat) : Int)), (0, (w_nn N : Int)), (0, 1), (0, M), (0, AL), (0, (a : Int)), (0, (b : Int)), l7, l8, l9], [], h) = m_run Z (277, 207, [(2, ((0 : Nat) : Int)), (0, (w_nn N : Int)), (0, 1), (0, (vv_st N a b (M, AL)).1), (0, (vv_st N a b (M, AL)).2), (0, (a : Int)), (0, (b : Int)), (0, vv_d N a b), (0, v), (0, 0)], [], h') := by
  have n8 := (wf_n hw).2.2
  have n0 := (wf_n hw).1
  have wa : w32 (a : Int) = (a : Int) := q_w (by omega)
  have wb : w32 (b : Int) = (b : Int) := q_w (by omega)
  have wM : w32 M = M := q_wi (by omega) (by omega)
  have rb : 0 ≤ (b : Int) ∧ (b : Int) < N 0 0 := by clear wa wb wM; omega
  have ra : 0 ≤ (a : Int) ∧ (a : Int) < N 0 0 := by clear wa wb wM; omega
  have w1 := vv_d_w hw a b
  obtain ⟨h1, e1, w2⟩ := L_distance (Z := Z) hL w (by omega) ra rb
  obtain ⟨h2, e2, w3⟩ := L_next (Z := Z) hL w2 (by omega) ra rb
  obtain ⟨h3, e3, w4⟩ := L_distance (Z := Z) hL w3 (by omega) rb ra
  rw [Int.toNat_natCast, Int.toNat_natCast] at e1 e2 e3
  rw [vv_d_s hw b a] at e3
  have h0 : vv_d N a b = 0 ↔ (a : Int) = (b : Int) := by rw [vv_d_0 hw]; clear wa wb wM w1; omega
  have head : m_run Z (277, 39, [(2, ((0 : Nat) : Int)), (0, (w_nn N : Int)), (0, 1), (0, M), (0, AL), (0, (a : Int)), (0, (b : Int)), l7, l8, l9], [], h) = m_run Z (277, 100, [(2, ((0 : Nat) : Int)), (0, (w_nn N : Int)), (0, 1), (0, (vv_st N a b (M, AL)).1), (0, (vv_st N a b (M, AL)).2), (0, (a : Int)), (0, (b : Int)), (0, vv_d N a b), (0, w_fs N a b), l9], [(0, vv_d N a b), (0, vv_d N a b)], h3) := by
    rw [b_277_39, e1, Option.bind_some, g_aft0, b_277_47, e2, Option.bind_some, g_aft0, t_ways1 wM w1 hx.2, e3, Option.bind_some, g_aft0]
    rfl
  rw [head]
  rcases vv_d_f (b := b) hw ha with ⟨f1, f2⟩ | ⟨f1, v, f2, f3, f4, f5, f6⟩
  · refine ⟨h3, -1, l_Sm w4 (by omega), ?_⟩
    rw [f1]
    exact t_ways2 w1 wa wb h0 f2
  · have rv : 0 ≤ (v : Int) ∧ (v : Int) < N 0 0 := by clear wa wb wM w1; omega
    have wv : w32 (v : Int) = (v : Int) := q_w (by clear wa wb wM w1; omega)
    have hab : ¬ (a : Int) = (b : Int) := fun q => by have := h0.mpr q; omega
    obtain ⟨h4, e4, w5⟩ := L_distance (Z := Z) hL w4 (by omega) rv rb
    obtain ⟨h5, e5, w6⟩ := L_distance (Z := Z) hL w5 (by omega) ra rv
    obtain ⟨h6, e6, w7⟩ := L_distance (Z := Z) hL w6 (by omega) rv rb
    rw [Int.toNat_natCast, Int.toNat_natCast] at e4 e5 e6
    have w8 := vv_d_w hw v b
    have c4 : ¬ vv_d N v b < 0 := by clear wa wb wM w1 w8 wv; omega
    have c5 : ¬ (v : Int) = (a : Int) := by clear wa wb wM w1 w8 wv; omega
    refine ⟨h6, (v : Int), w7, ?_⟩
    rw [f3, t_ways3 w1 wa wb hab f1 wv (Int.natCast_nonneg v), e4, Option.bind_some, g_aft0]
    simp only [b_277_0, b_277_5, b_277_22, b_277_26, b_277_35, b_277_39, b_277_47, b_277_57, b_277_65, b_277_70, b_277_71, b_277_77, b_277_83, b_277_87, b_277_88, b_277_100, b_277_103, b_277_108, b_277_112, b_277_113, b_277_120, b_277_124, b_277_125, b_277_128, b_277_134, b_277_138, b_277_139, b_277_144, b_277_148, b_277_149, b_277_152, b_277_158, b_277_166, b_277_169, b_277_177, b_277_185, b_277_191, b_277_198, b_277_202, b_277_203, b_277_213, b_277_217, b_277_223, b_277_231, b_277_235, b_277_243, b_277_253, b_277_257, b_277_261, b_277_262, b_277_269, b_277_275, b_277_281, b_277_285, b_277_290, b_277_295, b_277_299, b_277_300, b_277_303, b_277_307, b_277_312, b_277_316, b_277_317, b_277_320, b_277_324, b_277_325, ↓reduceIte, Nat.reduceEqDiff, Nat.reduceMul, q_n10, q_n01, Option.bind_some, g_aft0, g_aft1, g_aft2, g_aft3, g_aft9, Nat.reduceAdd, m_kill_0, m_kill_2, m_kill_3, m_kill_4, m_kill_9, true_or, or_true, q_lm53, q_lm52, q_lm51, q_lm1, q_l0, q_l1, q_l2, q_l3, q_l4, q_l5, q_l6, q_l7, q_l8, q_l9, q_l10, q_l11, q_l12, q_l20, q_l32, q_l50, q_l64, q_l80, q_l120, q_l122, q_l126, q_l372, q_l1000, q_l1000000, w8, c4, e5, e6, f5, wv, wa, c5]
/-- the middle loop -/
theorem t_ways_b (hL : q_lay K) (hw : q_wf N) (ha : a < w_nn N) : ∀ (m i j : Nat) (x : Int × Int) (l7 l8 l9 : mV) (h : mH), i + m = w_nn N → ((0 ≤ x.1 ∧ x.1 ≤ 12800) ∧ (x.2 = 0 ∨ x.2 = 1)) → l_S K h N R c j → j + 30 * m < 600000 → ∃ h' l7' l8' l9', l_S K h' N R c (j + 30 * m) ∧ m_run Z (277, 29, [(2, ((0 : Nat) : Int)), (0, (w_nn N : Int)), (0, 1), (0, x.1), (0, x.2), (0, (a : Int)), (0, (i : Int)), l7, l8, l9], [], h) = m_run Z (277, 275, [(2, ((0 : Nat) : Int)), (0, (w_nn N : Int)), (0, 1), (0, (q_it (fun k => vv_st N a (i + k)) m x).1), (0, (q_it (fun k => vv_st N a (i + k)) m x).2), (0, (a : Int)), (0, (w_nn N : Int)), l7', l8', l9'], [], h') := by
  have n8 := (wf_n hw).2.2
  have wn : w32 (w_nn N : Int) = (w_nn N : Int) := q_w (by omega)
  intro m
  induction m with
  | zero =>
    intro i j x l7 l8 l9 h hi hx w hj
    have hi : i = w_nn N := by omega
    subst hi
    refine ⟨h, l7, l8, l9, w, ?_⟩
    conv => lhs; rw [b_277_29, if_pos (Int.le_refl _)]
    rfl
  | succ m ih =>
    intro i j x l7 l8 l9 h hi hx w hj
    have wi : w32 (i : Int) = (i : Int) := q_w (by clear wn; omega)
    have c0 : ¬ (w_nn N : Int) ≤ (i : Int) := by clear wn wi; omega
    have e1 : ((i + 1 : Nat) : Int) = (i : Int) + 1 := by clear wn wi; omega
    have hx2 := vv_st_b (a := a) (b := i) hw hx
    obtain ⟨x1, x2⟩ := x
    obtain ⟨h1, v, w1, e2⟩ := t_ways_b1 (Z := Z) (l7 := l7) (l8 := l8) (l9 := l9) hL hw ha (b := i) (by omega) w (by omega) hx
    obtain ⟨h2, w2, e3⟩ := t_ways_c (Z := Z) (x3 := (vv_st N a i (x1, x2)).1) (x4 := (vv_st N a i (x1, x2)).2) (v := v) hL hw ha (b := i) (by omega) (w_nn N) 0 (j + 6) h1 (by omega) w1 (by omega)
    obtain ⟨h3, l7', l8', l9', w3, e4⟩ := ih (i + 1) (j + 30) (vv_st N a i (x1, x2)) (0, vv_d N a i) (0, v) (0, (w_nn N : Int)) h2 (by omega) hx2 (l_Sm w2 (by omega)) (by omega)
    refine ⟨h3, l7', l8', l9', l_Sm w3 (by omega), ?_⟩
    conv => lhs; rw [b_277_29, wn, wi, if_neg c0, b_277_35, if_neg (show ¬ w32 1 = 0 by decide), e2]
    refine Eq.trans e3 ?_
    conv => lhs; rw [b_277_269, ← e1]
    refine e4.trans ?_
    have hq := q_it_sh (vv_st N a) i (x1, x2) m
    rw [hq]
/-- the outer loop -/
theorem t_ways_a (hL : q_lay K) (hw : q_wf N) : ∀ (m i j : Nat) (x : Int × Int) (l6 l7 l8 l9 : mV) (h : mH), i + m = w_nn N → ((0 ≤ x.1 ∧ x.1 ≤ 12800) ∧ (x.2 = 0 ∨ x.2 = 1)) → l_S K h N R c j → j + 240 * m < 600000 → ∃ h' l6' l7' l8' l9', l_S K h' N R c (j + 240 * m) ∧ m_run Z (277, 16, [(2, ((0 : Nat) : Int)), (0, (w_nn N : Int)), (0, 1), (0, x.1), (0, x.2), (0, (i : Int)), l6, l7, l8, l9], [], h) = m_run Z (277, 281, [(2, ((0 : Nat) : Int)), (0, (w_nn N : Int)), (0, 1), (0, (q_it (fun k => vv_so N (i + k)) m x).1), (0, (q_it (fun k => vv_so N (i + k)) m x).2), (0, (w_nn N : Int)), l6', l7', l8', l9'], [], h') := by
  have n8 := (wf_n hw).2.2
  have wn : w32 (w_nn N : Int) = (w_nn N : Int) := q_w (by omega)
  intro m
  induction m with
  | zero =>
    intro i j x l6 l7 l8 l9 h hi hx w hj
    have hi : i = w_nn N := by omega
    subst hi
    refine ⟨h, l6, l7, l8, l9, w, ?_⟩
    conv => lhs; rw [b_277_16, if_pos (Int.le_refl _)]
    rfl
  | succ m ih =>
    intro i j x l6 l7 l8 l9 h hi hx w hj
    have wi : w32 (i : Int) = (i : Int) := q_w (by clear wn; omega)
    have c0 : ¬ (w_nn N : Int) ≤ (i : Int) := by clear wn wi; omega
    have e1 : ((i + 1 : Nat) : Int) = (i : Int) + 1 := by clear wn wi; omega
    obtain ⟨h1, l7', l8', l9', w1, e2⟩ := t_ways_b (Z := Z) hL hw (a := i) (by omega) (w_nn N) 0 j x l7 l8 l9 h (by omega) hx w (by omega)
    have hf : (fun k => vv_st N i (0 + k)) = vv_st N i := by funext k; rw [Nat.zero_add]
    rw [hf] at e2
    have hx2 : (0 ≤ (vv_so N i x).1 ∧ (vv_so N i x).1 ≤ 12800) ∧ ((vv_so N i x).2 = 0 ∨ (vv_so N i x).2 = 1) := q_it_inv (P := fun _ (x : Int × Int) => (0 ≤ x.1 ∧ x.1 ≤ 12800) ∧ (x.2 = 0 ∨ x.2 = 1)) (n := w_nn N) hx (fun k y _ hy => vv_st_b hw hy) (w_nn N) (Nat.le_refl _)
    obtain ⟨h3, l6', l72, l82, l92, w3, e4⟩ := ih (i + 1) (j + 240) (vv_so N i x) (0, (w_nn N : Int)) l7' l8' l9' h1 (by omega) hx2 (l_Sm w1 (by omega)) (by omega)
    refine ⟨h3, l6', l72, l82, l92, l_Sm w3 (by omega), ?_⟩
    conv => lhs; rw [b_277_16, wn, wi, if_neg c0, b_277_22, if_neg (show ¬ w32 1 = 0 by decide), b_277_26]
    refine Eq.trans e2 ?_
    conv => lhs; rw [b_277_275, ← e1]
    refine Eq.trans e4 ?_
    have hq := q_it_sh (vv_so N) i x m
    rw [hq]
/-- areWays -/
theorem t_ways (hL : q_lay K) (w : l_S K h N R c j) (hj : j < 500000) : l_C K (m_cl Z 277 [(2, ((0 : Nat) : Int))] h) 1 N R c (j + 2000) := by
  have hw := l_Sw w
  have n8 := (wf_n hw).2.2
  have n0 := (wf_n hw).1
  obtain ⟨h1, e1, w1⟩ := L_count0 (Z := Z) hL w (by omega)
  rw [n0] at e1
  obtain ⟨h2, l6, l7, l8, l9, w2, e2⟩ := t_ways_a (Z := Z) hL hw (w_nn N) 0 (j + 1) (0, 1) (9, 0) (9, 0) (9, 0) (9, 0) h1 (by omega) ⟨⟨by decide, by decide⟩, Or.inr rfl⟩ w1 (by omega)
  have hf : (fun k => vv_so N (0 + k)) = vv_so N := by funext k; rw [Nat.zero_add]
  rw [hf] at e2
  obtain ⟨h3, e3, w3⟩ := L_count3 (Z := Z) hL w2 (by omega)
  obtain ⟨h4, e4, w4⟩ := L_diameter (Z := Z) hL w3 (by omega)
  have start : m_cl Z 277 [(2, ((0 : Nat) : Int))] h = m_run Z (277, 281, [(2, ((0 : Nat) : Int)), (0, (w_nn N : Int)), (0, 1), (0, (q_it (vv_so N) (w_nn N) (0, 1)).1), (0, (q_it (vv_so N) (w_nn N) (0, 1)).2), (0, (w_nn N : Int)), l6, l7, l8, l9], [], h2) := by
    rw [e_277, b_277_0, e1, Option.bind_some, g_aft0, b_277_5]
    exact e2
  refine ⟨h4, ?_, l_Sm w4 (by omega)⟩
  rw [start]
  obtain ⟨σ3, e3', s3, X3, rfl, -⟩ := id w3
  have q6 := (q_clsF hL.1).1
  obtain ⟨d1, d2⟩ := vv_so_end hw
  by_cases hc : w_cn N
  · rw [d1 hc]
    have v1 := vv_cn1 hc
    have v2 : vv_dm N = w_gd (w_D N) (w_nn N) := by unfold vv_dm; rw [if_pos hc]
    rw [v1] at e3
    rw [v2] at e4
    simp only [b_277_0, b_277_5, b_277_22, b_277_26, b_277_35, b_277_39, b_277_47, b_277_57, b_277_65, b_277_70, b_277_71, b_277_77, b_277_83, b_277_87, b_277_88, b_277_100, b_277_103, b_277_108, b_277_112, b_277_113, b_277_120, b_277_124, b_277_125, b_277_128, b_277_134, b_277_138, b_277_139, b_277_144, b_277_148, b_277_149, b_277_152, b_277_158, b_277_166, b_277_169, b_277_177, b_277_185, b_277_191, b_277_198, b_277_202, b_277_203, b_277_213, b_277_217, b_277_223, b_277_231, b_277_235, b_277_243, b_277_253, b_277_257, b_277_261, b_277_262, b_277_269, b_277_275, b_277_281, b_277_285, b_277_290, b_277_295, b_277_299, b_277_300, b_277_303, b_277_307, b_277_312, b_277_316, b_277_317, b_277_320, b_277_324, b_277_325, ↓reduceIte, Nat.reduceEqDiff, Nat.reduceMul, q_n10, q_n01, Option.bind_some, g_aft0, g_aft1, g_aft2, g_aft3, g_aft9, Nat.reduceAdd, m_kill_0, m_kill_2, m_kill_3, m_kill_4, m_kill_9, true_or, or_true, q_lm53, q_lm52, q_lm51, q_lm1, q_l0, q_l1, q_l2, q_l3, q_l4, q_l5, q_l6, q_l7, q_l8, q_l9, q_l10, q_l11, q_l12, q_l20, q_l32, q_l50, q_l64, q_l80, q_l120, q_l122, q_l126, q_l372, q_l1000, q_l1000000, e3, q6, e4]
  · have v0 := vv_cn0 hc
    have v2 : vv_dm N = -1 := by unfold vv_dm; rw [if_neg hc]
    rw [v0] at e3
    rw [v2] at e4
    rw [d2 hc]
    simp only [b_277_0, b_277_5, b_277_22, b_277_26, b_277_35, b_277_39, b_277_47, b_277_57, b_277_65, b_277_70, b_277_71, b_277_77, b_277_83, b_277_87, b_277_88, b_277_100, b_277_103, b_277_108, b_277_112, b_277_113, b_277_120, b_277_124, b_277_125, b_277_128, b_277_134, b_277_138, b_277_139, b_277_144, b_277_148, b_277_149, b_277_152, b_277_158, b_277_166, b_277_169, b_277_177, b_277_185, b_277_191, b_277_198, b_277_202, b_277_203, b_277_213, b_277_217, b_277_223, b_277_231, b_277_235, b_277_243, b_277_253, b_277_257, b_277_261, b_277_262, b_277_269, b_277_275, b_277_281, b_277_285, b_277_290, b_277_295, b_277_299, b_277_300, b_277_303, b_277_307, b_277_312, b_277_316, b_277_317, b_277_320, b_277_324, b_277_325, ↓reduceIte, Nat.reduceEqDiff, Nat.reduceMul, q_n10, q_n01, Option.bind_some, g_aft0, g_aft1, g_aft2, g_aft3, g_aft9, Nat.reduceAdd, m_kill_0, m_kill_2, m_kill_3, m_kill_4, m_kill_9, true_or, or_true, q_lm53, q_lm52, q_lm51, q_lm1, q_l0, q_l1, q_l2, q_l3, q_l4, q_l5, q_l6, q_l7, q_l8, q_l9, q_l10, q_l11, q_l12, q_l20, q_l32, q_l50, q_l64, q_l80, q_l120, q_l122, q_l126, q_l372, q_l1000, q_l1000000, e3, q6, e4]
end
end
