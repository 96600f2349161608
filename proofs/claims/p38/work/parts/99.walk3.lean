section
/-! isCenter answers true. -/
section
variable {Z : mZ} {K : Nat → mK} {N : Nat → Nat → Int} {R : Nat → Nat → Nat → Int} {c j S : Nat} {p q : Int} {l4 l5 l12 l13 : mV} {h : mH}
noncomputable def cA (N : Nat → Nat → Int) (S : Nat) : Int := q_pt (vv_r N (S : Int)) 0
noncomputable def cB (N : Nat → Nat → Int) (S : Nat) : Int := q_pt (vv_r N (S : Int)) 1
noncomputable def cG (N : Nat → Nat → Int) (S : Nat) : Nat := (vv_c N (S : Int)).1
noncomputable def cT (N : Nat → Nat → Int) (S : Nat) : Int := q_pt (vv_c N (S : Int)).2 0
noncomputable def cU (N : Nat → Nat → Int) (S : Nat) : Int := q_pt (vv_c N (S : Int)).2 1
noncomputable def mG (N : Nat → Nat → Int) : Nat := (vv_m N).1
noncomputable def mT (N : Nat → Nat → Int) : Int := q_pt (vv_m N).2 0
noncomputable def mU (N : Nat → Nat → Int) : Int := q_pt (vv_m N).2 1
noncomputable def mA (N : Nat → Nat → Int) : Int := q_pt (vv_mr N) 0
noncomputable def mB (N : Nat → Nat → Int) : Int := q_pt (vv_mr N) 1
theorem cF : fr (cT N S) (cU N S) = (vv_c N (S : Int)).2 := q_ptf _
theorem mF : fr (mT N) (mU N) = (vv_m N).2 := q_ptf _
/-- the bounds of all that is told of center and median -/
theorem c_bd (hw : q_wf N) (hd : y_cc N) : cG N S < w_ne N ∧ (w32 (cA N S) = cA N S ∧ 0 ≤ cA N S ∧ cA N S ≤ 2147483647) ∧ (w32 (cB N S) = cB N S ∧ 1 ≤ cB N S ∧ cB N S ≤ 1000) ∧ (w32 (cT N S) = cT N S ∧ w32 (cU N S) = cU N S) ∧ y_pt N (cG N S) (cT N S) (cU N S) ∧ vv_al N (cG N S) (cT N S) (cU N S) = 1 := by
  obtain ⟨h1, h2, h3, h4, h5⟩ := vv_c_bd (S := (S : Int)) hw hd
  obtain ⟨h6, h7⟩ := vv_pt (vv_c_v hw hd (S : Int)) h3.2
  exact ⟨h1, ⟨w32_of (by unfold cA; omega) (by unfold cA; omega), h4⟩, ⟨q_wi (by unfold cB; omega) (by unfold cB; omega), h5⟩, ⟨q_wi (by unfold cT; omega) (by unfold cT; omega), q_wi (by unfold cU; omega) (by unfold cU; omega)⟩, h6, h7⟩
theorem m_bd (hw : q_wf N) (hd : y_cc N) : mG N < w_ne N ∧ (w32 (mA N) = mA N ∧ 0 ≤ mA N ∧ mA N ≤ 2147483647) ∧ (w32 (mB N) = mB N ∧ 1 ≤ mB N ∧ mB N ≤ 1000) ∧ (w32 (mT N) = mT N ∧ w32 (mU N) = mU N) ∧ y_pt N (mG N) (mT N) (mU N) ∧ vv_al N (mG N) (mT N) (mU N) = 1 := by
  obtain ⟨h1, h2, h3, h4, h5⟩ := vv_m_bd hw hd
  obtain ⟨h6, h7⟩ := vv_pt (vv_m_v hw hd) h3.2
  exact ⟨h1, ⟨w32_of (by unfold mA; omega) (by unfold mA; omega), h4⟩, ⟨q_wi (by unfold mB; omega) (by unfold mB; omega), h5⟩, ⟨q_wi (by unfold mT; omega) (by unfold mT; omega), q_wi (by unfold mU; omega) (by unfold mU; omega)⟩, h6, h7⟩
/-! the calls in these words -/
theorem L_center0 (hL : q_lay K) (w : l_S K h N R c j) (hj : j < 600000) (hS : S < 2 ^ w_nn N) (hd : y_cc N) : l_C K (m_cl Z 262 [(2, ((0 : Nat) : Int)), (0, (S : Int)), (0, 0)] h) (cG N S : Int) N R c (j + 1) := L_center hL w hj ⟨Int.natCast_nonneg _, Int.ofNat_lt.mpr hS⟩ (by decide) hd
theorem L_center1 (hL : q_lay K) (w : l_S K h N R c j) (hj : j < 600000) (hS : S < 2 ^ w_nn N) (hd : y_cc N) : l_C K (m_cl Z 262 [(2, ((0 : Nat) : Int)), (0, (S : Int)), (0, 1)] h) (cT N S) N R c (j + 1) := L_center hL w hj ⟨Int.natCast_nonneg _, Int.ofNat_lt.mpr hS⟩ (by decide) hd
theorem L_center2 (hL : q_lay K) (w : l_S K h N R c j) (hj : j < 600000) (hS : S < 2 ^ w_nn N) (hd : y_cc N) : l_C K (m_cl Z 262 [(2, ((0 : Nat) : Int)), (0, (S : Int)), (0, 2)] h) (cU N S) N R c (j + 1) := L_center hL w hj ⟨Int.natCast_nonneg _, Int.ofNat_lt.mpr hS⟩ (by decide) hd
theorem L_radius0 (hL : q_lay K) (w : l_S K h N R c j) (hj : j < 600000) (hS : S < 2 ^ w_nn N) (hd : y_cc N) : l_C K (m_cl Z 261 [(2, ((0 : Nat) : Int)), (0, (S : Int)), (0, 0)] h) (cA N S) N R c (j + 1) := L_radius hL w hj ⟨Int.natCast_nonneg _, Int.ofNat_lt.mpr hS⟩ (Or.inl rfl) hd
theorem L_radius1 (hL : q_lay K) (w : l_S K h N R c j) (hj : j < 600000) (hS : S < 2 ^ w_nn N) (hd : y_cc N) : l_C K (m_cl Z 261 [(2, ((0 : Nat) : Int)), (0, (S : Int)), (0, 1)] h) (cB N S) N R c (j + 1) := L_radius hL w hj ⟨Int.natCast_nonneg _, Int.ofNat_lt.mpr hS⟩ (Or.inr rfl) hd
theorem L_median0 (hL : q_lay K) (w : l_S K h N R c j) (hj : j < 600000) (hd : y_cc N) : l_C K (m_cl Z 264 [(2, ((0 : Nat) : Int)), (0, 0)] h) (mG N : Int) N R c (j + 1) := L_median hL w hj (by decide) hd
theorem L_median1 (hL : q_lay K) (w : l_S K h N R c j) (hj : j < 600000) (hd : y_cc N) : l_C K (m_cl Z 264 [(2, ((0 : Nat) : Int)), (0, 1)] h) (mT N) N R c (j + 1) := L_median hL w hj (by decide) hd
theorem L_median2 (hL : q_lay K) (w : l_S K h N R c j) (hj : j < 600000) (hd : y_cc N) : l_C K (m_cl Z 264 [(2, ((0 : Nat) : Int)), (0, 2)] h) (mU N) N R c (j + 1) := L_median hL w hj (by decide) hd
theorem L_median3 (hL : q_lay K) (w : l_S K h N R c j) (hj : j < 600000) (hd : y_cc N) : l_C K (m_cl Z 264 [(2, ((0 : Nat) : Int)), (0, 3)] h) (mA N) N R c (j + 1) := L_median hL w hj (by decide) hd
theorem L_median4 (hL : q_lay K) (w : l_S K h N R c j) (hj : j < 600000) (hd : y_cc N) : l_C K (m_cl Z 264 [(2, ((0 : Nat) : Int)), (0, 4)] h) (mB N) N R c (j + 1) := L_median hL w hj (by decide) hd
theorem L_alw (hL : q_lay K) (w : l_S K h N R c j) (hj : j < 600000) {g : Nat} (hg : g < w_ne N) (hp : y_pt N g p q) : l_C K (m_cl Z 257 [(2, ((0 : Nat) : Int)), (0, (g : Int)), (0, p), (0, q)] h) (vv_al N g p q) N R c (j + 1) := by
  have he := (wf_e (l_Sw w)).1
  have h1 := L_isAllowed (Z := Z) (y := (g : Int)) (p := p) (q := q) hL w hj ⟨by omega, by omega⟩ (by rw [Int.toNat_natCast]; exact hp)
  rw [Int.toNat_natCast] at h1
  exact h1
theorem L_hgt (hL : q_lay K) (w : l_S K h N R c j) (hj : j < 600000) (hS : S < 2 ^ w_nn N) {g : Nat} {u : Int} (hg : g < w_ne N) (hp : y_pt N g p q) (hu : u = 0 ∨ u = 1) (hc : w_cn N) : l_C K (m_cl Z 258 [(2, ((0 : Nat) : Int)), (0, (S : Int)), (0, (g : Int)), (0, p), (0, q), (0, u)] h) (q_pt (h_fH N 0 (S : Int) g (fr p q)) u) N R c (j + 1) := by
  have he := (wf_e (l_Sw w)).1
  have h1 := L_height (Z := Z) (x := (S : Int)) (y := (g : Int)) (p := p) (q := q) hL w hj ⟨Int.natCast_nonneg _, Int.ofNat_lt.mpr hS⟩ ⟨by omega, by omega⟩ (by rw [Int.toNat_natCast]; exact hp) hu hc
  rw [Int.toNat_natCast] at h1
  exact h1
theorem L_cst (hL : q_lay K) (w : l_S K h N R c j) (hj : j < 600000) {g : Nat} {u : Int} (hg : g < w_ne N) (hp : y_pt N g p q) (hu : u = 0 ∨ u = 1) (hc : w_cn N) : l_C K (m_cl Z 259 [(2, ((0 : Nat) : Int)), (0, (g : Int)), (0, p), (0, q), (0, u)] h) (q_pt (h_fC N 0 g (fr p q)) u) N R c (j + 1) := by
  have he := (wf_e (l_Sw w)).1
  have h1 := L_cost (Z := Z) (y := (g : Int)) (p := p) (q := q) hL w hj ⟨by omega, by omega⟩ (by rw [Int.toNat_natCast]; exact hp) hu hc
  rw [Int.toNat_natCast] at h1
  exact h1
theorem L_dst (hL : q_lay K) (w : l_S K h N R c j) (hj : j < 600000) {g i : Nat} {u : Int} (hi : i < w_nn N) (hg : g < w_ne N) (hp : y_pt N g p q) (hu : u = 0 ∨ u = 1) (hc : w_cn N) : l_C K (m_cl Z 256 [(2, ((0 : Nat) : Int)), (0, (i : Int)), (0, (g : Int)), (0, p), (0, q), (0, u)] h) (q_pt (h_r N g i (fr p q)) u) N R c (j + 1) := by
  have he := (wf_e (l_Sw w)).1
  have hn := (wf_n (l_Sw w)).1
  have h1 := L_distanceTo (Z := Z) (x := (i : Int)) (y := (g : Int)) (p := p) (q := q) hL w hj ⟨by omega, by omega⟩ ⟨by omega, by omega⟩ (by rw [Int.toNat_natCast]; exact hp) hu hc
  rw [Int.toNat_natCast, Int.toNat_natCast] at h1
  exact h1
/-- the start: the center is allowed, its height is the radius -/
theorem t_cen1 (hL : q_lay K) (w : l_S K h N R c j) (hj : j < 500000) (hS : S < 2 ^ w_nn N) (hd : y_cc N) : ∃ (h' : mH) (m : Nat), l_S K h' N R c (j + 11) ∧ (m < 256 ∧ ∀ i, i < w_nn N → q_bt (m : Int) i = true → h_F N 0 (vv_c N (S : Int)).1 i (vv_c N (S : Int)).2 = vv_r N (S : Int)) ∧ m_cl Z 278 [(2, ((0 : Nat) : Int)), (0, (S : Int)), (0, p), (0, q)] h = m_run Z (278, 207, [(2, ((0 : Nat) : Int)), (0, (S : Int)), (0, p), (0, q), (0, cA N S), (0, cB N S), (0, (cG N S : Int)), (0, cT N S), (0, cU N S), (0, 1), (0, (m : Int)), (0, 0), (9, 0), (9, 0)], [], h') := by
  have hw := l_Sw w
  have n8 := (wf_n hw).2.2
  have p8 := q_pow8 n8
  have hE := wf_e hw
  obtain ⟨b1, ⟨b2, b3⟩, ⟨b4, b5⟩, ⟨b6, b7⟩, b8, b9⟩ := c_bd (S := S) hw hd
  obtain ⟨m, m1, m2, m3, m4, m5⟩ := vv_cr_ok (S := S) hw hd hS
  obtain ⟨h1, e1, w1⟩ := L_radius0 (Z := Z) hL w (by omega) hS hd
  obtain ⟨h2, e2, w2⟩ := L_radius1 (Z := Z) hL w1 (by omega) hS hd
  obtain ⟨h3, e3, w3⟩ := L_count3 (Z := Z) hL w2 (by omega)
  obtain ⟨h4, e4, w4⟩ := L_count1 (Z := Z) hL w3 (by omega)
  obtain ⟨h5, e5, w5⟩ := L_center0 (Z := Z) hL w4 (by omega) hS hd
  obtain ⟨h6, e6, w6⟩ := L_center1 (Z := Z) hL w5 (by omega) hS hd
  obtain ⟨h7, e7, w7⟩ := L_center2 (Z := Z) hL w6 (by omega) hS hd
  obtain ⟨h8, e8, w8⟩ := L_alw (Z := Z) hL w7 (by omega) b1 b8
  obtain ⟨h9, e9, w9⟩ := L_hgt (Z := Z) (u := 0) hL w8 (by omega) hS b1 b8 (Or.inl rfl) hd.1
  obtain ⟨h10, e10, w10⟩ := L_hgt (Z := Z) (u := 1) hL w9 (by omega) hS b1 b8 (Or.inr rfl) hd.1
  obtain ⟨h11, e11, w11⟩ := L_critical (Z := Z) hL w10 (by omega) (x := (S : Int)) ⟨Int.natCast_nonneg _, Int.ofNat_lt.mpr hS⟩ hd
  rw [vv_cn1 hd.1] at e3
  rw [b9] at e8
  rw [m1] at e11
  have r9 : h_fH N 0 (S : Int) (cG N S) (fr (cT N S) (cU N S)) = vv_r N (S : Int) := by rw [cF]; rfl
  rw [r9] at e9 e10
  have r1 : q_pt (vv_r N (S : Int)) 0 = cA N S := rfl
  have r2 : q_pt (vv_r N (S : Int)) 1 = cB N S := rfl
  rw [r1] at e9
  rw [r2] at e10
  have wE : w32 (N 0 1) = N 0 1 := q_wi (by omega) (by omega)
  have cE : ¬ N 0 1 = 0 := by have := hd.2; clear b2 b4 b6 b7 wE; omega
  have cB0 : ¬ cB N S ≤ 0 := by clear b2 b4 b6 b7 wE; omega
  have hz : i_and (m : Int) (i_xor (S : Int) (-1)) = 0 := (w_sub_m (by omega) m2).mpr m3
  have wm : w32 (m : Int) = (m : Int) := q_w (by omega)
  refine ⟨h11, m, w11, ⟨m2, m5⟩, ?_⟩
  by_cases cm : m = 0
  · have s0 := m4 cm
    have wm0 : w32 (m : Int) = 0 := by rw [cm]; decide
    have ws0 : w32 (S : Int) = 0 := by rw [s0]; decide
    simp only [e_278, b_278_0, b_278_6, b_278_14, b_278_21, b_278_24, b_278_29, b_278_32, b_278_39, b_278_46, b_278_51, b_278_56, b_278_61, b_278_66, b_278_72, b_278_77, b_278_81, b_278_82, b_278_83, b_278_89, b_278_97, b_278_105, b_278_112, b_278_122, b_278_126, b_278_138, b_278_143, b_278_155, b_278_160, b_278_164, b_278_165, b_278_172, b_278_179, b_278_188, b_278_193, b_278_197, b_278_201, b_278_202, b_278_214, b_278_217, b_278_222, b_278_229, b_278_232, b_278_239, b_278_253, b_278_275, b_278_281, b_278_285, b_278_286, b_278_288, b_278_294, b_278_304, b_278_307, b_278_312, b_278_319, b_278_340, b_278_343, b_278_360, b_278_372, b_278_376, b_278_379, b_278_384, b_278_390, b_278_401, b_278_412, b_278_416, b_278_419, b_278_423, b_278_424, b_278_432, b_278_437, b_278_443, b_278_448, b_278_453, b_278_457, b_278_462, b_278_465, b_278_471, b_278_476, b_278_481, b_278_484, b_278_488, b_278_492, b_278_502, b_278_513, b_278_523, b_278_526, b_278_530, b_278_531, ↓reduceIte, Nat.reduceEqDiff, Nat.reduceMul, q_n10, q_n01, Option.bind_some, g_aft0, g_aft1, g_aft2, g_aft3, g_aft9, Nat.reduceAdd, m_kill_0, m_kill_2, m_kill_3, m_kill_4, m_kill_9, true_or, or_true, q_lm53, q_lm52, q_lm51, q_lm1, q_l0, q_l1, q_l2, q_l3, q_l4, q_l5, q_l6, q_l7, q_l8, q_l9, q_l10, q_l11, q_l12, q_l20, q_l32, q_l50, q_l64, q_l80, q_l120, q_l122, q_l126, q_l372, q_l1000, q_l1000000, e1, e2, e3, e4, e5, e6, e7, e8, e9, e10, e11, wE, cE, b4, cB0, hz, wm0, ws0]
  · have cm2 : ¬ (m : Int) = 0 := by clear b2 b4 b6 b7 wE wm; omega
    simp only [e_278, b_278_0, b_278_6, b_278_14, b_278_21, b_278_24, b_278_29, b_278_32, b_278_39, b_278_46, b_278_51, b_278_56, b_278_61, b_278_66, b_278_72, b_278_77, b_278_81, b_278_82, b_278_83, b_278_89, b_278_97, b_278_105, b_278_112, b_278_122, b_278_126, b_278_138, b_278_143, b_278_155, b_278_160, b_278_164, b_278_165, b_278_172, b_278_179, b_278_188, b_278_193, b_278_197, b_278_201, b_278_202, b_278_214, b_278_217, b_278_222, b_278_229, b_278_232, b_278_239, b_278_253, b_278_275, b_278_281, b_278_285, b_278_286, b_278_288, b_278_294, b_278_304, b_278_307, b_278_312, b_278_319, b_278_340, b_278_343, b_278_360, b_278_372, b_278_376, b_278_379, b_278_384, b_278_390, b_278_401, b_278_412, b_278_416, b_278_419, b_278_423, b_278_424, b_278_432, b_278_437, b_278_443, b_278_448, b_278_453, b_278_457, b_278_462, b_278_465, b_278_471, b_278_476, b_278_481, b_278_484, b_278_488, b_278_492, b_278_502, b_278_513, b_278_523, b_278_526, b_278_530, b_278_531, ↓reduceIte, Nat.reduceEqDiff, Nat.reduceMul, q_n10, q_n01, Option.bind_some, g_aft0, g_aft1, g_aft2, g_aft3, g_aft9, Nat.reduceAdd, m_kill_0, m_kill_2, m_kill_3, m_kill_4, m_kill_9, true_or, or_true, q_lm53, q_lm52, q_lm51, q_lm1, q_l0, q_l1, q_l2, q_l3, q_l4, q_l5, q_l6, q_l7, q_l8, q_l9, q_l10, q_l11, q_l12, q_l20, q_l32, q_l50, q_l64, q_l80, q_l120, q_l122, q_l126, q_l372, q_l1000, q_l1000000, e1, e2, e3, e4, e5, e6, e7, e8, e9, e10, e11, wE, cE, b4, cB0, hz, wm, cm2]
/-- the critical nodes are as far as the radius -/
theorem t_cen2 (hL : q_lay K) (hw : q_wf N) (hd : y_cc N) {M : Nat} (hM : M < 256 ∧ ∀ i, i < w_nn N → q_bt (M : Int) i = true → h_F N 0 (vv_c N (S : Int)).1 i (vv_c N (S : Int)).2 = vv_r N (S : Int)) : ∀ (m i j : Nat) (h : mH), i + m = w_nn N → l_S K h N R c j → j + 5 * m + 1 < 600000 → ∃ h', l_S K h' N R c (j + 5 * m + 1) ∧ m_run Z (278, 207, [(2, ((0 : Nat) : Int)), (0, (S : Int)), (0, p), (0, q), (0, cA N S), (0, cB N S), (0, (cG N S : Int)), (0, cT N S), (0, cU N S), (0, 1), (0, (M : Int)), (0, (i : Int)), l12, l13], [], h) = m_run Z (278, 294, [(2, ((0 : Nat) : Int)), (0, (S : Int)), (0, p), (0, q), (0, cA N S), (0, cB N S), (0, (cG N S : Int)), (0, cT N S), (0, cU N S), (0, 1), (0, (M : Int)), (0, (w_nn N : Int)), l12, l13], [], h') := by
  have n8 := (wf_n hw).2.2
  have n0 := (wf_n hw).1
  have wn : w32 (w_nn N : Int) = (w_nn N : Int) := q_w (by omega)
  obtain ⟨b1, ⟨b2, b3⟩, ⟨b4, b5⟩, ⟨b6, b7⟩, b8, b9⟩ := c_bd (S := S) hw hd
  intro m
  induction m with
  | zero =>
    intro i j h hi w hj
    have hi : i = w_nn N := by omega
    subst hi
    obtain ⟨h1, e1, w1⟩ := L_count0 (Z := Z) hL w (by omega)
    rw [n0] at e1
    refine ⟨h1, w1, ?_⟩
    conv => lhs; rw [b_278_207, e1, Option.bind_some, g_aft0, b_278_214, if_pos (Int.le_refl _)]
  | succ m ih =>
    intro i j h hi w hj
    have wi : w32 (i : Int) = (i : Int) := q_w (by clear wn b2 b4 b6 b7; omega)
    have c0 : ¬ (w_nn N : Int) ≤ (i : Int) := by clear wn wi b2 b4 b6 b7; omega
    have e0 : ((i + 1 : Nat) : Int) = (i : Int) + 1 := by clear wn wi b2 b4 b6 b7; omega
    have hin : i < w_nn N := by clear wn wi b2 b4 b6 b7; omega
    have hi8 : i < 8 := by clear wn wi b2 b4 b6 b7; omega
    have ri : 0 ≤ (i : Int) ∧ (i : Int) < N 0 0 := by clear wn wi b2 b4 b6 b7; omega
    have step : ∃ h2, l_S K h2 N R c (j + 5) ∧ m_run Z (278, 207, [(2, ((0 : Nat) : Int)), (0, (S : Int)), (0, p), (0, q), (0, cA N S), (0, cB N S), (0, (cG N S : Int)), (0, cT N S), (0, cU N S), (0, 1), (0, (M : Int)), (0, (i : Int)), l12, l13], [], h) = m_run Z (278, 207, [(2, ((0 : Nat) : Int)), (0, (S : Int)), (0, p), (0, q), (0, cA N S), (0, cB N S), (0, (cG N S : Int)), (0, cT N S), (0, cU N S), (0, 1), (0, (M : Int)), (0, (i : Int) + 1), l12, l13], [], h2) := by
      obtain ⟨h1, e1, w1⟩ := L_count0 (Z := Z) hL w (by omega)
      rw [n0] at e1
      conv => enter [1, h2, 2, 1]; rw [b_278_207, e1, Option.bind_some, g_aft0, b_278_214, wn, wi, if_neg c0, b_278_217, if_neg (show ¬ w32 1 = 0 by decide), b_278_222, t_has, Option.bind_some, g_aft0]
      by_cases cb : q_bt (M : Int) i = true
      · have tb : (if q_bt (M : Int) i = true then (1 : Int) else 0) = 1 := if_pos cb
        obtain ⟨h2, e2, w2⟩ := L_node0 (Z := Z) (x := (i : Int)) hL w1 (by clear wn wi b2 b4 b6 b7; omega) ri
        obtain ⟨h3, e3, w3⟩ := L_dst (Z := Z) (u := 0) hL w2 (by omega) hin b1 b8 (Or.inl rfl) hd.1
        obtain ⟨h4, e4, w4⟩ := L_dst (Z := Z) (u := 1) hL w3 (by omega) hin b1 b8 (Or.inr rfl) hd.1
        rw [Int.toNat_natCast] at e2
        have hb := vv_h_b hw hd.1 b1 b8 hin
        have hv := hw.2.2.2.1 2 i (by decide) hi8
        have wW : w32 (N 2 i) = N 2 i := q_wi (by omega) (by omega)
        have hF := hM.2 i hin cb
        have hE : N 2 i * q_pt (h_r N (cG N S) i (fr (cT N S) (cU N S))) 0 * cB N S = cA N S * q_pt (h_r N (cG N S) i (fr (cT N S) (cU N S))) 1 := by
          refine vv_cr_eq ?_
          rw [cF, ← hF]
          unfold h_F
          have hW : w_W N 0 i = N 2 i := by unfold w_W; rw [Int.zero_mul, Int.add_zero]
          rw [hW]
          rfl
        generalize hr0 : q_pt (h_r N (cG N S) i (fr (cT N S) (cU N S))) 0 = r0 at *
        generalize hr1 : q_pt (h_r N (cG N S) i (fr (cT N S) (cU N S))) 1 = r1 at *
        have wr0 : w32 r0 = r0 := w32_of (by clear wn wi b2 b4 b6 b7 wW; omega) (by clear wn wi b2 b4 b6 b7 wW; omega)
        have wr1 : w32 r1 = r1 := q_wi (by clear wn wi b2 b4 b6 b7 wW wr0; omega) (by clear wn wi b2 b4 b6 b7 wW wr0; omega)
        refine ⟨h4, l_Sm w4 (by omega), ?_⟩
        simp only [b_278_0, b_278_6, b_278_14, b_278_21, b_278_24, b_278_29, b_278_32, b_278_39, b_278_46, b_278_51, b_278_56, b_278_61, b_278_66, b_278_72, b_278_77, b_278_81, b_278_82, b_278_83, b_278_89, b_278_97, b_278_105, b_278_112, b_278_122, b_278_126, b_278_138, b_278_143, b_278_155, b_278_160, b_278_164, b_278_165, b_278_172, b_278_179, b_278_188, b_278_193, b_278_197, b_278_201, b_278_202, b_278_214, b_278_217, b_278_222, b_278_229, b_278_232, b_278_239, b_278_253, b_278_275, b_278_281, b_278_285, b_278_286, b_278_288, b_278_294, b_278_304, b_278_307, b_278_312, b_278_319, b_278_340, b_278_343, b_278_360, b_278_372, b_278_376, b_278_379, b_278_384, b_278_390, b_278_401, b_278_412, b_278_416, b_278_419, b_278_423, b_278_424, b_278_432, b_278_437, b_278_443, b_278_448, b_278_453, b_278_457, b_278_462, b_278_465, b_278_471, b_278_476, b_278_481, b_278_484, b_278_488, b_278_492, b_278_502, b_278_513, b_278_523, b_278_526, b_278_530, b_278_531, ↓reduceIte, Nat.reduceEqDiff, Nat.reduceMul, q_n10, q_n01, Option.bind_some, g_aft0, g_aft1, g_aft2, g_aft3, g_aft9, Nat.reduceAdd, m_kill_0, m_kill_2, m_kill_3, m_kill_4, m_kill_9, true_or, or_true, q_lm53, q_lm52, q_lm51, q_lm1, q_l0, q_l1, q_l2, q_l3, q_l4, q_l5, q_l6, q_l7, q_l8, q_l9, q_l10, q_l11, q_l12, q_l20, q_l32, q_l50, q_l64, q_l80, q_l120, q_l122, q_l126, q_l372, q_l1000, q_l1000000, tb, e2, e3, e4, wW, wr0, wr1, b4, b2, hE, l_cmp_r]
      · have tb : (if q_bt (M : Int) i = true then (1 : Int) else 0) = 0 := if_neg cb
        refine ⟨h1, l_Sm w1 (by omega), ?_⟩
        simp only [b_278_0, b_278_6, b_278_14, b_278_21, b_278_24, b_278_29, b_278_32, b_278_39, b_278_46, b_278_51, b_278_56, b_278_61, b_278_66, b_278_72, b_278_77, b_278_81, b_278_82, b_278_83, b_278_89, b_278_97, b_278_105, b_278_112, b_278_122, b_278_126, b_278_138, b_278_143, b_278_155, b_278_160, b_278_164, b_278_165, b_278_172, b_278_179, b_278_188, b_278_193, b_278_197, b_278_201, b_278_202, b_278_214, b_278_217, b_278_222, b_278_229, b_278_232, b_278_239, b_278_253, b_278_275, b_278_281, b_278_285, b_278_286, b_278_288, b_278_294, b_278_304, b_278_307, b_278_312, b_278_319, b_278_340, b_278_343, b_278_360, b_278_372, b_278_376, b_278_379, b_278_384, b_278_390, b_278_401, b_278_412, b_278_416, b_278_419, b_278_423, b_278_424, b_278_432, b_278_437, b_278_443, b_278_448, b_278_453, b_278_457, b_278_462, b_278_465, b_278_471, b_278_476, b_278_481, b_278_484, b_278_488, b_278_492, b_278_502, b_278_513, b_278_523, b_278_526, b_278_530, b_278_531, ↓reduceIte, Nat.reduceEqDiff, Nat.reduceMul, q_n10, q_n01, Option.bind_some, g_aft0, g_aft1, g_aft2, g_aft3, g_aft9, Nat.reduceAdd, m_kill_0, m_kill_2, m_kill_3, m_kill_4, m_kill_9, true_or, or_true, q_lm53, q_lm52, q_lm51, q_lm1, q_l0, q_l1, q_l2, q_l3, q_l4, q_l5, q_l6, q_l7, q_l8, q_l9, q_l10, q_l11, q_l12, q_l20, q_l32, q_l50, q_l64, q_l80, q_l120, q_l122, q_l126, q_l372, q_l1000, q_l1000000, tb]
    obtain ⟨h2, w4, e2⟩ := step
    obtain ⟨h3, w5, e3⟩ := ih (i + 1) (j + 5) h2 (by omega) w4 (by omega)
    refine ⟨h3, l_Sm w5 (by omega), e2.trans ?_⟩
    rw [← e0]
    exact e3
/-- no point that is looked at is better -/
theorem t_cen3 (hL : q_lay K) (hw : q_wf N) (hd : y_cc N) (hS : S < 2 ^ w_nn N) (hp0 : 0 ≤ p) (hp1 : p ≤ 1000000) (hq0 : 1 ≤ q) (hq1 : q ≤ 1000) {l10 : Int} : ∀ (m k j : Nat) (l12 l13 : mV) (h : mH), k + m = w_ne N → l_S K h N R c j → j + 10 * m + 1 < 600000 → ∃ h' l12' l13', l_S K h' N R c (j + 10 * m + 1) ∧ m_run Z (278, 297, [(2, ((0 : Nat) : Int)), (0, (S : Int)), (0, p), (0, q), (0, cA N S), (0, cB N S), (0, (cG N S : Int)), (0, cT N S), (0, cU N S), (0, 1), (0, l10), (0, (k : Int)), l12, l13], [], h) = m_run Z (278, 432, [(2, ((0 : Nat) : Int)), (0, (S : Int)), (0, p), (0, q), (0, cA N S), (0, cB N S), (0, (cG N S : Int)), (0, cT N S), (0, cU N S), (0, 1), (0, l10), (0, (w_ne N : Int)), l12', l13'], [], h') := by
  have n12 := (wf_e hw).2
  have n0 := (wf_e hw).1
  have wn : w32 (w_ne N : Int) = (w_ne N : Int) := q_w (by omega)
  have wp : w32 p = p := q_wi (by omega) (by omega)
  obtain ⟨b1, ⟨b2, b3⟩, ⟨b4, b5⟩, -⟩ := c_bd (S := S) hw hd
  obtain ⟨d1, ⟨d2, d3⟩, ⟨d4, d5⟩, -⟩ := m_bd hw hd
  intro m
  induction m with
  | zero =>
    intro k j l12 l13 h hi w hj
    have hi : k = w_ne N := by omega
    subst hi
    obtain ⟨h1, e1, w1⟩ := L_count1 (Z := Z) hL w (by omega)
    rw [n0] at e1
    refine ⟨h1, l12, l13, w1, ?_⟩
    conv => lhs; rw [b_278_297, e1, Option.bind_some, g_aft0, b_278_304, if_pos (Int.le_refl _)]
  | succ m ih =>
    intro k j l12 l13 h hi w hj
    have wi : w32 (k : Int) = (k : Int) := q_w (by clear wn wp b2 b4 d2 d4; omega)
    have c0 : ¬ (w_ne N : Int) ≤ (k : Int) := by clear wn wi wp b2 b4 d2 d4; omega
    have e0 : ((k + 1 : Nat) : Int) = (k : Int) + 1 := by clear wn wi wp b2 b4 d2 d4; omega
    have hin : k < w_ne N := by clear wn wi wp b2 b4 d2 d4; omega
    have rk : 0 ≤ (k : Int) ∧ (k : Int) < N 0 1 := by clear wn wi wp b2 b4 d2 d4; omega
    have he7 := wf_ed hw hin
    have hl : N 10 k * q ≤ 50 * 1000 := Int.mul_le_mul (by omega) hq1 (by omega) (by decide)
    have hl0 : 0 ≤ N 10 k * q := Int.mul_nonneg (by omega) (by omega)
    obtain ⟨len, hlen⟩ : ∃ len, len = N 10 k * q := ⟨_, rfl⟩
    rw [← hlen] at hl hl0
    have wm : w32 (len + 1) = len + 1 := q_wi (by clear wn wi wp b2 b4 d2 d4; omega) (by clear wn wi wp b2 b4 d2 d4; omega)
    have cm : ¬ w32 (N 10 k * q + 1) = 0 := by rw [← hlen, wm]; clear wn wi wp b2 b4 d2 d4 wm; omega
    obtain ⟨at9, hat⟩ : ∃ at9, at9 = p.tmod (len + 1) := ⟨_, rfl⟩
    have ha0 : 0 ≤ at9 := by rw [hat]; exact Int.tmod_nonneg _ hp0
    have ha1 : at9 ≤ len := by
      have := Int.tmod_lt_of_pos p (b := len + 1) (by clear wn wi wp b2 b4 d2 d4 wm; omega)
      rw [← hat] at this
      clear wn wi wp b2 b4 d2 d4 wm
      omega
    have hy : y_pt N k at9 q := ⟨hq0, hq1, ha0, by rw [← hlen]; exact ha1⟩
    have step : ∃ h2 l12' l13', l_S K h2 N R c (j + 10) ∧ m_run Z (278, 297, [(2, ((0 : Nat) : Int)), (0, (S : Int)), (0, p), (0, q), (0, cA N S), (0, cB N S), (0, (cG N S : Int)), (0, cT N S), (0, cU N S), (0, 1), (0, l10), (0, (k : Int)), l12, l13], [], h) = m_run Z (278, 297, [(2, ((0 : Nat) : Int)), (0, (S : Int)), (0, p), (0, q), (0, cA N S), (0, cB N S), (0, (cG N S : Int)), (0, cT N S), (0, cU N S), (0, 1), (0, l10), (0, (k : Int) + 1), l12', l13'], [], h2) := by
      obtain ⟨h1, e1, w1⟩ := L_count1 (Z := Z) hL w (by omega)
      rw [n0] at e1
      obtain ⟨h2, e2, w2⟩ := L_edge2 (Z := Z) (x := (k : Int)) hL w1 (by clear wn wi wp b2 b4 d2 d4 wm; omega) rk
      rw [Int.toNat_natCast] at e2
      obtain ⟨h3, e3, w3⟩ := L_alw (Z := Z) hL w2 (by omega) hin hy
      have head : m_run Z (278, 297, [(2, ((0 : Nat) : Int)), (0, (S : Int)), (0, p), (0, q), (0, cA N S), (0, cB N S), (0, (cG N S : Int)), (0, cT N S), (0, cU N S), (0, 1), (0, l10), (0, (k : Int)), l12, l13], [], h) = m_run Z (278, 340, [(2, ((0 : Nat) : Int)), (0, (S : Int)), (0, p), (0, q), (0, cA N S), (0, cB N S), (0, (cG N S : Int)), (0, cT N S), (0, cU N S), (0, 1), (0, l10), (0, (k : Int)), (0, len), (0, at9)], [(0, vv_al N k at9 q)], h3) := by
        rw [b_278_297, e1, Option.bind_some, g_aft0, b_278_304, wn, wi, if_neg c0, b_278_307, if_neg (show ¬ w32 1 = 0 by decide), b_278_312, e2, Option.bind_some, g_aft0, b_278_319 cm, ← hlen, wm, wp, ← hat, e3, Option.bind_some, g_aft0]
      rw [head]
      by_cases ca : w_al N k at9 q = true
      · have va : vv_al N k at9 q = 1 := by unfold vv_al; rw [if_pos ca]
        rw [va]
        obtain ⟨p1, p2, p3, p4⟩ := y_ptw hw hin hy
        have hv := vv_h_v p3 hin ha0 (by rw [← hlen]; exact ha1) ca
        obtain ⟨h4, e4, w4⟩ := L_hgt (Z := Z) (u := 0) hL w3 (by omega) hS hin hy (Or.inl rfl) hd.1
        obtain ⟨h5, e5, w5⟩ := L_hgt (Z := Z) (u := 1) hL w4 (by omega) hS hin hy (Or.inr rfl) hd.1
        obtain ⟨h6, e6, w6⟩ := L_median3 (Z := Z) hL w5 (by omega) hd
        obtain ⟨h7, e7, w7⟩ := L_median4 (Z := Z) hL w6 (by omega) hd
        obtain ⟨h8, e8, w8⟩ := L_cst (Z := Z) (u := 0) hL w7 (by omega) hin hy (Or.inl rfl) hd.1
        obtain ⟨h9, e9, w9⟩ := L_cst (Z := Z) (u := 1) hL w8 (by omega) hin hy (Or.inr rfl) hd.1
        have k1 := vv_H_b (S := (S : Int)) hw hd.1 hin hy
        have k2 := vv_C_b hw hd.1 hin hy
        have k3 := q_ptle.mpr (vv_c_le hw hd (S := (S : Int)) hv)
        have k4 := q_ptle.mpr (vv_m_le hw hd hv)
        have r1 : q_pt (vv_r N (S : Int)) 0 = cA N S := rfl
        have r2 : q_pt (vv_r N (S : Int)) 1 = cB N S := rfl
        have r3 : q_pt (vv_mr N) 0 = mA N := rfl
        have r4 : q_pt (vv_mr N) 1 = mB N := rfl
        rw [r1, r2] at k3
        rw [r3, r4] at k4
        generalize q_pt (h_fH N 0 (S : Int) k (fr at9 q)) 0 = H0 at *
        generalize q_pt (h_fH N 0 (S : Int) k (fr at9 q)) 1 = H1 at *
        generalize q_pt (h_fC N 0 k (fr at9 q)) 0 = C0 at *
        generalize q_pt (h_fC N 0 k (fr at9 q)) 1 = C1 at *
        have wH0 : w32 H0 = H0 := w32_of (by clear wn wi wp b2 b4 d2 d4 wm p1 p2; omega) (by clear wn wi wp b2 b4 d2 d4 wm p1 p2; omega)
        have wH1 : w32 H1 = H1 := q_wi (by clear wn wi wp b2 b4 d2 d4 wm p1 p2 wH0; omega) (by clear wn wi wp b2 b4 d2 d4 wm p1 p2 wH0; omega)
        have wC0 : w32 C0 = C0 := w32_of (by clear wn wi wp b2 b4 d2 d4 wm p1 p2 wH0 wH1; omega) (by clear wn wi wp b2 b4 d2 d4 wm p1 p2 wH0 wH1; omega)
        have wC1 : w32 C1 = C1 := q_wi (by clear wn wi wp b2 b4 d2 d4 wm p1 p2 wH0 wH1 wC0; omega) (by clear wn wi wp b2 b4 d2 d4 wm p1 p2 wH0 wH1 wC0; omega)
        have t1 := t_most (Z := Z) (h := h5) (x := cA N S) (y := cB N S) (z := H0) (u := H1) b3 ⟨by omega, by omega⟩ k1.1 ⟨by omega, by omega⟩ k3
        have t2 := t_most (Z := Z) (h := h9) (x := mA N) (y := mB N) (z := C0) (u := C1) d3 ⟨by omega, by omega⟩ k2.1 ⟨by omega, by omega⟩ k4
        refine ⟨h9, (0, len), (0, at9), l_Sm w9 (by omega), ?_⟩
        simp only [b_278_0, b_278_6, b_278_14, b_278_21, b_278_24, b_278_29, b_278_32, b_278_39, b_278_46, b_278_51, b_278_56, b_278_61, b_278_66, b_278_72, b_278_77, b_278_81, b_278_82, b_278_83, b_278_89, b_278_97, b_278_105, b_278_112, b_278_122, b_278_126, b_278_138, b_278_143, b_278_155, b_278_160, b_278_164, b_278_165, b_278_172, b_278_179, b_278_188, b_278_193, b_278_197, b_278_201, b_278_202, b_278_214, b_278_217, b_278_222, b_278_229, b_278_232, b_278_239, b_278_253, b_278_275, b_278_281, b_278_285, b_278_286, b_278_288, b_278_294, b_278_304, b_278_307, b_278_312, b_278_319, b_278_340, b_278_343, b_278_360, b_278_372, b_278_376, b_278_379, b_278_384, b_278_390, b_278_401, b_278_412, b_278_416, b_278_419, b_278_423, b_278_424, b_278_432, b_278_437, b_278_443, b_278_448, b_278_453, b_278_457, b_278_462, b_278_465, b_278_471, b_278_476, b_278_481, b_278_484, b_278_488, b_278_492, b_278_502, b_278_513, b_278_523, b_278_526, b_278_530, b_278_531, ↓reduceIte, Nat.reduceEqDiff, Nat.reduceMul, q_n10, q_n01, Option.bind_some, g_aft0, g_aft1, g_aft2, g_aft3, g_aft9, Nat.reduceAdd, m_kill_0, m_kill_2, m_kill_3, m_kill_4, m_kill_9, true_or, or_true, q_lm53, q_lm52, q_lm51, q_lm1, q_l0, q_l1, q_l2, q_l3, q_l4, q_l5, q_l6, q_l7, q_l8, q_l9, q_l10, q_l11, q_l12, q_l20, q_l32, q_l50, q_l64, q_l80, q_l120, q_l122, q_l126, q_l372, q_l1000, q_l1000000, e4, e5, b2, b4, wH0, wH1, t1, e6, e7, e8, e9, d2, d4, wC0, wC1, t2]
      · have va : vv_al N k at9 q = 0 := by unfold vv_al; rw [if_neg ca]
        rw [va]
        refine ⟨h3, (0, len), (0, at9), l_Sm w3 (by omega), ?_⟩
        simp only [b_278_0, b_278_6, b_278_14, b_278_21, b_278_24, b_278_29, b_278_32, b_278_39, b_278_46, b_278_51, b_278_56, b_278_61, b_278_66, b_278_72, b_278_77, b_278_81, b_278_82, b_278_83, b_278_89, b_278_97, b_278_105, b_278_112, b_278_122, b_278_126, b_278_138, b_278_143, b_278_155, b_278_160, b_278_164, b_278_165, b_278_172, b_278_179, b_278_188, b_278_193, b_278_197, b_278_201, b_278_202, b_278_214, b_278_217, b_278_222, b_278_229, b_278_232, b_278_239, b_278_253, b_278_275, b_278_281, b_278_285, b_278_286, b_278_288, b_278_294, b_278_304, b_278_307, b_278_312, b_278_319, b_278_340, b_278_343, b_278_360, b_278_372, b_278_376, b_278_379, b_278_384, b_278_390, b_278_401, b_278_412, b_278_416, b_278_419, b_278_423, b_278_424, b_278_432, b_278_437, b_278_443, b_278_448, b_278_453, b_278_457, b_278_462, b_278_465, b_278_471, b_278_476, b_278_481, b_278_484, b_278_488, b_278_492, b_278_502, b_278_513, b_278_523, b_278_526, b_278_530, b_278_531, ↓reduceIte, Nat.reduceEqDiff, Nat.reduceMul, q_n10, q_n01, Option.bind_some, g_aft0, g_aft1, g_aft2, g_aft3, g_aft9, Nat.reduceAdd, m_kill_0, m_kill_2, m_kill_3, m_kill_4, m_kill_9, true_or, or_true, q_lm53, q_lm52, q_lm51, q_lm1, q_l0, q_l1, q_l2, q_l3, q_l4, q_l5, q_l6, q_l7, q_l8, q_l9, q_l10, q_l11, q_l12, q_l20, q_l32, q_l50, q_l64, q_l80, q_l120, q_l122, q_l126, q_l372, q_l1000, q_l1000000]
    obtain ⟨h2, l12', l13', w4, e2⟩ := step
    obtain ⟨h3, l122, l132, w5, e3⟩ := ih (k + 1) (j + 10) l12' l13' h2 (by omega) w4 (by omega)
    refine ⟨h3, l122, l132, l_Sm w5 (by omega), e2.trans ?_⟩
    rw [← e0]
    exact e3
/-- the end: the median, fewer nodes -/
theorem t_cen4 (hL : q_lay K) (w : l_S K h N R c j) (hj : j < 500000) (hS : S < 2 ^ w_nn N) (hd : y_cc N) {x9 x10 x11 : mV} {p q g t u : Int} : l_C K (m_run Z (278, 432, [(2, ((0 : Nat) : Int)), (0, (S : Int)), (0, p), (0, q), (0, cA N S), (0, cB N S), (0, g), (0, t), (0, u), (0, 1), x10, x11, l12, l13], [], h)) 1 N R c (j + 20) := by
  have hw := l_Sw w
  have n8 := (wf_n hw).2.2
  have p8 := q_pow8 n8
  obtain ⟨b1, ⟨b2, b3⟩, ⟨b4, b5⟩, -⟩ := c_bd (S := S) hw hd
  obtain ⟨d1, ⟨d2, d3⟩, ⟨d4, d5⟩, ⟨d6, d7⟩, d8, d9⟩ := m_bd hw hd
  obtain ⟨h1, e1, w1⟩ := L_median0 (Z := Z) hL w (by omega) hd
  obtain ⟨h2, e2, w2⟩ := L_median1 (Z := Z) hL w1 (by omega) hd
  obtain ⟨h3, e3, w3⟩ := L_median2 (Z := Z) hL w2 (by omega) hd
  obtain ⟨h4, e4, w4⟩ := L_cst (Z := Z) (u := 0) hL w3 (by omega) d1 d8 (Or.inl rfl) hd.1
  obtain ⟨h5, e5, w5⟩ := L_median3 (Z := Z) hL w4 (by omega) hd
  obtain ⟨h6, e6, w6⟩ := L_median0 (Z := Z) hL w5 (by omega) hd
  obtain ⟨h7, e7, w7⟩ := L_median1 (Z := Z) hL w6 (by omega) hd
  obtain ⟨h8, e8, w8⟩ := L_median2 (Z := Z) hL w7 (by omega) hd
  obtain ⟨h9, e9, w9⟩ := L_alw (Z := Z) hL w8 (by omega) d1 d8
  rw [d9] at e9
  have r4 : h_fC N 0 (mG N) (fr (mT N) (mU N)) = vv_mr N := by rw [mF]; rfl
  have r5 : q_pt (vv_mr N) 0 = mA N := rfl
  rw [r4, r5] at e4
  by_cases cS : S = 0
  · have ws0 : w32 (S : Int) = 0 := by rw [cS]; decide
    refine ⟨h9, ?_, l_Sm w9 (by omega)⟩
    simp only [b_278_0, b_278_6, b_278_14, b_278_21, b_278_24, b_278_29, b_278_32, b_278_39, b_278_46, b_278_51, b_278_56, b_278_61, b_278_66, b_278_72, b_278_77, b_278_81, b_278_82, b_278_83, b_278_89, b_278_97, b_278_105, b_278_112, b_278_122, b_278_126, b_278_138, b_278_143, b_278_155, b_278_160, b_278_164, b_278_165, b_278_172, b_278_179, b_278_188, b_278_193, b_278_197, b_278_201, b_278_202, b_278_214, b_278_217, b_278_222, b_278_229, b_278_232, b_278_239, b_278_253, b_278_275, b_278_281, b_278_285, b_278_286, b_278_288, b_278_294, b_278_304, b_278_307, b_278_312, b_278_319, b_278_340, b_278_343, b_278_360, b_278_372, b_278_376, b_278_379, b_278_384, b_278_390, b_278_401, b_278_412, b_278_416, b_278_419, b_278_423, b_278_424, b_278_432, b_278_437, b_278_443, b_278_448, b_278_453, b_278_457, b_278_462, b_278_465, b_278_471, b_278_476, b_278_481, b_278_484, b_278_488, b_278_492, b_278_502, b_278_513, b_278_523, b_278_526, b_278_530, b_278_531, ↓reduceIte, Nat.reduceEqDiff, Nat.reduceMul, q_n10, q_n01, Option.bind_some, g_aft0, g_aft1, g_aft2, g_aft3, g_aft9, Nat.reduceAdd, m_kill_0, m_kill_2, m_kill_3, m_kill_4, m_kill_9, true_or, or_true, q_lm53, q_lm52, q_lm51, q_lm1, q_l0, q_l1, q_l2, q_l3, q_l4, q_l5, q_l6, q_l7, q_l8, q_l9, q_l10, q_l11, q_l12, q_l20, q_l32, q_l50, q_l64, q_l80, q_l120, q_l122, q_l126, q_l372, q_l1000, q_l1000000, e1, e2, e3, e4, e5, e6, e7, e8, e9, ws0]
  · have cS2 : ¬ (S : Int) = 0 := by clear b2 b4 d2 d4 d6 d7; omega
    have wS : w32 (S : Int) = (S : Int) := q_w (by omega)
    have S256 : S < 256 := Nat.lt_of_lt_of_le hS p8.2
    obtain ⟨q1, q2, q3⟩ := q_lessN ⟨S, S256⟩ cS
    dsimp only at q1 q2 q3
    have hS' : S &&& (S - 1) < 2 ^ w_nn N := Nat.lt_of_le_of_lt q3 hS
    obtain ⟨h10, e10, w10⟩ := L_radius0 (Z := Z) hL w9 (by omega) hS' hd
    obtain ⟨h11, e11, w11⟩ := L_radius1 (Z := Z) hL w10 (by omega) hS' hd
    obtain ⟨-, ⟨f2, f3⟩, ⟨f4, f5⟩, -⟩ := c_bd (S := S &&& (S - 1)) hw hd
    have k1 := q_ptle.mpr (vv_r_sub hw hd (S' := S &&& (S - 1)) (S := S) (Nat.lt_of_lt_of_le hS' p8.2) S256 q2)
    have t1 := t_most (Z := Z) (h := h11) (x := cA N (S &&& (S - 1))) (y := cB N (S &&& (S - 1))) (z := cA N S) (u := cB N S) f3 ⟨by omega, by omega⟩ b3 ⟨by omega, by omega⟩ k1
    refine ⟨h11, ?_, l_Sm w11 (by omega)⟩
    simp only [b_278_0, b_278_6, b_278_14, b_278_21, b_278_24, b_278_29, b_278_32, b_278_39, b_278_46, b_278_51, b_278_56, b_278_61, b_278_66, b_278_72, b_278_77, b_278_81, b_278_82, b_278_83, b_278_89, b_278_97, b_278_105, b_278_112, b_278_122, b_278_126, b_278_138, b_278_143, b_278_155, b_278_160, b_278_164, b_278_165, b_278_172, b_278_179, b_278_188, b_278_193, b_278_197, b_278_201, b_278_202, b_278_214, b_278_217, b_278_222, b_278_229, b_278_232, b_278_239, b_278_253, b_278_275, b_278_281, b_278_285, b_278_286, b_278_288, b_278_294, b_278_304, b_278_307, b_278_312, b_278_319, b_278_340, b_278_343, b_278_360, b_278_372, b_278_376, b_278_379, b_278_384, b_278_390, b_278_401, b_278_412, b_278_416, b_278_419, b_278_423, b_278_424, b_278_432, b_278_437, b_278_443, b_278_448, b_278_453, b_278_457, b_278_462, b_278_465, b_278_471, b_278_476, b_278_481, b_278_484, b_278_488, b_278_492, b_278_502, b_278_513, b_278_523, b_278_526, b_278_530, b_278_531, ↓reduceIte, Nat.reduceEqDiff, Nat.reduceMul, q_n10, q_n01, Option.bind_some, g_aft0, g_aft1, g_aft2, g_aft3, g_aft9, Nat.reduceAdd, m_kill_0, m_kill_2, m_kill_3, m_kill_4, m_kill_9, true_or, or_true, q_lm53, q_lm52, q_lm51, q_lm1, q_l0, q_l1, q_l2, q_l3, q_l4, q_l5, q_l6, q_l7, q_l8, q_l9, q_l10, q_l11, q_l12, q_l20, q_l32, q_l50, q_l64, q_l80, q_l120, q_l122, q_l126, q_l372, q_l1000, q_l1000000, e1, e2, e3, e4, e5, e6, e7, e8, e9, wS, cS2, q1, e10, e11, f2, f4, b2, b4, t1]
/-- isCenter -/
theorem t_cenN (hL : q_lay K) (w : l_S K h N R c j) (hj : j < 500000) (hS : S < 2 ^ w_nn N) (hd : ¬ y_cc N) : l_C K (m_cl Z 278 [(2, ((0 : Nat) : Int)), (0, (S : Int)), (0, p), (0, q)] h) 1 N R c (j + 20) := by
  have hw := l_Sw w
  have hE := wf_e hw
  have hx : 0 ≤ (S : Int) ∧ (S : Int) < ((2 ^ w_nn N : Nat) : Int) := ⟨Int.natCast_nonneg _, Int.ofNat_lt.mpr hS⟩
  obtain ⟨h1, e1, w1⟩ := L_radiusN (Z := Z) (u := 0) hL w (by omega) hx (Or.inl rfl) hd
  obtain ⟨h2, e2, w2⟩ := L_radiusN (Z := Z) (u := 1) hL w1 (by omega) hx (Or.inr rfl) hd
  obtain ⟨h3, e3, w3⟩ := L_count3 (Z := Z) hL w2 (by omega)
  by_cases hc : w_cn N
  · rw [vv_cn1 hc] at e3
    obtain ⟨h4, e4, w4⟩ := L_count1 (Z := Z) hL w3 (by omega)
    have hn : N 0 1 = 0 := by
      apply Classical.byContradiction
      intro q9
      exact hd ⟨hc, by omega⟩
    rw [hn] at e4
    obtain ⟨h5, e5, w5⟩ := L_criticalN (Z := Z) hL w4 (by omega) hx hd
    obtain ⟨h6, e6, w6⟩ := L_medianN (Z := Z) (x := 0) hL w5 (by omega) (by decide) hd
    obtain ⟨h7, e7, w7⟩ := L_radiusOfN (Z := Z) (x := 2) (u := 0) hL w6 (by omega) (by decide) (Or.inl rfl) hd
    refine ⟨h7, ?_, l_Sm w7 (by omega)⟩
    simp only [e_278, b_278_0, b_278_6, b_278_14, b_278_21, b_278_24, b_278_29, b_278_32, b_278_39, b_278_46, b_278_51, b_278_56, b_278_61, b_278_66, b_278_72, b_278_77, b_278_81, b_278_82, b_278_83, b_278_89, b_278_97, b_278_105, b_278_112, b_278_122, b_278_126, b_278_138, b_278_143, b_278_155, b_278_160, b_278_164, b_278_165, b_278_172, b_278_179, b_278_188, b_278_193, b_278_197, b_278_201, b_278_202, b_278_214, b_278_217, b_278_222, b_278_229, b_278_232, b_278_239, b_278_253, b_278_275, b_278_281, b_278_285, b_278_286, b_278_288, b_278_294, b_278_304, b_278_307, b_278_312, b_278_319, b_278_340, b_278_343, b_278_360, b_278_372, b_278_376, b_278_379, b_278_384, b_278_390, b_278_401, b_278_412, b_278_416, b_278_419, b_278_423, b_278_424, b_278_432, b_278_437, b_278_443, b_278_448, b_278_453, b_278_457, b_278_462, b_278_465, b_278_471, b_278_476, b_278_481, b_278_484, b_278_488, b_278_492, b_278_502, b_278_513, b_278_523, b_278_526, b_278_530, b_278_531, ↓reduceIte, Nat.reduceEqDiff, Nat.reduceMul, q_n10, q_n01, Option.bind_some, g_aft0, g_aft1, g_aft2, g_aft3, g_aft9, Nat.reduceAdd, m_kill_0, m_kill_2, m_kill_3, m_kill_4, m_kill_9, true_or, or_true, q_lm53, q_lm52, q_lm51, q_lm1, q_l0, q_l1, q_l2, q_l3, q_l4, q_l5, q_l6, q_l7, q_l8, q_l9, q_l10, q_l11, q_l12, q_l20, q_l32, q_l50, q_l64, q_l80, q_l120, q_l122, q_l126, q_l372, q_l1000, q_l1000000, e1, e2, e3, e4, e5, e6, e7]
  · rw [vv_cn0 hc] at e3
    obtain ⟨h5, e5, w5⟩ := L_criticalN (Z := Z) hL w3 (by omega) hx hd
    obtain ⟨h6, e6, w6⟩ := L_medianN (Z := Z) (x := 0) hL w5 (by omega) (by decide) hd
    obtain ⟨h7, e7, w7⟩ := L_radiusOfN (Z := Z) (x := 2) (u := 0) hL w6 (by omega) (by decide) (Or.inl rfl) hd
    refine ⟨h7, ?_, l_Sm w7 (by omega)⟩
    simp only [e_278, b_278_0, b_278_6, b_278_14, b_278_21, b_278_24, b_278_29, b_278_32, b_278_39, b_278_46, b_278_51, b_278_56, b_278_61, b_278_66, b_278_72, b_278_77, b_278_81, b_278_82, b_278_83, b_278_89, b_278_97, b_278_105, b_278_112, b_278_122, b_278_126, b_278_138, b_278_143, b_278_155, b_278_160, b_278_164, b_278_165, b_278_172, b_278_179, b_278_188, b_278_193, b_278_197, b_278_201, b_278_202, b_278_214, b_278_217, b_278_222, b_278_229, b_278_232, b_278_239, b_278_253, b_278_275, b_278_281, b_278_285, b_278_286, b_278_288, b_278_294, b_278_304, b_278_307, b_278_312, b_278_319, b_278_340, b_278_343, b_278_360, b_278_372, b_278_376, b_278_379, b_278_384, b_278_390, b_278_401, b_278_412, b_278_416, b_278_419, b_278_423, b_278_424, b_278_432, b_278_437, b_278_443, b_278_448, b_278_453, b_278_457, b_278_462, b_278_465, b_278_471, b_278_476, b_278_481, b_278_484, b_278_488, b_278_492, b_278_502, b_278_513, b_278_523, b_278_526, b_278_530, b_278_531, ↓reduceIte, Nat.reduceEqDiff, Nat.reduceMul, q_n10, q_n01, Option.bind_some, g_aft0, g_aft1, g_aft2, g_aft3, g_aft9, Nat.reduceAdd, m_kill_0, m_kill_2, m_kill_3, m_kill_4, m_kill_9, true_or, or_true, q_lm53, q_lm52, q_lm51, q_lm1, q_l0, q_l1, q_l2, q_l3, q_l4, q_l5, q_l6, q_l7, q_l8, q_l9, q_l10, q_l11, q_l12, q_l20, q_l32, q_l50, q_l64, q_l80, q_l120, q_l122, q_l126, q_l372, q_l1000, q_l1000000, e1, e2, e3, e5, e6, e7]
theorem t_center (hL : q_lay K) (w : l_S K h N R c j) (hj : j < 400000) (hS : S < 2 ^ w_nn N) (hp0 : 0 ≤ p) (hp1 : p ≤ 1000000) (hq0 : 1 ≤ q) (hq1 : q ≤ 1000) : l_C K (m_cl Z 278 [(2, ((0 : Nat) : Int)), (0, (S : Int)), (0, p), (0, q)] h) 1 N R c (j + 300) := by
  have hw := l_Sw w
  have n8 := (wf_n hw).2.2
  have n12 := (wf_e hw).2
  by_cases hd : y_cc N
  · obtain ⟨h1, m, w1, m1, e1⟩ := t_cen1 (Z := Z) (p := p) (q := q) hL w (by omega) hS hd
    obtain ⟨h2, w2, e2⟩ := t_cen2 (Z := Z) (p := p) (q := q) (l12 := (9, 0)) (l13 := (9, 0)) hL hw hd m1 (w_nn N) 0 (j + 11) h1 (by omega) w1 (by omega)
    obtain ⟨h3, l12', l13', w3, e3⟩ := t_cen3 (Z := Z) (l10 := (m : Int)) hL hw hd hS hp0 hp1 hq0 hq1 (w_ne N) 0 _ (9, 0) (9, 0) h2 (by omega) w2 (by omega)
    obtain ⟨h4, e4, w4⟩ := t_cen4 (Z := Z) (x10 := (0, (m : Int))) (x11 := (0, (w_ne N : Int))) (l12 := l12') (l13 := l13') (p := p) (q := q) (g := (cG N S : Int)) (t := cT N S) (u := cU N S) (x9 := (9, 0)) hL w3 (by omega) hS hd
    refine ⟨h4, ?_, l_Sm w4 (by omega)⟩
    rw [e1]
    refine Eq.trans e2 ?_
    conv => lhs; rw [b_278_294]
    refine Eq.trans e3 e4
  · obtain ⟨h1, e1, w1⟩ := t_cenN (Z := Z) (p := p) (q := q) hL w (by omega) hS hd
    exact ⟨h1, e1, l_Sm w1 (by omega)⟩
end
end
