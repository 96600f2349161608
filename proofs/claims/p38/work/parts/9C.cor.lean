section
/-! areCorners answers true. -/
theorem n_filter {α : Type} (p q : α → Bool) (hpq : ∀ y, p y = true → q y = true) : ∀ L : List α, (L.filter p).length ≤ (L.filter q).length ∧ ((∃ a, a ∈ L ∧ p a = false ∧ q a = true) → (L.filter p).length < (L.filter q).length)
  | [] => ⟨Nat.le_refl _, fun ⟨a, h, _⟩ => nomatch h⟩
  | b :: L => by
    obtain ⟨h1, h2⟩ := n_filter p q hpq L
    cases hp : p b with
    | true =>
      have hq := hpq b hp
      rw [List.filter_cons_of_pos hp, List.filter_cons_of_pos hq]
      refine ⟨by simp only [List.length_cons]; omega, ?_⟩
      rintro ⟨a, ha, ha1, ha2⟩
      rcases List.mem_cons.mp ha with rfl | ha
      · rw [hp] at ha1; cases ha1
      · have := h2 ⟨a, ha, ha1, ha2⟩
        simp only [List.length_cons]
        omega
    | false =>
      rw [List.filter_cons_of_neg (by rw [hp]; decide)]
      cases hq : q b with
      | true =>
        rw [List.filter_cons_of_pos hq]
        simp only [List.length_cons]
        exact ⟨by omega, fun _ => by omega⟩
      | false =>
        rw [List.filter_cons_of_neg (by rw [hq]; decide)]
        refine ⟨h1, ?_⟩
        rintro ⟨a, ha, ha1, ha2⟩
        rcases List.mem_cons.mp ha with rfl | ha
        · rw [hq] at ha2; cases ha2
        · exact h2 ⟨a, ha, ha1, ha2⟩
/-- an ascending row of numbers out of a list is no longer than the list -/
theorem n_asc {f : Nat → Rat} {L : List Rat} {n : Nat} (h1 : ∀ i, i < n → f i ∈ L) (h2 : ∀ i j, i < j → j < n → f i < f j) : n ≤ L.length := by
  have key : ∀ i, i < n → i + 1 ≤ (L.filter (fun y => decide (y ≤ f i))).length := by
    intro i
    induction i with
    | zero =>
      intro hi
      have : f 0 ∈ L.filter (fun y => decide (y ≤ f 0)) := List.mem_filter.mpr ⟨h1 0 hi, decide_eq_true Rat.le_refl⟩
      have := List.length_pos_of_mem this
      omega
    | succ i ih =>
      intro hi
      have h3 := ih (by omega)
      have h4 := h2 i (i + 1) (by omega) hi
      have h5 := (n_filter (fun y => decide (y ≤ f i)) (fun y => decide (y ≤ f (i + 1))) (fun y hy => decide_eq_true (Rat.le_trans (of_decide_eq_true hy) (Rat.le_of_lt h4))) L).2 ⟨f (i + 1), h1 _ hi, decide_eq_false (Rat.not_le.mpr h4), decide_eq_true Rat.le_refl⟩
      omega
  rcases Nat.eq_zero_or_pos n with z | z
  · omega
  · have h3 := key (n - 1) (by omega)
    have h4 := List.length_filter_le (fun y => decide (y ≤ f (n - 1))) L
    omega
section
variable {N : Nat → Nat → Int} {g i : Nat} {u a : Int}
theorem q_pti (ha : 0 ≤ a) : q_pt (fr a 1) 0 = a ∧ q_pt (fr a 1) 1 = 1 := by
  rw [← q_ptr ha (by decide), ← q_ptr ha (by decide)]
  unfold w_red
  rw [if_pos rfl, if_neg (by decide), show (1 : Int).toNat = 1 from rfl, Nat.gcd_one_right, Nat.div_one, Nat.div_one]
  exact ⟨by omega, rfl⟩
noncomputable def kc (N : Nat → Nat → Int) (g : Nat) : Nat := (vv_kl N g).1
noncomputable def kx (N : Nat → Nat → Int) (g i : Nat) : Rat := (vv_kl N g).2 i
noncomputable def kP (N : Nat → Nat → Int) (g i : Nat) : Int := q_pt (kx N g i) 0
noncomputable def kQ (N : Nat → Nat → Int) (g i : Nat) : Int := q_pt (kx N g i) 1
noncomputable def kH (N : Nat → Nat → Int) (g i : Nat) : Int := q_pt (h_fH N 0 (vv_all N) g (kx N g i)) 0
noncomputable def kJ (N : Nat → Nat → Int) (g i : Nat) : Int := q_pt (h_fH N 0 (vv_all N) g (kx N g i)) 1
def y_ke (N : Nat → Nat → Int) (g : Nat) : Prop := ∃ c P Q V, y_kl N 0 g c P Q V
theorem k_cf (hi : i < kc N g) : vv_cf N g (i : Int) 0 = kP N g i ∧ vv_cf N g (i : Int) 1 = kQ N g i ∧ vv_cf N g (i : Int) 2 = kH N g i ∧ vv_cf N g (i : Int) 3 = kJ N g i := by
  have h1 : 0 ≤ (i : Int) ∧ (i : Int) < ((vv_kl N g).1 : Int) := ⟨Int.natCast_nonneg _, Int.ofNat_lt.mpr hi⟩
  unfold vv_cf
  rw [if_pos h1, if_pos h1, if_pos h1, if_pos h1, if_pos (by decide), if_pos (by decide), if_neg (by decide), if_neg (by decide), Int.toNat_natCast]
  exact ⟨rfl, rfl, rfl, rfl⟩
theorem k_cfn {y : Int} (hy : ¬ (0 ≤ y ∧ y < (kc N g : Int))) : vv_cf N g y u = -1 := by
  unfold vv_cf
  exact if_neg hy
theorem k_bd (hw : q_wf N) (hc : w_cn N) (hg : g < w_ne N) (hk : y_ke N g) (hi : i < kc N g) : (w32 (kP N g i) = kP N g i ∧ 0 ≤ kP N g i ∧ kP N g i ≤ 50000) ∧ (w32 (kQ N g i) = kQ N g i ∧ 1 ≤ kQ N g i ∧ kQ N g i ≤ 1000) ∧ w32 (kH N g i) = kH N g i ∧ w32 (kJ N g i) = kJ N g i ∧ y_pt N g (kP N g i) (kQ N g i) := by
  obtain ⟨c, P, Q, V, h⟩ := hk
  obtain ⟨⟨h1, h2⟩, ⟨h3, h4⟩, h5, h6⟩ := vv_kl_ok hw hc hg h i hi
  have hq : 0 < kQ N g i := by unfold kQ; have := h2.1; show 0 < q_pt ((vv_kl N g).2 i) 1; omega
  have hle : kP N g i ≤ N 10 g * kQ N g i := by
    have h7 : fr (kP N g i) (kQ N g i) ≤ fr (N 10 g) 1 := by
      rw [fr_1, show fr (kP N g i) (kQ N g i) = kx N g i from q_ptf _]
      exact h6
    rw [fr_le hq (by decide)] at h7
    omega
  exact ⟨⟨q_wi (by show -1000000 ≤ q_pt ((vv_kl N g).2 i) 0; omega) (by show q_pt ((vv_kl N g).2 i) 0 ≤ 1000000; omega), h1⟩, ⟨q_wi (by show -1000000 ≤ q_pt ((vv_kl N g).2 i) 1; omega) (by show q_pt ((vv_kl N g).2 i) 1 ≤ 1000000; omega), h2⟩, w32_of (by show -2147483648 ≤ q_pt (h_fH N 0 (vv_all N) g ((vv_kl N g).2 i)) 0; omega) (by show q_pt (h_fH N 0 (vv_all N) g ((vv_kl N g).2 i)) 0 < 2147483648; omega), q_wi (by show -1000000 ≤ q_pt (h_fH N 0 (vv_all N) g ((vv_kl N g).2 i)) 1; omega) (by show q_pt (h_fH N 0 (vv_all N) g ((vv_kl N g).2 i)) 1 ≤ 1000000; omega), h2.1, h2.2, h1.1, hle⟩
theorem k_lt (hk : y_ke N g) {j : Nat} (hij : i < j) (hj : j < kc N g) : kx N g i < kx N g j := by
  obtain ⟨c, P, Q, V, h⟩ := hk
  exact (vv_kl_u h).2.2.1 i j hij hj
theorem k_two (hw : q_wf N) (hg : g < w_ne N) (hk : y_ke N g) : 1 < kc N g := by
  obtain ⟨c, P, Q, V, h⟩ := hk
  have h1 := y_kl2 hw hg h
  rw [(vv_kl_u h).1] at h1
  exact h1
theorem k_first (hw : q_wf N) (hc : w_cn N) (hg : g < w_ne N) (hk : y_ke N g) : kx N g 0 = fr 0 1 := by
  have hk' := hk
  obtain ⟨c, P, Q, V, h⟩ := hk
  obtain ⟨-, -, -, h4⟩ := vv_kl_u h
  obtain ⟨i, i1, i2⟩ := (h4 (fr 0 1)).mpr (Or.inl rfl)
  rcases Nat.eq_zero_or_pos i with z | z
  · rw [← i2, z]; rfl
  · have h5 := k_lt hk' z i1
    have h6 := (vv_kl_ok hw hc hg h 0 (by omega)).2.2.1
    have i3 : kx N g i = fr 0 1 := i2
    rw [i3, fr_0] at h5
    exact absurd h5 (Rat.not_lt.mpr h6)
theorem k_last (hw : q_wf N) (hc : w_cn N) (hg : g < w_ne N) (hk : y_ke N g) : kx N g (kc N g - 1) = fr (N 10 g) 1 := by
  have h2 := k_two hw hg hk
  have hk' := hk
  obtain ⟨c, P, Q, V, h⟩ := hk
  obtain ⟨-, -, -, h4⟩ := vv_kl_u h
  obtain ⟨i, i1, i2⟩ := (h4 (fr (N 10 g) 1)).mpr (Or.inr (Or.inl rfl))
  have i1 : i < kc N g := i1
  have i3 : kx N g i = fr (N 10 g) 1 := i2
  by_cases z : i = kc N g - 1
  · rw [← z]; exact i3
  · have h5 := k_lt hk' (i := i) (j := kc N g - 1) (by omega) (by omega)
    have h6 := (vv_kl_ok hw hc hg h (kc N g - 1) (by show kc N g - 1 < kc N g; omega)).2.2.2
    rw [i3, fr_1] at h5
    exact absurd h5 (Rat.not_lt.mpr h6)
/-- not more than 258 corners -/
theorem k_many (hw : q_wf N) (hk : y_ke N g) : kc N g ≤ 258 := by
  obtain ⟨c, P, Q, V, h⟩ := hk
  obtain ⟨-, -, h3, h4⟩ := vv_kl_u h
  have n8 := (wf_n hw).2.2
  have hL := n_asc (n := kc N g) (f := kx N g) (L := fr 0 1 :: fr (N 10 g) 1 :: (List.range 16).flatMap (fun l => (List.range 16).map (fun m => fr (w_lT N 0 g l m) (w_lB N 0 l m)))) (fun i hi => by
    rcases (h4 (kx N g i)).mp ⟨i, hi, rfl⟩ with h5 | h5 | ⟨l, m, l1, l2, -, l4⟩
    · rw [h5]; exact List.mem_cons_self
    · rw [h5]; exact List.mem_cons_of_mem _ List.mem_cons_self
    · refine List.mem_cons_of_mem _ (List.mem_cons_of_mem _ (List.mem_flatMap.mpr ⟨l, List.mem_range.mpr (by omega), List.mem_map.mpr ⟨m, List.mem_range.mpr (by omega), l4.symm⟩⟩))) h3
  have hlen : (fr 0 1 :: fr (N 10 g) 1 :: (List.range 16).flatMap (fun l => (List.range 16).map (fun m => fr (w_lT N 0 g l m) (w_lB N 0 l m)))).length = 258 := by
    rw [List.length_cons, List.length_cons, List.length_flatMap]
    simp only [List.length_map, List.length_range]
    decide
  omega
end
section
variable {Z : mZ} {K : Nat → mK} {N : Nat → Nat → Int} {R : Nat → Nat → Nat → Int} {c j g i : Nat} {y z : Int} {l5 l6 : mV} {h : mH}
theorem L_cor (hL : q_lay K) (w : l_S K h N R c j) (hj : j < 600000) (hg : g < w_ne N) (hy : w32 y = y) (hz : 0 ≤ z ∧ z ≤ 3) (hc : w_cn N) : l_C K (m_cl Z 260 [(2, ((0 : Nat) : Int)), (0, (g : Int)), (0, y), (0, z)] h) (vv_cf N g y z) N R c (j + 1) ∧ y_ke N g := by
  have he := (wf_e (l_Sw w)).1
  have h1 := L_corner (Z := Z) (x := (g : Int)) (y := y) (z := z) hL w hj ⟨by clear hy; omega, by clear hy; omega⟩ hy hz hc
  rw [Int.toNat_natCast] at h1
  exact h1
theorem L_cori (hL : q_lay K) (w : l_S K h N R c j) (hj : j < 600000) (hg : g < w_ne N) (hi : i ≤ 300) (hz : 0 ≤ z ∧ z ≤ 3) (hc : w_cn N) : l_C K (m_cl Z 260 [(2, ((0 : Nat) : Int)), (0, (g : Int)), (0, (i : Int)), (0, z)] h) (vv_cf N g (i : Int) z) N R c (j + 1) := (L_cor hL w hj hg (q_w (by omega)) hz hc).1
theorem t_cor1 (hL : q_lay K) (hw : q_wf N) (hc : w_cn N) (hg : g < w_ne N) (hk : y_ke N g) : ∀ (m i j : Nat) (l5 l6 : mV) (h : mH), i + m = kc N g → l_S K h N R c j → j + 10 * m + 1 < 600000 → ∃ h' l5' l6', l_S K h' N R c (j + 10 * m + 1) ∧ m_run Z (280, 61, [(2, ((0 : Nat) : Int)), (0, (g : Int)), (0, (vv_A N : Int)), (0, 1), (0, (i : Int)), l5, l6], [], h) = m_run Z (280, 210, [(2, ((0 : Nat) : Int)), (0, (g : Int)), (0, (vv_A N : Int)), (0, 1), (0, (kc N g : Int)), l5', l6'], [], h') := by
  have k258 := k_many hw hk
  obtain ⟨A1, A2, A3, A4⟩ := vv_Ab hw
  intro m
  induction m with
  | zero =>
    intro i j l5 l6 h hi w hj
    have hi : i = kc N g := by omega
    subst hi
    obtain ⟨h1, e1, w1⟩ := L_cori (Z := Z) (i := kc N g) (z := 0) hL w (by omega) hg (by omega) (by decide) hc
    rw [k_cfn (by omega)] at e1
    refine ⟨h1, l5, l6, w1, ?_⟩
    conv => lhs; rw [b_280_61, if_neg (show ¬ w32 1 = 0 by decide), b_280_65, e1, Option.bind_some, g_aft0, b_280_73, if_pos rfl]
  | succ m ih =>
    intro i j l5 l6 h hi w hj
    have hik : i < kc N g := by omega
    have e0 : ((i + 1 : Nat) : Int) = (i : Int) + 1 := by omega
    obtain ⟨b1, b2, b3, b4⟩ := k_cf hik
    obtain ⟨⟨d1, d2⟩, ⟨d3, d4⟩, d5, d6, d7⟩ := k_bd hw hc hg hk hik
    have step : ∃ h2 l5' l6', l_S K h2 N R c (j + 10) ∧ m_run Z (280, 61, [(2, ((0 : Nat) : Int)), (0, (g : Int)), (0, (vv_A N : Int)), (0, 1), (0, (i : Int)), l5, l6], [], h) = m_run Z (280, 61, [(2, ((0 : Nat) : Int)), (0, (g : Int)), (0, (vv_A N : Int)), (0, 1), (0, (i : Int) + 1), l5', l6'], [], h2) := by
      obtain ⟨h1, e1, w1⟩ := L_cori (Z := Z) (i := i) (z := 0) hL w (by clear d1 d3 d5 d6; omega) hg (by clear d1 d3 d5 d6; omega) (by decide) hc
      obtain ⟨h2, e2, w2⟩ := L_cori (Z := Z) (i := i) (z := 0) hL w1 (by clear d1 d3 d5 d6; omega) hg (by clear d1 d3 d5 d6; omega) (by decide) hc
      obtain ⟨h3, e3, w3⟩ := L_cori (Z := Z) (i := i) (z := 1) hL w2 (by clear d1 d3 d5 d6; omega) hg (by clear d1 d3 d5 d6; omega) (by decide) hc
      obtain ⟨h4, e4, w4⟩ := L_hgt (Z := Z) (u := 0) hL w3 (by clear d1 d3 d5 d6; omega) A1 hg d7 (Or.inl rfl) hc
      obtain ⟨h5, e5, w5⟩ := L_cori (Z := Z) (i := i) (z := 2) hL w4 (by clear d1 d3 d5 d6; omega) hg (by clear d1 d3 d5 d6; omega) (by decide) hc
      obtain ⟨h6, e6, w6⟩ := L_hgt (Z := Z) (u := 1) hL w5 (by clear d1 d3 d5 d6; omega) A1 hg d7 (Or.inr rfl) hc
      obtain ⟨h7, e7, w7⟩ := L_cori (Z := Z) (i := i) (z := 3) hL w6 (by clear d1 d3 d5 d6; omega) hg (by clear d1 d3 d5 d6; omega) (by decide) hc
      rw [b1] at e1 e2
      rw [b2] at e3
      rw [b3] at e5
      rw [b4] at e7
      have r1 : fr (kP N g i) (kQ N g i) = kx N g i := q_ptf _
      have r2 : q_pt (h_fH N 0 (vv_A N : Int) g (kx N g i)) 0 = kH N g i := by rw [← A4]; rfl
      have r3 : q_pt (h_fH N 0 (vv_A N : Int) g (kx N g i)) 1 = kJ N g i := by rw [← A4]; rfl
      rw [r1, r2] at e4
      rw [r1, r3] at e6
      have c1 : ¬ kP N g i = -1 := by clear d1 d3 d5 d6; omega
      have c2 : ¬ 1000 < kQ N g i := by clear d1 d3 d5 d6; omega
      have wi : w32 (i : Int) = (i : Int) := q_w (by clear d1 d3 d5 d6; omega)
      conv => enter [1, h2, 1, l5', 1, l6', 2, 1]; rw [b_280_61, if_neg (show ¬ w32 1 = 0 by decide)]
      by_cases i0 : i = 0
      · have wi0 : w32 (i : Int) = 0 := by rw [i0]; decide
        refine ⟨h7, (0, kP N g i), (0, kQ N g i), l_Sm w7 (by clear d1 d3 d5 d6 wi wi0; omega), ?_⟩
        simp only [b_280_0, b_280_6, b_280_17, b_280_20, b_280_27, b_280_31, b_280_38, b_280_41, b_280_48, b_280_52, b_280_56, b_280_57, b_280_65, b_280_73, b_280_77, b_280_85, b_280_95, b_280_105, b_280_116, b_280_124, b_280_127, b_280_138, b_280_146, b_280_149, b_280_153, b_280_154, b_280_159, b_280_164, b_280_174, b_280_192, b_280_198, b_280_202, b_280_203, b_280_210, b_280_214, b_280_220, b_280_230, b_280_236, b_280_239, b_280_249, b_280_253, b_280_261, b_280_265, b_280_269, b_280_270, ↓reduceIte, Nat.reduceEqDiff, Nat.reduceMul, q_n10, q_n01, Option.bind_some, g_aft0, g_aft1, g_aft2, g_aft3, g_aft9, Nat.reduceAdd, m_kill_0, m_kill_2, m_kill_3, m_kill_4, m_kill_9, true_or, or_true, q_lm53, q_lm52, q_lm51, q_lm1, q_l0, q_l1, q_l2, q_l3, q_l4, q_l5, q_l6, q_l7, q_l8, q_l9, q_l10, q_l11, q_l12, q_l20, q_l32, q_l50, q_l64, q_l80, q_l120, q_l122, q_l126, q_l372, q_l1000, q_l1000000, e1, d1, c1, e2, e3, d3, c2, e4, e5, e6, e7, wi0]
      · have ei : ((i - 1 : Nat) : Int) = (i : Int) - 1 := by clear d1 d3 d5 d6 wi; omega
        have hi1 : i - 1 < kc N g := by clear d1 d3 d5 d6 wi; omega
        have ci : ¬ (i : Int) = 0 := by clear d1 d3 d5 d6 wi; omega
        obtain ⟨h8, e8, w8⟩ := L_cori (Z := Z) (i := i - 1) (z := 0) hL w7 (by clear d1 d3 d5 d6 wi; omega) hg (by clear d1 d3 d5 d6 wi; omega) (by decide) hc
        obtain ⟨h9, e9, w9⟩ := L_cori (Z := Z) (i := i - 1) (z := 1) hL w8 (by clear d1 d3 d5 d6 wi; omega) hg (by clear d1 d3 d5 d6 wi; omega) (by decide) hc
        obtain ⟨f1, f2, -, -⟩ := k_cf hi1
        obtain ⟨⟨g1, g2⟩, ⟨g3, g4⟩, -, -, -⟩ := k_bd hw hc hg hk hi1
        rw [f1, ei] at e8
        rw [f2, ei] at e9
        have hlt : kP N g (i - 1) * kQ N g i < kP N g i * kQ N g (i - 1) := q_ptlt.mpr (k_lt hk (i := i - 1) (j := i) (by clear d1 d3 d5 d6 wi g1 g3; omega) hik)
        have m1 : kP N g (i - 1) * kQ N g i ≤ 50000 * 1000 := Int.mul_le_mul g2.2 d4.2 (by clear d1 d3 d5 d6 wi g1 g3; omega) (by decide)
        have m2 : kP N g i * kQ N g (i - 1) ≤ 50000 * 1000 := Int.mul_le_mul d2.2 g4.2 (by clear d1 d3 d5 d6 wi g1 g3; omega) (by decide)
        have m3 : 0 ≤ kP N g (i - 1) * kQ N g i := Int.mul_nonneg g2.1 (by clear d1 d3 d5 d6 wi g1 g3; omega)
        have m4 : 0 ≤ kP N g i * kQ N g (i - 1) := Int.mul_nonneg d2.1 (by clear d1 d3 d5 d6 wi g1 g3; omega)
        have x1 : w64 (kP N g (i - 1) * kQ N g i) = kP N g (i - 1) * kQ N g i := q_w64 (by clear d1 d3 d5 d6 wi g1 g3; omega) (by clear d1 d3 d5 d6 wi g1 g3; omega)
        have x2 : w64 (kP N g i * kQ N g (i - 1)) = kP N g i * kQ N g (i - 1) := q_w64 (by clear d1 d3 d5 d6 wi g1 g3 x1; omega) (by clear d1 d3 d5 d6 wi g1 g3 x1; omega)
        have x3 : ¬ 0 ≤ w32 (l_cmp (kP N g (i - 1) * kQ N g i) (kP N g i * kQ N g (i - 1))) := by
          rw [l_cge x1 x2]
          clear d1 d3 d5 d6 wi g1 g3 x1 x2
          omega
        refine ⟨h9, (0, kP N g i), (0, kQ N g i), l_Sm w9 (by clear d1 d3 d5 d6 wi g1 g3 x1 x2 x3; omega), ?_⟩
        simp only [b_280_0, b_280_6, b_280_17, b_280_20, b_280_27, b_280_31, b_280_38, b_280_41, b_280_48, b_280_52, b_280_56, b_280_57, b_280_65, b_280_73, b_280_77, b_280_85, b_280_95, b_280_105, b_280_116, b_280_124, b_280_127, b_280_138, b_280_146, b_280_149, b_280_153, b_280_154, b_280_159, b_280_164, b_280_174, b_280_192, b_280_198, b_280_202, b_280_203, b_280_210, b_280_214, b_280_220, b_280_230, b_280_236, b_280_239, b_280_249, b_280_253, b_280_261, b_280_265, b_280_269, b_280_270, ↓reduceIte, Nat.reduceEqDiff, Nat.reduceMul, q_n10, q_n01, Option.bind_some, g_aft0, g_aft1, g_aft2, g_aft3, g_aft9, Nat.reduceAdd, m_kill_0, m_kill_2, m_kill_3, m_kill_4, m_kill_9, true_or, or_true, q_lm53, q_lm52, q_lm51, q_lm1, q_l0, q_l1, q_l2, q_l3, q_l4, q_l5, q_l6, q_l7, q_l8, q_l9, q_l10, q_l11, q_l12, q_l20, q_l32, q_l50, q_l64, q_l80, q_l120, q_l122, q_l126, q_l372, q_l1000, q_l1000000, e1, d1, c1, e2, e3, d3, c2, e4, e5, e6, e7, wi, ci, e8, e9, g1, g3, x3]
    obtain ⟨h2, l5', l6', w4, e2⟩ := step
    obtain ⟨h3, l52, l62, w5, e3⟩ := ih (i + 1) (j + 10) l5' l6' h2 (by clear d1 d3 d5 d6; omega) w4 (by clear d1 d3 d5 d6; omega)
    refine ⟨h3, l52, l62, l_Sm w5 (by clear d1 d3 d5 d6; omega), e2.trans ?_⟩
    rw [← e0]
    exact e3
/-- areCorners -/
theorem t_corners (hL : q_lay K) (w : l_S K h N R c j) (hj : j < 400000) (hc : w_cn N) (hg : g < w_ne N) : l_C K (m_cl Z 280 [(2, ((0 : Nat) : Int)), (0, (g : Int))] h) 1 N R c (j + 2700) := by
  have hw := l_Sw w
  have n8 := (wf_n hw).2.2
  have hE := (wf_e hw).1
  have n12 := (wf_e hw).2
  have he7 := wf_ed hw hg
  obtain ⟨h1, e1, w1⟩ := L_count0 (Z := Z) hL w (by omega)
  rw [(wf_n hw).1] at e1
  obtain ⟨⟨h2, e2, w2⟩, hk⟩ := L_cor (Z := Z) (y := 0) (z := 0) hL w1 (by omega) hg (by decide) (by decide) hc
  obtain ⟨⟨h3, e3, w3⟩, -⟩ := L_cor (Z := Z) (y := 0) (z := 1) hL w2 (by omega) hg (by decide) (by decide) hc
  obtain ⟨⟨h4, e4, w4⟩, -⟩ := L_cor (Z := Z) (y := 1) (z := 0) hL w3 (by omega) hg (by decide) (by decide) hc
  obtain ⟨⟨h5, e5, w5⟩, -⟩ := L_cor (Z := Z) (y := -1) (z := 0) hL w4 (by omega) hg (by decide) (by decide) hc
  have k2 := k_two hw hg hk
  have k258 := k_many hw hk
  obtain ⟨b1, b2, -, -⟩ := k_cf (g := g) (i := 0) (by omega : 0 < kc N g)
  obtain ⟨b3, -, -, -⟩ := k_cf (g := g) (i := 1) k2
  have b1 : vv_cf N g 0 0 = kP N g 0 := b1
  have b2 : vv_cf N g 0 1 = kQ N g 0 := b2
  have b3 : vv_cf N g 1 0 = kP N g 1 := b3
  have f0 := k_first hw hc hg hk
  have p0 : kP N g 0 = 0 ∧ kQ N g 0 = 1 := by
    unfold kP kQ
    rw [f0]
    exact q_pti (by decide)
  rw [b1, p0.1] at e2
  rw [b2, p0.2] at e3
  rw [b3] at e4
  rw [k_cfn (by omega)] at e5
  obtain ⟨⟨d1, d2⟩, -, -, -, -⟩ := k_bd hw hc hg hk k2
  have hp1 : 0 < kP N g 1 := by
    have h9 := k_lt hk (i := 0) (j := 1) (by decide) k2
    have h8 : q_pt (kx N g 0) 0 * q_pt (kx N g 1) 1 < q_pt (kx N g 1) 0 * q_pt (kx N g 0) 1 := q_ptlt.mpr h9
    have h7 : kP N g 0 * kQ N g 1 < kP N g 1 * kQ N g 0 := h8
    rw [p0.1, p0.2, Int.zero_mul, Int.mul_one] at h7
    exact h7
  have c1 : ¬ kP N g 1 ≤ 0 := by clear d1; omega
  have hA : i_shl 1 (w_nn N : Int) - 1 = (vv_A N : Int) := by
    rw [q_shl n8]
    unfold vv_A
    have := (q_pow8 n8).1
    clear d1
    omega
  obtain ⟨h6, l5, l6, w6, e6⟩ := t_cor1 (Z := Z) hL hw hc hg hk (kc N g) 0 _ (9, 0) (9, 0) h5 (by omega) w5 (by clear d1; omega)
  -- the last corner
  have f1 := k_last hw hc hg hk
  have p1 : kP N g (kc N g - 1) = N 10 g ∧ kQ N g (kc N g - 1) = 1 := by
    unfold kP kQ
    rw [f1]
    exact q_pti (by clear d1; omega)
  obtain ⟨b4, b5, -, -⟩ := k_cf (g := g) (i := kc N g - 1) (by clear d1; omega : kc N g - 1 < kc N g)
  have ek : ((kc N g - 1 : Nat) : Int) = (kc N g : Int) - 1 := by clear d1; omega
  obtain ⟨h7, e7, w7⟩ := L_cori (Z := Z) (i := kc N g - 1) (z := 0) hL w6 (by clear d1; omega) hg (by clear d1; omega) (by decide) hc
  obtain ⟨h8, e8, w8⟩ := L_edge2 (Z := Z) (x := (g : Int)) hL w7 (by clear d1; omega) ⟨by clear d1; omega, by clear d1; omega⟩
  obtain ⟨h9, e9, w9⟩ := L_cori (Z := Z) (i := kc N g - 1) (z := 1) hL w8 (by clear d1; omega) hg (by clear d1; omega) (by decide) hc
  obtain ⟨h10, e10, w10⟩ := L_cori (Z := Z) (i := kc N g) (z := 3) hL w9 (by clear d1; omega) hg (by clear d1; omega) (by decide) hc
  rw [b4, p1.1, ek] at e7
  rw [Int.toNat_natCast] at e8
  rw [b5, p1.2, ek] at e9
  rw [k_cfn (by clear d1; omega)] at e10
  have wk : w32 (kc N g : Int) = (kc N g : Int) := q_w (by clear d1; omega)
  have c2 : ¬ (kc N g : Int) ≤ 1 := by clear d1 wk; omega
  have head : m_cl Z 280 [(2, ((0 : Nat) : Int)), (0, (g : Int))] h = m_run Z (280, 61, [(2, ((0 : Nat) : Int)), (0, (g : Int)), (0, (vv_A N : Int)), (0, 1), (0, ((0 : Nat) : Int)), (9, 0), (9, 0)], [], h5) := by
    simp only [e_280, b_280_0, b_280_6, b_280_17, b_280_20, b_280_27, b_280_31, b_280_38, b_280_41, b_280_48, b_280_52, b_280_56, b_280_57, b_280_65, b_280_73, b_280_77, b_280_85, b_280_95, b_280_105, b_280_116, b_280_124, b_280_127, b_280_138, b_280_146, b_280_149, b_280_153, b_280_154, b_280_159, b_280_164, b_280_174, b_280_192, b_280_198, b_280_202, b_280_203, b_280_210, b_280_214, b_280_220, b_280_230, b_280_236, b_280_239, b_280_249, b_280_253, b_280_261, b_280_265, b_280_269, b_280_270, ↓reduceIte, Nat.reduceEqDiff, Nat.reduceMul, q_n10, q_n01, Option.bind_some, g_aft0, g_aft1, g_aft2, g_aft3, g_aft9, Nat.reduceAdd, m_kill_0, m_kill_2, m_kill_3, m_kill_4, m_kill_9, true_or, or_true, q_lm53, q_lm52, q_lm51, q_lm1, q_l0, q_l1, q_l2, q_l3, q_l4, q_l5, q_l6, q_l7, q_l8, q_l9, q_l10, q_l11, q_l12, q_l20, q_l32, q_l50, q_l64, q_l80, q_l120, q_l122, q_l126, q_l372, q_l1000, q_l1000000, e1, hA, e2, e3, e4, d1, c1, e5]
    rfl
  refine ⟨h10, ?_, l_Sm w10 (by clear d1 wk; omega)⟩
  rw [head, e6]
  simp only [b_280_0, b_280_6, b_280_17, b_280_20, b_280_27, b_280_31, b_280_38, b_280_41, b_280_48, b_280_52, b_280_56, b_280_57, b_280_65, b_280_73, b_280_77, b_280_85, b_280_95, b_280_105, b_280_116, b_280_124, b_280_127, b_280_138, b_280_146, b_280_149, b_280_153, b_280_154, b_280_159, b_280_164, b_280_174, b_280_192, b_280_198, b_280_202, b_280_203, b_280_210, b_280_214, b_280_220, b_280_230, b_280_236, b_280_239, b_280_249, b_280_253, b_280_261, b_280_265, b_280_269, b_280_270, ↓reduceIte, Nat.reduceEqDiff, Nat.reduceMul, q_n10, q_n01, Option.bind_some, g_aft0, g_aft1, g_aft2, g_aft3, g_aft9, Nat.reduceAdd, m_kill_0, m_kill_2, m_kill_3, m_kill_4, m_kill_9, true_or, or_true, q_lm53, q_lm52, q_lm51, q_lm1, q_l0, q_l1, q_l2, q_l3, q_l4, q_l5, q_l6, q_l7, q_l8, q_l9, q_l10, q_l11, q_l12, q_l20, q_l32, q_l50, q_l64, q_l80, q_l120, q_l122, q_l126, q_l372, q_l1000, q_l1000000, wk, c2, e7, e8, e9, e10]
end
end
