section
/-! The corners of an edge. -/
def w_ls (N : Nat → Nat → Int) (t : Int) (l : Nat) : Int := if l % 2 = 0 then w_W N t (l / 2) else -w_W N t (l / 2)
def w_lt (N : Nat → Nat → Int) (t : Int) (g l : Nat) : Int := w_W N t (l / 2) * (if l % 2 = 0 then w_o N g (l / 2) else w_b N g (l / 2))
def w_lB (N : Nat → Nat → Int) (t : Int) (l m : Nat) : Int := if w_ls N t l - w_ls N t m < 0 then -(w_ls N t l - w_ls N t m) else w_ls N t l - w_ls N t m
def w_lT (N : Nat → Nat → Int) (t : Int) (g l m : Nat) : Int := if w_ls N t l - w_ls N t m < 0 then -(w_lt N t g m - w_lt N t g l) else w_lt N t g m - w_lt N t g l
def w_tp (N : Nat → Nat → Int) (t : Int) (g : Nat) (p q : Int) : Prop := ∃ x, w_tk N t g p q (w_nn N) x ∧ x.2.1 ≠ x.2.2
def w_lc (N : Nat → Nat → Int) (t : Int) (g l m : Nat) : Prop := (0 < w_lB N t l m ∧ 0 < w_lT N t g l m ∧ w_lT N t g l m < N 10 g * w_lB N t l m) ∧ w_tp N t g (w_lT N t g l m) (w_lB N t l m)
theorem q_n20 : ((2 : Int) = 0) = False := by decide
def w_K (N : Nat → Nat → Int) (t : Int) (g : Nat) (x : Rat) : Prop := x = fr 0 1 ∨ x = fr (N 10 g) 1 ∨ ∃ l m, m < l ∧ l < 2 * w_nn N ∧ w_lc N t g l m ∧ x = fr (w_lT N t g l m) (w_lB N t l m)
section
variable {Z : mZ} {K : Nat → mK} {σ N : Nat → Nat → Int} {e s g i c l m : Nat} {t p q : Int}
theorem q_div2 : (w32 ((l : Nat) : Int)).tdiv 2 = if l < 1000 then ((l / 2 : Nat) : Int) else (w32 ((l : Nat) : Int)).tdiv 2 := by
  by_cases h : l < 1000
  · rw [if_pos h, q_w (by omega)]
    rfl
  · rw [if_neg h]
theorem q_mod2 (h : l < 1000) : (w32 ((w32 ((l : Nat) : Int)).tmod 2) = 0) = (l % 2 = 0) := by
  rw [q_w (n := l) (by omega)]
  have e : ((l : Nat) : Int).tmod 2 = ((l % 2 : Nat) : Int) := rfl
  rw [e, q_w (by omega)]
  apply propext
  omega
theorem o_slope (hL : q_lay K) (hv : v_w σ N t) (hl : l < 16) : m_cl Z 37 [(2, ((170 : Nat) : Int)), (0, (l : Int))] (K, σ, 191, e, s) = some (.inl (0, w_ls N t l), (K, σ, 191, e, s)) := by
  have e2 : (w32 ((l : Nat) : Int)).tdiv 2 = ((l / 2 : Nat) : Int) := by rw [q_div2, if_pos (by omega)]
  have g1 := v_wgt hv (i := l / 2) (by omega)
  have e3 := q_mod2 (l := l) (by omega)
  simp only [e_37, b_37_0, b_37_10, b_37_17, b_37_21, b_37_23, ↓reduceIte, Nat.reduceEqDiff, Nat.reduceMul, q_n10, q_n01, Option.bind_some, g_aft0, g_aft1, g_aft2, g_aft3, g_aft9, Nat.reduceAdd, m_kill_0, m_kill_2, m_kill_3, m_kill_4, m_kill_9, true_or, or_true, q_lm1, q_l0, q_l1, q_l2, q_l3, q_l4, q_l5, q_l6, q_l8, q_l9, q_l10, q_l12, q_l32, q_l50, q_l120, q_l122, q_l126, q_l372, q_l1000, q_l1000000, q_outF hL.2.2.2.1, q_surF hL.2.2.1, q_n20, not_false_eq_true, e2, e3, s_weightOf hL, g1]
  unfold w_ls
  split <;> rfl
theorem o_start (hL : q_lay K) (hv : v_w σ N t) (hve : v_e σ N) (hw : q_wf N) (hg : g < w_ne N) (hl : l < 2 * w_nn N) (h1 : σ 170 1 = (g : Int)) : m_cl Z 38 [(2, ((170 : Nat) : Int)), (0, (l : Int))] (K, σ, 191, e, s) = some (.inl (0, w_lt N t g l), (K, σ, 191, e, s)) := by
  have n8 := (wf_n hw).2.2
  have e2 : (w32 ((l : Nat) : Int)).tdiv 2 = ((l / 2 : Nat) : Int) := by rw [q_div2, if_pos (by omega)]
  have g1 := v_wgt hv (i := l / 2) (by omega)
  have e3 := q_mod2 (l := l) (by omega)
  obtain ⟨o1, o2⟩ := v_out hve hw hg (i := l / 2) (by clear g1 e2; omega)
  simp only [e_38, b_38_0, b_38_10, b_38_22, b_38_25, b_38_37, b_38_46, ↓reduceIte, Nat.reduceEqDiff, Nat.reduceMul, q_n10, q_n01, Option.bind_some, g_aft0, g_aft1, g_aft2, g_aft3, g_aft9, Nat.reduceAdd, m_kill_0, m_kill_2, m_kill_3, m_kill_4, m_kill_9, true_or, or_true, q_lm1, q_l0, q_l1, q_l2, q_l3, q_l4, q_l5, q_l6, q_l8, q_l9, q_l10, q_l12, q_l32, q_l50, q_l120, q_l122, q_l126, q_l372, q_l1000, q_l1000000, q_outF hL.2.2.2.1, q_surF hL.2.2.1, q_n20, not_false_eq_true, e2, e3, s_weightOf hL, g1, h1, s_wayOut hL, s_wayBack hL, o1, o2]
  unfold w_lt
  split <;> rfl
theorem w_tk_ex (hw : q_wf N) (hc : w_cn N) (hg : g < w_ne N) (hp : w_pq N t g p q) : ∃ x, w_tk N t g p q (w_nn N) x := by
  have h : ∀ k, k ≤ w_nn N → ∃ x, w_tk N t g p q k x := by
    intro k
    induction k with
    | zero => intro _; exact ⟨_, Or.inl ⟨rfl, rfl⟩⟩
    | succ k ih =>
      intro hk
      obtain ⟨x, hx⟩ := ih (by omega)
      exact ⟨_, w_tk_s (w_Fb hw hc hg (by omega) hp).1 hx⟩
  exact h _ (Nat.le_refl _)
theorem w_tk_top (hw : q_wf N) {x : Int × Int × Int} (h : w_tk N t g p q (w_nn N) x) : w_top N t g p q x.1 := by
  have n1 := (wf_n hw).2.1
  rcases h with ⟨c, -⟩ | ⟨-, h1, h2, -⟩
  · omega
  · exact ⟨h1, h2⟩
theorem o_addEnd (hL : q_lay K) (hv : v_a σ N t) (hw : q_wf N) (hcn : w_cn N) (hg : g < w_ne N) (ht : 0 ≤ t) (ht2 : t ≤ 10) (hk : w_ko σ N t g c) (hc : c < 122) (h1 : 0 ≤ p) (h2 : p ≤ N 10 g) (h3 : σ 170 1 = (g : Int)) : ∃ c' τ, m_cl Z 36 [(2, ((170 : Nat) : Int)), (0, p)] (K, σ, 191, e, s) = some (.inl (9, 0), (K, τ, 191, e, s)) ∧ w_ko τ N t g c' ∧ c' ≤ c + 1 ∧ q_fo σ τ ∧ ∀ x, w_in τ c' x ↔ w_in σ c x ∨ x = fr p 1 := by
  have hp := w_pq1 ht ht2 h1 h2
  obtain ⟨x, x1, x2⟩ := s_turns (Z := Z) (e := e) (s := s) hL hv hw hcn hg hp ht2 h3
  have f1 : q_fo σ (m_up2 σ 170 2 x.1) := ⟨fun a a1 _ _ _ => m_up2_ne a1, m_up2_nk (by omega)⟩
  have hko : w_ko (m_up2 σ 170 2 x.1) N t g c := by
    obtain ⟨k1, k2, k3, k4⟩ := hk
    refine ⟨by rw [m_up2_nk (by omega)]; exact k1, k2, fun i hi => ?_, fun i j hij hj => ?_⟩
    · rw [m_up2_ne (by omega), m_up2_ne (by omega), m_up2_ne (by omega)]
      exact k3 i hi
    · unfold w_kf
      rw [m_up2_ne (by omega), m_up2_ne (by omega)]
      exact k4 i j hij hj
  obtain ⟨c', τ, i1, i2, i3, i4, i5⟩ := s_insert (Z := Z) (e := e) (s := s) hL hw hg hko hc hp (w_tk_top hw x2) m_up2_at
  refine ⟨c', τ, ?_, i2, i3, q_fo_t f1 i4, fun y => ?_⟩
  · simp only [e_36, b_36_0, b_36_6, b_36_13, ↓reduceIte, Nat.reduceEqDiff, Nat.reduceMul, q_n10, q_n01, Option.bind_some, g_aft0, g_aft1, g_aft2, g_aft3, g_aft9, Nat.reduceAdd, m_kill_0, m_kill_2, m_kill_3, m_kill_4, m_kill_9, true_or, or_true, q_lm1, q_l0, q_l1, q_l2, q_l3, q_l4, q_l5, q_l6, q_l8, q_l9, q_l10, q_l12, q_l32, q_l50, q_l120, q_l122, q_l126, q_l372, q_l1000, q_l1000000, q_outF hL.2.2.2.1, x1, i1]
  · rw [i5 y]
    unfold w_in w_kf
    rw [m_up2_ne (by omega), m_up2_ne (by omega)]
theorem w_lb (hw : q_wf N) (hcn : w_cn N) (hg : g < w_ne N) (ht : 0 ≤ t) (ht2 : t ≤ 10) (hl : l < 2 * w_nn N) : -99 ≤ w_ls N t l ∧ w_ls N t l ≤ 99 ∧ 0 ≤ w_lt N t g l ∧ w_lt N t g l ≤ 1272150 := by
  have n8 := (wf_n hw).2.2
  have a := w_Wb hw (i := l / 2) (by omega) ht
  have o := w_ob hw hcn hg (i := l / 2) (by omega)
  have m1 := q_mb a.1 (show w_W N t (l / 2) ≤ 99 by omega) o.1 o.2.1
  have m2 := q_mb a.1 (show w_W N t (l / 2) ≤ 99 by omega) (show 0 ≤ w_b N g (l / 2) by omega) o.2.2.2.1
  unfold w_ls w_lt
  split <;> omega
theorem w_lTb (hw : q_wf N) (hcn : w_cn N) (hg : g < w_ne N) (ht : 0 ≤ t) (ht2 : t ≤ 10) (hl : l < 2 * w_nn N) (hm : m < 2 * w_nn N) : 0 ≤ w_lB N t l m ∧ w_lB N t l m ≤ 198 ∧ -1272150 ≤ w_lT N t g l m ∧ w_lT N t g l m ≤ 1272150 ∧ 0 ≤ N 10 g * w_lB N t l m ∧ N 10 g * w_lB N t l m ≤ 9900 := by
  have a := w_lb hw hcn hg ht ht2 hl
  have b := w_lb hw hcn hg ht ht2 hm
  have h7 := wf_ed hw hg
  have hB : 0 ≤ w_lB N t l m ∧ w_lB N t l m ≤ 198 := by
    unfold w_lB
    split <;> omega
  have m3 := q_mb (show 0 ≤ N 10 g by omega) h7.2.2.2.2.2.2 hB.1 hB.2
  unfold w_lT
  split <;> omega
theorem o_addX (hL : q_lay K) (hv : v_a σ N t) (hw : q_wf N) (hcn : w_cn N) (hg : g < w_ne N) (ht : 0 ≤ t) (ht2 : t ≤ 10) (hk : w_ko σ N t g c) (hc : c < 122) (hl : l < 2 * w_nn N) (hm : m < 2 * w_nn N) (h3 : σ 170 1 = (g : Int)) : ∃ c' τ, m_cl Z 39 [(2, ((170 : Nat) : Int)), (0, (l : Int)), (0, (m : Int))] (K, σ, 191, e, s) = some (.inl (9, 0), (K, τ, 191, e, s)) ∧ w_ko τ N t g c' ∧ c' ≤ c + 1 ∧ q_fo σ τ ∧ ∀ x, w_in τ c' x ↔ w_in σ c x ∨ (w_lc N t g l m ∧ x = fr (w_lT N t g l m) (w_lB N t l m)) := by
  have n8 := (wf_n hw).2.2
  have bT := w_lTb hw hcn hg ht ht2 hl hm
  have bl := w_lb hw hcn hg ht ht2 hl
  have bm := w_lb hw hcn hg ht ht2 hm
  have d1 := o_slope (Z := Z) (e := e) (s := s) hL hv.2.1 (show l < 16 by omega)
  have d2 := o_slope (Z := Z) (e := e) (s := s) hL hv.2.1 (show m < 16 by omega)
  have d3 := o_start (Z := Z) (e := e) (s := s) hL hv.2.1 hv.2.2.2 hw hg hl h3
  have d4 := o_start (Z := Z) (e := e) (s := s) hL hv.2.1 hv.2.2.2 hw hg hm h3
  have d5 := v_len hv.1 hw hg
  have head : ∃ l4 l5, m_cl Z 39 [(2, ((170 : Nat) : Int)), (0, (l : Int)), (0, (m : Int))] (K, σ, 191, e, s) = m_run Z (39, 37, [(2, ((170 : Nat) : Int)), l4, l5, (0, w_lB N t l m), (0, w_lT N t g l m), (9, 0)], [], (K, σ, 191, e, s)) := by
    refine ⟨(0, (l : Int)), (0, (m : Int)), ?_⟩
    have ws : w32 (w_ls N t l - w_ls N t m) = w_ls N t l - w_ls N t m := q_wi (by clear d5; omega) (by clear d5; omega)
    unfold w_lB w_lT
    by_cases h : w_ls N t l - w_ls N t m < 0
    · have h' : ¬ 0 ≤ w_ls N t l - w_ls N t m := by clear ws; omega
      rw [if_pos h, if_pos h]
      simp only [e_39, b_39_0, b_39_5, b_39_10, b_39_17, b_39_22, b_39_29, ↓reduceIte, Nat.reduceEqDiff, Nat.reduceMul, q_n10, q_n01, Option.bind_some, g_aft0, g_aft1, g_aft2, g_aft3, g_aft9, Nat.reduceAdd, m_kill_0, m_kill_2, m_kill_3, m_kill_4, m_kill_9, true_or, or_true, q_lm1, q_l0, q_l1, q_l2, q_l3, q_l4, q_l5, q_l6, q_l8, q_l9, q_l10, q_l12, q_l32, q_l50, q_l120, q_l122, q_l126, q_l372, q_l1000, q_l1000000, q_outF hL.2.2.2.1, d1, d2, d3, d4, ws, h']
    · have h' : 0 ≤ w_ls N t l - w_ls N t m := by clear ws; omega
      rw [if_neg h, if_neg h]
      simp only [e_39, b_39_0, b_39_5, b_39_10, b_39_17, b_39_22, ↓reduceIte, Nat.reduceEqDiff, Nat.reduceMul, q_n10, q_n01, Option.bind_some, g_aft0, g_aft1, g_aft2, g_aft3, g_aft9, Nat.reduceAdd, m_kill_0, m_kill_2, m_kill_3, m_kill_4, m_kill_9, true_or, or_true, q_lm1, q_l0, q_l1, q_l2, q_l3, q_l4, q_l5, q_l6, q_l8, q_l9, q_l10, q_l12, q_l32, q_l50, q_l120, q_l122, q_l126, q_l372, q_l1000, q_l1000000, q_outF hL.2.2.2.1, d1, d2, d3, d4, ws, h']
  obtain ⟨l4, l5, hd⟩ := head
  rw [hd]
  have wB : w32 (w_lB N t l m) = w_lB N t l m := q_wi (by clear d5; omega) (by clear d5; omega)
  have wT : w32 (w_lT N t g l m) = w_lT N t g l m := q_wB (by clear d5 wB; omega) (by clear d5 wB; omega)
  have wM : w32 (N 10 g * w_lB N t l m) = N 10 g * w_lB N t l m := q_wB (by clear d5 wB wT; omega) (by clear d5 wB wT; omega)
  by_cases h : 0 < w_lB N t l m ∧ 0 < w_lT N t g l m ∧ w_lT N t g l m < N 10 g * w_lB N t l m
  · obtain ⟨h5, h6, h7⟩ := h
    have mm := q_mb (show 0 ≤ 9 + 9 * t by clear d5 wB wT wM; omega) (show 9 + 9 * t ≤ 99 by clear d5 wB wT wM; omega) bT.1 bT.2.1
    have hp : w_pq N t g (w_lT N t g l m) (w_lB N t l m) := ⟨by clear d5 wB wT wM; omega, by clear d5 wB wT wM; omega, by clear d5 wB wT wM; omega, ht, Int.le_of_lt h6, Int.le_of_lt h7⟩
    obtain ⟨x, x1, x2⟩ := s_turns (Z := Z) (e := e) (s := s) hL hv hw hcn hg hp ht2 h3
    have f1 : q_fo σ (m_up2 σ 170 2 x.1) := ⟨fun a a1 _ _ _ => m_up2_ne a1, m_up2_nk (by omega)⟩
    have hko : w_ko (m_up2 σ 170 2 x.1) N t g c := by
      obtain ⟨k1, k2, k3, k4⟩ := hk
      refine ⟨by rw [m_up2_nk (by omega)]; exact k1, k2, fun i hi => ?_, fun i j hij hj => ?_⟩
      · rw [m_up2_ne (by omega), m_up2_ne (by omega), m_up2_ne (by omega)]
        exact k3 i hi
      · unfold w_kf
        rw [m_up2_ne (by omega), m_up2_ne (by omega)]
        exact k4 i j hij hj
    have win : ∀ y, w_in (m_up2 σ 170 2 x.1) c y ↔ w_in σ c y := by
      intro y
      unfold w_in w_kf
      rw [m_up2_ne (by omega), m_up2_ne (by omega)]
    have h5' := Int.not_le.mpr h5
    have h6' := Int.not_le.mpr h6
    have h7' := Int.not_le.mpr h7
    by_cases hx : x.2.1 = x.2.2
    · refine ⟨c, _, ?_, hko, Nat.le_succ c, f1, fun y => ?_⟩
      · rw [if_pos hx] at x1
        simp only [b_39_0, b_39_5, b_39_10, b_39_17, b_39_22, b_39_29, b_39_37, b_39_41, b_39_46, b_39_59, b_39_64, b_39_68, b_39_69, b_39_76, b_39_83, b_39_86, b_39_93, ↓reduceIte, Nat.reduceEqDiff, Nat.reduceMul, q_n10, q_n01, Option.bind_some, g_aft0, g_aft1, g_aft2, g_aft3, g_aft9, Nat.reduceAdd, m_kill_0, m_kill_2, m_kill_3, m_kill_4, m_kill_9, true_or, or_true, q_lm1, q_l0, q_l1, q_l2, q_l3, q_l4, q_l5, q_l6, q_l8, q_l9, q_l10, q_l12, q_l32, q_l50, q_l120, q_l122, q_l126, q_l372, q_l1000, q_l1000000, q_outF hL.2.2.2.1, q_surF hL.2.2.1, wB, wT, wM, h5', h6', h7', s_lengthOf hL, h3, d5, x1]
      · rw [win y]
        constructor
        · exact fun h => Or.inl h
        · rintro (h | ⟨⟨-, z, z1, z2⟩, -⟩)
          · exact h
          · have := w_tk_u (by have := (wf_n hw).2.1; omega) x2 z1
            rw [← this] at z2
            exact absurd hx z2
    · rw [if_neg hx] at x1
      obtain ⟨c', τ, i1, i2, i3, i4, i5⟩ := s_insert (Z := Z) (e := e) (s := s) hL hw hg hko hc hp (w_tk_top hw x2) m_up2_at
      refine ⟨c', τ, ?_, i2, i3, q_fo_t f1 i4, fun y => ?_⟩
      · simp only [b_39_0, b_39_5, b_39_10, b_39_17, b_39_22, b_39_29, b_39_37, b_39_41, b_39_46, b_39_59, b_39_64, b_39_68, b_39_69, b_39_76, b_39_83, b_39_86, b_39_93, ↓reduceIte, Nat.reduceEqDiff, Nat.reduceMul, q_n10, q_n01, Option.bind_some, g_aft0, g_aft1, g_aft2, g_aft3, g_aft9, Nat.reduceAdd, m_kill_0, m_kill_2, m_kill_3, m_kill_4, m_kill_9, true_or, or_true, q_lm1, q_l0, q_l1, q_l2, q_l3, q_l4, q_l5, q_l6, q_l8, q_l9, q_l10, q_l12, q_l32, q_l50, q_l120, q_l122, q_l126, q_l372, q_l1000, q_l1000000, q_outF hL.2.2.2.1, q_surF hL.2.2.1, wB, wT, wM, h5', h6', h7', s_lengthOf hL, h3, d5, x1, i1]
      · rw [i5 y, win y]
        constructor
        · rintro (h | h)
          · exact Or.inl h
          · exact Or.inr ⟨⟨⟨h5, h6, h7⟩, x, x2, hx⟩, h⟩
        · rintro (h | ⟨-, h⟩)
          · exact Or.inl h
          · exact Or.inr h
  · refine ⟨c, σ, ?_, hk, Nat.le_succ c, q_fo_r, fun y => ?_⟩
    · by_cases h5 : w_lB N t l m ≤ 0
      · simp only [b_39_0, b_39_5, b_39_10, b_39_17, b_39_22, b_39_29, b_39_37, b_39_41, b_39_46, b_39_59, b_39_64, b_39_68, b_39_69, b_39_76, b_39_83, b_39_86, b_39_93, ↓reduceIte, Nat.reduceEqDiff, Nat.reduceMul, q_n10, q_n01, Option.bind_some, g_aft0, g_aft1, g_aft2, g_aft3, g_aft9, Nat.reduceAdd, m_kill_0, m_kill_2, m_kill_3, m_kill_4, m_kill_9, true_or, or_true, q_lm1, q_l0, q_l1, q_l2, q_l3, q_l4, q_l5, q_l6, q_l8, q_l9, q_l10, q_l12, q_l32, q_l50, q_l120, q_l122, q_l126, q_l372, q_l1000, q_l1000000, q_outF hL.2.2.2.1, q_surF hL.2.2.1, wB, wT, wM, h5]
      · by_cases h6 : w_lT N t g l m ≤ 0
        · simp only [b_39_0, b_39_5, b_39_10, b_39_17, b_39_22, b_39_29, b_39_37, b_39_41, b_39_46, b_39_59, b_39_64, b_39_68, b_39_69, b_39_76, b_39_83, b_39_86, b_39_93, ↓reduceIte, Nat.reduceEqDiff, Nat.reduceMul, q_n10, q_n01, Option.bind_some, g_aft0, g_aft1, g_aft2, g_aft3, g_aft9, Nat.reduceAdd, m_kill_0, m_kill_2, m_kill_3, m_kill_4, m_kill_9, true_or, or_true, q_lm1, q_l0, q_l1, q_l2, q_l3, q_l4, q_l5, q_l6, q_l8, q_l9, q_l10, q_l12, q_l32, q_l50, q_l120, q_l122, q_l126, q_l372, q_l1000, q_l1000000, q_outF hL.2.2.2.1, q_surF hL.2.2.1, wB, wT, wM, h5, h6]
        · have h7 : N 10 g * w_lB N t l m ≤ w_lT N t g l m := by clear d5 wB wT wM; omega
          simp only [b_39_0, b_39_5, b_39_10, b_39_17, b_39_22, b_39_29, b_39_37, b_39_41, b_39_46, b_39_59, b_39_64, b_39_68, b_39_69, b_39_76, b_39_83, b_39_86, b_39_93, ↓reduceIte, Nat.reduceEqDiff, Nat.reduceMul, q_n10, q_n01, Option.bind_some, g_aft0, g_aft1, g_aft2, g_aft3, g_aft9, Nat.reduceAdd, m_kill_0, m_kill_2, m_kill_3, m_kill_4, m_kill_9, true_or, or_true, q_lm1, q_l0, q_l1, q_l2, q_l3, q_l4, q_l5, q_l6, q_l8, q_l9, q_l10, q_l12, q_l32, q_l50, q_l120, q_l122, q_l126, q_l372, q_l1000, q_l1000000, q_outF hL.2.2.2.1, q_surF hL.2.2.1, wB, wT, wM, h5, h6, h7, s_lengthOf hL, h3, d5]
    · constructor
      · exact fun h => Or.inl h
      · rintro (h' | ⟨h', -⟩)
        · exact h'
        · exact absurd h'.1 h
theorem w_px_s {P : Nat → Nat → Rat → Prop} {l m : Nat} {x : Rat} : (∃ l' m', m' < l' ∧ (l' < l ∨ l' = l ∧ m' < m + 1) ∧ P l' m' x) ↔ (∃ l' m', m' < l' ∧ (l' < l ∨ l' = l ∧ m' < m) ∧ P l' m' x) ∨ (m < l ∧ P l m x) := by
  constructor
  · rintro ⟨l', m', h1, h2, h3⟩
    by_cases c : l' = l ∧ m' = m
    · obtain ⟨rfl, rfl⟩ := c
      exact Or.inr ⟨h1, h3⟩
    · exact Or.inl ⟨l', m', h1, by omega, h3⟩
  · rintro (⟨l', m', h1, h2, h3⟩ | ⟨h1, h3⟩)
    · exact ⟨l', m', h1, by omega, h3⟩
    · exact ⟨l, m, h1, by omega, h3⟩
theorem o_trace (hL : q_lay K) (hv : v_a σ N t) (hw : q_wf N) (hcn : w_cn N) (hg : g < w_ne N) (ht : 0 ≤ t) (ht2 : t ≤ 10) : ∃ c τ, m_cl Z 35 [(2, ((170 : Nat) : Int)), (0, (g : Int))] (K, σ, 191, e, s) = some (.inl (9, 0), (K, τ, 191, e, s)) ∧ w_ko τ N t g c ∧ (∀ a, a ≠ 170 → a ≠ 172 → a ≠ 174 → a ≠ 176 → τ a = σ a) ∧ ∀ x, w_in τ c x ↔ w_K N t g x := by
  have n8 := (wf_n hw).2.2
  have h7 := wf_ed hw hg
  have hf0 : ∀ a, a ≠ 170 → m_up2 (m_up2 σ 170 1 (g : Int)) 170 3 0 a = σ a := fun a ha => by rw [m_up2_ne ha, m_up2_ne ha]
  have a0 : v_a (m_up2 (m_up2 σ 170 1 (g : Int)) 170 3 0) N t := v_a_fr hv (fun a _ _ => hf0 a (by omega))
  have z3 : m_up2 (m_up2 σ 170 1 (g : Int)) 170 3 0 170 3 = ((0 : Nat) : Int) := m_up2_at
  have z1 : m_up2 (m_up2 σ 170 1 (g : Int)) 170 3 0 170 1 = (g : Int) := by rw [m_up2_nk (by omega), m_up2_at]
  generalize hρ : m_up2 (m_up2 σ 170 1 (g : Int)) 170 3 0 = ρ at *
  have k0 : w_ko ρ N t g 0 := ⟨z3, by omega, fun i hi => absurd hi (by omega), fun i j _ hj => absurd hj (by omega)⟩
  obtain ⟨c1, τ1, p1, p2, p3, p4, p5⟩ := o_addEnd (Z := Z) (e := e) (s := s) hL a0 hw hcn hg ht ht2 k0 (by omega) (Int.le_refl 0) (by omega) z1
  have a1 := v_a_fo a0 p4
  obtain ⟨c2, τ2, u1, u2, u3, u4, u5⟩ := o_addEnd (Z := Z) (e := e) (s := s) (p := N 10 g) hL a1 hw hcn hg ht ht2 p2 (by omega) (by omega) (Int.le_refl _) (by rw [p4.2, z1])
  have f2 := q_fo_t p4 u4
  have hn := v_n hv.1 hw
  have mono : ∀ l, l ≤ 16 → ∀ m, m ≤ l → q_sum (fun k => k) l + m ≤ 136 := by
    intro l hl m hm
    have := q_sum_mono (f := fun k => k) hl
    have e16 : q_sum (fun k => k) 16 = 120 := rfl
    omega
  have inner : ∀ l, l < 2 * w_nn N → ∀ x : Nat × (Nat → Nat → Int), (w_ko x.2 N t g x.1 ∧ x.1 ≤ 2 + q_sum (fun k => k) l ∧ q_fo ρ x.2 ∧ ∀ r, w_in x.2 x.1 r ↔ (r = fr 0 1 ∨ r = fr (N 10 g) 1) ∨ ∃ l' m', m' < l' ∧ (l' < l ∨ l' = l ∧ m' < 0) ∧ (w_lc N t g l' m' ∧ r = fr (w_lT N t g l' m') (w_lB N t l' m'))) → ∃ y : Nat × (Nat → Nat → Int), m_run Z (35, 50, [(2, ((170 : Nat) : Int)), (0, (g : Int)), (0, ((2 * w_nn N : Nat) : Int)), (0, (l : Int)), (0, ((0 : Nat) : Int))], [], (K, x.2, 191, e, s)) = m_run Z (35, 50, [(2, ((170 : Nat) : Int)), (0, (g : Int)), (0, ((2 * w_nn N : Nat) : Int)), (0, (l : Int)), (0, (l : Int))], [], (K, y.2, 191, e, s)) ∧ (w_ko y.2 N t g y.1 ∧ y.1 ≤ 2 + q_sum (fun k => k) l + l ∧ q_fo ρ y.2 ∧ ∀ r, w_in y.2 y.1 r ↔ (r = fr 0 1 ∨ r = fr (N 10 g) 1) ∨ ∃ l' m', m' < l' ∧ (l' < l ∨ l' = l ∧ m' < l) ∧ (w_lc N t g l' m' ∧ r = fr (w_lT N t g l' m') (w_lB N t l' m'))) := by
    intro l hl x hx
    refine q_loop (Z := Z) (N := l) (S := fun m (x : Nat × (Nat → Nat → Int)) => (35, 50, [(2, ((170 : Nat) : Int)), (0, (g : Int)), (0, ((2 * w_nn N : Nat) : Int)), (0, (l : Int)), (0, (m : Int))], [], (K, x.2, 191, e, s))) (P := fun m x => w_ko x.2 N t g x.1 ∧ x.1 ≤ 2 + q_sum (fun k => k) l + m ∧ q_fo ρ x.2 ∧ ∀ r, w_in x.2 x.1 r ↔ (r = fr 0 1 ∨ r = fr (N 10 g) 1) ∨ ∃ l' m', m' < l' ∧ (l' < l ∨ l' = l ∧ m' < m) ∧ (w_lc N t g l' m' ∧ r = fr (w_lT N t g l' m') (w_lB N t l' m'))) ?_ l 0 x (by omega) ⟨hx.1, by have := hx.2.1; omega, hx.2.2⟩
    intro m x hm ⟨x1, x2, x3, x4⟩
    have hmono := mono (l + 1) (by clear hn; omega) 0 (by omega)
    rw [q_sum_s] at hmono
    have e1 : (((m + 1 : Nat)) : Int) = (m : Int) + 1 := by omega
    have hc122 : x.1 < 122 := by
      have h15 := q_sum_mono (f := fun k => k) (show l ≤ 15 by clear hn; omega)
      have e15 : q_sum (fun k => k) 15 = 105 := rfl
      clear hn
      omega
    obtain ⟨c', τ, i1, i2, i3, i4, i5⟩ := o_addX (Z := Z) (e := e) (s := s) (l := l) (m := m) hL (v_a_fo a0 x3) hw hcn hg ht ht2 x1 hc122 hl (by clear hn; omega) (by rw [x3.2, z1])
    refine ⟨(c', τ), ?_, i2, by show c' ≤ _; clear hn; omega, q_fo_t x3 i4, fun r => ?_⟩
    · have c0 : ¬ (l : Int) ≤ (m : Int) := by clear hn; omega
      have wm : w32 (m : Int) = (m : Int) := q_w (by clear hn; omega)
      have wl : w32 (l : Int) = (l : Int) := q_w (by clear hn wm; omega)
      conv => lhs; simp only [b_35_50, ↓reduceIte, Nat.reduceEqDiff, Nat.reduceMul, q_n10, q_n01, Option.bind_some, g_aft0, g_aft1, g_aft2, g_aft3, g_aft9, Nat.reduceAdd, m_kill_0, m_kill_2, m_kill_3, m_kill_4, m_kill_9, true_or, or_true, q_lm1, q_l0, q_l1, q_l2, q_l3, q_l4, q_l5, q_l6, q_l8, q_l9, q_l10, q_l12, q_l32, q_l50, q_l120, q_l122, q_l126, q_l372, q_l1000, q_l1000000, wm, wl, c0]
      simp only [b_35_56, b_35_63, ↓reduceIte, Nat.reduceEqDiff, Nat.reduceMul, q_n10, q_n01, Option.bind_some, g_aft0, g_aft1, g_aft2, g_aft3, g_aft9, Nat.reduceAdd, m_kill_0, m_kill_2, m_kill_3, m_kill_4, m_kill_9, true_or, or_true, q_lm1, q_l0, q_l1, q_l2, q_l3, q_l4, q_l5, q_l6, q_l8, q_l9, q_l10, q_l12, q_l32, q_l50, q_l120, q_l122, q_l126, q_l372, q_l1000, q_l1000000, q_outF hL.2.2.2.1, q_surF hL.2.2.1, i1, e1]
    · rw [i5 r, x4 r, w_px_s (P := fun l' m' r => w_lc N t g l' m' ∧ r = fr (w_lT N t g l' m') (w_lB N t l' m'))]
      constructor
      · rintro ((h | h) | h)
        · exact Or.inl h
        · exact Or.inr (Or.inl h)
        · exact Or.inr (Or.inr ⟨hm, h⟩)
      · rintro (h | h | ⟨-, h⟩)
        · exact Or.inl (Or.inl h)
        · exact Or.inl (Or.inr h)
        · exact Or.inr h
  obtain ⟨y, y1, y2⟩ := q_loop (Z := Z) (N := 2 * w_nn N) (S := fun l (x : Nat × (Nat → Nat → Int) × mV) => (35, 42, [(2, ((170 : Nat) : Int)), (0, (g : Int)), (0, ((2 * w_nn N : Nat) : Int)), (0, (l : Int)), x.2.2], [], (K, x.2.1, 191, e, s))) (P := fun l x => w_ko x.2.1 N t g x.1 ∧ x.1 ≤ 2 + q_sum (fun k => k) l ∧ q_fo ρ x.2.1 ∧ ∀ r, w_in x.2.1 x.1 r ↔ (r = fr 0 1 ∨ r = fr (N 10 g) 1) ∨ ∃ l' m', m' < l' ∧ (l' < l ∨ l' = l ∧ m' < 0) ∧ (w_lc N t g l' m' ∧ r = fr (w_lT N t g l' m') (w_lB N t l' m'))) (by
    intro l x hl hx
    obtain ⟨y, y1, y2, y3, y4, y5⟩ := inner l hl (x.1, x.2.1) hx
    have e1 : (((l + 1 : Nat)) : Int) = (l : Int) + 1 := by omega
    refine ⟨(y.1, y.2, (0, (l : Int))), ?_, y2, by show y.1 ≤ 2 + (q_sum (fun k => k) l + l); clear hn; omega, y4, fun r => ?_⟩
    · have c0 : ¬ ((2 * w_nn N : Nat) : Int) ≤ (l : Int) := by clear hn; omega
      have wl : w32 (l : Int) = (l : Int) := q_w (by clear hn; omega)
      have w2 : w32 ((2 * w_nn N : Nat) : Int) = ((2 * w_nn N : Nat) : Int) := q_w (by clear hn wl; omega)
      conv => lhs; simp only [b_35_42, b_35_47, ↓reduceIte, Nat.reduceEqDiff, Nat.reduceMul, q_n10, q_n01, Option.bind_some, g_aft0, g_aft1, g_aft2, g_aft3, g_aft9, Nat.reduceAdd, m_kill_0, m_kill_2, m_kill_3, m_kill_4, m_kill_9, true_or, or_true, q_lm1, q_l0, q_l1, q_l2, q_l3, q_l4, q_l5, q_l6, q_l8, q_l9, q_l10, q_l12, q_l32, q_l50, q_l120, q_l122, q_l126, q_l372, q_l1000, q_l1000000, wl, w2, c0]
      refine Eq.trans y1 ?_
      simp only [b_35_50, b_35_69, ↓reduceIte, Nat.reduceEqDiff, Nat.reduceMul, q_n10, q_n01, Option.bind_some, g_aft0, g_aft1, g_aft2, g_aft3, g_aft9, Nat.reduceAdd, m_kill_0, m_kill_2, m_kill_3, m_kill_4, m_kill_9, true_or, or_true, q_lm1, q_l0, q_l1, q_l2, q_l3, q_l4, q_l5, q_l6, q_l8, q_l9, q_l10, q_l12, q_l32, q_l50, q_l120, q_l122, q_l126, q_l372, q_l1000, q_l1000000, wl, Int.le_refl, e1]
    · rw [y5 r]
      refine or_congr Iff.rfl ?_
      constructor
      · rintro ⟨l', m', h1, h2, h3⟩
        exact ⟨l', m', h1, by clear hn; omega, h3⟩
      · rintro ⟨l', m', h1, h2, h3⟩
        exact ⟨l', m', h1, by clear hn; omega, h3⟩) (2 * w_nn N) 0 (c2, τ2, (9, 0)) (by omega) ⟨u2, by show c2 ≤ 2 + 0; clear hn; omega, f2, fun r => by
    rw [u5 r, p5 r]
    constructor
    · rintro ((⟨i, hi, -⟩ | h) | h)
      · exact absurd hi (by omega)
      · exact Or.inl (Or.inl h)
      · exact Or.inl (Or.inr h)
    · rintro ((h | h) | ⟨l', m', h1, h2, h3⟩)
      · exact Or.inl (Or.inr h)
      · exact Or.inr h
      · exact absurd h2 (by omega)⟩
  refine ⟨y.1, y.2.1, ?_, y2.1, fun a b1 b2 b3 b4 => by rw [y2.2.2.1.1 a b1 b2 b3 b4, ← hρ]; exact (by rw [m_up2_ne b1, m_up2_ne b1]), fun x => ?_⟩
  · have w2 : w32 ((2 * w_nn N : Nat) : Int) = ((2 * w_nn N : Nat) : Int) := q_w (by clear hn; omega)
    have e2 : ρ 139 0 * 2 = ((2 * w_nn N : Nat) : Int) := by
      rw [nAt_0 a0.1 (by omega), (wf_n hw).1]
      clear hn w2
      omega
    have d5 := v_len a1.1 hw hg
    have t1 : τ1 170 1 = (g : Int) := by rw [p4.2, z1]
    simp only [e_35, b_35_0, b_35_17, b_35_25, b_35_37, b_35_40, ↓reduceIte, Nat.reduceEqDiff, Nat.reduceMul, q_n10, q_n01, Option.bind_some, g_aft0, g_aft1, g_aft2, g_aft3, g_aft9, Nat.reduceAdd, m_kill_0, m_kill_2, m_kill_3, m_kill_4, m_kill_9, true_or, or_true, q_lm1, q_l0, q_l1, q_l2, q_l3, q_l4, q_l5, q_l6, q_l8, q_l9, q_l10, q_l12, q_l32, q_l50, q_l120, q_l122, q_l126, q_l372, q_l1000, q_l1000000, q_outF hL.2.2.2.1, q_surF hL.2.2.1, hρ, s_nodes hL, e2, p1, t1, s_lengthOf hL, d5, u1]
    refine Eq.trans y1 ?_
    simp only [b_35_42, b_35_75, ↓reduceIte, Nat.reduceEqDiff, Nat.reduceMul, q_n10, q_n01, Option.bind_some, g_aft0, g_aft1, g_aft2, g_aft3, g_aft9, Nat.reduceAdd, m_kill_0, m_kill_2, m_kill_3, m_kill_4, m_kill_9, true_or, or_true, q_lm1, q_l0, q_l1, q_l2, q_l3, q_l4, q_l5, q_l6, q_l8, q_l9, q_l10, q_l12, q_l32, q_l50, q_l120, q_l122, q_l126, q_l372, q_l1000, q_l1000000, w2, Int.le_refl]
  · rw [y2.2.2.2 x]
    unfold w_K
    constructor
    · rintro ((h | h) | ⟨l', m', h1, h2, h3⟩)
      · exact Or.inl h
      · exact Or.inr (Or.inl h)
      · exact Or.inr (Or.inr ⟨l', m', h1, by clear hn; omega, h3⟩)
    · rintro (h | h | ⟨l', m', h1, h2, h3⟩)
      · exact Or.inl (Or.inl h)
      · exact Or.inl (Or.inr h)
      · exact Or.inr ⟨l', m', h1, by clear hn; omega, h3⟩
end
end
