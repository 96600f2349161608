section
/-! The model: lines; all crossings of an edge. -/
section
variable {Z : mZ} {K : Nat → mK} {σ τ N M : Nat → Nat → Int} {e g i L n c k s a b : Nat} {t p q v x y z w u S : Int} {X : Nat → Int} {h : mH} {R : Nat → Nat → Nat → Int} {T : Nat → Int}
theorem z_line (hL : q_lay K) (h : z_sur σ N t) (ht : 0 ≤ t) (ht2 : t ≤ 10) (hg : g < w_ne N) (hi : i < w_nn N) (hk : k < 2) : m_cl Z 206 [(2, ((191 : Nat) : Int)), (0, (i : Int)), (0, (g : Int)), (0, (k : Int)), (0, 0)] (K, σ, 206, e, s) = some (.inl (1, w_lt N t g (2 * i + k)), (K, σ, 206, e, s)) ∧ m_cl Z 206 [(2, ((191 : Nat) : Int)), (0, (i : Int)), (0, (g : Int)), (0, (k : Int)), (0, 1)] (K, σ, 206, e, s) = some (.inl (1, w_ls N t (2 * i + k)), (K, σ, 206, e, s)) := by
  have hw := h.1.1
  have hc := h.2.2.2
  have n0 := wf_n hw
  have h7 := wf_ed hw hg
  have hwt := h.2.2.1 i hi
  have bw := w_Wb hw (show i < 8 by omega) ht
  have ww : w32 (w_W N t i) = w_W N t i := q_wi (by omega) (by omega)
  have wnw : w32 (-w_W N t i) = -w_W N t i := by clear ww; exact q_wi (by omega) (by omega)
  obtain ⟨o1, o2, o3⟩ := z_of (Z := Z) (e := e) (s := s) hL h.1 hg
  rw [h7.1] at o1
  rw [h7.2.1] at o2
  have b1 := w_D_cn hw hc hi h7.2.2.1
  have b2 := w_D_cn hw hc hi h7.2.2.2.1
  have f1 := h.2.1 i (w_f N g) hi h7.2.2.1
  rw [(d_cap_lt hw).2.1 (by clear ww wnw; omega)] at f1
  have f2 := h.2.1 i (w_s N g) hi h7.2.2.2.1
  rw [(d_cap_lt hw).2.1 (by clear ww wnw f1; omega)] at f2
  obtain ⟨i1, i2, i3⟩ := z_fix (a := i) (b := w_f N g) (by clear ww wnw f1 f2; omega) (by clear ww wnw f1 f2; omega)
  obtain ⟨j1, j2, j3⟩ := z_fix (a := i) (b := w_s N g) (by clear ww wnw f1 f2 i1 i2 i3; omega) (by clear ww wnw f1 f2 i1 i2 i3; omega)
  have w1 : w32 (w_D N i (w_f N g)) = w_D N i (w_f N g) := by clear ww wnw f1 f2 i1 i2 i3 j1 j2 j3; exact q_wi (by omega) (by omega)
  have w2 : w32 (w_D N i (w_s N g) + N 10 g) = w_D N i (w_s N g) + N 10 g := by clear ww wnw f1 f2 i1 i2 i3 j1 j2 j3 w1; exact q_wi (by omega) (by omega)
  have wi : w32 (i : Int) = (i : Int) := q_w (by clear ww wnw f1 f2 i1 i2 i3 j1 j2 j3 w1 w2; omega)
  have p0 : 0 ≤ (i : Int) := by clear ww wnw f1 f2 i1 i2 i3 j1 j2 j3 w1 w2 wi; omega
  have p1 : (i : Int) < ((8 : Nat) : Int) := by clear ww wnw f1 f2 i1 i2 i3 j1 j2 j3 w1 w2 wi; omega
  have tn : ((i : Int)).toNat = i := rfl
  have wk : w32 (k : Int) = (k : Int) := q_w (by clear ww wnw f1 f2 i1 i2 i3 j1 j2 j3 w1 w2 wi; omega)
  rcases (show k = 0 ∨ k = 1 by clear ww wnw f1 f2 i1 i2 i3 j1 j2 j3 w1 w2 wi wk; omega) with rfl | rfl
  · have e1 : w_lt N t g (2 * i + 0) = w_W N t i * w_D N i (w_f N g) := by
      unfold w_lt
      rw [if_pos (by clear ww wnw f1 f2 i1 i2 i3 j1 j2 j3 w1 w2 wi wk; omega), show (2 * i + 0) / 2 = i by clear ww wnw f1 f2 i1 i2 i3 j1 j2 j3 w1 w2 wi wk; omega]
      rfl
    have e2 : w_ls N t (2 * i + 0) = w_W N t i := by
      unfold w_ls
      rw [if_pos (by clear ww wnw f1 f2 i1 i2 i3 j1 j2 j3 w1 w2 wi wk; omega), show (2 * i + 0) / 2 = i by clear ww wnw f1 f2 i1 i2 i3 j1 j2 j3 w1 w2 wi wk; omega]
    have k0 : ((0 : Nat) : Int) = 0 := rfl
    rw [e1, e2]
    constructor
    · simp only [e_206, b_206_0, b_206_28, b_206_39, b_206_53, ↓reduceIte, Nat.reduceEqDiff, Nat.reduceMul, q_n10, q_n01, Option.bind_some, g_aft0, g_aft1, g_aft2, g_aft3, g_aft9, Nat.reduceAdd, m_kill_0, m_kill_2, m_kill_3, m_kill_4, m_kill_9, true_or, or_true, q_lm1, q_l0, q_l1, q_l2, q_l3, q_l4, q_l5, q_l6, q_l8, q_l9, q_l10, q_l12, q_l17, q_l32, q_l35, q_l48, q_l50, q_l54, q_l57, q_l64, q_l73, q_l118, q_l119, q_l120, q_l122, q_l126, q_l160, q_l256, q_l365, q_l372, q_l438, q_l1000, q_l100000, q_l1000000, q_modF hL.2.2.2.2.2.2.1, wi, p0, p1, tn, hwt, ww, wk, o1, i1, i2, i3, f1, w1]
      simp only [k0, if_true, ww, w1, hwt, ↓reduceIte, Nat.reduceEqDiff, Nat.reduceMul, q_n10, q_n01, Option.bind_some, g_aft0, g_aft1, g_aft2, g_aft3, g_aft9, Nat.reduceAdd, m_kill_0, m_kill_2, m_kill_3, m_kill_4, m_kill_9, true_or, or_true, q_lm1, q_l0, q_l1, q_l2, q_l3, q_l4, q_l5, q_l6, q_l8, q_l9, q_l10, q_l12, q_l17, q_l32, q_l35, q_l48, q_l50, q_l54, q_l57, q_l64, q_l73, q_l118, q_l119, q_l120, q_l122, q_l126, q_l160, q_l256, q_l365, q_l372, q_l438, q_l1000, q_l100000, q_l1000000, q_modF hL.2.2.2.2.2.2.1, o1, b_206_53, i1, i2, i3, f1, b_206_39]
    · simp only [e_206, b_206_0, b_206_5, b_206_9, ↓reduceIte, Nat.reduceEqDiff, Nat.reduceMul, q_n10, q_n01, Option.bind_some, g_aft0, g_aft1, g_aft2, g_aft3, g_aft9, Nat.reduceAdd, m_kill_0, m_kill_2, m_kill_3, m_kill_4, m_kill_9, true_or, or_true, q_lm1, q_l0, q_l1, q_l2, q_l3, q_l4, q_l5, q_l6, q_l8, q_l9, q_l10, q_l12, q_l17, q_l32, q_l35, q_l48, q_l50, q_l54, q_l57, q_l64, q_l73, q_l118, q_l119, q_l120, q_l122, q_l126, q_l160, q_l256, q_l365, q_l372, q_l438, q_l1000, q_l100000, q_l1000000, q_modF hL.2.2.2.2.2.2.1, wi, p0, p1, tn, hwt, ww, wk]
      simp only [k0, if_true, ↓reduceIte, Nat.reduceEqDiff, Nat.reduceMul, q_n10, q_n01, Option.bind_some, g_aft0, g_aft1, g_aft2, g_aft3, g_aft9, Nat.reduceAdd, m_kill_0, m_kill_2, m_kill_3, m_kill_4, m_kill_9, true_or, or_true, q_lm1, q_l0, q_l1, q_l2, q_l3, q_l4, q_l5, q_l6, q_l8, q_l9, q_l10, q_l12, q_l17, q_l32, q_l35, q_l48, q_l50, q_l54, q_l57, q_l64, q_l73, q_l118, q_l119, q_l120, q_l122, q_l126, q_l160, q_l256, q_l365, q_l372, q_l438, q_l1000, q_l100000, q_l1000000, q_modF hL.2.2.2.2.2.2.1, wi, p0, p1, tn, hwt, ww, b_206_9]
  · have e1 : w_lt N t g (2 * i + 1) = w_W N t i * (w_D N i (w_s N g) + N 10 g) := by
      unfold w_lt
      rw [if_neg (by clear ww wnw f1 f2 i1 i2 i3 j1 j2 j3 w1 w2 wi wk; omega), show (2 * i + 1) / 2 = i by clear ww wnw f1 f2 i1 i2 i3 j1 j2 j3 w1 w2 wi wk; omega]
      rfl
    have e2 : w_ls N t (2 * i + 1) = -w_W N t i := by
      unfold w_ls
      rw [if_neg (by clear ww wnw f1 f2 i1 i2 i3 j1 j2 j3 w1 w2 wi wk; omega), show (2 * i + 1) / 2 = i by clear ww wnw f1 f2 i1 i2 i3 j1 j2 j3 w1 w2 wi wk; omega]
    have k1 : ¬ ((1 : Nat) : Int) = 0 := by decide
    rw [e1, e2]
    constructor
    · simp only [e_206, b_206_0, b_206_28, b_206_58, b_206_72, b_206_80, b_206_81, ↓reduceIte, Nat.reduceEqDiff, Nat.reduceMul, q_n10, q_n01, Option.bind_some, g_aft0, g_aft1, g_aft2, g_aft3, g_aft9, Nat.reduceAdd, m_kill_0, m_kill_2, m_kill_3, m_kill_4, m_kill_9, true_or, or_true, q_lm1, q_l0, q_l1, q_l2, q_l3, q_l4, q_l5, q_l6, q_l8, q_l9, q_l10, q_l12, q_l17, q_l32, q_l35, q_l48, q_l50, q_l54, q_l57, q_l64, q_l73, q_l118, q_l119, q_l120, q_l122, q_l126, q_l160, q_l256, q_l365, q_l372, q_l438, q_l1000, q_l100000, q_l1000000, q_modF hL.2.2.2.2.2.2.1, wi, p0, p1, tn, hwt, ww, wk, k1, o2, o3, j1, j2, j3, f2, w2]
    · simp only [e_206, b_206_0, b_206_5, b_206_19, b_206_27, ↓reduceIte, Nat.reduceEqDiff, Nat.reduceMul, q_n10, q_n01, Option.bind_some, g_aft0, g_aft1, g_aft2, g_aft3, g_aft9, Nat.reduceAdd, m_kill_0, m_kill_2, m_kill_3, m_kill_4, m_kill_9, true_or, or_true, q_lm1, q_l0, q_l1, q_l2, q_l3, q_l4, q_l5, q_l6, q_l8, q_l9, q_l10, q_l12, q_l17, q_l32, q_l35, q_l48, q_l50, q_l54, q_l57, q_l64, q_l73, q_l118, q_l119, q_l120, q_l122, q_l126, q_l160, q_l256, q_l365, q_l372, q_l438, q_l1000, q_l100000, q_l1000000, q_modF hL.2.2.2.2.2.2.1, wi, p0, p1, tn, hwt, wnw, wk, k1]
theorem z_ci_len : (z_ci N t S g i).length ≤ 1 + 4 * i := by
  unfold z_ci
  rw [List.length_append]
  have h1 : (if q_bt S i = true then z_c1 N g (z_pk N g i) 2 else []).length ≤ 1 := by
    split
    · exact z_c1_len
    · simp
  have h2 : ∀ m, (q_cat (fun j => if q_bt S i = true ∧ q_bt S j = true then q_cat (z_c4 N t g i j) 4 else []) m).length ≤ 4 * m := by
    intro m
    rw [q_cat_len]
    have := q_sum_le (n := m) (f := fun j => (if q_bt S i = true ∧ q_bt S j = true then q_cat (z_c4 N t g i j) 4 else []).length) (f' := fun _ => 4) (fun j _ => by
      show (if q_bt S i = true ∧ q_bt S j = true then q_cat (z_c4 N t g i j) 4 else []).length ≤ 4
      split
      · rw [q_cat_len]
        have := q_sum_le (n := 4) (f := fun k => (z_c4 N t g i j k).length) (f' := fun _ => 1) (fun k _ => z_c1_len)
        rw [q_sum_c] at this
        exact this
      · simp)
    rw [q_sum_c] at this
    omega
  have := h2 i
  omega
theorem z_ci_lens : ∀ m, m ≤ 8 → (q_cat (z_ci N t S g) m).length ≤ q_sum (fun i => 1 + 4 * i) m ∧ q_sum (fun i => 1 + 4 * i) m ≤ 120 := by
  intro m hm
  refine ⟨?_, ?_⟩
  · rw [q_cat_len]
    exact q_sum_le (fun i _ => z_ci_len)
  · exact Nat.le_trans (q_sum_mono hm) (by decide)
theorem z_cs_len : (z_cs N g k).length ≤ 2 := by
  unfold z_cs
  split
  · rw [List.length_append]
    have h1 := z_c1_len (N := N) (g := g) (p := N 14 k) (q := 1)
    have h2 := z_c1_len (N := N) (g := g) (p := N 16 k) (q := 1)
    omega
  · simp
theorem z_cs_lens : ∀ m, (q_cat (z_cs N g) m).length ≤ 2 * m := by
  intro m
  rw [q_cat_len]
  have := q_sum_le (n := m) (f := fun k => (z_cs N g k).length) (f' := fun _ => 2) (fun k _ => z_cs_len)
  rw [q_sum_c] at this
  omega
/-- one pair of nodes -/
theorem z_pair {L : List (Int × Int)} {l5 : mV} (hL : q_lay K) (h : z_sur σ N t) (ht : 0 ≤ t) (ht2 : t ≤ 10) (hg : g < w_ne N) (hi : i < w_nn N) (hj : a < i) (hx : z_xl σ L) (hl : L.length ≤ 155) : ∃ (τ : Nat → Nat → Int) (l5' : mV), m_run Z (207, 101, [(2, ((191 : Nat) : Int)), (0, S), (0, (g : Int)), (0, (i : Int)), (0, (a : Int)), l5], [], (K, σ, 206, e, s)) = m_run Z (207, 186, [(2, ((191 : Nat) : Int)), (0, S), (0, (g : Int)), (0, (i : Int)), (0, (a : Int)), l5'], [], (K, τ, 206, e, s)) ∧ z_xl τ (L ++ if q_bt S i = true ∧ q_bt S a = true then q_cat (z_c4 N t g i a) 4 else []) ∧ z_f9 σ τ := by
  have hw := h.1.1
  have hc := h.2.2.2
  have h1 := z_has (Z := Z) (S := S) (i := i) (h := (K, σ, 206, e, s))
  have h2 := z_has (Z := Z) (S := S) (i := a) (h := (K, σ, 206, e, s))
  have w4 : w32 4 = 4 := by decide
  have c40 : ¬ (4 : Int) ≤ 0 := by decide
  have n20 : ¬ (2 : Int) = 0 := by decide
  by_cases d : q_bt S i = true ∧ q_bt S a = true
  · rw [if_pos d]
    obtain ⟨y, y1, y2, y3⟩ := q_loop (Z := Z) (N := 4) (S := fun k (x : Nat → Nat → Int) => (207, 104, [(2, ((191 : Nat) : Int)), (0, S), (0, (g : Int)), (0, (i : Int)), (0, (a : Int)), (0, (k : Int))], [], (K, x, 206, e, s))) (P := fun k x => z_xl x (L ++ q_cat (z_c4 N t g i a) k) ∧ z_f9 σ x) (by
      rintro k τ hk ⟨x1, x2⟩
      have hs := z_sur9 h x2
      have hl1 := z_line (Z := Z) (e := e) (s := s) (k := k / 2) hL hs ht ht2 hg (Nat.lt_trans hj hi) (by clear w4; omega)
      have hl2 := z_line (Z := Z) (e := e) (s := s) (k := k % 2) hL hs ht ht2 hg hi (by clear w4; omega)
      have g1 := z_has (Z := Z) (S := S) (i := i) (h := (K, τ, 206, e, s))
      have g2 := z_has (Z := Z) (S := S) (i := a) (h := (K, τ, 206, e, s))
      rw [if_pos d.1] at g1
      rw [if_pos d.2] at g2
      have b1 := w_lb hw hc hg ht ht2 (l := 2 * a + k / 2) (by clear w4; omega)
      have b2 := w_lb hw hc hg ht ht2 (l := 2 * i + k % 2) (by clear w4; omega)
      have lk : (q_cat (z_c4 N t g i a) k).length ≤ k := by
        rw [q_cat_len]
        have := q_sum_le (n := k) (f := fun m => (z_c4 N t g i a m).length) (f' := fun _ => 1) (fun m _ => z_c1_len)
        rw [q_sum_c] at this
        clear w4
        omega
      obtain ⟨ω, o1, o2, o3⟩ := z_crosses (Z := Z) (e := e) (s := s) (p := w_lt N t g (2 * a + k / 2) - w_lt N t g (2 * i + k % 2)) (q := w_ls N t (2 * i + k % 2) - w_ls N t (2 * a + k / 2)) hL hs.1 hg x1 (by rw [List.length_append]; clear w4; omega) (by clear w4; omega) (by clear w4; omega) (by clear w4; omega) (by clear w4; omega)
      have wk : w32 (k : Int) = (k : Int) := q_w (by clear w4; omega)
      have c0 : ¬ (4 : Int) ≤ (k : Int) := by clear w4 wk; omega
      have td : ((k : Int)).tdiv 2 = ((k / 2 : Nat) : Int) := rfl
      have tm : ((k : Int)).tmod 2 = ((k % 2 : Nat) : Int) := rfl
      have e1 : ((k + 1 : Nat) : Int) = (k : Int) + 1 := rfl
      refine ⟨ω, ?_, ?_, z_f9_t x2 o3⟩
      · rw [e1]
        conv => lhs; simp only [b_207_104, ↓reduceIte, Nat.reduceEqDiff, Nat.reduceMul, q_n10, q_n01, Option.bind_some, g_aft0, g_aft1, g_aft2, g_aft3, g_aft9, Nat.reduceAdd, m_kill_0, m_kill_2, m_kill_3, m_kill_4, m_kill_9, true_or, or_true, q_lm1, q_l0, q_l1, q_l2, q_l3, q_l4, q_l5, q_l6, q_l8, q_l9, q_l10, q_l12, q_l17, q_l32, q_l35, q_l48, q_l50, q_l54, q_l57, q_l64, q_l73, q_l118, q_l119, q_l120, q_l122, q_l126, q_l160, q_l256, q_l365, q_l372, q_l438, q_l1000, q_l100000, q_l1000000, wk, w4, c0]
        simp only [b_207_110, b_207_115, b_207_118, b_207_124, b_207_127, b_207_141, b_207_152, b_207_164, b_207_176, b_207_180, ↓reduceIte, Nat.reduceEqDiff, Nat.reduceMul, q_n10, q_n01, Option.bind_some, g_aft0, g_aft1, g_aft2, g_aft3, g_aft9, Nat.reduceAdd, m_kill_0, m_kill_2, m_kill_3, m_kill_4, m_kill_9, true_or, or_true, q_lm1, q_l0, q_l1, q_l2, q_l3, q_l4, q_l5, q_l6, q_l8, q_l9, q_l10, q_l12, q_l17, q_l32, q_l35, q_l48, q_l50, q_l54, q_l57, q_l64, q_l73, q_l118, q_l119, q_l120, q_l122, q_l126, q_l160, q_l256, q_l365, q_l372, q_l438, q_l1000, q_l100000, q_l1000000, q_modF hL.2.2.2.2.2.2.1, g1, g2, n20, not_false_eq_true, wk, td, tm, hl1.1, hl1.2, hl2.1, hl2.2, o1]
      · rw [q_cat_s, ← List.append_assoc]
        exact o2) 4 0 σ rfl ⟨by show z_xl σ (L ++ []); rw [List.append_nil]; exact hx, z_f9_r⟩
    have w4' : w32 ((4 : Nat) : Int) = 4 := by decide
    refine ⟨y, (0, ((4 : Nat) : Int)), ?_, y2, y3⟩
    rw [b_207_101]
    refine Eq.trans y1 ?_
    conv => lhs; simp only [b_207_104, ↓reduceIte, Nat.reduceEqDiff, Nat.reduceMul, q_n10, q_n01, Option.bind_some, g_aft0, g_aft1, g_aft2, g_aft3, g_aft9, Nat.reduceAdd, m_kill_0, m_kill_2, m_kill_3, m_kill_4, m_kill_9, true_or, or_true, q_lm1, q_l0, q_l1, q_l2, q_l3, q_l4, q_l5, q_l6, q_l8, q_l9, q_l10, q_l12, q_l17, q_l32, q_l35, q_l48, q_l50, q_l54, q_l57, q_l64, q_l73, q_l118, q_l119, q_l120, q_l122, q_l126, q_l160, q_l256, q_l365, q_l372, q_l438, q_l1000, q_l100000, q_l1000000, w4, w4', Int.le_refl]
  · rw [if_neg d, List.append_nil]
    refine ⟨σ, (0, 0), ?_, hx, z_f9_r⟩
    by_cases c : q_bt S i = true
    · rw [if_pos c] at h1
      rw [if_neg (fun q => d ⟨c, q⟩)] at h2
      simp only [b_207_101, b_207_104, b_207_110, b_207_115, b_207_118, b_207_124, ↓reduceIte, Nat.reduceEqDiff, Nat.reduceMul, q_n10, q_n01, Option.bind_some, g_aft0, g_aft1, g_aft2, g_aft3, g_aft9, Nat.reduceAdd, m_kill_0, m_kill_2, m_kill_3, m_kill_4, m_kill_9, true_or, or_true, q_lm1, q_l0, q_l1, q_l2, q_l3, q_l4, q_l5, q_l6, q_l8, q_l9, q_l10, q_l12, q_l17, q_l32, q_l35, q_l48, q_l50, q_l54, q_l57, q_l64, q_l73, q_l118, q_l119, q_l120, q_l122, q_l126, q_l160, q_l256, q_l365, q_l372, q_l438, q_l1000, q_l100000, q_l1000000, c40, h1, h2]
    · rw [if_neg c] at h1
      simp only [b_207_101, b_207_104, b_207_110, b_207_115, ↓reduceIte, Nat.reduceEqDiff, Nat.reduceMul, q_n10, q_n01, Option.bind_some, g_aft0, g_aft1, g_aft2, g_aft3, g_aft9, Nat.reduceAdd, m_kill_0, m_kill_2, m_kill_3, m_kill_4, m_kill_9, true_or, or_true, q_lm1, q_l0, q_l1, q_l2, q_l3, q_l4, q_l5, q_l6, q_l8, q_l9, q_l10, q_l12, q_l17, q_l32, q_l35, q_l48, q_l50, q_l54, q_l57, q_l64, q_l73, q_l118, q_l119, q_l120, q_l122, q_l126, q_l160, q_l256, q_l365, q_l372, q_l438, q_l1000, q_l100000, q_l1000000, c40, h1]
end
end
