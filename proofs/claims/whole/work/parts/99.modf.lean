section
/-! The model: lines; all crossings of an edge. -/
section
variable {Z : mZ} {K : Nat → mK} {σ τ N M : Nat → Nat → Int} {e g i L n c k s a b : Nat} {t p q v x y z w u S : Int} {X : Nat → Int} {h : mH} {R : Nat → Nat → Nat → Int} {T : Nat → Int}
theorem z_line (hL : q_lay K) (h : z_sur σ N t) (ht : 0 ≤ t) (ht2 : t ≤ 10) (hg : g < w_ne N) (hi : i < w_nn N) (hk : k < 2) : m_cl Z 206 [(2, ((191 : Nat) : Int)), (0, (i : Int)), (0, (g : Int)), (0, (k : Int)), (0, 0)] (K, σ, 206, e, s) = some (.inl (1, w_lt N t g (2 * i + k)), (K, σ, 206, e, s)) ∧ m_cl Z 206 [(2, ((191 : Nat) : Int)), (0, (i : Int)), (0, (g : Int)), (0, (k : Int)), (0, 1)] (K, σ, 206, e, s) = some (.inl (1, w_ls N t (2 * i + k)), (K, σ, 206, e, s)) := by
  have hw := h.1.1
  have hc := h.2.2.2
  have n0 := wf_n hw
  have h7 := wf_ed hw hg
  have hwt := h.2.2.1 i hi
  have bw := w_Wb hw (show i < 8 by omega) ht
  have ww : w32 (w_W N t i) = w_W N t i := q_wi (by omega) (by omega)
  have wnw : w32 (-w_W N t i) = -w_W N t i := by clear ww; exact q_wi (by omega) (by omega)
  obtain ⟨o1, o2, o3⟩ := z_of (Z := Z) (e := e) (s := s) hL h.1 hg
  rw [h7.1] at o1
  rw [h7.2.1] at o2
  have b1 := w_D_cn hw hc hi h7.2.2.1
  have b2 := w_D_cn hw hc hi h7.2.2.2.1
  have f1 := h.2.1 i (w_f N g) hi h7.2.2.1
  rw [(d_cap_lt hw).2.1 (by clear ww wnw; omega)] at f1
  have f2 := h.2.1 i (w_s N g) hi h7.2.2.2.1
  rw [(d_cap_lt hw).2.1 (by clear ww wnw f1; omega)] at f2
  obtain ⟨i1, i2, i3⟩ := z_fix (a := i) (b := w_f N g) (by clear ww wnw f1 f2; omega) (by clear ww wnw f1 f2; omega)
  obtain ⟨j1, j2, j3⟩ := z_fix (a := i) (b := w_s N g) (by clear ww wnw f1 f2 i1 i2 i3; omega) (by clear ww wnw f1 f2 i1 i2 i3; omega)
  have w1 : w32 (w_D N i (w_f N g)) = w_D N i (w_f N g) := by clear ww wnw f1 f2 i1 i2 i3 j1 j2 j3; exact q_wi (by omega) (by omega)
  have w2 : w32 (w_D N i (w_s N g) + N 10 g) = w_D N i (w_s N g) + N 10 g := by clear ww wnw f1 f2 i1 i2 i3 j1 j2 j3 w1; exact q_wi (by omega) (by omega)
  have wi : w32 (i : Int) = (i : Int) := q_w (by clear ww wnw f1 f2 i1 i2 i3 j1 j2 j3 w1 w2; omega)
  have p0 : 0 ≤ (i : Int) := by clear ww wnw f1 f2 i1 i2 i3 j1 j2 j3 w1 w2 wi; omega
  have p1 : (i : Int) < ((8 : Nat) : Int) := by clear ww wnw f1 f2 i1 i2 i3 j1 j2 j3 w1 w2 wi; omega
  have tn : ((i : Int)).toNat = i := rfl
  have wk : w32 (k : Int) = (k : Int) := q_w (by clear ww wnw f1 f2 i1 i2 i3 j1 j2 j3 w1 w2 wi; omega)
  rcases (show k = 0 ∨ k = 1 by clear ww wnw f1 f2 i1 i2 i3 j1 j2 j3 w1 w2 wi wk; omega) with rfl | rfl
  · have e1 : w_lt N t g (2 * i + 0) = w_W N t i * w_D N i (w_f N g) := by
      unfold w_lt
      rw [if_pos (by clear ww wnw f1 f2 i1 i2 i3 j1 j2 j3 w1 w2 wi wk; omega), show (2 * i + 0) / 2 = i by clear ww wnw f1 f2 i1 i2 i3 j1 j2 j3 w1 w2 wi wk; omega]
      rfl
    have e2 : w_ls N t (2 * i + 0) = w_W N t i := by
      unfold w_ls
      rw [if_pos (by clear ww wnw f1 f2 i1 i2 i3 j1 j2 j3 w1 w2 wi wk; omega), show (2 * i + 0) / 2 = i by clear ww wnw f1 f2 i1 i2 i3 j1 j2 j3 w1 w2 wi wk; omega]
    have k0 : ((0 : Nat) : Int) = 0 := rfl
    rw [e1, e2]
    constructor
    · simp only [e_206, b_206_0, b_206_28, b_206_39, b_206_53, ↓reduceIte, Nat.reduceEqDiff, Nat.reduceMul, q_n10, q_n01, Option.bind_some, g_aft0, g_aft1, g_aft2, g_aft3, g_aft9, Nat.reduceAdd, m_kill_0, m_kill_2, m_kill_3, m_kill_4, m_kill_9, true_or, or_true, q_lm1, q_l0, q_l1, q_l2, q_l3, q_l4, q_l5, q_l6, q_l8, q_l9, q_l10, q_l12, q_l17, q_l32, q_l35, q_l48, q_l50, q_l54, q_l57, q_l64, q_l73, q_l118, q_l119, q_l120, q_l122, q_l126, q_l160, q_l256, q_l365, q_l372, q_l438, q_l1000, q_l100000, q_l1000000, q_modF hL.2.2.2.2.2.2.1, wi, p0, p1, tn, hwt, ww, wk, o1, i1, i2, i3, f1, w1]
      simp only [k0, if_true, ww, w1, hwt, ↓reduceIte, Nat.reduceEqDiff, Nat.reduceMul, q_n10, q_n01, Option.bind_some, g_aft0, g_aft1, g_aft2, g_aft3, g_aft9, Nat.reduceAdd, m_kill_0, m_kill_2, m_kill_3, m_kill_4, m_kill_9, true_or, or_true, q_lm1, q_l0, q_l1, q_l2, q_l3, q_l4, q_l5, q_l6, q_l8, q_l9, q_l10, q_l12, q_l17, q_l32, q_l35, q_l48, q_l50, q_l54, q_l57, q_l64, q_l73, q_l118, q_l119, q_l120, q_l122, q_l126, q_l160, q_l256, q_l365, q_l372, q_l438, q_l1000, q_l100000, q_l1000000, q_modF hL.2.2.2.2.2.2.1, o1, b_206_53, i1, i2, i3, f1, b_206_39]
    · simp only [e_206, b_206_0, b_206_5, b_206_9, ↓reduceIte, Nat.reduceEqDiff, Nat.reduceMul, q_n10, q_n01, Option.bind_some, g_aft0, g_aft1, g_aft2, g_aft3, g_aft9, Nat.reduceAdd, m_kill_0, m_kill_2, m_kill_3, m_kill_4, m_kill_9, true_or, or_true, q_lm1, q_l0, q_l1, q_l2, q_l3, q_l4, q_l5, q_l6, q_l8, q_l9, q_l10, q_l12, q_l17, q_l32, q_l35, q_l48, q_l50, q_l54, q_l57, q_l64, q_l73, q_l118, q_l119, q_l120, q_l122, q_l126, q_l160, q_l256, q_l365, q_l372, q_l438, q_l1000, q_l100000, q_l1000000, q_modF hL.2.2.2.2.2.2.1, wi, p0, p1, tn, hwt, ww, wk]
      simp only [k0, if_true, ↓reduceIte, Nat.reduceEqDiff, Nat.reduceMul, q_n10, q_n01, Option.bind_some, g_aft0, g_aft1, g_aft2, g_aft3, g_aft9, Nat.reduceAdd, m_kill_0, m_kill_2, m_kill_3, m_kill_4, m_kill_9, true_or, or_true, q_lm1, q_l0, q_l1, q_l2, q_l3, q_l4, q_l5, q_l6, q_l8, q_l9, q_l10, q_l12, q_l17, q_l32, q_l35, q_l48, q_l50, q_l54, q_l57, q_l64, q_l73, q_l118, q_l119, q_l120, q_l122, q_l126, q_l160, q_l256, q_l365, q_l372, q_l438, q_l1000, q_l100000, q_l1000000, q_modF hL.2.2.2.2.2.2.1, wi, p0, p1, tn, hwt, ww, b_206_9]
  · have e1 : w_lt N t g (2 * i + 1) = w_W N t i * (w_D N i (w_s N g) + N 10 g) := by
      unfold w_lt
      rw [if_neg (by clear ww wnw f1 f2 i1 i2 i3 j1 j2 j3 w1 w2 wi wk; omega), show (2 * i + 1) / 2 = i by clear ww wnw f1 f2 i1 i2 i3 j1 j2 j3 w1 w2 wi wk; omega]
      rfl
    have e2 : w_ls N t (2 * i + 1) = -w_W N t i := by
      unfold w_ls
      rw [if_neg (by clear ww wnw f1 f2 i1 i2 i3 j1 j2 j3 w1 w2 wi wk; omega), show (2 * i + 1) / 2 = i by clear ww wnw f1 f2 i1 i2 i3 j1 j2 j3 w1 w2 wi wk; omega]
    have k1 : ¬ ((1 : Nat) : Int) = 0 := by decide
    rw [e1, e2]
    constructor
    · simp only [e_206, b_206_0, b_206_28, b_206_58, b_206_72, b_206_80, b_206_81, ↓reduceIte, Nat.reduceEqDiff, Nat.reduceMul, q_n10, q_n01, Option.bind_some, g_aft0, g_aft1, g_aft2, g_aft3, g_aft9, Nat.reduceAdd, m_kill_0, m_kill_2, m_kill_3, m_kill_4, m_kill_9, true_or, or_true, q_lm1, q_l0, q_l1, q_l2, q_l3, q_l4, q_l5, q_l6, q_l8, q_l9, q_l10, q_l12, q_l17, q_l32, q_l35, q_l48, q_l50, q_l54, q_l57, q_l64, q_l73, q_l118, q_l119, q_l120, q_l122, q_l126, q_l160, q_l256, q_l365, q_l372, q_l438, q_l1000, q_l100000, q_l1000000, q_modF hL.2.2.2.2.2.2.1, wi, p0, p1, tn, hwt, ww, wk, k1, o2, o3, j1, j2, j3, f2, w2]
    · simp only [e_206, b_206_0, b_206_5, b_206_19, b_206_27, ↓reduceIte, Nat.reduceEqDiff, Nat.reduceMul, q_n10, q_n01, Option.bind_some, g_aft0, g_aft1, g_aft2, g_aft3, g_aft9, Nat.reduceAdd, m_kill_0, m_kill_2, m_kill_3, m_kill_4, m_kill_9, true_or, or_true, q_lm1, q_l0, q_l1, q_l2, q_l3, q_l4, q_l5, q_l6, q_l8, q_l9, q_l10, q_l12, q_l17, q_l32, q_l35, q_l48, q_l50, q_l54, q_l57, q_l64, q_l73, q_l118, q_l119, q_l120, q_l122, q_l126, q_l160, q_l256, q_l365, q_l372, q_l438, q_l1000, q_l100000, q_l1000000, q_modF hL.2.2.2.2.2.2.1, wi, p0, p1, tn, hwt, wnw, wk, k1]
end
end
