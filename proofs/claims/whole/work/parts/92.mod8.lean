section
/-! The model: connected; distances; facts. -/
section
variable {Z : mZ} {K : Nat → mK} {σ τ N M : Nat → Nat → Int} {e g i L n c k p s a b : Nat} {t q v x y z w u S : Int} {X : Nat → Int} {h : mH} {R : Nat → Nat → Nat → Int} {T : Nat → Int}
theorem d_cap_lt (hw : q_wf N) : (d_cap (w_D N a b) < 100000 ↔ w_D N a b < 1000000) ∧ (w_D N a b < 1000000 → d_cap (w_D N a b) = w_D N a b) ∧ 0 ≤ d_cap (w_D N a b) ∧ d_cap (w_D N a b) ≤ 100000 := by
  have h := w_D_b hw a b
  unfold d_cap
  by_cases c : w_D N a b = 1000000
  · rw [if_pos c]; omega
  · rw [if_neg c]; omega
theorem z_fix (ha : a < 8) (hb : b < 8) : 0 ≤ w32 (8 * (a : Int) + (b : Int)) ∧ w32 (8 * (a : Int) + (b : Int)) < ((64 : Nat) : Int) ∧ (w32 (8 * (a : Int) + (b : Int))).toNat = 8 * a + b := z_ix (by omega) (by omega) (by omega)
theorem z_conn (hL : q_lay K) (hn : z_n σ N) : ∃ τ v, m_cl Z 185 [(2, ((191 : Nat) : Int))] (K, σ, 206, e, s) = some (.inl (0, v), (K, τ, 206, e, s)) ∧ z_far τ N ∧ (∀ a, a ≠ 196 → τ a = σ a) ∧ (w_cn N → v = 1) ∧ (¬ w_cn N → v = 0) := by
  obtain ⟨τ, t1, t2, t3⟩ := z_lays (Z := Z) (e := e) (s := s) hL hn
  have hw := hn.1
  have n0 := wf_n hw
  have hn' : z_n τ N := z_nF hn (t3 192 (by omega))
  have hm := z_many (Z := Z) (e := e) (s := s) hL hn'
  have wn : w32 (N 0 0) = N 0 0 := q_wi (by omega) (by omega)
  obtain ⟨p, hp⟩ : ∃ p : Nat → Bool, p = fun j => decide (¬ w_D N 0 j < 1000000) := ⟨_, rfl⟩
  have w1 : w32 100000 = 100000 := by decide
  have lp := q_loopf (Z := Z) (N := w_nn N) (S := fun i => (185, 8, [(2, ((191 : Nat) : Int)), (0, if q_or p i = true then 0 else 1), (0, (i : Int))], [], (K, τ, 206, e, s))) (by
    intro i hi
    have wi : w32 (i : Int) = (i : Int) := q_w (by clear wn w1; omega)
    have c0 : ¬ N 0 0 ≤ (i : Int) := by clear wn w1 wi; omega
    have p0 : 0 ≤ (i : Int) := by clear wn w1 wi; omega
    have p1 : (i : Int) < ((64 : Nat) : Int) := by clear wn w1 wi; omega
    have tn : ((i : Int)).toNat = i := rfl
    have hf : τ 196 i = d_cap (w_D N 0 i) := by
      have := t2 0 i (by clear wn w1 wi; omega) hi
      rwa [show 8 * 0 + i = i by omega] at this
    have hc := d_cap_lt hw (a := 0) (b := i)
    have wc : w32 (d_cap (w_D N 0 i)) = d_cap (w_D N 0 i) := by clear wn w1 wi; exact q_wi (by omega) (by omega)
    have e1 : (((i + 1 : Nat)) : Int) = (i : Int) + 1 := rfl
    rw [e1, q_or_s]
    conv => lhs; simp only [b_185_8, ↓reduceIte, Nat.reduceEqDiff, Nat.reduceMul, q_n10, q_n01, Option.bind_some, g_aft0, g_aft1, g_aft2, g_aft3, g_aft9, Nat.reduceAdd, m_kill_0, m_kill_2, m_kill_3, m_kill_4, m_kill_9, true_or, or_true, q_lm1, q_l0, q_l1, q_l2, q_l3, q_l4, q_l5, q_l6, q_l8, q_l9, q_l10, q_l12, q_l17, q_l32, q_l35, q_l48, q_l50, q_l54, q_l57, q_l64, q_l73, q_l118, q_l119, q_l120, q_l122, q_l126, q_l160, q_l256, q_l365, q_l372, q_l438, q_l1000, q_l100000, q_l1000000, q_modF hL.2.2.2.2.2.2.1, hm]
    conv => lhs; simp only [b_185_13, ↓reduceIte, Nat.reduceEqDiff, Nat.reduceMul, q_n10, q_n01, Option.bind_some, g_aft0, g_aft1, g_aft2, g_aft3, g_aft9, Nat.reduceAdd, m_kill_0, m_kill_2, m_kill_3, m_kill_4, m_kill_9, true_or, or_true, q_lm1, q_l0, q_l1, q_l2, q_l3, q_l4, q_l5, q_l6, q_l8, q_l9, q_l10, q_l12, q_l17, q_l32, q_l35, q_l48, q_l50, q_l54, q_l57, q_l64, q_l73, q_l118, q_l119, q_l120, q_l122, q_l126, q_l160, q_l256, q_l365, q_l372, q_l438, q_l1000, q_l100000, q_l1000000, wi, wn, c0]
    by_cases d : q_or p i = true
    · rw [if_pos d, if_pos (by rw [d]; rfl)]
      simp only [b_185_16, b_185_35, b_185_36, ↓reduceIte, Nat.reduceEqDiff, Nat.reduceMul, q_n10, q_n01, Option.bind_some, g_aft0, g_aft1, g_aft2, g_aft3, g_aft9, Nat.reduceAdd, m_kill_0, m_kill_2, m_kill_3, m_kill_4, m_kill_9, true_or, or_true, q_lm1, q_l0, q_l1, q_l2, q_l3, q_l4, q_l5, q_l6, q_l8, q_l9, q_l10, q_l12, q_l17, q_l32, q_l35, q_l48, q_l50, q_l54, q_l57, q_l64, q_l73, q_l118, q_l119, q_l120, q_l122, q_l126, q_l160, q_l256, q_l365, q_l372, q_l438, q_l1000, q_l100000, q_l1000000]
    · have d' : q_or p i = false := by simpa using d
      rw [d', Bool.false_or, if_neg Bool.false_ne_true]
      by_cases c1 : w_D N 0 i < 1000000
      · have pi : p i = false := by rw [hp]; exact decide_eq_false (fun q => q c1)
        have c2 : ¬ (100000 : Int) ≤ d_cap (w_D N 0 i) := by have := hc.1.mpr c1; clear wn w1 wi wc; omega
        rw [pi, if_neg Bool.false_ne_true]
        simp only [b_185_16, b_185_20, b_185_31, ↓reduceIte, Nat.reduceEqDiff, Nat.reduceMul, q_n10, q_n01, Option.bind_some, g_aft0, g_aft1, g_aft2, g_aft3, g_aft9, Nat.reduceAdd, m_kill_0, m_kill_2, m_kill_3, m_kill_4, m_kill_9, true_or, or_true, q_lm1, q_l0, q_l1, q_l2, q_l3, q_l4, q_l5, q_l6, q_l8, q_l9, q_l10, q_l12, q_l17, q_l32, q_l35, q_l48, q_l50, q_l54, q_l57, q_l64, q_l73, q_l118, q_l119, q_l120, q_l122, q_l126, q_l160, q_l256, q_l365, q_l372, q_l438, q_l1000, q_l100000, q_l1000000, q_modF hL.2.2.2.2.2.2.1, wi, p0, p1, tn, hf, wc, w1, c2]
      · have pi : p i = true := by rw [hp]; exact decide_eq_true c1
        have c2 : (100000 : Int) ≤ d_cap (w_D N 0 i) := by have := fun q => c1 (hc.1.mp q); clear wn w1 wi wc; omega
        rw [pi, if_pos rfl]
        simp only [b_185_16, b_185_20, b_185_35, b_185_36, ↓reduceIte, Nat.reduceEqDiff, Nat.reduceMul, q_n10, q_n01, Option.bind_some, g_aft0, g_aft1, g_aft2, g_aft3, g_aft9, Nat.reduceAdd, m_kill_0, m_kill_2, m_kill_3, m_kill_4, m_kill_9, true_or, or_true, q_lm1, q_l0, q_l1, q_l2, q_l3, q_l4, q_l5, q_l6, q_l8, q_l9, q_l10, q_l12, q_l17, q_l32, q_l35, q_l48, q_l50, q_l54, q_l57, q_l64, q_l73, q_l118, q_l119, q_l120, q_l122, q_l126, q_l160, q_l256, q_l365, q_l372, q_l438, q_l1000, q_l100000, q_l1000000, q_modF hL.2.2.2.2.2.2.1, wi, p0, p1, tn, hf, wc, w1, c2])
  have hz : (w32 (if q_or p (w_nn N) = true then 0 else 1) = 0 ∨ w32 (if q_or p (w_nn N) = true then 0 else 1) = 1) = True := by
    have e0 : w32 0 = 0 := by decide
    have e1 : w32 1 = 1 := by decide
    split
    · rw [e0]; simp
    · rw [e1]; simp
  refine ⟨τ, (if q_or p (w_nn N) = true then 0 else 1), ?_, t2, t3, fun hc => ?_, fun hc => ?_⟩
  · have z0 : (if q_or p 0 = true then (0 : Int) else 1) = 1 := by rw [show q_or p 0 = false from rfl, if_neg Bool.false_ne_true]
    rw [z0] at lp
    simp only [e_185, b_185_0, b_185_4, ↓reduceIte, Nat.reduceEqDiff, Nat.reduceMul, q_n10, q_n01, Option.bind_some, g_aft0, g_aft1, g_aft2, g_aft3, g_aft9, Nat.reduceAdd, m_kill_0, m_kill_2, m_kill_3, m_kill_4, m_kill_9, true_or, or_true, q_lm1, q_l0, q_l1, q_l2, q_l3, q_l4, q_l5, q_l6, q_l8, q_l9, q_l10, q_l12, q_l17, q_l32, q_l35, q_l48, q_l50, q_l54, q_l57, q_l64, q_l73, q_l118, q_l119, q_l120, q_l122, q_l126, q_l160, q_l256, q_l365, q_l372, q_l438, q_l1000, q_l100000, q_l1000000, q_modF hL.2.2.2.2.2.2.1, t1]
    refine Eq.trans lp ?_
    rw [n0.1] at hm wn
    conv => lhs; simp only [b_185_8, ↓reduceIte, Nat.reduceEqDiff, Nat.reduceMul, q_n10, q_n01, Option.bind_some, g_aft0, g_aft1, g_aft2, g_aft3, g_aft9, Nat.reduceAdd, m_kill_0, m_kill_2, m_kill_3, m_kill_4, m_kill_9, true_or, or_true, q_lm1, q_l0, q_l1, q_l2, q_l3, q_l4, q_l5, q_l6, q_l8, q_l9, q_l10, q_l12, q_l17, q_l32, q_l35, q_l48, q_l50, q_l54, q_l57, q_l64, q_l73, q_l118, q_l119, q_l120, q_l122, q_l126, q_l160, q_l256, q_l365, q_l372, q_l438, q_l1000, q_l100000, q_l1000000, q_modF hL.2.2.2.2.2.2.1, hm]
    simp only [b_185_13, b_185_43, ↓reduceIte, Nat.reduceEqDiff, Nat.reduceMul, q_n10, q_n01, Option.bind_some, g_aft0, g_aft1, g_aft2, g_aft3, g_aft9, Nat.reduceAdd, m_kill_0, m_kill_2, m_kill_3, m_kill_4, m_kill_9, true_or, or_true, q_lm1, q_l0, q_l1, q_l2, q_l3, q_l4, q_l5, q_l6, q_l8, q_l9, q_l10, q_l12, q_l17, q_l32, q_l35, q_l48, q_l50, q_l54, q_l57, q_l64, q_l73, q_l118, q_l119, q_l120, q_l122, q_l126, q_l160, q_l256, q_l365, q_l372, q_l438, q_l1000, q_l100000, q_l1000000, wn, Int.le_refl, hz]
  · rw [if_neg (fun q => ?_)]
    obtain ⟨j, hj, hpj⟩ := (q_or_iff _).mp q
    rw [hp] at hpj
    exact of_decide_eq_true hpj (hc j hj)
  · rw [if_pos]
    rw [q_or_iff]
    have : ∃ j, j < w_nn N ∧ ¬ w_D N 0 j < 1000000 := by
      apply Classical.byContradiction
      intro hne
      exact hc (fun j hj => Classical.byContradiction (fun q => hne ⟨j, hj, q⟩))
    obtain ⟨j, hj, hq⟩ := this
    exact ⟨j, hj, by rw [hp]; exact decide_eq_true hq⟩
theorem z_areN (hL : q_lay K) (h : z_n σ N) (hx : w32 x = x) (hy : w32 y = y) : m_cl Z 186 [(2, ((191 : Nat) : Int)), (0, x), (0, y)] (K, σ, 206, e, s) = some (.inl (0, if (0 ≤ x ∧ x < N 0 0) ∧ 0 ≤ y ∧ y < N 0 0 then 1 else 0), (K, σ, 206, e, s)) := by
  have h1 := z_isNode (Z := Z) (e := e) (s := s) hL h hx
  have h2 := z_isNode (Z := Z) (e := e) (s := s) hL h hy
  by_cases c1 : 0 ≤ x ∧ x < N 0 0
  · rw [if_pos c1] at h1
    by_cases c2 : 0 ≤ y ∧ y < N 0 0
    · rw [if_pos c2] at h2
      rw [if_pos ⟨c1, c2⟩]
      simp only [e_186, b_186_0, b_186_5, b_186_8, b_186_13, b_186_16, b_186_20, b_186_21, ↓reduceIte, Nat.reduceEqDiff, Nat.reduceMul, q_n10, q_n01, Option.bind_some, g_aft0, g_aft1, g_aft2, g_aft3, g_aft9, Nat.reduceAdd, m_kill_0, m_kill_2, m_kill_3, m_kill_4, m_kill_9, true_or, or_true, q_lm1, q_l0, q_l1, q_l2, q_l3, q_l4, q_l5, q_l6, q_l8, q_l9, q_l10, q_l12, q_l17, q_l32, q_l35, q_l48, q_l50, q_l54, q_l57, q_l64, q_l73, q_l118, q_l119, q_l120, q_l122, q_l126, q_l160, q_l256, q_l365, q_l372, q_l438, q_l1000, q_l100000, q_l1000000, q_modF hL.2.2.2.2.2.2.1, h1, h2]
    · rw [if_neg c2] at h2
      rw [if_neg (fun q => c2 q.2)]
      simp only [e_186, b_186_0, b_186_5, b_186_8, b_186_13, b_186_16, b_186_20, b_186_21, ↓reduceIte, Nat.reduceEqDiff, Nat.reduceMul, q_n10, q_n01, Option.bind_some, g_aft0, g_aft1, g_aft2, g_aft3, g_aft9, Nat.reduceAdd, m_kill_0, m_kill_2, m_kill_3, m_kill_4, m_kill_9, true_or, or_true, q_lm1, q_l0, q_l1, q_l2, q_l3, q_l4, q_l5, q_l6, q_l8, q_l9, q_l10, q_l12, q_l17, q_l32, q_l35, q_l48, q_l50, q_l54, q_l57, q_l64, q_l73, q_l118, q_l119, q_l120, q_l122, q_l126, q_l160, q_l256, q_l365, q_l372, q_l438, q_l1000, q_l100000, q_l1000000, q_modF hL.2.2.2.2.2.2.1, h1, h2, true_or]
  · rw [if_neg c1] at h1
    rw [if_neg (fun q => c1 q.1)]
    simp only [e_186, b_186_0, b_186_5, b_186_8, b_186_13, b_186_16, b_186_20, b_186_21, ↓reduceIte, Nat.reduceEqDiff, Nat.reduceMul, q_n10, q_n01, Option.bind_some, g_aft0, g_aft1, g_aft2, g_aft3, g_aft9, Nat.reduceAdd, m_kill_0, m_kill_2, m_kill_3, m_kill_4, m_kill_9, true_or, or_true, q_lm1, q_l0, q_l1, q_l2, q_l3, q_l4, q_l5, q_l6, q_l8, q_l9, q_l10, q_l12, q_l17, q_l32, q_l35, q_l48, q_l50, q_l54, q_l57, q_l64, q_l73, q_l118, q_l119, q_l120, q_l122, q_l126, q_l160, q_l256, q_l365, q_l372, q_l438, q_l1000, q_l100000, q_l1000000, q_modF hL.2.2.2.2.2.2.1, h1, true_or]
theorem z_inv6 (h : z_inv σ N R c X L) (hf : ∀ a, a ≠ 196 → τ a = σ a) : z_inv τ N R c X L := z_invF h (hf 192 (by omega)) (hf 193 (by omega)) (hf 195 (by omega)) (by rw [hf 191 (by omega)]) (by rw [hf 191 (by omega)])
theorem z_distance (hL : q_lay K) (h : z_inv σ N R c X L) (hx : w32 x = x) (hy : w32 y = y) : (¬ ((0 ≤ x ∧ x < N 0 0) ∧ 0 ≤ y ∧ y < N 0 0) → z_O (m_cl Z 187 [(2, ((191 : Nat) : Int)), (0, x), (0, y)] (K, σ, 206, e, s)) K e s σ N R c X L 1 0) ∧ ((0 ≤ x ∧ x < N 0 0) ∧ (0 ≤ y ∧ y < N 0 0) → z_O (m_cl Z 187 [(2, ((191 : Nat) : Int)), (0, x), (0, y)] (K, σ, 206, e, s)) K e s σ N R c X L 0 (if w_D N x.toNat y.toNat < 1000000 then w_D N x.toNat y.toNat else -1)) := by
  have ha := z_areN (Z := Z) (e := e) (s := s) hL h.1 hx hy
  constructor
  · intro hn
    rw [if_neg hn] at ha
    refine z_no h ?_
    simp only [e_187, b_187_0, b_187_7, b_187_10, b_187_14, b_187_15, b_187_18, b_187_21, b_187_23, b_187_27, b_187_43, b_187_57, b_187_58, ↓reduceIte, Nat.reduceEqDiff, Nat.reduceMul, q_n10, q_n01, Option.bind_some, g_aft0, g_aft1, g_aft2, g_aft3, g_aft9, Nat.reduceAdd, m_kill_0, m_kill_2, m_kill_3, m_kill_4, m_kill_9, true_or, or_true, q_lm1, q_l0, q_l1, q_l2, q_l3, q_l4, q_l5, q_l6, q_l8, q_l9, q_l10, q_l12, q_l17, q_l32, q_l35, q_l48, q_l50, q_l54, q_l57, q_l64, q_l73, q_l118, q_l119, q_l120, q_l122, q_l126, q_l160, q_l256, q_l365, q_l372, q_l438, q_l1000, q_l100000, q_l1000000, q_modF hL.2.2.2.2.2.2.1, ha, z_ref1 hL (x := 1) (by decide) (by decide)]
  · intro hn
    rw [if_pos hn] at ha
    obtain ⟨τ, t1, t2, t3⟩ := z_lays (Z := Z) (e := e) (s := s) hL (z_inv4 (v := 0) h).1
    have n0 := wf_n h.1.1
    have w1 : w32 100000 = 100000 := by decide
    obtain ⟨i1, i2, i3⟩ := z_fix (a := x.toNat) (b := y.toNat) (by clear hx hy ha w1; omega) (by clear hx hy ha w1; omega)
    have ex : ((x.toNat : Nat) : Int) = x := by clear hx hy ha w1 i1 i2 i3; omega
    have ey : ((y.toNat : Nat) : Int) = y := by clear hx hy ha w1 i1 i2 i3; omega
    rw [ex, ey] at i1 i2 i3
    have hf := t2 x.toNat y.toNat (by clear hx hy ha w1 i1 i2 i3; omega) (by clear hx hy ha w1 i1 i2 i3; omega)
    have hc := d_cap_lt h.1.1 (a := x.toNat) (b := y.toNat)
    have wc : w32 (d_cap (w_D N x.toNat y.toNat)) = d_cap (w_D N x.toNat y.toNat) := by clear hx hy ha w1 i1 i2 i3; exact q_wi (by omega) (by omega)
    refine ⟨τ, ?_, by rw [t3 191 (by omega), m_up2_at], z_inv6 (z_inv4 h) t3, fun a ha => by rw [t3 a (by omega), m_up2_ne (by omega)]⟩
    by_cases c1 : w_D N x.toNat y.toNat < 1000000
    · have c2 : ¬ (100000 : Int) ≤ d_cap (w_D N x.toNat y.toNat) := by have := hc.1.mpr c1; clear hx hy ha w1 i1 i2 i3 wc; omega
      rw [if_pos c1, ← hc.2.1 c1]
      simp only [e_187, b_187_0, b_187_7, b_187_10, b_187_14, b_187_15, b_187_18, b_187_21, b_187_23, b_187_27, b_187_43, b_187_57, b_187_58, ↓reduceIte, Nat.reduceEqDiff, Nat.reduceMul, q_n10, q_n01, Option.bind_some, g_aft0, g_aft1, g_aft2, g_aft3, g_aft9, Nat.reduceAdd, m_kill_0, m_kill_2, m_kill_3, m_kill_4, m_kill_9, true_or, or_true, q_lm1, q_l0, q_l1, q_l2, q_l3, q_l4, q_l5, q_l6, q_l8, q_l9, q_l10, q_l12, q_l17, q_l32, q_l35, q_l48, q_l50, q_l54, q_l57, q_l64, q_l73, q_l118, q_l119, q_l120, q_l122, q_l126, q_l160, q_l256, q_l365, q_l372, q_l438, q_l1000, q_l100000, q_l1000000, q_modF hL.2.2.2.2.2.2.1, ha, z_ref0 hL, t1, i1, i2, i3, hf, wc, w1, c2]
    · have c2 : (100000 : Int) ≤ d_cap (w_D N x.toNat y.toNat) := by have := fun q => c1 (hc.1.mp q); clear hx hy ha w1 i1 i2 i3 wc; omega
      rw [if_neg c1]
      simp only [e_187, b_187_0, b_187_7, b_187_10, b_187_14, b_187_15, b_187_18, b_187_21, b_187_23, b_187_27, b_187_43, b_187_57, b_187_58, ↓reduceIte, Nat.reduceEqDiff, Nat.reduceMul, q_n10, q_n01, Option.bind_some, g_aft0, g_aft1, g_aft2, g_aft3, g_aft9, Nat.reduceAdd, m_kill_0, m_kill_2, m_kill_3, m_kill_4, m_kill_9, true_or, or_true, q_lm1, q_l0, q_l1, q_l2, q_l3, q_l4, q_l5, q_l6, q_l8, q_l9, q_l10, q_l12, q_l17, q_l32, q_l35, q_l48, q_l50, q_l54, q_l57, q_l64, q_l73, q_l118, q_l119, q_l120, q_l122, q_l126, q_l160, q_l256, q_l365, q_l372, q_l438, q_l1000, q_l100000, q_l1000000, q_modF hL.2.2.2.2.2.2.1, ha, z_ref0 hL, t1, i1, i2, i3, hf, wc, w1, c2]
theorem z_counted (hL : q_lay K) (hn : z_n σ N) (hi : i < 4) : ∃ τ v, m_cl Z 178 [(2, ((191 : Nat) : Int)), (0, (i : Int))] (K, σ, 206, e, s) = some (.inl (0, v), (K, τ, 206, e, s)) ∧ (∀ a, a ≠ 196 → τ a = σ a) ∧ ((w_cn N → v = y_f4 N 1 i) ∧ (¬ w_cn N → v = y_f4 N 0 i)) := by
  have h1 := z_many (Z := Z) (e := e) (s := s) hL hn
  have h2 := z_emany (Z := Z) (e := e) (s := s) hL hn
  have h3 := z_smany (Z := Z) (e := e) (s := s) hL hn
  rcases (show i = 0 ∨ i = 1 ∨ i = 2 ∨ i = 3 by omega) with rfl | rfl | rfl | rfl
  · refine ⟨σ, N 0 0, ?_, fun _ _ => rfl, fun _ => rfl, fun _ => rfl⟩
    show m_cl Z 178 [(2, ((191 : Nat) : Int)), (0, 0)] (K, σ, 206, e, s) = _
    simp only [e_178, b_178_0, b_178_4, b_178_8, b_178_11, b_178_16, b_178_20, b_178_23, b_178_28, b_178_32, b_178_35, b_178_39, b_178_42, b_178_46, b_178_47, ↓reduceIte, Nat.reduceEqDiff, Nat.reduceMul, q_n10, q_n01, Option.bind_some, g_aft0, g_aft1, g_aft2, g_aft3, g_aft9, Nat.reduceAdd, m_kill_0, m_kill_2, m_kill_3, m_kill_4, m_kill_9, true_or, or_true, q_lm1, q_l0, q_l1, q_l2, q_l3, q_l4, q_l5, q_l6, q_l8, q_l9, q_l10, q_l12, q_l17, q_l32, q_l35, q_l48, q_l50, q_l54, q_l57, q_l64, q_l73, q_l118, q_l119, q_l120, q_l122, q_l126, q_l160, q_l256, q_l365, q_l372, q_l438, q_l1000, q_l100000, q_l1000000, q_modF hL.2.2.2.2.2.2.1, h1]
  · refine ⟨σ, N 0 1, ?_, fun _ _ => rfl, fun _ => rfl, fun _ => rfl⟩
    show m_cl Z 178 [(2, ((191 : Nat) : Int)), (0, 1)] (K, σ, 206, e, s) = _
    simp only [e_178, b_178_0, b_178_4, b_178_8, b_178_11, b_178_16, b_178_20, b_178_23, b_178_28, b_178_32, b_178_35, b_178_39, b_178_42, b_178_46, b_178_47, ↓reduceIte, Nat.reduceEqDiff, Nat.reduceMul, q_n10, q_n01, Option.bind_some, g_aft0, g_aft1, g_aft2, g_aft3, g_aft9, Nat.reduceAdd, m_kill_0, m_kill_2, m_kill_3, m_kill_4, m_kill_9, true_or, or_true, q_lm1, q_l0, q_l1, q_l2, q_l3, q_l4, q_l5, q_l6, q_l8, q_l9, q_l10, q_l12, q_l17, q_l32, q_l35, q_l48, q_l50, q_l54, q_l57, q_l64, q_l73, q_l118, q_l119, q_l120, q_l122, q_l126, q_l160, q_l256, q_l365, q_l372, q_l438, q_l1000, q_l100000, q_l1000000, q_modF hL.2.2.2.2.2.2.1, h2]
  · refine ⟨σ, N 0 2, ?_, fun _ _ => rfl, fun _ => rfl, fun _ => rfl⟩
    show m_cl Z 178 [(2, ((191 : Nat) : Int)), (0, 2)] (K, σ, 206, e, s) = _
    have q1 : ¬ (2 : Int) = 0 := by decide
    have q2 : ¬ (2 : Int) = 1 := by decide
    simp only [e_178, b_178_0, b_178_4, b_178_8, b_178_11, b_178_16, b_178_20, b_178_23, b_178_28, b_178_32, b_178_35, b_178_39, b_178_42, b_178_46, b_178_47, ↓reduceIte, Nat.reduceEqDiff, Nat.reduceMul, q_n10, q_n01, Option.bind_some, g_aft0, g_aft1, g_aft2, g_aft3, g_aft9, Nat.reduceAdd, m_kill_0, m_kill_2, m_kill_3, m_kill_4, m_kill_9, true_or, or_true, q_lm1, q_l0, q_l1, q_l2, q_l3, q_l4, q_l5, q_l6, q_l8, q_l9, q_l10, q_l12, q_l17, q_l32, q_l35, q_l48, q_l50, q_l54, q_l57, q_l64, q_l73, q_l118, q_l119, q_l120, q_l122, q_l126, q_l160, q_l256, q_l365, q_l372, q_l438, q_l1000, q_l100000, q_l1000000, q_modF hL.2.2.2.2.2.2.1, h3, q1, q2]
  · obtain ⟨τ, v, t1, t2, t3, t4, t5⟩ := z_conn (Z := Z) (e := e) (s := s) hL hn
    have q1 : ¬ (3 : Int) = 0 := by decide
    have q2 : ¬ (3 : Int) = 1 := by decide
    have q3 : ¬ (3 : Int) = 2 := by decide
    refine ⟨τ, v, ?_, t3, fun q => t4 q, fun q => t5 q⟩
    show m_cl Z 178 [(2, ((191 : Nat) : Int)), (0, 3)] (K, σ, 206, e, s) = _
    by_cases hc : w_cn N
    · rw [t4 hc] at t1 ⊢
      simp only [e_178, b_178_0, b_178_4, b_178_8, b_178_11, b_178_16, b_178_20, b_178_23, b_178_28, b_178_32, b_178_35, b_178_39, b_178_42, b_178_46, b_178_47, ↓reduceIte, Nat.reduceEqDiff, Nat.reduceMul, q_n10, q_n01, Option.bind_some, g_aft0, g_aft1, g_aft2, g_aft3, g_aft9, Nat.reduceAdd, m_kill_0, m_kill_2, m_kill_3, m_kill_4, m_kill_9, true_or, or_true, q_lm1, q_l0, q_l1, q_l2, q_l3, q_l4, q_l5, q_l6, q_l8, q_l9, q_l10, q_l12, q_l17, q_l32, q_l35, q_l48, q_l50, q_l54, q_l57, q_l64, q_l73, q_l118, q_l119, q_l120, q_l122, q_l126, q_l160, q_l256, q_l365, q_l372, q_l438, q_l1000, q_l100000, q_l1000000, q_modF hL.2.2.2.2.2.2.1, q1, q2, q3, t1]
    · rw [t5 hc] at t1 ⊢
      simp only [e_178, b_178_0, b_178_4, b_178_8, b_178_11, b_178_16, b_178_20, b_178_23, b_178_28, b_178_32, b_178_35, b_178_39, b_178_42, b_178_46, b_178_47, ↓reduceIte, Nat.reduceEqDiff, Nat.reduceMul, q_n10, q_n01, Option.bind_some, g_aft0, g_aft1, g_aft2, g_aft3, g_aft9, Nat.reduceAdd, m_kill_0, m_kill_2, m_kill_3, m_kill_4, m_kill_9, true_or, or_true, q_lm1, q_l0, q_l1, q_l2, q_l3, q_l4, q_l5, q_l6, q_l8, q_l9, q_l10, q_l12, q_l17, q_l32, q_l35, q_l48, q_l50, q_l54, q_l57, q_l64, q_l73, q_l118, q_l119, q_l120, q_l122, q_l126, q_l160, q_l256, q_l365, q_l372, q_l438, q_l1000, q_l100000, q_l1000000, q_modF hL.2.2.2.2.2.2.1, q1, q2, q3, t1]
theorem z_count (hL : q_lay K) (h : z_inv σ N R c X L) (hx : w32 x = x) : (¬ (0 ≤ x ∧ x ≤ 3) → z_O (m_cl Z 179 [(2, ((191 : Nat) : Int)), (0, x)] (K, σ, 206, e, s)) K e s σ N R c X L 1 0) ∧ (0 ≤ x ∧ x ≤ 3 → ∃ v, z_O (m_cl Z 179 [(2, ((191 : Nat) : Int)), (0, x)] (K, σ, 206, e, s)) K e s σ N R c X L 0 v ∧ ((w_cn N → v = y_f4 N 1 x.toNat) ∧ (¬ w_cn N → v = y_f4 N 0 x.toNat))) := by
  have ha := z_within2 (Z := Z) (h := (K, σ, 206, e, s)) (x := x) (y := 0) (z := 3) hx (by decide) (by decide)
  constructor
  · intro hn
    rw [if_neg hn] at ha
    refine z_no h ?_
    simp only [e_179, b_179_0, b_179_7, b_179_10, b_179_14, b_179_15, b_179_18, b_179_21, b_179_25, b_179_30, ↓reduceIte, Nat.reduceEqDiff, Nat.reduceMul, q_n10, q_n01, Option.bind_some, g_aft0, g_aft1, g_aft2, g_aft3, g_aft9, Nat.reduceAdd, m_kill_0, m_kill_2, m_kill_3, m_kill_4, m_kill_9, true_or, or_true, q_lm1, q_l0, q_l1, q_l2, q_l3, q_l4, q_l5, q_l6, q_l8, q_l9, q_l10, q_l12, q_l17, q_l32, q_l35, q_l48, q_l50, q_l54, q_l57, q_l64, q_l73, q_l118, q_l119, q_l120, q_l122, q_l126, q_l160, q_l256, q_l365, q_l372, q_l438, q_l1000, q_l100000, q_l1000000, q_modF hL.2.2.2.2.2.2.1, ha, z_ref1 hL (x := 1) (by decide) (by decide)]
  · intro hn
    rw [if_pos hn] at ha
    obtain ⟨τ, v, t1, t2, t3⟩ := z_counted (Z := Z) (e := e) (s := s) (i := x.toNat) hL (z_inv4 (v := 0) h).1 (by clear hx ha; omega)
    have ex : ((x.toNat : Nat) : Int) = x := by clear hx ha; omega
    rw [ex] at t1
    refine ⟨v, ⟨τ, ?_, by rw [t2 191 (by omega), m_up2_at], z_inv6 (z_inv4 h) t2, fun a ha => by rw [t2 a (by omega), m_up2_ne (by omega)]⟩, t3⟩
    simp only [e_179, b_179_0, b_179_7, b_179_10, b_179_14, b_179_15, b_179_18, b_179_21, b_179_25, b_179_30, ↓reduceIte, Nat.reduceEqDiff, Nat.reduceMul, q_n10, q_n01, Option.bind_some, g_aft0, g_aft1, g_aft2, g_aft3, g_aft9, Nat.reduceAdd, m_kill_0, m_kill_2, m_kill_3, m_kill_4, m_kill_9, true_or, or_true, q_lm1, q_l0, q_l1, q_l2, q_l3, q_l4, q_l5, q_l6, q_l8, q_l9, q_l10, q_l12, q_l17, q_l32, q_l35, q_l48, q_l50, q_l54, q_l57, q_l64, q_l73, q_l118, q_l119, q_l120, q_l122, q_l126, q_l160, q_l256, q_l365, q_l372, q_l438, q_l1000, q_l100000, q_l1000000, q_modF hL.2.2.2.2.2.2.1, ha, z_ref0 hL, t1]
end
end
