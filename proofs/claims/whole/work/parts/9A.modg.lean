section
/-! The model: all crossings of an edge, going on. -/
section
variable {Z : mZ} {K : Nat → mK} {σ τ N M : Nat → Nat → Int} {e g i L n c k s a b : Nat} {t p q v x y z w u S : Int} {X : Nat → Int} {h : mH} {R : Nat → Nat → Nat → Int} {T : Nat → Int}
theorem z_node1 {L : List (Int × Int)} {l4 l5 : mV} (hL : q_lay K) (h : z_sur σ N t) (ht : 0 ≤ t) (ht2 : t ≤ 10) (hg : g < w_ne N) (hi : i < w_nn N) (hx : z_xl σ L) (hl : L.length + (1 + 4 * i) ≤ 155) : ∃ (τ : Nat → Nat → Int) (l4' l5' : mV), m_run Z (207, 35, [(2, ((191 : Nat) : Int)), (0, S), (0, (g : Int)), (0, (i : Int)), l4, l5], [], (K, σ, 206, e, s)) = m_run Z (207, 192, [(2, ((191 : Nat) : Int)), (0, S), (0, (g : Int)), (0, (i : Int)), l4', l5'], [], (K, τ, 206, e, s)) ∧ z_xl τ (L ++ z_ci N t S g i) ∧ z_f9 σ τ := by
  have hw := h.1.1
  have hc := h.2.2.2
  have n0 := wf_n hw
  have h7 := wf_ed hw hg
  have h1 := z_has (Z := Z) (S := S) (i := i) (h := (K, σ, 206, e, s))
  have ob := w_ob hw hc hg hi
  have wi : w32 (i : Int) = (i : Int) := q_w (by omega)
  -- the peak
  have peak : ∃ (τ : Nat → Nat → Int), m_run Z (207, 35, [(2, ((191 : Nat) : Int)), (0, S), (0, (g : Int)), (0, (i : Int)), l4, l5], [], (K, σ, 206, e, s)) = m_run Z (207, 95, [(2, ((191 : Nat) : Int)), (0, S), (0, (g : Int)), (0, (i : Int)), (0, ((0 : Nat) : Int)), l5], [], (K, τ, 206, e, s)) ∧ z_xl τ (L ++ if q_bt S i = true then z_c1 N g (z_pk N g i) 2 else []) ∧ z_f9 σ τ := by
    by_cases d : q_bt S i = true
    · rw [if_pos d] at h1 ⊢
      obtain ⟨o1, o2, o3⟩ := z_of (Z := Z) (e := e) (s := s) hL h.1 hg
      rw [h7.1] at o1
      rw [h7.2.1] at o2
      have b1 := w_D_cn hw hc hi h7.2.2.1
      have b2 := w_D_cn hw hc hi h7.2.2.2.1
      have f1 := h.2.1 i (w_f N g) hi h7.2.2.1
      rw [(d_cap_lt hw).2.1 (by clear wi; omega)] at f1
      have f2 := h.2.1 i (w_s N g) hi h7.2.2.2.1
      rw [(d_cap_lt hw).2.1 (by clear wi f1; omega)] at f2
      obtain ⟨i1, i2, i3⟩ := z_fix (a := i) (b := w_f N g) (by clear wi f1 f2; omega) (by clear wi f1 f2; omega)
      obtain ⟨j1, j2, j3⟩ := z_fix (a := i) (b := w_s N g) (by clear wi f1 f2 i1 i2 i3; omega) (by clear wi f1 f2 i1 i2 i3; omega)
      have epk : z_pk N g i = w_D N i (w_s N g) + N 10 g - w_D N i (w_f N g) := rfl
      have bpk : -20000 ≤ z_pk N g i ∧ z_pk N g i ≤ 20000 := by rw [epk]; clear wi f1 f2 i1 i2 i3 j1 j2 j3; omega
      have wp : w32 (z_pk N g i) = z_pk N g i := by clear wi f1 f2 i1 i2 i3 j1 j2 j3; exact q_wi (by omega) (by omega)
      obtain ⟨ω, r1, r2, r3⟩ := z_crosses (Z := Z) (e := e) (s := s) (p := z_pk N g i) (q := 2) hL h.1 hg hx (by clear wi f1 f2 i1 i2 i3 j1 j2 j3 wp; omega) (by clear wi f1 f2 i1 i2 i3 j1 j2 j3 wp; omega) (by clear wi f1 f2 i1 i2 i3 j1 j2 j3 wp; omega) (by decide) (by decide)
      rw [epk] at r1 wp
      refine ⟨ω, ?_, r2, r3⟩
      have k0 : ((0 : Nat) : Int) = 0 := rfl
      show _ = m_run Z (207, 95, [(2, ((191 : Nat) : Int)), (0, S), (0, (g : Int)), (0, (i : Int)), (0, 0), l5], [], (K, ω, 206, e, s))
      simp only [b_207_35, b_207_40, b_207_43, b_207_59, b_207_67, b_207_82, b_207_92, ↓reduceIte, Nat.reduceEqDiff, Nat.reduceMul, q_n10, q_n01, Option.bind_some, g_aft0, g_aft1, g_aft2, g_aft3, g_aft9, Nat.reduceAdd, m_kill_0, m_kill_2, m_kill_3, m_kill_4, m_kill_9, true_or, or_true, q_lm1, q_l0, q_l1, q_l2, q_l3, q_l4, q_l5, q_l6, q_l8, q_l9, q_l10, q_l12, q_l17, q_l32, q_l35, q_l48, q_l50, q_l54, q_l57, q_l64, q_l73, q_l118, q_l119, q_l120, q_l122, q_l126, q_l160, q_l256, q_l365, q_l372, q_l438, q_l1000, q_l100000, q_l1000000, q_modF hL.2.2.2.2.2.2.1, h1, o1, o2, o3, i1, i2, i3, j1, j2, j3, f1, f2, wp, r1]
    · rw [if_neg d] at h1 ⊢
      rw [List.append_nil]
      refine ⟨σ, ?_, hx, z_f9_r⟩
      show _ = m_run Z (207, 95, [(2, ((191 : Nat) : Int)), (0, S), (0, (g : Int)), (0, (i : Int)), (0, 0), l5], [], (K, σ, 206, e, s))
      simp only [b_207_35, b_207_40, b_207_92, ↓reduceIte, Nat.reduceEqDiff, Nat.reduceMul, q_n10, q_n01, Option.bind_some, g_aft0, g_aft1, g_aft2, g_aft3, g_aft9, Nat.reduceAdd, m_kill_0, m_kill_2, m_kill_3, m_kill_4, m_kill_9, true_or, or_true, q_lm1, q_l0, q_l1, q_l2, q_l3, q_l4, q_l5, q_l6, q_l8, q_l9, q_l10, q_l12, q_l17, q_l32, q_l35, q_l48, q_l50, q_l54, q_l57, q_l64, q_l73, q_l118, q_l119, q_l120, q_l122, q_l126, q_l160, q_l256, q_l365, q_l372, q_l438, q_l1000, q_l100000, q_l1000000, h1]
  obtain ⟨τ, t1, t2, t3⟩ := peak
  have lp1 : (if q_bt S i = true then z_c1 N g (z_pk N g i) 2 else []).length ≤ 1 := by
    split
    · exact z_c1_len
    · simp
  have lj : ∀ m, (q_cat (fun j => if q_bt S i = true ∧ q_bt S j = true then q_cat (z_c4 N t g i j) 4 else []) m).length ≤ 4 * m := by
    intro m
    rw [q_cat_len]
    have := q_sum_le (n := m) (f := fun j => (if q_bt S i = true ∧ q_bt S j = true then q_cat (z_c4 N t g i j) 4 else []).length) (f' := fun _ => 4) (fun j _ => by
      show (if q_bt S i = true ∧ q_bt S j = true then q_cat (z_c4 N t g i j) 4 else []).length ≤ 4
      split
      · rw [q_cat_len]
        have := q_sum_le (n := 4) (f := fun k => (z_c4 N t g i j k).length) (f' := fun _ => 1) (fun k _ => z_c1_len)
        rw [q_sum_c] at this
        exact this
      · simp)
    rw [q_sum_c] at this
    clear wi
    omega
  obtain ⟨y, y1, y2, y3⟩ := q_loop (Z := Z) (N := i) (S := fun a (x : (Nat → Nat → Int) × mV) => (207, 95, [(2, ((191 : Nat) : Int)), (0, S), (0, (g : Int)), (0, (i : Int)), (0, (a : Int)), x.2], [], (K, x.1, 206, e, s))) (P := fun a x => z_xl x.1 (L ++ (if q_bt S i = true then z_c1 N g (z_pk N g i) 2 else []) ++ q_cat (fun j => if q_bt S i = true ∧ q_bt S j = true then q_cat (z_c4 N t g i j) 4 else []) a) ∧ z_f9 σ x.1) (by
    rintro a ⟨τ, l5⟩ ha ⟨x1, x2⟩
    have wa : w32 (a : Int) = (a : Int) := q_w (by clear wi; omega)
    have c0 : ¬ (i : Int) ≤ (a : Int) := by clear wi wa; omega
    have lja := lj a
    obtain ⟨ω, l5', o1, o2, o3⟩ := z_pair (Z := Z) (S := S) (e := e) (s := s) (l5 := l5) hL (z_sur9 h x2) ht ht2 hg hi ha x1 (by rw [List.length_append, List.length_append]; clear wi wa; omega)
    have e1 : ((a + 1 : Nat) : Int) = (a : Int) + 1 := rfl
    refine ⟨(ω, l5'), ?_, ?_, z_f9_t x2 o3⟩
    · show m_run Z (207, 95, [(2, ((191 : Nat) : Int)), (0, S), (0, (g : Int)), (0, (i : Int)), (0, (a : Int)), l5], [], (K, τ, 206, e, s)) = m_run Z (207, 95, [(2, ((191 : Nat) : Int)), (0, S), (0, (g : Int)), (0, (i : Int)), (0, ((a + 1 : Nat) : Int)), l5'], [], (K, ω, 206, e, s))
      rw [e1]
      conv => lhs; simp only [b_207_95, ↓reduceIte, Nat.reduceEqDiff, Nat.reduceMul, q_n10, q_n01, Option.bind_some, g_aft0, g_aft1, g_aft2, g_aft3, g_aft9, Nat.reduceAdd, m_kill_0, m_kill_2, m_kill_3, m_kill_4, m_kill_9, true_or, or_true, q_lm1, q_l0, q_l1, q_l2, q_l3, q_l4, q_l5, q_l6, q_l8, q_l9, q_l10, q_l12, q_l17, q_l32, q_l35, q_l48, q_l50, q_l54, q_l57, q_l64, q_l73, q_l118, q_l119, q_l120, q_l122, q_l126, q_l160, q_l256, q_l365, q_l372, q_l438, q_l1000, q_l100000, q_l1000000, wi, wa, c0]
      refine Eq.trans o1 ?_
      simp only [b_207_186]
    · show z_xl ω _
      rw [q_cat_s, ← List.append_assoc]
      exact o2) i 0 (τ, l5) (by omega) ⟨by show z_xl τ (_ ++ []); rw [List.append_nil]; exact t2, t3⟩
  refine ⟨y.1, (0, (i : Int)), y.2, ?_, ?_, y3⟩
  · rw [t1]
    refine Eq.trans y1 ?_
    conv => lhs; simp only [b_207_95, ↓reduceIte, Nat.reduceEqDiff, Nat.reduceMul, q_n10, q_n01, Option.bind_some, g_aft0, g_aft1, g_aft2, g_aft3, g_aft9, Nat.reduceAdd, m_kill_0, m_kill_2, m_kill_3, m_kill_4, m_kill_9, true_or, or_true, q_lm1, q_l0, q_l1, q_l2, q_l3, q_l4, q_l5, q_l6, q_l8, q_l9, q_l10, q_l12, q_l17, q_l32, q_l35, q_l48, q_l50, q_l54, q_l57, q_l64, q_l73, q_l118, q_l119, q_l120, q_l122, q_l126, q_l160, q_l256, q_l365, q_l372, q_l438, q_l1000, q_l100000, q_l1000000, wi, Int.le_refl]
  · unfold z_ci
    rw [← List.append_assoc]
    exact y2
theorem z_laysX (hL : q_lay K) (h : z_sur σ N t) (ht : 0 ≤ t) (ht2 : t ≤ 10) (hg : g < w_ne N) : ∃ τ, m_cl Z 207 [(2, ((191 : Nat) : Int)), (0, S), (0, (g : Int))] (K, σ, 206, e, s) = some (.inl (9, 0), (K, τ, 206, e, s)) ∧ z_xl τ (z_xs N t S g) ∧ z_f9 σ τ := by
  have hw := h.1.1
  have n0 := wf_n hw
  have s0 := wf_s hw
  have h7 := wf_ed hw hg
  have x0 : z_xl (m_up2 σ 191 9 0) [] := ⟨m_up2_at, fun i hi => absurd hi (Nat.not_lt_zero _)⟩
  have f0 : z_f9 σ (m_up2 σ 191 9 0) := ⟨fun a h1 _ _ => m_up2_ne h1, fun j hj => m_up2_nk hj⟩
  obtain ⟨τ1, r1, r2, r3⟩ := z_crosses (Z := Z) (e := e) (s := s) (p := 0) (q := 1) hL (z_sur9 h f0).1 hg x0 (by decide) (by decide) (by decide) (by decide) (by decide)
  have f1 := z_f9_t f0 r3
  have ho := (z_of (Z := Z) (e := e) (s := s) hL (z_sur9 h f1).1 hg).2.2
  have wl : w32 (N 10 g) = N 10 g := q_wi (by omega) (by omega)
  have len1 : ([] ++ z_c1 N g 0 1).length ≤ 1 := by rw [List.nil_append]; exact z_c1_len
  obtain ⟨τ2, u1, u2, u3⟩ := z_crosses (Z := Z) (e := e) (s := s) (p := N 10 g) (q := 1) hL (z_sur9 h f1).1 hg r2 (by clear wl; omega) (by clear wl; omega) (by clear wl; omega) (by decide) (by decide)
  have f2 := z_f9_t f1 u3
  rw [List.nil_append] at u2
  have len2 : (z_c1 N g 0 1 ++ z_c1 N g (N 10 g) 1).length ≤ 2 := by
    rw [List.length_append]
    have a1 := z_c1_len (N := N) (g := g) (p := 0) (q := 1)
    have a2 := z_c1_len (N := N) (g := g) (p := N 10 g) (q := 1)
    clear wl; omega
  obtain ⟨y, y1, y2, y3⟩ := q_loop (Z := Z) (N := w_nn N) (S := fun i (x : (Nat → Nat → Int) × mV × mV) => (207, 27, [(2, ((191 : Nat) : Int)), (0, S), (0, (g : Int)), (0, (i : Int)), x.2.1, x.2.2], [], (K, x.1, 206, e, s))) (P := fun i x => z_xl x.1 (z_c1 N g 0 1 ++ z_c1 N g (N 10 g) 1 ++ q_cat (z_ci N t S g) i) ∧ z_f9 σ x.1) (by
    rintro i ⟨τ, l4, l5⟩ hi ⟨x1, x2⟩
    have hm := z_many (Z := Z) (e := e) (s := s) hL (z_sur9 h x2).1
    have wi : w32 (i : Int) = (i : Int) := q_w (by clear wl; omega)
    have wn : w32 (N 0 0) = N 0 0 := by clear wl wi; exact q_wi (by omega) (by omega)
    have c0 : ¬ N 0 0 ≤ (i : Int) := by clear wl wi wn; omega
    have ll := z_ci_lens (N := N) (t := t) (S := S) (g := g) i (by clear wl wi wn; omega)
    have ll2 := (z_ci_lens (N := N) (t := t) (S := S) (g := g) (i + 1) (by clear wl wi wn; omega)).2
    have ess : q_sum (fun i => 1 + 4 * i) (i + 1) = q_sum (fun i => 1 + 4 * i) i + (1 + 4 * i) := rfl
    obtain ⟨ω, l4', l5', o1, o2, o3⟩ := z_node1 (Z := Z) (S := S) (e := e) (s := s) (l4 := l4) (l5 := l5) hL (z_sur9 h x2) ht ht2 hg hi x1 (by rw [List.length_append]; clear wl wi wn; omega)
    have e1 : ((i + 1 : Nat) : Int) = (i : Int) + 1 := rfl
    refine ⟨(ω, l4', l5'), ?_, ?_, z_f9_t x2 o3⟩
    · show m_run Z (207, 27, [(2, ((191 : Nat) : Int)), (0, S), (0, (g : Int)), (0, (i : Int)), l4, l5], [], (K, τ, 206, e, s)) = m_run Z (207, 27, [(2, ((191 : Nat) : Int)), (0, S), (0, (g : Int)), (0, ((i + 1 : Nat) : Int)), l4', l5'], [], (K, ω, 206, e, s))
      rw [e1]
      conv => lhs; simp only [b_207_27, ↓reduceIte, Nat.reduceEqDiff, Nat.reduceMul, q_n10, q_n01, Option.bind_some, g_aft0, g_aft1, g_aft2, g_aft3, g_aft9, Nat.reduceAdd, m_kill_0, m_kill_2, m_kill_3, m_kill_4, m_kill_9, true_or, or_true, q_lm1, q_l0, q_l1, q_l2, q_l3, q_l4, q_l5, q_l6, q_l8, q_l9, q_l10, q_l12, q_l17, q_l32, q_l35, q_l48, q_l50, q_l54, q_l57, q_l64, q_l73, q_l118, q_l119, q_l120, q_l122, q_l126, q_l160, q_l256, q_l365, q_l372, q_l438, q_l1000, q_l100000, q_l1000000, q_modF hL.2.2.2.2.2.2.1, hm]
      conv => lhs; simp only [b_207_32, ↓reduceIte, Nat.reduceEqDiff, Nat.reduceMul, q_n10, q_n01, Option.bind_some, g_aft0, g_aft1, g_aft2, g_aft3, g_aft9, Nat.reduceAdd, m_kill_0, m_kill_2, m_kill_3, m_kill_4, m_kill_9, true_or, or_true, q_lm1, q_l0, q_l1, q_l2, q_l3, q_l4, q_l5, q_l6, q_l8, q_l9, q_l10, q_l12, q_l17, q_l32, q_l35, q_l48, q_l50, q_l54, q_l57, q_l64, q_l73, q_l118, q_l119, q_l120, q_l122, q_l126, q_l160, q_l256, q_l365, q_l372, q_l438, q_l1000, q_l100000, q_l1000000, wi, wn, c0]
      refine Eq.trans o1 ?_
      simp only [b_207_192]
    · show z_xl ω _
      rw [q_cat_s, ← List.append_assoc]
      exact o2) (w_nn N) 0 (τ2, (9, 0), (9, 0)) (by clear wl; omega) ⟨by show z_xl τ2 (_ ++ []); rw [List.append_nil]; exact u2, f2⟩
  obtain ⟨v, v1, v2, v3⟩ := q_loop (Z := Z) (N := w_ns N) (S := fun k (x : Nat → Nat → Int) => (207, 200, [(2, ((191 : Nat) : Int)), (0, S), (0, (g : Int)), (0, (k : Int)), y.2.1, y.2.2], [], (K, x, 206, e, s))) (P := fun k x => z_xl x (z_c1 N g 0 1 ++ z_c1 N g (N 10 g) 1 ++ q_cat (z_ci N t S g) (w_nn N) ++ q_cat (z_cs N g) k) ∧ z_f9 σ x) (by
    rintro k τ hk ⟨x1, x2⟩
    have hm := z_smany (Z := Z) (e := e) (s := s) hL (z_sur9 h x2).1
    obtain ⟨o1, o2, o3⟩ := z_at (Z := Z) (e := e) (s := s) hL (z_sur9 h x2).1 hk
    obtain ⟨e', e1, e2, e3, e4, e5, e6⟩ := wf_st hw hk
    have hne := wf_e hw
    have wk : w32 (k : Int) = (k : Int) := q_w (by clear wl; omega)
    have wS : w32 (N 0 2) = N 0 2 := by clear wl wk; exact q_wi (by omega) (by omega)
    have wg : w32 (g : Int) = (g : Int) := q_w (by clear wl wk wS; omega)
    have c0 : ¬ N 0 2 ≤ (k : Int) := by clear wl wk wS wg; omega
    have w12 : w32 (N 12 k) = N 12 k := by clear wl wk wS wg; exact q_wi (by omega) (by omega)
    have w14 : w32 (N 14 k) = N 14 k := by clear wl wk wS wg w12; exact q_wi (by omega) (by omega)
    have w16 : w32 (N 16 k) = N 16 k := by clear wl wk wS wg w12 w14; exact q_wi (by omega) (by omega)
    have ll := z_ci_lens (N := N) (t := t) (S := S) (g := g) (w_nn N) (by clear wl wk wS wg w12 w14 w16; omega)
    have ls := z_cs_lens (N := N) (g := g) k
    have ek : ((k + 1 : Nat) : Int) = (k : Int) + 1 := rfl
    by_cases d : N 12 k = (g : Int)
    · have ecs : z_cs N g k = z_c1 N g (N 14 k) 1 ++ z_c1 N g (N 16 k) 1 := by unfold z_cs; rw [if_pos d]
      obtain ⟨ω1, p1, p2, p3⟩ := z_crosses (Z := Z) (e := e) (s := s) (p := N 14 k) (q := 1) hL (z_sur9 h x2).1 hg x1 (by rw [List.length_append, List.length_append]; clear wl wk wS wg w12 w14 w16; omega) (by clear wl wk wS wg w12 w14 w16; omega) (by clear wl wk wS wg w12 w14 w16; omega) (by decide) (by decide)
      have x2' := z_f9_t x2 p3
      have lc := z_c1_len (N := N) (g := g) (p := N 14 k) (q := 1)
      have o3' := (z_at (Z := Z) (e := e) (s := s) hL (z_sur9 h x2').1 hk).2.2
      obtain ⟨ω2, q1, q2, q3⟩ := z_crosses (Z := Z) (e := e) (s := s) (p := N 16 k) (q := 1) hL (z_sur9 h x2').1 hg p2 (by rw [List.length_append, List.length_append, List.length_append]; clear wl wk wS wg w12 w14 w16; omega) (by clear wl wk wS wg w12 w14 w16; omega) (by clear wl wk wS wg w12 w14 w16; omega) (by decide) (by decide)
      refine ⟨ω2, ?_, ?_, z_f9_t x2' q3⟩
      · rw [ek]
        conv => lhs; simp only [b_207_200, ↓reduceIte, Nat.reduceEqDiff, Nat.reduceMul, q_n10, q_n01, Option.bind_some, g_aft0, g_aft1, g_aft2, g_aft3, g_aft9, Nat.reduceAdd, m_kill_0, m_kill_2, m_kill_3, m_kill_4, m_kill_9, true_or, or_true, q_lm1, q_l0, q_l1, q_l2, q_l3, q_l4, q_l5, q_l6, q_l8, q_l9, q_l10, q_l12, q_l17, q_l32, q_l35, q_l48, q_l50, q_l54, q_l57, q_l64, q_l73, q_l118, q_l119, q_l120, q_l122, q_l126, q_l160, q_l256, q_l365, q_l372, q_l438, q_l1000, q_l100000, q_l1000000, q_modF hL.2.2.2.2.2.2.1, hm]
        conv => lhs; simp only [b_207_205, ↓reduceIte, Nat.reduceEqDiff, Nat.reduceMul, q_n10, q_n01, Option.bind_some, g_aft0, g_aft1, g_aft2, g_aft3, g_aft9, Nat.reduceAdd, m_kill_0, m_kill_2, m_kill_3, m_kill_4, m_kill_9, true_or, or_true, q_lm1, q_l0, q_l1, q_l2, q_l3, q_l4, q_l5, q_l6, q_l8, q_l9, q_l10, q_l12, q_l17, q_l32, q_l35, q_l48, q_l50, q_l54, q_l57, q_l64, q_l73, q_l118, q_l119, q_l120, q_l122, q_l126, q_l160, q_l256, q_l365, q_l372, q_l438, q_l1000, q_l100000, q_l1000000, wk, wS, c0]
        simp only [b_207_208, b_207_214, b_207_218, b_207_226, b_207_231, b_207_239, b_207_244, ↓reduceIte, Nat.reduceEqDiff, Nat.reduceMul, q_n10, q_n01, Option.bind_some, g_aft0, g_aft1, g_aft2, g_aft3, g_aft9, Nat.reduceAdd, m_kill_0, m_kill_2, m_kill_3, m_kill_4, m_kill_9, true_or, or_true, q_lm1, q_l0, q_l1, q_l2, q_l3, q_l4, q_l5, q_l6, q_l8, q_l9, q_l10, q_l12, q_l17, q_l32, q_l35, q_l48, q_l50, q_l54, q_l57, q_l64, q_l73, q_l118, q_l119, q_l120, q_l122, q_l126, q_l160, q_l256, q_l365, q_l372, q_l438, q_l1000, q_l100000, q_l1000000, q_modF hL.2.2.2.2.2.2.1, o1, d, o2, w14, p1, o3', w16, q1]
      · rw [q_cat_s, ecs, ← List.append_assoc, ← List.append_assoc]
        exact q2
    · have ecs : z_cs N g k = [] := by unfold z_cs; rw [if_neg d]
      refine ⟨τ, ?_, ?_, x2⟩
      · rw [ek]
        conv => lhs; simp only [b_207_200, ↓reduceIte, Nat.reduceEqDiff, Nat.reduceMul, q_n10, q_n01, Option.bind_some, g_aft0, g_aft1, g_aft2, g_aft3, g_aft9, Nat.reduceAdd, m_kill_0, m_kill_2, m_kill_3, m_kill_4, m_kill_9, true_or, or_true, q_lm1, q_l0, q_l1, q_l2, q_l3, q_l4, q_l5, q_l6, q_l8, q_l9, q_l10, q_l12, q_l17, q_l32, q_l35, q_l48, q_l50, q_l54, q_l57, q_l64, q_l73, q_l118, q_l119, q_l120, q_l122, q_l126, q_l160, q_l256, q_l365, q_l372, q_l438, q_l1000, q_l100000, q_l1000000, q_modF hL.2.2.2.2.2.2.1, hm]
        conv => lhs; simp only [b_207_205, ↓reduceIte, Nat.reduceEqDiff, Nat.reduceMul, q_n10, q_n01, Option.bind_some, g_aft0, g_aft1, g_aft2, g_aft3, g_aft9, Nat.reduceAdd, m_kill_0, m_kill_2, m_kill_3, m_kill_4, m_kill_9, true_or, or_true, q_lm1, q_l0, q_l1, q_l2, q_l3, q_l4, q_l5, q_l6, q_l8, q_l9, q_l10, q_l12, q_l17, q_l32, q_l35, q_l48, q_l50, q_l54, q_l57, q_l64, q_l73, q_l118, q_l119, q_l120, q_l122, q_l126, q_l160, q_l256, q_l365, q_l372, q_l438, q_l1000, q_l100000, q_l1000000, wk, wS, c0]
        simp only [b_207_208, b_207_214, b_207_244, ↓reduceIte, Nat.reduceEqDiff, Nat.reduceMul, q_n10, q_n01, Option.bind_some, g_aft0, g_aft1, g_aft2, g_aft3, g_aft9, Nat.reduceAdd, m_kill_0, m_kill_2, m_kill_3, m_kill_4, m_kill_9, true_or, or_true, q_lm1, q_l0, q_l1, q_l2, q_l3, q_l4, q_l5, q_l6, q_l8, q_l9, q_l10, q_l12, q_l17, q_l32, q_l35, q_l48, q_l50, q_l54, q_l57, q_l64, q_l73, q_l118, q_l119, q_l120, q_l122, q_l126, q_l160, q_l256, q_l365, q_l372, q_l438, q_l1000, q_l100000, q_l1000000, q_modF hL.2.2.2.2.2.2.1, o1, w12, wg, d]
      · rw [q_cat_s, ecs, List.append_nil]
        exact x1) (w_ns N) 0 y.1 (by clear wl; omega) ⟨by show z_xl y.1 (_ ++ []); rw [List.append_nil]; exact y2, y3⟩
  refine ⟨v, ?_, v2, v3⟩
  have hm := z_many (Z := Z) (e := e) (s := s) hL (z_sur9 h y3).1
  have hms := z_smany (Z := Z) (e := e) (s := s) hL (z_sur9 h v3).1
  have wn : w32 (w_nn N : Int) = (w_nn N : Int) := q_w (by clear wl; omega)
  have ws : w32 (w_ns N : Int) = (w_ns N : Int) := q_w (by clear wl wn; omega)
  rw [n0.1] at hm
  rw [s0.1] at hms
  simp only [e_207, b_207_0, b_207_12, b_207_20, b_207_25, ↓reduceIte, Nat.reduceEqDiff, Nat.reduceMul, q_n10, q_n01, Option.bind_some, g_aft0, g_aft1, g_aft2, g_aft3, g_aft9, Nat.reduceAdd, m_kill_0, m_kill_2, m_kill_3, m_kill_4, m_kill_9, true_or, or_true, q_lm1, q_l0, q_l1, q_l2, q_l3, q_l4, q_l5, q_l6, q_l8, q_l9, q_l10, q_l12, q_l17, q_l32, q_l35, q_l48, q_l50, q_l54, q_l57, q_l64, q_l73, q_l118, q_l119, q_l120, q_l122, q_l126, q_l160, q_l256, q_l365, q_l372, q_l438, q_l1000, q_l100000, q_l1000000, q_modF hL.2.2.2.2.2.2.1, r1, ho, wl, u1]
  refine Eq.trans y1 ?_
  conv => lhs; simp only [b_207_27, ↓reduceIte, Nat.reduceEqDiff, Nat.reduceMul, q_n10, q_n01, Option.bind_some, g_aft0, g_aft1, g_aft2, g_aft3, g_aft9, Nat.reduceAdd, m_kill_0, m_kill_2, m_kill_3, m_kill_4, m_kill_9, true_or, or_true, q_lm1, q_l0, q_l1, q_l2, q_l3, q_l4, q_l5, q_l6, q_l8, q_l9, q_l10, q_l12, q_l17, q_l32, q_l35, q_l48, q_l50, q_l54, q_l57, q_l64, q_l73, q_l118, q_l119, q_l120, q_l122, q_l126, q_l160, q_l256, q_l365, q_l372, q_l438, q_l1000, q_l100000, q_l1000000, q_modF hL.2.2.2.2.2.2.1, hm]
  conv => lhs; simp only [b_207_32, b_207_198, ↓reduceIte, Nat.reduceEqDiff, Nat.reduceMul, q_n10, q_n01, Option.bind_some, g_aft0, g_aft1, g_aft2, g_aft3, g_aft9, Nat.reduceAdd, m_kill_0, m_kill_2, m_kill_3, m_kill_4, m_kill_9, true_or, or_true, q_lm1, q_l0, q_l1, q_l2, q_l3, q_l4, q_l5, q_l6, q_l8, q_l9, q_l10, q_l12, q_l17, q_l32, q_l35, q_l48, q_l50, q_l54, q_l57, q_l64, q_l73, q_l118, q_l119, q_l120, q_l122, q_l126, q_l160, q_l256, q_l365, q_l372, q_l438, q_l1000, q_l100000, q_l1000000, wn, Int.le_refl]
  refine Eq.trans v1 ?_
  conv => lhs; simp only [b_207_200, ↓reduceIte, Nat.reduceEqDiff, Nat.reduceMul, q_n10, q_n01, Option.bind_some, g_aft0, g_aft1, g_aft2, g_aft3, g_aft9, Nat.reduceAdd, m_kill_0, m_kill_2, m_kill_3, m_kill_4, m_kill_9, true_or, or_true, q_lm1, q_l0, q_l1, q_l2, q_l3, q_l4, q_l5, q_l6, q_l8, q_l9, q_l10, q_l12, q_l17, q_l32, q_l35, q_l48, q_l50, q_l54, q_l57, q_l64, q_l73, q_l118, q_l119, q_l120, q_l122, q_l126, q_l160, q_l256, q_l365, q_l372, q_l438, q_l1000, q_l100000, q_l1000000, q_modF hL.2.2.2.2.2.2.1, hms]
  simp only [b_207_205, b_207_250, ↓reduceIte, Nat.reduceEqDiff, Nat.reduceMul, q_n10, q_n01, Option.bind_some, g_aft0, g_aft1, g_aft2, g_aft3, g_aft9, Nat.reduceAdd, m_kill_0, m_kill_2, m_kill_3, m_kill_4, m_kill_9, true_or, or_true, q_lm1, q_l0, q_l1, q_l2, q_l3, q_l4, q_l5, q_l6, q_l8, q_l9, q_l10, q_l12, q_l17, q_l32, q_l35, q_l48, q_l50, q_l54, q_l57, q_l64, q_l73, q_l118, q_l119, q_l120, q_l122, q_l126, q_l160, q_l256, q_l365, q_l372, q_l438, q_l1000, q_l100000, q_l1000000, ws, Int.le_refl]
end
end
