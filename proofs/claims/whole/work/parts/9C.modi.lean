section
/-! The model: centers, medians. -/
section
variable {Z : mZ} {K : Nat → mK} {σ τ N M : Nat → Nat → Int} {e g i L n c k s a b : Nat} {t p q v x y z w u S : Int} {X : Nat → Int} {h : mH} {R : Nat → Nat → Nat → Int} {T : Nat → Int}
theorem z_val (hw : q_wf N) (hc : w_cn N) (hg : g < w_ne N) (hp : w_pq N t g p q) : w_pb (g : Int) p q (w_Hv N t S (g, p, q)) ∧ w_pb (g : Int) p q (w_Cv N t (g, p, q)) := by
  have hH := w_Hb hw hc hg hp (S := S) (w_nn N) (Nat.le_refl _)
  have hC := w_Cb hw hc hg hp (w_nn N) (Nat.le_refl _)
  have n8 := (wf_n hw).2.2
  have n12 := (wf_e hw).2
  obtain ⟨h1, h2, h3, h4⟩ := z_pqb hw hg hp
  have e1 : w_Hv N t S (g, p, q) = w_H N t S g p q (w_nn N) := rfl
  have e2 : w_Cv N t (g, p, q) = w_C N t g p q (w_nn N) := rfl
  have hq := hp.1
  rw [e1, e2]
  exact ⟨⟨by omega, by omega, h1, h2, hq, h4, hH.1, by omega⟩, ⟨by omega, by omega, h1, h2, hq, h4, hC.1, by omega⟩⟩
theorem z_pe_ok (hw : q_wf N) (hc : w_cn N) (hg : g < w_ne N) (ht : 0 ≤ t) (ht2 : t ≤ 10) {y : wP} (hy : y ∈ z_pe N t S g) : y.1 = g ∧ w_pq N t y.1 y.2.1 y.2.2 := by
  obtain ⟨h1, h2, -⟩ := z_pe_mem.mp hy
  rw [h1]
  exact ⟨rfl, z_xs_ok hw hc hg ht ht2 h2⟩
theorem z_psg_ok (hw : q_wf N) (hc : w_cn N) (hg : g ≤ w_ne N) (ht : 0 ≤ t) (ht2 : t ≤ 10) {y : wP} (hy : y ∈ q_cat (z_pe N t S) g) : y.1 < g ∧ w_pb (y.1 : Int) y.2.1 y.2.2 (w_Hv N t u y) ∧ w_pb (y.1 : Int) y.2.1 y.2.2 (w_Cv N t y) := by
  obtain ⟨g', hg', h⟩ := q_cat_mem.mp hy
  obtain ⟨h1, h2⟩ := z_pe_ok hw hc (Nat.lt_of_lt_of_le hg' hg) ht ht2 h
  have := z_val hw hc (g := y.1) (by omega) h2 (S := u)
  exact ⟨by omega, this⟩
theorem z_pk_ok (hw : q_wf N) (hc : w_cn N) (hg : g < w_ne N) (ht : 0 ≤ t) (ht2 : t ≤ 10) (hk : k ≤ (z_xs N t S g).length) {y : wP} (hy : y ∈ q_cat (z_pe N t S) g ++ q_cat (fun k => w_ap N g ((z_xs N t S g).getD k (0, 0)).1 ((z_xs N t S g).getD k (0, 0)).2) k) : y.1 ≤ g ∧ w_pb (y.1 : Int) y.2.1 y.2.2 (w_Hv N t u y) ∧ w_pb (y.1 : Int) y.2.1 y.2.2 (w_Cv N t y) := by
  rcases List.mem_append.mp hy with hy | hy
  · have := z_psg_ok hw hc (Nat.le_of_lt hg) ht ht2 hy (u := u)
    exact ⟨by omega, this.2⟩
  · obtain ⟨i, hi, h⟩ := q_cat_mem.mp hy
    have h' : y ∈ z_pe N t S g := q_cat_mem.mpr ⟨i, by omega, h⟩
    obtain ⟨h1, h2⟩ := z_pe_ok hw hc hg ht ht2 h'
    have := z_val hw hc (g := y.1) (by omega) h2 (S := u)
    exact ⟨by omega, this⟩
/-- one edge of centers -/
theorem z_cedge (hL : q_lay K) (h : z_sur σ N t) (ht : 0 ≤ t) (ht2 : t ≤ 10) (hg : g < w_ne N) (hB : z_bs σ (w_Hv N t S) (q_cat (z_pe N t S) g)) (hx : z_xl σ (z_xs N t S g)) : ∃ τ, m_run Z (209, 23, [(2, ((191 : Nat) : Int)), (0, S), (0, (g : Int)), (0, ((0 : Nat) : Int))], [], (K, σ, 206, e, s)) = m_run Z (209, 92, [(2, ((191 : Nat) : Int)), (0, S), (0, (g : Int)), (0, ((z_xs N t S g).length : Int))], [], (K, τ, 206, e, s)) ∧ z_bs τ (w_Hv N t S) (q_cat (z_pe N t S) (g + 1)) ∧ z_fb σ τ := by
  have hw := h.1.1
  have hc := h.2.2.2
  have hlen := z_xs_len hw (t := t) (S := S) (g := g)
  obtain ⟨y, y1, y2, y3, y4⟩ := q_loop (Z := Z) (N := (z_xs N t S g).length) (S := fun k (x : Nat → Nat → Int) => (209, 23, [(2, ((191 : Nat) : Int)), (0, S), (0, (g : Int)), (0, (k : Int))], [], (K, x, 206, e, s))) (P := fun k x => z_bs x (w_Hv N t S) (q_cat (z_pe N t S) g ++ q_cat (fun k => w_ap N g ((z_xs N t S g).getD k (0, 0)).1 ((z_xs N t S g).getD k (0, 0)).2) k) ∧ z_xl x (z_xs N t S g) ∧ z_fb σ x) (by
    rintro k τ hk ⟨x1, x2, x3⟩
    have hs := z_surB h x3
    have wk : w32 (k : Int) = (k : Int) := q_w (by omega)
    have h9 : w32 (τ 191 9) = ((z_xs N t S g).length : Int) := by rw [x2.1, q_w (by clear wk; omega)]
    have c0 : ¬ ((z_xs N t S g).length : Int) ≤ (k : Int) := by clear wk h9; omega
    have p0 : 0 ≤ (k : Int) := by clear wk h9; omega
    have p1 : (k : Int) < ((160 : Nat) : Int) := by clear wk h9; omega
    have tn : ((k : Int)).toNat = k := rfl
    obtain ⟨r1, r2⟩ := x2.2 k hk
    have hmem := getD_mem (d := ((0, 0) : Int × Int)) hk
    have hpq := z_xs_ok hw hc hg ht ht2 hmem
    have hO := fun y => z_pk_ok hw hc hg ht ht2 (Nat.le_of_lt hk) (S := S) (u := S) (y := y)
    rw [q_cat_s, ← List.append_assoc]
    generalize (z_xs N t S g).getD k (0, 0) = xk at *
    obtain ⟨b1, b2, b3, b4⟩ := z_pqb hw hg hpq
    have hm := z_mayLie (Z := Z) (e := e) (s := s) hL hs.1 hg b1 b2 b3 b4
    have hh := z_height (Z := Z) (e := e) (s := s) (S := S) hL hs ht ht2 hg hpq
    have ek : ((k + 1 : Nat) : Int) = (k : Int) + 1 := rfl
    by_cases d : w_al N g xk.1 xk.2 = true
    · rw [if_pos d] at hm
      obtain ⟨ω, o1, o2, o3⟩ := z_tries (Z := Z) (e := e) (s := s) (g := g) (p := xk.1) (q := xk.2) (v := w_H N t S g xk.1 xk.2 (w_nn N)) hL x1 (fun y hy => ⟨(hO y hy).1, (hO y hy).2.1⟩) (z_val hw hc hg hpq).1 rfl
      have eap : w_ap N g xk.1 xk.2 = [(g, xk.1, xk.2)] := by unfold w_ap; rw [if_pos d]
      refine ⟨ω, ?_, by rw [eap]; exact o2, z_xlf x2 o3, z_fb_t x3 (z_fb_f o3)⟩
      rw [ek]
      conv => lhs; simp only [b_209_23, ↓reduceIte, Nat.reduceEqDiff, Nat.reduceMul, q_n10, q_n01, Option.bind_some, g_aft0, g_aft1, g_aft2, g_aft3, g_aft9, Nat.reduceAdd, m_kill_0, m_kill_2, m_kill_3, m_kill_4, m_kill_9, true_or, or_true, q_lm1, q_l0, q_l1, q_l2, q_l3, q_l4, q_l5, q_l6, q_l8, q_l9, q_l10, q_l12, q_l17, q_l32, q_l35, q_l48, q_l50, q_l54, q_l57, q_l64, q_l73, q_l118, q_l119, q_l120, q_l122, q_l126, q_l160, q_l256, q_l365, q_l372, q_l438, q_l1000, q_l100000, q_l1000000, q_modF hL.2.2.2.2.2.2.1, h9, wk, c0]
      simp only [b_209_31, b_209_48, b_209_51, b_209_83, b_209_86, ↓reduceIte, Nat.reduceEqDiff, Nat.reduceMul, q_n10, q_n01, Option.bind_some, g_aft0, g_aft1, g_aft2, g_aft3, g_aft9, Nat.reduceAdd, m_kill_0, m_kill_2, m_kill_3, m_kill_4, m_kill_9, true_or, or_true, q_lm1, q_l0, q_l1, q_l2, q_l3, q_l4, q_l5, q_l6, q_l8, q_l9, q_l10, q_l12, q_l17, q_l32, q_l35, q_l48, q_l50, q_l54, q_l57, q_l64, q_l73, q_l118, q_l119, q_l120, q_l122, q_l126, q_l160, q_l256, q_l365, q_l372, q_l438, q_l1000, q_l100000, q_l1000000, q_modF hL.2.2.2.2.2.2.1, wk, p0, p1, tn, r1, r2, hm, hh, o1]
    · rw [if_neg d] at hm
      have eap : w_ap N g xk.1 xk.2 = [] := by unfold w_ap; rw [if_neg d]
      refine ⟨τ, ?_, by rw [eap, List.append_nil]; exact x1, x2, x3⟩
      rw [ek]
      conv => lhs; simp only [b_209_23, ↓reduceIte, Nat.reduceEqDiff, Nat.reduceMul, q_n10, q_n01, Option.bind_some, g_aft0, g_aft1, g_aft2, g_aft3, g_aft9, Nat.reduceAdd, m_kill_0, m_kill_2, m_kill_3, m_kill_4, m_kill_9, true_or, or_true, q_lm1, q_l0, q_l1, q_l2, q_l3, q_l4, q_l5, q_l6, q_l8, q_l9, q_l10, q_l12, q_l17, q_l32, q_l35, q_l48, q_l50, q_l54, q_l57, q_l64, q_l73, q_l118, q_l119, q_l120, q_l122, q_l126, q_l160, q_l256, q_l365, q_l372, q_l438, q_l1000, q_l100000, q_l1000000, q_modF hL.2.2.2.2.2.2.1, h9, wk, c0]
      simp only [b_209_31, b_209_48, b_209_86, ↓reduceIte, Nat.reduceEqDiff, Nat.reduceMul, q_n10, q_n01, Option.bind_some, g_aft0, g_aft1, g_aft2, g_aft3, g_aft9, Nat.reduceAdd, m_kill_0, m_kill_2, m_kill_3, m_kill_4, m_kill_9, true_or, or_true, q_lm1, q_l0, q_l1, q_l2, q_l3, q_l4, q_l5, q_l6, q_l8, q_l9, q_l10, q_l12, q_l17, q_l32, q_l35, q_l48, q_l50, q_l54, q_l57, q_l64, q_l73, q_l118, q_l119, q_l120, q_l122, q_l126, q_l160, q_l256, q_l365, q_l372, q_l438, q_l1000, q_l100000, q_l1000000, q_modF hL.2.2.2.2.2.2.1, wk, p0, p1, tn, r1, r2, hm]) (z_xs N t S g).length 0 σ (by omega) ⟨by show z_bs σ _ (_ ++ []); rw [List.append_nil]; exact hB, hx, z_fb_r⟩
  refine ⟨y, ?_, by rw [q_cat_s]; exact y2, y4⟩
  refine Eq.trans y1 ?_
  have h9 : w32 (y 191 9) = ((z_xs N t S g).length : Int) := by rw [y3.1, q_w (by omega)]
  have wk : w32 ((z_xs N t S g).length : Int) = ((z_xs N t S g).length : Int) := q_w (by clear h9; omega)
  conv => lhs; simp only [b_209_23, ↓reduceIte, Nat.reduceEqDiff, Nat.reduceMul, q_n10, q_n01, Option.bind_some, g_aft0, g_aft1, g_aft2, g_aft3, g_aft9, Nat.reduceAdd, m_kill_0, m_kill_2, m_kill_3, m_kill_4, m_kill_9, true_or, or_true, q_lm1, q_l0, q_l1, q_l2, q_l3, q_l4, q_l5, q_l6, q_l8, q_l9, q_l10, q_l12, q_l17, q_l32, q_l35, q_l48, q_l50, q_l54, q_l57, q_l64, q_l73, q_l118, q_l119, q_l120, q_l122, q_l126, q_l160, q_l256, q_l365, q_l372, q_l438, q_l1000, q_l100000, q_l1000000, q_modF hL.2.2.2.2.2.2.1, h9, wk, Int.le_refl]
theorem z_centers (hL : q_lay K) (h : z_sur σ N t) (ht : 0 ≤ t) (ht2 : t ≤ 10) : ∃ τ, m_cl Z 209 [(2, ((191 : Nat) : Int)), (0, S)] (K, σ, 206, e, s) = some (.inl (9, 0), (K, τ, 206, e, s)) ∧ z_bs τ (w_Hv N t S) (z_ps N t S) ∧ z_fb σ τ := by
  have hw := h.1.1
  have e0 := wf_e hw
  have f0 : z_fb σ (m_up2 σ 191 12 (-1)) := ⟨fun a h1 _ _ => m_up2_ne h1, fun j hj => m_up2_nk (by omega)⟩
  obtain ⟨y, y1, y2, y3⟩ := q_loop (Z := Z) (N := w_ne N) (S := fun g (x : (Nat → Nat → Int) × mV) => (209, 7, [(2, ((191 : Nat) : Int)), (0, S), (0, (g : Int)), x.2], [], (K, x.1, 206, e, s))) (P := fun g x => z_bs x.1 (w_Hv N t S) (q_cat (z_pe N t S) g) ∧ z_fb σ x.1) (by
    rintro g ⟨τ, l3⟩ hg ⟨x1, x2⟩
    have hs := z_surB h x2
    have hm := z_emany (Z := Z) (e := e) (s := s) hL hs.1
    have wg : w32 (g : Int) = (g : Int) := q_w (by omega)
    have wE : w32 (N 0 1) = N 0 1 := by clear wg; exact q_wi (by omega) (by omega)
    have c0 : ¬ N 0 1 ≤ (g : Int) := by clear wg wE; omega
    obtain ⟨ω, o1, o2, o3⟩ := z_laysX (Z := Z) (S := S) (e := e) (s := s) hL hs ht ht2 hg
    have x2' := z_fb_t x2 (z_fb_9 o3)
    obtain ⟨ρ, r1, r2, r3⟩ := z_cedge (Z := Z) (S := S) (e := e) (s := s) hL (z_surB h x2') ht ht2 hg (z_bs9 x1 o3) o2
    have eg : ((g + 1 : Nat) : Int) = (g : Int) + 1 := rfl
    refine ⟨(ρ, (0, ((z_xs N t S g).length : Int))), ?_, r2, z_fb_t x2' r3⟩
    show m_run Z (209, 7, [(2, ((191 : Nat) : Int)), (0, S), (0, (g : Int)), l3], [], (K, τ, 206, e, s)) = m_run Z (209, 7, [(2, ((191 : Nat) : Int)), (0, S), (0, ((g + 1 : Nat) : Int)), (0, ((z_xs N t S g).length : Int))], [], (K, ρ, 206, e, s))
    rw [eg]
    conv => lhs; simp only [b_209_7, ↓reduceIte, Nat.reduceEqDiff, Nat.reduceMul, q_n10, q_n01, Option.bind_some, g_aft0, g_aft1, g_aft2, g_aft3, g_aft9, Nat.reduceAdd, m_kill_0, m_kill_2, m_kill_3, m_kill_4, m_kill_9, true_or, or_true, q_lm1, q_l0, q_l1, q_l2, q_l3, q_l4, q_l5, q_l6, q_l8, q_l9, q_l10, q_l12, q_l17, q_l32, q_l35, q_l48, q_l50, q_l54, q_l57, q_l64, q_l73, q_l118, q_l119, q_l120, q_l122, q_l126, q_l160, q_l256, q_l365, q_l372, q_l438, q_l1000, q_l100000, q_l1000000, q_modF hL.2.2.2.2.2.2.1, hm]
    conv => lhs; simp only [b_209_12, b_209_15, b_209_21, ↓reduceIte, Nat.reduceEqDiff, Nat.reduceMul, q_n10, q_n01, Option.bind_some, g_aft0, g_aft1, g_aft2, g_aft3, g_aft9, Nat.reduceAdd, m_kill_0, m_kill_2, m_kill_3, m_kill_4, m_kill_9, true_or, or_true, q_lm1, q_l0, q_l1, q_l2, q_l3, q_l4, q_l5, q_l6, q_l8, q_l9, q_l10, q_l12, q_l17, q_l32, q_l35, q_l48, q_l50, q_l54, q_l57, q_l64, q_l73, q_l118, q_l119, q_l120, q_l122, q_l126, q_l160, q_l256, q_l365, q_l372, q_l438, q_l1000, q_l100000, q_l1000000, q_modF hL.2.2.2.2.2.2.1, wg, wE, c0, o1]
    refine Eq.trans r1 ?_
    simp only [b_209_92]) (w_ne N) 0 (m_up2 σ 191 12 (-1), (9, 0)) (by omega) ⟨Or.inl ⟨rfl, by show m_up2 σ 191 12 (-1) 191 12 = -1; exact m_up2_at⟩, f0⟩
  refine ⟨y.1, ?_, y2, y3⟩
  have hm := z_emany (Z := Z) (e := e) (s := s) hL (z_surB h y3).1
  rw [e0.1] at hm
  have wE : w32 (w_ne N : Int) = (w_ne N : Int) := q_w (by omega)
  simp only [e_209, b_209_0, ↓reduceIte, Nat.reduceEqDiff, Nat.reduceMul, q_n10, q_n01, Option.bind_some, g_aft0, g_aft1, g_aft2, g_aft3, g_aft9, Nat.reduceAdd, m_kill_0, m_kill_2, m_kill_3, m_kill_4, m_kill_9, true_or, or_true, q_lm1, q_l0, q_l1, q_l2, q_l3, q_l4, q_l5, q_l6, q_l8, q_l9, q_l10, q_l12, q_l17, q_l32, q_l35, q_l48, q_l50, q_l54, q_l57, q_l64, q_l73, q_l118, q_l119, q_l120, q_l122, q_l126, q_l160, q_l256, q_l365, q_l372, q_l438, q_l1000, q_l100000, q_l1000000, q_modF hL.2.2.2.2.2.2.1]
  refine Eq.trans y1 ?_
  conv => lhs; simp only [b_209_7, ↓reduceIte, Nat.reduceEqDiff, Nat.reduceMul, q_n10, q_n01, Option.bind_some, g_aft0, g_aft1, g_aft2, g_aft3, g_aft9, Nat.reduceAdd, m_kill_0, m_kill_2, m_kill_3, m_kill_4, m_kill_9, true_or, or_true, q_lm1, q_l0, q_l1, q_l2, q_l3, q_l4, q_l5, q_l6, q_l8, q_l9, q_l10, q_l12, q_l17, q_l32, q_l35, q_l48, q_l50, q_l54, q_l57, q_l64, q_l73, q_l118, q_l119, q_l120, q_l122, q_l126, q_l160, q_l256, q_l365, q_l372, q_l438, q_l1000, q_l100000, q_l1000000, q_modF hL.2.2.2.2.2.2.1, hm]
  simp only [b_209_12, b_209_98, ↓reduceIte, Nat.reduceEqDiff, Nat.reduceMul, q_n10, q_n01, Option.bind_some, g_aft0, g_aft1, g_aft2, g_aft3, g_aft9, Nat.reduceAdd, m_kill_0, m_kill_2, m_kill_3, m_kill_4, m_kill_9, true_or, or_true, q_lm1, q_l0, q_l1, q_l2, q_l3, q_l4, q_l5, q_l6, q_l8, q_l9, q_l10, q_l12, q_l17, q_l32, q_l35, q_l48, q_l50, q_l54, q_l57, q_l64, q_l73, q_l118, q_l119, q_l120, q_l122, q_l126, q_l160, q_l256, q_l365, q_l372, q_l438, q_l1000, q_l100000, q_l1000000, wE, Int.le_refl]
/-- one edge of medians -/
theorem z_medge (hL : q_lay K) (h : z_sur σ N t) (ht : 0 ≤ t) (ht2 : t ≤ 10) (hg : g < w_ne N) (hB : z_bs σ (w_Cv N t) (q_cat (z_pe N t S) g)) (hx : z_xl σ (z_xs N t S g)) : ∃ τ, m_run Z (223, 30, [(2, ((191 : Nat) : Int)), (0, (g : Int)), (0, ((0 : Nat) : Int))], [], (K, σ, 206, e, s)) = m_run Z (223, 98, [(2, ((191 : Nat) : Int)), (0, (g : Int)), (0, ((z_xs N t S g).length : Int))], [], (K, τ, 206, e, s)) ∧ z_bs τ (w_Cv N t) (q_cat (z_pe N t S) (g + 1)) ∧ z_fb σ τ := by
  have hw := h.1.1
  have hc := h.2.2.2
  have hlen := z_xs_len hw (t := t) (S := S) (g := g)
  obtain ⟨y, y1, y2, y3, y4⟩ := q_loop (Z := Z) (N := (z_xs N t S g).length) (S := fun k (x : Nat → Nat → Int) => (223, 30, [(2, ((191 : Nat) : Int)), (0, (g : Int)), (0, (k : Int))], [], (K, x, 206, e, s))) (P := fun k x => z_bs x (w_Cv N t) (q_cat (z_pe N t S) g ++ q_cat (fun k => w_ap N g ((z_xs N t S g).getD k (0, 0)).1 ((z_xs N t S g).getD k (0, 0)).2) k) ∧ z_xl x (z_xs N t S g) ∧ z_fb σ x) (by
    rintro k τ hk ⟨x1, x2, x3⟩
    have hs := z_surB h x3
    have wk : w32 (k : Int) = (k : Int) := q_w (by omega)
    have h9 : w32 (τ 191 9) = ((z_xs N t S g).length : Int) := by rw [x2.1, q_w (by clear wk; omega)]
    have c0 : ¬ ((z_xs N t S g).length : Int) ≤ (k : Int) := by clear wk h9; omega
    have p0 : 0 ≤ (k : Int) := by clear wk h9; omega
    have p1 : (k : Int) < ((160 : Nat) : Int) := by clear wk h9; omega
    have tn : ((k : Int)).toNat = k := rfl
    obtain ⟨r1, r2⟩ := x2.2 k hk
    have hmem := getD_mem (d := ((0, 0) : Int × Int)) hk
    have hpq := z_xs_ok hw hc hg ht ht2 hmem
    have hO := fun y => z_pk_ok hw hc hg ht ht2 (Nat.le_of_lt hk) (S := S) (u := S) (y := y)
    rw [q_cat_s, ← List.append_assoc]
    generalize (z_xs N t S g).getD k (0, 0) = xk at *
    obtain ⟨b1, b2, b3, b4⟩ := z_pqb hw hg hpq
    have hm := z_mayLie (Z := Z) (e := e) (s := s) hL hs.1 hg b1 b2 b3 b4
    have hh := z_cost (Z := Z) (e := e) (s := s) hL hs ht ht2 hg hpq
    have ek : ((k + 1 : Nat) : Int) = (k : Int) + 1 := rfl
    by_cases d : w_al N g xk.1 xk.2 = true
    · rw [if_pos d] at hm
      obtain ⟨ω, o1, o2, o3⟩ := z_tries (Z := Z) (e := e) (s := s) (g := g) (p := xk.1) (q := xk.2) (v := w_C N t g xk.1 xk.2 (w_nn N)) hL x1 (fun y hy => ⟨(hO y hy).1, (hO y hy).2.2⟩) (z_val hw hc hg hpq (S := S)).2 rfl
      have eap : w_ap N g xk.1 xk.2 = [(g, xk.1, xk.2)] := by unfold w_ap; rw [if_pos d]
      refine ⟨ω, ?_, by rw [eap]; exact o2, z_xlf x2 o3, z_fb_t x3 (z_fb_f o3)⟩
      rw [ek]
      conv => lhs; simp only [b_223_30, ↓reduceIte, Nat.reduceEqDiff, Nat.reduceMul, q_n10, q_n01, Option.bind_some, g_aft0, g_aft1, g_aft2, g_aft3, g_aft9, Nat.reduceAdd, m_kill_0, m_kill_2, m_kill_3, m_kill_4, m_kill_9, true_or, or_true, q_lm1, q_l0, q_l1, q_l2, q_l3, q_l4, q_l5, q_l6, q_l8, q_l9, q_l10, q_l12, q_l17, q_l32, q_l35, q_l48, q_l50, q_l54, q_l57, q_l64, q_l73, q_l118, q_l119, q_l120, q_l122, q_l126, q_l160, q_l256, q_l365, q_l372, q_l438, q_l1000, q_l100000, q_l1000000, q_modF hL.2.2.2.2.2.2.1, h9, wk, c0]
      simp only [b_223_38, b_223_55, b_223_58, b_223_89, b_223_92, ↓reduceIte, Nat.reduceEqDiff, Nat.reduceMul, q_n10, q_n01, Option.bind_some, g_aft0, g_aft1, g_aft2, g_aft3, g_aft9, Nat.reduceAdd, m_kill_0, m_kill_2, m_kill_3, m_kill_4, m_kill_9, true_or, or_true, q_lm1, q_l0, q_l1, q_l2, q_l3, q_l4, q_l5, q_l6, q_l8, q_l9, q_l10, q_l12, q_l17, q_l32, q_l35, q_l48, q_l50, q_l54, q_l57, q_l64, q_l73, q_l118, q_l119, q_l120, q_l122, q_l126, q_l160, q_l256, q_l365, q_l372, q_l438, q_l1000, q_l100000, q_l1000000, q_modF hL.2.2.2.2.2.2.1, wk, p0, p1, tn, r1, r2, hm, hh, o1]
    · rw [if_neg d] at hm
      have eap : w_ap N g xk.1 xk.2 = [] := by unfold w_ap; rw [if_neg d]
      refine ⟨τ, ?_, by rw [eap, List.append_nil]; exact x1, x2, x3⟩
      rw [ek]
      conv => lhs; simp only [b_223_30, ↓reduceIte, Nat.reduceEqDiff, Nat.reduceMul, q_n10, q_n01, Option.bind_some, g_aft0, g_aft1, g_aft2, g_aft3, g_aft9, Nat.reduceAdd, m_kill_0, m_kill_2, m_kill_3, m_kill_4, m_kill_9, true_or, or_true, q_lm1, q_l0, q_l1, q_l2, q_l3, q_l4, q_l5, q_l6, q_l8, q_l9, q_l10, q_l12, q_l17, q_l32, q_l35, q_l48, q_l50, q_l54, q_l57, q_l64, q_l73, q_l118, q_l119, q_l120, q_l122, q_l126, q_l160, q_l256, q_l365, q_l372, q_l438, q_l1000, q_l100000, q_l1000000, q_modF hL.2.2.2.2.2.2.1, h9, wk, c0]
      simp only [b_223_38, b_223_55, b_223_92, ↓reduceIte, Nat.reduceEqDiff, Nat.reduceMul, q_n10, q_n01, Option.bind_some, g_aft0, g_aft1, g_aft2, g_aft3, g_aft9, Nat.reduceAdd, m_kill_0, m_kill_2, m_kill_3, m_kill_4, m_kill_9, true_or, or_true, q_lm1, q_l0, q_l1, q_l2, q_l3, q_l4, q_l5, q_l6, q_l8, q_l9, q_l10, q_l12, q_l17, q_l32, q_l35, q_l48, q_l50, q_l54, q_l57, q_l64, q_l73, q_l118, q_l119, q_l120, q_l122, q_l126, q_l160, q_l256, q_l365, q_l372, q_l438, q_l1000, q_l100000, q_l1000000, q_modF hL.2.2.2.2.2.2.1, wk, p0, p1, tn, r1, r2, hm]) (z_xs N t S g).length 0 σ (by omega) ⟨by show z_bs σ _ (_ ++ []); rw [List.append_nil]; exact hB, hx, z_fb_r⟩
  refine ⟨y, ?_, by rw [q_cat_s]; exact y2, y4⟩
  refine Eq.trans y1 ?_
  have h9 : w32 (y 191 9) = ((z_xs N t S g).length : Int) := by rw [y3.1, q_w (by omega)]
  have wk : w32 ((z_xs N t S g).length : Int) = ((z_xs N t S g).length : Int) := q_w (by clear h9; omega)
  conv => lhs; simp only [b_223_30, ↓reduceIte, Nat.reduceEqDiff, Nat.reduceMul, q_n10, q_n01, Option.bind_some, g_aft0, g_aft1, g_aft2, g_aft3, g_aft9, Nat.reduceAdd, m_kill_0, m_kill_2, m_kill_3, m_kill_4, m_kill_9, true_or, or_true, q_lm1, q_l0, q_l1, q_l2, q_l3, q_l4, q_l5, q_l6, q_l8, q_l9, q_l10, q_l12, q_l17, q_l32, q_l35, q_l48, q_l50, q_l54, q_l57, q_l64, q_l73, q_l118, q_l119, q_l120, q_l122, q_l126, q_l160, q_l256, q_l365, q_l372, q_l438, q_l1000, q_l100000, q_l1000000, q_modF hL.2.2.2.2.2.2.1, h9, wk, Int.le_refl]
theorem z_medians (hL : q_lay K) (h : z_sur σ N t) (ht : 0 ≤ t) (ht2 : t ≤ 10) : ∃ τ, m_cl Z 223 [(2, ((191 : Nat) : Int))] (K, σ, 206, e, s) = some (.inl (9, 0), (K, τ, 206, e, s)) ∧ z_bs τ (w_Cv N t) (z_ps N t ((2 ^ w_nn N - 1 : Nat) : Int)) ∧ z_fb σ τ := by
  have hw := h.1.1
  have e0 := wf_e hw
  have n0 := wf_n hw
  have hall := w_all1 n0.2.2
  generalize ((2 ^ w_nn N - 1 : Nat) : Int) = S at *
  have f0 : z_fb σ (m_up2 σ 191 12 (-1)) := ⟨fun a h1 _ _ => m_up2_ne h1, fun j hj => m_up2_nk (by omega)⟩
  obtain ⟨y, y1, y2, y3⟩ := q_loop (Z := Z) (N := w_ne N) (S := fun g (x : (Nat → Nat → Int) × mV) => (223, 7, [(2, ((191 : Nat) : Int)), (0, (g : Int)), x.2], [], (K, x.1, 206, e, s))) (P := fun g x => z_bs x.1 (w_Cv N t) (q_cat (z_pe N t S) g) ∧ z_fb σ x.1) (by
    rintro g ⟨τ, l3⟩ hg ⟨x1, x2⟩
    have hs := z_surB h x2
    have hm := z_emany (Z := Z) (e := e) (s := s) hL hs.1
    have hmn := z_many (Z := Z) (e := e) (s := s) hL hs.1
    rw [n0.1] at hmn
    have wg : w32 (g : Int) = (g : Int) := q_w (by clear hall; omega)
    have wE : w32 (N 0 1) = N 0 1 := by clear wg hall; exact q_wi (by omega) (by omega)
    have c0 : ¬ N 0 1 ≤ (g : Int) := by clear wg wE hall; omega
    obtain ⟨ω, o1, o2, o3⟩ := z_laysX (Z := Z) (S := S) (e := e) (s := s) hL hs ht ht2 hg
    have x2' := z_fb_t x2 (z_fb_9 o3)
    obtain ⟨ρ, r1, r2, r3⟩ := z_medge (Z := Z) (S := S) (e := e) (s := s) hL (z_surB h x2') ht ht2 hg (z_bs9 x1 o3) o2
    have eg : ((g + 1 : Nat) : Int) = (g : Int) + 1 := rfl
    refine ⟨(ρ, (0, ((z_xs N t S g).length : Int))), ?_, r2, z_fb_t x2' r3⟩
    show m_run Z (223, 7, [(2, ((191 : Nat) : Int)), (0, (g : Int)), l3], [], (K, τ, 206, e, s)) = m_run Z (223, 7, [(2, ((191 : Nat) : Int)), (0, ((g + 1 : Nat) : Int)), (0, ((z_xs N t S g).length : Int))], [], (K, ρ, 206, e, s))
    rw [eg]
    conv => lhs; simp only [b_223_7, ↓reduceIte, Nat.reduceEqDiff, Nat.reduceMul, q_n10, q_n01, Option.bind_some, g_aft0, g_aft1, g_aft2, g_aft3, g_aft9, Nat.reduceAdd, m_kill_0, m_kill_2, m_kill_3, m_kill_4, m_kill_9, true_or, or_true, q_lm1, q_l0, q_l1, q_l2, q_l3, q_l4, q_l5, q_l6, q_l8, q_l9, q_l10, q_l12, q_l17, q_l32, q_l35, q_l48, q_l50, q_l54, q_l57, q_l64, q_l73, q_l118, q_l119, q_l120, q_l122, q_l126, q_l160, q_l256, q_l365, q_l372, q_l438, q_l1000, q_l100000, q_l1000000, q_modF hL.2.2.2.2.2.2.1, hm]
    conv => lhs; simp only [b_223_12, b_223_15, b_223_21, b_223_28, ↓reduceIte, Nat.reduceEqDiff, Nat.reduceMul, q_n10, q_n01, Option.bind_some, g_aft0, g_aft1, g_aft2, g_aft3, g_aft9, Nat.reduceAdd, m_kill_0, m_kill_2, m_kill_3, m_kill_4, m_kill_9, true_or, or_true, q_lm1, q_l0, q_l1, q_l2, q_l3, q_l4, q_l5, q_l6, q_l8, q_l9, q_l10, q_l12, q_l17, q_l32, q_l35, q_l48, q_l50, q_l54, q_l57, q_l64, q_l73, q_l118, q_l119, q_l120, q_l122, q_l126, q_l160, q_l256, q_l365, q_l372, q_l438, q_l1000, q_l100000, q_l1000000, q_modF hL.2.2.2.2.2.2.1, wg, wE, c0, hmn, hall, o1]
    refine Eq.trans r1 ?_
    simp only [b_223_98]) (w_ne N) 0 (m_up2 σ 191 12 (-1), (9, 0)) (by clear hall; omega) ⟨Or.inl ⟨rfl, by show m_up2 σ 191 12 (-1) 191 12 = -1; exact m_up2_at⟩, f0⟩
  refine ⟨y.1, ?_, y2, y3⟩
  have hm := z_emany (Z := Z) (e := e) (s := s) hL (z_surB h y3).1
  rw [e0.1] at hm
  have wE : w32 (w_ne N : Int) = (w_ne N : Int) := q_w (by clear hall; omega)
  simp only [e_223, b_223_0, ↓reduceIte, Nat.reduceEqDiff, Nat.reduceMul, q_n10, q_n01, Option.bind_some, g_aft0, g_aft1, g_aft2, g_aft3, g_aft9, Nat.reduceAdd, m_kill_0, m_kill_2, m_kill_3, m_kill_4, m_kill_9, true_or, or_true, q_lm1, q_l0, q_l1, q_l2, q_l3, q_l4, q_l5, q_l6, q_l8, q_l9, q_l10, q_l12, q_l17, q_l32, q_l35, q_l48, q_l50, q_l54, q_l57, q_l64, q_l73, q_l118, q_l119, q_l120, q_l122, q_l126, q_l160, q_l256, q_l365, q_l372, q_l438, q_l1000, q_l100000, q_l1000000, q_modF hL.2.2.2.2.2.2.1]
  refine Eq.trans y1 ?_
  conv => lhs; simp only [b_223_7, ↓reduceIte, Nat.reduceEqDiff, Nat.reduceMul, q_n10, q_n01, Option.bind_some, g_aft0, g_aft1, g_aft2, g_aft3, g_aft9, Nat.reduceAdd, m_kill_0, m_kill_2, m_kill_3, m_kill_4, m_kill_9, true_or, or_true, q_lm1, q_l0, q_l1, q_l2, q_l3, q_l4, q_l5, q_l6, q_l8, q_l9, q_l10, q_l12, q_l17, q_l32, q_l35, q_l48, q_l50, q_l54, q_l57, q_l64, q_l73, q_l118, q_l119, q_l120, q_l122, q_l126, q_l160, q_l256, q_l365, q_l372, q_l438, q_l1000, q_l100000, q_l1000000, q_modF hL.2.2.2.2.2.2.1, hm]
  simp only [b_223_12, b_223_104, ↓reduceIte, Nat.reduceEqDiff, Nat.reduceMul, q_n10, q_n01, Option.bind_some, g_aft0, g_aft1, g_aft2, g_aft3, g_aft9, Nat.reduceAdd, m_kill_0, m_kill_2, m_kill_3, m_kill_4, m_kill_9, true_or, or_true, q_lm1, q_l0, q_l1, q_l2, q_l3, q_l4, q_l5, q_l6, q_l8, q_l9, q_l10, q_l12, q_l17, q_l32, q_l35, q_l48, q_l50, q_l54, q_l57, q_l64, q_l73, q_l118, q_l119, q_l120, q_l122, q_l126, q_l160, q_l256, q_l365, q_l372, q_l438, q_l1000, q_l100000, q_l1000000, wE, Int.le_refl]
end
end
