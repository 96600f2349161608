section
/-! The class's calls: checksum, going on. -/
/-- the centers' part -/
def y_m2 (m : Nat) (b b' : wP) (VH VC : wP → Int) (cr p q : Int) (f : Nat → Int) (h : Int) : Int := y_hk f (4 * m) (31 * (31 * y_hk (fun i => y_bf VC b' (i : Int)) 5 (31 * y_hk (fun i => y_bf VH b (i : Int)) 3 (31 * (31 * h + w32 (y_bf VH b 3)) + w32 (y_bf VH b 4)) + w32 cr) + w32 (w_red p q 0)) + w32 (w_red p q 1))
section
variable {Z : mZ} {K : Nat → mK} {σ τ N M : Nat → Nat → Int} {R : Nat → Nat → Nat → Int} {e s g i L n c k a : Nat} {t p q v b x y z w u S ν h0 : Int} {X : Nat → Int}
theorem y_kl2 (hw : q_wf N) (hg : g < w_ne N) {P Q V : Nat → Int} (h : y_kl N t g c P Q V) : 1 < c := by
  have h7 := wf_ed hw hg
  obtain ⟨i, hi, h1⟩ := (h.2.2 (fr 0 1)).mpr (Or.inl rfl)
  obtain ⟨j, hj, h2⟩ := (h.2.2 (fr (N 10 g) 1)).mpr (Or.inr (Or.inl rfl))
  by_cases hij : i = j
  · subst hij
    rw [h1, fr_eq (by decide) (by decide)] at h2
    omega
  · omega
/-- the corners of all edges: the second one of each -/
theorem a_mixC (hL : q_lay K) (hi : w_ic σ N R c X L k) (h : w_sv σ N 0) (hc : y_cc N) : ∃ b b' cr p q f1 f2 f3 f τ, m_cl Z 147 [(2, ((0 : Nat) : Int)), (1, h0)] (K, σ, 191, e, s) = some (.inl (1, y_m2 (w_ne N) b b' (w_Hv N 0 ((2 ^ w_nn N - 1 : Nat) : Int)) (w_Cv N 0) cr p q f h0), (K, τ, 191, e, s)) ∧ w_ic τ N R c X L k ∧ w_sv τ N 0 ∧ (∀ a, 191 ≤ a → τ a = σ a) ∧
    w_best (w_Hv N 0 ((2 ^ w_nn N - 1 : Nat) : Int)) (w_pts N 0) b ∧ w_best (w_Cv N 0) (w_pts N 0) b' ∧ cr = w_or (fun i => decide (q_bt ((2 ^ w_nn N - 1 : Nat) : Int) i = true ∧ w_F N 0 b.1 i b.2.1 b.2.2 = w_Hv N 0 ((2 ^ w_nn N - 1 : Nat) : Int) b)) (w_nn N) ∧
    y_gF N 0 f1 f2 f3 ∧ 0 ≤ p ∧ 1 ≤ q ∧ fr p q = f2 (2 ^ w_nn N - 1) ∧ ∀ j, j < 4 * w_ne N → y_cv N (j / 4) 1 ((j % 4 : Nat) : Int) (f j) := by
  obtain ⟨S, hS⟩ : ∃ S : Int, S = ((2 ^ w_nn N - 1 : Nat) : Int) := ⟨_, rfl⟩
  have hall := a_allNodes (Z := Z) (e := e) (s := s) hL hi.1
  rw [← hS] at hall ⊢
  have hw := h.1
  have hne := wf_e hw
  have pt0 : (0 : Int) ≤ 0 ∧ (0 : Int) ≤ 10 := by decide
  obtain ⟨b, b1, b2⟩ := a_seekC (Z := Z) (e := e) (s := s) (S := S) hL h hc
  have bok := w_bok hw hc.1 pt0.1 pt0.2 b1
  have hV := w_Hvb (S := S) hw hc.1 pt0.1 pt0.2 ⟨bok.1, bok.2.1⟩
  have hq : 1 ≤ b.2.2 ∧ b.2.2 ≤ 1000 := ⟨bok.2.1.1, bok.2.1.2.1⟩
  have hp : 0 ≤ b.2.1 ∧ b.2.1 ≤ 50000 := ⟨bok.2.1.2.2.2.2.1, bok.2.2⟩
  have hbf := fun w (h0 : 0 ≤ w) (h4 : w ≤ 4) => a_bf (Z := Z) (e := e) (s := s) (σ := σ) (w := w) hL hq hp hV h0 h4
  have sv1 : w_sv (q_bs σ (w_x5 (w_Hv N 0 S) b)) N 0 := w_svBs h
  have ic1 : w_ic (q_bs σ (w_x5 (w_Hv N 0 S) b)) N R c X L k := w_icBs hi
  have hcr := s_crit (Z := Z) (e := e) (s := s) (S := S) (h := w_Hv N 0 S b) hL sv1.2.2.2.1.1 sv1.2.2.2.1.2.2.2 sv1.2.2.2.1.2.1 hw hc.1 bok.1 bok.2.1 q_bs_13 q_bs_14 q_bs_15 q_bs_16 (q_wB (by omega) hV.2)
  obtain ⟨b', d1, d2⟩ := a_seekM (Z := Z) (e := e) (s := s) hL sv1 hc
  have bok' := w_bok hw hc.1 pt0.1 pt0.2 d1
  have hV' := w_Cvb hw hc.1 pt0.1 pt0.2 ⟨bok'.1, bok'.2.1⟩
  have hbf' := fun w (h0 : 0 ≤ w) (h4 : w ≤ 4) => a_bf (Z := Z) (e := e) (s := s) (σ := q_bs σ (w_x5 (w_Hv N 0 S) b)) (w := w) hL ⟨bok'.2.1.1, bok'.2.1.2.1⟩ ⟨bok'.2.1.2.2.2.2.1, bok'.2.2⟩ hV' h0 h4
  have sv2 : w_sv (q_bs (q_bs σ (w_x5 (w_Hv N 0 S) b)) (w_x5 (w_Cv N 0) b')) N 0 := w_svBs sv1
  have ic2 : w_ic (q_bs (q_bs σ (w_x5 (w_Hv N 0 S) b)) (w_x5 (w_Cv N 0) b')) N R c X L k := w_icBs ic1
  obtain ⟨σ1, hσ1⟩ : ∃ σ1, σ1 = q_bs σ (w_x5 (w_Hv N 0 S) b) := ⟨_, rfl⟩
  obtain ⟨σ2, hσ2⟩ : ∃ σ2, σ2 = q_bs σ1 (w_x5 (w_Cv N 0) b') := ⟨_, rfl⟩
  rw [← hσ1] at b2 hbf sv1 ic1 hcr d2 hbf' sv2 ic2
  rw [← hσ2] at d2 hbf' sv2 ic2
  have f12 : ∀ a, 191 ≤ a → σ2 a = σ a := fun a ha => by rw [hσ2, q_bs_o (by omega), hσ1, q_bs_o (by omega)]
  obtain ⟨ω, o1, o2, o3, o4, o5⟩ := a_rate (Z := Z) (e := e) (s := s) hL ic2 sv2 hc
  obtain ⟨p, q, g1, g2, g3, g4⟩ := a_groupRadius (Z := Z) (e := e) (s := s) (k' := 2) (u := 0) hL o3.1 o2 (by omega) (by omega) (Or.inl rfl)
  obtain ⟨p', q', g1', g2', g3', g4'⟩ := a_groupRadius (Z := Z) (e := e) (s := s) (k' := 2) (u := 1) hL o3.1 o2 (by omega) (by omega) (Or.inr rfl)
  have hred : w_red p' q' 1 = w_red p q 1 := w_redU g2' (by omega) g2 (by omega) (by rw [g4', g4])
  rw [hred] at g1'
  have i2 : ((2 : Nat) : Int) = 2 := rfl
  have e3 : w32 3 = 3 := by decide
  have e4 : w32 4 = 4 := by decide
  have e5 : w32 5 = 5 := by decide
  have z1 : ∀ τ, w_in0 τ N → τ 1 1 = (w_ne N : Int) := fun τ ht => by rw [nAt_0 ht.2.2 (by omega)]; exact hne.1
  -- the center's edge and t
  obtain ⟨hh1, e_h1⟩ : ∃ hh1 : Int, hh1 = 31 * (31 * h0 + w32 (y_bf (w_Hv N 0 S) b 3)) + w32 (y_bf (w_Hv N 0 S) b 4) := ⟨_, rfl⟩
  have l1 : ∀ l7, m_run Z (147, 42, [(2, ((0 : Nat) : Int)), (1, h0), (9, 0), (0, S), (1, y_hk (fun i => y_bf (w_Hv N 0 S) b (i : Int)) 0 hh1), (9, 0), (0, ((0 : Nat) : Int)), l7], [], (K, σ1, 191, e, s)) = m_run Z (147, 42, [(2, ((0 : Nat) : Int)), (1, h0), (9, 0), (0, S), (1, y_hk (fun i => y_bf (w_Hv N 0 S) b (i : Int)) 3 hh1), (9, 0), (0, ((3 : Nat) : Int)), l7], [], (K, σ1, 191, e, s)) := fun l7 => q_loopf (Z := Z) (N := 3) (S := fun i => (147, 42, [(2, ((0 : Nat) : Int)), (1, h0), (9, 0), (0, S), (1, y_hk (fun i => y_bf (w_Hv N 0 S) b (i : Int)) i hh1), (9, 0), (0, (i : Int)), l7], [], (K, σ1, 191, e, s))) (by
    intro i hi
    have hb := hbf (i : Int) (by omega) (by omega)
    have wi : w32 (i : Int) = (i : Int) := q_w (by clear e3 e4 e5; omega)
    have c0 : ¬ (3 : Int) ≤ (i : Int) := by clear e3 e4 e5 wi; omega
    conv => lhs; simp only [b_147_42, ↓reduceIte, Nat.reduceEqDiff, Nat.reduceMul, q_n10, q_n01, Option.bind_some, g_aft0, g_aft1, g_aft2, g_aft3, g_aft9, Nat.reduceAdd, m_kill_0, m_kill_2, m_kill_3, m_kill_4, m_kill_9, true_or, or_true, q_lm1, q_l0, q_l1, q_l2, q_l3, q_l4, q_l5, q_l6, q_l8, q_l9, q_l10, q_l12, q_l32, q_l50, q_l120, q_l122, q_l126, q_l372, q_l1000, q_l1000000, wi, e3, c0]
    simp only [b_147_48, b_147_56, b_147_59, ↓reduceIte, Nat.reduceEqDiff, Nat.reduceMul, q_n10, q_n01, Option.bind_some, g_aft0, g_aft1, g_aft2, g_aft3, g_aft9, Nat.reduceAdd, m_kill_0, m_kill_2, m_kill_3, m_kill_4, m_kill_9, true_or, or_true, q_lm1, q_l0, q_l1, q_l2, q_l3, q_l4, q_l5, q_l6, q_l8, q_l9, q_l10, q_l12, q_l32, q_l50, q_l120, q_l122, q_l126, q_l372, q_l1000, q_l1000000, q_clsF hL.1, hb, a_mix]
    rfl)
  obtain ⟨hh2, e_h2⟩ : ∃ hh2 : Int, hh2 = 31 * y_hk (fun i => y_bf (w_Hv N 0 S) b (i : Int)) 3 hh1 + w32 (w_or (fun i => decide (q_bt S i = true ∧ w_F N 0 b.1 i b.2.1 b.2.2 = w_Hv N 0 S b)) (w_nn N)) := ⟨_, rfl⟩
  have l2 : ∀ l7, m_run Z (147, 92, [(2, ((0 : Nat) : Int)), (1, h0), (9, 0), (0, S), (1, y_hk (fun i => y_bf (w_Cv N 0) b' (i : Int)) 0 hh2), (9, 0), (0, ((0 : Nat) : Int)), l7], [], (K, σ2, 191, e, s)) = m_run Z (147, 92, [(2, ((0 : Nat) : Int)), (1, h0), (9, 0), (0, S), (1, y_hk (fun i => y_bf (w_Cv N 0) b' (i : Int)) 5 hh2), (9, 0), (0, ((5 : Nat) : Int)), l7], [], (K, σ2, 191, e, s)) := fun l7 => q_loopf (Z := Z) (N := 5) (S := fun i => (147, 92, [(2, ((0 : Nat) : Int)), (1, h0), (9, 0), (0, S), (1, y_hk (fun i => y_bf (w_Cv N 0) b' (i : Int)) i hh2), (9, 0), (0, (i : Int)), l7], [], (K, σ2, 191, e, s))) (by
    intro i hi
    have hb := hbf' (i : Int) (by omega) (by omega)
    have wi : w32 (i : Int) = (i : Int) := q_w (by clear e3 e4 e5; omega)
    have c0 : ¬ (5 : Int) ≤ (i : Int) := by clear e3 e4 e5 wi; omega
    conv => lhs; simp only [b_147_92, ↓reduceIte, Nat.reduceEqDiff, Nat.reduceMul, q_n10, q_n01, Option.bind_some, g_aft0, g_aft1, g_aft2, g_aft3, g_aft9, Nat.reduceAdd, m_kill_0, m_kill_2, m_kill_3, m_kill_4, m_kill_9, true_or, or_true, q_lm1, q_l0, q_l1, q_l2, q_l3, q_l4, q_l5, q_l6, q_l8, q_l9, q_l10, q_l12, q_l32, q_l50, q_l120, q_l122, q_l126, q_l372, q_l1000, q_l1000000, wi, e5, c0]
    simp only [b_147_98, b_147_106, b_147_109, ↓reduceIte, Nat.reduceEqDiff, Nat.reduceMul, q_n10, q_n01, Option.bind_some, g_aft0, g_aft1, g_aft2, g_aft3, g_aft9, Nat.reduceAdd, m_kill_0, m_kill_2, m_kill_3, m_kill_4, m_kill_9, true_or, or_true, q_lm1, q_l0, q_l1, q_l2, q_l3, q_l4, q_l5, q_l6, q_l8, q_l9, q_l10, q_l12, q_l32, q_l50, q_l120, q_l122, q_l126, q_l372, q_l1000, q_l1000000, q_clsF hL.1, hb, a_mix]
    rfl)
  obtain ⟨hh3, e_h3⟩ : ∃ hh3 : Int, hh3 = 31 * (31 * y_hk (fun i => y_bf (w_Cv N 0) b' (i : Int)) 5 hh2 + w32 (w_red p q 0)) + w32 (w_red p q 1) := ⟨_, rfl⟩
  obtain ⟨y, y1, y2, y3, y4, y5⟩ := q_loop (Z := Z) (N := w_ne N) (α := (Nat → Nat → Int) × (Nat → Int) × mV) (S := fun i x => (147, 153, [(2, ((0 : Nat) : Int)), (1, h0), (9, 0), (0, S), (1, y_hk x.2.1 (4 * i) hh3), (9, 0), (0, (i : Int)), x.2.2], [], (K, x.1, 191, e, s))) (P := fun i x => w_ic x.1 N R c X L k ∧ w_sv x.1 N 0 ∧ (∀ a, 191 ≤ a → x.1 a = σ a) ∧ ∀ j, j < 4 * i → y_cv N (j / 4) 1 ((j % 4 : Nat) : Int) (x.2.1 j)) (by
    rintro i ⟨τ, f, l7⟩ hi ⟨h1, h2, h3, h4⟩
    obtain ⟨m, ρ, r1, r2, r3, r4, r5⟩ := a_trace (Z := Z) (e := e) (s := s) hL h2 hc.1 hi
    have m1 := y_kl2 hw hi r5
    have hcf := fun (w : Nat) (hw4 : w < 4) => a_cornerFact (Z := Z) (e := e) (s := s) (σ := ρ) (i := 1) (z := (w : Int)) hL (by decide) rfl rfl rfl (y_klb hw hc.1 hi r5 m1) (by omega) (by omega)
    have wi : w32 (i : Int) = (i : Int) := q_w (by clear e3 e4 e5; omega)
    have wm : w32 (w_ne N : Int) = (w_ne N : Int) := q_w (by clear e3 e4 e5 wi; omega)
    have c0 : ¬ (w_ne N : Int) ≤ (i : Int) := by clear e3 e4 e5 wi wm; omega
    obtain ⟨f', hf'⟩ : ∃ f' : Nat → Int, f' = fun j => if j < 4 * i then f j else y_cf (ρ 172) (ρ 174) (ρ 176) 1 ((j - 4 * i : Nat) : Int) := ⟨_, rfl⟩
    have eqf : y_hk f (4 * i) hh3 = y_hk f' (4 * i) hh3 := y_hk_congr _ (fun j hj => by rw [hf']; show f j = if j < 4 * i then f j else _; rw [if_pos hj])
    have inner := q_loopf (Z := Z) (N := 4) (S := fun w => (147, 177, [(2, ((0 : Nat) : Int)), (1, h0), (9, 0), (0, S), (1, y_hk f' (4 * i + w) hh3), (9, 0), (0, (i : Int)), (0, (w : Int))], [], (K, ρ, 191, e, s))) (by
      intro w hw4
      have hcw := hcf w hw4
      have ww : w32 (w : Int) = (w : Int) := q_w (by clear e3 e4 e5 wi wm; omega)
      have c1 : ¬ (4 : Int) ≤ (w : Int) := by clear e3 e4 e5 wi wm ww; omega
      have efw : f' (4 * i + w) = y_cf (ρ 172) (ρ 174) (ρ 176) 1 (w : Int) := by
        rw [hf']
        show (if 4 * i + w < 4 * i then f (4 * i + w) else y_cf (ρ 172) (ρ 174) (ρ 176) 1 ((4 * i + w - 4 * i : Nat) : Int)) = _
        rw [if_neg (Nat.not_lt.mpr (Nat.le_add_right _ _)), Nat.add_sub_cancel_left]
      have eh : y_hk f' (4 * i + (w + 1)) hh3 = 31 * y_hk f' (4 * i + w) hh3 + w32 (y_cf (ρ 172) (ρ 174) (ρ 176) 1 (w : Int)) := by
        rw [← efw]; rfl
      have i1 : ((1 : Nat) : Int) = 1 := rfl
      simp only [i1] at hcw
      conv => lhs; simp only [b_147_177, ↓reduceIte, Nat.reduceEqDiff, Nat.reduceMul, q_n10, q_n01, Option.bind_some, g_aft0, g_aft1, g_aft2, g_aft3, g_aft9, Nat.reduceAdd, m_kill_0, m_kill_2, m_kill_3, m_kill_4, m_kill_9, true_or, or_true, q_lm1, q_l0, q_l1, q_l2, q_l3, q_l4, q_l5, q_l6, q_l8, q_l9, q_l10, q_l12, q_l32, q_l50, q_l120, q_l122, q_l126, q_l372, q_l1000, q_l1000000, ww, e4, c1]
      show _ = m_run Z (147, 177, [(2, ((0 : Nat) : Int)), (1, h0), (9, 0), (0, S), (1, y_hk f' (4 * i + (w + 1)) hh3), (9, 0), (0, (i : Int)), (0, (w : Int) + 1)], [], (K, ρ, 191, e, s))
      rw [eh]
      simp only [b_147_183, b_147_192, b_147_195, ↓reduceIte, Nat.reduceEqDiff, Nat.reduceMul, q_n10, q_n01, Option.bind_some, g_aft0, g_aft1, g_aft2, g_aft3, g_aft9, Nat.reduceAdd, m_kill_0, m_kill_2, m_kill_3, m_kill_4, m_kill_9, true_or, or_true, q_lm1, q_l0, q_l1, q_l2, q_l3, q_l4, q_l5, q_l6, q_l8, q_l9, q_l10, q_l12, q_l32, q_l50, q_l120, q_l122, q_l126, q_l372, q_l1000, q_l1000000, q_clsF hL.1, hcw, a_mix])
    refine ⟨(ρ, f', (0, ((4 : Nat) : Int))), ?_, w_icO h1 r4, w_svO h2 r4, fun a ha => by show ρ a = σ a; rw [r4 a (by omega) (by omega) (by omega) (by omega)]; exact h3 a ha, fun j hj => ?_⟩
    · show m_run Z (147, 153, [(2, ((0 : Nat) : Int)), (1, h0), (9, 0), (0, S), (1, y_hk f (4 * i) hh3), (9, 0), (0, (i : Int)), l7], [], (K, τ, 191, e, s)) = m_run Z (147, 153, [(2, ((0 : Nat) : Int)), (1, h0), (9, 0), (0, S), (1, y_hk f' (4 * i + 4) hh3), (9, 0), (0, (i : Int) + 1), (0, ((4 : Nat) : Int))], [], (K, ρ, 191, e, s))
      rw [eqf]
      conv => lhs; simp only [b_147_153, ↓reduceIte, Nat.reduceEqDiff, Nat.reduceMul, q_n10, q_n01, Option.bind_some, g_aft0, g_aft1, g_aft2, g_aft3, g_aft9, Nat.reduceAdd, m_kill_0, m_kill_2, m_kill_3, m_kill_4, m_kill_9, true_or, or_true, q_lm1, q_l0, q_l1, q_l2, q_l3, q_l4, q_l5, q_l6, q_l8, q_l9, q_l10, q_l12, q_l32, q_l50, q_l120, q_l122, q_l126, q_l372, q_l1000, q_l1000000, q_clsF hL.1, q_n1F hL, q_obF hL, z1 τ h1.1, wi, wm, c0]
      simp only [b_147_165, b_147_174, ↓reduceIte, Nat.reduceEqDiff, Nat.reduceMul, q_n10, q_n01, Option.bind_some, g_aft0, g_aft1, g_aft2, g_aft3, g_aft9, Nat.reduceAdd, m_kill_0, m_kill_2, m_kill_3, m_kill_4, m_kill_9, true_or, or_true, q_lm1, q_l0, q_l1, q_l2, q_l3, q_l4, q_l5, q_l6, q_l8, q_l9, q_l10, q_l12, q_l32, q_l50, q_l120, q_l122, q_l126, q_l372, q_l1000, q_l1000000, q_clsF hL.1, q_obF hL, r1]
      refine Eq.trans inner ?_
      have i4 : w32 ((4 : Nat) : Int) = 4 := e4
      conv => lhs; simp only [b_147_177, ↓reduceIte, Nat.reduceEqDiff, Nat.reduceMul, q_n10, q_n01, Option.bind_some, g_aft0, g_aft1, g_aft2, g_aft3, g_aft9, Nat.reduceAdd, m_kill_0, m_kill_2, m_kill_3, m_kill_4, m_kill_9, true_or, or_true, q_lm1, q_l0, q_l1, q_l2, q_l3, q_l4, q_l5, q_l6, q_l8, q_l9, q_l10, q_l12, q_l32, q_l50, q_l120, q_l122, q_l126, q_l372, q_l1000, q_l1000000, i4, e4, Int.le_refl]
      simp only [b_147_203, ↓reduceIte, Nat.reduceEqDiff, Nat.reduceMul, q_n10, q_n01, Option.bind_some, g_aft0, g_aft1, g_aft2, g_aft3, g_aft9, Nat.reduceAdd, m_kill_0, m_kill_2, m_kill_3, m_kill_4, m_kill_9, true_or, or_true, q_lm1, q_l0, q_l1, q_l2, q_l3, q_l4, q_l5, q_l6, q_l8, q_l9, q_l10, q_l12, q_l32, q_l50, q_l120, q_l122, q_l126, q_l372, q_l1000, q_l1000000]
    · show y_cv N (j / 4) 1 ((j % 4 : Nat) : Int) (f' j)
      rw [hf']
      show y_cv N (j / 4) 1 ((j % 4 : Nat) : Int) (if j < 4 * i then f j else y_cf (ρ 172) (ρ 174) (ρ 176) 1 ((j - 4 * i : Nat) : Int))
      by_cases hj2 : j < 4 * i
      · rw [if_pos hj2]; exact h4 j hj2
      · rw [if_neg hj2]
        have hj4 : j / 4 = i := by clear e3 e4 e5 wi wm; omega
        have hjm : j % 4 = j - 4 * i := by clear e3 e4 e5 wi wm; omega
        rw [hj4, hjm]
        exact ⟨m, _, _, _, r5, by rw [if_pos ⟨by decide, by clear e3 e4 e5 wi wm; omega⟩]; rfl⟩) (w_ne N) 0 (ω, (fun _ => 0), (9, 0)) (by omega) ⟨o3, o4, fun a ha => by show ω a = σ a; rw [o5 a (by omega)]; exact f12 a ha, fun j hj => absurd hj (by omega)⟩
  refine ⟨b, b', _, p, q, _, _, _, y.2.1, y.1, ?_, y2, y3, y4, b1, d1, rfl, y_gFv o2, g2, g3, ?_, y5⟩
  · have hfin : m_run Z (147, 153, [(2, ((0 : Nat) : Int)), (1, h0), (9, 0), (0, S), (1, y_hk y.2.1 (4 * w_ne N) hh3), (9, 0), (0, (w_ne N : Int)), y.2.2], [], (K, y.1, 191, e, s)) = some (.inl (1, y_hk y.2.1 (4 * w_ne N) hh3), (K, y.1, 191, e, s)) := by
      conv => lhs; simp only [b_147_153, ↓reduceIte, Nat.reduceEqDiff, Nat.reduceMul, q_n10, q_n01, Option.bind_some, g_aft0, g_aft1, g_aft2, g_aft3, g_aft9, Nat.reduceAdd, m_kill_0, m_kill_2, m_kill_3, m_kill_4, m_kill_9, true_or, or_true, q_lm1, q_l0, q_l1, q_l2, q_l3, q_l4, q_l5, q_l6, q_l8, q_l9, q_l10, q_l12, q_l32, q_l50, q_l120, q_l122, q_l126, q_l372, q_l1000, q_l1000000, q_clsF hL.1, q_n1F hL, q_obF hL, z1 y.1 y2.1, Int.le_refl]
      simp only [b_147_209, ↓reduceIte, Nat.reduceEqDiff, Nat.reduceMul, q_n10, q_n01, Option.bind_some, g_aft0, g_aft1, g_aft2, g_aft3, g_aft9, Nat.reduceAdd, m_kill_0, m_kill_2, m_kill_3, m_kill_4, m_kill_9, true_or, or_true, q_lm1, q_l0, q_l1, q_l2, q_l3, q_l4, q_l5, q_l6, q_l8, q_l9, q_l10, q_l12, q_l32, q_l50, q_l120, q_l122, q_l126, q_l372, q_l1000, q_l1000000]
    have eqfin : y_hk y.2.1 (4 * w_ne N) hh3 = y_m2 (w_ne N) b b' (w_Hv N 0 S) (w_Cv N 0) (w_or (fun i => decide (q_bt S i = true ∧ w_F N 0 b.1 i b.2.1 b.2.2 = w_Hv N 0 S b)) (w_nn N)) p q y.2.1 h0 := by
      rw [e_h3, e_h2, e_h1]; rfl
    rw [← eqfin, ← hfin]
    refine Eq.trans ?_ y1
    have i3 : w32 ((3 : Nat) : Int) = 3 := e3
    have i5 : w32 ((5 : Nat) : Int) = 5 := e5
    have bf3 := hbf 3 (by decide) (by decide)
    have bf4 := hbf 4 (by decide) (by decide)
    have kk : ∀ l7, m_run Z (147, 42, [(2, ((0 : Nat) : Int)), (1, h0), (9, 0), (0, S), (1, hh1), (9, 0), (0, 0), l7], [], (K, σ1, 191, e, s)) = m_run Z (147, 153, [(2, ((0 : Nat) : Int)), (1, h0), (9, 0), (0, S), (1, hh3), (9, 0), (0, 0), l7], [], (K, ω, 191, e, s)) := by
      intro l7
      refine Eq.trans (l1 l7) ?_
      conv => lhs; simp only [b_147_42, ↓reduceIte, Nat.reduceEqDiff, Nat.reduceMul, q_n10, q_n01, Option.bind_some, g_aft0, g_aft1, g_aft2, g_aft3, g_aft9, Nat.reduceAdd, m_kill_0, m_kill_2, m_kill_3, m_kill_4, m_kill_9, true_or, or_true, q_lm1, q_l0, q_l1, q_l2, q_l3, q_l4, q_l5, q_l6, q_l8, q_l9, q_l10, q_l12, q_l32, q_l50, q_l120, q_l122, q_l126, q_l372, q_l1000, q_l1000000, i3, e3, Int.le_refl]
      simp only [b_147_67, b_147_77, b_147_80, b_147_89, ↓reduceIte, Nat.reduceEqDiff, Nat.reduceMul, q_n10, q_n01, Option.bind_some, g_aft0, g_aft1, g_aft2, g_aft3, g_aft9, Nat.reduceAdd, m_kill_0, m_kill_2, m_kill_3, m_kill_4, m_kill_9, true_or, or_true, q_lm1, q_l0, q_l1, q_l2, q_l3, q_l4, q_l5, q_l6, q_l8, q_l9, q_l10, q_l12, q_l32, q_l50, q_l120, q_l122, q_l126, q_l372, q_l1000, q_l1000000, q_clsF hL.1, q_obF hL, hcr, a_mix, d2]
      rw [← e_h2]
      refine Eq.trans (l2 l7) ?_
      conv => lhs; simp only [b_147_92, ↓reduceIte, Nat.reduceEqDiff, Nat.reduceMul, q_n10, q_n01, Option.bind_some, g_aft0, g_aft1, g_aft2, g_aft3, g_aft9, Nat.reduceAdd, m_kill_0, m_kill_2, m_kill_3, m_kill_4, m_kill_9, true_or, or_true, q_lm1, q_l0, q_l1, q_l2, q_l3, q_l4, q_l5, q_l6, q_l8, q_l9, q_l10, q_l12, q_l32, q_l50, q_l120, q_l122, q_l126, q_l372, q_l1000, q_l1000000, i5, e5, Int.le_refl]
      rw [i2] at g1 g1'
      simp only [b_147_117, b_147_124, b_147_132, b_147_135, b_147_145, b_147_148, ↓reduceIte, Nat.reduceEqDiff, Nat.reduceMul, q_n10, q_n01, Option.bind_some, g_aft0, g_aft1, g_aft2, g_aft3, g_aft9, Nat.reduceAdd, m_kill_0, m_kill_2, m_kill_3, m_kill_4, m_kill_9, true_or, or_true, q_lm1, q_l0, q_l1, q_l2, q_l3, q_l4, q_l5, q_l6, q_l8, q_l9, q_l10, q_l12, q_l32, q_l50, q_l120, q_l122, q_l126, q_l372, q_l1000, q_l1000000, q_clsF hL.1, q_obF hL, o1, g1, g1', a_mix]
      rw [← e_h3]
    refine Eq.trans ?_ (kk (9, 0))
    rw [e_h1]
    simp only [e_147, b_147_0, b_147_7, b_147_16, b_147_22, b_147_25, b_147_34, b_147_37, ↓reduceIte, Nat.reduceEqDiff, Nat.reduceMul, q_n10, q_n01, Option.bind_some, g_aft0, g_aft1, g_aft2, g_aft3, g_aft9, Nat.reduceAdd, m_kill_0, m_kill_2, m_kill_3, m_kill_4, m_kill_9, true_or, or_true, q_lm1, q_l0, q_l1, q_l2, q_l3, q_l4, q_l5, q_l6, q_l8, q_l9, q_l10, q_l12, q_l32, q_l50, q_l120, q_l122, q_l126, q_l372, q_l1000, q_l1000000, q_clsF hL.1, q_n1F hL, q_obF hL, hall, b2, bf3, bf4, a_mix]
  · rw [g4]; rfl
theorem x_checksum (hL : q_lay K) (h : w_ic σ N R c X L k) (hk : k < 999999) : ∃ τ v ν, m_cl Z 129 [(2, ((0 : Nat) : Int))] (K, σ, 191, e, s) = some (.inl (1, 31 * (31 * v + w32 (L : Int)) + w32 (c : Int)), (K, τ, 191, e, s)) ∧ w_ic τ N R c X L (k + 1) ∧ (∀ a, 191 ≤ a → τ a = σ a) ∧ (w_cn N → ν = 1) ∧ (¬ w_cn N → ν = 0) ∧ (¬ y_cc N → v = y_m1 N ν 18473) ∧ (y_cc N → ∃ b b' cr p q f1 f2 f3 f, v = y_m2 (w_ne N) b b' (w_Hv N 0 ((2 ^ w_nn N - 1 : Nat) : Int)) (w_Cv N 0) cr p q f (y_m1 N ν 18473) ∧
    w_best (w_Hv N 0 ((2 ^ w_nn N - 1 : Nat) : Int)) (w_pts N 0) b ∧ w_best (w_Cv N 0) (w_pts N 0) b' ∧ cr = w_or (fun i => decide (q_bt ((2 ^ w_nn N - 1 : Nat) : Int) i = true ∧ w_F N 0 b.1 i b.2.1 b.2.2 = w_Hv N 0 ((2 ^ w_nn N - 1 : Nat) : Int) b)) (w_nn N) ∧
    y_gF N 0 f1 f2 f3 ∧ 0 ≤ p ∧ 1 ≤ q ∧ fr p q = f2 (2 ^ w_nn N - 1) ∧ ∀ j, j < 4 * w_ne N → y_cv N (j / 4) 1 ((j % 4 : Nat) : Int) (f j)) := by
  obtain ⟨τ, t1, t2, t3, t4⟩ := x_take (Z := Z) (e := e) (s := s) (t := 0) hL h hk (by omega) (by omega)
  have vc : v_c τ N := t2.2.2.2.2.1
  have hC := a_hasC (Z := Z) (e := e) (s := s) hL t2
  obtain ⟨ν, hν⟩ : ∃ ν, τ 138 3 = ν := ⟨_, rfl⟩
  have hν1 : (w_cn N → ν = 1) ∧ (¬ w_cn N → ν = 0) := ⟨fun q => by rw [← hν]; exact vc.1 q, fun q => by rw [← hν]; exact vc.2 q⟩
  have hν2 : ν = 0 ∨ ν = 1 := by
    by_cases q : w_cn N
    · exact Or.inr (hν1.1 q)
    · exact Or.inl (hν1.2 q)
  have hm := a_mixN (Z := Z) (e := e) (s := s) (h0 := 18473) hL t3.1 hν hν2
  have f1 : ∀ a, 191 ≤ a → τ a = σ a := fun a ha => t4 a (by omega)
  by_cases hd : y_cc N
  · obtain ⟨b, b', cr, p, q, g1, g2, g3, f, ω, o1, o2, o3, o4, o5⟩ := a_mixC (Z := Z) (e := e) (s := s) (h0 := y_m1 N ν 18473) hL t3 t2 hd
    have k1 : ω 186 0 = (L : Int) := o2.2.2.1.1
    have k2 : ω 0 3 = (c : Int) := o2.2.1.1
    refine ⟨ω, _, ν, ?_, o2, fun a ha => by rw [o4 a ha]; exact f1 a ha, hν1.1, hν1.2, fun q => absurd hd q, fun _ => ⟨b, b', cr, p, q, g1, g2, g3, f, rfl, o5⟩⟩
    simp only [e_129, b_129_0, b_129_12, b_129_19, b_129_27, b_129_30, b_129_35, b_129_36, b_129_47, b_129_56, ↓reduceIte, Nat.reduceEqDiff, Nat.reduceMul, q_n10, q_n01, Option.bind_some, g_aft0, g_aft1, g_aft2, g_aft3, g_aft9, Nat.reduceAdd, m_kill_0, m_kill_2, m_kill_3, m_kill_4, m_kill_9, true_or, or_true, q_lm1, q_l0, q_l1, q_l2, q_l3, q_l4, q_l5, q_l6, q_l8, q_l9, q_l10, q_l12, q_l32, q_l50, q_l120, q_l122, q_l126, q_l372, q_l1000, q_l1000000, q_clsF hL.1, q_obF hL, t1, hm, hC.1 hd, o1, a_mix, k1, k2]
  · have k1 : τ 186 0 = (L : Int) := t3.2.2.1.1
    have k2 : τ 0 3 = (c : Int) := t3.2.1.1
    refine ⟨τ, y_m1 N ν 18473, ν, ?_, t3, f1, hν1.1, hν1.2, fun _ => rfl, fun q => absurd q hd⟩
    simp only [e_129, b_129_0, b_129_12, b_129_19, b_129_27, b_129_30, b_129_35, b_129_36, b_129_47, b_129_56, ↓reduceIte, Nat.reduceEqDiff, Nat.reduceMul, q_n10, q_n01, Option.bind_some, g_aft0, g_aft1, g_aft2, g_aft3, g_aft9, Nat.reduceAdd, m_kill_0, m_kill_2, m_kill_3, m_kill_4, m_kill_9, true_or, or_true, q_lm1, q_l0, q_l1, q_l2, q_l3, q_l4, q_l5, q_l6, q_l8, q_l9, q_l10, q_l12, q_l32, q_l50, q_l120, q_l122, q_l126, q_l372, q_l1000, q_l1000000, q_clsF hL.1, q_obF hL, t1, hm, hC.2 hd, a_mix, k1, k2]
end
end
