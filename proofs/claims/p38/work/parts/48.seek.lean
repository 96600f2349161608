section
/-! Gathering and seeking. -/
section
variable {Z : mZ} {K : Nat → mK} {σ N : Nat → Nat → Int} {e s g i : Nat} {t p q : Int}
theorem s_ge (hL : q_lay K) (hv : v_a σ N t) (hw : q_wf N) (hc : w_cn N) (ht : 0 ≤ t) (ht2 : t ≤ 10) (hp : v_p σ []) : ∃ (τ : Nat → Nat → Int) (l2 l3 : mV), m_run Z (84, 15, [(2, ((138 : Nat) : Int)), (0, ((0 : Nat) : Int)), (9, 0), (9, 0)], [], (K, σ, 191, e, s)) = m_run Z (84, 95, [(2, ((138 : Nat) : Int)), (0, (w_ne N : Int)), l2, l3], [], (K, τ, 191, e, s)) ∧ v_p τ (q_cat (w_pe N t) (w_ne N)) ∧ q_f8 σ τ := by
  have n8 := (wf_n hw).2.2
  have n12 := (wf_e hw).2
  have w9 : w32 (w_ne N : Int) = (w_ne N : Int) := q_w (by omega)
  obtain ⟨y, h1, h2⟩ := q_loop (Z := Z) (N := w_ne N) (S := fun g (x : (Nat → Nat → Int) × mV × mV) => (84, 15, [(2, ((138 : Nat) : Int)), (0, (g : Int)), x.2.1, x.2.2], [], (K, x.1, 191, e, s))) (P := fun g x => v_p x.1 (q_cat (w_pe N t) g) ∧ q_f8 σ x.1 ∧ x.2.2 = x.2.2) (by
    intro g x hg hx
    have l30 := w_pes_len hw (t := t) (k := g)
    have a1 := w_ap_len (N := N) (g := g) (p := 0) (q := 1)
    have a2 := w_ap_len (N := N) (g := g) (p := N 10 g) (q := 1)
    have h7 := wf_ed hw hg
    have hva := v_a_f8 hv hx.2.1
    obtain ⟨τ1, p1, p2, p3⟩ := s_addPoint (Z := Z) (e := e) (s := s) hL hva.1 hw hx.1 (by omega) (show g < 50 by omega) (show (0 : Int) ≤ 0 by omega) (by omega) (show (0 : Int) ≤ 1 by omega) (by omega)
    have hva1 := v_a_f8 hv (q_f8_t hx.2.1 p3)
    obtain ⟨τ2, u1, u2, u3⟩ := s_addPoint (Z := Z) (e := e) (s := s) hL hva1.1 hw p2 (by rw [List.length_append]; omega) (show g < 50 by omega) (show (0 : Int) ≤ N 10 g by omega) (by omega) (show (0 : Int) ≤ 1 by omega) (by omega)
    have f2 := q_f8_t hx.2.1 (q_f8_t p3 u3)
    have hva2 := v_a_f8 hv f2
    have hlen : (q_cat (w_pe N t) g ++ w_ap N g 0 1 ++ w_ap N g (N 10 g) 1).length ≤ 332 := by rw [List.length_append, List.length_append]; omega
    have hlen' := hlen
    have c0 : ¬ (w_ne N : Int) ≤ (g : Int) := by omega
    have e1 : (((g + 1 : Nat)) : Int) = (g : Int) + 1 := by omega
    have w0 : w32 (g : Int) = (g : Int) := q_w (by omega)
    have gx : ∃ (τ : Nat → Nat → Int) (l3 : mV), m_run Z (84, 46, [(2, ((138 : Nat) : Int)), (0, (g : Int)), (0, ((0 : Nat) : Int)), x.2.2], [], (K, τ2, 191, e, s)) = m_run Z (84, 89, [(2, ((138 : Nat) : Int)), (0, (g : Int)), (0, (w_nn N : Int)), l3], [], (K, τ, 191, e, s)) ∧ v_p τ ((q_cat (w_pe N t) g ++ w_ap N g 0 1 ++ w_ap N g (N 10 g) 1) ++ q_cat (fun i => q_cat (w_xl N t g i) (w_nn N)) (w_nn N)) ∧ q_f8 τ2 τ := s_gx hL hva2 hw hc ht ht2 u2 hlen' hg
    obtain ⟨τ3, l3, z1, z2, z3⟩ := gx
    have hm := v_m hva.1 hw
    refine ⟨(τ3, (0, (w_nn N : Int)), l3), ?_, ?_, q_f8_t f2 z3, rfl⟩
    · conv => lhs; simp only [b_84_15, ↓reduceIte, Nat.reduceEqDiff, Nat.reduceMul, q_n10, q_n01, Option.bind_some, g_aft0, g_aft1, g_aft2, g_aft3, g_aft9, Nat.reduceAdd, m_kill_0, m_kill_2, m_kill_3, m_kill_4, m_kill_9, true_or, or_true, q_lm1, q_l0, q_l1, q_l2, q_l3, q_l4, q_l5, q_l6, q_l8, q_l9, q_l10, q_l12, q_l32, q_l50, q_l120, q_l122, q_l126, q_l372, q_l1000, q_l1000000, q_surF hL.2.2.1, q_tkF hL.2.1, hm, w0, c0]
      simp only [b_84_26, b_84_33, b_84_40, b_84_44, ↓reduceIte, Nat.reduceEqDiff, Nat.reduceMul, q_n10, q_n01, Option.bind_some, g_aft0, g_aft1, g_aft2, g_aft3, g_aft9, Nat.reduceAdd, m_kill_0, m_kill_2, m_kill_3, m_kill_4, m_kill_9, true_or, or_true, q_lm1, q_l0, q_l1, q_l2, q_l3, q_l4, q_l5, q_l6, q_l8, q_l9, q_l10, q_l12, q_l32, q_l50, q_l120, q_l122, q_l126, q_l372, q_l1000, q_l1000000, q_surF hL.2.2.1, q_tkF hL.2.1, p1, s_lengthOf hL, v_len hva1.1 hw hg, u1]
      refine Eq.trans z1 ?_
      simp only [b_84_89, ↓reduceIte, Nat.reduceEqDiff, Nat.reduceMul, q_n10, q_n01, Option.bind_some, g_aft0, g_aft1, g_aft2, g_aft3, g_aft9, Nat.reduceAdd, m_kill_0, m_kill_2, m_kill_3, m_kill_4, m_kill_9, true_or, or_true, q_lm1, q_l0, q_l1, q_l2, q_l3, q_l4, q_l5, q_l6, q_l8, q_l9, q_l10, q_l12, q_l32, q_l50, q_l120, q_l122, q_l126, q_l372, q_l1000, q_l1000000, e1]
    · rw [q_cat_s]
      unfold w_pe
      rw [← List.append_assoc, ← List.append_assoc]
      exact z2) (w_ne N) 0 (σ, (9, 0), (9, 0)) (by omega) ⟨hp, q_f8_r, rfl⟩
  have hm := v_m (v_a_f8 hv h2.2.1).1 hw
  refine ⟨y.1, y.2.1, y.2.2, ?_, h2.1, h2.2.1⟩
  refine h1.trans ?_
  conv => lhs; simp only [b_84_15, ↓reduceIte, Nat.reduceEqDiff, Nat.reduceMul, q_n10, q_n01, Option.bind_some, g_aft0, g_aft1, g_aft2, g_aft3, g_aft9, Nat.reduceAdd, m_kill_0, m_kill_2, m_kill_3, m_kill_4, m_kill_9, true_or, or_true, q_lm1, q_l0, q_l1, q_l2, q_l3, q_l4, q_l5, q_l6, q_l8, q_l9, q_l10, q_l12, q_l32, q_l50, q_l120, q_l122, q_l126, q_l372, q_l1000, q_l1000000, q_surF hL.2.2.1, q_tkF hL.2.1, hm, w9, Int.le_refl]
theorem s_gather (hL : q_lay K) (hv : v_a σ N t) (hvc : v_c σ N) (hw : q_wf N) (ht : 0 ≤ t) (ht2 : t ≤ 10) : ∃ τ, m_cl Z 84 [(2, ((138 : Nat) : Int))] (K, σ, 191, e, s) = some (.inl (9, 0), (K, τ, 191, e, s)) ∧ q_f8 σ τ ∧ (w_cn N → v_p τ (w_pts N t)) ∧ (¬ w_cn N → v_p τ []) := by
  have f0 : q_f8 σ (m_up2 σ 138 8 0) := ⟨fun a a1 _ _ _ => m_up2_ne a1, fun j hj => m_up2_nk hj⟩
  have p0 : v_p (m_up2 σ 138 8 0) [] := ⟨m_up2_at, fun i hi => absurd hi (Nat.not_lt_zero _)⟩
  by_cases hc : w_cn N
  · have h3 := hvc.1 hc
    have hva := v_a_f8 hv f0
    obtain ⟨τ, l2, l3, h1, h2, h4⟩ := s_ge (Z := Z) (e := e) (s := s) hL hva hw hc ht ht2 p0
    have n6 := (wf_s hw).2
    have n12 := (wf_e hw).2
    have f1 := q_f8_t f0 h4
    have l30 := w_pes_len hw (t := t) (k := w_ne N)
    have w9 : w32 (w_ns N : Int) = (w_ns N : Int) := q_w (by omega)
    obtain ⟨y, u1, u2⟩ := q_loop (Z := Z) (N := w_ns N) (S := fun k (x : Nat → Nat → Int) => (84, 97, [(2, ((138 : Nat) : Int)), (0, (k : Int)), l2, l3], [], (K, x, 191, e, s))) (P := fun k x => v_p x (q_cat (w_pe N t) (w_ne N) ++ q_cat (w_ps N) k) ∧ q_f8 σ x) (by
      intro k x hk hx
      have l2 := w_pss_len (N := N) (k := k)
      have l1 := w_ap_len (N := N) (g := (N 12 k).toNat) (p := N 14 k) (q := 1)
      obtain ⟨d, d1, d2, d3, d4, d5, d6⟩ := wf_st hw hk
      have hd : (N 12 k).toNat = d := by omega
      have hva := v_a_f8 hv hx.2
      have g1 : ∀ z, q_f8 σ z → q_get z 151 6 (k : Int) = (d : Int) := by
        intro z hz
        rw [q_get_nat (by omega) (by omega), ← d2]
        exact (v_a_f8 hv hz).1 12 k (by rw [q_len2]; simp; omega)
      have g2 : ∀ z, q_f8 σ z → q_get z 153 6 (k : Int) = N 14 k := by
        intro z hz
        rw [q_get_nat (by omega) (by omega)]
        exact (v_a_f8 hv hz).1 14 k (by rw [q_len2]; simp; omega)
      have g3 : ∀ z, q_f8 σ z → q_get z 155 6 (k : Int) = N 16 k := by
        intro z hz
        rw [q_get_nat (by omega) (by omega)]
        exact (v_a_f8 hv hz).1 16 k (by rw [q_len2]; simp; omega)
      have lla : (q_cat (w_pe N t) (w_ne N) ++ q_cat (w_ps N) k).length < 372 := by rw [List.length_append]; omega
      obtain ⟨τ1, p1, p2, p3⟩ := s_addPoint (Z := Z) (e := e) (s := s) (g := d) (p := N 14 k) (q := 1) hL hva.1 hw hx.1 lla (by omega) (by omega) (by omega) (by omega) (by omega)
      have f2 := q_f8_t hx.2 p3
      have hva1 := v_a_f8 hv f2
      rw [← hd] at p2
      obtain ⟨τ2, v1, v2, v3⟩ := s_addPoint (Z := Z) (e := e) (s := s) (g := d) (p := N 16 k) (q := 1) hL hva1.1 hw p2 (by rw [List.length_append, List.length_append]; omega) (by omega) (by omega) (by omega) (by omega) (by omega)
      have c0 : ¬ (w_ns N : Int) ≤ (k : Int) := by omega
      have e1 : (((k + 1 : Nat)) : Int) = (k : Int) + 1 := by omega
      have hs := v_s hva.1 hw
      have w0 : w32 (k : Int) = (k : Int) := q_w (by omega)
      refine ⟨τ2, ?_, ?_, q_f8_t f2 v3⟩
      · conv => lhs; simp only [b_84_97, ↓reduceIte, Nat.reduceEqDiff, Nat.reduceMul, q_n10, q_n01, Option.bind_some, g_aft0, g_aft1, g_aft2, g_aft3, g_aft9, Nat.reduceAdd, m_kill_0, m_kill_2, m_kill_3, m_kill_4, m_kill_9, true_or, or_true, q_lm1, q_l0, q_l1, q_l2, q_l3, q_l4, q_l5, q_l6, q_l8, q_l9, q_l10, q_l12, q_l32, q_l50, q_l120, q_l122, q_l126, q_l372, q_l1000, q_l1000000, q_surF hL.2.2.1, q_tkF hL.2.1, hs, w0, c0]
        simp only [b_84_0, b_84_12, b_84_13, b_84_26, b_84_33, b_84_40, b_84_44, b_84_57, b_84_70, b_84_77, b_84_83, b_84_89, b_84_95, b_84_108, b_84_120, b_84_131, b_84_135, b_84_147, b_84_158, b_84_162, b_84_168, ↓reduceIte, Nat.reduceEqDiff, Nat.reduceMul, q_n10, q_n01, Option.bind_some, g_aft0, g_aft1, g_aft2, g_aft3, g_aft9, Nat.reduceAdd, m_kill_0, m_kill_2, m_kill_3, m_kill_4, m_kill_9, true_or, or_true, q_lm1, q_l0, q_l1, q_l2, q_l3, q_l4, q_l5, q_l6, q_l8, q_l9, q_l10, q_l12, q_l32, q_l50, q_l120, q_l122, q_l126, q_l372, q_l1000, q_l1000000, q_surF hL.2.2.1, q_tkF hL.2.1, r_get, g1 x hx.2, g2 x hx.2, g1 τ1 f2, g3 τ1 f2, p1, v1, e1]
      · rw [q_cat_s, ← List.append_assoc]
        unfold w_ps
        rw [← List.append_assoc]
        rw [← hd] at v2
        exact v2) (w_ns N) 0 τ (by omega) ⟨by rw [show q_cat (w_ps N) 0 = [] from rfl, List.append_nil]; exact h2, f1⟩
    have hs := v_s (v_a_f8 hv u2.2).1 hw
    refine ⟨y, ?_, u2.2, fun _ => u2.1, fun q => absurd hc q⟩
    have z1 : w32 1 = 1 := by decide
    simp only [e_84, b_84_0, b_84_13, ↓reduceIte, Nat.reduceEqDiff, Nat.reduceMul, q_n10, q_n01, Option.bind_some, g_aft0, g_aft1, g_aft2, g_aft3, g_aft9, Nat.reduceAdd, m_kill_0, m_kill_2, m_kill_3, m_kill_4, m_kill_9, true_or, or_true, q_lm1, q_l0, q_l1, q_l2, q_l3, q_l4, q_l5, q_l6, q_l8, q_l9, q_l10, q_l12, q_l32, q_l50, q_l120, q_l122, q_l126, q_l372, q_l1000, q_l1000000, q_surF hL.2.2.1, q_tkF hL.2.1, m_up2_nk, ne_eq, h3, not_false_eq_true, Nat.reduceEqDiff]
    refine Eq.trans h1 ?_
    simp only [b_84_95, ↓reduceIte, Nat.reduceEqDiff, Nat.reduceMul, q_n10, q_n01, Option.bind_some, g_aft0, g_aft1, g_aft2, g_aft3, g_aft9, Nat.reduceAdd, m_kill_0, m_kill_2, m_kill_3, m_kill_4, m_kill_9, true_or, or_true, q_lm1, q_l0, q_l1, q_l2, q_l3, q_l4, q_l5, q_l6, q_l8, q_l9, q_l10, q_l12, q_l32, q_l50, q_l120, q_l122, q_l126, q_l372, q_l1000, q_l1000000]
    refine Eq.trans u1 ?_
    simp only [b_84_97, b_84_168, ↓reduceIte, Nat.reduceEqDiff, Nat.reduceMul, q_n10, q_n01, Option.bind_some, g_aft0, g_aft1, g_aft2, g_aft3, g_aft9, Nat.reduceAdd, m_kill_0, m_kill_2, m_kill_3, m_kill_4, m_kill_9, true_or, or_true, q_lm1, q_l0, q_l1, q_l2, q_l3, q_l4, q_l5, q_l6, q_l8, q_l9, q_l10, q_l12, q_l32, q_l50, q_l120, q_l122, q_l126, q_l372, q_l1000, q_l1000000, q_surF hL.2.2.1, q_tkF hL.2.1, hs, w9, Int.le_refl]
  · have h3 := hvc.2 hc
    refine ⟨_, ?_, f0, fun q => absurd q hc, fun _ => p0⟩
    simp only [e_84, b_84_0, b_84_12, ↓reduceIte, Nat.reduceEqDiff, Nat.reduceMul, q_n10, q_n01, Option.bind_some, g_aft0, g_aft1, g_aft2, g_aft3, g_aft9, Nat.reduceAdd, m_kill_0, m_kill_2, m_kill_3, m_kill_4, m_kill_9, true_or, or_true, q_lm1, q_l0, q_l1, q_l2, q_l3, q_l4, q_l5, q_l6, q_l8, q_l9, q_l10, q_l12, q_l32, q_l50, q_l120, q_l122, q_l126, q_l372, q_l1000, q_l1000000, q_surF hL.2.2.1, q_tkF hL.2.1, m_up2_nk, ne_eq, h3, not_false_eq_true, Nat.reduceEqDiff]
end
end
