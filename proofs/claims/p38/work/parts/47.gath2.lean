section
/-! The points are gathered, going on. -/
section
variable {Z : mZ} {K : Nat → mK} {σ N : Nat → Nat → Int} {e s g i : Nat} {t p q : Int}
theorem s_gx {L : List wP} {l0 : mV} (hL : q_lay K) (hv : v_a σ N t) (hw : q_wf N) (hc : w_cn N) (ht : 0 ≤ t) (ht2 : t ≤ 10) (hp : v_p σ L) (hlen : L.length ≤ 332) (hg : g < w_ne N) : ∃ (τ : Nat → Nat → Int) (l3 : mV), m_run Z (84, 46, [(2, ((138 : Nat) : Int)), (0, (g : Int)), (0, ((0 : Nat) : Int)), l0], [], (K, σ, 191, e, s)) = m_run Z (84, 89, [(2, ((138 : Nat) : Int)), (0, (g : Int)), (0, (w_nn N : Int)), l3], [], (K, τ, 191, e, s)) ∧ v_p τ (L ++ q_cat (fun i => q_cat (w_xl N t g i) (w_nn N)) (w_nn N)) ∧ q_f8 σ τ := by
  have n8 := (wf_n hw).2.2
  have w9 : w32 (w_nn N : Int) = (w_nn N : Int) := q_w (by omega)
  have inner : ∀ i, i < w_nn N → ∀ x, (v_p x (L ++ q_cat (fun i => q_cat (w_xl N t g i) (w_nn N)) i) ∧ q_f8 σ x) → ∃ y, m_run Z (84, 59, [(2, ((138 : Nat) : Int)), (0, (g : Int)), (0, (i : Int)), (0, ((0 : Nat) : Int))], [], (K, x, 191, e, s)) = m_run Z (84, 59, [(2, ((138 : Nat) : Int)), (0, (g : Int)), (0, (i : Int)), (0, (w_nn N : Int))], [], (K, y, 191, e, s)) ∧ v_p y (L ++ q_cat (fun i => q_cat (w_xl N t g i) (w_nn N)) i ++ q_cat (w_xl N t g i) (w_nn N)) ∧ q_f8 σ y := by
    intro i hi x hx
    refine q_loop (Z := Z) (N := w_nn N) (S := fun j x => (84, 59, [(2, ((138 : Nat) : Int)), (0, (g : Int)), (0, (i : Int)), (0, (j : Int))], [], (K, x, 191, e, s))) (P := fun j x => v_p x (L ++ q_cat (fun i => q_cat (w_xl N t g i) (w_nn N)) i ++ q_cat (w_xl N t g i) j) ∧ q_f8 σ x) ?_ (w_nn N) 0 x (by omega) (by rw [show q_cat (w_xl N t g i) 0 = [] from rfl, List.append_nil]; exact hx)
    intro j x hj hx
    have w0 : w32 (j : Int) = (j : Int) := q_w (by omega)
    have e1 : (((j + 1 : Nat)) : Int) = (j : Int) + 1 := by omega
    have c0 : ¬ (w_nn N : Int) ≤ (j : Int) := by omega
    have hva := v_a_f8 hv hx.2
    have hn := v_n hva.1 hw
    obtain ⟨τ, h1, h2, h3⟩ := s_addX (Z := Z) (e := e) (s := s) (i := i) (j := j) hL hva hw hc ht ht2 hx.1 (by
      intro hac
      have hcn := w_cnt hw (t := t) (g := g) hi hj
      rw [if_pos hac, List.length_append] at hcn
      rw [List.length_append, List.length_append]
      clear hn w0 w9
      omega) hg hi hj
    refine ⟨τ, ?_, ?_, q_f8_t hx.2 h3⟩
    · conv => lhs; simp only [b_84_59, ↓reduceIte, Nat.reduceEqDiff, Nat.reduceMul, q_n10, q_n01, Option.bind_some, g_aft0, g_aft1, g_aft2, g_aft3, g_aft9, Nat.reduceAdd, m_kill_0, m_kill_2, m_kill_3, m_kill_4, m_kill_9, true_or, or_true, q_lm1, q_l0, q_l1, q_l2, q_l3, q_l4, q_l5, q_l6, q_l8, q_l9, q_l10, q_l12, q_l32, q_l50, q_l120, q_l122, q_l126, q_l372, q_l1000, q_l1000000, q_surF hL.2.2.1, q_tkF hL.2.1, hn, w0, c0]
      simp only [b_84_0, b_84_12, b_84_13, b_84_26, b_84_33, b_84_40, b_84_44, b_84_57, b_84_70, b_84_77, b_84_83, b_84_89, b_84_95, b_84_108, b_84_120, b_84_131, b_84_135, b_84_147, b_84_158, b_84_162, b_84_168, ↓reduceIte, Nat.reduceEqDiff, Nat.reduceMul, q_n10, q_n01, Option.bind_some, g_aft0, g_aft1, g_aft2, g_aft3, g_aft9, Nat.reduceAdd, m_kill_0, m_kill_2, m_kill_3, m_kill_4, m_kill_9, true_or, or_true, q_lm1, q_l0, q_l1, q_l2, q_l3, q_l4, q_l5, q_l6, q_l8, q_l9, q_l10, q_l12, q_l32, q_l50, q_l120, q_l122, q_l126, q_l372, q_l1000, q_l1000000, q_surF hL.2.2.1, q_tkF hL.2.1, h1, e1]
    · rw [q_cat_s, ← List.append_assoc]
      exact h2
  obtain ⟨y, h1, h2⟩ := q_loop (Z := Z) (N := w_nn N) (S := fun i (x : (Nat → Nat → Int) × mV) => (84, 46, [(2, ((138 : Nat) : Int)), (0, (g : Int)), (0, (i : Int)), x.2], [], (K, x.1, 191, e, s))) (P := fun i x => v_p x.1 (L ++ q_cat (fun i => q_cat (w_xl N t g i) (w_nn N)) i) ∧ q_f8 σ x.1) (by
    intro i x hi hx
    have w0 : w32 (i : Int) = (i : Int) := q_w (by omega)
    have e1 : (((i + 1 : Nat)) : Int) = (i : Int) + 1 := by omega
    have c0 : ¬ (w_nn N : Int) ≤ (i : Int) := by omega
    have hn := v_n (v_a_f8 hv hx.2).1 hw
    obtain ⟨y, h1, h2, h3⟩ := inner i hi x.1 hx
    have hn2 := v_n (v_a_f8 hv h3).1 hw
    refine ⟨(y, (0, (w_nn N : Int))), ?_, ?_, h3⟩
    · conv => lhs; simp only [b_84_46, b_84_57, ↓reduceIte, Nat.reduceEqDiff, Nat.reduceMul, q_n10, q_n01, Option.bind_some, g_aft0, g_aft1, g_aft2, g_aft3, g_aft9, Nat.reduceAdd, m_kill_0, m_kill_2, m_kill_3, m_kill_4, m_kill_9, true_or, or_true, q_lm1, q_l0, q_l1, q_l2, q_l3, q_l4, q_l5, q_l6, q_l8, q_l9, q_l10, q_l12, q_l32, q_l50, q_l120, q_l122, q_l126, q_l372, q_l1000, q_l1000000, q_surF hL.2.2.1, q_tkF hL.2.1, hn, w0, c0]
      refine Eq.trans h1 ?_
      simp only [b_84_59, b_84_83, ↓reduceIte, Nat.reduceEqDiff, Nat.reduceMul, q_n10, q_n01, Option.bind_some, g_aft0, g_aft1, g_aft2, g_aft3, g_aft9, Nat.reduceAdd, m_kill_0, m_kill_2, m_kill_3, m_kill_4, m_kill_9, true_or, or_true, q_lm1, q_l0, q_l1, q_l2, q_l3, q_l4, q_l5, q_l6, q_l8, q_l9, q_l10, q_l12, q_l32, q_l50, q_l120, q_l122, q_l126, q_l372, q_l1000, q_l1000000, q_surF hL.2.2.1, q_tkF hL.2.1, hn2, w9, Int.le_refl, e1]
    · rw [q_cat_s, ← List.append_assoc]
      exact h2) (w_nn N) 0 (σ, l0) (by omega) ⟨by rw [show q_cat (fun i => q_cat (w_xl N t g i) (w_nn N)) 0 = [] from rfl, List.append_nil]; exact hp, q_f8_r⟩
  have hn := v_n (v_a_f8 hv h2.2).1 hw
  refine ⟨y.1, y.2, ?_, h2⟩
  refine h1.trans ?_
  conv => lhs; simp only [b_84_46, ↓reduceIte, Nat.reduceEqDiff, Nat.reduceMul, q_n10, q_n01, Option.bind_some, g_aft0, g_aft1, g_aft2, g_aft3, g_aft9, Nat.reduceAdd, m_kill_0, m_kill_2, m_kill_3, m_kill_4, m_kill_9, true_or, or_true, q_lm1, q_l0, q_l1, q_l2, q_l3, q_l4, q_l5, q_l6, q_l8, q_l9, q_l10, q_l12, q_l32, q_l50, q_l120, q_l122, q_l126, q_l372, q_l1000, q_l1000000, q_surF hL.2.2.1, q_tkF hL.2.1, hn, w9, Int.le_refl]
end
end
