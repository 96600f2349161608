section
/-! The survey measures. -/
theorem d_fw_same {F : Int} {N : Nat → Nat → Int} (hN : q_wf N) (hF : 100000 ≤ F) {k : Nat} (hk : k ≤ 8) (a : Nat) : d_fw F N (k + 1) a k = d_fw F N k a k ∧ d_fw F N (k + 1) k a = d_fw F N k k a := by
  have h1 := d_fw_b hN hF hk a k
  have h2 := d_fw_b hN hF hk k a
  have h3 := (d_fw_b hN hF hk k k).1 rfl
  constructor
  · show (if _ then _ else _) = _
    rw [if_neg (by omega)]
  · show (if _ then _ else _) = _
    rw [if_neg (by omega)]
def v_c (σ : Nat → Nat → Int) (N : Nat → Nat → Int) : Prop := (w_cn N → σ 138 3 = 1) ∧ (¬ w_cn N → σ 138 3 = 0)
def w_gd (f : Nat → Nat → Int) (n : Nat) : Int := q_it (fun a x => q_it (fun b y => if y < f a b then f a b else y) n x) n 0
section
variable {Z : mZ} {K : Nat → mK} {σ N : Nat → Nat → Int} {e s g i : Nat} {t p q : Int}
theorem s_short {k : Nat} (hL : q_lay K) (ht : nAt σ 139 N) (hw : q_wf N) (hk : k < w_nn N) (hd0 : ∀ a b, a < w_nn N → b < w_nn N → σ 159 (8 * a + b) = d_fw 1000000 N k a b) : ∃ T, m_cl Z 73 [(2, ((138 : Nat) : Int)), (0, (k : Int))] (K, σ, 191, e, s) = some (.inl (9, 0), (K, q_put σ 159 T, 191, e, s)) ∧ ∀ a b, a < w_nn N → b < w_nn N → T (8 * a + b) = d_fw 1000000 N (k + 1) a b := by
  have hn := v_n ht hw
  have n8 := (wf_n hw).2.2
  have inner : ∀ a, a < w_nn N → ∀ (x : (Nat → Int) × mV), (∀ c d, c < w_nn N → d < w_nn N → x.1 (8 * c + d) = if c < a then d_fw 1000000 N (k + 1) c d else d_fw 1000000 N k c d) → ∃ y : (Nat → Int) × mV, m_run Z (73, 15, [(2, ((138 : Nat) : Int)), (0, (k : Int)), (0, (a : Int)), (0, ((0 : Nat) : Int)), x.2], [], (K, q_put σ 159 x.1, 191, e, s)) = m_run Z (73, 15, [(2, ((138 : Nat) : Int)), (0, (k : Int)), (0, (a : Int)), (0, (w_nn N : Int)), y.2], [], (K, q_put σ 159 y.1, 191, e, s)) ∧ ∀ c d, c < w_nn N → d < w_nn N → y.1 (8 * c + d) = if c < a ∨ c = a ∧ d < w_nn N then d_fw 1000000 N (k + 1) c d else d_fw 1000000 N k c d := by
    intro a ha x hx
    refine q_loop (Z := Z) (N := w_nn N) (S := fun b (x : (Nat → Int) × mV) => (73, 15, [(2, ((138 : Nat) : Int)), (0, (k : Int)), (0, (a : Int)), (0, (b : Int)), x.2], [], (K, q_put σ 159 x.1, 191, e, s))) (P := fun b x => ∀ c d, c < w_nn N → d < w_nn N → x.1 (8 * c + d) = if c < a ∨ c = a ∧ d < b then d_fw 1000000 N (k + 1) c d else d_fw 1000000 N k c d) ?_ (w_nn N) 0 x (by omega) ?_
    · intro b x hb hx
      have w0 : w32 (b : Int) = (b : Int) := q_w (by omega)
      have e1 : (((b + 1 : Nat)) : Int) = (b : Int) + 1 := by omega
      have c0 : ¬ (w_nn N : Int) ≤ (b : Int) := by omega
      have r1 : q_get (q_put σ 159 x.1) 159 64 ((a : Int) * 8 + (k : Int)) = d_fw 1000000 N k a k := by
        rw [q_get_ix (8 * a + k) (by omega) (by omega) (by omega), q_put_at, hx a k ha hk, (d_fw_same hw (by omega) (by omega) a).1]
        exact ite_self _
      have r2 : q_get (q_put σ 159 x.1) 159 64 ((k : Int) * 8 + (b : Int)) = d_fw 1000000 N k k b := by
        rw [q_get_ix (8 * k + b) (by omega) (by omega) (by omega), q_put_at, hx k b hk hb, (d_fw_same hw (by omega) (by omega) b).2]
        exact ite_self _
      have r3 : q_get (q_put σ 159 x.1) 159 64 ((a : Int) * 8 + (b : Int)) = d_fw 1000000 N k a b := by
        rw [q_get_ix (8 * a + b) (by omega) (by omega) (by omega), q_put_at, hx a b ha hb, if_neg (by omega)]
      have r4 : ∀ v, q_set (q_put σ 159 x.1) 159 64 ((a : Int) * 8 + (b : Int)) v = q_put σ 159 (m_up x.1 (8 * a + b) v) := by
        intro v
        rw [q_set_ix (8 * a + b) (by omega) (by omega) (by omega), q_put_at, q_put_put]
      have f1 := d_fw_b hw (F := 1000000) (by omega) (k := k) (by omega) a k
      have f2 := d_fw_b hw (F := 1000000) (by omega) (k := k) (by omega) k b
      have f3 := d_fw_b hw (F := 1000000) (by omega) (k := k) (by omega) a b
      have w1 : w32 (d_fw 1000000 N k a k + d_fw 1000000 N k k b) = d_fw 1000000 N k a k + d_fw 1000000 N k k b := q_wB (by omega) (by omega)
      have w2 : w32 (d_fw 1000000 N k a b) = d_fw 1000000 N k a b := q_wB (by omega) (by omega)
      have hnew : d_fw 1000000 N (k + 1) a b = if d_fw 1000000 N k a k + d_fw 1000000 N k k b < d_fw 1000000 N k a b then d_fw 1000000 N k a k + d_fw 1000000 N k k b else d_fw 1000000 N k a b := rfl
      by_cases c1 : d_fw 1000000 N k a k + d_fw 1000000 N k k b < d_fw 1000000 N k a b
      · refine ⟨(m_up x.1 (8 * a + b) (d_fw 1000000 N k a k + d_fw 1000000 N k k b), (0, d_fw 1000000 N k a k + d_fw 1000000 N k k b)), ?_, ?_⟩
        · conv => lhs; simp only [b_73_15, ↓reduceIte, Nat.reduceEqDiff, Nat.reduceMul, q_n10, q_n01, Option.bind_some, g_aft0, g_aft1, g_aft2, g_aft3, g_aft9, Nat.reduceAdd, m_kill_0, m_kill_2, m_kill_3, m_kill_4, m_kill_9, true_or, or_true, q_lm1, q_l0, q_l1, q_l2, q_l3, q_l4, q_l5, q_l6, q_l8, q_l9, q_l10, q_l12, q_l32, q_l50, q_l120, q_l122, q_l126, q_l372, q_l1000, q_l1000000, q_surF hL.2.2.1, q_tkF hL.2.1, q_put_ap, hn, w0, c0]
          simp only [b_73_0, b_73_13, b_73_26, b_73_32, b_73_38, b_73_49, b_73_52, b_73_67, b_73_73, b_73_79, ↓reduceIte, Nat.reduceEqDiff, Nat.reduceMul, q_n10, q_n01, Option.bind_some, g_aft0, g_aft1, g_aft2, g_aft3, g_aft9, Nat.reduceAdd, m_kill_0, m_kill_2, m_kill_3, m_kill_4, m_kill_9, true_or, or_true, q_lm1, q_l0, q_l1, q_l2, q_l3, q_l4, q_l5, q_l6, q_l8, q_l9, q_l10, q_l12, q_l32, q_l50, q_l120, q_l122, q_l126, q_l372, q_l1000, q_l1000000, q_surF hL.2.2.1, q_tkF hL.2.1, s_between hL, r_set, r1, r2, r3, r4, w1, w2, Int.not_le.mpr c1, e1]
        · intro c d hc hd
          try dsimp only
          by_cases c2 : c = a ∧ d = b
          · obtain ⟨rfl, rfl⟩ := c2
            rw [m_up_at, if_pos (by omega), hnew, if_pos c1]
          · rw [m_up_ne (by omega), hx c d hc hd]
            by_cases c3 : c < a ∨ c = a ∧ d < b
            · rw [if_pos c3, if_pos (by omega)]
            · rw [if_neg c3, if_neg (by omega)]
      · refine ⟨(x.1, (0, d_fw 1000000 N k a k + d_fw 1000000 N k k b)), ?_, ?_⟩
        · conv => lhs; simp only [b_73_15, ↓reduceIte, Nat.reduceEqDiff, Nat.reduceMul, q_n10, q_n01, Option.bind_some, g_aft0, g_aft1, g_aft2, g_aft3, g_aft9, Nat.reduceAdd, m_kill_0, m_kill_2, m_kill_3, m_kill_4, m_kill_9, true_or, or_true, q_lm1, q_l0, q_l1, q_l2, q_l3, q_l4, q_l5, q_l6, q_l8, q_l9, q_l10, q_l12, q_l32, q_l50, q_l120, q_l122, q_l126, q_l372, q_l1000, q_l1000000, q_surF hL.2.2.1, q_tkF hL.2.1, q_put_ap, hn, w0, c0]
          simp only [b_73_0, b_73_13, b_73_26, b_73_32, b_73_38, b_73_49, b_73_52, b_73_67, b_73_73, b_73_79, ↓reduceIte, Nat.reduceEqDiff, Nat.reduceMul, q_n10, q_n01, Option.bind_some, g_aft0, g_aft1, g_aft2, g_aft3, g_aft9, Nat.reduceAdd, m_kill_0, m_kill_2, m_kill_3, m_kill_4, m_kill_9, true_or, or_true, q_lm1, q_l0, q_l1, q_l2, q_l3, q_l4, q_l5, q_l6, q_l8, q_l9, q_l10, q_l12, q_l32, q_l50, q_l120, q_l122, q_l126, q_l372, q_l1000, q_l1000000, q_surF hL.2.2.1, q_tkF hL.2.1, s_between hL, r_set, r1, r2, r3, r4, w1, w2, Int.not_lt.mp c1, e1]
        · intro c d hc hd
          try dsimp only
          rw [hx c d hc hd]
          by_cases c2 : c = a ∧ d = b
          · obtain ⟨rfl, rfl⟩ := c2
            rw [if_neg (by omega), if_pos (by omega), hnew, if_neg c1]
          · by_cases c3 : c < a ∨ c = a ∧ d < b
            · rw [if_pos c3, if_pos (by omega)]
            · rw [if_neg c3, if_neg (by omega)]
    · intro c d hc hd
      rw [hx c d hc hd]
      by_cases c3 : c < a
      · rw [if_pos c3, if_pos (by omega)]
      · rw [if_neg c3, if_neg (by omega)]
  have w9 : w32 (w_nn N : Int) = (w_nn N : Int) := q_w (by omega)
  obtain ⟨y, h1, h2⟩ := q_loop (Z := Z) (N := w_nn N) (S := fun a (x : (Nat → Int) × mV × mV) => (73, 2, [(2, ((138 : Nat) : Int)), (0, (k : Int)), (0, (a : Int)), x.2.1, x.2.2], [], (K, q_put σ 159 x.1, 191, e, s))) (P := fun a x => ∀ c d, c < w_nn N → d < w_nn N → x.1 (8 * c + d) = if c < a then d_fw 1000000 N (k + 1) c d else d_fw 1000000 N k c d) (by
    intro a x ha hx
    have w0 : w32 (a : Int) = (a : Int) := q_w (by omega)
    have e1 : (((a + 1 : Nat)) : Int) = (a : Int) + 1 := by omega
    have c0 : ¬ (w_nn N : Int) ≤ (a : Int) := by omega
    obtain ⟨y, h1, h2⟩ := inner a ha (x.1, x.2.2) hx
    refine ⟨(y.1, (0, (w_nn N : Int)), y.2), ?_, ?_⟩
    · conv => lhs; simp only [b_73_2, b_73_13, ↓reduceIte, Nat.reduceEqDiff, Nat.reduceMul, q_n10, q_n01, Option.bind_some, g_aft0, g_aft1, g_aft2, g_aft3, g_aft9, Nat.reduceAdd, m_kill_0, m_kill_2, m_kill_3, m_kill_4, m_kill_9, true_or, or_true, q_lm1, q_l0, q_l1, q_l2, q_l3, q_l4, q_l5, q_l6, q_l8, q_l9, q_l10, q_l12, q_l32, q_l50, q_l120, q_l122, q_l126, q_l372, q_l1000, q_l1000000, q_surF hL.2.2.1, q_tkF hL.2.1, q_put_ap, hn, w0, c0]
      refine Eq.trans h1 ?_
      simp only [b_73_15, b_73_73, ↓reduceIte, Nat.reduceEqDiff, Nat.reduceMul, q_n10, q_n01, Option.bind_some, g_aft0, g_aft1, g_aft2, g_aft3, g_aft9, Nat.reduceAdd, m_kill_0, m_kill_2, m_kill_3, m_kill_4, m_kill_9, true_or, or_true, q_lm1, q_l0, q_l1, q_l2, q_l3, q_l4, q_l5, q_l6, q_l8, q_l9, q_l10, q_l12, q_l32, q_l50, q_l120, q_l122, q_l126, q_l372, q_l1000, q_l1000000, q_surF hL.2.2.1, q_tkF hL.2.1, q_put_ap, hn, w9, Int.le_refl, e1]
    · intro c d hc hd
      try dsimp only
      rw [h2 c d hc hd]
      by_cases c3 : c < a + 1
      · rw [if_pos (by omega), if_pos c3]
      · rw [if_neg (by omega), if_neg c3]) (w_nn N) 0 (σ 159, (9, 0), (9, 0)) (by omega) (by
    intro c d hc hd
    rw [if_neg (by omega)]
    exact hd0 c d hc hd)
  refine ⟨y.1, ?_, ?_⟩
  · rw [e_73, b_73_0]
    rw [q_put_self] at h1
    refine h1.trans ?_
    simp only [b_73_2, b_73_79, ↓reduceIte, Nat.reduceEqDiff, Nat.reduceMul, q_n10, q_n01, Option.bind_some, g_aft0, g_aft1, g_aft2, g_aft3, g_aft9, Nat.reduceAdd, m_kill_0, m_kill_2, m_kill_3, m_kill_4, m_kill_9, true_or, or_true, q_lm1, q_l0, q_l1, q_l2, q_l3, q_l4, q_l5, q_l6, q_l8, q_l9, q_l10, q_l12, q_l32, q_l50, q_l120, q_l122, q_l126, q_l372, q_l1000, q_l1000000, q_surF hL.2.2.1, q_tkF hL.2.1, q_put_ap, hn, w9, Int.le_refl]
  · intro a b ha hb
    rw [h2 a b ha hb, if_pos ha]
end
end
