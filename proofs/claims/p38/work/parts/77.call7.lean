section
/-! The class's calls: centers and medians. -/
section
variable {Z : mZ} {K : Nat → mK} {σ τ N M : Nat → Nat → Int} {R : Nat → Nat → Nat → Int} {e s g i L n c k : Nat} {t p q v b x y z w u S : Int} {X : Nat → Int}
theorem x_radius (hL : q_lay K) (h : w_ic σ N R c X L k) (hk : k < 999999) (hx : w32 x = x) (hy : w32 y = y) :
    (¬ ((0 ≤ x ∧ x < ((2 ^ w_nn N : Nat) : Int)) ∧ (y = 0 ∨ y = 1)) → m_cl Z 114 [(2, ((0 : Nat) : Int)), (0, x), (0, y)] (K, σ, 191, e, s) = some (.inr 1, (K, σ, 191, e + 1, s + 6))) ∧
    (((0 ≤ x ∧ x < ((2 ^ w_nn N : Nat) : Int)) ∧ (y = 0 ∨ y = 1)) → ∃ τ, w_ic τ N R c X L (k + 1) ∧ (∀ a, 191 ≤ a → τ a = σ a) ∧ (¬ y_cc N → m_cl Z 114 [(2, ((0 : Nat) : Int)), (0, x), (0, y)] (K, σ, 191, e, s) = some (.inr 2, (K, τ, 191, e + 1, s + 6))) ∧ (y_cc N → ∃ b, w_best (w_Hv N 0 x) (w_pts N 0) b ∧ m_cl Z 114 [(2, ((0 : Nat) : Int)), (0, x), (0, y)] (K, σ, 191, e, s) = some (.inl (0, w_red (w_Hv N 0 x b) b.2.2 y), (K, τ, 191, e, s)))) := by
  have h1 := a_hasSet (Z := Z) (e := e) (s := s) hL h.1 hx
  have hpa := a_isPart (Z := Z) (h := (K, σ, 191, e, s)) hy
  refine ⟨fun hn => ?_, fun hm => ?_⟩
  · by_cases c1 : 0 ≤ x ∧ x < ((2 ^ w_nn N : Nat) : Int)
    · rw [if_pos c1] at h1
      rw [if_neg (fun q => hn ⟨c1, q⟩)] at hpa
      simp only [e_114, b_114_0, b_114_8, b_114_11, b_114_15, b_114_18, b_114_22, b_114_23, b_114_26, b_114_38, b_114_45, b_114_48, b_114_56, b_114_74, ↓reduceIte, Nat.reduceEqDiff, Nat.reduceMul, q_n10, q_n01, Option.bind_some, g_aft0, g_aft1, g_aft2, g_aft3, g_aft9, Nat.reduceAdd, m_kill_0, m_kill_2, m_kill_3, m_kill_4, m_kill_9, true_or, or_true, q_lm1, q_l0, q_l1, q_l2, q_l3, q_l4, q_l5, q_l6, q_l8, q_l9, q_l10, q_l12, q_l32, q_l50, q_l120, q_l122, q_l126, q_l372, q_l1000, q_l1000000, q_clsF hL.1, q_n1F hL, q_obF hL, h1, hpa, rq_V0, g_aftE, Nat.reduceLT, m_thr]
    · rw [if_neg c1] at h1
      simp only [e_114, b_114_0, b_114_8, b_114_11, b_114_15, b_114_18, b_114_22, b_114_23, b_114_26, b_114_38, b_114_45, b_114_48, b_114_56, b_114_74, ↓reduceIte, Nat.reduceEqDiff, Nat.reduceMul, q_n10, q_n01, Option.bind_some, g_aft0, g_aft1, g_aft2, g_aft3, g_aft9, Nat.reduceAdd, m_kill_0, m_kill_2, m_kill_3, m_kill_4, m_kill_9, true_or, or_true, q_lm1, q_l0, q_l1, q_l2, q_l3, q_l4, q_l5, q_l6, q_l8, q_l9, q_l10, q_l12, q_l32, q_l50, q_l120, q_l122, q_l126, q_l372, q_l1000, q_l1000000, q_clsF hL.1, q_n1F hL, q_obF hL, h1, rq_V0, g_aftE, Nat.reduceLT, m_thr]
  · rw [if_pos hm.1] at h1
    rw [if_pos hm.2] at hpa
    obtain ⟨τ, t1, t2, t3, t4⟩ := x_take (Z := Z) (e := e) (s := s) (t := 0) hL h hk (by clear hx hy h1 hpa; omega) (by clear hx hy h1 hpa; omega)
    have hC := a_hasC (Z := Z) (e := e) (s := s) hL t2
    have pt0 : (0 : Int) ≤ 0 ∧ (0 : Int) ≤ 10 := by clear hx hy h1 hpa; omega
    by_cases hd : y_cc N
    · obtain ⟨b, b1, b2⟩ := a_seekC (Z := Z) (e := e) (s := s) (S := x) hL t2 hd
      have bok := w_bok h.1.1 hd.1 pt0.1 pt0.2 b1
      have hV := w_Hvb (S := x) h.1.1 hd.1 pt0.1 pt0.2 ⟨bok.1, bok.2.1⟩
      have hq : 1 ≤ b.2.2 ∧ b.2.2 ≤ 1000 := ⟨bok.2.1.1, bok.2.1.2.1⟩
      have hp : 0 ≤ b.2.1 ∧ b.2.1 ≤ 50000 := ⟨bok.2.1.2.2.2.2.1, bok.2.2⟩
      have hlow := a_lowest (Z := Z) (h := (K, q_bs τ (w_x5 (w_Hv N 0 x) b), 191, e, s)) (x := w_Hv N 0 x b) (y := b.2.2) (part := y) hV.1 hV.2 hq.1 hq.2 hy
      have z5 : (w_x5 (w_Hv N 0 x) b).2.2.2.1 = b.2.2 := rfl
      have z6 : (w_x5 (w_Hv N 0 x) b).2.2.2.2 = w_Hv N 0 x b := rfl
      refine ⟨q_bs τ (w_x5 (w_Hv N 0 x) b), w_icBs t3, fun a ha => by rw [q_bs_o (by omega)]; exact t4 a (by omega), fun q => absurd hd q, fun _ => ⟨b, b1, ?_⟩⟩
      simp only [e_114, b_114_0, b_114_8, b_114_11, b_114_15, b_114_18, b_114_22, b_114_23, b_114_26, b_114_38, b_114_45, b_114_48, b_114_56, b_114_74, ↓reduceIte, Nat.reduceEqDiff, Nat.reduceMul, q_n10, q_n01, Option.bind_some, g_aft0, g_aft1, g_aft2, g_aft3, g_aft9, Nat.reduceAdd, m_kill_0, m_kill_2, m_kill_3, m_kill_4, m_kill_9, true_or, or_true, q_lm1, q_l0, q_l1, q_l2, q_l3, q_l4, q_l5, q_l6, q_l8, q_l9, q_l10, q_l12, q_l32, q_l50, q_l120, q_l122, q_l126, q_l372, q_l1000, q_l1000000, q_clsF hL.1, q_n1F hL, q_obF hL, h1, hpa, rq_V1, t1, hC.1 hd, rq_N1, b2, q_bs_15, q_bs_16, z5, z6, hlow]
    · refine ⟨τ, t3, fun a ha => t4 a (by omega), fun _ => ?_, fun q => absurd q hd⟩
      simp only [e_114, b_114_0, b_114_8, b_114_11, b_114_15, b_114_18, b_114_22, b_114_23, b_114_26, b_114_38, b_114_45, b_114_48, b_114_56, b_114_74, ↓reduceIte, Nat.reduceEqDiff, Nat.reduceMul, q_n10, q_n01, Option.bind_some, g_aft0, g_aft1, g_aft2, g_aft3, g_aft9, Nat.reduceAdd, m_kill_0, m_kill_2, m_kill_3, m_kill_4, m_kill_9, true_or, or_true, q_lm1, q_l0, q_l1, q_l2, q_l3, q_l4, q_l5, q_l6, q_l8, q_l9, q_l10, q_l12, q_l32, q_l50, q_l120, q_l122, q_l126, q_l372, q_l1000, q_l1000000, q_clsF hL.1, q_n1F hL, q_obF hL, h1, hpa, rq_V1, t1, hC.2 hd, rq_N0, g_aftE, Nat.reduceLT, m_thr]
theorem x_center (hL : q_lay K) (h : w_ic σ N R c X L k) (hk : k < 999999) (hx : w32 x = x) (hy : w32 y = y) :
    (¬ ((0 ≤ x ∧ x < ((2 ^ w_nn N : Nat) : Int)) ∧ (0 ≤ y ∧ y ≤ 2)) → m_cl Z 115 [(2, ((0 : Nat) : Int)), (0, x), (0, y)] (K, σ, 191, e, s) = some (.inr 1, (K, σ, 191, e + 1, s + 6))) ∧
    (((0 ≤ x ∧ x < ((2 ^ w_nn N : Nat) : Int)) ∧ (0 ≤ y ∧ y ≤ 2)) → ∃ τ, w_ic τ N R c X L (k + 1) ∧ (∀ a, 191 ≤ a → τ a = σ a) ∧ (¬ y_cc N → m_cl Z 115 [(2, ((0 : Nat) : Int)), (0, x), (0, y)] (K, σ, 191, e, s) = some (.inr 2, (K, τ, 191, e + 1, s + 6))) ∧ (y_cc N → ∃ b, w_best (w_Hv N 0 x) (w_pts N 0) b ∧ m_cl Z 115 [(2, ((0 : Nat) : Int)), (0, x), (0, y)] (K, σ, 191, e, s) = some (.inl (0, y_bf (w_Hv N 0 x) b y), (K, τ, 191, e, s)))) := by
  have h1 := a_hasSet (Z := Z) (e := e) (s := s) hL h.1 hx
  have e2 : w32 2 = 2 := by decide
  refine ⟨fun hn => ?_, fun hm => ?_⟩
  · by_cases c1 : 0 ≤ x ∧ x < ((2 ^ w_nn N : Nat) : Int)
    · rw [if_pos c1] at h1
      by_cases c2 : y < 0
      · simp only [e_115, b_115_0, b_115_8, b_115_11, b_115_15, b_115_20, b_115_24, b_115_25, b_115_28, b_115_40, b_115_47, b_115_50, b_115_58, b_115_63, ↓reduceIte, Nat.reduceEqDiff, Nat.reduceMul, q_n10, q_n01, Option.bind_some, g_aft0, g_aft1, g_aft2, g_aft3, g_aft9, Nat.reduceAdd, m_kill_0, m_kill_2, m_kill_3, m_kill_4, m_kill_9, true_or, or_true, q_lm1, q_l0, q_l1, q_l2, q_l3, q_l4, q_l5, q_l6, q_l8, q_l9, q_l10, q_l12, q_l32, q_l50, q_l120, q_l122, q_l126, q_l372, q_l1000, q_l1000000, q_clsF hL.1, q_n1F hL, q_obF hL, h1, hy, c2, rq_V0, g_aftE, Nat.reduceLT, m_thr]
      · have c3 : 2 < y := by clear hx hy h1 e2; omega
        simp only [e_115, b_115_0, b_115_8, b_115_11, b_115_15, b_115_20, b_115_24, b_115_25, b_115_28, b_115_40, b_115_47, b_115_50, b_115_58, b_115_63, ↓reduceIte, Nat.reduceEqDiff, Nat.reduceMul, q_n10, q_n01, Option.bind_some, g_aft0, g_aft1, g_aft2, g_aft3, g_aft9, Nat.reduceAdd, m_kill_0, m_kill_2, m_kill_3, m_kill_4, m_kill_9, true_or, or_true, q_lm1, q_l0, q_l1, q_l2, q_l3, q_l4, q_l5, q_l6, q_l8, q_l9, q_l10, q_l12, q_l32, q_l50, q_l120, q_l122, q_l126, q_l372, q_l1000, q_l1000000, q_clsF hL.1, q_n1F hL, q_obF hL, h1, hy, c2, c3, rq_V0, g_aftE, Nat.reduceLT, m_thr]
    · rw [if_neg c1] at h1
      simp only [e_115, b_115_0, b_115_8, b_115_11, b_115_15, b_115_20, b_115_24, b_115_25, b_115_28, b_115_40, b_115_47, b_115_50, b_115_58, b_115_63, ↓reduceIte, Nat.reduceEqDiff, Nat.reduceMul, q_n10, q_n01, Option.bind_some, g_aft0, g_aft1, g_aft2, g_aft3, g_aft9, Nat.reduceAdd, m_kill_0, m_kill_2, m_kill_3, m_kill_4, m_kill_9, true_or, or_true, q_lm1, q_l0, q_l1, q_l2, q_l3, q_l4, q_l5, q_l6, q_l8, q_l9, q_l10, q_l12, q_l32, q_l50, q_l120, q_l122, q_l126, q_l372, q_l1000, q_l1000000, q_clsF hL.1, q_n1F hL, q_obF hL, h1, rq_V0, g_aftE, Nat.reduceLT, m_thr]
  · rw [if_pos hm.1] at h1
    have c1 : ¬ y < 0 := by clear hx hy h1 e2; omega
    have c2 : ¬ 2 < y := by clear hx hy h1 e2; omega
    obtain ⟨τ, t1, t2, t3, t4⟩ := x_take (Z := Z) (e := e) (s := s) (t := 0) hL h hk (by clear hx hy h1 e2; omega) (by clear hx hy h1 e2; omega)
    have hC := a_hasC (Z := Z) (e := e) (s := s) hL t2
    have pt0 : (0 : Int) ≤ 0 ∧ (0 : Int) ≤ 10 := by clear hx hy h1 e2; omega
    by_cases hd : y_cc N
    · obtain ⟨b, b1, b2⟩ := a_seekC (Z := Z) (e := e) (s := s) (S := x) hL t2 hd
      have bok := w_bok h.1.1 hd.1 pt0.1 pt0.2 b1
      have hV := w_Hvb (S := x) h.1.1 hd.1 pt0.1 pt0.2 ⟨bok.1, bok.2.1⟩
      have hq : 1 ≤ b.2.2 ∧ b.2.2 ≤ 1000 := ⟨bok.2.1.1, bok.2.1.2.1⟩
      have hp : 0 ≤ b.2.1 ∧ b.2.1 ≤ 50000 := ⟨bok.2.1.2.2.2.2.1, bok.2.2⟩
      have hbf := a_bf (Z := Z) (e := e) (s := s) (σ := τ) (w := y) hL hq hp hV hm.2.1 (by clear hx hy h1 e2; omega)
      refine ⟨q_bs τ (w_x5 (w_Hv N 0 x) b), w_icBs t3, fun a ha => by rw [q_bs_o (by omega)]; exact t4 a (by omega), fun q => absurd hd q, fun _ => ⟨b, b1, ?_⟩⟩
      simp only [e_115, b_115_0, b_115_8, b_115_11, b_115_15, b_115_20, b_115_24, b_115_25, b_115_28, b_115_40, b_115_47, b_115_50, b_115_58, b_115_63, ↓reduceIte, Nat.reduceEqDiff, Nat.reduceMul, q_n10, q_n01, Option.bind_some, g_aft0, g_aft1, g_aft2, g_aft3, g_aft9, Nat.reduceAdd, m_kill_0, m_kill_2, m_kill_3, m_kill_4, m_kill_9, true_or, or_true, q_lm1, q_l0, q_l1, q_l2, q_l3, q_l4, q_l5, q_l6, q_l8, q_l9, q_l10, q_l12, q_l32, q_l50, q_l120, q_l122, q_l126, q_l372, q_l1000, q_l1000000, q_clsF hL.1, q_n1F hL, q_obF hL, h1, hy, c1, c2, rq_V1, t1, hC.1 hd, rq_N1, b2, hbf]
    · refine ⟨τ, t3, fun a ha => t4 a (by omega), fun _ => ?_, fun q => absurd q hd⟩
      simp only [e_115, b_115_0, b_115_8, b_115_11, b_115_15, b_115_20, b_115_24, b_115_25, b_115_28, b_115_40, b_115_47, b_115_50, b_115_58, b_115_63, ↓reduceIte, Nat.reduceEqDiff, Nat.reduceMul, q_n10, q_n01, Option.bind_some, g_aft0, g_aft1, g_aft2, g_aft3, g_aft9, Nat.reduceAdd, m_kill_0, m_kill_2, m_kill_3, m_kill_4, m_kill_9, true_or, or_true, q_lm1, q_l0, q_l1, q_l2, q_l3, q_l4, q_l5, q_l6, q_l8, q_l9, q_l10, q_l12, q_l32, q_l50, q_l120, q_l122, q_l126, q_l372, q_l1000, q_l1000000, q_clsF hL.1, q_n1F hL, q_obF hL, h1, hy, c1, c2, rq_V1, t1, hC.2 hd, rq_N0, g_aftE, Nat.reduceLT, m_thr]
theorem x_critical (hL : q_lay K) (h : w_ic σ N R c X L k) (hk : k < 999999) (hx : w32 x = x) :
    (¬ (0 ≤ x ∧ x < ((2 ^ w_nn N : Nat) : Int)) → m_cl Z 116 [(2, ((0 : Nat) : Int)), (0, x)] (K, σ, 191, e, s) = some (.inr 1, (K, σ, 191, e + 1, s + 6))) ∧
    ((0 ≤ x ∧ x < ((2 ^ w_nn N : Nat) : Int)) → ∃ τ, w_ic τ N R c X L (k + 1) ∧ (∀ a, 191 ≤ a → τ a = σ a) ∧ (¬ y_cc N → m_cl Z 116 [(2, ((0 : Nat) : Int)), (0, x)] (K, σ, 191, e, s) = some (.inr 2, (K, τ, 191, e + 1, s + 6))) ∧ (y_cc N → ∃ b, w_best (w_Hv N 0 x) (w_pts N 0) b ∧ m_cl Z 116 [(2, ((0 : Nat) : Int)), (0, x)] (K, σ, 191, e, s) = some (.inl (0, w_or (fun i => decide (q_bt x i = true ∧ w_F N 0 b.1 i b.2.1 b.2.2 = w_Hv N 0 x b)) (w_nn N)), (K, τ, 191, e, s)))) := by
  have h1 := a_hasSet (Z := Z) (e := e) (s := s) hL h.1 hx
  refine ⟨fun hn => ?_, fun hm => ?_⟩
  · rw [if_neg hn] at h1
    simp only [e_116, b_116_0, b_116_8, b_116_11, b_116_23, b_116_30, b_116_33, b_116_41, b_116_49, ↓reduceIte, Nat.reduceEqDiff, Nat.reduceMul, q_n10, q_n01, Option.bind_some, g_aft0, g_aft1, g_aft2, g_aft3, g_aft9, Nat.reduceAdd, m_kill_0, m_kill_2, m_kill_3, m_kill_4, m_kill_9, true_or, or_true, q_lm1, q_l0, q_l1, q_l2, q_l3, q_l4, q_l5, q_l6, q_l8, q_l9, q_l10, q_l12, q_l32, q_l50, q_l120, q_l122, q_l126, q_l372, q_l1000, q_l1000000, q_clsF hL.1, q_n1F hL, q_obF hL, h1, rq_V0, g_aftE, Nat.reduceLT, m_thr]
  · rw [if_pos hm] at h1
    obtain ⟨τ, t1, t2, t3, t4⟩ := x_take (Z := Z) (e := e) (s := s) (t := 0) hL h hk (by clear hx h1; omega) (by clear hx h1; omega)
    have hC := a_hasC (Z := Z) (e := e) (s := s) hL t2
    have pt0 : (0 : Int) ≤ 0 ∧ (0 : Int) ≤ 10 := by clear hx h1; omega
    by_cases hd : y_cc N
    · obtain ⟨b, b1, b2⟩ := a_seekC (Z := Z) (e := e) (s := s) (S := x) hL t2 hd
      have bok := w_bok h.1.1 hd.1 pt0.1 pt0.2 b1
      have hV := w_Hvb (S := x) h.1.1 hd.1 pt0.1 pt0.2 ⟨bok.1, bok.2.1⟩
      have hq : 1 ≤ b.2.2 ∧ b.2.2 ≤ 1000 := ⟨bok.2.1.1, bok.2.1.2.1⟩
      have hp : 0 ≤ b.2.1 ∧ b.2.1 ≤ 50000 := ⟨bok.2.1.2.2.2.2.1, bok.2.2⟩
      have w2 := w_svBs (x5 := w_x5 (w_Hv N 0 x) b) t2
      have hcr := s_crit (Z := Z) (e := e) (s := s) (S := x) (h := w_Hv N 0 x b) hL w2.2.2.2.1.1 w2.2.2.2.1.2.2.2 w2.2.2.2.1.2.1 h.1.1 hd.1 bok.1 bok.2.1 q_bs_13 q_bs_14 q_bs_15 q_bs_16 (by clear hx h1; exact q_wB (by omega) hV.2)
      refine ⟨q_bs τ (w_x5 (w_Hv N 0 x) b), w_icBs t3, fun a ha => by rw [q_bs_o (by omega)]; exact t4 a (by omega), fun q => absurd hd q, fun _ => ⟨b, b1, ?_⟩⟩
      simp only [e_116, b_116_0, b_116_8, b_116_11, b_116_23, b_116_30, b_116_33, b_116_41, b_116_49, ↓reduceIte, Nat.reduceEqDiff, Nat.reduceMul, q_n10, q_n01, Option.bind_some, g_aft0, g_aft1, g_aft2, g_aft3, g_aft9, Nat.reduceAdd, m_kill_0, m_kill_2, m_kill_3, m_kill_4, m_kill_9, true_or, or_true, q_lm1, q_l0, q_l1, q_l2, q_l3, q_l4, q_l5, q_l6, q_l8, q_l9, q_l10, q_l12, q_l32, q_l50, q_l120, q_l122, q_l126, q_l372, q_l1000, q_l1000000, q_clsF hL.1, q_n1F hL, q_obF hL, h1, rq_V1, t1, hC.1 hd, rq_N1, b2, hcr]
    · refine ⟨τ, t3, fun a ha => t4 a (by omega), fun _ => ?_, fun q => absurd q hd⟩
      simp only [e_116, b_116_0, b_116_8, b_116_11, b_116_23, b_116_30, b_116_33, b_116_41, b_116_49, ↓reduceIte, Nat.reduceEqDiff, Nat.reduceMul, q_n10, q_n01, Option.bind_some, g_aft0, g_aft1, g_aft2, g_aft3, g_aft9, Nat.reduceAdd, m_kill_0, m_kill_2, m_kill_3, m_kill_4, m_kill_9, true_or, or_true, q_lm1, q_l0, q_l1, q_l2, q_l3, q_l4, q_l5, q_l6, q_l8, q_l9, q_l10, q_l12, q_l32, q_l50, q_l120, q_l122, q_l126, q_l372, q_l1000, q_l1000000, q_clsF hL.1, q_n1F hL, q_obF hL, h1, rq_V1, t1, hC.2 hd, rq_N0, g_aftE, Nat.reduceLT, m_thr]
theorem x_median (hL : q_lay K) (h : w_ic σ N R c X L k) (hk : k < 999999) (hx : w32 x = x) :
    (¬ (0 ≤ x ∧ x ≤ 4) → m_cl Z 117 [(2, ((0 : Nat) : Int)), (0, x)] (K, σ, 191, e, s) = some (.inr 1, (K, σ, 191, e + 1, s + 6))) ∧
    ((0 ≤ x ∧ x ≤ 4) → ∃ τ, w_ic τ N R c X L (k + 1) ∧ (∀ a, 191 ≤ a → τ a = σ a) ∧ (¬ y_cc N → m_cl Z 117 [(2, ((0 : Nat) : Int)), (0, x)] (K, σ, 191, e, s) = some (.inr 2, (K, τ, 191, e + 1, s + 6))) ∧ (y_cc N → ∃ b, w_best (w_Cv N 0) (w_pts N 0) b ∧ m_cl Z 117 [(2, ((0 : Nat) : Int)), (0, x)] (K, σ, 191, e, s) = some (.inl (0, y_bf (w_Cv N 0) b x), (K, τ, 191, e, s)))) := by
  have e4 : w32 4 = 4 := by decide
  refine ⟨fun hn => ?_, fun hm => ?_⟩
  · by_cases c2 : x < 0
    · simp only [e_117, b_117_0, b_117_4, b_117_9, b_117_13, b_117_14, b_117_17, b_117_29, b_117_36, b_117_39, b_117_46, b_117_51, ↓reduceIte, Nat.reduceEqDiff, Nat.reduceMul, q_n10, q_n01, Option.bind_some, g_aft0, g_aft1, g_aft2, g_aft3, g_aft9, Nat.reduceAdd, m_kill_0, m_kill_2, m_kill_3, m_kill_4, m_kill_9, true_or, or_true, q_lm1, q_l0, q_l1, q_l2, q_l3, q_l4, q_l5, q_l6, q_l8, q_l9, q_l10, q_l12, q_l32, q_l50, q_l120, q_l122, q_l126, q_l372, q_l1000, q_l1000000, q_clsF hL.1, q_n1F hL, q_obF hL, hx, c2, rq_V0, g_aftE, Nat.reduceLT, m_thr]
    · have c3 : 4 < x := by clear hx e4; omega
      simp only [e_117, b_117_0, b_117_4, b_117_9, b_117_13, b_117_14, b_117_17, b_117_29, b_117_36, b_117_39, b_117_46, b_117_51, ↓reduceIte, Nat.reduceEqDiff, Nat.reduceMul, q_n10, q_n01, Option.bind_some, g_aft0, g_aft1, g_aft2, g_aft3, g_aft9, Nat.reduceAdd, m_kill_0, m_kill_2, m_kill_3, m_kill_4, m_kill_9, true_or, or_true, q_lm1, q_l0, q_l1, q_l2, q_l3, q_l4, q_l5, q_l6, q_l8, q_l9, q_l10, q_l12, q_l32, q_l50, q_l120, q_l122, q_l126, q_l372, q_l1000, q_l1000000, q_clsF hL.1, q_n1F hL, q_obF hL, hx, c2, c3, rq_V0, g_aftE, Nat.reduceLT, m_thr]
  · have c1 : ¬ x < 0 := by clear hx e4; omega
    have c2 : ¬ 4 < x := by clear hx e4; omega
    obtain ⟨τ, t1, t2, t3, t4⟩ := x_take (Z := Z) (e := e) (s := s) (t := 0) hL h hk (by clear hx e4; omega) (by clear hx e4; omega)
    have hC := a_hasC (Z := Z) (e := e) (s := s) hL t2
    have pt0 : (0 : Int) ≤ 0 ∧ (0 : Int) ≤ 10 := by clear hx e4; omega
    by_cases hd : y_cc N
    · obtain ⟨b, b1, b2⟩ := a_seekM (Z := Z) (e := e) (s := s) hL t2 hd
      have bok := w_bok h.1.1 hd.1 pt0.1 pt0.2 b1
      have hV := w_Cvb h.1.1 hd.1 pt0.1 pt0.2 ⟨bok.1, bok.2.1⟩
      have hq : 1 ≤ b.2.2 ∧ b.2.2 ≤ 1000 := ⟨bok.2.1.1, bok.2.1.2.1⟩
      have hp : 0 ≤ b.2.1 ∧ b.2.1 ≤ 50000 := ⟨bok.2.1.2.2.2.2.1, bok.2.2⟩
      have hbf := a_bf (Z := Z) (e := e) (s := s) (σ := τ) (w := x) hL hq hp hV hm.1 hm.2
      refine ⟨q_bs τ (w_x5 (w_Cv N 0) b), w_icBs t3, fun a ha => by rw [q_bs_o (by omega)]; exact t4 a (by omega), fun q => absurd hd q, fun _ => ⟨b, b1, ?_⟩⟩
      simp only [e_117, b_117_0, b_117_4, b_117_9, b_117_13, b_117_14, b_117_17, b_117_29, b_117_36, b_117_39, b_117_46, b_117_51, ↓reduceIte, Nat.reduceEqDiff, Nat.reduceMul, q_n10, q_n01, Option.bind_some, g_aft0, g_aft1, g_aft2, g_aft3, g_aft9, Nat.reduceAdd, m_kill_0, m_kill_2, m_kill_3, m_kill_4, m_kill_9, true_or, or_true, q_lm1, q_l0, q_l1, q_l2, q_l3, q_l4, q_l5, q_l6, q_l8, q_l9, q_l10, q_l12, q_l32, q_l50, q_l120, q_l122, q_l126, q_l372, q_l1000, q_l1000000, q_clsF hL.1, q_n1F hL, q_obF hL, hx, c1, c2, rq_V1, t1, hC.1 hd, rq_N1, b2, hbf]
    · refine ⟨τ, t3, fun a ha => t4 a (by omega), fun _ => ?_, fun q => absurd q hd⟩
      simp only [e_117, b_117_0, b_117_4, b_117_9, b_117_13, b_117_14, b_117_17, b_117_29, b_117_36, b_117_39, b_117_46, b_117_51, ↓reduceIte, Nat.reduceEqDiff, Nat.reduceMul, q_n10, q_n01, Option.bind_some, g_aft0, g_aft1, g_aft2, g_aft3, g_aft9, Nat.reduceAdd, m_kill_0, m_kill_2, m_kill_3, m_kill_4, m_kill_9, true_or, or_true, q_lm1, q_l0, q_l1, q_l2, q_l3, q_l4, q_l5, q_l6, q_l8, q_l9, q_l10, q_l12, q_l32, q_l50, q_l120, q_l122, q_l126, q_l372, q_l1000, q_l1000000, q_clsF hL.1, q_n1F hL, q_obF hL, hx, c1, c2, rq_V1, t1, hC.2 hd, rq_N0, g_aftE, Nat.reduceLT, m_thr]
theorem x_changed (hL : q_lay K) (h : w_ic σ N R c X L k) (hk : k < 999999) (hx : w32 x = x) (hy : w32 y = y) :
    (¬ ((0 ≤ x ∧ x ≤ 10) ∧ (y = 0 ∨ y = 1)) → m_cl Z 122 [(2, ((0 : Nat) : Int)), (0, x), (0, y)] (K, σ, 191, e, s) = some (.inr 1, (K, σ, 191, e + 1, s + 6))) ∧
    (((0 ≤ x ∧ x ≤ 10) ∧ (y = 0 ∨ y = 1)) → ∃ τ, w_ic τ N R c X L (k + 1) ∧ (∀ a, 191 ≤ a → τ a = σ a) ∧ (¬ y_cc N → m_cl Z 122 [(2, ((0 : Nat) : Int)), (0, x), (0, y)] (K, σ, 191, e, s) = some (.inr 2, (K, τ, 191, e + 1, s + 6))) ∧ (y_cc N → ∃ b, w_best (w_Hv N x ((2 ^ w_nn N - 1 : Nat) : Int)) (w_pts N x) b ∧ m_cl Z 122 [(2, ((0 : Nat) : Int)), (0, x), (0, y)] (K, σ, 191, e, s) = some (.inl (0, w_red (w_Hv N x ((2 ^ w_nn N - 1 : Nat) : Int) b) b.2.2 y), (K, τ, 191, e, s)))) := by
  have e10 : w32 10 = 10 := by decide
  have hpa := a_isPart (Z := Z) (h := (K, σ, 191, e, s)) hy
  refine ⟨fun hn => ?_, fun hm => ?_⟩
  · by_cases c1 : x < 0
    · simp only [e_122, b_122_0, b_122_4, b_122_10, b_122_14, b_122_17, b_122_21, b_122_22, b_122_25, b_122_37, b_122_44, b_122_47, b_122_58, b_122_61, b_122_79, ↓reduceIte, Nat.reduceEqDiff, Nat.reduceMul, q_n10, q_n01, Option.bind_some, g_aft0, g_aft1, g_aft2, g_aft3, g_aft9, Nat.reduceAdd, m_kill_0, m_kill_2, m_kill_3, m_kill_4, m_kill_9, true_or, or_true, q_lm1, q_l0, q_l1, q_l2, q_l3, q_l4, q_l5, q_l6, q_l8, q_l9, q_l10, q_l12, q_l32, q_l50, q_l120, q_l122, q_l126, q_l372, q_l1000, q_l1000000, q_clsF hL.1, q_n1F hL, q_obF hL, hx, c1, rq_V0, g_aftE, Nat.reduceLT, m_thr]
    · by_cases c2 : 10 < x
      · simp only [e_122, b_122_0, b_122_4, b_122_10, b_122_14, b_122_17, b_122_21, b_122_22, b_122_25, b_122_37, b_122_44, b_122_47, b_122_58, b_122_61, b_122_79, ↓reduceIte, Nat.reduceEqDiff, Nat.reduceMul, q_n10, q_n01, Option.bind_some, g_aft0, g_aft1, g_aft2, g_aft3, g_aft9, Nat.reduceAdd, m_kill_0, m_kill_2, m_kill_3, m_kill_4, m_kill_9, true_or, or_true, q_lm1, q_l0, q_l1, q_l2, q_l3, q_l4, q_l5, q_l6, q_l8, q_l9, q_l10, q_l12, q_l32, q_l50, q_l120, q_l122, q_l126, q_l372, q_l1000, q_l1000000, q_clsF hL.1, q_n1F hL, q_obF hL, hx, c1, c2, rq_V0, g_aftE, Nat.reduceLT, m_thr]
      · rw [if_neg (fun q => hn ⟨by clear hx hy hpa e10; omega, q⟩)] at hpa
        simp only [e_122, b_122_0, b_122_4, b_122_10, b_122_14, b_122_17, b_122_21, b_122_22, b_122_25, b_122_37, b_122_44, b_122_47, b_122_58, b_122_61, b_122_79, ↓reduceIte, Nat.reduceEqDiff, Nat.reduceMul, q_n10, q_n01, Option.bind_some, g_aft0, g_aft1, g_aft2, g_aft3, g_aft9, Nat.reduceAdd, m_kill_0, m_kill_2, m_kill_3, m_kill_4, m_kill_9, true_or, or_true, q_lm1, q_l0, q_l1, q_l2, q_l3, q_l4, q_l5, q_l6, q_l8, q_l9, q_l10, q_l12, q_l32, q_l50, q_l120, q_l122, q_l126, q_l372, q_l1000, q_l1000000, q_clsF hL.1, q_n1F hL, q_obF hL, hx, c1, c2, hpa, rq_V0, g_aftE, Nat.reduceLT, m_thr]
  · rw [if_pos hm.2] at hpa
    have c1 : ¬ x < 0 := by clear hx hy hpa e10; omega
    have c2 : ¬ 10 < x := by clear hx hy hpa e10; omega
    obtain ⟨τ, t1, t2, t3, t4⟩ := x_take (Z := Z) (e := e) (s := s) (t := x) hL h hk (by clear hx hy hpa e10; omega) (by clear hx hy hpa e10; omega)
    have hC := a_hasC (Z := Z) (e := e) (s := s) hL t2
    have pt0 : (0 : Int) ≤ x ∧ (x : Int) ≤ 10 := by clear hx hy hpa e10; omega
    by_cases hd : y_cc N
    · obtain ⟨b, b1, b2⟩ := a_seekC (Z := Z) (e := e) (s := s) (S := ((2 ^ w_nn N - 1 : Nat) : Int)) hL t2 hd
      have bok := w_bok h.1.1 hd.1 pt0.1 pt0.2 b1
      have hV := w_Hvb (S := ((2 ^ w_nn N - 1 : Nat) : Int)) h.1.1 hd.1 pt0.1 pt0.2 ⟨bok.1, bok.2.1⟩
      have hq : 1 ≤ b.2.2 ∧ b.2.2 ≤ 1000 := ⟨bok.2.1.1, bok.2.1.2.1⟩
      have hp : 0 ≤ b.2.1 ∧ b.2.1 ≤ 50000 := ⟨bok.2.1.2.2.2.2.1, bok.2.2⟩
      have hall := a_allNodes (Z := Z) (e := e) (s := s) hL t3.1
      have hlow := a_lowest (Z := Z) (h := (K, q_bs τ (w_x5 (w_Hv N x ((2 ^ w_nn N - 1 : Nat) : Int)) b), 191, e, s)) (x := w_Hv N x ((2 ^ w_nn N - 1 : Nat) : Int) b) (y := b.2.2) (part := y) hV.1 hV.2 hq.1 hq.2 hy
      have z5 : (w_x5 (w_Hv N x ((2 ^ w_nn N - 1 : Nat) : Int)) b).2.2.2.1 = b.2.2 := rfl
      have z6 : (w_x5 (w_Hv N x ((2 ^ w_nn N - 1 : Nat) : Int)) b).2.2.2.2 = w_Hv N x ((2 ^ w_nn N - 1 : Nat) : Int) b := rfl
      refine ⟨q_bs τ (w_x5 (w_Hv N x ((2 ^ w_nn N - 1 : Nat) : Int)) b), w_icBs t3, fun a ha => by rw [q_bs_o (by omega)]; exact t4 a (by omega), fun q => absurd hd q, fun _ => ⟨b, b1, ?_⟩⟩
      simp only [e_122, b_122_0, b_122_4, b_122_10, b_122_14, b_122_17, b_122_21, b_122_22, b_122_25, b_122_37, b_122_44, b_122_47, b_122_58, b_122_61, b_122_79, ↓reduceIte, Nat.reduceEqDiff, Nat.reduceMul, q_n10, q_n01, Option.bind_some, g_aft0, g_aft1, g_aft2, g_aft3, g_aft9, Nat.reduceAdd, m_kill_0, m_kill_2, m_kill_3, m_kill_4, m_kill_9, true_or, or_true, q_lm1, q_l0, q_l1, q_l2, q_l3, q_l4, q_l5, q_l6, q_l8, q_l9, q_l10, q_l12, q_l32, q_l50, q_l120, q_l122, q_l126, q_l372, q_l1000, q_l1000000, q_clsF hL.1, q_n1F hL, q_obF hL, hx, c1, c2, hpa, rq_V1, t1, hC.1 hd, rq_N1, b2, hall, q_bs_15, q_bs_16, z5, z6, hlow]
    · refine ⟨τ, t3, fun a ha => t4 a (by omega), fun _ => ?_, fun q => absurd q hd⟩
      simp only [e_122, b_122_0, b_122_4, b_122_10, b_122_14, b_122_17, b_122_21, b_122_22, b_122_25, b_122_37, b_122_44, b_122_47, b_122_58, b_122_61, b_122_79, ↓reduceIte, Nat.reduceEqDiff, Nat.reduceMul, q_n10, q_n01, Option.bind_some, g_aft0, g_aft1, g_aft2, g_aft3, g_aft9, Nat.reduceAdd, m_kill_0, m_kill_2, m_kill_3, m_kill_4, m_kill_9, true_or, or_true, q_lm1, q_l0, q_l1, q_l2, q_l3, q_l4, q_l5, q_l6, q_l8, q_l9, q_l10, q_l12, q_l32, q_l50, q_l120, q_l122, q_l126, q_l372, q_l1000, q_l1000000, q_clsF hL.1, q_n1F hL, q_obF hL, hx, c1, c2, hpa, rq_V1, t1, hC.2 hd, rq_N0, g_aftE, Nat.reduceLT, m_thr]
end
end
