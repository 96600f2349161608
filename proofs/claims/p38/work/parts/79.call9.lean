section
/-! The class's calls: groups, going on. -/
section
variable {Z : mZ} {K : Nat → mK} {σ τ N M : Nat → Nat → Int} {R : Nat → Nat → Nat → Int} {e s g i L n c k : Nat} {t p q v b x y z w u S : Int} {X : Nat → Int}
theorem x_radiusOf (hL : q_lay K) (h : w_ic σ N R c X L k) (hk : k < 999999) (hx : w32 x = x) (hy : w32 y = y) :
    (¬ ((1 ≤ x ∧ x ≤ 3) ∧ (y = 0 ∨ y = 1)) → m_cl Z 118 [(2, ((0 : Nat) : Int)), (0, x), (0, y)] (K, σ, 191, e, s) = some (.inr 1, (K, σ, 191, e + 1, s + 6))) ∧
    ((1 ≤ x ∧ x ≤ 3) ∧ (y = 0 ∨ y = 1) → ∃ τ, w_ic τ N R c X L (k + 1) ∧ (∀ a, 191 ≤ a → τ a = σ a) ∧ (¬ y_cc N → m_cl Z 118 [(2, ((0 : Nat) : Int)), (0, x), (0, y)] (K, σ, 191, e, s) = some (.inr 2, (K, τ, 191, e + 1, s + 6))) ∧ (y_cc N → ∃ f1 f2 f3 p q, y_gF N 0 f1 f2 f3 ∧ 0 ≤ p ∧ 1 ≤ q ∧ fr p q = y_fk f1 f2 f3 (2 ^ w_nn N - 1) x.toNat ∧ m_cl Z 118 [(2, ((0 : Nat) : Int)), (0, x), (0, y)] (K, σ, 191, e, s) = some (.inl (0, w_red p q y), (K, τ, 191, e, s)))) := by
  have e1 : w32 1 = 1 := by decide
  have e3 : w32 3 = 3 := by decide
  have hpa := a_isPart (Z := Z) (h := (K, σ, 191, e, s)) hy
  refine ⟨fun hn => ?_, fun hm => ?_⟩
  · by_cases c1 : x < 1
    · simp only [e_118, b_118_0, b_118_5, b_118_10, b_118_14, b_118_17, b_118_21, b_118_22, b_118_25, b_118_37, b_118_44, b_118_47, b_118_54, b_118_60, ↓reduceIte, Nat.reduceEqDiff, Nat.reduceMul, q_n10, q_n01, Option.bind_some, g_aft0, g_aft1, g_aft2, g_aft3, g_aft9, Nat.reduceAdd, m_kill_0, m_kill_2, m_kill_3, m_kill_4, m_kill_9, true_or, or_true, q_lm1, q_l0, q_l1, q_l2, q_l3, q_l4, q_l5, q_l6, q_l8, q_l9, q_l10, q_l12, q_l32, q_l50, q_l120, q_l122, q_l126, q_l372, q_l1000, q_l1000000, q_clsF hL.1, q_n1F hL, q_obF hL, hx, c1, rq_V0, g_aftE, Nat.reduceLT, m_thr]
    · by_cases c2 : 3 < x
      · simp only [e_118, b_118_0, b_118_5, b_118_10, b_118_14, b_118_17, b_118_21, b_118_22, b_118_25, b_118_37, b_118_44, b_118_47, b_118_54, b_118_60, ↓reduceIte, Nat.reduceEqDiff, Nat.reduceMul, q_n10, q_n01, Option.bind_some, g_aft0, g_aft1, g_aft2, g_aft3, g_aft9, Nat.reduceAdd, m_kill_0, m_kill_2, m_kill_3, m_kill_4, m_kill_9, true_or, or_true, q_lm1, q_l0, q_l1, q_l2, q_l3, q_l4, q_l5, q_l6, q_l8, q_l9, q_l10, q_l12, q_l32, q_l50, q_l120, q_l122, q_l126, q_l372, q_l1000, q_l1000000, q_clsF hL.1, q_n1F hL, q_obF hL, hx, c1, c2, rq_V0, g_aftE, Nat.reduceLT, m_thr]
      · rw [if_neg (fun q => hn ⟨by clear hx hy hpa e1 e3; omega, q⟩)] at hpa
        simp only [e_118, b_118_0, b_118_5, b_118_10, b_118_14, b_118_17, b_118_21, b_118_22, b_118_25, b_118_37, b_118_44, b_118_47, b_118_54, b_118_60, ↓reduceIte, Nat.reduceEqDiff, Nat.reduceMul, q_n10, q_n01, Option.bind_some, g_aft0, g_aft1, g_aft2, g_aft3, g_aft9, Nat.reduceAdd, m_kill_0, m_kill_2, m_kill_3, m_kill_4, m_kill_9, true_or, or_true, q_lm1, q_l0, q_l1, q_l2, q_l3, q_l4, q_l5, q_l6, q_l8, q_l9, q_l10, q_l12, q_l32, q_l50, q_l120, q_l122, q_l126, q_l372, q_l1000, q_l1000000, q_clsF hL.1, q_n1F hL, q_obF hL, hx, c1, c2, hpa, rq_V0, g_aftE, Nat.reduceLT, m_thr]
  · rw [if_pos hm.2] at hpa
    have c1 : ¬ x < 1 := by clear hx hy hpa e1 e3; omega
    have c2 : ¬ 3 < x := by clear hx hy hpa e1 e3; omega
    obtain ⟨τ, t1, t2, t3, t4⟩ := x_take (Z := Z) (e := e) (s := s) (t := 0) hL h hk (by omega) (by omega)
    have hC := a_hasC (Z := Z) (e := e) (s := s) hL t2
    by_cases hd : y_cc N
    · obtain ⟨ω, o1, o2, o3, o4, o5⟩ := a_rate (Z := Z) (e := e) (s := s) hL t3 t2 hd
      obtain ⟨p, q, g1, g2, g3, g4⟩ := a_groupRadius (Z := Z) (e := e) (s := s) (k' := x.toNat) hL o3.1 o2 (by clear hx hy hpa e1 e3; omega) (by clear hx hy hpa e1 e3; omega) hm.2
      have ex : ((x.toNat : Nat) : Int) = x := by clear hx hy hpa e1 e3; omega
      rw [ex] at g1
      refine ⟨ω, o3, fun a ha => by rw [o5 a (by omega)]; exact t4 a (by omega), fun q => absurd hd q, fun _ => ⟨_, _, _, p, q, y_gFv o2, g2, g3, g4, ?_⟩⟩
      simp only [e_118, b_118_0, b_118_5, b_118_10, b_118_14, b_118_17, b_118_21, b_118_22, b_118_25, b_118_37, b_118_44, b_118_47, b_118_54, b_118_60, ↓reduceIte, Nat.reduceEqDiff, Nat.reduceMul, q_n10, q_n01, Option.bind_some, g_aft0, g_aft1, g_aft2, g_aft3, g_aft9, Nat.reduceAdd, m_kill_0, m_kill_2, m_kill_3, m_kill_4, m_kill_9, true_or, or_true, q_lm1, q_l0, q_l1, q_l2, q_l3, q_l4, q_l5, q_l6, q_l8, q_l9, q_l10, q_l12, q_l32, q_l50, q_l120, q_l122, q_l126, q_l372, q_l1000, q_l1000000, q_clsF hL.1, q_n1F hL, q_obF hL, hx, c1, c2, hpa, rq_V1, t1, hC.1 hd, rq_N1, o1, g1]
    · refine ⟨τ, t3, fun a ha => t4 a (by omega), fun _ => ?_, fun q => absurd q hd⟩
      simp only [e_118, b_118_0, b_118_5, b_118_10, b_118_14, b_118_17, b_118_21, b_118_22, b_118_25, b_118_37, b_118_44, b_118_47, b_118_54, b_118_60, ↓reduceIte, Nat.reduceEqDiff, Nat.reduceMul, q_n10, q_n01, Option.bind_some, g_aft0, g_aft1, g_aft2, g_aft3, g_aft9, Nat.reduceAdd, m_kill_0, m_kill_2, m_kill_3, m_kill_4, m_kill_9, true_or, or_true, q_lm1, q_l0, q_l1, q_l2, q_l3, q_l4, q_l5, q_l6, q_l8, q_l9, q_l10, q_l12, q_l32, q_l50, q_l120, q_l122, q_l126, q_l372, q_l1000, q_l1000000, q_clsF hL.1, q_n1F hL, q_obF hL, hx, c1, c2, hpa, rq_V1, t1, hC.2 hd, rq_N0, g_aftE, Nat.reduceLT, m_thr]
theorem x_group (hL : q_lay K) (h : w_ic σ N R c X L k) (hk : k < 999999) (hx : w32 x = x) (hy : w32 y = y) :
    (¬ ((1 ≤ x ∧ x ≤ 3) ∧ 0 ≤ y ∧ y < x) → m_cl Z 119 [(2, ((0 : Nat) : Int)), (0, x), (0, y)] (K, σ, 191, e, s) = some (.inr 1, (K, σ, 191, e + 1, s + 6))) ∧
    ((1 ≤ x ∧ x ≤ 3) ∧ (0 ≤ y ∧ y < x) → ∃ τ, w_ic τ N R c X L (k + 1) ∧ (∀ a, 191 ≤ a → τ a = σ a) ∧ (¬ y_cc N → m_cl Z 119 [(2, ((0 : Nat) : Int)), (0, x), (0, y)] (K, σ, 191, e, s) = some (.inr 2, (K, τ, 191, e + 1, s + 6))) ∧ (y_cc N → ∃ f1 f2 f3, ∃ r : Nat, y_gF N 0 f1 f2 f3 ∧ w_chs f1 f2 (y_fk f1 f2 f3 (2 ^ w_nn N - 1) x.toNat) (2 ^ w_nn N - 1) x.toNat y.toNat r ∧ m_cl Z 119 [(2, ((0 : Nat) : Int)), (0, x), (0, y)] (K, σ, 191, e, s) = some (.inl (0, (r : Int)), (K, τ, 191, e, s)))) := by
  have e1 : w32 1 = 1 := by decide
  have e3 : w32 3 = 3 := by decide
  refine ⟨fun hn => ?_, fun hm => ?_⟩
  · by_cases c1 : x < 1
    · simp only [e_119, b_119_0, b_119_5, b_119_10, b_119_14, b_119_19, b_119_23, b_119_24, b_119_27, b_119_39, b_119_46, b_119_49, b_119_56, b_119_65, ↓reduceIte, Nat.reduceEqDiff, Nat.reduceMul, q_n10, q_n01, Option.bind_some, g_aft0, g_aft1, g_aft2, g_aft3, g_aft9, Nat.reduceAdd, m_kill_0, m_kill_2, m_kill_3, m_kill_4, m_kill_9, true_or, or_true, q_lm1, q_l0, q_l1, q_l2, q_l3, q_l4, q_l5, q_l6, q_l8, q_l9, q_l10, q_l12, q_l32, q_l50, q_l120, q_l122, q_l126, q_l372, q_l1000, q_l1000000, q_clsF hL.1, q_n1F hL, q_obF hL, hx, c1, rq_V0, g_aftE, Nat.reduceLT, m_thr]
    · by_cases c2 : 3 < x
      · simp only [e_119, b_119_0, b_119_5, b_119_10, b_119_14, b_119_19, b_119_23, b_119_24, b_119_27, b_119_39, b_119_46, b_119_49, b_119_56, b_119_65, ↓reduceIte, Nat.reduceEqDiff, Nat.reduceMul, q_n10, q_n01, Option.bind_some, g_aft0, g_aft1, g_aft2, g_aft3, g_aft9, Nat.reduceAdd, m_kill_0, m_kill_2, m_kill_3, m_kill_4, m_kill_9, true_or, or_true, q_lm1, q_l0, q_l1, q_l2, q_l3, q_l4, q_l5, q_l6, q_l8, q_l9, q_l10, q_l12, q_l32, q_l50, q_l120, q_l122, q_l126, q_l372, q_l1000, q_l1000000, q_clsF hL.1, q_n1F hL, q_obF hL, hx, c1, c2, rq_V0, g_aftE, Nat.reduceLT, m_thr]
      · by_cases c3 : y < 0
        · simp only [e_119, b_119_0, b_119_5, b_119_10, b_119_14, b_119_19, b_119_23, b_119_24, b_119_27, b_119_39, b_119_46, b_119_49, b_119_56, b_119_65, ↓reduceIte, Nat.reduceEqDiff, Nat.reduceMul, q_n10, q_n01, Option.bind_some, g_aft0, g_aft1, g_aft2, g_aft3, g_aft9, Nat.reduceAdd, m_kill_0, m_kill_2, m_kill_3, m_kill_4, m_kill_9, true_or, or_true, q_lm1, q_l0, q_l1, q_l2, q_l3, q_l4, q_l5, q_l6, q_l8, q_l9, q_l10, q_l12, q_l32, q_l50, q_l120, q_l122, q_l126, q_l372, q_l1000, q_l1000000, q_clsF hL.1, q_n1F hL, q_obF hL, hx, hy, c1, c2, c3, rq_V0, g_aftE, Nat.reduceLT, m_thr]
        · have c4 : x ≤ y := by clear hx hy e1 e3; omega
          simp only [e_119, b_119_0, b_119_5, b_119_10, b_119_14, b_119_19, b_119_23, b_119_24, b_119_27, b_119_39, b_119_46, b_119_49, b_119_56, b_119_65, ↓reduceIte, Nat.reduceEqDiff, Nat.reduceMul, q_n10, q_n01, Option.bind_some, g_aft0, g_aft1, g_aft2, g_aft3, g_aft9, Nat.reduceAdd, m_kill_0, m_kill_2, m_kill_3, m_kill_4, m_kill_9, true_or, or_true, q_lm1, q_l0, q_l1, q_l2, q_l3, q_l4, q_l5, q_l6, q_l8, q_l9, q_l10, q_l12, q_l32, q_l50, q_l120, q_l122, q_l126, q_l372, q_l1000, q_l1000000, q_clsF hL.1, q_n1F hL, q_obF hL, hx, hy, c1, c2, c3, c4, rq_V0, g_aftE, Nat.reduceLT, m_thr]
  · have c1 : ¬ x < 1 := by clear hx hy e1 e3; omega
    have c2 : ¬ 3 < x := by clear hx hy e1 e3; omega
    have c3 : ¬ y < 0 := by clear hx hy e1 e3; omega
    have c4 : ¬ x ≤ y := by clear hx hy e1 e3; omega
    obtain ⟨τ, t1, t2, t3, t4⟩ := x_take (Z := Z) (e := e) (s := s) (t := 0) hL h hk (by omega) (by omega)
    have hC := a_hasC (Z := Z) (e := e) (s := s) hL t2
    by_cases hd : y_cc N
    · obtain ⟨ω, o1, o2, o3, o4, o5⟩ := a_rate (Z := Z) (e := e) (s := s) hL t3 t2 hd
      obtain ⟨r, r1, r2⟩ := p_chosen (Z := Z) (e := e) (s := s) (k := x.toNat) (i := y.toNat) hL h.1.1 o2 (by clear hx hy e1 e3; omega) (by clear hx hy e1 e3; omega) (by clear hx hy e1 e3; omega)
      have ex : ((x.toNat : Nat) : Int) = x := by clear hx hy e1 e3; omega
      have ey : ((y.toNat : Nat) : Int) = y := by clear hx hy e1 e3; omega
      have ef : w_F2 ω ((x.toNat - 1) * 256 + (2 ^ w_nn N - 1)) = y_fk (fun a => w_F2 ω a) (fun a => w_F2 ω (256 + a)) (w_F2 ω (512 + (2 ^ w_nn N - 1))) (2 ^ w_nn N - 1) x.toNat := by
        unfold y_fk
        rcases (show x.toNat = 1 ∨ x.toNat = 2 ∨ x.toNat = 3 by clear hx hy e1 e3; omega) with r0 | r0 | r0
        · rw [r0, if_pos rfl, show (1 - 1) * 256 + (2 ^ w_nn N - 1) = 2 ^ w_nn N - 1 by omega]
        · rw [r0, if_neg (by decide), if_pos rfl]
        · rw [r0, if_neg (by decide), if_neg (by decide)]
      rw [ex, ey] at r1
      rw [ef] at r2
      refine ⟨ω, o3, fun a ha => by rw [o5 a (by omega)]; exact t4 a (by omega), fun q => absurd hd q, fun _ => ⟨_, _, _, r, y_gFv o2, r2, ?_⟩⟩
      simp only [e_119, b_119_0, b_119_5, b_119_10, b_119_14, b_119_19, b_119_23, b_119_24, b_119_27, b_119_39, b_119_46, b_119_49, b_119_56, b_119_65, ↓reduceIte, Nat.reduceEqDiff, Nat.reduceMul, q_n10, q_n01, Option.bind_some, g_aft0, g_aft1, g_aft2, g_aft3, g_aft9, Nat.reduceAdd, m_kill_0, m_kill_2, m_kill_3, m_kill_4, m_kill_9, true_or, or_true, q_lm1, q_l0, q_l1, q_l2, q_l3, q_l4, q_l5, q_l6, q_l8, q_l9, q_l10, q_l12, q_l32, q_l50, q_l120, q_l122, q_l126, q_l372, q_l1000, q_l1000000, q_clsF hL.1, q_n1F hL, q_obF hL, hx, hy, c1, c2, c3, c4, rq_V1, t1, hC.1 hd, rq_N1, o1, r1]
    · refine ⟨τ, t3, fun a ha => t4 a (by omega), fun _ => ?_, fun q => absurd q hd⟩
      simp only [e_119, b_119_0, b_119_5, b_119_10, b_119_14, b_119_19, b_119_23, b_119_24, b_119_27, b_119_39, b_119_46, b_119_49, b_119_56, b_119_65, ↓reduceIte, Nat.reduceEqDiff, Nat.reduceMul, q_n10, q_n01, Option.bind_some, g_aft0, g_aft1, g_aft2, g_aft3, g_aft9, Nat.reduceAdd, m_kill_0, m_kill_2, m_kill_3, m_kill_4, m_kill_9, true_or, or_true, q_lm1, q_l0, q_l1, q_l2, q_l3, q_l4, q_l5, q_l6, q_l8, q_l9, q_l10, q_l12, q_l32, q_l50, q_l120, q_l122, q_l126, q_l372, q_l1000, q_l1000000, q_clsF hL.1, q_n1F hL, q_obF hL, hx, hy, c1, c2, c3, c4, rq_V1, t1, hC.2 hd, rq_N0, g_aftE, Nat.reduceLT, m_thr]
theorem x_covering (hL : q_lay K) (h : w_ic σ N R c X L k) (hk : k < 999999) (hx : w32 x = x) (hx2 : x ≤ 2147483647) (hy : w32 y = y) :
    (¬ (0 ≤ x ∧ 1 ≤ y ∧ y ≤ 1000) → m_cl Z 120 [(2, ((0 : Nat) : Int)), (0, x), (0, y)] (K, σ, 191, e, s) = some (.inr 1, (K, σ, 191, e + 1, s + 6))) ∧
    (0 ≤ x ∧ (1 ≤ y ∧ y ≤ 1000) → ∃ τ, w_ic τ N R c X L (k + 1) ∧ (∀ a, 191 ≤ a → τ a = σ a) ∧ (¬ y_cc N → m_cl Z 120 [(2, ((0 : Nat) : Int)), (0, x), (0, y)] (K, σ, 191, e, s) = some (.inr 2, (K, τ, 191, e + 1, s + 6))) ∧ (y_cc N → ∃ f1 f2 f3, ∃ m : Nat → Int, y_gF N 0 f1 f2 f3 ∧ w_few f1 (fr x y) 8 (2 ^ w_nn N - 1) m ∧ m_cl Z 120 [(2, ((0 : Nat) : Int)), (0, x), (0, y)] (K, σ, 191, e, s) = some (.inl (0, m (2 ^ w_nn N - 1)), (K, τ, 191, e, s)))) := by
  have e1 : w32 1 = 1 := by decide
  have e3 : w32 1000 = 1000 := by decide
  refine ⟨fun hn => ?_, fun hm => ?_⟩
  · by_cases c1 : x < 0
    · simp only [e_120, b_120_0, b_120_4, b_120_9, b_120_16, b_120_20, b_120_21, b_120_24, b_120_36, b_120_43, b_120_46, b_120_53, b_120_62, ↓reduceIte, Nat.reduceEqDiff, Nat.reduceMul, q_n10, q_n01, Option.bind_some, g_aft0, g_aft1, g_aft2, g_aft3, g_aft9, Nat.reduceAdd, m_kill_0, m_kill_2, m_kill_3, m_kill_4, m_kill_9, true_or, or_true, q_lm1, q_l0, q_l1, q_l2, q_l3, q_l4, q_l5, q_l6, q_l8, q_l9, q_l10, q_l12, q_l32, q_l50, q_l120, q_l122, q_l126, q_l372, q_l1000, q_l1000000, q_clsF hL.1, q_n1F hL, q_obF hL, hx, c1, rq_V0, g_aftE, Nat.reduceLT, m_thr]
    · by_cases c2 : y < 1
      · simp only [e_120, b_120_0, b_120_4, b_120_9, b_120_16, b_120_20, b_120_21, b_120_24, b_120_36, b_120_43, b_120_46, b_120_53, b_120_62, ↓reduceIte, Nat.reduceEqDiff, Nat.reduceMul, q_n10, q_n01, Option.bind_some, g_aft0, g_aft1, g_aft2, g_aft3, g_aft9, Nat.reduceAdd, m_kill_0, m_kill_2, m_kill_3, m_kill_4, m_kill_9, true_or, or_true, q_lm1, q_l0, q_l1, q_l2, q_l3, q_l4, q_l5, q_l6, q_l8, q_l9, q_l10, q_l12, q_l32, q_l50, q_l120, q_l122, q_l126, q_l372, q_l1000, q_l1000000, q_clsF hL.1, q_n1F hL, q_obF hL, hx, hy, c1, c2, rq_V0, g_aftE, Nat.reduceLT, m_thr]
      · have c3 : 1000 < y := by clear hx hy e1 e3; omega
        simp only [e_120, b_120_0, b_120_4, b_120_9, b_120_16, b_120_20, b_120_21, b_120_24, b_120_36, b_120_43, b_120_46, b_120_53, b_120_62, ↓reduceIte, Nat.reduceEqDiff, Nat.reduceMul, q_n10, q_n01, Option.bind_some, g_aft0, g_aft1, g_aft2, g_aft3, g_aft9, Nat.reduceAdd, m_kill_0, m_kill_2, m_kill_3, m_kill_4, m_kill_9, true_or, or_true, q_lm1, q_l0, q_l1, q_l2, q_l3, q_l4, q_l5, q_l6, q_l8, q_l9, q_l10, q_l12, q_l32, q_l50, q_l120, q_l122, q_l126, q_l372, q_l1000, q_l1000000, q_clsF hL.1, q_n1F hL, q_obF hL, hx, hy, c1, c2, c3, rq_V0, g_aftE, Nat.reduceLT, m_thr]
  · have c1 : ¬ x < 0 := by clear hx hy e1 e3; omega
    have c2 : ¬ y < 1 := by clear hx hy e1 e3; omega
    have c3 : ¬ 1000 < y := by clear hx hy e1 e3; omega
    obtain ⟨τ, t1, t2, t3, t4⟩ := x_take (Z := Z) (e := e) (s := s) (t := 0) hL h hk (by omega) (by omega)
    have hC := a_hasC (Z := Z) (e := e) (s := s) hL t2
    by_cases hd : y_cc N
    · obtain ⟨ω, o1, o2, o3, o4, o5⟩ := a_rate (Z := Z) (e := e) (s := s) hL t3 t2 hd
      obtain ⟨m, r1, r2⟩ := p_fewest (Z := Z) (e := e) (s := s) (p := x) (q := y) hL h.1.1 o2 ⟨hm.1, hx2⟩ hm.2
      refine ⟨q_put ω 185 m, w_icB o3 (fun a ha => q_put_ne (by omega)) (fun a _ _ => q_put_ne (by omega)) (fun j _ => by rw [q_put_ne (by omega)]) (q_put_ne (by omega)) (q_put_ne (by omega)) (q_put_ne (by omega)), fun a ha => by rw [q_put_ne (by omega), o5 a (by omega)]; exact t4 a (by omega), fun q => absurd hd q, fun _ => ⟨_, _, _, m, y_gFv o2, r2, ?_⟩⟩
      simp only [e_120, b_120_0, b_120_4, b_120_9, b_120_16, b_120_20, b_120_21, b_120_24, b_120_36, b_120_43, b_120_46, b_120_53, b_120_62, ↓reduceIte, Nat.reduceEqDiff, Nat.reduceMul, q_n10, q_n01, Option.bind_some, g_aft0, g_aft1, g_aft2, g_aft3, g_aft9, Nat.reduceAdd, m_kill_0, m_kill_2, m_kill_3, m_kill_4, m_kill_9, true_or, or_true, q_lm1, q_l0, q_l1, q_l2, q_l3, q_l4, q_l5, q_l6, q_l8, q_l9, q_l10, q_l12, q_l32, q_l50, q_l120, q_l122, q_l126, q_l372, q_l1000, q_l1000000, q_clsF hL.1, q_n1F hL, q_obF hL, hx, hy, c1, c2, c3, rq_V1, t1, hC.1 hd, rq_N1, o1, r1]
    · refine ⟨τ, t3, fun a ha => t4 a (by omega), fun _ => ?_, fun q => absurd q hd⟩
      simp only [e_120, b_120_0, b_120_4, b_120_9, b_120_16, b_120_20, b_120_21, b_120_24, b_120_36, b_120_43, b_120_46, b_120_53, b_120_62, ↓reduceIte, Nat.reduceEqDiff, Nat.reduceMul, q_n10, q_n01, Option.bind_some, g_aft0, g_aft1, g_aft2, g_aft3, g_aft9, Nat.reduceAdd, m_kill_0, m_kill_2, m_kill_3, m_kill_4, m_kill_9, true_or, or_true, q_lm1, q_l0, q_l1, q_l2, q_l3, q_l4, q_l5, q_l6, q_l8, q_l9, q_l10, q_l12, q_l32, q_l50, q_l120, q_l122, q_l126, q_l372, q_l1000, q_l1000000, q_clsF hL.1, q_n1F hL, q_obF hL, hx, hy, c1, c2, c3, rq_V1, t1, hC.2 hd, rq_N0, g_aftE, Nat.reduceLT, m_thr]
theorem x_covered (hL : q_lay K) (h : w_ic σ N R c X L k) (hk : k < 999999) (hx : w32 x = x) (hy : w32 y = y) (hz : w32 z = z) :
    (¬ (0 ≤ x ∧ x < N 0 1) → m_cl Z 121 [(2, ((0 : Nat) : Int)), (0, x), (0, y), (0, z)] (K, σ, 191, e, s) = some (.inr 0, (K, σ, 191, e + 1, s + 6))) ∧
    ((0 ≤ x ∧ x < N 0 1) → ¬ (0 ≤ y ∧ y ≤ N 10 x.toNat ∧ 0 ≤ z) → m_cl Z 121 [(2, ((0 : Nat) : Int)), (0, x), (0, y), (0, z)] (K, σ, 191, e, s) = some (.inr 1, (K, σ, 191, e + 1, s + 6))) ∧
    ((0 ≤ x ∧ x < N 0 1) → (0 ≤ y ∧ y ≤ N 10 x.toNat ∧ 0 ≤ z) → ∃ τ, w_ic τ N R c X L (k + 1) ∧ (∀ a, 191 ≤ a → τ a = σ a) ∧ (¬ w_cn N → m_cl Z 121 [(2, ((0 : Nat) : Int)), (0, x), (0, y), (0, z)] (K, σ, 191, e, s) = some (.inr 2, (K, τ, 191, e + 1, s + 6))) ∧ (w_cn N → m_cl Z 121 [(2, ((0 : Nat) : Int)), (0, x), (0, y), (0, z)] (K, σ, 191, e, s) = some (.inl (0, w_or (fun i => decide (w_F N 0 x.toNat i y 1 ≤ z)) (w_nn N)), (K, τ, 191, e, s)))) := by
  have h2 := a_hasEdge (Z := Z) (e := e) (s := s) hL h.1 hx
  have hne := wf_e h.1.1
  refine ⟨fun hn => ?_, fun hn hm => ?_, fun hn hm => ?_⟩
  · rw [if_neg hn] at h2
    simp only [e_121, b_121_0, b_121_8, b_121_11, b_121_15, b_121_27, b_121_30, b_121_34, b_121_38, b_121_39, b_121_42, b_121_54, b_121_64, b_121_74, ↓reduceIte, Nat.reduceEqDiff, Nat.reduceMul, q_n10, q_n01, Option.bind_some, g_aft0, g_aft1, g_aft2, g_aft3, g_aft9, Nat.reduceAdd, m_kill_0, m_kill_2, m_kill_3, m_kill_4, m_kill_9, true_or, or_true, q_lm1, q_l0, q_l1, q_l2, q_l3, q_l4, q_l5, q_l6, q_l8, q_l9, q_l10, q_l12, q_l32, q_l50, q_l120, q_l122, q_l126, q_l372, q_l1000, q_l1000000, q_clsF hL.1, q_n1F hL, q_obF hL, h2, rq_S0, g_aftE, Nat.reduceLT, m_thr]
  all_goals
    rw [if_pos hn] at h2
    have ex : ((x.toNat : Nat) : Int) = x := by clear hx hy hz h2; omega
    have hg : x.toNat < w_ne N := by clear hx hy hz h2; omega
    have hl := a_len h.1 hg
    have h7 := wf_ed h.1.1 hg
    have wl : w32 (N 10 x.toNat) = N 10 x.toNat := by clear hx hy hz h2 hl; exact q_wB (by omega) (by omega)
    rw [ex] at hl
  · by_cases c1 : y < 0
    · simp only [e_121, b_121_0, b_121_8, b_121_11, b_121_15, b_121_27, b_121_30, b_121_34, b_121_38, b_121_39, b_121_42, b_121_54, b_121_64, b_121_74, ↓reduceIte, Nat.reduceEqDiff, Nat.reduceMul, q_n10, q_n01, Option.bind_some, g_aft0, g_aft1, g_aft2, g_aft3, g_aft9, Nat.reduceAdd, m_kill_0, m_kill_2, m_kill_3, m_kill_4, m_kill_9, true_or, or_true, q_lm1, q_l0, q_l1, q_l2, q_l3, q_l4, q_l5, q_l6, q_l8, q_l9, q_l10, q_l12, q_l32, q_l50, q_l120, q_l122, q_l126, q_l372, q_l1000, q_l1000000, q_clsF hL.1, q_n1F hL, q_obF hL, h2, rq_S1, hy, c1, rq_V0, g_aftE, Nat.reduceLT, m_thr]
    · by_cases c2 : N 10 x.toNat < y
      · simp only [e_121, b_121_0, b_121_8, b_121_11, b_121_15, b_121_27, b_121_30, b_121_34, b_121_38, b_121_39, b_121_42, b_121_54, b_121_64, b_121_74, ↓reduceIte, Nat.reduceEqDiff, Nat.reduceMul, q_n10, q_n01, Option.bind_some, g_aft0, g_aft1, g_aft2, g_aft3, g_aft9, Nat.reduceAdd, m_kill_0, m_kill_2, m_kill_3, m_kill_4, m_kill_9, true_or, or_true, q_lm1, q_l0, q_l1, q_l2, q_l3, q_l4, q_l5, q_l6, q_l8, q_l9, q_l10, q_l12, q_l32, q_l50, q_l120, q_l122, q_l126, q_l372, q_l1000, q_l1000000, q_clsF hL.1, q_n1F hL, q_obF hL, h2, rq_S1, r_get, hl, wl, hy, c1, c2, rq_V0, g_aftE, Nat.reduceLT, m_thr]
      · have c3 : z < 0 := by clear hx hy hz h2 hl wl; omega
        simp only [e_121, b_121_0, b_121_8, b_121_11, b_121_15, b_121_27, b_121_30, b_121_34, b_121_38, b_121_39, b_121_42, b_121_54, b_121_64, b_121_74, ↓reduceIte, Nat.reduceEqDiff, Nat.reduceMul, q_n10, q_n01, Option.bind_some, g_aft0, g_aft1, g_aft2, g_aft3, g_aft9, Nat.reduceAdd, m_kill_0, m_kill_2, m_kill_3, m_kill_4, m_kill_9, true_or, or_true, q_lm1, q_l0, q_l1, q_l2, q_l3, q_l4, q_l5, q_l6, q_l8, q_l9, q_l10, q_l12, q_l32, q_l50, q_l120, q_l122, q_l126, q_l372, q_l1000, q_l1000000, q_clsF hL.1, q_n1F hL, q_obF hL, h2, rq_S1, r_get, hl, wl, hy, hz, c1, c2, c3, rq_V0, g_aftE, Nat.reduceLT, m_thr]
  · have c1 : ¬ y < 0 := by clear hx hy hz h2 hl wl; omega
    have c2 : ¬ N 10 x.toNat < y := by clear hx hy hz h2 hl wl; omega
    have c3 : ¬ z < 0 := by clear hx hy hz h2 hl wl; omega
    obtain ⟨τ, t1, t2, t3, t4⟩ := x_take (Z := Z) (e := e) (s := s) (t := 0) hL h hk (by omega) (by omega)
    have vc : v_c τ N := t2.2.2.2.2.1
    refine ⟨τ, t3, fun a ha => t4 a (by omega), fun hd => ?_, fun hd => ?_⟩
    · simp only [e_121, b_121_0, b_121_8, b_121_11, b_121_15, b_121_27, b_121_30, b_121_34, b_121_38, b_121_39, b_121_42, b_121_54, b_121_64, b_121_74, ↓reduceIte, Nat.reduceEqDiff, Nat.reduceMul, q_n10, q_n01, Option.bind_some, g_aft0, g_aft1, g_aft2, g_aft3, g_aft9, Nat.reduceAdd, m_kill_0, m_kill_2, m_kill_3, m_kill_4, m_kill_9, true_or, or_true, q_lm1, q_l0, q_l1, q_l2, q_l3, q_l4, q_l5, q_l6, q_l8, q_l9, q_l10, q_l12, q_l32, q_l50, q_l120, q_l122, q_l126, q_l372, q_l1000, q_l1000000, q_clsF hL.1, q_n1F hL, q_obF hL, h2, rq_S1, r_get, hl, wl, hy, hz, c1, c2, c3, rq_V1, t1, vc.2 hd, rq_N0, g_aftE, Nat.reduceLT, m_thr]
    · have hw := s_within (Z := Z) (e := e) (s := s) (r := z) hL t2.2.2.2.1.1 t2.2.2.2.1.2.2.2 t2.2.2.2.1.2.1 h.1.1 hd hg (w_pq1 (Int.le_refl _) (by decide) hm.1 hm.2.1)
      rw [ex] at hw
      simp only [hz] at hw
      simp only [e_121, b_121_0, b_121_8, b_121_11, b_121_15, b_121_27, b_121_30, b_121_34, b_121_38, b_121_39, b_121_42, b_121_54, b_121_64, b_121_74, ↓reduceIte, Nat.reduceEqDiff, Nat.reduceMul, q_n10, q_n01, Option.bind_some, g_aft0, g_aft1, g_aft2, g_aft3, g_aft9, Nat.reduceAdd, m_kill_0, m_kill_2, m_kill_3, m_kill_4, m_kill_9, true_or, or_true, q_lm1, q_l0, q_l1, q_l2, q_l3, q_l4, q_l5, q_l6, q_l8, q_l9, q_l10, q_l12, q_l32, q_l50, q_l120, q_l122, q_l126, q_l372, q_l1000, q_l1000000, q_clsF hL.1, q_n1F hL, q_obF hL, h2, rq_S1, r_get, hl, wl, hy, hz, c1, c2, c3, rq_V1, t1, vc.1 hd, rq_N1, hw]
end
end
