section
/-! The model's calls: radius, center, critical, median, changedRadius. -/
section
variable {Z : mZ} {K : Nat → mK} {σ τ N M : Nat → Nat → Int} {e g i L n c k s a : Nat} {t p q v x y z w u S : Int} {X : Nat → Int} {h : mH} {R : Nat → Nat → Nat → Int} {T : Nat → Int} {b b' : wP}
theorem z_refC (hL : q_lay K) (h : z_inv σ N R c X L) (hx : w32 x = x) (hy : w32 y = y) (hz : w32 z = z) :
    (¬ ((0 ≤ x ∧ x < ((2 ^ w_nn N : Nat) : Int)) ∧ 0 ≤ y ∧ y ≤ z) → m_cl Z 217 [(2, ((191 : Nat) : Int)), (0, x), (0, y), (0, z)] (K, σ, 206, e, s) = some (.inl (0, 1), (K, m_up2 σ 191 4 1, 206, e, s))) ∧
    ((0 ≤ x ∧ x < ((2 ^ w_nn N : Nat) : Int)) ∧ (0 ≤ y ∧ y ≤ z) → (¬ y_cc N → ∃ τ, (∀ a, a ≠ 196 → τ a = σ a) ∧ m_cl Z 217 [(2, ((191 : Nat) : Int)), (0, x), (0, y), (0, z)] (K, σ, 206, e, s) = some (.inl (0, 1), (K, m_up2 τ 191 4 2, 206, e, s))) ∧ (y_cc N → ∃ ω b', m_cl Z 217 [(2, ((191 : Nat) : Int)), (0, x), (0, y), (0, z)] (K, σ, 206, e, s) = some (.inl (0, 0), (K, ω, 206, e, s)) ∧ z_fz (m_up2 σ 191 4 0) ω ∧ z_sur ω N 0 ∧ w_best (w_Hv N 0 x) (z_ps N 0 x) b' ∧ z_bk ω (w_Hv N 0 x) b')) := by
  have h1 := z_isSet (Z := Z) (e := e) (s := s) hL h.1 hx
  have h2 := z_within2 (Z := Z) (h := (K, σ, 206, e, s)) (x := y) (y := 0) (z := z) hy (by decide) hz
  have n10 : ¬ (1 : Int) = 0 := by decide
  refine ⟨fun hn => ?_, fun hm => ?_⟩
  · by_cases c1 : 0 ≤ x ∧ x < ((2 ^ w_nn N : Nat) : Int)
    · rw [if_pos c1] at h1
      rw [if_neg (fun q => hn ⟨c1, q⟩)] at h2
      simp only [e_217, b_217_0, b_217_6, b_217_9, b_217_15, b_217_18, b_217_22, b_217_26, b_217_29, b_217_33, b_217_34, b_217_37, b_217_40, b_217_42, b_217_47, b_217_52, ↓reduceIte, Nat.reduceEqDiff, Nat.reduceMul, q_n10, q_n01, Option.bind_some, g_aft0, g_aft1, g_aft2, g_aft3, g_aft9, Nat.reduceAdd, m_kill_0, m_kill_2, m_kill_3, m_kill_4, m_kill_9, true_or, or_true, q_lm1, q_l0, q_l1, q_l2, q_l3, q_l4, q_l5, q_l6, q_l8, q_l9, q_l10, q_l12, q_l17, q_l32, q_l35, q_l48, q_l50, q_l54, q_l57, q_l64, q_l73, q_l118, q_l119, q_l120, q_l122, q_l126, q_l160, q_l256, q_l365, q_l372, q_l438, q_l1000, q_l100000, q_l1000000, q_modF hL.2.2.2.2.2.2.1, h1, h2, n10, z_ref1 hL (x := 1) (by decide) (by decide)]
    · rw [if_neg c1] at h1
      simp only [e_217, b_217_0, b_217_6, b_217_9, b_217_15, b_217_18, b_217_22, b_217_26, b_217_29, b_217_33, b_217_34, b_217_37, b_217_40, b_217_42, b_217_47, b_217_52, ↓reduceIte, Nat.reduceEqDiff, Nat.reduceMul, q_n10, q_n01, Option.bind_some, g_aft0, g_aft1, g_aft2, g_aft3, g_aft9, Nat.reduceAdd, m_kill_0, m_kill_2, m_kill_3, m_kill_4, m_kill_9, true_or, or_true, q_lm1, q_l0, q_l1, q_l2, q_l3, q_l4, q_l5, q_l6, q_l8, q_l9, q_l10, q_l12, q_l17, q_l32, q_l35, q_l48, q_l50, q_l54, q_l57, q_l64, q_l73, q_l118, q_l119, q_l120, q_l122, q_l126, q_l160, q_l256, q_l365, q_l372, q_l438, q_l1000, q_l100000, q_l1000000, q_modF hL.2.2.2.2.2.2.1, h1, n10, z_ref1 hL (x := 1) (by decide) (by decide)]
  · rw [if_pos hm.1] at h1
    rw [if_pos hm.2] at h2
    obtain ⟨τ, t1, t2, t3, t4⟩ := z_can (Z := Z) (e := e) (s := s) hL h.1
    constructor
    · intro hd
      obtain ⟨τ', u1, u2⟩ := t4 hd
      refine ⟨τ', u1, ?_⟩
      simp only [e_217, b_217_0, b_217_6, b_217_9, b_217_15, b_217_18, b_217_22, b_217_26, b_217_29, b_217_33, b_217_34, b_217_37, b_217_40, b_217_42, b_217_47, b_217_52, ↓reduceIte, Nat.reduceEqDiff, Nat.reduceMul, q_n10, q_n01, Option.bind_some, g_aft0, g_aft1, g_aft2, g_aft3, g_aft9, Nat.reduceAdd, m_kill_0, m_kill_2, m_kill_3, m_kill_4, m_kill_9, true_or, or_true, q_lm1, q_l0, q_l1, q_l2, q_l3, q_l4, q_l5, q_l6, q_l8, q_l9, q_l10, q_l12, q_l17, q_l32, q_l35, q_l48, q_l50, q_l54, q_l57, q_l64, q_l73, q_l118, q_l119, q_l120, q_l122, q_l126, q_l160, q_l256, q_l365, q_l372, q_l438, q_l1000, q_l100000, q_l1000000, q_modF hL.2.2.2.2.2.2.1, h1, h2, n10, u2, z_ref1 hL (x := 2) (by decide) (by decide)]
    · intro hd
      have u2 := t3 hd
      obtain ⟨ω, o1, o2, o3⟩ := z_prep (Z := Z) (e := e) (s := s) (t := 0) hL h.1 hd.1 t1 t2
      obtain ⟨ρ, r1, r2, r3⟩ := z_centers (Z := Z) (S := x) (e := e) (s := s) hL o2 (Int.le_refl 0) (by decide)
      obtain ⟨b', b1, b2⟩ := z_bs_b r2 (z_ps_ne h.1.1 hd (Int.le_refl 0) (by decide))
      refine ⟨ρ, b', ?_, z_fz_t o3 (z_fz_b r3), z_surB o2 r3, b1, b2⟩
      simp only [e_217, b_217_0, b_217_6, b_217_9, b_217_15, b_217_18, b_217_22, b_217_26, b_217_29, b_217_33, b_217_34, b_217_37, b_217_40, b_217_42, b_217_47, b_217_52, ↓reduceIte, Nat.reduceEqDiff, Nat.reduceMul, q_n10, q_n01, Option.bind_some, g_aft0, g_aft1, g_aft2, g_aft3, g_aft9, Nat.reduceAdd, m_kill_0, m_kill_2, m_kill_3, m_kill_4, m_kill_9, true_or, or_true, q_lm1, q_l0, q_l1, q_l2, q_l3, q_l4, q_l5, q_l6, q_l8, q_l9, q_l10, q_l12, q_l17, q_l32, q_l35, q_l48, q_l50, q_l54, q_l57, q_l64, q_l73, q_l118, q_l119, q_l120, q_l122, q_l126, q_l160, q_l256, q_l365, q_l372, q_l438, q_l1000, q_l100000, q_l1000000, q_modF hL.2.2.2.2.2.2.1, h1, h2, n10, u2, z_ref0 hL, o1, r1]
theorem z_part2 : (0 ≤ y ∧ y ≤ 1) ↔ (y = 0 ∨ y = 1) := by omega
theorem z_radius (hL : q_lay K) (h : z_inv σ N R c X L) (hx : w32 x = x) (hy : w32 y = y) :
    (¬ ((0 ≤ x ∧ x < ((2 ^ w_nn N : Nat) : Int)) ∧ (y = 0 ∨ y = 1)) → z_O (m_cl Z 218 [(2, ((191 : Nat) : Int)), (0, x), (0, y)] (K, σ, 206, e, s)) K e s σ N R c X L 1 0) ∧
    ((0 ≤ x ∧ x < ((2 ^ w_nn N : Nat) : Int)) ∧ (y = 0 ∨ y = 1) → (¬ y_cc N → z_O (m_cl Z 218 [(2, ((191 : Nat) : Int)), (0, x), (0, y)] (K, σ, 206, e, s)) K e s σ N R c X L 2 0) ∧ (y_cc N → ∀ b, w_best (w_Hv N 0 x) (w_pts N 0) b → z_O (m_cl Z 218 [(2, ((191 : Nat) : Int)), (0, x), (0, y)] (K, σ, 206, e, s)) K e s σ N R c X L 0 (w_red (w_Hv N 0 x b) b.2.2 y))) := by
  obtain ⟨r1, r2⟩ := z_refC (Z := Z) (e := e) (s := s) (z := 1) hL h hx hy (by decide)
  rw [z_part2] at r1 r2
  have n10 : ¬ (1 : Int) = 0 := by decide
  refine ⟨fun hn => ?_, fun hm => ⟨fun hd => ?_, fun hd b hb => ?_⟩⟩
  · refine z_no h ?_
    simp only [e_218, b_218_0, b_218_7, b_218_10, b_218_14, b_218_26, ↓reduceIte, Nat.reduceEqDiff, Nat.reduceMul, q_n10, q_n01, Option.bind_some, g_aft0, g_aft1, g_aft2, g_aft3, g_aft9, Nat.reduceAdd, m_kill_0, m_kill_2, m_kill_3, m_kill_4, m_kill_9, true_or, or_true, q_lm1, q_l0, q_l1, q_l2, q_l3, q_l4, q_l5, q_l6, q_l8, q_l9, q_l10, q_l12, q_l17, q_l32, q_l35, q_l48, q_l50, q_l54, q_l57, q_l64, q_l73, q_l118, q_l119, q_l120, q_l122, q_l126, q_l160, q_l256, q_l365, q_l372, q_l438, q_l1000, q_l100000, q_l1000000, q_modF hL.2.2.2.2.2.2.1, r1 hn, n10]
  · obtain ⟨τ, u1, u2⟩ := (r2 hm).1 hd
    refine z_no6 (τ := τ) h u1 ?_
    simp only [e_218, b_218_0, b_218_7, b_218_10, b_218_14, b_218_26, ↓reduceIte, Nat.reduceEqDiff, Nat.reduceMul, q_n10, q_n01, Option.bind_some, g_aft0, g_aft1, g_aft2, g_aft3, g_aft9, Nat.reduceAdd, m_kill_0, m_kill_2, m_kill_3, m_kill_4, m_kill_9, true_or, or_true, q_lm1, q_l0, q_l1, q_l2, q_l3, q_l4, q_l5, q_l6, q_l8, q_l9, q_l10, q_l12, q_l17, q_l32, q_l35, q_l48, q_l50, q_l54, q_l57, q_l64, q_l73, q_l118, q_l119, q_l120, q_l122, q_l126, q_l160, q_l256, q_l365, q_l372, q_l438, q_l1000, q_l100000, q_l1000000, q_modF hL.2.2.2.2.2.2.1, u2, n10]
  · obtain ⟨ω, b', u1, u2, u3, u4, u5⟩ := (r2 hm).2 hd
    obtain ⟨hq, -⟩ := z_eqbH h.1.1 hd.1 (Int.le_refl 0) (by decide) hb u4
    have hr := z_redV (Z := Z) (h := (K, ω, 206, e, s)) hq u5 hy
    refine z_okz h u2 ?_
    simp only [e_218, b_218_0, b_218_7, b_218_10, b_218_14, b_218_26, ↓reduceIte, Nat.reduceEqDiff, Nat.reduceMul, q_n10, q_n01, Option.bind_some, g_aft0, g_aft1, g_aft2, g_aft3, g_aft9, Nat.reduceAdd, m_kill_0, m_kill_2, m_kill_3, m_kill_4, m_kill_9, true_or, or_true, q_lm1, q_l0, q_l1, q_l2, q_l3, q_l4, q_l5, q_l6, q_l8, q_l9, q_l10, q_l12, q_l17, q_l32, q_l35, q_l48, q_l50, q_l54, q_l57, q_l64, q_l73, q_l118, q_l119, q_l120, q_l122, q_l126, q_l160, q_l256, q_l365, q_l372, q_l438, q_l1000, q_l100000, q_l1000000, q_modF hL.2.2.2.2.2.2.1, u1, hr]
theorem z_center (hL : q_lay K) (h : z_inv σ N R c X L) (hx : w32 x = x) (hy : w32 y = y) :
    (¬ ((0 ≤ x ∧ x < ((2 ^ w_nn N : Nat) : Int)) ∧ (0 ≤ y ∧ y ≤ 2)) → z_O (m_cl Z 220 [(2, ((191 : Nat) : Int)), (0, x), (0, y)] (K, σ, 206, e, s)) K e s σ N R c X L 1 0) ∧
    ((0 ≤ x ∧ x < ((2 ^ w_nn N : Nat) : Int)) ∧ (0 ≤ y ∧ y ≤ 2) → (¬ y_cc N → z_O (m_cl Z 220 [(2, ((191 : Nat) : Int)), (0, x), (0, y)] (K, σ, 206, e, s)) K e s σ N R c X L 2 0) ∧ (y_cc N → ∀ b, w_best (w_Hv N 0 x) (w_pts N 0) b → z_O (m_cl Z 220 [(2, ((191 : Nat) : Int)), (0, x), (0, y)] (K, σ, 206, e, s)) K e s σ N R c X L 0 (y_bf (w_Hv N 0 x) b y))) := by
  obtain ⟨r1, r2⟩ := z_refC (Z := Z) (e := e) (s := s) (z := 2) hL h hx hy (by decide)
  have n10 : ¬ (1 : Int) = 0 := by decide
  refine ⟨fun hn => ?_, fun hm => ⟨fun hd => ?_, fun hd b hb => ?_⟩⟩
  · refine z_no h ?_
    simp only [e_220, b_220_0, b_220_7, b_220_10, b_220_14, b_220_19, ↓reduceIte, Nat.reduceEqDiff, Nat.reduceMul, q_n10, q_n01, Option.bind_some, g_aft0, g_aft1, g_aft2, g_aft3, g_aft9, Nat.reduceAdd, m_kill_0, m_kill_2, m_kill_3, m_kill_4, m_kill_9, true_or, or_true, q_lm1, q_l0, q_l1, q_l2, q_l3, q_l4, q_l5, q_l6, q_l8, q_l9, q_l10, q_l12, q_l17, q_l32, q_l35, q_l48, q_l50, q_l54, q_l57, q_l64, q_l73, q_l118, q_l119, q_l120, q_l122, q_l126, q_l160, q_l256, q_l365, q_l372, q_l438, q_l1000, q_l100000, q_l1000000, q_modF hL.2.2.2.2.2.2.1, r1 hn, n10]
  · obtain ⟨τ, u1, u2⟩ := (r2 hm).1 hd
    refine z_no6 (τ := τ) h u1 ?_
    simp only [e_220, b_220_0, b_220_7, b_220_10, b_220_14, b_220_19, ↓reduceIte, Nat.reduceEqDiff, Nat.reduceMul, q_n10, q_n01, Option.bind_some, g_aft0, g_aft1, g_aft2, g_aft3, g_aft9, Nat.reduceAdd, m_kill_0, m_kill_2, m_kill_3, m_kill_4, m_kill_9, true_or, or_true, q_lm1, q_l0, q_l1, q_l2, q_l3, q_l4, q_l5, q_l6, q_l8, q_l9, q_l10, q_l12, q_l17, q_l32, q_l35, q_l48, q_l50, q_l54, q_l57, q_l64, q_l73, q_l118, q_l119, q_l120, q_l122, q_l126, q_l160, q_l256, q_l365, q_l372, q_l438, q_l1000, q_l100000, q_l1000000, q_modF hL.2.2.2.2.2.2.1, u2, n10]
  · obtain ⟨ω, b', u1, u2, u3, u4, u5⟩ := (r2 hm).2 hd
    obtain ⟨hq, -⟩ := z_eqbH h.1.1 hd.1 (Int.le_refl 0) (by decide) hb u4
    have hr := z_cT (Z := Z) (e := e) (s := s) hL hq u5 hm.2.1 hm.2.2
    refine z_okz h u2 ?_
    simp only [e_220, b_220_0, b_220_7, b_220_10, b_220_14, b_220_19, ↓reduceIte, Nat.reduceEqDiff, Nat.reduceMul, q_n10, q_n01, Option.bind_some, g_aft0, g_aft1, g_aft2, g_aft3, g_aft9, Nat.reduceAdd, m_kill_0, m_kill_2, m_kill_3, m_kill_4, m_kill_9, true_or, or_true, q_lm1, q_l0, q_l1, q_l2, q_l3, q_l4, q_l5, q_l6, q_l8, q_l9, q_l10, q_l12, q_l17, q_l32, q_l35, q_l48, q_l50, q_l54, q_l57, q_l64, q_l73, q_l118, q_l119, q_l120, q_l122, q_l126, q_l160, q_l256, q_l365, q_l372, q_l438, q_l1000, q_l100000, q_l1000000, q_modF hL.2.2.2.2.2.2.1, u1, hr]
theorem z_critical (hL : q_lay K) (h : z_inv σ N R c X L) (hx : w32 x = x) :
    (¬ (0 ≤ x ∧ x < ((2 ^ w_nn N : Nat) : Int)) → z_O (m_cl Z 222 [(2, ((191 : Nat) : Int)), (0, x)] (K, σ, 206, e, s)) K e s σ N R c X L 1 0) ∧
    ((0 ≤ x ∧ x < ((2 ^ w_nn N : Nat) : Int)) → (¬ y_cc N → z_O (m_cl Z 222 [(2, ((191 : Nat) : Int)), (0, x)] (K, σ, 206, e, s)) K e s σ N R c X L 2 0) ∧ (y_cc N → ∀ b, w_best (w_Hv N 0 x) (w_pts N 0) b → z_O (m_cl Z 222 [(2, ((191 : Nat) : Int)), (0, x)] (K, σ, 206, e, s)) K e s σ N R c X L 0 (w_or (fun i => decide (q_bt x i = true ∧ w_F N 0 b.1 i b.2.1 b.2.2 = w_Hv N 0 x b)) (w_nn N)))) := by
  obtain ⟨r1, r2⟩ := z_refC (Z := Z) (e := e) (s := s) (y := 0) (z := 0) hL h hx (by decide) (by decide)
  have n10 : ¬ (1 : Int) = 0 := by decide
  have e00 : (0 : Int) ≤ 0 ∧ (0 : Int) ≤ 0 := by decide
  refine ⟨fun hn => ?_, fun hm => ⟨fun hd => ?_, fun hd b hb => ?_⟩⟩
  · refine z_no h ?_
    simp only [e_222, b_222_0, b_222_7, b_222_10, b_222_14, b_222_19, ↓reduceIte, Nat.reduceEqDiff, Nat.reduceMul, q_n10, q_n01, Option.bind_some, g_aft0, g_aft1, g_aft2, g_aft3, g_aft9, Nat.reduceAdd, m_kill_0, m_kill_2, m_kill_3, m_kill_4, m_kill_9, true_or, or_true, q_lm1, q_l0, q_l1, q_l2, q_l3, q_l4, q_l5, q_l6, q_l8, q_l9, q_l10, q_l12, q_l17, q_l32, q_l35, q_l48, q_l50, q_l54, q_l57, q_l64, q_l73, q_l118, q_l119, q_l120, q_l122, q_l126, q_l160, q_l256, q_l365, q_l372, q_l438, q_l1000, q_l100000, q_l1000000, q_modF hL.2.2.2.2.2.2.1, r1 (fun q => hn q.1), n10]
  · obtain ⟨τ, u1, u2⟩ := (r2 ⟨hm, e00⟩).1 hd
    refine z_no6 (τ := τ) h u1 ?_
    simp only [e_222, b_222_0, b_222_7, b_222_10, b_222_14, b_222_19, ↓reduceIte, Nat.reduceEqDiff, Nat.reduceMul, q_n10, q_n01, Option.bind_some, g_aft0, g_aft1, g_aft2, g_aft3, g_aft9, Nat.reduceAdd, m_kill_0, m_kill_2, m_kill_3, m_kill_4, m_kill_9, true_or, or_true, q_lm1, q_l0, q_l1, q_l2, q_l3, q_l4, q_l5, q_l6, q_l8, q_l9, q_l10, q_l12, q_l17, q_l32, q_l35, q_l48, q_l50, q_l54, q_l57, q_l64, q_l73, q_l118, q_l119, q_l120, q_l122, q_l126, q_l160, q_l256, q_l365, q_l372, q_l438, q_l1000, q_l100000, q_l1000000, q_modF hL.2.2.2.2.2.2.1, u2, n10]
  · obtain ⟨ω, b', u1, u2, u3, u4, u5⟩ := (r2 ⟨hm, e00⟩).2 hd
    obtain ⟨hq, q1, q2, q3⟩ := z_eqbH h.1.1 hd.1 (Int.le_refl 0) (by decide) hb u4
    have hr := z_critN (Z := Z) (e := e) (s := s) hL u3 (Int.le_refl 0) (by decide) q1 q2 q3 hq u5
    refine z_okz h u2 ?_
    simp only [e_222, b_222_0, b_222_7, b_222_10, b_222_14, b_222_19, ↓reduceIte, Nat.reduceEqDiff, Nat.reduceMul, q_n10, q_n01, Option.bind_some, g_aft0, g_aft1, g_aft2, g_aft3, g_aft9, Nat.reduceAdd, m_kill_0, m_kill_2, m_kill_3, m_kill_4, m_kill_9, true_or, or_true, q_lm1, q_l0, q_l1, q_l2, q_l3, q_l4, q_l5, q_l6, q_l8, q_l9, q_l10, q_l12, q_l17, q_l32, q_l35, q_l48, q_l50, q_l54, q_l57, q_l64, q_l73, q_l118, q_l119, q_l120, q_l122, q_l126, q_l160, q_l256, q_l365, q_l372, q_l438, q_l1000, q_l100000, q_l1000000, q_modF hL.2.2.2.2.2.2.1, u1, hr]
theorem z_median (hL : q_lay K) (h : z_inv σ N R c X L) (hx : w32 x = x) :
    (¬ (0 ≤ x ∧ x ≤ 4) → z_O (m_cl Z 225 [(2, ((191 : Nat) : Int)), (0, x)] (K, σ, 206, e, s)) K e s σ N R c X L 1 0) ∧
    ((0 ≤ x ∧ x ≤ 4) → (¬ y_cc N → z_O (m_cl Z 225 [(2, ((191 : Nat) : Int)), (0, x)] (K, σ, 206, e, s)) K e s σ N R c X L 2 0) ∧ (y_cc N → ∀ b, w_best (w_Cv N 0) (w_pts N 0) b → z_O (m_cl Z 225 [(2, ((191 : Nat) : Int)), (0, x)] (K, σ, 206, e, s)) K e s σ N R c X L 0 (y_bf (w_Cv N 0) b x))) := by
  have h2 := z_within2 (Z := Z) (h := (K, σ, 206, e, s)) (x := x) (y := 0) (z := 4) hx (by decide) (by decide)
  have n10 : ¬ (1 : Int) = 0 := by decide
  refine ⟨fun hn => ?_, fun hm => ?_⟩
  · rw [if_neg hn] at h2
    refine z_no h ?_
    simp only [e_225, b_225_0, b_225_7, b_225_10, b_225_14, b_225_18, b_225_21, b_225_25, b_225_26, b_225_29, b_225_32, b_225_34, b_225_39, b_225_43, b_225_48, ↓reduceIte, Nat.reduceEqDiff, Nat.reduceMul, q_n10, q_n01, Option.bind_some, g_aft0, g_aft1, g_aft2, g_aft3, g_aft9, Nat.reduceAdd, m_kill_0, m_kill_2, m_kill_3, m_kill_4, m_kill_9, true_or, or_true, q_lm1, q_l0, q_l1, q_l2, q_l3, q_l4, q_l5, q_l6, q_l8, q_l9, q_l10, q_l12, q_l17, q_l32, q_l35, q_l48, q_l50, q_l54, q_l57, q_l64, q_l73, q_l118, q_l119, q_l120, q_l122, q_l126, q_l160, q_l256, q_l365, q_l372, q_l438, q_l1000, q_l100000, q_l1000000, q_modF hL.2.2.2.2.2.2.1, h2, z_ref1 hL (x := 1) (by decide) (by decide)]
  · rw [if_pos hm] at h2
    obtain ⟨τ, t1, t2, t3, t4⟩ := z_can (Z := Z) (e := e) (s := s) hL h.1
    constructor
    · intro hd
      obtain ⟨τ', u1, u2⟩ := t4 hd
      refine z_no6 (τ := τ') h u1 ?_
      simp only [e_225, b_225_0, b_225_7, b_225_10, b_225_14, b_225_18, b_225_21, b_225_25, b_225_26, b_225_29, b_225_32, b_225_34, b_225_39, b_225_43, b_225_48, ↓reduceIte, Nat.reduceEqDiff, Nat.reduceMul, q_n10, q_n01, Option.bind_some, g_aft0, g_aft1, g_aft2, g_aft3, g_aft9, Nat.reduceAdd, m_kill_0, m_kill_2, m_kill_3, m_kill_4, m_kill_9, true_or, or_true, q_lm1, q_l0, q_l1, q_l2, q_l3, q_l4, q_l5, q_l6, q_l8, q_l9, q_l10, q_l12, q_l17, q_l32, q_l35, q_l48, q_l50, q_l54, q_l57, q_l64, q_l73, q_l118, q_l119, q_l120, q_l122, q_l126, q_l160, q_l256, q_l365, q_l372, q_l438, q_l1000, q_l100000, q_l1000000, q_modF hL.2.2.2.2.2.2.1, h2, n10, u2, z_ref1 hL (x := 2) (by decide) (by decide)]
    · intro hd b hb
      have u2 := t3 hd
      obtain ⟨ω, o1, o2, o3⟩ := z_prep (Z := Z) (e := e) (s := s) (t := 0) hL h.1 hd.1 t1 t2
      obtain ⟨ρ, r1, r2, r3⟩ := z_medians (Z := Z) (e := e) (s := s) hL o2 (Int.le_refl 0) (by decide)
      obtain ⟨b', b1, b2⟩ := z_bs_b r2 (z_ps_ne h.1.1 hd (Int.le_refl 0) (by decide))
      have hq := z_eqbC h.1.1 hd.1 (Int.le_refl 0) (by decide) hb b1
      have hr := z_mT (Z := Z) (e := e) (s := s) hL hq b2 hm.1 hm.2
      refine z_okz h (z_fz_t o3 (z_fz_b r3)) ?_
      simp only [e_225, b_225_0, b_225_7, b_225_10, b_225_14, b_225_18, b_225_21, b_225_25, b_225_26, b_225_29, b_225_32, b_225_34, b_225_39, b_225_43, b_225_48, ↓reduceIte, Nat.reduceEqDiff, Nat.reduceMul, q_n10, q_n01, Option.bind_some, g_aft0, g_aft1, g_aft2, g_aft3, g_aft9, Nat.reduceAdd, m_kill_0, m_kill_2, m_kill_3, m_kill_4, m_kill_9, true_or, or_true, q_lm1, q_l0, q_l1, q_l2, q_l3, q_l4, q_l5, q_l6, q_l8, q_l9, q_l10, q_l12, q_l17, q_l32, q_l35, q_l48, q_l50, q_l54, q_l57, q_l64, q_l73, q_l118, q_l119, q_l120, q_l122, q_l126, q_l160, q_l256, q_l365, q_l372, q_l438, q_l1000, q_l100000, q_l1000000, q_modF hL.2.2.2.2.2.2.1, h2, n10, u2, z_ref0 hL, o1, r1, hr]
theorem z_changed (hL : q_lay K) (h : z_inv σ N R c X L) (hx : w32 x = x) (hy : w32 y = y) :
    (¬ ((0 ≤ x ∧ x ≤ 10) ∧ (y = 0 ∨ y = 1)) → z_O (m_cl Z 235 [(2, ((191 : Nat) : Int)), (0, x), (0, y)] (K, σ, 206, e, s)) K e s σ N R c X L 1 0) ∧
    ((0 ≤ x ∧ x ≤ 10) ∧ (y = 0 ∨ y = 1) → (¬ y_cc N → z_O (m_cl Z 235 [(2, ((191 : Nat) : Int)), (0, x), (0, y)] (K, σ, 206, e, s)) K e s σ N R c X L 2 0) ∧ (y_cc N → ∀ b, w_best (w_Hv N x ((2 ^ w_nn N - 1 : Nat) : Int)) (w_pts N x) b → z_O (m_cl Z 235 [(2, ((191 : Nat) : Int)), (0, x), (0, y)] (K, σ, 206, e, s)) K e s σ N R c X L 0 (w_red (w_Hv N x ((2 ^ w_nn N - 1 : Nat) : Int) b) b.2.2 y))) := by
  have h1 := z_within2 (Z := Z) (h := (K, σ, 206, e, s)) (x := x) (y := 0) (z := 10) hx (by decide) (by decide)
  have h2 := z_part (Z := Z) (h := (K, σ, 206, e, s)) hy
  have n10 : ¬ (1 : Int) = 0 := by decide
  refine ⟨fun hn => ?_, fun hm => ?_⟩
  · refine z_no h ?_
    by_cases c1 : 0 ≤ x ∧ x ≤ 10
    · rw [if_pos c1] at h1
      rw [if_neg (fun q => hn ⟨c1, q⟩)] at h2
      simp only [e_235, b_235_0, b_235_8, b_235_11, b_235_17, b_235_20, b_235_24, b_235_28, b_235_31, b_235_35, b_235_36, b_235_39, b_235_42, b_235_44, b_235_49, b_235_55, b_235_61, b_235_73, ↓reduceIte, Nat.reduceEqDiff, Nat.reduceMul, q_n10, q_n01, Option.bind_some, g_aft0, g_aft1, g_aft2, g_aft3, g_aft9, Nat.reduceAdd, m_kill_0, m_kill_2, m_kill_3, m_kill_4, m_kill_9, true_or, or_true, q_lm1, q_l0, q_l1, q_l2, q_l3, q_l4, q_l5, q_l6, q_l8, q_l9, q_l10, q_l12, q_l17, q_l32, q_l35, q_l48, q_l50, q_l54, q_l57, q_l64, q_l73, q_l118, q_l119, q_l120, q_l122, q_l126, q_l160, q_l256, q_l365, q_l372, q_l438, q_l1000, q_l100000, q_l1000000, q_modF hL.2.2.2.2.2.2.1, h1, h2, n10, z_ref1 hL (x := 1) (by decide) (by decide)]
    · rw [if_neg c1] at h1
      simp only [e_235, b_235_0, b_235_8, b_235_11, b_235_17, b_235_20, b_235_24, b_235_28, b_235_31, b_235_35, b_235_36, b_235_39, b_235_42, b_235_44, b_235_49, b_235_55, b_235_61, b_235_73, ↓reduceIte, Nat.reduceEqDiff, Nat.reduceMul, q_n10, q_n01, Option.bind_some, g_aft0, g_aft1, g_aft2, g_aft3, g_aft9, Nat.reduceAdd, m_kill_0, m_kill_2, m_kill_3, m_kill_4, m_kill_9, true_or, or_true, q_lm1, q_l0, q_l1, q_l2, q_l3, q_l4, q_l5, q_l6, q_l8, q_l9, q_l10, q_l12, q_l17, q_l32, q_l35, q_l48, q_l50, q_l54, q_l57, q_l64, q_l73, q_l118, q_l119, q_l120, q_l122, q_l126, q_l160, q_l256, q_l365, q_l372, q_l438, q_l1000, q_l100000, q_l1000000, q_modF hL.2.2.2.2.2.2.1, h1, z_ref1 hL (x := 1) (by decide) (by decide)]
  · rw [if_pos hm.1] at h1
    rw [if_pos hm.2] at h2
    obtain ⟨τ, t1, t2, t3, t4⟩ := z_can (Z := Z) (e := e) (s := s) hL h.1
    constructor
    · intro hd
      obtain ⟨τ', u1, u2⟩ := t4 hd
      refine z_no6 (τ := τ') h u1 ?_
      simp only [e_235, b_235_0, b_235_8, b_235_11, b_235_17, b_235_20, b_235_24, b_235_28, b_235_31, b_235_35, b_235_36, b_235_39, b_235_42, b_235_44, b_235_49, b_235_55, b_235_61, b_235_73, ↓reduceIte, Nat.reduceEqDiff, Nat.reduceMul, q_n10, q_n01, Option.bind_some, g_aft0, g_aft1, g_aft2, g_aft3, g_aft9, Nat.reduceAdd, m_kill_0, m_kill_2, m_kill_3, m_kill_4, m_kill_9, true_or, or_true, q_lm1, q_l0, q_l1, q_l2, q_l3, q_l4, q_l5, q_l6, q_l8, q_l9, q_l10, q_l12, q_l17, q_l32, q_l35, q_l48, q_l50, q_l54, q_l57, q_l64, q_l73, q_l118, q_l119, q_l120, q_l122, q_l126, q_l160, q_l256, q_l365, q_l372, q_l438, q_l1000, q_l100000, q_l1000000, q_modF hL.2.2.2.2.2.2.1, h1, h2, n10, u2, z_ref1 hL (x := 2) (by decide) (by decide)]
    · intro hd b hb
      have u2 := t3 hd
      have n0 := wf_n h.1.1
      have hall := w_all1 n0.2.2
      obtain ⟨ω, o1, o2, o3⟩ := z_prep (Z := Z) (e := e) (s := s) (t := x) hL h.1 hd.1 t1 t2
      have hmn := z_many (Z := Z) (e := e) (s := s) hL o2.1
      rw [n0.1] at hmn
      obtain ⟨ρ, r1, r2, r3⟩ := z_centers (Z := Z) (S := ((2 ^ w_nn N - 1 : Nat) : Int)) (e := e) (s := s) hL o2 hm.1.1 hm.1.2
      obtain ⟨b', b1, b2⟩ := z_bs_b r2 (z_ps_ne h.1.1 hd hm.1.1 hm.1.2)
      obtain ⟨hq, -⟩ := z_eqbH h.1.1 hd.1 hm.1.1 hm.1.2 hb b1
      have hr := z_redV (Z := Z) (h := (K, ρ, 206, e, s)) hq b2 hy
      refine z_okz h (z_fz_t o3 (z_fz_b r3)) ?_
      simp only [e_235, b_235_0, b_235_8, b_235_11, b_235_17, b_235_20, b_235_24, b_235_28, b_235_31, b_235_35, b_235_36, b_235_39, b_235_42, b_235_44, b_235_49, b_235_55, b_235_61, b_235_73, ↓reduceIte, Nat.reduceEqDiff, Nat.reduceMul, q_n10, q_n01, Option.bind_some, g_aft0, g_aft1, g_aft2, g_aft3, g_aft9, Nat.reduceAdd, m_kill_0, m_kill_2, m_kill_3, m_kill_4, m_kill_9, true_or, or_true, q_lm1, q_l0, q_l1, q_l2, q_l3, q_l4, q_l5, q_l6, q_l8, q_l9, q_l10, q_l12, q_l17, q_l32, q_l35, q_l48, q_l50, q_l54, q_l57, q_l64, q_l73, q_l118, q_l119, q_l120, q_l122, q_l126, q_l160, q_l256, q_l365, q_l372, q_l438, q_l1000, q_l100000, q_l1000000, q_modF hL.2.2.2.2.2.2.1, h1, h2, n10, u2, z_ref0 hL, o1, hmn, hall, r1, hr]
end
end
