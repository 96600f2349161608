section
/-! The model's calls: points. -/
section
variable {Z : mZ} {K : Nat → mK} {σ τ N M : Nat → Nat → Int} {e g i L n c k s a b : Nat} {t p q v x y z w u S : Int} {X : Nat → Int} {h : mH} {R : Nat → Nat → Nat → Int} {T : Nat → Int}
theorem z_no6 (h : z_inv σ N R c X L) {r : Option mO} (hf : ∀ a, a ≠ 196 → τ a = σ a) (hr : r = some (.inl (0, 0), (K, m_up2 τ 191 4 t, 206, e, s))) : z_O r K e s σ N R c X L t 0 := ⟨_, hr, m_up2_at, z_inv4 (z_inv6 h hf), z_fr_u (fun a ha => hf a (by omega)) (by omega) (by omega)⟩
theorem z_ok6 (h : z_inv σ N R c X L) {r : Option mO} (hf : ∀ a, a ≠ 196 → a ≠ 197 → τ a = m_up2 σ 191 4 0 a) (hr : r = some (.inl (0, v), (K, τ, 206, e, s))) : z_O r K e s σ N R c X L 0 v := ⟨_, hr, by rw [hf 191 (by omega) (by omega), m_up2_at], z_invF (z_inv4 (v := 0) h) (hf 192 (by omega) (by omega)) (hf 193 (by omega) (by omega)) (hf 195 (by omega) (by omega)) (by rw [hf 191 (by omega) (by omega)]) (by rw [hf 191 (by omega) (by omega)]), fun a ha => by rw [hf a (by omega) (by omega), m_up2_ne (by omega)]⟩
theorem z_part (hu : w32 u = u) : m_cl Z 152 [(0, u), (0, 0), (0, 1)] h = some (.inl (0, if u = 0 ∨ u = 1 then 1 else 0), h) := by
  rw [z_within2 hu (by decide) (by decide)]
  clear hu
  by_cases c : u = 0 ∨ u = 1
  · rw [if_pos c, if_pos (by omega)]
  · rw [if_neg c, if_neg (by omega)]
theorem z_distanceTo (hL : q_lay K) (h : z_inv σ N R c X L) (hx : w32 x = x) (hy : w32 y = y) (hp : w32 p = p) (hq : w32 q = q) (hu : w32 u = u) :
    (¬ ((0 ≤ x ∧ x < N 0 0) ∧ 0 ≤ y ∧ y < N 0 1) → z_O (m_cl Z 196 [(2, ((191 : Nat) : Int)), (0, x), (0, y), (0, p), (0, q), (0, u)] (K, σ, 206, e, s)) K e s σ N R c X L 1 0) ∧
    ((0 ≤ x ∧ x < N 0 0) ∧ (0 ≤ y ∧ y < N 0 1) → ¬ (y_pt N y.toNat p q ∧ (u = 0 ∨ u = 1)) → z_O (m_cl Z 196 [(2, ((191 : Nat) : Int)), (0, x), (0, y), (0, p), (0, q), (0, u)] (K, σ, 206, e, s)) K e s σ N R c X L 2 0) ∧
    ((0 ≤ x ∧ x < N 0 0) ∧ (0 ≤ y ∧ y < N 0 1) → y_pt N y.toNat p q ∧ (u = 0 ∨ u = 1) → (¬ w_D N x.toNat (w_f N y.toNat) < 1000000 → z_O (m_cl Z 196 [(2, ((191 : Nat) : Int)), (0, x), (0, y), (0, p), (0, q), (0, u)] (K, σ, 206, e, s)) K e s σ N R c X L 3 0) ∧ (w_D N x.toNat (w_f N y.toNat) < 1000000 → z_O (m_cl Z 196 [(2, ((191 : Nat) : Int)), (0, x), (0, y), (0, p), (0, q), (0, u)] (K, σ, 206, e, s)) K e s σ N R c X L 0 (w_red (w_R N y.toNat x.toNat p q) q u))) := by
  have h1 := z_isNode (Z := Z) (e := e) (s := s) hL h.1 hx
  have h2 := z_isEdge (Z := Z) (e := e) (s := s) hL h.1 hy
  have hpa := z_part (Z := Z) (h := (K, σ, 206, e, s)) hu
  have hne := wf_e h.1.1
  have hnn := wf_n h.1.1
  obtain ⟨τ, t1, t2, t3⟩ := z_lays (Z := Z) (e := e) (s := s) hL h.1
  have n10 : ¬ (1 : Int) = 0 := by decide
  refine ⟨fun hn => ?_, fun hn hm => ?_, fun hn hm => ?_⟩
  · refine z_no6 (τ := τ) h t3 ?_
    by_cases c1 : 0 ≤ x ∧ x < N 0 0
    · rw [if_pos c1] at h1
      rw [if_neg (fun q => hn ⟨c1, q⟩)] at h2
      simp only [e_196, b_196_0, b_196_5, b_196_8, b_196_13, b_196_16, b_196_20, b_196_21, b_196_28, b_196_36, b_196_39, b_196_46, b_196_49, b_196_53, b_196_54, b_196_60, b_196_66, b_196_70, b_196_75, b_196_79, b_196_93, b_196_100, b_196_104, b_196_105, b_196_108, b_196_111, b_196_113, b_196_124, b_196_132, ↓reduceIte, Nat.reduceEqDiff, Nat.reduceMul, q_n10, q_n01, Option.bind_some, g_aft0, g_aft1, g_aft2, g_aft3, g_aft9, Nat.reduceAdd, m_kill_0, m_kill_2, m_kill_3, m_kill_4, m_kill_9, true_or, or_true, q_lm1, q_l0, q_l1, q_l2, q_l3, q_l4, q_l5, q_l6, q_l8, q_l9, q_l10, q_l12, q_l17, q_l32, q_l35, q_l48, q_l50, q_l54, q_l57, q_l64, q_l73, q_l118, q_l119, q_l120, q_l122, q_l126, q_l160, q_l256, q_l365, q_l372, q_l438, q_l1000, q_l100000, q_l1000000, q_modF hL.2.2.2.2.2.2.1, h1, h2, t1, z_ref1 hL (x := 1) (by decide) (by decide)]
    · rw [if_neg c1] at h1
      simp only [e_196, b_196_0, b_196_5, b_196_8, b_196_13, b_196_16, b_196_20, b_196_21, b_196_28, b_196_36, b_196_39, b_196_46, b_196_49, b_196_53, b_196_54, b_196_60, b_196_66, b_196_70, b_196_75, b_196_79, b_196_93, b_196_100, b_196_104, b_196_105, b_196_108, b_196_111, b_196_113, b_196_124, b_196_132, ↓reduceIte, Nat.reduceEqDiff, Nat.reduceMul, q_n10, q_n01, Option.bind_some, g_aft0, g_aft1, g_aft2, g_aft3, g_aft9, Nat.reduceAdd, m_kill_0, m_kill_2, m_kill_3, m_kill_4, m_kill_9, true_or, or_true, q_lm1, q_l0, q_l1, q_l2, q_l3, q_l4, q_l5, q_l6, q_l8, q_l9, q_l10, q_l12, q_l17, q_l32, q_l35, q_l48, q_l50, q_l54, q_l57, q_l64, q_l73, q_l118, q_l119, q_l120, q_l122, q_l126, q_l160, q_l256, q_l365, q_l372, q_l438, q_l1000, q_l100000, q_l1000000, q_modF hL.2.2.2.2.2.2.1, h1, t1, z_ref1 hL (x := 1) (by decide) (by decide)]
  all_goals
    rw [if_pos hn.1] at h1
    rw [if_pos hn.2] at h2
    have ex : ((x.toNat : Nat) : Int) = x := by clear hx hy hp hq hu h1 h2 hpa; omega
    have ey : ((y.toNat : Nat) : Int) = y := by clear hx hy hp hq hu h1 h2 hpa; omega
    have hg : y.toNat < w_ne N := by clear hx hy hp hq hu h1 h2 hpa; omega
    have hi : x.toNat < w_nn N := by clear hx hy hp hq hu h1 h2 hpa; omega
    have hpt := z_isPoint (Z := Z) (e := e) (s := s) hL h.1 hg hp hq
    rw [ey] at hpt
  · refine z_no6 (τ := τ) h t3 ?_
    by_cases c1 : y_pt N y.toNat p q
    · rw [if_neg (fun q => hm ⟨c1, q⟩)] at hpa
      simp only [e_196, b_196_0, b_196_5, b_196_8, b_196_13, b_196_16, b_196_20, b_196_21, b_196_28, b_196_36, b_196_39, b_196_46, b_196_49, b_196_53, b_196_54, b_196_60, b_196_66, b_196_70, b_196_75, b_196_79, b_196_93, b_196_100, b_196_104, b_196_105, b_196_108, b_196_111, b_196_113, b_196_124, b_196_132, ↓reduceIte, Nat.reduceEqDiff, Nat.reduceMul, q_n10, q_n01, Option.bind_some, g_aft0, g_aft1, g_aft2, g_aft3, g_aft9, Nat.reduceAdd, m_kill_0, m_kill_2, m_kill_3, m_kill_4, m_kill_9, true_or, or_true, q_lm1, q_l0, q_l1, q_l2, q_l3, q_l4, q_l5, q_l6, q_l8, q_l9, q_l10, q_l12, q_l17, q_l32, q_l35, q_l48, q_l50, q_l54, q_l57, q_l64, q_l73, q_l118, q_l119, q_l120, q_l122, q_l126, q_l160, q_l256, q_l365, q_l372, q_l438, q_l1000, q_l100000, q_l1000000, q_modF hL.2.2.2.2.2.2.1, h1, h2, hpt.1 c1, hpa, t1, z_ref1 hL (x := 2) (by decide) (by decide)]
    · simp only [e_196, b_196_0, b_196_5, b_196_8, b_196_13, b_196_16, b_196_20, b_196_21, b_196_28, b_196_36, b_196_39, b_196_46, b_196_49, b_196_53, b_196_54, b_196_60, b_196_66, b_196_70, b_196_75, b_196_79, b_196_93, b_196_100, b_196_104, b_196_105, b_196_108, b_196_111, b_196_113, b_196_124, b_196_132, ↓reduceIte, Nat.reduceEqDiff, Nat.reduceMul, q_n10, q_n01, Option.bind_some, g_aft0, g_aft1, g_aft2, g_aft3, g_aft9, Nat.reduceAdd, m_kill_0, m_kill_2, m_kill_3, m_kill_4, m_kill_9, true_or, or_true, q_lm1, q_l0, q_l1, q_l2, q_l3, q_l4, q_l5, q_l6, q_l8, q_l9, q_l10, q_l12, q_l17, q_l32, q_l35, q_l48, q_l50, q_l54, q_l57, q_l64, q_l73, q_l118, q_l119, q_l120, q_l122, q_l126, q_l160, q_l256, q_l365, q_l372, q_l438, q_l1000, q_l100000, q_l1000000, q_modF hL.2.2.2.2.2.2.1, h1, h2, hpt.2 c1, t1, z_ref1 hL (x := 2) (by decide) (by decide)]
  · rw [if_pos hm.2] at hpa
    have hw := h.1.1
    have h7 := wf_ed hw hg
    have hpb := y_ptb hw hg hm.1
    have hn' : z_n τ N := z_nF h.1 (t3 192 (by omega))
    obtain ⟨o1, o2, o3⟩ := z_of (Z := Z) (e := e) (s := s) hL hn' hg
    rw [ey, h7.1] at o1
    have hf := t2 x.toNat (w_f N y.toNat) hi h7.2.2.1
    obtain ⟨i1, i2, i3⟩ := z_fix (a := x.toNat) (b := w_f N y.toNat) (by clear hx hy hp hq hu h1 h2 hpa; omega) (by clear hx hy hp hq hu h1 h2 hpa; omega)
    rw [ex] at i1 i2 i3
    have hc := d_cap_lt hw (a := x.toNat) (b := w_f N y.toNat)
    have w1 : w32 100000 = 100000 := by decide
    have wc : w32 (d_cap (w_D N x.toNat (w_f N y.toNat))) = d_cap (w_D N x.toNat (w_f N y.toNat)) := by clear hx hy hp hq hu h1 h2 hpa i1 i2 i3 w1 hf; exact q_wi (by omega) (by omega)
    constructor
    · intro hd
      have c2 : ¬ d_cap (w_D N x.toNat (w_f N y.toNat)) < 100000 := fun q => hd (hc.1.mp q)
      refine z_no6 (τ := τ) h t3 ?_
      simp only [e_196, b_196_0, b_196_5, b_196_8, b_196_13, b_196_16, b_196_20, b_196_21, b_196_28, b_196_36, b_196_39, b_196_46, b_196_49, b_196_53, b_196_54, b_196_60, b_196_66, b_196_70, b_196_75, b_196_79, b_196_93, b_196_100, b_196_104, b_196_105, b_196_108, b_196_111, b_196_113, b_196_124, b_196_132, ↓reduceIte, Nat.reduceEqDiff, Nat.reduceMul, q_n10, q_n01, Option.bind_some, g_aft0, g_aft1, g_aft2, g_aft3, g_aft9, Nat.reduceAdd, m_kill_0, m_kill_2, m_kill_3, m_kill_4, m_kill_9, true_or, or_true, q_lm1, q_l0, q_l1, q_l2, q_l3, q_l4, q_l5, q_l6, q_l8, q_l9, q_l10, q_l12, q_l17, q_l32, q_l35, q_l48, q_l50, q_l54, q_l57, q_l64, q_l73, q_l118, q_l119, q_l120, q_l122, q_l126, q_l160, q_l256, q_l365, q_l372, q_l438, q_l1000, q_l100000, q_l1000000, q_modF hL.2.2.2.2.2.2.1, h1, h2, hpt.1 hm.1, hpa, t1, o1, i1, i2, i3, hf, wc, w1, c2, z_ref1 hL (x := 3) (by decide) (by decide)]
    · intro hd
      have c2 : d_cap (w_D N x.toNat (w_f N y.toNat)) < 100000 := hc.1.mpr hd
      have hn4 : z_n (m_up2 τ 191 4 0) N := z_nF hn' (m_up2_ne (by omega))
      have hf4 : z_far (m_up2 τ 191 4 0) N := fun a b ha hb => by rw [m_up2_ne (by omega)]; exact t2 a b ha hb
      have haw := (z_away (Z := Z) (e := e) (s := s) hL hn4 hf4 hg hi hd hm.1.2.2.1 hpb (show 0 ≤ q by have := hm.1.1; clear hx hy hp hq hu h1 h2 hpa i1 i2 i3 w1 hf wc; omega) hm.1.2.1).2.2
      rw [ex, ey] at haw
      have hrb := w_Rb2 (i := x.toNat) hm.1 (w_ob2 hw hg hd) (by clear hx hy hp hq hu h1 h2 hpa i1 i2 i3 w1 hf wc; omega)
      have hR : 0 ≤ w_R N y.toNat x.toNat p q ∧ w_R N y.toNat x.toNat p q ≤ 12850000 := by
        clear hx hy hp hq hu h1 h2 hpa i1 i2 i3 w1 hf wc
        unfold w_R
        split <;> omega
      have hq1 := hm.1.1
      have hq2 := hm.1.2.1
      have hrd := z_red (Z := Z) (h := (K, m_up2 τ 191 4 0, 206, e, s)) (x := w_R N y.toNat x.toNat p q) (y := q) (u := u) hR.1 (by clear hx hy hp hq hu h1 h2 hpa i1 i2 i3 w1 hf wc; omega) hq1 (by clear hx hy hp hq hu h1 h2 hpa i1 i2 i3 w1 hf wc; omega) hu
      refine ⟨m_up2 τ 191 4 0, ?_, m_up2_at, z_inv4 (z_inv6 h t3), z_fr_u (fun a ha => t3 a (by omega)) (by omega) (by omega)⟩
      simp only [e_196, b_196_0, b_196_5, b_196_8, b_196_13, b_196_16, b_196_20, b_196_21, b_196_28, b_196_36, b_196_39, b_196_46, b_196_49, b_196_53, b_196_54, b_196_60, b_196_66, b_196_70, b_196_75, b_196_79, b_196_93, b_196_100, b_196_104, b_196_105, b_196_108, b_196_111, b_196_113, b_196_124, b_196_132, ↓reduceIte, Nat.reduceEqDiff, Nat.reduceMul, q_n10, q_n01, Option.bind_some, g_aft0, g_aft1, g_aft2, g_aft3, g_aft9, Nat.reduceAdd, m_kill_0, m_kill_2, m_kill_3, m_kill_4, m_kill_9, true_or, or_true, q_lm1, q_l0, q_l1, q_l2, q_l3, q_l4, q_l5, q_l6, q_l8, q_l9, q_l10, q_l12, q_l17, q_l32, q_l35, q_l48, q_l50, q_l54, q_l57, q_l64, q_l73, q_l118, q_l119, q_l120, q_l122, q_l126, q_l160, q_l256, q_l365, q_l372, q_l438, q_l1000, q_l100000, q_l1000000, q_modF hL.2.2.2.2.2.2.1, h1, h2, hpt.1 hm.1, hpa, t1, o1, i1, i2, i3, hf, wc, w1, c2, z_ref0 hL, hp, hq, haw, hrd]
theorem z_isAllowed (hL : q_lay K) (h : z_inv σ N R c X L) (hy : w32 y = y) (hp : w32 p = p) (hq : w32 q = q) :
    (¬ (0 ≤ y ∧ y < N 0 1) → z_O (m_cl Z 198 [(2, ((191 : Nat) : Int)), (0, y), (0, p), (0, q)] (K, σ, 206, e, s)) K e s σ N R c X L 1 0) ∧
    ((0 ≤ y ∧ y < N 0 1) → ¬ y_pt N y.toNat p q → z_O (m_cl Z 198 [(2, ((191 : Nat) : Int)), (0, y), (0, p), (0, q)] (K, σ, 206, e, s)) K e s σ N R c X L 2 0) ∧
    ((0 ≤ y ∧ y < N 0 1) → y_pt N y.toNat p q → z_O (m_cl Z 198 [(2, ((191 : Nat) : Int)), (0, y), (0, p), (0, q)] (K, σ, 206, e, s)) K e s σ N R c X L 0 (if w_al N y.toNat p q = true then 1 else 0)) := by
  have h2 := z_isEdge (Z := Z) (e := e) (s := s) hL h.1 hy
  have hne := wf_e h.1.1
  refine ⟨fun hn => ?_, fun hn hm => ?_, fun hn hm => ?_⟩
  · rw [if_neg hn] at h2
    refine z_no h ?_
    simp only [e_198, b_198_0, b_198_6, b_198_9, b_198_13, b_198_20, b_198_23, b_198_27, b_198_28, b_198_31, b_198_34, b_198_43, b_198_46, b_198_50, b_198_51, ↓reduceIte, Nat.reduceEqDiff, Nat.reduceMul, q_n10, q_n01, Option.bind_some, g_aft0, g_aft1, g_aft2, g_aft3, g_aft9, Nat.reduceAdd, m_kill_0, m_kill_2, m_kill_3, m_kill_4, m_kill_9, true_or, or_true, q_lm1, q_l0, q_l1, q_l2, q_l3, q_l4, q_l5, q_l6, q_l8, q_l9, q_l10, q_l12, q_l17, q_l32, q_l35, q_l48, q_l50, q_l54, q_l57, q_l64, q_l73, q_l118, q_l119, q_l120, q_l122, q_l126, q_l160, q_l256, q_l365, q_l372, q_l438, q_l1000, q_l100000, q_l1000000, q_modF hL.2.2.2.2.2.2.1, h2, z_ref1 hL (x := 1) (by decide) (by decide), true_or]
  all_goals
    rw [if_pos hn] at h2
    have ey : ((y.toNat : Nat) : Int) = y := by clear hy hp hq h2; omega
    have hg : y.toNat < w_ne N := by clear hy hp hq h2; omega
    have hpt := z_isPoint (Z := Z) (e := e) (s := s) hL h.1 hg hp hq
    rw [ey] at hpt
  · refine z_no h ?_
    simp only [e_198, b_198_0, b_198_6, b_198_9, b_198_13, b_198_20, b_198_23, b_198_27, b_198_28, b_198_31, b_198_34, b_198_43, b_198_46, b_198_50, b_198_51, ↓reduceIte, Nat.reduceEqDiff, Nat.reduceMul, q_n10, q_n01, Option.bind_some, g_aft0, g_aft1, g_aft2, g_aft3, g_aft9, Nat.reduceAdd, m_kill_0, m_kill_2, m_kill_3, m_kill_4, m_kill_9, true_or, or_true, q_lm1, q_l0, q_l1, q_l2, q_l3, q_l4, q_l5, q_l6, q_l8, q_l9, q_l10, q_l12, q_l17, q_l32, q_l35, q_l48, q_l50, q_l54, q_l57, q_l64, q_l73, q_l118, q_l119, q_l120, q_l122, q_l126, q_l160, q_l256, q_l365, q_l372, q_l438, q_l1000, q_l100000, q_l1000000, q_modF hL.2.2.2.2.2.2.1, h2, hpt.2 hm, z_ref1 hL (x := 2) (by decide) (by decide), true_or]
  · have hpb := y_ptb h.1.1 hg hm
    have hq1 := hm.1
    have hml := z_mayLie (Z := Z) (e := e) (s := s) hL (z_inv4 (v := 0) h).1 hg hm.2.2.1 hpb (show 0 ≤ q by clear hy hp hq h2; omega) hm.2.1
    rw [ey] at hml
    refine ⟨m_up2 σ 191 4 0, ?_, m_up2_at, z_inv4 h, z_fr_u z_fr_r (by omega) (by omega)⟩
    by_cases d : w_al N y.toNat p q = true
    · rw [if_pos d] at hml ⊢
      simp only [e_198, b_198_0, b_198_6, b_198_9, b_198_13, b_198_20, b_198_23, b_198_27, b_198_28, b_198_31, b_198_34, b_198_43, b_198_46, b_198_50, b_198_51, ↓reduceIte, Nat.reduceEqDiff, Nat.reduceMul, q_n10, q_n01, Option.bind_some, g_aft0, g_aft1, g_aft2, g_aft3, g_aft9, Nat.reduceAdd, m_kill_0, m_kill_2, m_kill_3, m_kill_4, m_kill_9, true_or, or_true, q_lm1, q_l0, q_l1, q_l2, q_l3, q_l4, q_l5, q_l6, q_l8, q_l9, q_l10, q_l12, q_l17, q_l32, q_l35, q_l48, q_l50, q_l54, q_l57, q_l64, q_l73, q_l118, q_l119, q_l120, q_l122, q_l126, q_l160, q_l256, q_l365, q_l372, q_l438, q_l1000, q_l100000, q_l1000000, q_modF hL.2.2.2.2.2.2.1, h2, hpt.1 hm, z_ref0 hL, hp, hq, hml]
    · rw [if_neg d] at hml ⊢
      simp only [e_198, b_198_0, b_198_6, b_198_9, b_198_13, b_198_20, b_198_23, b_198_27, b_198_28, b_198_31, b_198_34, b_198_43, b_198_46, b_198_50, b_198_51, ↓reduceIte, Nat.reduceEqDiff, Nat.reduceMul, q_n10, q_n01, Option.bind_some, g_aft0, g_aft1, g_aft2, g_aft3, g_aft9, Nat.reduceAdd, m_kill_0, m_kill_2, m_kill_3, m_kill_4, m_kill_9, true_or, or_true, q_lm1, q_l0, q_l1, q_l2, q_l3, q_l4, q_l5, q_l6, q_l8, q_l9, q_l10, q_l12, q_l17, q_l32, q_l35, q_l48, q_l50, q_l54, q_l57, q_l64, q_l73, q_l118, q_l119, q_l120, q_l122, q_l126, q_l160, q_l256, q_l365, q_l372, q_l438, q_l1000, q_l100000, q_l1000000, q_modF hL.2.2.2.2.2.2.1, h2, hpt.1 hm, z_ref0 hL, hp, hq, hml, true_or]
theorem z_heightC (hL : q_lay K) (h : z_inv σ N R c X L) (hx : w32 x = x) (hy : w32 y = y) (hp : w32 p = p) (hq : w32 q = q) (hu : w32 u = u) :
    (¬ (0 ≤ y ∧ y < N 0 1) → z_O (m_cl Z 203 [(2, ((191 : Nat) : Int)), (0, x), (0, y), (0, p), (0, q), (0, u)] (K, σ, 206, e, s)) K e s σ N R c X L 1 0) ∧
    ((0 ≤ y ∧ y < N 0 1) → ¬ ((0 ≤ x ∧ x < ((2 ^ w_nn N : Nat) : Int)) ∧ y_pt N y.toNat p q ∧ (u = 0 ∨ u = 1)) → z_O (m_cl Z 203 [(2, ((191 : Nat) : Int)), (0, x), (0, y), (0, p), (0, q), (0, u)] (K, σ, 206, e, s)) K e s σ N R c X L 2 0) ∧
    ((0 ≤ y ∧ y < N 0 1) → (0 ≤ x ∧ x < ((2 ^ w_nn N : Nat) : Int)) ∧ y_pt N y.toNat p q ∧ (u = 0 ∨ u = 1) → (¬ w_cn N → z_O (m_cl Z 203 [(2, ((191 : Nat) : Int)), (0, x), (0, y), (0, p), (0, q), (0, u)] (K, σ, 206, e, s)) K e s σ N R c X L 3 0) ∧ (w_cn N → z_O (m_cl Z 203 [(2, ((191 : Nat) : Int)), (0, x), (0, y), (0, p), (0, q), (0, u)] (K, σ, 206, e, s)) K e s σ N R c X L 0 (w_red (w_H N 0 x y.toNat p q (w_nn N)) q u))) := by
  have h2 := z_isEdge (Z := Z) (e := e) (s := s) hL h.1 hy
  have h1 := z_isSet (Z := Z) (e := e) (s := s) hL h.1 hx
  have hpa := z_part (Z := Z) (h := (K, σ, 206, e, s)) hu
  have hne := wf_e h.1.1
  refine ⟨fun hn => ?_, fun hn hm => ?_, fun hn hm => ?_⟩
  · rw [if_neg hn] at h2
    refine z_no h ?_
    simp only [e_203, b_203_0, b_203_5, b_203_8, b_203_13, b_203_16, b_203_24, b_203_27, b_203_34, b_203_37, b_203_41, b_203_42, b_203_50, b_203_53, b_203_57, b_203_62, b_203_66, b_203_70, b_203_73, b_203_77, b_203_78, b_203_81, b_203_84, b_203_86, b_203_91, b_203_102, b_203_110, ↓reduceIte, Nat.reduceEqDiff, Nat.reduceMul, q_n10, q_n01, Option.bind_some, g_aft0, g_aft1, g_aft2, g_aft3, g_aft9, Nat.reduceAdd, m_kill_0, m_kill_2, m_kill_3, m_kill_4, m_kill_9, true_or, or_true, q_lm1, q_l0, q_l1, q_l2, q_l3, q_l4, q_l5, q_l6, q_l8, q_l9, q_l10, q_l12, q_l17, q_l32, q_l35, q_l48, q_l50, q_l54, q_l57, q_l64, q_l73, q_l118, q_l119, q_l120, q_l122, q_l126, q_l160, q_l256, q_l365, q_l372, q_l438, q_l1000, q_l100000, q_l1000000, q_modF hL.2.2.2.2.2.2.1, h2, z_ref1 hL (x := 1) (by decide) (by decide)]
  all_goals
    rw [if_pos hn] at h2
    have ey : ((y.toNat : Nat) : Int) = y := by clear hx hy hp hq hu h1 h2 hpa; omega
    have hg : y.toNat < w_ne N := by clear hx hy hp hq hu h1 h2 hpa; omega
    have hpt := z_isPoint (Z := Z) (e := e) (s := s) hL h.1 hg hp hq
    rw [ey] at hpt
  · refine z_no h ?_
    by_cases c0 : 0 ≤ x ∧ x < ((2 ^ w_nn N : Nat) : Int)
    · rw [if_pos c0] at h1
      by_cases c1 : y_pt N y.toNat p q
      · rw [if_neg (fun q => hm ⟨c0, c1, q⟩)] at hpa
        simp only [e_203, b_203_0, b_203_5, b_203_8, b_203_13, b_203_16, b_203_24, b_203_27, b_203_34, b_203_37, b_203_41, b_203_42, b_203_50, b_203_53, b_203_57, b_203_62, b_203_66, b_203_70, b_203_73, b_203_77, b_203_78, b_203_81, b_203_84, b_203_86, b_203_91, b_203_102, b_203_110, ↓reduceIte, Nat.reduceEqDiff, Nat.reduceMul, q_n10, q_n01, Option.bind_some, g_aft0, g_aft1, g_aft2, g_aft3, g_aft9, Nat.reduceAdd, m_kill_0, m_kill_2, m_kill_3, m_kill_4, m_kill_9, true_or, or_true, q_lm1, q_l0, q_l1, q_l2, q_l3, q_l4, q_l5, q_l6, q_l8, q_l9, q_l10, q_l12, q_l17, q_l32, q_l35, q_l48, q_l50, q_l54, q_l57, q_l64, q_l73, q_l118, q_l119, q_l120, q_l122, q_l126, q_l160, q_l256, q_l365, q_l372, q_l438, q_l1000, q_l100000, q_l1000000, q_modF hL.2.2.2.2.2.2.1, h2, h1, hpt.1 c1, hpa, z_ref1 hL (x := 2) (by decide) (by decide)]
      · simp only [e_203, b_203_0, b_203_5, b_203_8, b_203_13, b_203_16, b_203_24, b_203_27, b_203_34, b_203_37, b_203_41, b_203_42, b_203_50, b_203_53, b_203_57, b_203_62, b_203_66, b_203_70, b_203_73, b_203_77, b_203_78, b_203_81, b_203_84, b_203_86, b_203_91, b_203_102, b_203_110, ↓reduceIte, Nat.reduceEqDiff, Nat.reduceMul, q_n10, q_n01, Option.bind_some, g_aft0, g_aft1, g_aft2, g_aft3, g_aft9, Nat.reduceAdd, m_kill_0, m_kill_2, m_kill_3, m_kill_4, m_kill_9, true_or, or_true, q_lm1, q_l0, q_l1, q_l2, q_l3, q_l4, q_l5, q_l6, q_l8, q_l9, q_l10, q_l12, q_l17, q_l32, q_l35, q_l48, q_l50, q_l54, q_l57, q_l64, q_l73, q_l118, q_l119, q_l120, q_l122, q_l126, q_l160, q_l256, q_l365, q_l372, q_l438, q_l1000, q_l100000, q_l1000000, q_modF hL.2.2.2.2.2.2.1, h2, h1, hpt.2 c1, z_ref1 hL (x := 2) (by decide) (by decide)]
    · rw [if_neg c0] at h1
      simp only [e_203, b_203_0, b_203_5, b_203_8, b_203_13, b_203_16, b_203_24, b_203_27, b_203_34, b_203_37, b_203_41, b_203_42, b_203_50, b_203_53, b_203_57, b_203_62, b_203_66, b_203_70, b_203_73, b_203_77, b_203_78, b_203_81, b_203_84, b_203_86, b_203_91, b_203_102, b_203_110, ↓reduceIte, Nat.reduceEqDiff, Nat.reduceMul, q_n10, q_n01, Option.bind_some, g_aft0, g_aft1, g_aft2, g_aft3, g_aft9, Nat.reduceAdd, m_kill_0, m_kill_2, m_kill_3, m_kill_4, m_kill_9, true_or, or_true, q_lm1, q_l0, q_l1, q_l2, q_l3, q_l4, q_l5, q_l6, q_l8, q_l9, q_l10, q_l12, q_l17, q_l32, q_l35, q_l48, q_l50, q_l54, q_l57, q_l64, q_l73, q_l118, q_l119, q_l120, q_l122, q_l126, q_l160, q_l256, q_l365, q_l372, q_l438, q_l1000, q_l100000, q_l1000000, q_modF hL.2.2.2.2.2.2.1, h2, h1, z_ref1 hL (x := 2) (by decide) (by decide)]
  · rw [if_pos hm.1] at h1
    rw [if_pos hm.2.2] at hpa
    obtain ⟨τ, v, t1, t2, t3, t4, t5⟩ := z_conn (Z := Z) (e := e) (s := s) hL h.1
    constructor
    · intro hd
      rw [t5 hd] at t1
      refine z_no6 (τ := τ) h t3 ?_
      simp only [e_203, b_203_0, b_203_5, b_203_8, b_203_13, b_203_16, b_203_24, b_203_27, b_203_34, b_203_37, b_203_41, b_203_42, b_203_50, b_203_53, b_203_57, b_203_62, b_203_66, b_203_70, b_203_73, b_203_77, b_203_78, b_203_81, b_203_84, b_203_86, b_203_91, b_203_102, b_203_110, ↓reduceIte, Nat.reduceEqDiff, Nat.reduceMul, q_n10, q_n01, Option.bind_some, g_aft0, g_aft1, g_aft2, g_aft3, g_aft9, Nat.reduceAdd, m_kill_0, m_kill_2, m_kill_3, m_kill_4, m_kill_9, true_or, or_true, q_lm1, q_l0, q_l1, q_l2, q_l3, q_l4, q_l5, q_l6, q_l8, q_l9, q_l10, q_l12, q_l17, q_l32, q_l35, q_l48, q_l50, q_l54, q_l57, q_l64, q_l73, q_l118, q_l119, q_l120, q_l122, q_l126, q_l160, q_l256, q_l365, q_l372, q_l438, q_l1000, q_l100000, q_l1000000, q_modF hL.2.2.2.2.2.2.1, h2, h1, hpt.1 hm.2.1, hpa, t1, z_ref1 hL (x := 3) (by decide) (by decide)]
    · intro hd
      rw [t4 hd] at t1
      have hn4 : z_n (m_up2 τ 191 4 0) N := z_nF h.1 (by rw [m_up2_ne (by omega), t3 192 (by omega)])
      obtain ⟨ω, o1, o2, o3⟩ := z_weighs (Z := Z) (e := e) (s := s) (t := 0) hL hn4
      have hsr : z_sur ω N 0 := ⟨z_nF hn4 (o3 192 (by omega)), fun a b ha hb => by rw [o3 196 (by omega), m_up2_ne (by omega)]; exact t2 a b ha hb, o2, hd⟩
      have hq2 := hm.2.1.2.1
      have hq1 := hm.2.1.1
      have hpq : w_pq N 0 y.toNat p q := ⟨hm.2.1.1, hm.2.1.2.1, by clear hx hy hp hq hu h1 h2 hpa; omega, Int.le_refl _, hm.2.1.2.2.1, hm.2.1.2.2.2⟩
      have hh := z_height (Z := Z) (e := e) (s := s) (S := x) hL hsr (Int.le_refl 0) (by decide) hg hpq
      rw [ey] at hh
      have hb := w_Hb h.1.1 hd hg hpq (S := x) (w_nn N) (Nat.le_refl _)
      have hrd := z_red (Z := Z) (h := (K, ω, 206, e, s)) (x := w_H N 0 x y.toNat p q (w_nn N)) (y := q) (u := u) hb.1 (by clear hx hy hp hq hu h1 h2 hpa; omega) hq1 (by clear hx hy hp hq hu h1 h2 hpa; omega) hu
      refine z_ok6 (τ := ω) h (fun a h6 h7 => ?_) ?_
      · rw [o3 a h7]
        by_cases ha : a = 191
        · subst ha
          funext j
          by_cases hj : j = 4
          · subst hj; rw [m_up2_at, m_up2_at]
          · rw [m_up2_nk hj, m_up2_nk hj, t3 191 (by omega)]
        · rw [m_up2_ne ha, m_up2_ne ha, t3 a h6]
      · simp only [e_203, b_203_0, b_203_5, b_203_8, b_203_13, b_203_16, b_203_24, b_203_27, b_203_34, b_203_37, b_203_41, b_203_42, b_203_50, b_203_53, b_203_57, b_203_62, b_203_66, b_203_70, b_203_73, b_203_77, b_203_78, b_203_81, b_203_84, b_203_86, b_203_91, b_203_102, b_203_110, ↓reduceIte, Nat.reduceEqDiff, Nat.reduceMul, q_n10, q_n01, Option.bind_some, g_aft0, g_aft1, g_aft2, g_aft3, g_aft9, Nat.reduceAdd, m_kill_0, m_kill_2, m_kill_3, m_kill_4, m_kill_9, true_or, or_true, q_lm1, q_l0, q_l1, q_l2, q_l3, q_l4, q_l5, q_l6, q_l8, q_l9, q_l10, q_l12, q_l17, q_l32, q_l35, q_l48, q_l50, q_l54, q_l57, q_l64, q_l73, q_l118, q_l119, q_l120, q_l122, q_l126, q_l160, q_l256, q_l365, q_l372, q_l438, q_l1000, q_l100000, q_l1000000, q_modF hL.2.2.2.2.2.2.1, h2, h1, hpt.1 hm.2.1, hpa, t1, z_ref0 hL, o1, hp, hq, hh, hrd]
theorem z_costC (hL : q_lay K) (h : z_inv σ N R c X L) (hy : w32 y = y) (hp : w32 p = p) (hq : w32 q = q) (hu : w32 u = u) :
    (¬ (0 ≤ y ∧ y < N 0 1) → z_O (m_cl Z 204 [(2, ((191 : Nat) : Int)), (0, y), (0, p), (0, q), (0, u)] (K, σ, 206, e, s)) K e s σ N R c X L 1 0) ∧
    ((0 ≤ y ∧ y < N 0 1) → ¬ (y_pt N y.toNat p q ∧ (u = 0 ∨ u = 1)) → z_O (m_cl Z 204 [(2, ((191 : Nat) : Int)), (0, y), (0, p), (0, q), (0, u)] (K, σ, 206, e, s)) K e s σ N R c X L 2 0) ∧
    ((0 ≤ y ∧ y < N 0 1) → y_pt N y.toNat p q ∧ (u = 0 ∨ u = 1) → (¬ w_cn N → z_O (m_cl Z 204 [(2, ((191 : Nat) : Int)), (0, y), (0, p), (0, q), (0, u)] (K, σ, 206, e, s)) K e s σ N R c X L 3 0) ∧ (w_cn N → z_O (m_cl Z 204 [(2, ((191 : Nat) : Int)), (0, y), (0, p), (0, q), (0, u)] (K, σ, 206, e, s)) K e s σ N R c X L 0 (w_red (w_C N 0 y.toNat p q (w_nn N)) q u))) := by
  have h2 := z_isEdge (Z := Z) (e := e) (s := s) hL h.1 hy
  have hpa := z_part (Z := Z) (h := (K, σ, 206, e, s)) hu
  have hne := wf_e h.1.1
  refine ⟨fun hn => ?_, fun hn hm => ?_, fun hn hm => ?_⟩
  · rw [if_neg hn] at h2
    refine z_no h ?_
    simp only [e_204, b_204_0, b_204_5, b_204_8, b_204_15, b_204_18, b_204_25, b_204_28, b_204_32, b_204_33, b_204_41, b_204_44, b_204_48, b_204_53, b_204_57, b_204_61, b_204_64, b_204_68, b_204_69, b_204_72, b_204_75, b_204_77, b_204_82, b_204_91, b_204_98, ↓reduceIte, Nat.reduceEqDiff, Nat.reduceMul, q_n10, q_n01, Option.bind_some, g_aft0, g_aft1, g_aft2, g_aft3, g_aft9, Nat.reduceAdd, m_kill_0, m_kill_2, m_kill_3, m_kill_4, m_kill_9, true_or, or_true, q_lm1, q_l0, q_l1, q_l2, q_l3, q_l4, q_l5, q_l6, q_l8, q_l9, q_l10, q_l12, q_l17, q_l32, q_l35, q_l48, q_l50, q_l54, q_l57, q_l64, q_l73, q_l118, q_l119, q_l120, q_l122, q_l126, q_l160, q_l256, q_l365, q_l372, q_l438, q_l1000, q_l100000, q_l1000000, q_modF hL.2.2.2.2.2.2.1, h2, z_ref1 hL (x := 1) (by decide) (by decide)]
  all_goals
    rw [if_pos hn] at h2
    have ey : ((y.toNat : Nat) : Int) = y := by clear hy hp hq hu h2 hpa; omega
    have hg : y.toNat < w_ne N := by clear hy hp hq hu h2 hpa; omega
    have hpt := z_isPoint (Z := Z) (e := e) (s := s) hL h.1 hg hp hq
    rw [ey] at hpt
  · refine z_no h ?_
    by_cases c1 : y_pt N y.toNat p q
    · rw [if_neg (fun q => hm ⟨c1, q⟩)] at hpa
      simp only [e_204, b_204_0, b_204_5, b_204_8, b_204_15, b_204_18, b_204_25, b_204_28, b_204_32, b_204_33, b_204_41, b_204_44, b_204_48, b_204_53, b_204_57, b_204_61, b_204_64, b_204_68, b_204_69, b_204_72, b_204_75, b_204_77, b_204_82, b_204_91, b_204_98, ↓reduceIte, Nat.reduceEqDiff, Nat.reduceMul, q_n10, q_n01, Option.bind_some, g_aft0, g_aft1, g_aft2, g_aft3, g_aft9, Nat.reduceAdd, m_kill_0, m_kill_2, m_kill_3, m_kill_4, m_kill_9, true_or, or_true, q_lm1, q_l0, q_l1, q_l2, q_l3, q_l4, q_l5, q_l6, q_l8, q_l9, q_l10, q_l12, q_l17, q_l32, q_l35, q_l48, q_l50, q_l54, q_l57, q_l64, q_l73, q_l118, q_l119, q_l120, q_l122, q_l126, q_l160, q_l256, q_l365, q_l372, q_l438, q_l1000, q_l100000, q_l1000000, q_modF hL.2.2.2.2.2.2.1, h2, hpt.1 c1, hpa, z_ref1 hL (x := 2) (by decide) (by decide)]
    · simp only [e_204, b_204_0, b_204_5, b_204_8, b_204_15, b_204_18, b_204_25, b_204_28, b_204_32, b_204_33, b_204_41, b_204_44, b_204_48, b_204_53, b_204_57, b_204_61, b_204_64, b_204_68, b_204_69, b_204_72, b_204_75, b_204_77, b_204_82, b_204_91, b_204_98, ↓reduceIte, Nat.reduceEqDiff, Nat.reduceMul, q_n10, q_n01, Option.bind_some, g_aft0, g_aft1, g_aft2, g_aft3, g_aft9, Nat.reduceAdd, m_kill_0, m_kill_2, m_kill_3, m_kill_4, m_kill_9, true_or, or_true, q_lm1, q_l0, q_l1, q_l2, q_l3, q_l4, q_l5, q_l6, q_l8, q_l9, q_l10, q_l12, q_l17, q_l32, q_l35, q_l48, q_l50, q_l54, q_l57, q_l64, q_l73, q_l118, q_l119, q_l120, q_l122, q_l126, q_l160, q_l256, q_l365, q_l372, q_l438, q_l1000, q_l100000, q_l1000000, q_modF hL.2.2.2.2.2.2.1, h2, hpt.2 c1, z_ref1 hL (x := 2) (by decide) (by decide)]
  · rw [if_pos hm.2] at hpa
    obtain ⟨τ, v, t1, t2, t3, t4, t5⟩ := z_conn (Z := Z) (e := e) (s := s) hL h.1
    constructor
    · intro hd
      rw [t5 hd] at t1
      refine z_no6 (τ := τ) h t3 ?_
      simp only [e_204, b_204_0, b_204_5, b_204_8, b_204_15, b_204_18, b_204_25, b_204_28, b_204_32, b_204_33, b_204_41, b_204_44, b_204_48, b_204_53, b_204_57, b_204_61, b_204_64, b_204_68, b_204_69, b_204_72, b_204_75, b_204_77, b_204_82, b_204_91, b_204_98, ↓reduceIte, Nat.reduceEqDiff, Nat.reduceMul, q_n10, q_n01, Option.bind_some, g_aft0, g_aft1, g_aft2, g_aft3, g_aft9, Nat.reduceAdd, m_kill_0, m_kill_2, m_kill_3, m_kill_4, m_kill_9, true_or, or_true, q_lm1, q_l0, q_l1, q_l2, q_l3, q_l4, q_l5, q_l6, q_l8, q_l9, q_l10, q_l12, q_l17, q_l32, q_l35, q_l48, q_l50, q_l54, q_l57, q_l64, q_l73, q_l118, q_l119, q_l120, q_l122, q_l126, q_l160, q_l256, q_l365, q_l372, q_l438, q_l1000, q_l100000, q_l1000000, q_modF hL.2.2.2.2.2.2.1, h2, hpt.1 hm.1, hpa, t1, z_ref1 hL (x := 3) (by decide) (by decide)]
    · intro hd
      rw [t4 hd] at t1
      have hn4 : z_n (m_up2 τ 191 4 0) N := z_nF h.1 (by rw [m_up2_ne (by omega), t3 192 (by omega)])
      obtain ⟨ω, o1, o2, o3⟩ := z_weighs (Z := Z) (e := e) (s := s) (t := 0) hL hn4
      have hsr : z_sur ω N 0 := ⟨z_nF hn4 (o3 192 (by omega)), fun a b ha hb => by rw [o3 196 (by omega), m_up2_ne (by omega)]; exact t2 a b ha hb, o2, hd⟩
      have hq2 := hm.1.2.1
      have hq1 := hm.1.1
      have hpq : w_pq N 0 y.toNat p q := ⟨hm.1.1, hm.1.2.1, by clear hy hp hq hu h2 hpa; omega, Int.le_refl _, hm.1.2.2.1, hm.1.2.2.2⟩
      have hh := z_cost (Z := Z) (e := e) (s := s) hL hsr (Int.le_refl 0) (by decide) hg hpq
      rw [ey] at hh
      have hb := w_Cb h.1.1 hd hg hpq (w_nn N) (Nat.le_refl _)
      have n8 := (wf_n h.1.1).2.2
      have hrd := z_red (Z := Z) (h := (K, ω, 206, e, s)) (x := w_C N 0 y.toNat p q (w_nn N)) (y := q) (u := u) hb.1 (by clear hy hp hq hu h2 hpa; omega) hq1 (by clear hy hp hq hu h2 hpa; omega) hu
      refine z_ok6 (τ := ω) h (fun a h6 h7 => ?_) ?_
      · rw [o3 a h7]
        by_cases ha : a = 191
        · subst ha
          funext j
          by_cases hj : j = 4
          · subst hj; rw [m_up2_at, m_up2_at]
          · rw [m_up2_nk hj, m_up2_nk hj, t3 191 (by omega)]
        · rw [m_up2_ne ha, m_up2_ne ha, t3 a h6]
      · simp only [e_204, b_204_0, b_204_5, b_204_8, b_204_15, b_204_18, b_204_25, b_204_28, b_204_32, b_204_33, b_204_41, b_204_44, b_204_48, b_204_53, b_204_57, b_204_61, b_204_64, b_204_68, b_204_69, b_204_72, b_204_75, b_204_77, b_204_82, b_204_91, b_204_98, ↓reduceIte, Nat.reduceEqDiff, Nat.reduceMul, q_n10, q_n01, Option.bind_some, g_aft0, g_aft1, g_aft2, g_aft3, g_aft9, Nat.reduceAdd, m_kill_0, m_kill_2, m_kill_3, m_kill_4, m_kill_9, true_or, or_true, q_lm1, q_l0, q_l1, q_l2, q_l3, q_l4, q_l5, q_l6, q_l8, q_l9, q_l10, q_l12, q_l17, q_l32, q_l35, q_l48, q_l50, q_l54, q_l57, q_l64, q_l73, q_l118, q_l119, q_l120, q_l122, q_l126, q_l160, q_l256, q_l365, q_l372, q_l438, q_l1000, q_l100000, q_l1000000, q_modF hL.2.2.2.2.2.2.1, h2, hpt.1 hm.1, hpa, t1, z_ref0 hL, o1, hp, hq, hh, hrd]
end
end
