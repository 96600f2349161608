section
/-! The class's calls: points. -/
section
variable {Z : mZ} {K : Nat → mK} {σ τ N M : Nat → Nat → Int} {R : Nat → Nat → Nat → Int} {e s g i L n c k : Nat} {t p q v b x y z w u : Int} {X : Nat → Int}
theorem y_ptb (hw : q_wf N) (hg : g < w_ne N) (h : y_pt N g p q) : p ≤ 50000 := by
  have h7 := wf_ed hw hg
  obtain ⟨h1, h2, h3, h4⟩ := h
  have m := q_mb (show 0 ≤ N 10 g by omega) h7.2.2.2.2.2.2 (show 0 ≤ q by omega) h2
  omega
theorem w_Rb2 (h : y_pt N g p q) (ho : 0 ≤ w_o N g i ∧ w_o N g i ≤ 12800 ∧ 1 ≤ w_b N g i ∧ w_b N g i ≤ 12850 ∧ N 10 g ≤ w_b N g i) (hl : 0 ≤ N 10 g ∧ N 10 g ≤ 50) : 0 ≤ w_o N g i * q + p ∧ w_o N g i * q + p ≤ 12850000 ∧ 0 ≤ w_b N g i * q - p ∧ w_b N g i * q - p ≤ 12850000 := by
  obtain ⟨h1, h2, h5, h6⟩ := h
  obtain ⟨o1, o2, o3, o4, o5⟩ := ho
  have m1 := q_mb o1 o2 (show 0 ≤ q by omega) h2
  have m2 := q_mb (show 0 ≤ w_b N g i by omega) o4 (show 0 ≤ q by omega) h2
  have m3 := q_mb hl.1 o5 (show 0 ≤ q by omega) (Int.le_refl q)
  have m4 := q_mb hl.1 hl.2 (show 0 ≤ q by omega) h2
  refine ⟨by omega, by omega, by omega, by omega⟩
theorem s_reach2 (hL : q_lay K) (hv : v_e σ N) (hw : q_wf N) (hg : g < w_ne N) (hi : i < w_nn N) (hp : y_pt N g p q) (ho : 0 ≤ w_o N g i ∧ w_o N g i ≤ 12800 ∧ 1 ≤ w_b N g i ∧ w_b N g i ≤ 12850 ∧ N 10 g ≤ w_b N g i) : m_cl Z 79 [(2, ((138 : Nat) : Int)), (0, (i : Int)), (0, (g : Int)), (0, p), (0, q)] (K, σ, 191, e, s) = some (.inl (0, w_R N g i p q), (K, σ, 191, e, s)) := by
  have h7 := wf_ed hw hg
  obtain ⟨h1, h2, h3, h4⟩ := w_Rb2 hp ho (by omega)
  obtain ⟨o1, o2⟩ := v_out hv hw hg hi
  have w1 : w32 (w_o N g i * q + p) = w_o N g i * q + p := q_wB (by omega) (by omega)
  have w2 : w32 (w_b N g i * q - p) = w_b N g i * q - p := q_wB (by omega) (by omega)
  simp only [e_79, b_79_0, b_79_17, b_79_31, ↓reduceIte, Nat.reduceEqDiff, Nat.reduceMul, q_n10, q_n01, Option.bind_some, g_aft0, g_aft1, g_aft2, g_aft3, g_aft9, Nat.reduceAdd, m_kill_0, m_kill_2, m_kill_3, m_kill_4, m_kill_9, true_or, or_true, q_lm1, q_l0, q_l1, q_l2, q_l3, q_l4, q_l5, q_l6, q_l8, q_l9, q_l10, q_l12, q_l32, q_l50, q_l120, q_l122, q_l126, q_l372, q_l1000, q_l1000000, q_surF hL.2.2.1, q_tkF hL.2.1, r_get, o1, o2, w1, w2]
  rfl
theorem x_distanceTo (hL : q_lay K) (h : w_ic σ N R c X L k) (hk : k < 999999) (hx : w32 x = x) (hy : w32 y = y) (hp : w32 p = p) (hq : w32 q = q) (hu : w32 u = u) :
    (¬ ((0 ≤ x ∧ x < N 0 0) ∧ 0 ≤ y ∧ y < N 0 1) → m_cl Z 109 [(2, ((0 : Nat) : Int)), (0, x), (0, y), (0, p), (0, q), (0, u)] (K, σ, 191, e, s) = some (.inr 0, (K, σ, 191, e + 1, s + 6))) ∧
    ((0 ≤ x ∧ x < N 0 0) ∧ (0 ≤ y ∧ y < N 0 1) → ¬ (y_pt N y.toNat p q ∧ (u = 0 ∨ u = 1)) → m_cl Z 109 [(2, ((0 : Nat) : Int)), (0, x), (0, y), (0, p), (0, q), (0, u)] (K, σ, 191, e, s) = some (.inr 1, (K, σ, 191, e + 1, s + 6))) ∧
    ((0 ≤ x ∧ x < N 0 0) ∧ (0 ≤ y ∧ y < N 0 1) → y_pt N y.toNat p q ∧ (u = 0 ∨ u = 1) → ∃ τ, w_ic τ N R c X L (k + 1) ∧ (∀ a, 191 ≤ a → τ a = σ a) ∧ (¬ w_D N x.toNat (w_f N y.toNat) < 1000000 → m_cl Z 109 [(2, ((0 : Nat) : Int)), (0, x), (0, y), (0, p), (0, q), (0, u)] (K, σ, 191, e, s) = some (.inr 2, (K, τ, 191, e + 1, s + 6))) ∧ (w_D N x.toNat (w_f N y.toNat) < 1000000 → m_cl Z 109 [(2, ((0 : Nat) : Int)), (0, x), (0, y), (0, p), (0, q), (0, u)] (K, σ, 191, e, s) = some (.inl (0, w_red (w_R N y.toNat x.toNat p q) q u), (K, τ, 191, e, s)))) := by
  have h1 := a_hasNode (Z := Z) (e := e) (s := s) hL h.1 hx
  have h2 := a_hasEdge (Z := Z) (e := e) (s := s) hL h.1 hy
  have hpa := a_isPart (Z := Z) (h := (K, σ, 191, e, s)) hu
  refine ⟨fun hn => ?_, fun hn hm => ?_, fun hn hm => ?_⟩
  · by_cases c1 : 0 ≤ x ∧ x < N 0 0
    · rw [if_pos c1] at h1
      rw [if_neg (fun q => hn ⟨c1, q⟩)] at h2
      simp only [e_109, b_109_0, b_109_8, b_109_11, b_109_19, b_109_22, b_109_26, b_109_27, b_109_30, b_109_41, b_109_44, b_109_49, b_109_52, b_109_56, b_109_57, b_109_60, b_109_72, b_109_88, b_109_91, b_109_96, b_109_100, b_109_101, b_109_104, b_109_116, b_109_123, ↓reduceIte, Nat.reduceEqDiff, Nat.reduceMul, q_n10, q_n01, Option.bind_some, g_aft0, g_aft1, g_aft2, g_aft3, g_aft9, Nat.reduceAdd, m_kill_0, m_kill_2, m_kill_3, m_kill_4, m_kill_9, true_or, or_true, q_lm1, q_l0, q_l1, q_l2, q_l3, q_l4, q_l5, q_l6, q_l8, q_l9, q_l10, q_l12, q_l32, q_l50, q_l120, q_l122, q_l126, q_l372, q_l1000, q_l1000000, q_clsF hL.1, q_n1F hL, q_obF hL, h1, h2, rq_S0, g_aftE, Nat.reduceLT, m_thr]
    · rw [if_neg c1] at h1
      simp only [e_109, b_109_0, b_109_8, b_109_11, b_109_19, b_109_22, b_109_26, b_109_27, b_109_30, b_109_41, b_109_44, b_109_49, b_109_52, b_109_56, b_109_57, b_109_60, b_109_72, b_109_88, b_109_91, b_109_96, b_109_100, b_109_101, b_109_104, b_109_116, b_109_123, ↓reduceIte, Nat.reduceEqDiff, Nat.reduceMul, q_n10, q_n01, Option.bind_some, g_aft0, g_aft1, g_aft2, g_aft3, g_aft9, Nat.reduceAdd, m_kill_0, m_kill_2, m_kill_3, m_kill_4, m_kill_9, true_or, or_true, q_lm1, q_l0, q_l1, q_l2, q_l3, q_l4, q_l5, q_l6, q_l8, q_l9, q_l10, q_l12, q_l32, q_l50, q_l120, q_l122, q_l126, q_l372, q_l1000, q_l1000000, q_clsF hL.1, q_n1F hL, q_obF hL, h1, rq_S0, g_aftE, Nat.reduceLT, m_thr]
  · rw [if_pos hn.1] at h1
    rw [if_pos hn.2] at h2
    have hne := wf_e h.1.1
    have ey : ((y.toNat : Nat) : Int) = y := by clear hx hy hp hq hu h1 h2 hpa; omega
    have hpt := a_hasPoint (Z := Z) (e := e) (s := s) hL h.1 (g := y.toNat) (by clear hx hy hp hq hu h1 h2 hpa; omega) hp hq
    rw [ey] at hpt
    by_cases c1 : y_pt N y.toNat p q
    · rw [if_neg (fun q => hm ⟨c1, q⟩)] at hpa
      simp only [e_109, b_109_0, b_109_8, b_109_11, b_109_19, b_109_22, b_109_26, b_109_27, b_109_30, b_109_41, b_109_44, b_109_49, b_109_52, b_109_56, b_109_57, b_109_60, b_109_72, b_109_88, b_109_91, b_109_96, b_109_100, b_109_101, b_109_104, b_109_116, b_109_123, ↓reduceIte, Nat.reduceEqDiff, Nat.reduceMul, q_n10, q_n01, Option.bind_some, g_aft0, g_aft1, g_aft2, g_aft3, g_aft9, Nat.reduceAdd, m_kill_0, m_kill_2, m_kill_3, m_kill_4, m_kill_9, true_or, or_true, q_lm1, q_l0, q_l1, q_l2, q_l3, q_l4, q_l5, q_l6, q_l8, q_l9, q_l10, q_l12, q_l32, q_l50, q_l120, q_l122, q_l126, q_l372, q_l1000, q_l1000000, q_clsF hL.1, q_n1F hL, q_obF hL, h1, h2, rq_S1, hpt.1 c1, hpa, rq_V0, g_aftE, Nat.reduceLT, m_thr]
    · simp only [e_109, b_109_0, b_109_8, b_109_11, b_109_19, b_109_22, b_109_26, b_109_27, b_109_30, b_109_41, b_109_44, b_109_49, b_109_52, b_109_56, b_109_57, b_109_60, b_109_72, b_109_88, b_109_91, b_109_96, b_109_100, b_109_101, b_109_104, b_109_116, b_109_123, ↓reduceIte, Nat.reduceEqDiff, Nat.reduceMul, q_n10, q_n01, Option.bind_some, g_aft0, g_aft1, g_aft2, g_aft3, g_aft9, Nat.reduceAdd, m_kill_0, m_kill_2, m_kill_3, m_kill_4, m_kill_9, true_or, or_true, q_lm1, q_l0, q_l1, q_l2, q_l3, q_l4, q_l5, q_l6, q_l8, q_l9, q_l10, q_l12, q_l32, q_l50, q_l120, q_l122, q_l126, q_l372, q_l1000, q_l1000000, q_clsF hL.1, q_n1F hL, q_obF hL, h1, h2, rq_S1, hpt.2 c1, rq_V0, g_aftE, Nat.reduceLT, m_thr]
  · rw [if_pos hn.1] at h1
    rw [if_pos hn.2] at h2
    rw [if_pos hm.2] at hpa
    have hw := h.1.1
    have hne := wf_e hw
    have hnn := wf_n hw
    have ey : ((y.toNat : Nat) : Int) = y := by clear hx hy hp hq hu h1 h2 hpa; omega
    have ex : ((x.toNat : Nat) : Int) = x := by clear hx hy hp hq hu h1 h2 hpa; omega
    have hg : y.toNat < w_ne N := by clear hx hy hp hq hu h1 h2 hpa; omega
    have hi : x.toNat < w_nn N := by clear hx hy hp hq hu h1 h2 hpa; omega
    have hpt := (a_hasPoint (Z := Z) (e := e) (s := s) hL h.1 hg hp hq).1 hm.1
    rw [ey] at hpt
    obtain ⟨τ, t1, t2, t3, t4⟩ := x_take (Z := Z) (e := e) (s := s) (t := 0) hL h hk (by omega) (by omega)
    have h7 := wf_ed hw hg
    have gf : q_get τ 7 12 y = (w_f N y.toNat : Int) := by
      rw [q_get_ok hn.2.1 (by clear hx hy hp hq hu h1 h2 hpa hpt; omega) (by omega), ← h7.1]
      exact t3.1.2.2 6 y.toNat (by rw [q_len2]; simp; clear hx hy hp hq hu h1 h2 hpa hpt; omega)
    have hb := s_between (Z := Z) (e := e) (s := s) (σ := τ) (x := x) (y := (w_f N y.toNat : Int)) hL
    have hbe := v_bet t2.2.2.2.1.2.2.1 hw hi h7.2.2.1
    rw [ex] at hbe
    rw [hbe] at hb
    have bD := w_D_b hw x.toNat (w_f N y.toNat)
    have wD : w32 (w_D N x.toNat (w_f N y.toNat)) = w_D N x.toNat (w_f N y.toNat) := by clear hx hy hp hq hu h1 h2 hpa hpt gf hbe; exact q_wB (by omega) (by omega)
    refine ⟨τ, t3, fun a ha => t4 a (by omega), fun hd => ?_, fun hd => ?_⟩
    · have hd' := Int.not_lt.mp hd
      simp only [e_109, b_109_0, b_109_8, b_109_11, b_109_19, b_109_22, b_109_26, b_109_27, b_109_30, b_109_41, b_109_44, b_109_49, b_109_52, b_109_56, b_109_57, b_109_60, b_109_72, b_109_88, b_109_91, b_109_96, b_109_100, b_109_101, b_109_104, b_109_116, b_109_123, ↓reduceIte, Nat.reduceEqDiff, Nat.reduceMul, q_n10, q_n01, Option.bind_some, g_aft0, g_aft1, g_aft2, g_aft3, g_aft9, Nat.reduceAdd, m_kill_0, m_kill_2, m_kill_3, m_kill_4, m_kill_9, true_or, or_true, q_lm1, q_l0, q_l1, q_l2, q_l3, q_l4, q_l5, q_l6, q_l8, q_l9, q_l10, q_l12, q_l32, q_l50, q_l120, q_l122, q_l126, q_l372, q_l1000, q_l1000000, q_clsF hL.1, q_n1F hL, q_obF hL, h1, h2, rq_S1, hpt, hpa, rq_V1, t1, r_get, gf, hb, wD, hd', rq_N0, g_aftE, Nat.reduceLT, m_thr]
    · have hd' := Int.not_le.mpr hd
      have ho := w_ob2 hw hg hd
      have hr := s_reach2 (Z := Z) (e := e) (s := s) hL t2.2.2.2.1.2.2.2 hw hg hi hm.1 ho
      rw [ex, ey] at hr
      have hrb := w_Rb2 (i := x.toNat) hm.1 ho (by clear hx hy hp hq hu h1 h2 hpa hpt gf hbe wD; omega)
      have hR : 0 ≤ w_R N y.toNat x.toNat p q ∧ w_R N y.toNat x.toNat p q ≤ 12850000 := by
        clear hx hy hp hq hu h1 h2 hpa hpt gf hbe wD
        unfold w_R
        split <;> omega
      have hlow := a_lowest (Z := Z) (h := (K, τ, 191, e, s)) (x := w_R N y.toNat x.toNat p q) (y := q) (part := u) hR.1 (by clear hx hy hp hq hu h1 h2 hpa hpt gf hbe wD; omega) hm.1.1 hm.1.2.1 hu
      simp only [e_109, b_109_0, b_109_8, b_109_11, b_109_19, b_109_22, b_109_26, b_109_27, b_109_30, b_109_41, b_109_44, b_109_49, b_109_52, b_109_56, b_109_57, b_109_60, b_109_72, b_109_88, b_109_91, b_109_96, b_109_100, b_109_101, b_109_104, b_109_116, b_109_123, ↓reduceIte, Nat.reduceEqDiff, Nat.reduceMul, q_n10, q_n01, Option.bind_some, g_aft0, g_aft1, g_aft2, g_aft3, g_aft9, Nat.reduceAdd, m_kill_0, m_kill_2, m_kill_3, m_kill_4, m_kill_9, true_or, or_true, q_lm1, q_l0, q_l1, q_l2, q_l3, q_l4, q_l5, q_l6, q_l8, q_l9, q_l10, q_l12, q_l32, q_l50, q_l120, q_l122, q_l126, q_l372, q_l1000, q_l1000000, q_clsF hL.1, q_n1F hL, q_obF hL, h1, h2, rq_S1, hpt, hpa, rq_V1, t1, r_get, gf, hb, wD, hd', rq_N1, hr, hlow]
theorem x_isAllowed (hL : q_lay K) (h : w_ic σ N R c X L k) (hy : w32 y = y) (hp : w32 p = p) (hq : w32 q = q) :
    (¬ (0 ≤ y ∧ y < N 0 1) → m_cl Z 110 [(2, ((0 : Nat) : Int)), (0, y), (0, p), (0, q)] (K, σ, 191, e, s) = some (.inr 0, (K, σ, 191, e + 1, s + 6))) ∧
    ((0 ≤ y ∧ y < N 0 1) → ¬ y_pt N y.toNat p q → m_cl Z 110 [(2, ((0 : Nat) : Int)), (0, y), (0, p), (0, q)] (K, σ, 191, e, s) = some (.inr 1, (K, σ, 191, e + 1, s + 6))) ∧
    ((0 ≤ y ∧ y < N 0 1) → y_pt N y.toNat p q → m_cl Z 110 [(2, ((0 : Nat) : Int)), (0, y), (0, p), (0, q)] (K, σ, 191, e, s) = some (.inl (0, if w_al N y.toNat p q = true then 1 else 0), (K, σ, 191, e, s))) := by
  have h2 := a_hasEdge (Z := Z) (e := e) (s := s) hL h.1 hy
  have hne := wf_e h.1.1
  refine ⟨fun hn => ?_, fun hn hm => ?_, fun hn hm => ?_⟩
  · rw [if_neg hn] at h2
    simp only [e_110, b_110_0, b_110_8, b_110_11, b_110_21, b_110_24, b_110_34, ↓reduceIte, Nat.reduceEqDiff, Nat.reduceMul, q_n10, q_n01, Option.bind_some, g_aft0, g_aft1, g_aft2, g_aft3, g_aft9, Nat.reduceAdd, m_kill_0, m_kill_2, m_kill_3, m_kill_4, m_kill_9, true_or, or_true, q_lm1, q_l0, q_l1, q_l2, q_l3, q_l4, q_l5, q_l6, q_l8, q_l9, q_l10, q_l12, q_l32, q_l50, q_l120, q_l122, q_l126, q_l372, q_l1000, q_l1000000, q_clsF hL.1, q_n1F hL, q_obF hL, h2, rq_S0, g_aftE, Nat.reduceLT, m_thr]
  · rw [if_pos hn] at h2
    have ey : ((y.toNat : Nat) : Int) = y := by clear hy hp hq h2; omega
    have hpt := (a_hasPoint (Z := Z) (e := e) (s := s) hL h.1 (g := y.toNat) (by clear hy hp hq h2; omega) hp hq).2 hm
    rw [ey] at hpt
    simp only [e_110, b_110_0, b_110_8, b_110_11, b_110_21, b_110_24, b_110_34, ↓reduceIte, Nat.reduceEqDiff, Nat.reduceMul, q_n10, q_n01, Option.bind_some, g_aft0, g_aft1, g_aft2, g_aft3, g_aft9, Nat.reduceAdd, m_kill_0, m_kill_2, m_kill_3, m_kill_4, m_kill_9, true_or, or_true, q_lm1, q_l0, q_l1, q_l2, q_l3, q_l4, q_l5, q_l6, q_l8, q_l9, q_l10, q_l12, q_l32, q_l50, q_l120, q_l122, q_l126, q_l372, q_l1000, q_l1000000, q_clsF hL.1, q_n1F hL, q_obF hL, h2, rq_S1, hpt, rq_V0, g_aftE, Nat.reduceLT, m_thr]
  · rw [if_pos hn] at h2
    have ey : ((y.toNat : Nat) : Int) = y := by clear hy hp hq h2; omega
    have hg : y.toNat < w_ne N := by clear hy hp hq h2; omega
    have hpt := (a_hasPoint (Z := Z) (e := e) (s := s) hL h.1 hg hp hq).1 hm
    have hpb := y_ptb h.1.1 hg hm
    have hns : w32 (σ 1 2) = (w_ns N : Int) := (w_in0_n h.1).2.2.1
    have hper := n_permits (Z := Z) (n := 191) (e := e) (s := s) (σ := σ) (x := ((y.toNat : Nat) : Int)) (p := p) (q := q) (S := w_ns N) (q_ntN hL).1 hns (wf_s h.1.1).2
    rw [n_al h.1.2.2 h.1.1 (by clear hy hp hq h2 hpt hns; omega) hm.2.2.1 hpb (by have := hm.1; clear hy hp hq h2 hpt hns; omega) hm.2.1] at hper
    rw [ey] at hpt hper
    have hz : (w32 (if w_al N y.toNat p q = true then 1 else 0) = 0 ∨ w32 (if w_al N y.toNat p q = true then 1 else 0) = 1) = True := q_wi01
    simp only [e_110, b_110_0, b_110_8, b_110_11, b_110_21, b_110_24, b_110_34, ↓reduceIte, Nat.reduceEqDiff, Nat.reduceMul, q_n10, q_n01, Option.bind_some, g_aft0, g_aft1, g_aft2, g_aft3, g_aft9, Nat.reduceAdd, m_kill_0, m_kill_2, m_kill_3, m_kill_4, m_kill_9, true_or, or_true, q_lm1, q_l0, q_l1, q_l2, q_l3, q_l4, q_l5, q_l6, q_l8, q_l9, q_l10, q_l12, q_l32, q_l50, q_l120, q_l122, q_l126, q_l372, q_l1000, q_l1000000, q_clsF hL.1, q_n1F hL, q_obF hL, h2, rq_S1, hpt, rq_V1, hper, hz]
theorem x_height (hL : q_lay K) (h : w_ic σ N R c X L k) (hk : k < 999999) (hx : w32 x = x) (hy : w32 y = y) (hp : w32 p = p) (hq : w32 q = q) (hu : w32 u = u) :
    (¬ (0 ≤ y ∧ y < N 0 1) → m_cl Z 111 [(2, ((0 : Nat) : Int)), (0, x), (0, y), (0, p), (0, q), (0, u)] (K, σ, 191, e, s) = some (.inr 0, (K, σ, 191, e + 1, s + 6))) ∧
    ((0 ≤ y ∧ y < N 0 1) → ¬ ((0 ≤ x ∧ x < ((2 ^ w_nn N : Nat) : Int)) ∧ y_pt N y.toNat p q ∧ (u = 0 ∨ u = 1)) → m_cl Z 111 [(2, ((0 : Nat) : Int)), (0, x), (0, y), (0, p), (0, q), (0, u)] (K, σ, 191, e, s) = some (.inr 1, (K, σ, 191, e + 1, s + 6))) ∧
    ((0 ≤ y ∧ y < N 0 1) → (0 ≤ x ∧ x < ((2 ^ w_nn N : Nat) : Int)) ∧ y_pt N y.toNat p q ∧ (u = 0 ∨ u = 1) → ∃ τ, w_ic τ N R c X L (k + 1) ∧ (∀ a, 191 ≤ a → τ a = σ a) ∧ (¬ w_cn N → m_cl Z 111 [(2, ((0 : Nat) : Int)), (0, x), (0, y), (0, p), (0, q), (0, u)] (K, σ, 191, e, s) = some (.inr 2, (K, τ, 191, e + 1, s + 6))) ∧ (w_cn N → m_cl Z 111 [(2, ((0 : Nat) : Int)), (0, x), (0, y), (0, p), (0, q), (0, u)] (K, σ, 191, e, s) = some (.inl (0, w_red (w_H N 0 x y.toNat p q (w_nn N)) q u), (K, τ, 191, e, s)))) := by
  have h2 := a_hasEdge (Z := Z) (e := e) (s := s) hL h.1 hy
  have h1 := a_hasSet (Z := Z) (e := e) (s := s) hL h.1 hx
  have hpa := a_isPart (Z := Z) (h := (K, σ, 191, e, s)) hu
  have hne := wf_e h.1.1
  refine ⟨fun hn => ?_, fun hn hm => ?_, fun hn hm => ?_⟩
  · rw [if_neg hn] at h2
    simp only [e_111, b_111_0, b_111_8, b_111_11, b_111_19, b_111_22, b_111_33, b_111_36, b_111_41, b_111_44, b_111_48, b_111_49, b_111_52, b_111_64, b_111_74, b_111_86, b_111_93, ↓reduceIte, Nat.reduceEqDiff, Nat.reduceMul, q_n10, q_n01, Option.bind_some, g_aft0, g_aft1, g_aft2, g_aft3, g_aft9, Nat.reduceAdd, m_kill_0, m_kill_2, m_kill_3, m_kill_4, m_kill_9, true_or, or_true, q_lm1, q_l0, q_l1, q_l2, q_l3, q_l4, q_l5, q_l6, q_l8, q_l9, q_l10, q_l12, q_l32, q_l50, q_l120, q_l122, q_l126, q_l372, q_l1000, q_l1000000, q_clsF hL.1, q_n1F hL, q_obF hL, h2, rq_S0, g_aftE, Nat.reduceLT, m_thr]
  · rw [if_pos hn] at h2
    have ey : ((y.toNat : Nat) : Int) = y := by clear hx hy hp hq hu h1 h2 hpa; omega
    have hpt := a_hasPoint (Z := Z) (e := e) (s := s) hL h.1 (g := y.toNat) (by clear hx hy hp hq hu h1 h2 hpa; omega) hp hq
    rw [ey] at hpt
    by_cases c0 : 0 ≤ x ∧ x < ((2 ^ w_nn N : Nat) : Int)
    · rw [if_pos c0] at h1
      by_cases c1 : y_pt N y.toNat p q
      · rw [if_neg (fun q => hm ⟨c0, c1, q⟩)] at hpa
        simp only [e_111, b_111_0, b_111_8, b_111_11, b_111_19, b_111_22, b_111_33, b_111_36, b_111_41, b_111_44, b_111_48, b_111_49, b_111_52, b_111_64, b_111_74, b_111_86, b_111_93, ↓reduceIte, Nat.reduceEqDiff, Nat.reduceMul, q_n10, q_n01, Option.bind_some, g_aft0, g_aft1, g_aft2, g_aft3, g_aft9, Nat.reduceAdd, m_kill_0, m_kill_2, m_kill_3, m_kill_4, m_kill_9, true_or, or_true, q_lm1, q_l0, q_l1, q_l2, q_l3, q_l4, q_l5, q_l6, q_l8, q_l9, q_l10, q_l12, q_l32, q_l50, q_l120, q_l122, q_l126, q_l372, q_l1000, q_l1000000, q_clsF hL.1, q_n1F hL, q_obF hL, h1, h2, rq_S1, hpt.1 c1, hpa, rq_V0, g_aftE, Nat.reduceLT, m_thr]
      · simp only [e_111, b_111_0, b_111_8, b_111_11, b_111_19, b_111_22, b_111_33, b_111_36, b_111_41, b_111_44, b_111_48, b_111_49, b_111_52, b_111_64, b_111_74, b_111_86, b_111_93, ↓reduceIte, Nat.reduceEqDiff, Nat.reduceMul, q_n10, q_n01, Option.bind_some, g_aft0, g_aft1, g_aft2, g_aft3, g_aft9, Nat.reduceAdd, m_kill_0, m_kill_2, m_kill_3, m_kill_4, m_kill_9, true_or, or_true, q_lm1, q_l0, q_l1, q_l2, q_l3, q_l4, q_l5, q_l6, q_l8, q_l9, q_l10, q_l12, q_l32, q_l50, q_l120, q_l122, q_l126, q_l372, q_l1000, q_l1000000, q_clsF hL.1, q_n1F hL, q_obF hL, h1, h2, rq_S1, hpt.2 c1, rq_V0, g_aftE, Nat.reduceLT, m_thr]
    · rw [if_neg c0] at h1
      simp only [e_111, b_111_0, b_111_8, b_111_11, b_111_19, b_111_22, b_111_33, b_111_36, b_111_41, b_111_44, b_111_48, b_111_49, b_111_52, b_111_64, b_111_74, b_111_86, b_111_93, ↓reduceIte, Nat.reduceEqDiff, Nat.reduceMul, q_n10, q_n01, Option.bind_some, g_aft0, g_aft1, g_aft2, g_aft3, g_aft9, Nat.reduceAdd, m_kill_0, m_kill_2, m_kill_3, m_kill_4, m_kill_9, true_or, or_true, q_lm1, q_l0, q_l1, q_l2, q_l3, q_l4, q_l5, q_l6, q_l8, q_l9, q_l10, q_l12, q_l32, q_l50, q_l120, q_l122, q_l126, q_l372, q_l1000, q_l1000000, q_clsF hL.1, q_n1F hL, q_obF hL, h1, h2, rq_S1, rq_V0, g_aftE, Nat.reduceLT, m_thr]
  · rw [if_pos hn] at h2
    rw [if_pos hm.1] at h1
    rw [if_pos hm.2.2] at hpa
    have ey : ((y.toNat : Nat) : Int) = y := by clear hx hy hp hq hu h1 h2 hpa; omega
    have hg : y.toNat < w_ne N := by clear hx hy hp hq hu h1 h2 hpa; omega
    have hpt := (a_hasPoint (Z := Z) (e := e) (s := s) hL h.1 hg hp hq).1 hm.2.1
    rw [ey] at hpt
    obtain ⟨τ, t1, t2, t3, t4⟩ := x_take (Z := Z) (e := e) (s := s) (t := 0) hL h hk (by omega) (by omega)
    have vc : v_c τ N := t2.2.2.2.2.1
    refine ⟨τ, t3, fun a ha => t4 a (by omega), fun hd => ?_, fun hd => ?_⟩
    · simp only [e_111, b_111_0, b_111_8, b_111_11, b_111_19, b_111_22, b_111_33, b_111_36, b_111_41, b_111_44, b_111_48, b_111_49, b_111_52, b_111_64, b_111_74, b_111_86, b_111_93, ↓reduceIte, Nat.reduceEqDiff, Nat.reduceMul, q_n10, q_n01, Option.bind_some, g_aft0, g_aft1, g_aft2, g_aft3, g_aft9, Nat.reduceAdd, m_kill_0, m_kill_2, m_kill_3, m_kill_4, m_kill_9, true_or, or_true, q_lm1, q_l0, q_l1, q_l2, q_l3, q_l4, q_l5, q_l6, q_l8, q_l9, q_l10, q_l12, q_l32, q_l50, q_l120, q_l122, q_l126, q_l372, q_l1000, q_l1000000, q_clsF hL.1, q_n1F hL, q_obF hL, h1, h2, rq_S1, hpt, hpa, rq_V1, t1, vc.2 hd, rq_N0, g_aftE, Nat.reduceLT, m_thr]
    · have hpq : w_pq N 0 y.toNat p q := ⟨hm.2.1.1, hm.2.1.2.1, by have := hm.2.1.2.1; clear hx hy hp hq hu h1 h2 hpa hpt; omega, Int.le_refl _, hm.2.1.2.2.1, hm.2.1.2.2.2⟩
      have hh := s_height (Z := Z) (e := e) (s := s) (S := x) hL t2.2.2.2.1.1 t2.2.2.2.1.2.2.2 t2.2.2.2.1.2.1 h.1.1 hd hg hpq
      rw [ey] at hh
      have hb := w_Hb h.1.1 hd hg hpq (S := x) (w_nn N) (Nat.le_refl _)
      have hlow := a_lowest (Z := Z) (h := (K, τ, 191, e, s)) (x := w_H N 0 x y.toNat p q (w_nn N)) (y := q) (part := u) hb.1 (by clear hx hy hp hq hu h1 h2 hpa hpt; omega) hm.2.1.1 hm.2.1.2.1 hu
      simp only [e_111, b_111_0, b_111_8, b_111_11, b_111_19, b_111_22, b_111_33, b_111_36, b_111_41, b_111_44, b_111_48, b_111_49, b_111_52, b_111_64, b_111_74, b_111_86, b_111_93, ↓reduceIte, Nat.reduceEqDiff, Nat.reduceMul, q_n10, q_n01, Option.bind_some, g_aft0, g_aft1, g_aft2, g_aft3, g_aft9, Nat.reduceAdd, m_kill_0, m_kill_2, m_kill_3, m_kill_4, m_kill_9, true_or, or_true, q_lm1, q_l0, q_l1, q_l2, q_l3, q_l4, q_l5, q_l6, q_l8, q_l9, q_l10, q_l12, q_l32, q_l50, q_l120, q_l122, q_l126, q_l372, q_l1000, q_l1000000, q_clsF hL.1, q_n1F hL, q_obF hL, h1, h2, rq_S1, hpt, hpa, rq_V1, t1, vc.1 hd, rq_N1, hh, hlow]
theorem x_cost (hL : q_lay K) (h : w_ic σ N R c X L k) (hk : k < 999999) (hy : w32 y = y) (hp : w32 p = p) (hq : w32 q = q) (hu : w32 u = u) :
    (¬ (0 ≤ y ∧ y < N 0 1) → m_cl Z 112 [(2, ((0 : Nat) : Int)), (0, y), (0, p), (0, q), (0, u)] (K, σ, 191, e, s) = some (.inr 0, (K, σ, 191, e + 1, s + 6))) ∧
    ((0 ≤ y ∧ y < N 0 1) → ¬ (y_pt N y.toNat p q ∧ (u = 0 ∨ u = 1)) → m_cl Z 112 [(2, ((0 : Nat) : Int)), (0, y), (0, p), (0, q), (0, u)] (K, σ, 191, e, s) = some (.inr 1, (K, σ, 191, e + 1, s + 6))) ∧
    ((0 ≤ y ∧ y < N 0 1) → y_pt N y.toNat p q ∧ (u = 0 ∨ u = 1) → ∃ τ, w_ic τ N R c X L (k + 1) ∧ (∀ a, 191 ≤ a → τ a = σ a) ∧ (¬ w_cn N → m_cl Z 112 [(2, ((0 : Nat) : Int)), (0, y), (0, p), (0, q), (0, u)] (K, σ, 191, e, s) = some (.inr 2, (K, τ, 191, e + 1, s + 6))) ∧ (w_cn N → m_cl Z 112 [(2, ((0 : Nat) : Int)), (0, y), (0, p), (0, q), (0, u)] (K, σ, 191, e, s) = some (.inl (0, w_red (w_C N 0 y.toNat p q (w_nn N)) q u), (K, τ, 191, e, s)))) := by
  have h2 := a_hasEdge (Z := Z) (e := e) (s := s) hL h.1 hy
  have hpa := a_isPart (Z := Z) (h := (K, σ, 191, e, s)) hu
  have hne := wf_e h.1.1
  refine ⟨fun hn => ?_, fun hn hm => ?_, fun hn hm => ?_⟩
  · rw [if_neg hn] at h2
    simp only [e_112, b_112_0, b_112_8, b_112_11, b_112_21, b_112_24, b_112_29, b_112_32, b_112_36, b_112_37, b_112_40, b_112_52, b_112_62, b_112_72, b_112_78, ↓reduceIte, Nat.reduceEqDiff, Nat.reduceMul, q_n10, q_n01, Option.bind_some, g_aft0, g_aft1, g_aft2, g_aft3, g_aft9, Nat.reduceAdd, m_kill_0, m_kill_2, m_kill_3, m_kill_4, m_kill_9, true_or, or_true, q_lm1, q_l0, q_l1, q_l2, q_l3, q_l4, q_l5, q_l6, q_l8, q_l9, q_l10, q_l12, q_l32, q_l50, q_l120, q_l122, q_l126, q_l372, q_l1000, q_l1000000, q_clsF hL.1, q_n1F hL, q_obF hL, h2, rq_S0, g_aftE, Nat.reduceLT, m_thr]
  · rw [if_pos hn] at h2
    have ey : ((y.toNat : Nat) : Int) = y := by clear hy hp hq hu h2 hpa; omega
    have hpt := a_hasPoint (Z := Z) (e := e) (s := s) hL h.1 (g := y.toNat) (by clear hy hp hq hu h2 hpa; omega) hp hq
    rw [ey] at hpt
    by_cases c1 : y_pt N y.toNat p q
    · rw [if_neg (fun q => hm ⟨c1, q⟩)] at hpa
      simp only [e_112, b_112_0, b_112_8, b_112_11, b_112_21, b_112_24, b_112_29, b_112_32, b_112_36, b_112_37, b_112_40, b_112_52, b_112_62, b_112_72, b_112_78, ↓reduceIte, Nat.reduceEqDiff, Nat.reduceMul, q_n10, q_n01, Option.bind_some, g_aft0, g_aft1, g_aft2, g_aft3, g_aft9, Nat.reduceAdd, m_kill_0, m_kill_2, m_kill_3, m_kill_4, m_kill_9, true_or, or_true, q_lm1, q_l0, q_l1, q_l2, q_l3, q_l4, q_l5, q_l6, q_l8, q_l9, q_l10, q_l12, q_l32, q_l50, q_l120, q_l122, q_l126, q_l372, q_l1000, q_l1000000, q_clsF hL.1, q_n1F hL, q_obF hL, h2, rq_S1, hpt.1 c1, hpa, rq_V0, g_aftE, Nat.reduceLT, m_thr]
    · simp only [e_112, b_112_0, b_112_8, b_112_11, b_112_21, b_112_24, b_112_29, b_112_32, b_112_36, b_112_37, b_112_40, b_112_52, b_112_62, b_112_72, b_112_78, ↓reduceIte, Nat.reduceEqDiff, Nat.reduceMul, q_n10, q_n01, Option.bind_some, g_aft0, g_aft1, g_aft2, g_aft3, g_aft9, Nat.reduceAdd, m_kill_0, m_kill_2, m_kill_3, m_kill_4, m_kill_9, true_or, or_true, q_lm1, q_l0, q_l1, q_l2, q_l3, q_l4, q_l5, q_l6, q_l8, q_l9, q_l10, q_l12, q_l32, q_l50, q_l120, q_l122, q_l126, q_l372, q_l1000, q_l1000000, q_clsF hL.1, q_n1F hL, q_obF hL, h2, rq_S1, hpt.2 c1, rq_V0, g_aftE, Nat.reduceLT, m_thr]
  · rw [if_pos hn] at h2
    rw [if_pos hm.2] at hpa
    have ey : ((y.toNat : Nat) : Int) = y := by clear hy hp hq hu h2 hpa; omega
    have hg : y.toNat < w_ne N := by clear hy hp hq hu h2 hpa; omega
    have hpt := (a_hasPoint (Z := Z) (e := e) (s := s) hL h.1 hg hp hq).1 hm.1
    rw [ey] at hpt
    obtain ⟨τ, t1, t2, t3, t4⟩ := x_take (Z := Z) (e := e) (s := s) (t := 0) hL h hk (by omega) (by omega)
    have vc : v_c τ N := t2.2.2.2.2.1
    refine ⟨τ, t3, fun a ha => t4 a (by omega), fun hd => ?_, fun hd => ?_⟩
    · simp only [e_112, b_112_0, b_112_8, b_112_11, b_112_21, b_112_24, b_112_29, b_112_32, b_112_36, b_112_37, b_112_40, b_112_52, b_112_62, b_112_72, b_112_78, ↓reduceIte, Nat.reduceEqDiff, Nat.reduceMul, q_n10, q_n01, Option.bind_some, g_aft0, g_aft1, g_aft2, g_aft3, g_aft9, Nat.reduceAdd, m_kill_0, m_kill_2, m_kill_3, m_kill_4, m_kill_9, true_or, or_true, q_lm1, q_l0, q_l1, q_l2, q_l3, q_l4, q_l5, q_l6, q_l8, q_l9, q_l10, q_l12, q_l32, q_l50, q_l120, q_l122, q_l126, q_l372, q_l1000, q_l1000000, q_clsF hL.1, q_n1F hL, q_obF hL, h2, rq_S1, hpt, hpa, rq_V1, t1, vc.2 hd, rq_N0, g_aftE, Nat.reduceLT, m_thr]
    · have hpq : w_pq N 0 y.toNat p q := ⟨hm.1.1, hm.1.2.1, by have := hm.1.2.1; clear hy hp hq hu h2 hpa hpt; omega, Int.le_refl _, hm.1.2.2.1, hm.1.2.2.2⟩
      have hh := s_cost (Z := Z) (e := e) (s := s) hL t2.2.2.2.1.1 t2.2.2.2.1.2.2.2 t2.2.2.2.1.2.1 h.1.1 hd hg hpq
      rw [ey] at hh
      have hb := w_Cb h.1.1 hd hg hpq (w_nn N) (Nat.le_refl _)
      have n8 := (wf_n h.1.1).2.2
      have hlow := a_lowest (Z := Z) (h := (K, τ, 191, e, s)) (x := w_C N 0 y.toNat p q (w_nn N)) (y := q) (part := u) hb.1 (by clear hy hp hq hu h2 hpa hpt; omega) hm.1.1 hm.1.2.1 hu
      simp only [e_112, b_112_0, b_112_8, b_112_11, b_112_21, b_112_24, b_112_29, b_112_32, b_112_36, b_112_37, b_112_40, b_112_52, b_112_62, b_112_72, b_112_78, ↓reduceIte, Nat.reduceEqDiff, Nat.reduceMul, q_n10, q_n01, Option.bind_some, g_aft0, g_aft1, g_aft2, g_aft3, g_aft9, Nat.reduceAdd, m_kill_0, m_kill_2, m_kill_3, m_kill_4, m_kill_9, true_or, or_true, q_lm1, q_l0, q_l1, q_l2, q_l3, q_l4, q_l5, q_l6, q_l8, q_l9, q_l10, q_l12, q_l32, q_l50, q_l120, q_l122, q_l126, q_l372, q_l1000, q_l1000000, q_clsF hL.1, q_n1F hL, q_obF hL, h2, rq_S1, hpt, hpa, rq_V1, t1, vc.1 hd, rq_N1, hh, hlow]
end
end
