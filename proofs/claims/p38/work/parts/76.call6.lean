section
/-! The class's calls: corners, centers, medians. -/
/-- the corners of an edge, ascending -/
def y_kl (N : Nat → Nat → Int) (t : Int) (g c : Nat) (P Q V : Nat → Int) : Prop := (∀ i, i < c → w_pq N t g (P i) (Q i) ∧ w_top N t g (P i) (Q i) (V i)) ∧ (∀ i j, i < j → j < c → fr (P i) (Q i) < fr (P j) (Q j)) ∧ ∀ x, (∃ i, i < c ∧ fr (P i) (Q i) = x) ↔ w_K N t g x
def y_cf (P Q V : Nat → Int) (i : Nat) (z : Int) : Int := if z < 2 then w_red (P i) (Q i) (z.tmod 2) else w_red (V i) (Q i) (z.tmod 2)
def y_cv (N : Nat → Nat → Int) (g : Nat) (y z v : Int) : Prop := ∃ c P Q V, y_kl N 0 g c P Q V ∧ v = if 0 ≤ y ∧ y < (c : Int) then y_cf P Q V y.toNat z else -1
section
variable {Z : mZ} {K : Nat → mK} {σ τ N M : Nat → Nat → Int} {R : Nat → Nat → Nat → Int} {e s g i L n c k : Nat} {t p q v b x y z w u S : Int} {X : Nat → Int}
theorem y_klb (hw : q_wf N) (hc : w_cn N) (hg : g < w_ne N) {P Q V : Nat → Int} (h : y_kl N t g c P Q V) (hi : i < c) : (1 ≤ Q i ∧ Q i ≤ 1000) ∧ (0 ≤ P i ∧ P i ≤ 50000) ∧ 0 ≤ V i ∧ V i ≤ 251885700 := by
  have h1 := (h.1 i hi).1
  obtain ⟨j, hj, h2⟩ := (h.1 i hi).2.1
  have h3 := w_Fb hw hc hg hj h1
  have h4 := w_pqb hw hg h1
  rw [h2] at h3
  omega
theorem a_cornerFact {P Q V : Nat → Int} (hL : q_lay K) (hi : i < 122) (hP : σ 172 i = P i) (hQ : σ 174 i = Q i) (hV : σ 176 i = V i) (b : (1 ≤ Q i ∧ Q i ≤ 1000) ∧ (0 ≤ P i ∧ P i ≤ 50000) ∧ 0 ≤ V i ∧ V i ≤ 251885700) (hz : 0 ≤ z) (hz3 : z ≤ 3) : m_cl Z 142 [(2, ((0 : Nat) : Int)), (0, (i : Int)), (0, z)] (K, σ, 191, e, s) = some (.inl (0, y_cf P Q V i z), (K, σ, 191, e, s)) := by
  obtain ⟨⟨b1, b2⟩, ⟨b3, b4⟩, b5, b6⟩ := b
  have b4' : P i ≤ 2147483647 := by omega
  have b6' : V i ≤ 2147483647 := by omega
  have hz' : z = 0 ∨ z = 1 ∨ z = 2 ∨ z = 3 := by omega
  have g1 : q_get σ 172 122 (i : Int) = P i := by rw [q_get_nat hi (by omega)]; exact hP
  have g2 : q_get σ 174 122 (i : Int) = Q i := by rw [q_get_nat hi (by omega)]; exact hQ
  have g3 : q_get σ 176 122 (i : Int) = V i := by rw [q_get_nat hi (by omega)]; exact hV
  have m10 := a_lowest (Z := Z) (h := (K, σ, 191, e, s)) (x := P i) (y := Q i) (part := 0) b3 b4' b1 b2 (by decide)
  have m11 := a_lowest (Z := Z) (h := (K, σ, 191, e, s)) (x := P i) (y := Q i) (part := 1) b3 b4' b1 b2 (by decide)
  have m20 := a_lowest (Z := Z) (h := (K, σ, 191, e, s)) (x := V i) (y := Q i) (part := 0) b5 b6' b1 b2 (by decide)
  have m21 := a_lowest (Z := Z) (h := (K, σ, 191, e, s)) (x := V i) (y := Q i) (part := 1) b5 b6' b1 b2 (by decide)
  have n20 : ¬ (2 : Int) = 0 := by decide
  have u0 : (0 : Int).tmod 2 = 0 := by decide
  have u1 : (1 : Int).tmod 2 = 1 := by decide
  have u2 : (2 : Int).tmod 2 = 0 := by decide
  have u3 : (3 : Int).tmod 2 = 1 := by decide
  unfold y_cf
  rcases hz' with rfl | rfl | rfl | rfl
  · have c0 : ¬ (2 : Int) ≤ 0 := by decide
    rw [if_pos (by decide)]
    simp only [e_142, b_142_0, b_142_5, b_142_16, b_142_19, b_142_30, b_142_43, b_142_49, ↓reduceIte, Nat.reduceEqDiff, Nat.reduceMul, q_n10, q_n01, Option.bind_some, g_aft0, g_aft1, g_aft2, g_aft3, g_aft9, Nat.reduceAdd, m_kill_0, m_kill_2, m_kill_3, m_kill_4, m_kill_9, true_or, or_true, q_lm1, q_l0, q_l1, q_l2, q_l3, q_l4, q_l5, q_l6, q_l8, q_l9, q_l10, q_l12, q_l32, q_l50, q_l120, q_l122, q_l126, q_l372, q_l1000, q_l1000000, q_clsF hL.1, q_outF hL.2.2.2.1, q_obF hL, r_get, g1, g2, c0, n20, not_false_eq_true, u0, m10]
  · have c0 : ¬ (2 : Int) ≤ 1 := by decide
    rw [if_pos (by decide)]
    simp only [e_142, b_142_0, b_142_5, b_142_16, b_142_19, b_142_30, b_142_43, b_142_49, ↓reduceIte, Nat.reduceEqDiff, Nat.reduceMul, q_n10, q_n01, Option.bind_some, g_aft0, g_aft1, g_aft2, g_aft3, g_aft9, Nat.reduceAdd, m_kill_0, m_kill_2, m_kill_3, m_kill_4, m_kill_9, true_or, or_true, q_lm1, q_l0, q_l1, q_l2, q_l3, q_l4, q_l5, q_l6, q_l8, q_l9, q_l10, q_l12, q_l32, q_l50, q_l120, q_l122, q_l126, q_l372, q_l1000, q_l1000000, q_clsF hL.1, q_outF hL.2.2.2.1, q_obF hL, r_get, g1, g2, c0, n20, not_false_eq_true, u1, m11]
  · rw [if_neg (by decide)]
    simp only [e_142, b_142_0, b_142_5, b_142_16, b_142_19, b_142_30, b_142_43, b_142_49, ↓reduceIte, Nat.reduceEqDiff, Nat.reduceMul, q_n10, q_n01, Option.bind_some, g_aft0, g_aft1, g_aft2, g_aft3, g_aft9, Nat.reduceAdd, m_kill_0, m_kill_2, m_kill_3, m_kill_4, m_kill_9, true_or, or_true, q_lm1, q_l0, q_l1, q_l2, q_l3, q_l4, q_l5, q_l6, q_l8, q_l9, q_l10, q_l12, q_l32, q_l50, q_l120, q_l122, q_l126, q_l372, q_l1000, q_l1000000, q_clsF hL.1, q_outF hL.2.2.2.1, q_obF hL, r_get, g3, g2, Int.le_refl, n20, not_false_eq_true, u2, m20]
  · have c0 : (2 : Int) ≤ 3 := by decide
    rw [if_neg (by decide)]
    simp only [e_142, b_142_0, b_142_5, b_142_16, b_142_19, b_142_30, b_142_43, b_142_49, ↓reduceIte, Nat.reduceEqDiff, Nat.reduceMul, q_n10, q_n01, Option.bind_some, g_aft0, g_aft1, g_aft2, g_aft3, g_aft9, Nat.reduceAdd, m_kill_0, m_kill_2, m_kill_3, m_kill_4, m_kill_9, true_or, or_true, q_lm1, q_l0, q_l1, q_l2, q_l3, q_l4, q_l5, q_l6, q_l8, q_l9, q_l10, q_l12, q_l32, q_l50, q_l120, q_l122, q_l126, q_l372, q_l1000, q_l1000000, q_clsF hL.1, q_outF hL.2.2.2.1, q_obF hL, r_get, g3, g2, c0, n20, not_false_eq_true, u3, m21]
theorem w_icO (h : w_ic σ N R c X L k) (hf : ∀ a, a ≠ 170 → a ≠ 172 → a ≠ 174 → a ≠ 176 → τ a = σ a) : w_ic τ N R c X L k := w_icB h (fun a ha => hf a (by omega) (by omega) (by omega) (by omega)) (fun a h1 h2 => hf a (by omega) (by omega) (by omega) (by omega)) (fun j _ => by rw [hf 138 (by omega) (by omega) (by omega) (by omega)]) (hf 177 (by omega) (by omega) (by omega) (by omega)) (hf 179 (by omega) (by omega) (by omega) (by omega)) (hf 181 (by omega) (by omega) (by omega) (by omega))
theorem w_svO (h : w_sv σ N t) (hf : ∀ a, a ≠ 170 → a ≠ 172 → a ≠ 174 → a ≠ 176 → τ a = σ a) : w_sv τ N t := w_svB (σ := σ) (τ := τ) (fun a h1 h2 => hf a (by omega) (by omega) (by omega) (by omega)) (fun j _ => by rw [hf 138 (by omega) (by omega) (by omega) (by omega)]) h
/-- the outline of an edge -/
theorem a_trace (hL : q_lay K) (h : w_sv σ N t) (hc : w_cn N) (hg : g < w_ne N) : ∃ (c : Nat) (τ : Nat → Nat → Int), m_cl Z 35 [(2, ((170 : Nat) : Int)), (0, (g : Int))] (K, σ, 191, e, s) = some (.inl (9, 0), (K, τ, 191, e, s)) ∧ c ≤ 122 ∧ τ 170 3 = (c : Int) ∧ (∀ a, a ≠ 170 → a ≠ 172 → a ≠ 174 → a ≠ 176 → τ a = σ a) ∧ y_kl N t g c (τ 172) (τ 174) (τ 176) := by
  obtain ⟨c, τ, t1, ⟨k1, k2, k3, k4⟩, t3, t4⟩ := o_trace (Z := Z) (e := e) (s := s) hL h.2.2.2.1 h.1 hc hg h.2.2.1.1 h.2.2.1.2
  exact ⟨c, τ, t1, k2, k1, t3, k3, k4, t4⟩
theorem x_corner (hL : q_lay K) (h : w_ic σ N R c X L k) (hk : k < 999999) (hx : w32 x = x) (hy : w32 y = y) (hz : w32 z = z) :
    (¬ (0 ≤ x ∧ x < N 0 1) → m_cl Z 113 [(2, ((0 : Nat) : Int)), (0, x), (0, y), (0, z)] (K, σ, 191, e, s) = some (.inr 0, (K, σ, 191, e + 1, s + 6))) ∧
    ((0 ≤ x ∧ x < N 0 1) → ¬ (0 ≤ z ∧ z ≤ 3) → m_cl Z 113 [(2, ((0 : Nat) : Int)), (0, x), (0, y), (0, z)] (K, σ, 191, e, s) = some (.inr 1, (K, σ, 191, e + 1, s + 6))) ∧
    ((0 ≤ x ∧ x < N 0 1) → (0 ≤ z ∧ z ≤ 3) → ∃ τ, w_ic τ N R c X L (k + 1) ∧ (∀ a, 191 ≤ a → τ a = σ a) ∧ (¬ w_cn N → m_cl Z 113 [(2, ((0 : Nat) : Int)), (0, x), (0, y), (0, z)] (K, σ, 191, e, s) = some (.inr 2, (K, τ, 191, e + 1, s + 6))) ∧ (w_cn N → ∃ v, y_cv N x.toNat y z v ∧ m_cl Z 113 [(2, ((0 : Nat) : Int)), (0, x), (0, y), (0, z)] (K, σ, 191, e, s) = some (.inl (0, v), (K, τ, 191, e, s)))) := by
  have h2 := a_hasEdge (Z := Z) (e := e) (s := s) hL h.1 hx
  have hne := wf_e h.1.1
  have e3 : w32 3 = 3 := by decide
  refine ⟨fun hn => ?_, fun hn hm => ?_, fun hn hm => ?_⟩
  · rw [if_neg hn] at h2
    simp only [e_113, b_113_0, b_113_8, b_113_11, b_113_15, b_113_20, b_113_24, b_113_25, b_113_28, b_113_40, b_113_50, b_113_58, b_113_62, b_113_73, b_113_79, b_113_82, b_113_83, ↓reduceIte, Nat.reduceEqDiff, Nat.reduceMul, q_n10, q_n01, Option.bind_some, g_aft0, g_aft1, g_aft2, g_aft3, g_aft9, Nat.reduceAdd, m_kill_0, m_kill_2, m_kill_3, m_kill_4, m_kill_9, true_or, or_true, q_lm1, q_l0, q_l1, q_l2, q_l3, q_l4, q_l5, q_l6, q_l8, q_l9, q_l10, q_l12, q_l32, q_l50, q_l120, q_l122, q_l126, q_l372, q_l1000, q_l1000000, q_clsF hL.1, q_n1F hL, q_obF hL, h2, rq_S0, g_aftE, Nat.reduceLT, m_thr]
  · rw [if_pos hn] at h2
    by_cases c1 : z < 0
    · simp only [e_113, b_113_0, b_113_8, b_113_11, b_113_15, b_113_20, b_113_24, b_113_25, b_113_28, b_113_40, b_113_50, b_113_58, b_113_62, b_113_73, b_113_79, b_113_82, b_113_83, ↓reduceIte, Nat.reduceEqDiff, Nat.reduceMul, q_n10, q_n01, Option.bind_some, g_aft0, g_aft1, g_aft2, g_aft3, g_aft9, Nat.reduceAdd, m_kill_0, m_kill_2, m_kill_3, m_kill_4, m_kill_9, true_or, or_true, q_lm1, q_l0, q_l1, q_l2, q_l3, q_l4, q_l5, q_l6, q_l8, q_l9, q_l10, q_l12, q_l32, q_l50, q_l120, q_l122, q_l126, q_l372, q_l1000, q_l1000000, q_clsF hL.1, q_n1F hL, q_obF hL, h2, rq_S1, hz, c1, rq_V0, g_aftE, Nat.reduceLT, m_thr]
    · have c2 : 3 < z := by clear hx hy hz h2 e3; omega
      simp only [e_113, b_113_0, b_113_8, b_113_11, b_113_15, b_113_20, b_113_24, b_113_25, b_113_28, b_113_40, b_113_50, b_113_58, b_113_62, b_113_73, b_113_79, b_113_82, b_113_83, ↓reduceIte, Nat.reduceEqDiff, Nat.reduceMul, q_n10, q_n01, Option.bind_some, g_aft0, g_aft1, g_aft2, g_aft3, g_aft9, Nat.reduceAdd, m_kill_0, m_kill_2, m_kill_3, m_kill_4, m_kill_9, true_or, or_true, q_lm1, q_l0, q_l1, q_l2, q_l3, q_l4, q_l5, q_l6, q_l8, q_l9, q_l10, q_l12, q_l32, q_l50, q_l120, q_l122, q_l126, q_l372, q_l1000, q_l1000000, q_clsF hL.1, q_n1F hL, q_obF hL, h2, rq_S1, hz, c1, c2, rq_V0, g_aftE, Nat.reduceLT, m_thr]
  · rw [if_pos hn] at h2
    have c1 : ¬ z < 0 := by clear hx hy hz h2 e3; omega
    have c2 : ¬ 3 < z := by clear hx hy hz h2 e3; omega
    have ex : ((x.toNat : Nat) : Int) = x := by clear hx hy hz h2 e3; omega
    have hg : x.toNat < w_ne N := by clear hx hy hz h2 e3; omega
    obtain ⟨τ, t1, t2, t3, t4⟩ := x_take (Z := Z) (e := e) (s := s) (t := 0) hL h hk (by omega) (by omega)
    have vc : v_c τ N := t2.2.2.2.2.1
    by_cases hd : w_cn N
    · obtain ⟨m, ω, o1, o2, o3, o4, o5⟩ := a_trace (Z := Z) (e := e) (s := s) hL t2 hd hg
      rw [ex] at o1
      refine ⟨ω, w_icO t3 o4, fun a ha => by rw [o4 a (by omega) (by omega) (by omega) (by omega)]; exact t4 a (by omega), fun q => absurd hd q, fun _ => ?_⟩
      have wm : w32 (m : Int) = (m : Int) := q_w (by clear hx hy hz h2 e3; omega)
      by_cases hi : 0 ≤ y ∧ y < (m : Int)
      · have ey : ((y.toNat : Nat) : Int) = y := by clear hx hy hz h2 e3 wm; omega
        have hcf := a_cornerFact (Z := Z) (e := e) (s := s) (σ := ω) (i := y.toNat) hL (by clear hx hy hz h2 e3 wm; omega) rfl rfl rfl (y_klb h.1.1 hd hg o5 (by clear hx hy hz h2 e3 wm; omega)) hm.1 hm.2
        rw [ey] at hcf
        have d1 : ¬ y < 0 := by clear hx hy hz h2 e3 wm; omega
        have d2 : ¬ (m : Int) ≤ y := by clear hx hy hz h2 e3 wm; omega
        refine ⟨_, ⟨m, _, _, _, o5, (if_pos hi).symm⟩, ?_⟩
        simp only [e_113, b_113_0, b_113_8, b_113_11, b_113_15, b_113_20, b_113_24, b_113_25, b_113_28, b_113_40, b_113_50, b_113_58, b_113_62, b_113_73, b_113_79, b_113_82, b_113_83, ↓reduceIte, Nat.reduceEqDiff, Nat.reduceMul, q_n10, q_n01, Option.bind_some, g_aft0, g_aft1, g_aft2, g_aft3, g_aft9, Nat.reduceAdd, m_kill_0, m_kill_2, m_kill_3, m_kill_4, m_kill_9, true_or, or_true, q_lm1, q_l0, q_l1, q_l2, q_l3, q_l4, q_l5, q_l6, q_l8, q_l9, q_l10, q_l12, q_l32, q_l50, q_l120, q_l122, q_l126, q_l372, q_l1000, q_l1000000, q_clsF hL.1, q_n1F hL, q_obF hL, h2, rq_S1, hz, c1, c2, rq_V1, t1, vc.1 hd, rq_N1, o1, hy, d1, o3, wm, d2, hcf]
      · refine ⟨_, ⟨m, _, _, _, o5, (if_neg hi).symm⟩, ?_⟩
        by_cases d1 : y < 0
        · simp only [e_113, b_113_0, b_113_8, b_113_11, b_113_15, b_113_20, b_113_24, b_113_25, b_113_28, b_113_40, b_113_50, b_113_58, b_113_62, b_113_73, b_113_79, b_113_82, b_113_83, ↓reduceIte, Nat.reduceEqDiff, Nat.reduceMul, q_n10, q_n01, Option.bind_some, g_aft0, g_aft1, g_aft2, g_aft3, g_aft9, Nat.reduceAdd, m_kill_0, m_kill_2, m_kill_3, m_kill_4, m_kill_9, true_or, or_true, q_lm1, q_l0, q_l1, q_l2, q_l3, q_l4, q_l5, q_l6, q_l8, q_l9, q_l10, q_l12, q_l32, q_l50, q_l120, q_l122, q_l126, q_l372, q_l1000, q_l1000000, q_clsF hL.1, q_n1F hL, q_obF hL, h2, rq_S1, hz, c1, c2, rq_V1, t1, vc.1 hd, rq_N1, o1, hy, d1]
        · have d2 : (m : Int) ≤ y := by clear hx hy hz h2 e3 wm; omega
          simp only [e_113, b_113_0, b_113_8, b_113_11, b_113_15, b_113_20, b_113_24, b_113_25, b_113_28, b_113_40, b_113_50, b_113_58, b_113_62, b_113_73, b_113_79, b_113_82, b_113_83, ↓reduceIte, Nat.reduceEqDiff, Nat.reduceMul, q_n10, q_n01, Option.bind_some, g_aft0, g_aft1, g_aft2, g_aft3, g_aft9, Nat.reduceAdd, m_kill_0, m_kill_2, m_kill_3, m_kill_4, m_kill_9, true_or, or_true, q_lm1, q_l0, q_l1, q_l2, q_l3, q_l4, q_l5, q_l6, q_l8, q_l9, q_l10, q_l12, q_l32, q_l50, q_l120, q_l122, q_l126, q_l372, q_l1000, q_l1000000, q_clsF hL.1, q_n1F hL, q_obF hL, h2, rq_S1, hz, c1, c2, rq_V1, t1, vc.1 hd, rq_N1, o1, hy, d1, o3, wm, d2]
    · refine ⟨τ, t3, fun a ha => t4 a (by omega), fun _ => ?_, fun q => absurd q hd⟩
      simp only [e_113, b_113_0, b_113_8, b_113_11, b_113_15, b_113_20, b_113_24, b_113_25, b_113_28, b_113_40, b_113_50, b_113_58, b_113_62, b_113_73, b_113_79, b_113_82, b_113_83, ↓reduceIte, Nat.reduceEqDiff, Nat.reduceMul, q_n10, q_n01, Option.bind_some, g_aft0, g_aft1, g_aft2, g_aft3, g_aft9, Nat.reduceAdd, m_kill_0, m_kill_2, m_kill_3, m_kill_4, m_kill_9, true_or, or_true, q_lm1, q_l0, q_l1, q_l2, q_l3, q_l4, q_l5, q_l6, q_l8, q_l9, q_l10, q_l12, q_l32, q_l50, q_l120, q_l122, q_l126, q_l372, q_l1000, q_l1000000, q_clsF hL.1, q_n1F hL, q_obF hL, h2, rq_S1, hz, c1, c2, rq_V1, t1, vc.2 hd, rq_N0, g_aftE, Nat.reduceLT, m_thr]
end
end
