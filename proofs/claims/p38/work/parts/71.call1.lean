section
/-! The class's calls: the network, going on. -/
section
variable {Z : mZ} {K : Nat → mK} {σ τ N M : Nat → Nat → Int} {R : Nat → Nat → Nat → Int} {e s g i L n c k : Nat} {t p q v b x y z : Int} {X : Nat → Int}
theorem a_hasNode (hL : q_lay K) (h : w_in0 σ N) (hx : w32 x = x) : m_cl Z 15 [(2, ((1 : Nat) : Int)), (0, x)] (K, σ, 191, e, s) = some (.inl (0, if 0 ≤ x ∧ x < N 0 0 then 1 else 0), (K, σ, 191, e, s)) := by
  rw [n_hasNode (q_ntN hL).1, (w_in0_n h).1, hx]
theorem a_hasEdge (hL : q_lay K) (h : w_in0 σ N) (hx : w32 x = x) : m_cl Z 16 [(2, ((1 : Nat) : Int)), (0, x)] (K, σ, 191, e, s) = some (.inl (0, if 0 ≤ x ∧ x < N 0 1 then 1 else 0), (K, σ, 191, e, s)) := by
  rw [n_hasEdge (q_ntN hL).1, (w_in0_n h).2.2.2.1, hx]
theorem a_hasStretch (hL : q_lay K) (h : w_in0 σ N) (hx : w32 x = x) : m_cl Z 17 [(2, ((1 : Nat) : Int)), (0, x)] (K, σ, 191, e, s) = some (.inl (0, if 0 ≤ x ∧ x < N 0 2 then 1 else 0), (K, σ, 191, e, s)) := by
  rw [n_hasStretch (q_ntN hL).1, (w_in0_n h).2.2.2.2, hx]
theorem a_hasSet (hL : q_lay K) (h : w_in0 σ N) (hx : w32 x = x) : m_cl Z 18 [(2, ((1 : Nat) : Int)), (0, x)] (K, σ, 191, e, s) = some (.inl (0, if 0 ≤ x ∧ x < ((2 ^ w_nn N : Nat) : Int) then 1 else 0), (K, σ, 191, e, s)) := by
  have h0 : σ 1 0 = (w_nn N : Int) := by rw [nAt_0 h.2.2 (by omega)]; exact (wf_n h.1).1
  rw [n_hasSet (q_ntN hL).1, h0]
  simp only [w_set1 (wf_n h.1).2.2 hx]
theorem a_allNodes (hL : q_lay K) (h : w_in0 σ N) : m_cl Z 19 [(2, ((1 : Nat) : Int))] (K, σ, 191, e, s) = some (.inl (0, ((2 ^ w_nn N - 1 : Nat) : Int)), (K, σ, 191, e, s)) := by
  have h0 : σ 1 0 = (w_nn N : Int) := by rw [nAt_0 h.2.2 (by omega)]; exact (wf_n h.1).1
  rw [n_allNodes (q_ntN hL).1, h0, w_all1 (wf_n h.1).2.2]
/-- a point of an edge -/
def y_pt (N : Nat → Nat → Int) (g : Nat) (p q : Int) : Prop := 1 ≤ q ∧ q ≤ 1000 ∧ 0 ≤ p ∧ p ≤ N 10 g * q
theorem a_len (h : w_in0 σ N) (hg : g < w_ne N) : q_get σ 11 12 (g : Int) = N 10 g := by
  have h1 := (wf_e h.1).2
  rw [q_get_nat (by omega) (by omega)]
  exact h.2.2 10 g (by rw [q_len2]; simp; omega)
theorem a_hasPoint (hL : q_lay K) (h : w_in0 σ N) (hg : g < w_ne N) (hp : w32 p = p) (hq : w32 q = q) : (y_pt N g p q → m_cl Z 20 [(2, ((1 : Nat) : Int)), (0, (g : Int)), (0, p), (0, q)] (K, σ, 191, e, s) = some (.inl (0, 1), (K, σ, 191, e, s))) ∧ (¬ y_pt N g p q → m_cl Z 20 [(2, ((1 : Nat) : Int)), (0, (g : Int)), (0, p), (0, q)] (K, σ, 191, e, s) = some (.inl (0, 0), (K, σ, 191, e, s))) := by
  have hl := a_len h hg
  have h7 := wf_ed h.1 hg
  have key : m_cl Z 20 [(2, ((1 : Nat) : Int)), (0, (g : Int)), (0, p), (0, q)] (K, σ, 191, e, s) = some (.inl (0, if 1 ≤ q ∧ q ≤ 1000 ∧ 0 ≤ p ∧ p ≤ w32 (N 10 g * q) then 1 else 0), (K, σ, 191, e, s)) := by
    rw [n_hasPoint (q_ntN hL).1, hp, hq, show 1 + 10 = 11 from rfl, hl]
  rw [key]
  unfold y_pt
  by_cases c : 1 ≤ q ∧ q ≤ 1000
  · have m := q_mb (show 0 ≤ N 10 g by clear hp hq hl; omega) h7.2.2.2.2.2.2 (show 0 ≤ q by clear hp hq hl; omega) c.2
    have w1 : w32 (N 10 g * q) = N 10 g * q := by clear hp hq hl; exact q_wB (by omega) (by omega)
    rw [w1]
    exact ⟨fun h => by rw [if_pos h], fun h => by rw [if_neg h]⟩
  · constructor
    · rintro ⟨h1, h2, -⟩
      exact absurd ⟨h1, h2⟩ c
    · intro _
      rw [if_neg (fun h => c ⟨h.1, h.2.1⟩)]
theorem x_disconnect (hL : q_lay K) (h : w_ic σ N R c X L k) (hx : w32 x = x) : (¬ (0 ≤ x ∧ x < N 0 1) → m_cl Z 97 [(2, ((0 : Nat) : Int)), (0, x)] (K, σ, 191, e, s) = some (.inr 0, (K, σ, 191, e + 1, s + 6))) ∧ (0 ≤ x ∧ x < N 0 1 → ∃ τ, m_cl Z 97 [(2, ((0 : Nat) : Int)), (0, x)] (K, σ, 191, e, s) = some (.inl (0, (w_rms x.toNat (w_ns N) (N, 0)).2), (K, τ, 191, e, s)) ∧ w_ic τ (o_ds x.toNat N) (w_pR R c N) (w_pc c) X L k ∧ ∀ a, 191 ≤ a → τ a = σ a) := by
  have hh := a_hasEdge (Z := Z) (e := e) (s := s) hL h.1 hx
  constructor
  · intro hn
    rw [if_neg hn] at hh
    simp only [e_97, b_97_0, b_97_8, b_97_11, b_97_15, b_97_23, ↓reduceIte, Nat.reduceEqDiff, Nat.reduceMul, q_n10, q_n01, Option.bind_some, g_aft0, g_aft1, g_aft2, g_aft3, g_aft9, Nat.reduceAdd, m_kill_0, m_kill_2, m_kill_3, m_kill_4, m_kill_9, true_or, or_true, q_lm1, q_l0, q_l1, q_l2, q_l3, q_l4, q_l5, q_l6, q_l8, q_l9, q_l10, q_l12, q_l32, q_l50, q_l120, q_l122, q_l126, q_l372, q_l1000, q_l1000000, q_clsF hL.1, q_n1F hL, q_obF hL, hh, rq_S0, g_aftE, Nat.reduceLT, m_thr]
  · intro hn
    rw [if_pos hn] at hh
    obtain ⟨τ, t1, t2, t3, t4⟩ := w_chg (Z := Z) (e := e) (s := s) hL h
    have hw := h.1.1
    have hne := wf_e hw
    have hns := wf_s hw
    have hxe : x = ((x.toNat : Nat) : Int) := by clear hx hh; omega
    have hlt : x.toNat < w_ne N := by clear hx hh; omega
    obtain ⟨ω, o1, o2, o3⟩ := n_rmE (Z := Z) (n := 191) (e := e) (s := s) (σ := τ) (S := w_ns N) x.toNat (by clear hx hh; omega) (q_ntN hL).1 t2.2.2 hw.2.2.2.1 hns.1 hns.2
    obtain ⟨r1, r2⟩ := t4 ω (o_ds x.toNat N) (wf_ds hw hlt) (nf_ds hw h.1.2.1) o2 (fun a ha => o3 a (by omega))
    rw [← hxe] at o1
    refine ⟨ω, ?_, r1, fun a ha => r2 a (by omega)⟩
    simp only [e_97, b_97_0, b_97_8, b_97_11, b_97_15, b_97_23, ↓reduceIte, Nat.reduceEqDiff, Nat.reduceMul, q_n10, q_n01, Option.bind_some, g_aft0, g_aft1, g_aft2, g_aft3, g_aft9, Nat.reduceAdd, m_kill_0, m_kill_2, m_kill_3, m_kill_4, m_kill_9, true_or, or_true, q_lm1, q_l0, q_l1, q_l2, q_l3, q_l4, q_l5, q_l6, q_l8, q_l9, q_l10, q_l12, q_l32, q_l50, q_l120, q_l122, q_l126, q_l372, q_l1000, q_l1000000, q_clsF hL.1, q_n1F hL, q_obF hL, hh, rq_S1, t1, o1]
theorem y_sv0 (h0 : y_sv N x y = 0) : (0 ≤ x ∧ x < N 0 0) ∧ 0 ≤ y ∧ y ≤ 9 := by
  unfold y_sv at h0
  by_cases c1 : ¬ (0 ≤ x ∧ x < N 0 0)
  · rw [if_pos c1] at h0; exact absurd h0 (by decide)
  · rw [if_neg c1] at h0
    by_cases c2 : y < 0 ∨ 9 < y
    · rw [if_pos c2] at h0; exact absurd h0 (by decide)
    · omega
theorem x_setWeight (hL : q_lay K) (h : w_ic σ N R c X L k) (hx : w32 x = x) (hy : w32 y = y) : (y_sv N x y ≠ 0 → m_cl Z 98 [(2, ((0 : Nat) : Int)), (0, x), (0, y)] (K, σ, 191, e, s) = some (.inr (y_sv N x y - 1).toNat, (K, σ, 191, e + 1, s + 6))) ∧ (y_sv N x y = 0 → ∃ τ, m_cl Z 98 [(2, ((0 : Nat) : Int)), (0, x), (0, y)] (K, σ, 191, e, s) = some (.inl (0, N 2 x.toNat), (K, τ, 191, e, s)) ∧ w_ic τ (m_up2 N 2 x.toNat y) (w_pR R c N) (w_pc c) X L k ∧ ∀ a, 191 ≤ a → τ a = σ a) := by
  have hwy := a_whyV (Z := Z) (e := e) (s := s) hL h.1 hx hy
  have hrf := a_refuse (Z := Z) (h := (K, σ, 191, e, s)) (y_sv_r (N := N) (a := x) (b := y))
  constructor
  · intro hn
    rcases y_sv_r (N := N) (a := x) (b := y) with h0 | h0 | h0 | h0
    · exact absurd h0 hn
    · rw [h0, if_pos rfl] at hrf
      rw [h0] at hwy ⊢
      simp only [e_98, b_98_0, b_98_9, b_98_12, b_98_23, b_98_28, b_98_40, ↓reduceIte, Nat.reduceEqDiff, Nat.reduceMul, q_n10, q_n01, Option.bind_some, g_aft0, g_aft1, g_aft2, g_aft3, g_aft9, Nat.reduceAdd, m_kill_0, m_kill_2, m_kill_3, m_kill_4, m_kill_9, true_or, or_true, q_lm1, q_l0, q_l1, q_l2, q_l3, q_l4, q_l5, q_l6, q_l8, q_l9, q_l10, q_l12, q_l32, q_l50, q_l120, q_l122, q_l126, q_l372, q_l1000, q_l1000000, q_clsF hL.1, q_n1F hL, q_obF hL, hwy, hrf, g_aftE, Nat.reduceLT, m_thr]
      rfl
    · rw [h0, if_neg (by decide), if_pos rfl] at hrf
      rw [h0] at hwy ⊢
      simp only [e_98, b_98_0, b_98_9, b_98_12, b_98_23, b_98_28, b_98_40, ↓reduceIte, Nat.reduceEqDiff, Nat.reduceMul, q_n10, q_n01, Option.bind_some, g_aft0, g_aft1, g_aft2, g_aft3, g_aft9, Nat.reduceAdd, m_kill_0, m_kill_2, m_kill_3, m_kill_4, m_kill_9, true_or, or_true, q_lm1, q_l0, q_l1, q_l2, q_l3, q_l4, q_l5, q_l6, q_l8, q_l9, q_l10, q_l12, q_l32, q_l50, q_l120, q_l122, q_l126, q_l372, q_l1000, q_l1000000, q_clsF hL.1, q_n1F hL, q_obF hL, hwy, hrf, g_aftE, Nat.reduceLT, m_thr]
      rfl
    · rw [h0, if_neg (by decide), if_neg (by decide), if_pos rfl] at hrf
      rw [h0] at hwy ⊢
      simp only [e_98, b_98_0, b_98_9, b_98_12, b_98_23, b_98_28, b_98_40, ↓reduceIte, Nat.reduceEqDiff, Nat.reduceMul, q_n10, q_n01, Option.bind_some, g_aft0, g_aft1, g_aft2, g_aft3, g_aft9, Nat.reduceAdd, m_kill_0, m_kill_2, m_kill_3, m_kill_4, m_kill_9, true_or, or_true, q_lm1, q_l0, q_l1, q_l2, q_l3, q_l4, q_l5, q_l6, q_l8, q_l9, q_l10, q_l12, q_l32, q_l50, q_l120, q_l122, q_l126, q_l372, q_l1000, q_l1000000, q_clsF hL.1, q_n1F hL, q_obF hL, hwy, hrf, g_aftE, Nat.reduceLT, m_thr]
      rfl
  · intro h0
    rw [h0, if_neg (by decide), if_neg (by decide), if_neg (by decide)] at hrf
    rw [h0] at hwy
    obtain ⟨q1, q2, q3⟩ := y_sv0 h0
    obtain ⟨τ, t1, t2, t3, t4⟩ := w_chg (Z := Z) (e := e) (s := s) hL h
    have h8 := h.1.1.1
    have hi : x.toNat < 8 := by clear hx hy hwy hrf; omega
    have hxe : x = ((x.toNat : Nat) : Int) := by clear hx hy hwy hrf; omega
    have g1 : q_get σ 3 8 x = N 2 x.toNat := by
      rw [q_get_ok q1.1 (by clear hx hy hwy hrf; omega) (by omega)]
      exact h.1.2.2 2 x.toNat (by rw [q_len2]; simpa using hi)
    have s1 : q_set τ 3 8 x y = m_up2 τ 3 x.toNat y := q_set_ok q1.1 (by clear hx hy hwy hrf g1; omega) (by omega)
    obtain ⟨r1, r2⟩ := t4 (m_up2 τ (1 + 2) x.toNat y) (m_up2 N 2 x.toNat y) (wf_wt h.1.1 hi q2 q3).1 (nf_up h.1.2.1 (by rw [q_len2]; simpa using hi)) (nAt_up t2.2.2) (fun a ha => m_up2_ne (by omega))
    refine ⟨_, ?_, r1, fun a ha => r2 a (by omega)⟩
    simp only [e_98, b_98_0, b_98_9, b_98_12, b_98_23, b_98_28, b_98_40, ↓reduceIte, Nat.reduceEqDiff, Nat.reduceMul, q_n10, q_n01, Option.bind_some, g_aft0, g_aft1, g_aft2, g_aft3, g_aft9, Nat.reduceAdd, m_kill_0, m_kill_2, m_kill_3, m_kill_4, m_kill_9, true_or, or_true, q_lm1, q_l0, q_l1, q_l2, q_l3, q_l4, q_l5, q_l6, q_l8, q_l9, q_l10, q_l12, q_l32, q_l50, q_l120, q_l122, q_l126, q_l372, q_l1000, q_l1000000, q_clsF hL.1, q_n1F hL, q_obF hL, hwy, hrf, r_get, r_set, g1, t1, s1]
theorem x_setTrend (hL : q_lay K) (h : w_ic σ N R c X L k) (hx : w32 x = x) (hy : w32 y = y) : (y_sv N x y ≠ 0 → m_cl Z 99 [(2, ((0 : Nat) : Int)), (0, x), (0, y)] (K, σ, 191, e, s) = some (.inr (y_sv N x y - 1).toNat, (K, σ, 191, e + 1, s + 6))) ∧ (y_sv N x y = 0 → ∃ τ, m_cl Z 99 [(2, ((0 : Nat) : Int)), (0, x), (0, y)] (K, σ, 191, e, s) = some (.inl (0, N 4 x.toNat), (K, τ, 191, e, s)) ∧ w_ic τ (m_up2 N 4 x.toNat y) (w_pR R c N) (w_pc c) X L k ∧ ∀ a, 191 ≤ a → τ a = σ a) := by
  have hwy := a_whyV (Z := Z) (e := e) (s := s) hL h.1 hx hy
  have hrf := a_refuse (Z := Z) (h := (K, σ, 191, e, s)) (y_sv_r (N := N) (a := x) (b := y))
  constructor
  · intro hn
    rcases y_sv_r (N := N) (a := x) (b := y) with h0 | h0 | h0 | h0
    · exact absurd h0 hn
    · rw [h0, if_pos rfl] at hrf
      rw [h0] at hwy ⊢
      simp only [e_99, b_99_0, b_99_9, b_99_12, b_99_23, b_99_28, b_99_40, ↓reduceIte, Nat.reduceEqDiff, Nat.reduceMul, q_n10, q_n01, Option.bind_some, g_aft0, g_aft1, g_aft2, g_aft3, g_aft9, Nat.reduceAdd, m_kill_0, m_kill_2, m_kill_3, m_kill_4, m_kill_9, true_or, or_true, q_lm1, q_l0, q_l1, q_l2, q_l3, q_l4, q_l5, q_l6, q_l8, q_l9, q_l10, q_l12, q_l32, q_l50, q_l120, q_l122, q_l126, q_l372, q_l1000, q_l1000000, q_clsF hL.1, q_n1F hL, q_obF hL, hwy, hrf, g_aftE, Nat.reduceLT, m_thr]
      rfl
    · rw [h0, if_neg (by decide), if_pos rfl] at hrf
      rw [h0] at hwy ⊢
      simp only [e_99, b_99_0, b_99_9, b_99_12, b_99_23, b_99_28, b_99_40, ↓reduceIte, Nat.reduceEqDiff, Nat.reduceMul, q_n10, q_n01, Option.bind_some, g_aft0, g_aft1, g_aft2, g_aft3, g_aft9, Nat.reduceAdd, m_kill_0, m_kill_2, m_kill_3, m_kill_4, m_kill_9, true_or, or_true, q_lm1, q_l0, q_l1, q_l2, q_l3, q_l4, q_l5, q_l6, q_l8, q_l9, q_l10, q_l12, q_l32, q_l50, q_l120, q_l122, q_l126, q_l372, q_l1000, q_l1000000, q_clsF hL.1, q_n1F hL, q_obF hL, hwy, hrf, g_aftE, Nat.reduceLT, m_thr]
      rfl
    · rw [h0, if_neg (by decide), if_neg (by decide), if_pos rfl] at hrf
      rw [h0] at hwy ⊢
      simp only [e_99, b_99_0, b_99_9, b_99_12, b_99_23, b_99_28, b_99_40, ↓reduceIte, Nat.reduceEqDiff, Nat.reduceMul, q_n10, q_n01, Option.bind_some, g_aft0, g_aft1, g_aft2, g_aft3, g_aft9, Nat.reduceAdd, m_kill_0, m_kill_2, m_kill_3, m_kill_4, m_kill_9, true_or, or_true, q_lm1, q_l0, q_l1, q_l2, q_l3, q_l4, q_l5, q_l6, q_l8, q_l9, q_l10, q_l12, q_l32, q_l50, q_l120, q_l122, q_l126, q_l372, q_l1000, q_l1000000, q_clsF hL.1, q_n1F hL, q_obF hL, hwy, hrf, g_aftE, Nat.reduceLT, m_thr]
      rfl
  · intro h0
    rw [h0, if_neg (by decide), if_neg (by decide), if_neg (by decide)] at hrf
    rw [h0] at hwy
    obtain ⟨q1, q2, q3⟩ := y_sv0 h0
    obtain ⟨τ, t1, t2, t3, t4⟩ := w_chg (Z := Z) (e := e) (s := s) hL h
    have h8 := h.1.1.1
    have hi : x.toNat < 8 := by clear hx hy hwy hrf; omega
    have g1 : q_get σ 5 8 x = N 4 x.toNat := by
      rw [q_get_ok q1.1 (by clear hx hy hwy hrf; omega) (by omega)]
      exact h.1.2.2 4 x.toNat (by rw [q_len2]; simpa using hi)
    have s1 : q_set τ 5 8 x y = m_up2 τ 5 x.toNat y := q_set_ok q1.1 (by clear hx hy hwy hrf g1; omega) (by omega)
    obtain ⟨r1, r2⟩ := t4 (m_up2 τ (1 + 4) x.toNat y) (m_up2 N 4 x.toNat y) (wf_wt h.1.1 hi q2 q3).2 (nf_up h.1.2.1 (by rw [q_len2]; simpa using hi)) (nAt_up t2.2.2) (fun a ha => m_up2_ne (by omega))
    refine ⟨_, ?_, r1, fun a ha => r2 a (by omega)⟩
    simp only [e_99, b_99_0, b_99_9, b_99_12, b_99_23, b_99_28, b_99_40, ↓reduceIte, Nat.reduceEqDiff, Nat.reduceMul, q_n10, q_n01, Option.bind_some, g_aft0, g_aft1, g_aft2, g_aft3, g_aft9, Nat.reduceAdd, m_kill_0, m_kill_2, m_kill_3, m_kill_4, m_kill_9, true_or, or_true, q_lm1, q_l0, q_l1, q_l2, q_l3, q_l4, q_l5, q_l6, q_l8, q_l9, q_l10, q_l12, q_l32, q_l50, q_l120, q_l122, q_l126, q_l372, q_l1000, q_l1000000, q_clsF hL.1, q_n1F hL, q_obF hL, hwy, hrf, r_get, r_set, g1, t1, s1]
theorem y_fb0 (h0 : y_fb N x y z = 0) : (0 ≤ x ∧ x < N 0 1) ∧ 0 ≤ y ∧ y < z ∧ z ≤ N 10 x.toNat ∧ N 0 2 < 6 := by
  unfold y_fb at h0
  by_cases c1 : ¬ (0 ≤ x ∧ x < N 0 1)
  · rw [if_pos c1] at h0; exact absurd h0 (by decide)
  · rw [if_neg c1] at h0
    by_cases c2 : y < 0 ∨ z ≤ y ∨ N 10 x.toNat < z
    · rw [if_pos c2] at h0; exact absurd h0 (by decide)
    · rw [if_neg c2] at h0
      by_cases c3 : 6 ≤ N 0 2
      · rw [if_pos c3] at h0; exact absurd h0 (by decide)
      · omega
theorem x_forbid (hL : q_lay K) (h : w_ic σ N R c X L k) (hx : w32 x = x) (hy : w32 y = y) (hz : w32 z = z) : (y_fb N x y z ≠ 0 → m_cl Z 100 [(2, ((0 : Nat) : Int)), (0, x), (0, y), (0, z)] (K, σ, 191, e, s) = some (.inr (y_fb N x y z - 1).toNat, (K, σ, 191, e + 1, s + 6))) ∧ (y_fb N x y z = 0 → ∃ τ, m_cl Z 100 [(2, ((0 : Nat) : Int)), (0, x), (0, y), (0, z)] (K, σ, 191, e, s) = some (.inl (0, (w_ns N : Int)), (K, τ, 191, e, s)) ∧ w_ic τ (o_fb x y z N) (w_pR R c N) (w_pc c) X L k ∧ ∀ a, 191 ≤ a → τ a = σ a) := by
  have hwy := a_whyF (Z := Z) (e := e) (s := s) hL h.1 hx hy hz
  have hrf := a_refuse (Z := Z) (h := (K, σ, 191, e, s)) (y_fb_r (N := N) (a := x) (b := y) (l := z))
  constructor
  · intro hn
    rcases y_fb_r (N := N) (a := x) (b := y) (l := z) with h0 | h0 | h0 | h0
    · exact absurd h0 hn
    · rw [h0, if_pos rfl] at hrf
      rw [h0] at hwy ⊢
      simp only [e_100, b_100_0, b_100_10, b_100_13, b_100_17, b_100_27, ↓reduceIte, Nat.reduceEqDiff, Nat.reduceMul, q_n10, q_n01, Option.bind_some, g_aft0, g_aft1, g_aft2, g_aft3, g_aft9, Nat.reduceAdd, m_kill_0, m_kill_2, m_kill_3, m_kill_4, m_kill_9, true_or, or_true, q_lm1, q_l0, q_l1, q_l2, q_l3, q_l4, q_l5, q_l6, q_l8, q_l9, q_l10, q_l12, q_l32, q_l50, q_l120, q_l122, q_l126, q_l372, q_l1000, q_l1000000, q_clsF hL.1, q_n1F hL, q_obF hL, hwy, hrf, g_aftE, Nat.reduceLT, m_thr]
      rfl
    · rw [h0, if_neg (by decide), if_pos rfl] at hrf
      rw [h0] at hwy ⊢
      simp only [e_100, b_100_0, b_100_10, b_100_13, b_100_17, b_100_27, ↓reduceIte, Nat.reduceEqDiff, Nat.reduceMul, q_n10, q_n01, Option.bind_some, g_aft0, g_aft1, g_aft2, g_aft3, g_aft9, Nat.reduceAdd, m_kill_0, m_kill_2, m_kill_3, m_kill_4, m_kill_9, true_or, or_true, q_lm1, q_l0, q_l1, q_l2, q_l3, q_l4, q_l5, q_l6, q_l8, q_l9, q_l10, q_l12, q_l32, q_l50, q_l120, q_l122, q_l126, q_l372, q_l1000, q_l1000000, q_clsF hL.1, q_n1F hL, q_obF hL, hwy, hrf, g_aftE, Nat.reduceLT, m_thr]
      rfl
    · rw [h0, if_neg (by decide), if_neg (by decide), if_pos rfl] at hrf
      rw [h0] at hwy ⊢
      simp only [e_100, b_100_0, b_100_10, b_100_13, b_100_17, b_100_27, ↓reduceIte, Nat.reduceEqDiff, Nat.reduceMul, q_n10, q_n01, Option.bind_some, g_aft0, g_aft1, g_aft2, g_aft3, g_aft9, Nat.reduceAdd, m_kill_0, m_kill_2, m_kill_3, m_kill_4, m_kill_9, true_or, or_true, q_lm1, q_l0, q_l1, q_l2, q_l3, q_l4, q_l5, q_l6, q_l8, q_l9, q_l10, q_l12, q_l32, q_l50, q_l120, q_l122, q_l126, q_l372, q_l1000, q_l1000000, q_clsF hL.1, q_n1F hL, q_obF hL, hwy, hrf, g_aftE, Nat.reduceLT, m_thr]
      rfl
  · intro h0
    rw [h0, if_neg (by decide), if_neg (by decide), if_neg (by decide)] at hrf
    rw [h0] at hwy
    obtain ⟨q1, q2, q3, q4, q5⟩ := y_fb0 h0
    obtain ⟨τ, t1, t2, t3, t4⟩ := w_chg (Z := Z) (e := e) (s := s) hL h
    have hw := h.1.1
    have hns := wf_s hw
    have h6 : w_ns N < 6 := by clear hx hy hz hwy hrf; omega
    have n1 : τ 1 2 = (w_ns N : Int) := by rw [nAt_0 t2.2.2 (by omega)]; exact hns.1
    have s1 : ∀ ω v, q_set ω (1 + 12) 6 (w_ns N : Int) v = m_up2 ω (1 + 12) (w_ns N) v := fun ω v => q_set_nat h6 (by omega)
    have s2 : ∀ ω v, q_set ω (1 + 14) 6 (w_ns N : Int) v = m_up2 ω (1 + 14) (w_ns N) v := fun ω v => q_set_nat h6 (by omega)
    have s3 : ∀ ω v, q_set ω (1 + 16) 6 (w_ns N : Int) v = m_up2 ω (1 + 16) (w_ns N) v := fun ω v => q_set_nat h6 (by omega)
    have hadd := n_addStretch (Z := Z) (σ := τ) (n := 191) (e := e) (s := s) (x := x) (y := y) (l := z) (q_ntN hL).1
    rw [n1, s1, s2, s3] at hadd
    obtain ⟨r1, r2⟩ := t4 _ (o_fb x y z N) (wf_fb hw h6 q1.1 q1.2 q2 q3 q4) (nf_fb h.1.2.1 h6) (nAt_up0 (v := (w_ns N : Int) + 1) (k := 2) (nAt_up (nAt_up (nAt_up t2.2.2)))) (fun a ha => by rw [m_up2_ne (by omega), m_up2_ne (by omega), m_up2_ne (by omega), m_up2_ne (by omega)])
    refine ⟨_, ?_, r1, fun a ha => r2 a (by omega)⟩
    simp only [e_100, b_100_0, b_100_10, b_100_13, b_100_17, b_100_27, ↓reduceIte, Nat.reduceEqDiff, Nat.reduceMul, q_n10, q_n01, Option.bind_some, g_aft0, g_aft1, g_aft2, g_aft3, g_aft9, Nat.reduceAdd, m_kill_0, m_kill_2, m_kill_3, m_kill_4, m_kill_9, true_or, or_true, q_lm1, q_l0, q_l1, q_l2, q_l3, q_l4, q_l5, q_l6, q_l8, q_l9, q_l10, q_l12, q_l32, q_l50, q_l120, q_l122, q_l126, q_l372, q_l1000, q_l1000000, q_clsF hL.1, q_n1F hL, q_obF hL, hwy, hrf, t1, hadd]
theorem x_allow (hL : q_lay K) (h : w_ic σ N R c X L k) (hx : w32 x = x) : (¬ (0 ≤ x ∧ x < N 0 2) → m_cl Z 101 [(2, ((0 : Nat) : Int)), (0, x)] (K, σ, 191, e, s) = some (.inr 0, (K, σ, 191, e + 1, s + 6))) ∧ (0 ≤ x ∧ x < N 0 2 → ∃ τ, m_cl Z 101 [(2, ((0 : Nat) : Int)), (0, x)] (K, σ, 191, e, s) = some (.inl (0, N 12 x.toNat), (K, τ, 191, e, s)) ∧ w_ic τ (w_rmS x.toNat N) (w_pR R c N) (w_pc c) X L k ∧ ∀ a, 191 ≤ a → τ a = σ a) := by
  have hh := a_hasStretch (Z := Z) (e := e) (s := s) hL h.1 hx
  constructor
  · intro hn
    rw [if_neg hn] at hh
    simp only [e_101, b_101_0, b_101_8, b_101_11, b_101_22, b_101_27, b_101_35, ↓reduceIte, Nat.reduceEqDiff, Nat.reduceMul, q_n10, q_n01, Option.bind_some, g_aft0, g_aft1, g_aft2, g_aft3, g_aft9, Nat.reduceAdd, m_kill_0, m_kill_2, m_kill_3, m_kill_4, m_kill_9, true_or, or_true, q_lm1, q_l0, q_l1, q_l2, q_l3, q_l4, q_l5, q_l6, q_l8, q_l9, q_l10, q_l12, q_l32, q_l50, q_l120, q_l122, q_l126, q_l372, q_l1000, q_l1000000, q_clsF hL.1, q_n1F hL, q_obF hL, hh, rq_S0, g_aftE, Nat.reduceLT, m_thr]
  · intro hn
    rw [if_pos hn] at hh
    obtain ⟨τ, t1, t2, t3, t4⟩ := w_chg (Z := Z) (e := e) (s := s) hL h
    have hw := h.1.1
    have hns := wf_s hw
    have hxe : x = ((x.toNat : Nat) : Int) := by clear hx hh; omega
    have hlt : x.toNat < w_ns N := by clear hx hh; omega
    have hrm := n_remStretch (Z := Z) (n := 191) (e := e) (s := s) (σ := τ) (p := x.toNat) (q_ntN hL).1 (by clear hx hh; omega)
    have h02 : τ 1 2 = N 0 2 := nAt_0 t2.2.2 (by omega)
    rw [h02, ← hxe] at hrm
    have g1 : q_get σ 13 6 x = N 12 x.toNat := by
      rw [q_get_ok hn.1 (by clear hx hh hrm h02; omega) (by omega)]
      exact h.1.2.2 12 x.toNat (by rw [q_len2]; simp; clear hx hh hrm h02; omega)
    obtain ⟨r1, r2⟩ := t4 _ (w_rmS x.toNat N) (wf_al hw hlt) (nf_rmS h.1.2.1) (nAt_up0 (v := N 0 2 - 1) (k := 2) (nAt_rem (p := x.toNat) (nAt_rem (p := x.toNat) (nAt_rem (p := x.toNat) t2.2.2 (r := 12) (L := 6) rfl) (r := 14) (L := 6) rfl) (r := 16) (L := 6) rfl)) (fun a ha => by rw [m_up2_ne (by omega), q_rem_ne (by omega), q_rem_ne (by omega), q_rem_ne (by omega)])
    refine ⟨_, ?_, r1, fun a ha => r2 a (by omega)⟩
    simp only [e_101, b_101_0, b_101_8, b_101_11, b_101_22, b_101_27, b_101_35, ↓reduceIte, Nat.reduceEqDiff, Nat.reduceMul, q_n10, q_n01, Option.bind_some, g_aft0, g_aft1, g_aft2, g_aft3, g_aft9, Nat.reduceAdd, m_kill_0, m_kill_2, m_kill_3, m_kill_4, m_kill_9, true_or, or_true, q_lm1, q_l0, q_l1, q_l2, q_l3, q_l4, q_l5, q_l6, q_l8, q_l9, q_l10, q_l12, q_l32, q_l50, q_l120, q_l122, q_l126, q_l372, q_l1000, q_l1000000, q_clsF hL.1, q_n1F hL, q_obF hL, hh, rq_S1, r_get, g1, t1, hrm]
end
end
