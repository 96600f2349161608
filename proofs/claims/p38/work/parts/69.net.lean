section
/-! The class's calls: the network. -/
def w_ebI (N : Nat → Nat → Int) (a b : Int) : Int := q_fst (fun i => decide (N 6 i = a ∧ N 8 i = b ∨ N 6 i = b ∧ N 8 i = a)) 0 (w_ne N)
def y_cn (N : Nat → Nat → Int) (a b l : Int) : Int := if ¬ (0 ≤ a ∧ a < N 0 0) ∨ ¬ (0 ≤ b ∧ b < N 0 0) then 1 else if a = b ∨ l < 1 ∨ 50 < l then 2 else if ¬ w_ebI N a b = -1 ∨ 12 ≤ w_ne N then 3 else 0
def y_sv (N : Nat → Nat → Int) (i v : Int) : Int := if ¬ (0 ≤ i ∧ i < N 0 0) then 1 else if v < 0 ∨ 9 < v then 2 else 0
def y_fb (N : Nat → Nat → Int) (e a b : Int) : Int := if ¬ (0 ≤ e ∧ e < N 0 1) then 1 else if a < 0 ∨ b ≤ a ∨ N 10 e.toNat < b then 2 else if 6 ≤ N 0 2 then 3 else 0
theorem y_cn_r {N : Nat → Nat → Int} {a b l : Int} : y_cn N a b l = 0 ∨ y_cn N a b l = 1 ∨ y_cn N a b l = 2 ∨ y_cn N a b l = 3 := by
  unfold y_cn
  repeat' split
  all_goals simp
theorem y_sv_r {N : Nat → Nat → Int} {a b : Int} : y_sv N a b = 0 ∨ y_sv N a b = 1 ∨ y_sv N a b = 2 ∨ y_sv N a b = 3 := by
  unfold y_sv
  repeat' split
  all_goals simp
theorem y_fb_r {N : Nat → Nat → Int} {a b l : Int} : y_fb N a b l = 0 ∨ y_fb N a b l = 1 ∨ y_fb N a b l = 2 ∨ y_fb N a b l = 3 := by
  unfold y_fb
  repeat' split
  all_goals simp
section
variable {Z : mZ} {K : Nat → mK} {σ τ N M : Nat → Nat → Int} {R : Nat → Nat → Nat → Int} {e s g i L n c k : Nat} {t p q v b x y z : Int} {X : Nat → Int}
theorem q_n1F (hL : q_lay K) : q_ob K 191 1 1 ∧ (q_row K 191 2 ∧ q_row K 191 4 ∧ q_row K 191 6 ∧ q_row K 191 8 ∧ q_row K 191 10 ∧ q_row K 191 12 ∧ q_row K 191 14 ∧ q_row K 191 16) ∧ (q_ob K 191 2 3 ∧ q_ob K 191 4 3 ∧ q_ob K 191 6 3 ∧ q_ob K 191 8 3 ∧ q_ob K 191 10 3 ∧ q_ob K 191 12 3 ∧ q_ob K 191 14 3 ∧ q_ob K 191 16 3) ∧ (q_rp K 1 3 ∧ q_rp K 1 4 ∧ q_rp K 1 5 ∧ q_rp K 1 6 ∧ q_rp K 1 7 ∧ q_rp K 1 8 ∧ q_rp K 1 9 ∧ q_rp K 1 10) ∧ (q_rf K 1 3 = 2 ∧ q_rf K 1 4 = 4 ∧ q_rf K 1 5 = 6 ∧ q_rf K 1 6 = 8 ∧ q_rf K 1 7 = 10 ∧ q_rf K 1 8 = 12 ∧ q_rf K 1 9 = 14 ∧ q_rf K 1 10 = 16) ∧ (q_ln K 3 = 8 ∧ q_ln K 5 = 8 ∧ q_ln K 7 = 12 ∧ q_ln K 9 = 12 ∧ q_ln K 11 = 12 ∧ q_ln K 13 = 6 ∧ q_ln K 15 = 6 ∧ q_ln K 17 = 6) := q_netF (q_ntN hL).1
theorem q_n18 (hL : q_lay K) : q_ob K 191 18 1 := (q_netF (q_ntN hL).2.1).1
theorem q_obF (hL : q_lay K) : q_ob K 191 138 5 ∧ q_ob K 191 170 2 ∧ q_ob K 191 177 0 ∧ q_ob K 191 186 4 ∧ q_ob K 191 139 1 ∧ q_ob K 191 18 1 := ⟨(q_surF hL.2.2.1).1, (q_outF hL.2.2.2.1).1, (q_grpF hL.2.2.2.2.1).1, (q_scrF hL.2.2.2.2.2.1).1, (q_tkF hL.2.1).2.1, q_n18 hL⟩
theorem w_in0_n (h : w_in0 σ N) : w32 (σ 1 0) = N 0 0 ∧ w32 (σ 1 1) = (w_ne N : Int) ∧ w32 (σ 1 2) = (w_ns N : Int) ∧ w32 (σ 1 1) = N 0 1 ∧ w32 (σ 1 2) = N 0 2 := by
  obtain ⟨hw, hf, hn⟩ := h
  have h1 := hw.1
  have h2 := wf_e hw
  have h3 := wf_s hw
  rw [nAt_0 hn (by omega), nAt_0 hn (by omega), nAt_0 hn (by omega), q_wi (by omega) (by omega), q_wi (by omega) (by omega), q_wi (by omega) (by omega)]
  omega
theorem w_ebI_c (h : w_in0 σ N) (hx : w32 x = x) (hy : w32 y = y) : q_fst (q_jn σ 1 x y) 0 (w_ne N) = w_ebI N x y := by
  obtain ⟨hw, hf, hn⟩ := h
  refine q_fst_congr _ _ (fun j _ hj => ?_)
  have m12 := (wf_e hw).2
  have hj2 : j < w_ne N := by clear hx hy; omega
  have b6 := w_sml hw (r := 6) (j := j) (by rw [q_len2]; simp; clear hx hy; omega)
  have b8 := w_sml hw (r := 8) (j := j) (by rw [q_len2]; simp; clear hx hy; omega)
  unfold q_jn
  rw [hn 6 j (by rw [q_len2]; simp; clear hx hy; omega), hn 8 j (by rw [q_len2]; simp; clear hx hy; omega), hx, hy, q_wi (by clear hx hy; omega) (by clear hx hy; omega), q_wi (by clear hx hy; omega) (by clear hx hy; omega)]
theorem w_ebI_r (hw : q_wf N) : (w_ebI N x y = -1 ∧ ∀ j, j < w_ne N → ¬ (N 6 j = x ∧ N 8 j = y ∨ N 6 j = y ∧ N 8 j = x)) ∨ ∃ j, j < w_ne N ∧ w_ebI N x y = (j : Int) := by
  rcases q_fst_r (p := fun i => decide (N 6 i = x ∧ N 8 i = y ∨ N 6 i = y ∧ N 8 i = x)) (w_ne N) 0 with ⟨h1, h2⟩ | ⟨j, -, h2, -, h3, -⟩
  · exact Or.inl ⟨h1, fun j hj => of_decide_eq_false (h2 j (Nat.zero_le _) (by omega))⟩
  · exact Or.inr ⟨j, by omega, h3⟩
theorem a_whyE (hL : q_lay K) (h : w_in0 σ N) (hx : w32 x = x) (hy : w32 y = y) (hz : w32 z = z) : m_cl Z 22 [(2, ((1 : Nat) : Int)), (0, x), (0, y), (0, z)] (K, σ, 191, e, s) = some (.inl (0, y_cn N x y z), (K, σ, 191, e, s)) := by
  obtain ⟨n1, n2, n3, n4, n5⟩ := w_in0_n h
  have hr := w_ebI_r h.1 (x := x) (y := y)
  have m12 := (wf_e h.1).2
  rw [n_whyEdge (q_ntN hL).1 n2 m12, w_ebI_c h hx hy, n1, hx, hy, hz]
  have wI : w32 (w_ebI N x y) = w_ebI N x y := by
    rcases hr with ⟨h1, -⟩ | ⟨j, hj, h1⟩
    · rw [h1]; decide
    · rw [h1]; exact q_w (by clear hx hy hz n1 n2 n3 n4 n5; omega)
  rw [wI]
  rfl
theorem a_whyV (hL : q_lay K) (h : w_in0 σ N) (hx : w32 x = x) (hy : w32 y = y) : m_cl Z 23 [(2, ((1 : Nat) : Int)), (0, x), (0, y)] (K, σ, 191, e, s) = some (.inl (0, y_sv N x y), (K, σ, 191, e, s)) := by
  obtain ⟨n1, -⟩ := w_in0_n h
  rw [n_whyValue (q_ntN hL).1, n1, hx, hy]
  rfl
theorem a_whyF (hL : q_lay K) (h : w_in0 σ N) (hx : w32 x = x) (hy : w32 y = y) (hz : w32 z = z) : m_cl Z 24 [(2, ((1 : Nat) : Int)), (0, x), (0, y), (0, z)] (K, σ, 191, e, s) = some (.inl (0, y_fb N x y z), (K, σ, 191, e, s)) := by
  obtain ⟨n1, n2, n3, n4, n5⟩ := w_in0_n h
  rw [n_whyStretch (q_ntN hL).1, n4, n5, hx, hy, hz]
  unfold y_fb
  by_cases c : 0 ≤ x ∧ x < N 0 1
  · have m12 := (wf_e h.1)
    have hl := w_sml h.1 (r := 10) (j := x.toNat) (by rw [q_len2]; simp; clear hx hy hz n1 n2 n3 n4 n5; omega)
    have e1 : q_get σ (1 + 10) 12 x = N 10 x.toNat := by
      rw [q_get_ok c.1 (by clear hx hy hz n1 n2 n3 n4 n5; omega) (by omega)]
      exact h.2.2 10 x.toNat (by rw [q_len2]; simp; clear hx hy hz n1 n2 n3 n4 n5; omega)
    rw [e1, q_wi (x := N 10 x.toNat) (by clear hx hy hz n1 n2 n3 n4 n5 e1; omega) (by clear hx hy hz n1 n2 n3 n4 n5 e1; omega)]
  · rw [if_pos c, if_pos c]
theorem w_ic_mk (h : w_ic σ N R c X L k) {N' : Nat → Nat → Int} {R' : Nat → Nat → Nat → Int} {c' : Nat} (h1 : w_in0 τ N') (h2 : w_ir τ R' c') (hf : ∀ a, 138 ≤ a → τ a = σ a) : w_ic τ N' R' c' X L k := by
  obtain ⟨-, -, a3, a4, a5, a6⟩ := h
  have hs := w_sgi (σ := σ) (τ := τ) (fun a ha _ => hf a ha)
  exact ⟨h1, h2, w_tx_fr a3 (by rw [hf 186 (by omega)]) (hf 188 (by omega)), hs.1 a4, by rw [hf 138 (by omega)]; exact a5, hs.2 a6⟩
theorem w_ir_fr (h : w_ir σ R c) (h0 : τ 0 3 = σ 0 3) (hf : ∀ a, 36 ≤ a → a < 138 → τ a = σ a) : w_ir τ R c := ⟨h0.trans h.1, h.2.1, fun i hi => ⟨(h.2.2 i hi).1, (h.2.2 i hi).2.1, nAt_fr (h.2.2 i hi).2.2 (fun a ha ha2 => hf a (by omega) (by have := h.2.1; omega))⟩⟩
/-- a change of the network behind its record -/
theorem w_chg (hL : q_lay K) (h : w_ic σ N R c X L k) : ∃ τ, m_cl Z 138 [(2, ((0 : Nat) : Int))] (K, σ, 191, e, s) = some (.inl (9, 0), (K, τ, 191, e, s)) ∧ w_in0 τ N ∧ (∀ a, 138 ≤ a → τ a = σ a) ∧ ∀ ω M, q_wf M → q_nf M → nAt ω 1 M → (∀ a, a < 1 ∨ 18 ≤ a → ω a = τ a) → w_ic ω M (w_pR R c N) (w_pc c) X L k ∧ ∀ a, 138 ≤ a → ω a = σ a := by
  obtain ⟨τ, t1, t2, t3, t4⟩ := a_remember (Z := Z) (e := e) (s := s) hL h.1 h.2.1
  refine ⟨τ, t1, ⟨h.1.1, h.1.2.1, nAt_fr h.1.2.2 (fun a ha ha2 => t4 a (by omega) (by omega))⟩, fun a ha => t4 a (by omega) (by omega), fun ω M m1 m2 m3 m4 => ?_⟩
  have hf : ∀ a, 138 ≤ a → ω a = σ a := fun a ha => by rw [m4 a (by omega)]; exact t4 a (by omega) (by omega)
  exact ⟨w_ic_mk h ⟨m1, m2, m3⟩ (w_ir_fr t2 (by rw [m4 0 (by omega)]) (fun a ha ha2 => m4 a (by omega))) hf, hf⟩
theorem x_reset (hL : q_lay K) (h : w_ic σ N R c X L k) (hx : w32 x = x) : (¬ (1 ≤ x ∧ x ≤ 8) → m_cl Z 95 [(2, ((0 : Nat) : Int)), (0, x)] (K, σ, 191, e, s) = some (.inr 1, (K, σ, 191, e + 1, s + 6))) ∧ (1 ≤ x ∧ x ≤ 8 → ∃ τ, m_cl Z 95 [(2, ((0 : Nat) : Int)), (0, x)] (K, σ, 191, e, s) = some (.inl (0, N 0 0), (K, τ, 191, e, s)) ∧ w_ic τ (o_rs x N) (w_pR R c N) (w_pc c) X L k ∧ ∀ a, 191 ≤ a → τ a = σ a) := by
  have e1 : w32 1 = 1 := by decide
  have e8 : w32 8 = 8 := by decide
  constructor
  · intro hn
    by_cases c1 : x < 1
    · simp only [e_95, b_95_0, b_95_5, b_95_11, b_95_15, b_95_16, b_95_19, b_95_31, b_95_39, ↓reduceIte, Nat.reduceEqDiff, Nat.reduceMul, q_n10, q_n01, Option.bind_some, g_aft0, g_aft1, g_aft2, g_aft3, g_aft9, Nat.reduceAdd, m_kill_0, m_kill_2, m_kill_3, m_kill_4, m_kill_9, true_or, or_true, q_lm1, q_l0, q_l1, q_l2, q_l3, q_l4, q_l5, q_l6, q_l8, q_l9, q_l10, q_l12, q_l32, q_l50, q_l120, q_l122, q_l126, q_l372, q_l1000, q_l1000000, hx, c1, rq_V0, g_aftE, Nat.reduceLT, m_thr]
    · have c2 : 8 < x := by clear hx e1 e8; omega
      simp only [e_95, b_95_0, b_95_5, b_95_11, b_95_15, b_95_16, b_95_19, b_95_31, b_95_39, ↓reduceIte, Nat.reduceEqDiff, Nat.reduceMul, q_n10, q_n01, Option.bind_some, g_aft0, g_aft1, g_aft2, g_aft3, g_aft9, Nat.reduceAdd, m_kill_0, m_kill_2, m_kill_3, m_kill_4, m_kill_9, true_or, or_true, q_lm1, q_l0, q_l1, q_l2, q_l3, q_l4, q_l5, q_l6, q_l8, q_l9, q_l10, q_l12, q_l32, q_l50, q_l120, q_l122, q_l126, q_l372, q_l1000, q_l1000000, hx, c1, c2, rq_V0, g_aftE, Nat.reduceLT, m_thr]
  · intro hn
    obtain ⟨τ, t1, t2, t3, t4⟩ := w_chg (Z := Z) (e := e) (s := s) hL h
    have c1 : ¬ x < 1 := by clear hx e1 e8; omega
    have c2 : ¬ 8 < x := by clear hx e1 e8; omega
    have h0 : σ 1 0 = N 0 0 := nAt_0 h.1.2.2 (by omega)
    obtain ⟨r1, r2⟩ := t4 (q_fill (q_fill (m_up2 (m_up2 (m_up2 τ 1 0 x) 1 1 0) 1 2 0) (1 + 2) 8 (fun _ => 1)) (1 + 4) 8 (fun _ => 0)) (o_rs x N) (wf_rs h.1.1 hn.1 hn.2) (nf_rs h.1.2.1) (nAt_fill (nAt_fill (nAt_up0 (nAt_up0 (nAt_up0 t2.2.2))))) (fun a ha => by rw [q_fill_ne (by omega), q_fill_ne (by omega), m_up2_ne (by omega), m_up2_ne (by omega), m_up2_ne (by omega)])
    refine ⟨_, ?_, r1, fun a ha => r2 a (by omega)⟩
    simp only [e_95, b_95_0, b_95_5, b_95_11, b_95_15, b_95_16, b_95_19, b_95_31, b_95_39, ↓reduceIte, Nat.reduceEqDiff, Nat.reduceMul, q_n10, q_n01, Option.bind_some, g_aft0, g_aft1, g_aft2, g_aft3, g_aft9, Nat.reduceAdd, m_kill_0, m_kill_2, m_kill_3, m_kill_4, m_kill_9, true_or, or_true, q_lm1, q_l0, q_l1, q_l2, q_l3, q_l4, q_l5, q_l6, q_l8, q_l9, q_l10, q_l12, q_l32, q_l50, q_l120, q_l122, q_l126, q_l372, q_l1000, q_l1000000, q_clsF hL.1, q_n1F hL, q_obF hL, hx, c1, c2, rq_V1, t1, n_clear (q_ntN hL).1, h0]
theorem x_connect (hL : q_lay K) (h : w_ic σ N R c X L k) (hx : w32 x = x) (hy : w32 y = y) (hz : w32 z = z) : (y_cn N x y z ≠ 0 → m_cl Z 96 [(2, ((0 : Nat) : Int)), (0, x), (0, y), (0, z)] (K, σ, 191, e, s) = some (.inr (y_cn N x y z - 1).toNat, (K, σ, 191, e + 1, s + 6))) ∧ (y_cn N x y z = 0 → ∃ τ, m_cl Z 96 [(2, ((0 : Nat) : Int)), (0, x), (0, y), (0, z)] (K, σ, 191, e, s) = some (.inl (0, (w_ne N : Int)), (K, τ, 191, e, s)) ∧ w_ic τ (o_cn x y z N) (w_pR R c N) (w_pc c) X L k ∧ ∀ a, 191 ≤ a → τ a = σ a) := by
  have hwy := a_whyE (Z := Z) (e := e) (s := s) hL h.1 hx hy hz
  have hrf := a_refuse (Z := Z) (h := (K, σ, 191, e, s)) (y_cn_r (N := N) (a := x) (b := y) (l := z))
  constructor
  · intro hn
    rcases y_cn_r (N := N) (a := x) (b := y) (l := z) with h0 | h0 | h0 | h0
    · exact absurd h0 hn
    · rw [h0, if_pos rfl] at hrf
      rw [h0] at hwy ⊢
      simp only [e_96, b_96_0, b_96_10, b_96_13, b_96_17, b_96_27, ↓reduceIte, Nat.reduceEqDiff, Nat.reduceMul, q_n10, q_n01, Option.bind_some, g_aft0, g_aft1, g_aft2, g_aft3, g_aft9, Nat.reduceAdd, m_kill_0, m_kill_2, m_kill_3, m_kill_4, m_kill_9, true_or, or_true, q_lm1, q_l0, q_l1, q_l2, q_l3, q_l4, q_l5, q_l6, q_l8, q_l9, q_l10, q_l12, q_l32, q_l50, q_l120, q_l122, q_l126, q_l372, q_l1000, q_l1000000, q_clsF hL.1, q_n1F hL, q_obF hL, hwy, hrf, g_aftE, Nat.reduceLT, m_thr]
      rfl
    · rw [h0, if_neg (by decide), if_pos rfl] at hrf
      rw [h0] at hwy ⊢
      simp only [e_96, b_96_0, b_96_10, b_96_13, b_96_17, b_96_27, ↓reduceIte, Nat.reduceEqDiff, Nat.reduceMul, q_n10, q_n01, Option.bind_some, g_aft0, g_aft1, g_aft2, g_aft3, g_aft9, Nat.reduceAdd, m_kill_0, m_kill_2, m_kill_3, m_kill_4, m_kill_9, true_or, or_true, q_lm1, q_l0, q_l1, q_l2, q_l3, q_l4, q_l5, q_l6, q_l8, q_l9, q_l10, q_l12, q_l32, q_l50, q_l120, q_l122, q_l126, q_l372, q_l1000, q_l1000000, q_clsF hL.1, q_n1F hL, q_obF hL, hwy, hrf, g_aftE, Nat.reduceLT, m_thr]
      rfl
    · rw [h0, if_neg (by decide), if_neg (by decide), if_pos rfl] at hrf
      rw [h0] at hwy ⊢
      simp only [e_96, b_96_0, b_96_10, b_96_13, b_96_17, b_96_27, ↓reduceIte, Nat.reduceEqDiff, Nat.reduceMul, q_n10, q_n01, Option.bind_some, g_aft0, g_aft1, g_aft2, g_aft3, g_aft9, Nat.reduceAdd, m_kill_0, m_kill_2, m_kill_3, m_kill_4, m_kill_9, true_or, or_true, q_lm1, q_l0, q_l1, q_l2, q_l3, q_l4, q_l5, q_l6, q_l8, q_l9, q_l10, q_l12, q_l32, q_l50, q_l120, q_l122, q_l126, q_l372, q_l1000, q_l1000000, q_clsF hL.1, q_n1F hL, q_obF hL, hwy, hrf, g_aftE, Nat.reduceLT, m_thr]
      rfl
  · intro h0
    rw [h0, if_neg (by decide), if_neg (by decide), if_neg (by decide)] at hrf
    rw [h0] at hwy
    obtain ⟨τ, t1, t2, t3, t4⟩ := w_chg (Z := Z) (e := e) (s := s) hL h
    have hw := h.1.1
    have hne := wf_e hw
    have n1 : τ 1 1 = (w_ne N : Int) := by rw [nAt_0 t2.2.2 (by omega)]; exact hne.1
    have conds : (0 ≤ x ∧ x < N 0 0) ∧ (0 ≤ y ∧ y < N 0 0) ∧ ¬ (x = y ∨ z < 1 ∨ 50 < z) ∧ w_ebI N x y = -1 ∧ w_ne N < 12 := by
      unfold y_cn at h0
      by_cases c1 : ¬ (0 ≤ x ∧ x < N 0 0) ∨ ¬ (0 ≤ y ∧ y < N 0 0)
      · rw [if_pos c1] at h0; exact absurd h0 (by decide)
      · rw [if_neg c1] at h0
        by_cases c2 : x = y ∨ z < 1 ∨ 50 < z
        · rw [if_pos c2] at h0; exact absurd h0 (by decide)
        · rw [if_neg c2] at h0
          by_cases c3 : ¬ w_ebI N x y = -1 ∨ 12 ≤ w_ne N
          · rw [if_pos c3] at h0; exact absurd h0 (by decide)
          · clear hx hy hz hwy hrf
            exact ⟨by omega, by omega, c2, by omega, by omega⟩
    obtain ⟨q1, q2, q3, q4, q5⟩ := conds
    have hj : ∀ i, i < w_ne N → ¬ (N 6 i = x ∧ N 8 i = y ∨ N 6 i = y ∧ N 8 i = x) := by
      rcases w_ebI_r hw (x := x) (y := y) with ⟨-, hj⟩ | ⟨j, -, hj⟩
      · exact hj
      · rw [q4] at hj
        clear hx hy hz hwy hrf
        omega
    have s1 : ∀ ω v, q_set ω (1 + 6) 12 (w_ne N : Int) v = m_up2 ω (1 + 6) (w_ne N) v := fun ω v => q_set_nat q5 (by omega)
    have s2 : ∀ ω v, q_set ω (1 + 8) 12 (w_ne N : Int) v = m_up2 ω (1 + 8) (w_ne N) v := fun ω v => q_set_nat q5 (by omega)
    have s3 : ∀ ω v, q_set ω (1 + 10) 12 (w_ne N : Int) v = m_up2 ω (1 + 10) (w_ne N) v := fun ω v => q_set_nat q5 (by omega)
    have hadd := n_addEdge (Z := Z) (σ := τ) (n := 191) (e := e) (s := s) (x := x) (y := y) (l := z) (q_ntN hL).1
    rw [n1, s1, s2, s3] at hadd
    obtain ⟨r1, r2⟩ := t4 _ (o_cn x y z N) (wf_cn hw q5 q1.1 q1.2 q2.1 q2.2 (fun q => q3 (Or.inl q)) (by clear hx hy hz hwy hrf n1; omega) (by clear hx hy hz hwy hrf n1; omega) hj) (nf_cn h.1.2.1 q5) (nAt_up0 (v := (w_ne N : Int) + 1) (k := 1) (nAt_up (nAt_up (nAt_up t2.2.2)))) (fun a ha => by rw [m_up2_ne (by omega), m_up2_ne (by omega), m_up2_ne (by omega), m_up2_ne (by omega)])
    refine ⟨_, ?_, r1, fun a ha => r2 a (by omega)⟩
    simp only [e_96, b_96_0, b_96_10, b_96_13, b_96_17, b_96_27, ↓reduceIte, Nat.reduceEqDiff, Nat.reduceMul, q_n10, q_n01, Option.bind_some, g_aft0, g_aft1, g_aft2, g_aft3, g_aft9, Nat.reduceAdd, m_kill_0, m_kill_2, m_kill_3, m_kill_4, m_kill_9, true_or, or_true, q_lm1, q_l0, q_l1, q_l2, q_l3, q_l4, q_l5, q_l6, q_l8, q_l9, q_l10, q_l12, q_l32, q_l50, q_l120, q_l122, q_l126, q_l372, q_l1000, q_l1000000, q_clsF hL.1, q_n1F hL, q_obF hL, hwy, hrf, t1, hadd]
end
end
