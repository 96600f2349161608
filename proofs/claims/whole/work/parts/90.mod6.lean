section
/-! The model's calls: changes. -/
def z_txt (σ : Nat → Nat → Int) (X : Nat → Int) (L : Nat) : Prop := σ 191 6 = (L : Int) ∧ L ≤ 120 ∧ ∀ i, i < L → σ 195 i = X i ∧ 32 ≤ X i ∧ X i ≤ 126
def z_inv (σ N : Nat → Nat → Int) (R : Nat → Nat → Nat → Int) (c : Nat) (X : Nat → Int) (L : Nat) : Prop := z_n σ N ∧ z_rec σ R c ∧ z_txt σ X L
/-- a call of the model: what it has thrown, what it answers -/
def z_O (r : Option mO) (K : Nat → mK) (e s : Nat) (σ N : Nat → Nat → Int) (R : Nat → Nat → Nat → Int) (c : Nat) (X : Nat → Int) (L : Nat) (th b : Int) : Prop := ∃ τ, r = some (.inl (0, b), (K, τ, 206, e, s)) ∧ τ 191 4 = th ∧ z_inv τ N R c X L ∧ z_fr σ τ
section
variable {Z : mZ} {K : Nat → mK} {σ τ N M : Nat → Nat → Int} {e g i L n c k a p s : Nat} {t q v b x y z w u S : Int} {X : Nat → Int} {h : mH} {R : Nat → Nat → Nat → Int}
theorem z_invF (h : z_inv σ N R c X L) (h2 : τ 192 = σ 192) (h3 : τ 193 = σ 193) (h5 : τ 195 = σ 195) (h13 : τ 191 3 = σ 191 3) (h16 : τ 191 6 = σ 191 6) : z_inv τ N R c X L := by
  obtain ⟨a1, ⟨b1, b2, b3⟩, d1, d2, d3⟩ := h
  exact ⟨z_nF a1 h2, ⟨h13.trans b1, b2, by rw [h3]; exact b3⟩, h16.trans d1, d2, by rw [h5]; exact d3⟩
theorem z_inv4 (h : z_inv σ N R c X L) : z_inv (m_up2 σ 191 4 v) N R c X L := z_invF h (m_up2_ne (by omega)) (m_up2_ne (by omega)) (m_up2_ne (by omega)) (m_up2_nk (by omega)) (m_up2_nk (by omega))
theorem z_ref1 (hL : q_lay K) (hx : w32 x = x) (hp : 1 ≤ x) : m_cl Z 151 [(2, ((191 : Nat) : Int)), (0, x)] (K, σ, 206, e, s) = some (.inl (0, 1), (K, m_up2 σ 191 4 x, 206, e, s)) := by
  rw [z_refused hL hx, if_neg (by clear hx; omega)]
theorem z_ref0 (hL : q_lay K) : m_cl Z 151 [(2, ((191 : Nat) : Int)), (0, 0)] (K, σ, 206, e, s) = some (.inl (0, 0), (K, m_up2 σ 191 4 0, 206, e, s)) := by
  rw [z_refused hL (by decide), if_pos (by decide)]
theorem z_no (h : z_inv σ N R c X L) {r : Option mO} (hr : r = some (.inl (0, 0), (K, m_up2 σ 191 4 t, 206, e, s))) : z_O r K e s σ N R c X L t 0 := ⟨_, hr, m_up2_at, z_inv4 h, z_fr_u z_fr_r (by omega) (by omega)⟩
theorem z_chg (hL : q_lay K) (h : z_inv σ N R c X L) : ∃ τ, m_cl Z 154 [(2, ((191 : Nat) : Int))] (K, m_up2 σ 191 4 0, 206, e, s) = some (.inl (9, 0), (K, τ, 206, e, s)) ∧ z_n τ N ∧ ∀ ω M, q_wf M → z_row (ω 192) M → (∀ a, a ≠ 192 → ω a = τ a) → ω 191 4 = 0 ∧ z_inv ω M (w_pR R c N) (w_pc c) X L ∧ z_fr σ ω := by
  have h0 := z_inv4 (v := 0) h
  obtain ⟨τ, t1, t2, t3, t4⟩ := z_saves (Z := Z) (e := e) (s := s) hL h0.1 h0.2.1
  refine ⟨τ, t1, z_nF h0.1 (t4 192 (by omega) (by omega)), fun ω M m1 m2 m3 => ?_⟩
  obtain ⟨d1, d2, d3⟩ := h0.2.2
  refine ⟨by rw [m3 191 (by omega), t3 4 (by omega), m_up2_at], ⟨⟨m1, m2⟩, ⟨by rw [m3 191 (by omega)]; exact t2.1, t2.2.1, by rw [m3 193 (by omega)]; exact t2.2.2⟩, by rw [m3 191 (by omega), t3 6 (by omega)]; exact d1, d2, by rw [m3 195 (by omega), t4 195 (by omega) (by omega)]; exact d3⟩, fun a ha => by rw [m3 a (by omega), t4 a (by omega) (by omega), m_up2_ne (by omega)]⟩
theorem z_reset (hL : q_lay K) (h : z_inv σ N R c X L) (hx : w32 x = x) : (¬ (1 ≤ x ∧ x ≤ 8) → z_O (m_cl Z 163 [(2, ((191 : Nat) : Int)), (0, x)] (K, σ, 206, e, s)) K e s σ N R c X L 1 0) ∧ (1 ≤ x ∧ x ≤ 8 → z_O (m_cl Z 163 [(2, ((191 : Nat) : Int)), (0, x)] (K, σ, 206, e, s)) K e s σ (o_rs x N) (w_pR R c N) (w_pc c) X L 0 (N 0 0)) := by
  have hw := z_within2 (Z := Z) (h := (K, σ, 206, e, s)) (x := x) (y := 1) (z := 8) hx (by decide) (by decide)
  constructor
  · intro hn
    rw [if_neg hn] at hw
    refine z_no h ?_
    simp only [e_163, b_163_0, b_163_8, b_163_11, b_163_15, b_163_16, b_163_19, b_163_22, b_163_24, b_163_28, b_163_33, b_163_38, ↓reduceIte, Nat.reduceEqDiff, Nat.reduceMul, q_n10, q_n01, Option.bind_some, g_aft0, g_aft1, g_aft2, g_aft3, g_aft9, Nat.reduceAdd, m_kill_0, m_kill_2, m_kill_3, m_kill_4, m_kill_9, true_or, or_true, q_lm1, q_l0, q_l1, q_l2, q_l3, q_l4, q_l5, q_l6, q_l8, q_l9, q_l10, q_l12, q_l17, q_l32, q_l35, q_l48, q_l50, q_l54, q_l57, q_l64, q_l73, q_l118, q_l119, q_l120, q_l122, q_l126, q_l160, q_l256, q_l365, q_l372, q_l438, q_l1000, q_l100000, q_l1000000, q_modF hL.2.2.2.2.2.2.1, hw, z_ref1 hL (x := 1) (by decide) (by decide)]
  · intro hn
    rw [if_pos hn] at hw
    obtain ⟨τ, t1, t2, t3⟩ := z_chg (Z := Z) (e := e) (s := s) hL h
    obtain ⟨ω, o1, o2, o3⟩ := z_begins (Z := Z) (e := e) (s := s) (σ := τ) hL hn.1 hn.2
    have hm := z_many (Z := Z) (e := e) (s := s) hL (z_inv4 (v := 0) h).1
    refine ⟨ω, ?_, t3 ω (o_rs x N) (wf_rs h.1.1 hn.1 hn.2) (o2 N) o3⟩
    simp only [e_163, b_163_0, b_163_8, b_163_11, b_163_15, b_163_16, b_163_19, b_163_22, b_163_24, b_163_28, b_163_33, b_163_38, ↓reduceIte, Nat.reduceEqDiff, Nat.reduceMul, q_n10, q_n01, Option.bind_some, g_aft0, g_aft1, g_aft2, g_aft3, g_aft9, Nat.reduceAdd, m_kill_0, m_kill_2, m_kill_3, m_kill_4, m_kill_9, true_or, or_true, q_lm1, q_l0, q_l1, q_l2, q_l3, q_l4, q_l5, q_l6, q_l8, q_l9, q_l10, q_l12, q_l17, q_l32, q_l35, q_l48, q_l50, q_l54, q_l57, q_l64, q_l73, q_l118, q_l119, q_l120, q_l122, q_l126, q_l160, q_l256, q_l365, q_l372, q_l438, q_l1000, q_l100000, q_l1000000, q_modF hL.2.2.2.2.2.2.1, hw, z_ref0 hL, hm, t1, o1]
theorem z_connect (hL : q_lay K) (h : z_inv σ N R c X L) (hx : w32 x = x) (hy : w32 y = y) (hz : w32 z = z) : (y_cn N x y z ≠ 0 → z_O (m_cl Z 167 [(2, ((191 : Nat) : Int)), (0, x), (0, y), (0, z)] (K, σ, 206, e, s)) K e s σ N R c X L (y_cn N x y z) 0) ∧ (y_cn N x y z = 0 → z_O (m_cl Z 167 [(2, ((191 : Nat) : Int)), (0, x), (0, y), (0, z)] (K, σ, 206, e, s)) K e s σ (o_cn x y z N) (w_pR R c N) (w_pc c) X L 0 (w_ne N : Int)) := by
  have hn := z_needC (Z := Z) (e := e) (s := s) hL h.1 hx hy hz
  constructor
  · intro h0
    have hr := y_cn_r (N := N) (a := x) (b := y) (l := z)
    have wr : w32 (y_cn N x y z) = y_cn N x y z := by rcases hr with hr | hr | hr | hr <;> rw [hr] <;> decide
    refine z_no h ?_
    simp only [e_167, b_167_0, b_167_8, b_167_11, b_167_14, b_167_16, b_167_20, b_167_27, ↓reduceIte, Nat.reduceEqDiff, Nat.reduceMul, q_n10, q_n01, Option.bind_some, g_aft0, g_aft1, g_aft2, g_aft3, g_aft9, Nat.reduceAdd, m_kill_0, m_kill_2, m_kill_3, m_kill_4, m_kill_9, true_or, or_true, q_lm1, q_l0, q_l1, q_l2, q_l3, q_l4, q_l5, q_l6, q_l8, q_l9, q_l10, q_l12, q_l17, q_l32, q_l35, q_l48, q_l50, q_l54, q_l57, q_l64, q_l73, q_l118, q_l119, q_l120, q_l122, q_l126, q_l160, q_l256, q_l365, q_l372, q_l438, q_l1000, q_l100000, q_l1000000, q_modF hL.2.2.2.2.2.2.1, hn, z_ref1 hL wr (by clear hx hy hz hn wr; omega)]
  · intro h0
    rw [h0] at hn
    obtain ⟨q1, q2, q3, q5, hj⟩ := y_cn0 h.1.1 h0
    obtain ⟨τ, t1, t2, t3⟩ := z_chg (Z := Z) (e := e) (s := s) hL h
    have hc := z_connects (Z := Z) (e := e) (s := s) (x := x) (y := y) (z := z) hL t2.2 h.1.1 q5
    refine ⟨_, ?_, t3 _ (o_cn x y z N) (wf_cn h.1.1 q5 q1.1 q1.2 q2.1 q2.2 (fun q => q3 (Or.inl q)) (by clear hx hy hz hn; omega) (by clear hx hy hz hn; omega) hj) (by rw [q_put_at]; exact z_row_cn t2.2 (wf_n h.1.1).2.2 q5) (fun a ha => q_put_ne ha)⟩
    simp only [e_167, b_167_0, b_167_8, b_167_11, b_167_14, b_167_16, b_167_20, b_167_27, ↓reduceIte, Nat.reduceEqDiff, Nat.reduceMul, q_n10, q_n01, Option.bind_some, g_aft0, g_aft1, g_aft2, g_aft3, g_aft9, Nat.reduceAdd, m_kill_0, m_kill_2, m_kill_3, m_kill_4, m_kill_9, true_or, or_true, q_lm1, q_l0, q_l1, q_l2, q_l3, q_l4, q_l5, q_l6, q_l8, q_l9, q_l10, q_l12, q_l17, q_l32, q_l35, q_l48, q_l50, q_l54, q_l57, q_l64, q_l73, q_l118, q_l119, q_l120, q_l122, q_l126, q_l160, q_l256, q_l365, q_l372, q_l438, q_l1000, q_l100000, q_l1000000, q_modF hL.2.2.2.2.2.2.1, hn, z_ref0 hL, t1, hc]
theorem z_disconnect (hL : q_lay K) (h : z_inv σ N R c X L) (hx : w32 x = x) : (¬ (0 ≤ x ∧ x < N 0 1) → z_O (m_cl Z 170 [(2, ((191 : Nat) : Int)), (0, x)] (K, σ, 206, e, s)) K e s σ N R c X L 1 0) ∧ (0 ≤ x ∧ x < N 0 1 → z_O (m_cl Z 170 [(2, ((191 : Nat) : Int)), (0, x)] (K, σ, 206, e, s)) K e s σ (o_ds x.toNat N) (w_pR R c N) (w_pc c) X L 0 (w_rms x.toNat (w_ns N) (N, 0)).2) := by
  have hw := z_isEdge (Z := Z) (e := e) (s := s) hL h.1 hx
  have hne := wf_e h.1.1
  constructor
  · intro hn
    rw [if_neg hn] at hw
    refine z_no h ?_
    simp only [e_170, b_170_0, b_170_6, b_170_9, b_170_13, b_170_14, b_170_17, b_170_20, b_170_22, b_170_26, b_170_31, ↓reduceIte, Nat.reduceEqDiff, Nat.reduceMul, q_n10, q_n01, Option.bind_some, g_aft0, g_aft1, g_aft2, g_aft3, g_aft9, Nat.reduceAdd, m_kill_0, m_kill_2, m_kill_3, m_kill_4, m_kill_9, true_or, or_true, q_lm1, q_l0, q_l1, q_l2, q_l3, q_l4, q_l5, q_l6, q_l8, q_l9, q_l10, q_l12, q_l17, q_l32, q_l35, q_l48, q_l50, q_l54, q_l57, q_l64, q_l73, q_l118, q_l119, q_l120, q_l122, q_l126, q_l160, q_l256, q_l365, q_l372, q_l438, q_l1000, q_l100000, q_l1000000, q_modF hL.2.2.2.2.2.2.1, hw, z_ref1 hL (x := 1) (by decide) (by decide)]
  · intro hn
    rw [if_pos hn] at hw
    have ex : ((x.toNat : Nat) : Int) = x := by clear hx hw; omega
    have hg : x.toNat < w_ne N := by clear hx hw; omega
    obtain ⟨τ, t1, t2, t3⟩ := z_chg (Z := Z) (e := e) (s := s) hL h
    obtain ⟨ω, o1, o2, o3⟩ := z_dropE (Z := Z) (e := e) (s := s) (σ := τ) hL t2.2 h.1.1 hg
    rw [ex] at o1
    refine ⟨ω, ?_, t3 ω (o_ds x.toNat N) (wf_ds h.1.1 hg) o2 o3⟩
    simp only [e_170, b_170_0, b_170_6, b_170_9, b_170_13, b_170_14, b_170_17, b_170_20, b_170_22, b_170_26, b_170_31, ↓reduceIte, Nat.reduceEqDiff, Nat.reduceMul, q_n10, q_n01, Option.bind_some, g_aft0, g_aft1, g_aft2, g_aft3, g_aft9, Nat.reduceAdd, m_kill_0, m_kill_2, m_kill_3, m_kill_4, m_kill_9, true_or, or_true, q_lm1, q_l0, q_l1, q_l2, q_l3, q_l4, q_l5, q_l6, q_l8, q_l9, q_l10, q_l12, q_l17, q_l32, q_l35, q_l48, q_l50, q_l54, q_l57, q_l64, q_l73, q_l118, q_l119, q_l120, q_l122, q_l126, q_l160, q_l256, q_l365, q_l372, q_l438, q_l1000, q_l100000, q_l1000000, q_modF hL.2.2.2.2.2.2.1, hw, z_ref0 hL, t1, o1]
theorem z_setW (hL : q_lay K) (h : z_inv σ N R c X L) (hx : w32 x = x) (hy : w32 y = y) : (y_sv N x y ≠ 0 → z_O (m_cl Z 172 [(2, ((191 : Nat) : Int)), (0, x), (0, y)] (K, σ, 206, e, s)) K e s σ N R c X L (y_sv N x y) 0) ∧ (y_sv N x y = 0 → z_O (m_cl Z 172 [(2, ((191 : Nat) : Int)), (0, x), (0, y)] (K, σ, 206, e, s)) K e s σ (m_up2 N 2 x.toNat y) (w_pR R c N) (w_pc c) X L 0 (N 2 x.toNat)) := by
  have hn := z_needS (Z := Z) (e := e) (s := s) hL h.1 hx hy
  constructor
  · intro h0
    have hr := y_sv_r (N := N) (a := x) (b := y)
    have wr : w32 (y_sv N x y) = y_sv N x y := by rcases hr with hr | hr | hr | hr <;> rw [hr] <;> decide
    refine z_no h ?_
    simp only [e_172, b_172_0, b_172_7, b_172_10, b_172_13, b_172_15, b_172_28, ↓reduceIte, Nat.reduceEqDiff, Nat.reduceMul, q_n10, q_n01, Option.bind_some, g_aft0, g_aft1, g_aft2, g_aft3, g_aft9, Nat.reduceAdd, m_kill_0, m_kill_2, m_kill_3, m_kill_4, m_kill_9, true_or, or_true, q_lm1, q_l0, q_l1, q_l2, q_l3, q_l4, q_l5, q_l6, q_l8, q_l9, q_l10, q_l12, q_l17, q_l32, q_l35, q_l48, q_l50, q_l54, q_l57, q_l64, q_l73, q_l118, q_l119, q_l120, q_l122, q_l126, q_l160, q_l256, q_l365, q_l372, q_l438, q_l1000, q_l100000, q_l1000000, q_modF hL.2.2.2.2.2.2.1, hn, z_ref1 hL wr (by clear hx hy hn wr; omega)]
  · intro h0
    rw [h0] at hn
    obtain ⟨q1, q2, q3⟩ := y_sv0 h0
    have h8 := h.1.1.1
    have hnn := wf_n h.1.1
    have hi : x.toNat < 8 := by clear hx hy hn; omega
    obtain ⟨τ, t1, t2, t3⟩ := z_chg (Z := Z) (e := e) (s := s) hL h
    obtain ⟨i1, i2, i3⟩ := z_ix (x := 1 + x) (m := 1 + x.toNat) (L' := 73) (by clear hx hy hn; omega) (by clear hx hy hn; omega) (by omega)
    have hv : m_up2 σ 191 4 0 192 (1 + x.toNat) = N 2 x.toNat := by rw [m_up2_ne (by omega)]; exact (h.1.2.2.1 x.toNat (by clear hx hy hn i1 i2 i3; omega)).1
    refine ⟨_, ?_, t3 (q_put τ 192 (m_up (τ 192) (1 + x.toNat) y)) _ (wf_wt h.1.1 hi q2 q3).1 (by rw [q_put_at]; exact (z_row_wt t2.2 hnn.2.2 hi).1) (fun a ha => q_put_ne ha)⟩
    rw [← q_up_put]
    simp only [e_172, b_172_0, b_172_7, b_172_10, b_172_13, b_172_15, b_172_28, ↓reduceIte, Nat.reduceEqDiff, Nat.reduceMul, q_n10, q_n01, Option.bind_some, g_aft0, g_aft1, g_aft2, g_aft3, g_aft9, Nat.reduceAdd, m_kill_0, m_kill_2, m_kill_3, m_kill_4, m_kill_9, true_or, or_true, q_lm1, q_l0, q_l1, q_l2, q_l3, q_l4, q_l5, q_l6, q_l8, q_l9, q_l10, q_l12, q_l17, q_l32, q_l35, q_l48, q_l50, q_l54, q_l57, q_l64, q_l73, q_l118, q_l119, q_l120, q_l122, q_l126, q_l160, q_l256, q_l365, q_l372, q_l438, q_l1000, q_l100000, q_l1000000, q_modF hL.2.2.2.2.2.2.1, hn, z_ref0 hL, i1, i2, i3, hv, t1]
theorem z_setT (hL : q_lay K) (h : z_inv σ N R c X L) (hx : w32 x = x) (hy : w32 y = y) : (y_sv N x y ≠ 0 → z_O (m_cl Z 173 [(2, ((191 : Nat) : Int)), (0, x), (0, y)] (K, σ, 206, e, s)) K e s σ N R c X L (y_sv N x y) 0) ∧ (y_sv N x y = 0 → z_O (m_cl Z 173 [(2, ((191 : Nat) : Int)), (0, x), (0, y)] (K, σ, 206, e, s)) K e s σ (m_up2 N 4 x.toNat y) (w_pR R c N) (w_pc c) X L 0 (N 4 x.toNat)) := by
  have hn := z_needS (Z := Z) (e := e) (s := s) hL h.1 hx hy
  constructor
  · intro h0
    have hr := y_sv_r (N := N) (a := x) (b := y)
    have wr : w32 (y_sv N x y) = y_sv N x y := by rcases hr with hr | hr | hr | hr <;> rw [hr] <;> decide
    refine z_no h ?_
    simp only [e_173, b_173_0, b_173_7, b_173_10, b_173_13, b_173_15, b_173_29, ↓reduceIte, Nat.reduceEqDiff, Nat.reduceMul, q_n10, q_n01, Option.bind_some, g_aft0, g_aft1, g_aft2, g_aft3, g_aft9, Nat.reduceAdd, m_kill_0, m_kill_2, m_kill_3, m_kill_4, m_kill_9, true_or, or_true, q_lm1, q_l0, q_l1, q_l2, q_l3, q_l4, q_l5, q_l6, q_l8, q_l9, q_l10, q_l12, q_l17, q_l32, q_l35, q_l48, q_l50, q_l54, q_l57, q_l64, q_l73, q_l118, q_l119, q_l120, q_l122, q_l126, q_l160, q_l256, q_l365, q_l372, q_l438, q_l1000, q_l100000, q_l1000000, q_modF hL.2.2.2.2.2.2.1, hn, z_ref1 hL wr (by clear hx hy hn wr; omega)]
  · intro h0
    rw [h0] at hn
    obtain ⟨q1, q2, q3⟩ := y_sv0 h0
    have h8 := h.1.1.1
    have hnn := wf_n h.1.1
    have hi : x.toNat < 8 := by clear hx hy hn; omega
    obtain ⟨τ, t1, t2, t3⟩ := z_chg (Z := Z) (e := e) (s := s) hL h
    obtain ⟨i1, i2, i3⟩ := z_ix (x := 9 + x) (m := 9 + x.toNat) (L' := 73) (by clear hx hy hn; omega) (by clear hx hy hn; omega) (by omega)
    have hv : m_up2 σ 191 4 0 192 (9 + x.toNat) = N 4 x.toNat := by rw [m_up2_ne (by omega)]; exact (h.1.2.2.1 x.toNat (by clear hx hy hn i1 i2 i3; omega)).2
    refine ⟨_, ?_, t3 (q_put τ 192 (m_up (τ 192) (9 + x.toNat) y)) _ (wf_wt h.1.1 hi q2 q3).2 (by rw [q_put_at]; exact (z_row_wt t2.2 hnn.2.2 hi).2) (fun a ha => q_put_ne ha)⟩
    rw [← q_up_put]
    simp only [e_173, b_173_0, b_173_7, b_173_10, b_173_13, b_173_15, b_173_29, ↓reduceIte, Nat.reduceEqDiff, Nat.reduceMul, q_n10, q_n01, Option.bind_some, g_aft0, g_aft1, g_aft2, g_aft3, g_aft9, Nat.reduceAdd, m_kill_0, m_kill_2, m_kill_3, m_kill_4, m_kill_9, true_or, or_true, q_lm1, q_l0, q_l1, q_l2, q_l3, q_l4, q_l5, q_l6, q_l8, q_l9, q_l10, q_l12, q_l17, q_l32, q_l35, q_l48, q_l50, q_l54, q_l57, q_l64, q_l73, q_l118, q_l119, q_l120, q_l122, q_l126, q_l160, q_l256, q_l365, q_l372, q_l438, q_l1000, q_l100000, q_l1000000, q_modF hL.2.2.2.2.2.2.1, hn, z_ref0 hL, i1, i2, i3, hv, t1]
theorem z_forbid (hL : q_lay K) (h : z_inv σ N R c X L) (hx : w32 x = x) (hy : w32 y = y) (hz : w32 z = z) : (y_fb N x y z ≠ 0 → z_O (m_cl Z 176 [(2, ((191 : Nat) : Int)), (0, x), (0, y), (0, z)] (K, σ, 206, e, s)) K e s σ N R c X L (y_fb N x y z) 0) ∧ (y_fb N x y z = 0 → z_O (m_cl Z 176 [(2, ((191 : Nat) : Int)), (0, x), (0, y), (0, z)] (K, σ, 206, e, s)) K e s σ (o_fb x y z N) (w_pR R c N) (w_pc c) X L 0 (w_ns N : Int)) := by
  have hn := z_needF (Z := Z) (e := e) (s := s) hL h.1 hx hy hz
  constructor
  · intro h0
    have hr := y_fb_r (N := N) (a := x) (b := y) (l := z)
    have wr : w32 (y_fb N x y z) = y_fb N x y z := by rcases hr with hr | hr | hr | hr <;> rw [hr] <;> decide
    refine z_no h ?_
    simp only [e_176, b_176_0, b_176_8, b_176_11, b_176_14, b_176_16, b_176_20, b_176_27, ↓reduceIte, Nat.reduceEqDiff, Nat.reduceMul, q_n10, q_n01, Option.bind_some, g_aft0, g_aft1, g_aft2, g_aft3, g_aft9, Nat.reduceAdd, m_kill_0, m_kill_2, m_kill_3, m_kill_4, m_kill_9, true_or, or_true, q_lm1, q_l0, q_l1, q_l2, q_l3, q_l4, q_l5, q_l6, q_l8, q_l9, q_l10, q_l12, q_l17, q_l32, q_l35, q_l48, q_l50, q_l54, q_l57, q_l64, q_l73, q_l118, q_l119, q_l120, q_l122, q_l126, q_l160, q_l256, q_l365, q_l372, q_l438, q_l1000, q_l100000, q_l1000000, q_modF hL.2.2.2.2.2.2.1, hn, z_ref1 hL wr (by clear hx hy hz hn wr; omega)]
  · intro h0
    rw [h0] at hn
    obtain ⟨q1, q2, q3, q4, q5⟩ := y_fb0 h0
    have hns := wf_s h.1.1
    have h6 : w_ns N < 6 := by clear hx hy hz hn; omega
    obtain ⟨τ, t1, t2, t3⟩ := z_chg (Z := Z) (e := e) (s := s) hL h
    have hc := z_forbids (Z := Z) (e := e) (s := s) (x := x) (y := y) (z := z) hL t2.2 h.1.1 h6
    refine ⟨_, ?_, t3 _ (o_fb x y z N) (wf_fb h.1.1 h6 q1.1 q1.2 q2 q3 q4) (by rw [q_put_at]; exact z_row_fb t2.2 (wf_n h.1.1).2.2 (wf_e h.1.1).2 h6) (fun a ha => q_put_ne ha)⟩
    simp only [e_176, b_176_0, b_176_8, b_176_11, b_176_14, b_176_16, b_176_20, b_176_27, ↓reduceIte, Nat.reduceEqDiff, Nat.reduceMul, q_n10, q_n01, Option.bind_some, g_aft0, g_aft1, g_aft2, g_aft3, g_aft9, Nat.reduceAdd, m_kill_0, m_kill_2, m_kill_3, m_kill_4, m_kill_9, true_or, or_true, q_lm1, q_l0, q_l1, q_l2, q_l3, q_l4, q_l5, q_l6, q_l8, q_l9, q_l10, q_l12, q_l17, q_l32, q_l35, q_l48, q_l50, q_l54, q_l57, q_l64, q_l73, q_l118, q_l119, q_l120, q_l122, q_l126, q_l160, q_l256, q_l365, q_l372, q_l438, q_l1000, q_l100000, q_l1000000, q_modF hL.2.2.2.2.2.2.1, hn, z_ref0 hL, t1, hc]
theorem z_allow (hL : q_lay K) (h : z_inv σ N R c X L) (hx : w32 x = x) : (¬ (0 ≤ x ∧ x < N 0 2) → z_O (m_cl Z 177 [(2, ((191 : Nat) : Int)), (0, x)] (K, σ, 206, e, s)) K e s σ N R c X L 1 0) ∧ (0 ≤ x ∧ x < N 0 2 → z_O (m_cl Z 177 [(2, ((191 : Nat) : Int)), (0, x)] (K, σ, 206, e, s)) K e s σ (w_rmS x.toNat N) (w_pR R c N) (w_pc c) X L 0 (N 12 x.toNat)) := by
  have hs := z_smany (Z := Z) (e := e) (s := s) hL h.1
  have hw := z_isStr (Z := Z) (K := K) (e := e) (s := s) h.1 hx
  have hns := wf_s h.1.1
  constructor
  · intro hn
    rw [if_neg hn] at hw
    refine z_no h ?_
    simp only [e_177, b_177_0, b_177_7, b_177_12, b_177_15, b_177_19, b_177_20, b_177_23, b_177_26, b_177_28, b_177_34, b_177_39, b_177_44, ↓reduceIte, Nat.reduceEqDiff, Nat.reduceMul, q_n10, q_n01, Option.bind_some, g_aft0, g_aft1, g_aft2, g_aft3, g_aft9, Nat.reduceAdd, m_kill_0, m_kill_2, m_kill_3, m_kill_4, m_kill_9, true_or, or_true, q_lm1, q_l0, q_l1, q_l2, q_l3, q_l4, q_l5, q_l6, q_l8, q_l9, q_l10, q_l12, q_l17, q_l32, q_l35, q_l48, q_l50, q_l54, q_l57, q_l64, q_l73, q_l118, q_l119, q_l120, q_l122, q_l126, q_l160, q_l256, q_l365, q_l372, q_l438, q_l1000, q_l100000, q_l1000000, q_modF hL.2.2.2.2.2.2.1, hs, hw, z_ref1 hL (x := 1) (by decide) (by decide)]
  · intro hn
    rw [if_pos hn] at hw
    have ex : ((x.toNat : Nat) : Int) = x := by clear hx hw; omega
    have hg : x.toNat < w_ns N := by clear hx hw; omega
    obtain ⟨τ, t1, t2, t3⟩ := z_chg (Z := Z) (e := e) (s := s) hL h
    have ha := (z_at (Z := Z) (e := e) (s := s) hL (z_inv4 (v := 0) h).1 hg).1
    have hd := z_drop (Z := Z) (σ := τ) (e := e) (s := s) (p := x.toNat) (m := w_ns N) hL (t2.2.1.2.2.trans hns.1) hg hns.2
    rw [ex] at ha hd
    refine ⟨_, ?_, t3 _ (w_rmS x.toNat N) (wf_al h.1.1 hg) (by rw [q_put_at]; exact z_row_rm t2.2 (wf_n h.1.1).2.2 (wf_e h.1.1).2 hns.2 hg hns.1) (fun a ha => q_put_ne ha)⟩
    simp only [e_177, b_177_0, b_177_7, b_177_12, b_177_15, b_177_19, b_177_20, b_177_23, b_177_26, b_177_28, b_177_34, b_177_39, b_177_44, ↓reduceIte, Nat.reduceEqDiff, Nat.reduceMul, q_n10, q_n01, Option.bind_some, g_aft0, g_aft1, g_aft2, g_aft3, g_aft9, Nat.reduceAdd, m_kill_0, m_kill_2, m_kill_3, m_kill_4, m_kill_9, true_or, or_true, q_lm1, q_l0, q_l1, q_l2, q_l3, q_l4, q_l5, q_l6, q_l8, q_l9, q_l10, q_l12, q_l17, q_l32, q_l35, q_l48, q_l50, q_l54, q_l57, q_l64, q_l73, q_l118, q_l119, q_l120, q_l122, q_l126, q_l160, q_l256, q_l365, q_l372, q_l438, q_l1000, q_l100000, q_l1000000, q_modF hL.2.2.2.2.2.2.1, hs, hw, z_ref0 hL, ha, t1, hd]
theorem z_undo (hL : q_lay K) (h : z_inv σ N R c X L) : (c = 0 → z_O (m_cl Z 155 [(2, ((191 : Nat) : Int))] (K, σ, 206, e, s)) K e s σ N R c X L 1 0) ∧ (c ≠ 0 → z_O (m_cl Z 155 [(2, ((191 : Nat) : Int))] (K, σ, 206, e, s)) K e s σ (R (c - 1)) R (c - 1) X L 0 ((c - 1 : Nat) : Int)) := by
  obtain ⟨r1, r2, r3⟩ := h.2.1
  have wc : w32 (c : Int) = (c : Int) := q_w (by omega)
  constructor
  · intro h0
    have c1 : (c : Int) = 0 := by clear wc; omega
    refine z_no h ?_
    simp only [e_155, b_155_0, b_155_8, b_155_12, b_155_13, b_155_16, b_155_19, b_155_21, b_155_39, b_155_65, ↓reduceIte, Nat.reduceEqDiff, Nat.reduceMul, q_n10, q_n01, Option.bind_some, g_aft0, g_aft1, g_aft2, g_aft3, g_aft9, Nat.reduceAdd, m_kill_0, m_kill_2, m_kill_3, m_kill_4, m_kill_9, true_or, or_true, q_lm1, q_l0, q_l1, q_l2, q_l3, q_l4, q_l5, q_l6, q_l8, q_l9, q_l10, q_l12, q_l17, q_l32, q_l35, q_l48, q_l50, q_l54, q_l57, q_l64, q_l73, q_l118, q_l119, q_l120, q_l122, q_l126, q_l160, q_l256, q_l365, q_l372, q_l438, q_l1000, q_l100000, q_l1000000, q_modF hL.2.2.2.2.2.2.1, r1, wc, c1, z_ref1 hL (x := 1) (by decide) (by decide)]
  · intro h0
    have c1 : ¬ (c : Int) = 0 := by clear wc; omega
    obtain ⟨d, hd⟩ : ∃ d, d = c - 1 := ⟨_, rfl⟩
    have e1 : (c : Int) - 1 = ((d : Nat) : Int) := by clear wc; omega
    have hd6 : d < 6 := by clear wc; omega
    rw [← hd]
    obtain ⟨ρ, hρ⟩ : ∃ ρ, ρ = m_up2 (m_up2 σ 191 4 0) 191 3 ((d : Nat) : Int) := ⟨_, rfl⟩
    have p3 : ρ 191 3 = ((d : Nat) : Int) := by rw [hρ, m_up2_at]
    have p193 : ρ 193 = σ 193 := by rw [hρ, m_up2_ne (by omega), m_up2_ne (by omega)]
    have lp := q_loopf (Z := Z) (N := 73) (S := fun i => (155, 33, [(2, ((191 : Nat) : Int)), (0, (i : Int))], [], (K, q_fill ρ 192 i (fun j => σ 193 (73 * d + j)), 206, e, s))) (by
      intro i hi
      have wi : w32 (i : Int) = (i : Int) := q_w (by clear wc; omega)
      have w2 : w32 (73 * ((d : Nat) : Int) + (i : Int)) = 73 * ((d : Nat) : Int) + (i : Int) := by clear wi wc; exact q_wi (by omega) (by omega)
      have c0 : ¬ (73 : Int) ≤ (i : Int) := by clear wi w2 wc; omega
      have p0 : 0 ≤ (i : Int) := by clear wi w2 wc; omega
      have p1 : (i : Int) < ((73 : Nat) : Int) := by clear wi w2 wc; omega
      have p2 : 0 ≤ 73 * ((d : Nat) : Int) + (i : Int) := by clear wi w2 wc; omega
      have p4 : 73 * ((d : Nat) : Int) + (i : Int) < ((438 : Nat) : Int) := by clear wi w2 wc; omega
      have tn : ((i : Int)).toNat = i := rfl
      have t2 : (73 * ((d : Nat) : Int) + (i : Int)).toNat = 73 * d + i := by clear wi w2 wc; omega
      have ei : ((i + 1 : Nat) : Int) = (i : Int) + 1 := rfl
      have h3 : q_fill ρ 192 i (fun j => σ 193 (73 * d + j)) 191 3 = ((d : Nat) : Int) := by rw [q_fill_ne (by omega)]; exact p3
      have hv : q_fill ρ 192 i (fun j => σ 193 (73 * d + j)) 193 (73 * d + i) = σ 193 (73 * d + i) := by rw [q_fill_ne (by omega), p193]
      rw [ei, ← q_fill_s ρ 192 i]
      conv => lhs; simp only [b_155_33, ↓reduceIte, Nat.reduceEqDiff, Nat.reduceMul, q_n10, q_n01, Option.bind_some, g_aft0, g_aft1, g_aft2, g_aft3, g_aft9, Nat.reduceAdd, m_kill_0, m_kill_2, m_kill_3, m_kill_4, m_kill_9, true_or, or_true, q_lm1, q_l0, q_l1, q_l2, q_l3, q_l4, q_l5, q_l6, q_l8, q_l9, q_l10, q_l12, q_l17, q_l32, q_l35, q_l48, q_l50, q_l54, q_l57, q_l64, q_l73, q_l118, q_l119, q_l120, q_l122, q_l126, q_l160, q_l256, q_l365, q_l372, q_l438, q_l1000, q_l100000, q_l1000000, wi, c0]
      simp only [b_155_39, ↓reduceIte, Nat.reduceEqDiff, Nat.reduceMul, q_n10, q_n01, Option.bind_some, g_aft0, g_aft1, g_aft2, g_aft3, g_aft9, Nat.reduceAdd, m_kill_0, m_kill_2, m_kill_3, m_kill_4, m_kill_9, true_or, or_true, q_lm1, q_l0, q_l1, q_l2, q_l3, q_l4, q_l5, q_l6, q_l8, q_l9, q_l10, q_l12, q_l17, q_l32, q_l35, q_l48, q_l50, q_l54, q_l57, q_l64, q_l73, q_l118, q_l119, q_l120, q_l122, q_l126, q_l160, q_l256, q_l365, q_l372, q_l438, q_l1000, q_l100000, q_l1000000, q_modF hL.2.2.2.2.2.2.1, wi, h3, w2, p0, p1, p2, p4, tn, t2, hv])
    have w73 : w32 ((73 : Nat) : Int) = 73 := by decide
    have w73' : w32 73 = 73 := by decide
    have e0 : q_fill ρ 192 0 (fun j => σ 193 (73 * d + j)) = ρ := q_fill_0 _ _ _
    rw [e0] at lp
    have h3 : q_fill ρ 192 73 (fun j => σ 193 (73 * d + j)) 191 3 = ((d : Nat) : Int) := by rw [q_fill_ne (by omega)]; exact p3
    obtain ⟨x1, x2, x3⟩ := h.2.2
    have hrd := r3 d (by clear wc; omega)
    refine ⟨q_fill ρ 192 73 (fun j => σ 193 (73 * d + j)), ?_, ?_, ⟨⟨hrd.1, z_row_congr hrd.1 hrd.2 (fun j hj => q_fill_at hj)⟩, ⟨h3, by clear wc; omega, fun i hi => ⟨(r3 i (by clear wc; omega)).1, ?_⟩⟩, ?_, x2, ?_⟩, ?_⟩
    · rw [e_155]
      have k3 : m_up2 σ 191 4 0 191 3 = (c : Int) := by rw [m_up2_nk (by omega)]; exact r1
      simp only [b_155_0, b_155_12, b_155_13, b_155_16, b_155_21, ↓reduceIte, Nat.reduceEqDiff, Nat.reduceMul, q_n10, q_n01, Option.bind_some, g_aft0, g_aft1, g_aft2, g_aft3, g_aft9, Nat.reduceAdd, m_kill_0, m_kill_2, m_kill_3, m_kill_4, m_kill_9, true_or, or_true, q_lm1, q_l0, q_l1, q_l2, q_l3, q_l4, q_l5, q_l6, q_l8, q_l9, q_l10, q_l12, q_l17, q_l32, q_l35, q_l48, q_l50, q_l54, q_l57, q_l64, q_l73, q_l118, q_l119, q_l120, q_l122, q_l126, q_l160, q_l256, q_l365, q_l372, q_l438, q_l1000, q_l100000, q_l1000000, q_modF hL.2.2.2.2.2.2.1, r1, wc, c1, z_ref0 hL, k3, e1]
      rw [← hρ]
      refine Eq.trans lp ?_
      conv => lhs; simp only [b_155_33, ↓reduceIte, Nat.reduceEqDiff, Nat.reduceMul, q_n10, q_n01, Option.bind_some, g_aft0, g_aft1, g_aft2, g_aft3, g_aft9, Nat.reduceAdd, m_kill_0, m_kill_2, m_kill_3, m_kill_4, m_kill_9, true_or, or_true, q_lm1, q_l0, q_l1, q_l2, q_l3, q_l4, q_l5, q_l6, q_l8, q_l9, q_l10, q_l12, q_l17, q_l32, q_l35, q_l48, q_l50, q_l54, q_l57, q_l64, q_l73, q_l118, q_l119, q_l120, q_l122, q_l126, q_l160, q_l256, q_l365, q_l372, q_l438, q_l1000, q_l100000, q_l1000000, w73, w73', Int.le_refl]
      simp only [b_155_65, ↓reduceIte, Nat.reduceEqDiff, Nat.reduceMul, q_n10, q_n01, Option.bind_some, g_aft0, g_aft1, g_aft2, g_aft3, g_aft9, Nat.reduceAdd, m_kill_0, m_kill_2, m_kill_3, m_kill_4, m_kill_9, true_or, or_true, q_lm1, q_l0, q_l1, q_l2, q_l3, q_l4, q_l5, q_l6, q_l8, q_l9, q_l10, q_l12, q_l17, q_l32, q_l35, q_l48, q_l50, q_l54, q_l57, q_l64, q_l73, q_l118, q_l119, q_l120, q_l122, q_l126, q_l160, q_l256, q_l365, q_l372, q_l438, q_l1000, q_l100000, q_l1000000, q_modF hL.2.2.2.2.2.2.1, h3]
    · rw [q_fill_ne (by omega), hρ, m_up2_nk (by omega), m_up2_at]
    · rw [q_fill_ne (by omega), p193]; exact (r3 i (by clear wc; omega)).2
    · rw [q_fill_ne (by omega), hρ, m_up2_nk (by omega), m_up2_nk (by omega)]; exact x1
    · rw [q_fill_ne (by omega), hρ, m_up2_ne (by omega), m_up2_ne (by omega)]; exact x3
    · intro a ha
      rw [q_fill_ne (by omega), hρ, m_up2_ne (by omega), m_up2_ne (by omega)]
end
end
