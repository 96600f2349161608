section
/-! The law's calls in the world of one object (by program: wip/p38/gencalls.py). -/
/-- the heap holds the object: network N, records R (c of them), turns, exceptions and slots bounded by j -/
def l_S (K : Nat → mK) (h : mH) (N : Nat → Nat → Int) (R : Nat → Nat → Nat → Int) (c j : Nat) : Prop := ∃ (σ : Nat → Nat → Int) (e s : Nat) (X : Nat → Int), h = (K, σ, 191, e, s) ∧ w_ic σ N R c X 0 j ∧ e ≤ j ∧ s ≤ 4785 + 6 * j
/-- a call that answers v -/
def l_C (K : Nat → mK) (o : Option mO) (v : Int) (N : Nat → Nat → Int) (R : Nat → Nat → Nat → Int) (c j : Nat) : Prop := ∃ h, o = some (.inl (0, v), h) ∧ l_S K h N R c j
section
variable {Z : mZ} {K : Nat → mK} {σ τ N M : Nat → Nat → Int} {R : Nat → Nat → Nat → Int} {e s g i L n c k j : Nat} {t p q v b x y z w u S : Int} {X : Nat → Int} {h : mH} {W : Option mO}
theorem w_icK {m : Nat} (h : w_ic σ N R c X L k) (hm : k ≤ m) : w_ic σ N R c X L m := ⟨h.1, h.2.1, h.2.2.1, h.2.2.2.1, by have := h.2.2.2.2.1; omega, h.2.2.2.2.2⟩
theorem l_Sm {m : Nat} (w : l_S K h N R c j) (hm : j ≤ m) : l_S K h N R c m := by
  obtain ⟨σ, e, s, X, rfl, i, he, hs⟩ := w
  exact ⟨σ, e, s, X, rfl, w_icK i hm, by omega, by omega⟩
theorem l_Sw (w : l_S K h N R c j) : q_wf N := by
  obtain ⟨σ, e, s, X, rfl, i, he, hs⟩ := w
  exact i.1.1
theorem l_Cok (hW : W = some (.inl (0, v), (K, τ, 191, e, s))) (hi : w_ic τ N R c X 0 k) (hk : k ≤ j + 1) (he : e ≤ j) (hs : s ≤ 4785 + 6 * j) : l_C K W v N R c (j + 1) := ⟨_, hW, τ, e, s, X, rfl, w_icK hi hk, by omega, by omega⟩
theorem l_Cth (hW : W = some (.inl (0, v), (K, τ, 191, e + 1, s + 6))) (hi : w_ic τ N R c X 0 k) (hk : k ≤ j + 1) (he : e ≤ j) (hs : s ≤ 4785 + 6 * j) : l_C K W v N R c (j + 1) := ⟨_, hW, τ, e + 1, s + 6, X, rfl, w_icK hi hk, by omega, by omega⟩
theorem wf_b (hw : q_wf N) : (1 ≤ N 0 0 ∧ N 0 0 ≤ 8) ∧ (0 ≤ N 0 1 ∧ N 0 1 ≤ 12) ∧ 0 ≤ N 0 2 ∧ N 0 2 ≤ 6 := ⟨hw.1, hw.2.1, hw.2.2.1⟩
theorem L_f_reset0 (hL : q_lay K) (w : l_S K h N R c j) (hj : j < 600000) : l_C K (m_cl Z 243 [(2, ((0 : Nat) : Int)), (0, 0)] h) (-51) N R c (j + 1) := by
  obtain ⟨σ, e, s, X, rfl, i, he, hs⟩ := w
  obtain ⟨⟨n1, n8⟩, ⟨e0, e12⟩, s0, s6⟩ := wf_b i.1.1
  exact l_Cth (l_x243_1 hL ((x_reset hL i (by decide)).1 (by decide))) i (by omega) he hs
theorem L_f_reset9 (hL : q_lay K) (w : l_S K h N R c j) (hj : j < 600000) : l_C K (m_cl Z 243 [(2, ((0 : Nat) : Int)), (0, 9)] h) (-51) N R c (j + 1) := by
  obtain ⟨σ, e, s, X, rfl, i, he, hs⟩ := w
  obtain ⟨⟨n1, n8⟩, ⟨e0, e12⟩, s0, s6⟩ := wf_b i.1.1
  exact l_Cth (l_x243_1 hL ((x_reset hL i (by decide)).1 (by decide))) i (by omega) he hs
theorem L_f_connect8 (hL : q_lay K) (w : l_S K h N R c j) (hj : j < 600000) : l_C K (m_cl Z 244 [(2, ((0 : Nat) : Int)), (0, 0), (0, 8), (0, 0)] h) (-53) N R c (j + 1) := by
  obtain ⟨σ, e, s, X, rfl, i, he, hs⟩ := w
  obtain ⟨⟨n1, n8⟩, ⟨e0, e12⟩, s0, s6⟩ := wf_b i.1.1
  have hy : y_cn N (0) (8) (0) = 1 := by
    unfold y_cn
    rw [if_pos (Or.inr (by omega))]
  have h1 := (x_connect (Z := Z) (e := e) (s := s) (x := 0) (y := 8) (z := 0) hL i (by decide) (by decide) (by decide)).1 (by rw [hy]; decide)
  rw [hy] at h1
  exact l_Cth (l_x244_0 hL h1) i (by omega) he hs
theorem L_f_connect0 (hL : q_lay K) (w : l_S K h N R c j) (hj : j < 600000) : l_C K (m_cl Z 244 [(2, ((0 : Nat) : Int)), (0, 0), (0, 0), (0, 5)] h) (-51) N R c (j + 1) := by
  obtain ⟨σ, e, s, X, rfl, i, he, hs⟩ := w
  obtain ⟨⟨n1, n8⟩, ⟨e0, e12⟩, s0, s6⟩ := wf_b i.1.1
  have hy : y_cn N (0) (0) (5) = 2 := by
    unfold y_cn
    rw [if_neg (by omega), if_pos (Or.inl rfl)]
  have h1 := (x_connect (Z := Z) (e := e) (s := s) (x := 0) (y := 0) (z := 5) hL i (by decide) (by decide) (by decide)).1 (by rw [hy]; decide)
  rw [hy] at h1
  exact l_Cth (l_x244_1 hL h1) i (by omega) he hs
theorem L_f_disconnect (hL : q_lay K) (w : l_S K h N R c j) (hj : j < 600000) : l_C K (m_cl Z 245 [(2, ((0 : Nat) : Int)), (0, 12)] h) (-53) N R c (j + 1) := by
  obtain ⟨σ, e, s, X, rfl, i, he, hs⟩ := w
  obtain ⟨⟨n1, n8⟩, ⟨e0, e12⟩, s0, s6⟩ := wf_b i.1.1
  exact l_Cth (l_x245_0 hL ((x_disconnect hL i (by decide)).1 (by omega))) i (by omega) he hs
theorem L_f_setWeight8 (hL : q_lay K) (w : l_S K h N R c j) (hj : j < 600000) : l_C K (m_cl Z 246 [(2, ((0 : Nat) : Int)), (0, 8), (0, 10)] h) (-53) N R c (j + 1) := by
  obtain ⟨σ, e, s, X, rfl, i, he, hs⟩ := w
  obtain ⟨⟨n1, n8⟩, ⟨e0, e12⟩, s0, s6⟩ := wf_b i.1.1
  have hy : y_sv N (8) (10) = 1 := by
    unfold y_sv
    rw [if_pos (by omega)]
  have h1 := (x_setWeight (Z := Z) (e := e) (s := s) (x := 8) (y := 10) hL i (by decide) (by decide)).1 (by rw [hy]; decide)
  rw [hy] at h1
  exact l_Cth (l_x246_0 hL h1) i (by omega) he hs
theorem L_f_setWeight0 (hL : q_lay K) (w : l_S K h N R c j) (hj : j < 600000) : l_C K (m_cl Z 246 [(2, ((0 : Nat) : Int)), (0, 0), (0, 10)] h) (-51) N R c (j + 1) := by
  obtain ⟨σ, e, s, X, rfl, i, he, hs⟩ := w
  obtain ⟨⟨n1, n8⟩, ⟨e0, e12⟩, s0, s6⟩ := wf_b i.1.1
  have hy : y_sv N (0) (10) = 2 := by
    unfold y_sv
    rw [if_neg (by omega), if_pos (by decide)]
  have h1 := (x_setWeight (Z := Z) (e := e) (s := s) (x := 0) (y := 10) hL i (by decide) (by decide)).1 (by rw [hy]; decide)
  rw [hy] at h1
  exact l_Cth (l_x246_1 hL h1) i (by omega) he hs
theorem L_f_setTrend (hL : q_lay K) (w : l_S K h N R c j) (hj : j < 600000) : l_C K (m_cl Z 247 [(2, ((0 : Nat) : Int)), (0, 0), (0, (-1))] h) (-51) N R c (j + 1) := by
  obtain ⟨σ, e, s, X, rfl, i, he, hs⟩ := w
  obtain ⟨⟨n1, n8⟩, ⟨e0, e12⟩, s0, s6⟩ := wf_b i.1.1
  have hy : y_sv N (0) (-1) = 2 := by
    unfold y_sv
    rw [if_neg (by omega), if_pos (by decide)]
  have h1 := (x_setTrend (Z := Z) (e := e) (s := s) (x := 0) (y := -1) hL i (by decide) (by decide)).1 (by rw [hy]; decide)
  rw [hy] at h1
  exact l_Cth (l_x247_1 hL h1) i (by omega) he hs
theorem L_f_forbid (hL : q_lay K) (w : l_S K h N R c j) (hj : j < 600000) : l_C K (m_cl Z 248 [(2, ((0 : Nat) : Int)), (0, 12), (0, 0), (0, 0)] h) (-53) N R c (j + 1) := by
  obtain ⟨σ, e, s, X, rfl, i, he, hs⟩ := w
  obtain ⟨⟨n1, n8⟩, ⟨e0, e12⟩, s0, s6⟩ := wf_b i.1.1
  have hy : y_fb N (12) (0) (0) = 1 := by
    unfold y_fb
    rw [if_pos (by omega)]
  have h1 := (x_forbid (Z := Z) (e := e) (s := s) (x := 12) (y := 0) (z := 0) hL i (by decide) (by decide) (by decide)).1 (by rw [hy]; decide)
  rw [hy] at h1
  exact l_Cth (l_x248_0 hL h1) i (by omega) he hs
theorem L_f_allow (hL : q_lay K) (w : l_S K h N R c j) (hj : j < 600000) : l_C K (m_cl Z 249 [(2, ((0 : Nat) : Int)), (0, 6)] h) (-53) N R c (j + 1) := by
  obtain ⟨σ, e, s, X, rfl, i, he, hs⟩ := w
  obtain ⟨⟨n1, n8⟩, ⟨e0, e12⟩, s0, s6⟩ := wf_b i.1.1
  exact l_Cth (l_x249_0 hL ((x_allow hL i (by decide)).1 (by omega))) i (by omega) he hs
theorem L_f_count (hL : q_lay K) (w : l_S K h N R c j) (hj : j < 600000) : l_C K (m_cl Z 250 [(2, ((0 : Nat) : Int)), (0, 4)] h) (-51) N R c (j + 1) := by
  obtain ⟨σ, e, s, X, rfl, i, he, hs⟩ := w
  obtain ⟨⟨n1, n8⟩, ⟨e0, e12⟩, s0, s6⟩ := wf_b i.1.1
  exact l_Cth (l_x250_1 hL ((x_count hL i (by omega) (by decide)).1 (by decide))) i (by omega) he hs
theorem L_f_edge (hL : q_lay K) (w : l_S K h N R c j) (hj : j < 600000) : l_C K (m_cl Z 251 [(2, ((0 : Nat) : Int)), (0, (-1)), (0, 3)] h) (-53) N R c (j + 1) := by
  obtain ⟨σ, e, s, X, rfl, i, he, hs⟩ := w
  obtain ⟨⟨n1, n8⟩, ⟨e0, e12⟩, s0, s6⟩ := wf_b i.1.1
  exact l_Cth (l_x251_0 hL ((x_edge hL i (by decide) (by decide)).1 (by omega))) i (by omega) he hs
theorem L_f_node (hL : q_lay K) (w : l_S K h N R c j) (hj : j < 600000) : l_C K (m_cl Z 252 [(2, ((0 : Nat) : Int)), (0, 0), (0, 3)] h) (-51) N R c (j + 1) := by
  obtain ⟨σ, e, s, X, rfl, i, he, hs⟩ := w
  obtain ⟨⟨n1, n8⟩, ⟨e0, e12⟩, s0, s6⟩ := wf_b i.1.1
  exact l_Cth (l_x252_1 hL ((x_node hL i (by decide) (by decide)).2.1 (by omega) (by decide))) i (by omega) he hs
theorem L_f_stretch (hL : q_lay K) (w : l_S K h N R c j) (hj : j < 600000) : l_C K (m_cl Z 253 [(2, ((0 : Nat) : Int)), (0, 6), (0, 0)] h) (-53) N R c (j + 1) := by
  obtain ⟨σ, e, s, X, rfl, i, he, hs⟩ := w
  obtain ⟨⟨n1, n8⟩, ⟨e0, e12⟩, s0, s6⟩ := wf_b i.1.1
  exact l_Cth (l_x253_0 hL ((x_stretch hL i (by decide) (by decide)).1 (by omega))) i (by omega) he hs
theorem L_f_distance (hL : q_lay K) (w : l_S K h N R c j) (hj : j < 600000) : l_C K (m_cl Z 254 [(2, ((0 : Nat) : Int)), (0, 0), (0, 8)] h) (-53) N R c (j + 1) := by
  obtain ⟨σ, e, s, X, rfl, i, he, hs⟩ := w
  obtain ⟨⟨n1, n8⟩, ⟨e0, e12⟩, s0, s6⟩ := wf_b i.1.1
  exact l_Cth (l_x254_0 hL ((x_distance hL i (by omega) (by decide) (by decide)).1 (by omega))) i (by omega) he hs
theorem L_f_next (hL : q_lay K) (w : l_S K h N R c j) (hj : j < 600000) : l_C K (m_cl Z 255 [(2, ((0 : Nat) : Int)), (0, (-1)), (0, 0)] h) (-53) N R c (j + 1) := by
  obtain ⟨σ, e, s, X, rfl, i, he, hs⟩ := w
  obtain ⟨⟨n1, n8⟩, ⟨e0, e12⟩, s0, s6⟩ := wf_b i.1.1
  exact l_Cth (l_x255_0 hL ((x_next hL i (by omega) (by decide) (by decide)).1 (by omega))) i (by omega) he hs
theorem L_f_distanceTo (hL : q_lay K) (w : l_S K h N R c j) (hj : j < 600000) : l_C K (m_cl Z 256 [(2, ((0 : Nat) : Int)), (0, 0), (0, 12), (0, 0), (0, 1), (0, 0)] h) (-53) N R c (j + 1) := by
  obtain ⟨σ, e, s, X, rfl, i, he, hs⟩ := w
  obtain ⟨⟨n1, n8⟩, ⟨e0, e12⟩, s0, s6⟩ := wf_b i.1.1
  exact l_Cth (l_x256_0 hL ((x_distanceTo hL i (by omega) (by decide) (by decide) (by decide) (by decide) (by decide)).1 (by omega))) i (by omega) he hs
theorem L_f_isAllowed (hL : q_lay K) (w : l_S K h N R c j) (hj : j < 600000) : l_C K (m_cl Z 257 [(2, ((0 : Nat) : Int)), (0, 12), (0, 0), (0, 0)] h) (-53) N R c (j + 1) := by
  obtain ⟨σ, e, s, X, rfl, i, he, hs⟩ := w
  obtain ⟨⟨n1, n8⟩, ⟨e0, e12⟩, s0, s6⟩ := wf_b i.1.1
  exact l_Cth (l_x257_0 hL ((x_isAllowed hL i (by decide) (by decide) (by decide)).1 (by omega))) i (by omega) he hs
theorem L_f_height (hL : q_lay K) (w : l_S K h N R c j) (hj : j < 600000) : l_C K (m_cl Z 258 [(2, ((0 : Nat) : Int)), (0, 0), (0, 12), (0, 0), (0, 0), (0, 0)] h) (-53) N R c (j + 1) := by
  obtain ⟨σ, e, s, X, rfl, i, he, hs⟩ := w
  obtain ⟨⟨n1, n8⟩, ⟨e0, e12⟩, s0, s6⟩ := wf_b i.1.1
  exact l_Cth (l_x258_0 hL ((x_height hL i (by omega) (by decide) (by decide) (by decide) (by decide) (by decide)).1 (by omega))) i (by omega) he hs
theorem L_f_cost (hL : q_lay K) (w : l_S K h N R c j) (hj : j < 600000) : l_C K (m_cl Z 259 [(2, ((0 : Nat) : Int)), (0, (-1)), (0, 0), (0, 0), (0, 0)] h) (-53) N R c (j + 1) := by
  obtain ⟨σ, e, s, X, rfl, i, he, hs⟩ := w
  obtain ⟨⟨n1, n8⟩, ⟨e0, e12⟩, s0, s6⟩ := wf_b i.1.1
  exact l_Cth (l_x259_0 hL ((x_cost hL i (by omega) (by decide) (by decide) (by decide) (by decide)).1 (by omega))) i (by omega) he hs
theorem L_f_corner (hL : q_lay K) (w : l_S K h N R c j) (hj : j < 600000) : l_C K (m_cl Z 260 [(2, ((0 : Nat) : Int)), (0, 12), (0, 0), (0, 4)] h) (-53) N R c (j + 1) := by
  obtain ⟨σ, e, s, X, rfl, i, he, hs⟩ := w
  obtain ⟨⟨n1, n8⟩, ⟨e0, e12⟩, s0, s6⟩ := wf_b i.1.1
  exact l_Cth (l_x260_0 hL ((x_corner hL i (by omega) (by decide) (by decide) (by decide)).1 (by omega))) i (by omega) he hs
theorem L_f_radius256 (hL : q_lay K) (w : l_S K h N R c j) (hj : j < 600000) : l_C K (m_cl Z 261 [(2, ((0 : Nat) : Int)), (0, 256), (0, 0)] h) (-51) N R c (j + 1) := by
  obtain ⟨σ, e, s, X, rfl, i, he, hs⟩ := w
  obtain ⟨⟨n1, n8⟩, ⟨e0, e12⟩, s0, s6⟩ := wf_b i.1.1
  exact l_Cth (l_x261_1 hL ((x_radius hL i (by omega) (by decide) (by decide)).1 (fun d => absurd d.1.2 (by have := q_pow8 (n := w_nn N) (wf_n i.1.1).2.2; omega)))) i (by omega) he hs
theorem L_f_radius0 (hL : q_lay K) (w : l_S K h N R c j) (hj : j < 600000) : l_C K (m_cl Z 261 [(2, ((0 : Nat) : Int)), (0, 0), (0, 2)] h) (-51) N R c (j + 1) := by
  obtain ⟨σ, e, s, X, rfl, i, he, hs⟩ := w
  obtain ⟨⟨n1, n8⟩, ⟨e0, e12⟩, s0, s6⟩ := wf_b i.1.1
  exact l_Cth (l_x261_1 hL ((x_radius hL i (by omega) (by decide) (by decide)).1 (fun d => absurd d.2 (by decide)))) i (by omega) he hs
theorem L_f_center (hL : q_lay K) (w : l_S K h N R c j) (hj : j < 600000) : l_C K (m_cl Z 262 [(2, ((0 : Nat) : Int)), (0, (-1)), (0, 0)] h) (-51) N R c (j + 1) := by
  obtain ⟨σ, e, s, X, rfl, i, he, hs⟩ := w
  obtain ⟨⟨n1, n8⟩, ⟨e0, e12⟩, s0, s6⟩ := wf_b i.1.1
  exact l_Cth (l_x262_1 hL ((x_center hL i (by omega) (by decide) (by decide)).1 (fun d => absurd d.1.1 (by decide)))) i (by omega) he hs
theorem L_f_critical (hL : q_lay K) (w : l_S K h N R c j) (hj : j < 600000) : l_C K (m_cl Z 263 [(2, ((0 : Nat) : Int)), (0, 256)] h) (-51) N R c (j + 1) := by
  obtain ⟨σ, e, s, X, rfl, i, he, hs⟩ := w
  obtain ⟨⟨n1, n8⟩, ⟨e0, e12⟩, s0, s6⟩ := wf_b i.1.1
  exact l_Cth (l_x263_1 hL ((x_critical hL i (by omega) (by decide)).1 (fun d => absurd d.2 (by have := q_pow8 (n := w_nn N) (wf_n i.1.1).2.2; omega)))) i (by omega) he hs
theorem L_f_median (hL : q_lay K) (w : l_S K h N R c j) (hj : j < 600000) : l_C K (m_cl Z 264 [(2, ((0 : Nat) : Int)), (0, 5)] h) (-51) N R c (j + 1) := by
  obtain ⟨σ, e, s, X, rfl, i, he, hs⟩ := w
  obtain ⟨⟨n1, n8⟩, ⟨e0, e12⟩, s0, s6⟩ := wf_b i.1.1
  exact l_Cth (l_x264_1 hL ((x_median hL i (by omega) (by decide)).1 (by decide))) i (by omega) he hs
theorem L_f_radiusOf (hL : q_lay K) (w : l_S K h N R c j) (hj : j < 600000) : l_C K (m_cl Z 265 [(2, ((0 : Nat) : Int)), (0, 4), (0, 0)] h) (-51) N R c (j + 1) := by
  obtain ⟨σ, e, s, X, rfl, i, he, hs⟩ := w
  obtain ⟨⟨n1, n8⟩, ⟨e0, e12⟩, s0, s6⟩ := wf_b i.1.1
  exact l_Cth (l_x265_1 hL ((x_radiusOf hL i (by omega) (by decide) (by decide)).1 (by decide))) i (by omega) he hs
theorem L_f_group (hL : q_lay K) (w : l_S K h N R c j) (hj : j < 600000) : l_C K (m_cl Z 266 [(2, ((0 : Nat) : Int)), (0, 2), (0, 2)] h) (-51) N R c (j + 1) := by
  obtain ⟨σ, e, s, X, rfl, i, he, hs⟩ := w
  obtain ⟨⟨n1, n8⟩, ⟨e0, e12⟩, s0, s6⟩ := wf_b i.1.1
  exact l_Cth (l_x266_1 hL ((x_group hL i (by omega) (by decide) (by decide)).1 (by decide))) i (by omega) he hs
theorem L_f_covering1 (hL : q_lay K) (w : l_S K h N R c j) (hj : j < 600000) : l_C K (m_cl Z 267 [(2, ((0 : Nat) : Int)), (0, (-1)), (0, 1)] h) (-51) N R c (j + 1) := by
  obtain ⟨σ, e, s, X, rfl, i, he, hs⟩ := w
  obtain ⟨⟨n1, n8⟩, ⟨e0, e12⟩, s0, s6⟩ := wf_b i.1.1
  exact l_Cth (l_x267_1 hL ((x_covering hL i (by omega) (by decide) (by decide) (by decide)).1 (by decide))) i (by omega) he hs
theorem L_f_covering0 (hL : q_lay K) (w : l_S K h N R c j) (hj : j < 600000) : l_C K (m_cl Z 267 [(2, ((0 : Nat) : Int)), (0, 1), (0, 0)] h) (-51) N R c (j + 1) := by
  obtain ⟨σ, e, s, X, rfl, i, he, hs⟩ := w
  obtain ⟨⟨n1, n8⟩, ⟨e0, e12⟩, s0, s6⟩ := wf_b i.1.1
  exact l_Cth (l_x267_1 hL ((x_covering hL i (by omega) (by decide) (by decide) (by decide)).1 (by decide))) i (by omega) he hs
theorem L_f_covered (hL : q_lay K) (w : l_S K h N R c j) (hj : j < 600000) : l_C K (m_cl Z 268 [(2, ((0 : Nat) : Int)), (0, 12), (0, 0), (0, 0)] h) (-53) N R c (j + 1) := by
  obtain ⟨σ, e, s, X, rfl, i, he, hs⟩ := w
  obtain ⟨⟨n1, n8⟩, ⟨e0, e12⟩, s0, s6⟩ := wf_b i.1.1
  exact l_Cth (l_x268_0 hL ((x_covered hL i (by omega) (by decide) (by decide) (by decide)).1 (by omega))) i (by omega) he hs
theorem L_f_changed (hL : q_lay K) (w : l_S K h N R c j) (hj : j < 600000) : l_C K (m_cl Z 269 [(2, ((0 : Nat) : Int)), (0, 11), (0, 0)] h) (-51) N R c (j + 1) := by
  obtain ⟨σ, e, s, X, rfl, i, he, hs⟩ := w
  obtain ⟨⟨n1, n8⟩, ⟨e0, e12⟩, s0, s6⟩ := wf_b i.1.1
  exact l_Cth (l_x269_1 hL ((x_changed hL i (by omega) (by decide) (by decide)).1 (by decide))) i (by omega) he hs
theorem L_f_without (hL : q_lay K) (w : l_S K h N R c j) (hj : j < 600000) : l_C K (m_cl Z 270 [(2, ((0 : Nat) : Int)), (0, 12), (0, 0)] h) (-53) N R c (j + 1) := by
  obtain ⟨σ, e, s, X, rfl, i, he, hs⟩ := w
  obtain ⟨⟨n1, n8⟩, ⟨e0, e12⟩, s0, s6⟩ := wf_b i.1.1
  exact l_Cth (l_x270_0 hL ((x_without hL i (by omega) (by decide) (by decide)).1 (by omega))) i (by omega) he hs
theorem L_f_type (hL : q_lay K) (w : l_S K h N R c j) (hj : j < 600000) : l_C K (m_cl Z 271 [(2, ((0 : Nat) : Int)), (0, 31)] h) (-51) N R c (j + 1) := by
  obtain ⟨σ, e, s, X, rfl, i, he, hs⟩ := w
  obtain ⟨⟨n1, n8⟩, ⟨e0, e12⟩, s0, s6⟩ := wf_b i.1.1
  exact l_Cth (l_x271_1 hL ((x_type hL i (by decide)).1 (by decide))) i (by omega) he hs
theorem L_undo0 (hL : q_lay K) (w : l_S K h N R 0 j) (hj : j < 600000) : l_C K (m_cl Z 272 [(2, ((0 : Nat) : Int))] h) (-52) N R 0 (j + 1) := by
  obtain ⟨σ, e, s, X, rfl, i, he, hs⟩ := w
  exact l_Cth (l_x272_2 hL ((x_undo hL i).1 rfl)) i (by omega) he hs
theorem L_undo (hL : q_lay K) (w : l_S K h N R c j) (hj : j < 600000) (hc : c ≠ 0) : l_C K (m_cl Z 272 [(2, ((0 : Nat) : Int))] h) ((c - 1 : Nat) : Int) (R (c - 1)) R (c - 1) (j + 1) := by
  obtain ⟨σ, e, s, X, rfl, i, he, hs⟩ := w
  obtain ⟨τ, t1, t2, -⟩ := (x_undo (Z := Z) (e := e) (s := s) hL i).2 hc
  exact l_Cok (l_w272 hL t1) t2 (by omega) he hs
theorem l_Sc (w : l_S K h N R c j) : c ≤ 6 := by
  obtain ⟨σ, e, s, X, rfl, i, he, hs⟩ := w
  exact i.2.1.2.1
theorem L_count0 (hL : q_lay K) (w : l_S K h N R c j) (hj : j < 600000) : l_C K (m_cl Z 250 [(2, ((0 : Nat) : Int)), (0, 0)] h) (N 0 0) N R c (j + 1) := by
  obtain ⟨σ, e, s, X, rfl, i, he, hs⟩ := w
  obtain ⟨⟨n1, n8⟩, ⟨e0, e12⟩, s0, s6⟩ := wf_b i.1.1
  obtain ⟨v, τ, t1, t2, -, t3, t4, -, -⟩ := (x_count (Z := Z) (e := e) (s := s) (x := 0) hL i (by omega) (by decide)).2 (by decide)
  rw [← t3 rfl]
  exact l_Cok (l_w250 hL t1) t2 (by omega) he hs
theorem L_count1 (hL : q_lay K) (w : l_S K h N R c j) (hj : j < 600000) : l_C K (m_cl Z 250 [(2, ((0 : Nat) : Int)), (0, 1)] h) (N 0 1) N R c (j + 1) := by
  obtain ⟨σ, e, s, X, rfl, i, he, hs⟩ := w
  obtain ⟨⟨n1, n8⟩, ⟨e0, e12⟩, s0, s6⟩ := wf_b i.1.1
  obtain ⟨v, τ, t1, t2, -, t3, t4, -, -⟩ := (x_count (Z := Z) (e := e) (s := s) (x := 1) hL i (by omega) (by decide)).2 (by decide)
  rw [← t4 rfl]
  exact l_Cok (l_w250 hL t1) t2 (by omega) he hs
theorem L_count3 (hL : q_lay K) (w : l_S K h N R c j) (hj : j < 600000) : l_C K (m_cl Z 250 [(2, ((0 : Nat) : Int)), (0, 3)] h) (vv_cn N) N R c (j + 1) := by
  obtain ⟨σ, e, s, X, rfl, i, he, hs⟩ := w
  obtain ⟨⟨n1, n8⟩, ⟨e0, e12⟩, s0, s6⟩ := wf_b i.1.1
  obtain ⟨v, τ, t1, t2, -, -, -, -, t3⟩ := (x_count (Z := Z) (e := e) (s := s) (x := 3) hL i (by omega) (by decide)).2 (by decide)
  have hv : v = vv_cn N := by
    unfold vv_cn
    split
    · next c1 => exact (t3 rfl).1 c1
    · next c1 => exact (t3 rfl).2 c1
  rw [← hv]
  exact l_Cok (l_w250 hL t1) t2 (by omega) he hs
theorem vv_cn1 (h : w_cn N) : vv_cn N = 1 := by unfold vv_cn; rw [if_pos h]
theorem vv_cn0 (h : ¬ w_cn N) : vv_cn N = 0 := by unfold vv_cn; rw [if_neg h]
theorem L_edge2 (hL : q_lay K) (w : l_S K h N R c j) (hj : j < 600000) (hx : 0 ≤ x ∧ x < N 0 1) : l_C K (m_cl Z 251 [(2, ((0 : Nat) : Int)), (0, x), (0, 2)] h) (N 10 x.toNat) N R c (j + 1) := by
  obtain ⟨σ, e, s, X, rfl, i, he, hs⟩ := w
  obtain ⟨⟨n1, n8⟩, ⟨e0, e12⟩, s0, s6⟩ := wf_b i.1.1
  have h1 := (x_edge (Z := Z) (e := e) (s := s) (y := 2) hL i (q_wi (x := x) (by omega) (by omega)) (by decide)).2.2 hx (by decide)
  rw [if_neg (by decide), if_neg (by decide)] at h1
  exact l_Cok (l_w251 hL h1) i (by omega) he hs
theorem L_node0 (hL : q_lay K) (w : l_S K h N R c j) (hj : j < 600000) (hx : 0 ≤ x ∧ x < N 0 0) : l_C K (m_cl Z 252 [(2, ((0 : Nat) : Int)), (0, x), (0, 0)] h) (N 2 x.toNat) N R c (j + 1) := by
  obtain ⟨σ, e, s, X, rfl, i, he, hs⟩ := w
  obtain ⟨⟨n1, n8⟩, ⟨e0, e12⟩, s0, s6⟩ := wf_b i.1.1
  have h1 := (x_node (Z := Z) (e := e) (s := s) (y := 0) hL i (q_wi (x := x) (by omega) (by omega)) (by decide)).2.2 hx (by decide)
  rw [if_pos rfl] at h1
  exact l_Cok (l_w252 hL h1) i (by omega) he hs
def vv_d (N : Nat → Nat → Int) (a b : Nat) : Int := if w_D N a b < 1000000 then w_D N a b else -1
theorem L_distance (hL : q_lay K) (w : l_S K h N R c j) (hj : j < 600000) (hx : 0 ≤ x ∧ x < N 0 0) (hy : 0 ≤ y ∧ y < N 0 0) : l_C K (m_cl Z 254 [(2, ((0 : Nat) : Int)), (0, x), (0, y)] h) (vv_d N x.toNat y.toNat) N R c (j + 1) := by
  obtain ⟨σ, e, s, X, rfl, i, he, hs⟩ := w
  obtain ⟨⟨n1, n8⟩, ⟨e0, e12⟩, s0, s6⟩ := wf_b i.1.1
  obtain ⟨τ, t1, t2, -⟩ := (x_distance (Z := Z) (e := e) (s := s) hL i (by omega) (q_wi (x := x) (by omega) (by omega)) (q_wi (x := y) (by omega) (by omega))).2 ⟨hx, hy⟩
  exact l_Cok (l_w254 hL t1) t2 (by omega) he hs
theorem L_next (hL : q_lay K) (w : l_S K h N R c j) (hj : j < 600000) (hx : 0 ≤ x ∧ x < N 0 0) (hy : 0 ≤ y ∧ y < N 0 0) : l_C K (m_cl Z 255 [(2, ((0 : Nat) : Int)), (0, x), (0, y)] h) (w_fs N x.toNat y.toNat) N R c (j + 1) := by
  obtain ⟨σ, e, s, X, rfl, i, he, hs⟩ := w
  obtain ⟨⟨n1, n8⟩, ⟨e0, e12⟩, s0, s6⟩ := wf_b i.1.1
  obtain ⟨τ, t1, t2, -⟩ := (x_next (Z := Z) (e := e) (s := s) hL i (by omega) (q_wi (x := x) (by omega) (by omega)) (q_wi (x := y) (by omega) (by omega))).2 ⟨hx, hy⟩
  exact l_Cok (l_w255 hL t1) t2 (by omega) he hs
noncomputable def vv_dm (N : Nat → Nat → Int) : Int := by
  classical
  exact if w_cn N then w_gd (w_D N) (w_nn N) else -1
theorem L_diameter (hL : q_lay K) (w : l_S K h N R c j) (hj : j < 600000) : l_C K (m_cl Z 108 [(2, ((0 : Nat) : Int))] h) (vv_dm N) N R c (j + 1) := by
  obtain ⟨σ, e, s, X, rfl, i, he, hs⟩ := w
  obtain ⟨⟨n1, n8⟩, ⟨e0, e12⟩, s0, s6⟩ := wf_b i.1.1
  obtain ⟨τ, v, t1, t2, -, t3, t4⟩ := x_diameter (Z := Z) (e := e) (s := s) hL i (by omega)
  have hv : v = vv_dm N := by
    unfold vv_dm
    split
    · next c1 => exact t3 c1
    · next c1 => exact t4 c1
  rw [← hv]
  exact l_Cok t1 t2 (by omega) he hs
theorem y_ptw (hw : q_wf N) (hg : g < w_ne N) (hp : y_pt N g p q) : w32 p = p ∧ w32 q = q ∧ 0 < q ∧ p ≤ 50000 := by
  obtain ⟨h1, h2, h3, h4⟩ := hp
  have h7 := wf_ed hw hg
  have h5 : N 10 g * q ≤ 50 * q := Int.mul_le_mul_of_nonneg_right (by omega) (by omega)
  exact ⟨q_wi (by omega) (by omega), q_wi (by omega) (by omega), by omega, by omega⟩
theorem y_ptq (hw : q_wf N) (hg : g < w_ne N) (hp : y_pt N g p q) : w_pq N 0 g p q := ⟨hp.1, hp.2.1, by have := hp.2.1; omega, by decide, hp.2.2.1, hp.2.2.2⟩
theorem L_distanceTo (hL : q_lay K) (w : l_S K h N R c j) (hj : j < 600000) (hx : 0 ≤ x ∧ x < N 0 0) (hy : 0 ≤ y ∧ y < N 0 1) (hp : y_pt N y.toNat p q) (hu : u = 0 ∨ u = 1) (hc : w_cn N) : l_C K (m_cl Z 256 [(2, ((0 : Nat) : Int)), (0, x), (0, y), (0, p), (0, q), (0, u)] h) (q_pt (h_r N y.toNat x.toNat (fr p q)) u) N R c (j + 1) := by
  obtain ⟨σ, e, s, X, rfl, i, he, hs⟩ := w
  obtain ⟨⟨n1, n8⟩, ⟨e0, e12⟩, s0, s6⟩ := wf_b i.1.1
  have hw := i.1.1
  have hg : y.toNat < w_ne N := by unfold w_ne; omega
  have hi : x.toNat < w_nn N := by unfold w_nn; omega
  obtain ⟨p1, p2, p3, p4⟩ := y_ptw hw hg hp
  obtain ⟨τ, t1, -, -, t2⟩ := (x_distanceTo (Z := Z) (e := e) (s := s) hL i (by omega) (q_wi (x := x) (by omega) (by omega)) (q_wi (x := y) (by omega) (by omega)) p1 p2 (by rcases hu with rfl | rfl <;> decide)).2.2 ⟨hx, hy⟩ ⟨hp, hu⟩
  have ob := w_ob hw hc hg hi
  have h1 := t2 (by have h3 : w_o N y.toNat x.toNat < 1000000 := by omega
                    exact h3)
  have hR : 0 ≤ w_R N y.toNat x.toNat p q := by
    have h9 := hp.2.2
    unfold w_R
    have m1 : 0 ≤ w_o N y.toNat x.toNat * q := Int.mul_nonneg (by omega) (by omega)
    split
    · have m2 : N 10 y.toNat * q ≤ w_b N y.toNat x.toNat * q := Int.mul_le_mul_of_nonneg_right (by omega) (by omega)
      omega
    · omega
  rw [q_ptr hR p3, h_Rfr p3] at h1
  exact l_Cok (l_w256 hL h1) t1 (by omega) he hs
def vv_al (N : Nat → Nat → Int) (g : Nat) (p q : Int) : Int := if w_al N g p q = true then 1 else 0
theorem L_isAllowed (hL : q_lay K) (w : l_S K h N R c j) (hj : j < 600000) (hy : 0 ≤ y ∧ y < N 0 1) (hp : y_pt N y.toNat p q) : l_C K (m_cl Z 257 [(2, ((0 : Nat) : Int)), (0, y), (0, p), (0, q)] h) (vv_al N y.toNat p q) N R c (j + 1) := by
  obtain ⟨σ, e, s, X, rfl, i, he, hs⟩ := w
  obtain ⟨⟨n1, n8⟩, ⟨e0, e12⟩, s0, s6⟩ := wf_b i.1.1
  have hw := i.1.1
  have hg : y.toNat < w_ne N := by unfold w_ne; omega
  obtain ⟨p1, p2, p3, p4⟩ := y_ptw hw hg hp
  have h1 := (x_isAllowed (Z := Z) (e := e) (s := s) hL i (q_wi (x := y) (by omega) (by omega)) p1 p2).2.2 hy hp
  exact l_Cok (l_w257 hL (by unfold vv_al; split <;> simp) h1) i (by omega) he hs
theorem L_height (hL : q_lay K) (w : l_S K h N R c j) (hj : j < 600000) (hx : 0 ≤ x ∧ x < ((2 ^ w_nn N : Nat) : Int)) (hy : 0 ≤ y ∧ y < N 0 1) (hp : y_pt N y.toNat p q) (hu : u = 0 ∨ u = 1) (hc : w_cn N) : l_C K (m_cl Z 258 [(2, ((0 : Nat) : Int)), (0, x), (0, y), (0, p), (0, q), (0, u)] h) (q_pt (h_fH N 0 x y.toNat (fr p q)) u) N R c (j + 1) := by
  obtain ⟨σ, e, s, X, rfl, i, he, hs⟩ := w
  obtain ⟨⟨n1, n8⟩, ⟨e0, e12⟩, s0, s6⟩ := wf_b i.1.1
  have hw := i.1.1
  have hg : y.toNat < w_ne N := by unfold w_ne; omega
  have p8 := q_pow8 (n := w_nn N) (wf_n hw).2.2
  obtain ⟨p1, p2, p3, p4⟩ := y_ptw hw hg hp
  obtain ⟨τ, t1, -, -, t2⟩ := (x_height (Z := Z) (e := e) (s := s) hL i (by omega) (q_wi (x := x) (by omega) (by omega)) (q_wi (x := y) (by omega) (by omega)) p1 p2 (by rcases hu with rfl | rfl <;> decide)).2.2 hy ⟨hx, hp, hu⟩
  have h1 := t2 hc
  have hb := w_Hb (S := x) hw hc hg (y_ptq hw hg hp) (w_nn N) (Nat.le_refl _)
  rw [q_ptr (by omega) p3, h_Hfr p3] at h1
  exact l_Cok (l_w258 hL h1) t1 (by omega) he hs
theorem L_cost (hL : q_lay K) (w : l_S K h N R c j) (hj : j < 600000) (hy : 0 ≤ y ∧ y < N 0 1) (hp : y_pt N y.toNat p q) (hu : u = 0 ∨ u = 1) (hc : w_cn N) : l_C K (m_cl Z 259 [(2, ((0 : Nat) : Int)), (0, y), (0, p), (0, q), (0, u)] h) (q_pt (h_fC N 0 y.toNat (fr p q)) u) N R c (j + 1) := by
  obtain ⟨σ, e, s, X, rfl, i, he, hs⟩ := w
  obtain ⟨⟨n1, n8⟩, ⟨e0, e12⟩, s0, s6⟩ := wf_b i.1.1
  have hw := i.1.1
  have hg : y.toNat < w_ne N := by unfold w_ne; omega
  obtain ⟨p1, p2, p3, p4⟩ := y_ptw hw hg hp
  obtain ⟨τ, t1, -, -, t2⟩ := (x_cost (Z := Z) (e := e) (s := s) hL i (by omega) (q_wi (x := y) (by omega) (by omega)) p1 p2 (by rcases hu with rfl | rfl <;> decide)).2.2 hy ⟨hp, hu⟩
  have h1 := t2 hc
  have hb := w_Cb hw hc hg (y_ptq hw hg hp) (w_nn N) (Nat.le_refl _)
  rw [q_ptr (by omega) p3, h_Cfr p3] at h1
  exact l_Cok (l_w259 hL h1) t1 (by omega) he hs
theorem L_corner (hL : q_lay K) (w : l_S K h N R c j) (hj : j < 600000) (hx : 0 ≤ x ∧ x < N 0 1) (hy : w32 y = y) (hz : 0 ≤ z ∧ z ≤ 3) (hc : w_cn N) : l_C K (m_cl Z 260 [(2, ((0 : Nat) : Int)), (0, x), (0, y), (0, z)] h) (vv_cf N x.toNat y z) N R c (j + 1) ∧ ∃ c P Q V, y_kl N 0 x.toNat c P Q V := by
  obtain ⟨σ, e, s, X, rfl, i, he, hs⟩ := w
  obtain ⟨⟨n1, n8⟩, ⟨e0, e12⟩, s0, s6⟩ := wf_b i.1.1
  have hw := i.1.1
  have hg : x.toNat < w_ne N := by unfold w_ne; omega
  obtain ⟨τ, t1, -, -, t2⟩ := (x_corner (Z := Z) (e := e) (s := s) hL i (by omega) (q_wi (x := x) (by omega) (by omega)) hy (q_wi (x := z) (by omega) (by omega))).2.2 hx hz
  obtain ⟨v, v1, h1⟩ := t2 hc
  have h2 := vv_cv hw hc hg hz.1 hz.2 v1
  obtain ⟨c2, P, Q, V, k1, -⟩ := v1
  rw [h2] at h1
  exact ⟨l_Cok (l_w260 hL h1) t1 (by omega) he hs, c2, P, Q, V, k1⟩
theorem L_radiusN (hL : q_lay K) (w : l_S K h N R c j) (hj : j < 600000) (hx : 0 ≤ x ∧ x < ((2 ^ w_nn N : Nat) : Int)) (hu : u = 0 ∨ u = 1) (hd : ¬ y_cc N) : l_C K (m_cl Z 261 [(2, ((0 : Nat) : Int)), (0, x), (0, u)] h) (-52) N R c (j + 1) := by
  obtain ⟨σ, e, s, X, rfl, i, he, hs⟩ := w
  obtain ⟨⟨n1, n8⟩, ⟨e0, e12⟩, s0, s6⟩ := wf_b i.1.1
  have p8 := q_pow8 (n := w_nn N) (wf_n i.1.1).2.2
  obtain ⟨τ, t1, -, t2, -⟩ := (x_radius (Z := Z) (e := e) (s := s) hL i (by omega) (q_wi (x := x) (by omega) (by omega)) (by rcases hu with rfl | rfl <;> decide)).2 ⟨hx, hu⟩
  exact l_Cth (l_x261_2 hL (t2 hd)) t1 (by omega) he hs
theorem L_radius (hL : q_lay K) (w : l_S K h N R c j) (hj : j < 600000) (hx : 0 ≤ x ∧ x < ((2 ^ w_nn N : Nat) : Int)) (hu : u = 0 ∨ u = 1) (hd : y_cc N) : l_C K (m_cl Z 261 [(2, ((0 : Nat) : Int)), (0, x), (0, u)] h) (q_pt (vv_r N x) u) N R c (j + 1) := by
  obtain ⟨σ, e, s, X, rfl, i, he, hs⟩ := w
  obtain ⟨⟨n1, n8⟩, ⟨e0, e12⟩, s0, s6⟩ := wf_b i.1.1
  have p8 := q_pow8 (n := w_nn N) (wf_n i.1.1).2.2
  have hw := i.1.1
  obtain ⟨τ, t1, -, -, t2⟩ := (x_radius (Z := Z) (e := e) (s := s) hL i (by omega) (q_wi (x := x) (by omega) (by omega)) (by rcases hu with rfl | rfl <;> decide)).2 ⟨hx, hu⟩
  obtain ⟨b, b1, h1⟩ := t2 hd
  obtain ⟨c1, c2, c3⟩ := w_bok hw hd.1 (by decide) (by decide) b1
  obtain ⟨d1, d2⟩ := w_Hvb (S := x) hw hd.1 (by decide) (by decide) ⟨c1, c2⟩
  rw [q_ptr d1 (by have := c2.1; omega), ← (vv_c_b hw hd b1).2] at h1
  exact l_Cok (l_w261 hL h1) t1 (by omega) he hs
theorem L_centerN (hL : q_lay K) (w : l_S K h N R c j) (hj : j < 600000) (hx : 0 ≤ x ∧ x < ((2 ^ w_nn N : Nat) : Int)) (hy : 0 ≤ y ∧ y ≤ 2) (hd : ¬ y_cc N) : l_C K (m_cl Z 262 [(2, ((0 : Nat) : Int)), (0, x), (0, y)] h) (-52) N R c (j + 1) := by
  obtain ⟨σ, e, s, X, rfl, i, he, hs⟩ := w
  obtain ⟨⟨n1, n8⟩, ⟨e0, e12⟩, s0, s6⟩ := wf_b i.1.1
  have p8 := q_pow8 (n := w_nn N) (wf_n i.1.1).2.2
  obtain ⟨τ, t1, -, t2, -⟩ := (x_center (Z := Z) (e := e) (s := s) hL i (by omega) (q_wi (x := x) (by omega) (by omega)) (q_wi (x := y) (by omega) (by omega))).2 ⟨hx, hy⟩
  exact l_Cth (l_x262_2 hL (t2 hd)) t1 (by omega) he hs
theorem L_center (hL : q_lay K) (w : l_S K h N R c j) (hj : j < 600000) (hx : 0 ≤ x ∧ x < ((2 ^ w_nn N : Nat) : Int)) (hy : 0 ≤ y ∧ y ≤ 2) (hd : y_cc N) : l_C K (m_cl Z 262 [(2, ((0 : Nat) : Int)), (0, x), (0, y)] h) (vv_bf (vv_c N x) (vv_r N x) y) N R c (j + 1) := by
  obtain ⟨σ, e, s, X, rfl, i, he, hs⟩ := w
  obtain ⟨⟨n1, n8⟩, ⟨e0, e12⟩, s0, s6⟩ := wf_b i.1.1
  have p8 := q_pow8 (n := w_nn N) (wf_n i.1.1).2.2
  have hw := i.1.1
  obtain ⟨τ, t1, -, -, t2⟩ := (x_center (Z := Z) (e := e) (s := s) hL i (by omega) (q_wi (x := x) (by omega) (by omega)) (q_wi (x := y) (by omega) (by omega))).2 ⟨hx, hy⟩
  obtain ⟨b, b1, h1⟩ := t2 hd
  rw [vv_bfH hw hd b1] at h1
  exact l_Cok (l_w262 hL h1) t1 (by omega) he hs
theorem L_criticalN (hL : q_lay K) (w : l_S K h N R c j) (hj : j < 600000) (hx : 0 ≤ x ∧ x < ((2 ^ w_nn N : Nat) : Int)) (hd : ¬ y_cc N) : l_C K (m_cl Z 263 [(2, ((0 : Nat) : Int)), (0, x)] h) (-52) N R c (j + 1) := by
  obtain ⟨σ, e, s, X, rfl, i, he, hs⟩ := w
  obtain ⟨⟨n1, n8⟩, ⟨e0, e12⟩, s0, s6⟩ := wf_b i.1.1
  have p8 := q_pow8 (n := w_nn N) (wf_n i.1.1).2.2
  obtain ⟨τ, t1, -, t2, -⟩ := (x_critical (Z := Z) (e := e) (s := s) hL i (by omega) (q_wi (x := x) (by omega) (by omega))).2 hx
  exact l_Cth (l_x263_2 hL (t2 hd)) t1 (by omega) he hs
theorem L_critical (hL : q_lay K) (w : l_S K h N R c j) (hj : j < 600000) (hx : 0 ≤ x ∧ x < ((2 ^ w_nn N : Nat) : Int)) (hd : y_cc N) : l_C K (m_cl Z 263 [(2, ((0 : Nat) : Int)), (0, x)] h) (vv_cr N x) N R c (j + 1) := by
  obtain ⟨σ, e, s, X, rfl, i, he, hs⟩ := w
  obtain ⟨⟨n1, n8⟩, ⟨e0, e12⟩, s0, s6⟩ := wf_b i.1.1
  have p8 := q_pow8 (n := w_nn N) (wf_n i.1.1).2.2
  have hw := i.1.1
  obtain ⟨τ, t1, -, -, t2⟩ := (x_critical (Z := Z) (e := e) (s := s) hL i (by omega) (q_wi (x := x) (by omega) (by omega))).2 hx
  obtain ⟨b, b1, h1⟩ := t2 hd
  rw [vv_cr_b hw hd b1] at h1
  exact l_Cok (l_w263 hL h1) t1 (by omega) he hs
theorem L_medianN (hL : q_lay K) (w : l_S K h N R c j) (hj : j < 600000) (hx : 0 ≤ x ∧ x ≤ 4) (hd : ¬ y_cc N) : l_C K (m_cl Z 264 [(2, ((0 : Nat) : Int)), (0, x)] h) (-52) N R c (j + 1) := by
  obtain ⟨σ, e, s, X, rfl, i, he, hs⟩ := w
  obtain ⟨⟨n1, n8⟩, ⟨e0, e12⟩, s0, s6⟩ := wf_b i.1.1
  obtain ⟨τ, t1, -, t2, -⟩ := (x_median (Z := Z) (e := e) (s := s) hL i (by omega) (q_wi (x := x) (by omega) (by omega))).2 hx
  exact l_Cth (l_x264_2 hL (t2 hd)) t1 (by omega) he hs
theorem L_median (hL : q_lay K) (w : l_S K h N R c j) (hj : j < 600000) (hx : 0 ≤ x ∧ x ≤ 4) (hd : y_cc N) : l_C K (m_cl Z 264 [(2, ((0 : Nat) : Int)), (0, x)] h) (vv_bf (vv_m N) (vv_mr N) x) N R c (j + 1) := by
  obtain ⟨σ, e, s, X, rfl, i, he, hs⟩ := w
  obtain ⟨⟨n1, n8⟩, ⟨e0, e12⟩, s0, s6⟩ := wf_b i.1.1
  have hw := i.1.1
  obtain ⟨τ, t1, -, -, t2⟩ := (x_median (Z := Z) (e := e) (s := s) hL i (by omega) (q_wi (x := x) (by omega) (by omega))).2 hx
  obtain ⟨b, b1, h1⟩ := t2 hd
  rw [vv_bfC hw hd b1] at h1
  exact l_Cok (l_w264 hL h1) t1 (by omega) he hs
theorem L_radiusOfN (hL : q_lay K) (w : l_S K h N R c j) (hj : j < 600000) (hx : 1 ≤ x ∧ x ≤ 3) (hu : u = 0 ∨ u = 1) (hd : ¬ y_cc N) : l_C K (m_cl Z 265 [(2, ((0 : Nat) : Int)), (0, x), (0, u)] h) (-52) N R c (j + 1) := by
  obtain ⟨σ, e, s, X, rfl, i, he, hs⟩ := w
  obtain ⟨⟨n1, n8⟩, ⟨e0, e12⟩, s0, s6⟩ := wf_b i.1.1
  obtain ⟨τ, t1, -, t2, -⟩ := (x_radiusOf (Z := Z) (e := e) (s := s) hL i (by omega) (q_wi (x := x) (by omega) (by omega)) (by rcases hu with rfl | rfl <;> decide)).2 ⟨hx, hu⟩
  exact l_Cth (l_x265_2 hL (t2 hd)) t1 (by omega) he hs
theorem L_radiusOf (hL : q_lay K) (w : l_S K h N R c j) (hj : j < 600000) (hx : 1 ≤ x ∧ x ≤ 3) (hu : u = 0 ∨ u = 1) (hd : y_cc N) : l_C K (m_cl Z 265 [(2, ((0 : Nat) : Int)), (0, x), (0, u)] h) (q_pt (vv_k N x.toNat) u) N R c (j + 1) ∧ ∃ f1 f2 f3, y_gF N 0 f1 f2 f3 := by
  obtain ⟨σ, e, s, X, rfl, i, he, hs⟩ := w
  obtain ⟨⟨n1, n8⟩, ⟨e0, e12⟩, s0, s6⟩ := wf_b i.1.1
  have hw := i.1.1
  obtain ⟨τ, t1, -, -, t2⟩ := (x_radiusOf (Z := Z) (e := e) (s := s) hL i (by omega) (q_wi (x := x) (by omega) (by omega)) (by rcases hu with rfl | rfl <;> decide)).2 ⟨hx, hu⟩
  obtain ⟨f1, f2, f3, p, q, a1, a2, a3, a4, h1⟩ := t2 hd
  rw [q_ptr a2 (by omega), a4, vv_k_u hw a1] at h1
  exact ⟨l_Cok (l_w265 hL h1) t1 (by omega) he hs, f1, f2, f3, a1⟩
theorem L_groupN (hL : q_lay K) (w : l_S K h N R c j) (hj : j < 600000) (hx : 1 ≤ x ∧ x ≤ 3) (hy : 0 ≤ y ∧ y < x) (hd : ¬ y_cc N) : l_C K (m_cl Z 266 [(2, ((0 : Nat) : Int)), (0, x), (0, y)] h) (-52) N R c (j + 1) := by
  obtain ⟨σ, e, s, X, rfl, i, he, hs⟩ := w
  obtain ⟨⟨n1, n8⟩, ⟨e0, e12⟩, s0, s6⟩ := wf_b i.1.1
  obtain ⟨τ, t1, -, t2, -⟩ := (x_group (Z := Z) (e := e) (s := s) hL i (by omega) (q_wi (x := x) (by omega) (by omega)) (q_wi (x := y) (by omega) (by omega))).2 ⟨hx, hy⟩
  exact l_Cth (l_x266_2 hL (t2 hd)) t1 (by omega) he hs
theorem L_group (hL : q_lay K) (w : l_S K h N R c j) (hj : j < 600000) (hx : 1 ≤ x ∧ x ≤ 3) (hy : 0 ≤ y ∧ y < x) (hd : y_cc N) : l_C K (m_cl Z 266 [(2, ((0 : Nat) : Int)), (0, x), (0, y)] h) ((vv_g N x.toNat y.toNat : Nat) : Int) N R c (j + 1) ∧ w_chs (vv_f N).1 (vv_f N).2.1 (vv_k N x.toNat) (2 ^ w_nn N - 1) x.toNat y.toNat (vv_g N x.toNat y.toNat) := by
  obtain ⟨σ, e, s, X, rfl, i, he, hs⟩ := w
  obtain ⟨⟨n1, n8⟩, ⟨e0, e12⟩, s0, s6⟩ := wf_b i.1.1
  have hw := i.1.1
  obtain ⟨τ, t1, -, -, t2⟩ := (x_group (Z := Z) (e := e) (s := s) hL i (by omega) (q_wi (x := x) (by omega) (by omega)) (q_wi (x := y) (by omega) (by omega))).2 ⟨hx, hy⟩
  obtain ⟨f1, f2, f3, r, a1, a2, h1⟩ := t2 hd
  obtain ⟨e1, e2⟩ := vv_g_u hw a1 a2
  rw [e1] at h1 e2
  exact ⟨l_Cok (l_w266 hL h1) t1 (by omega) he hs, e2⟩
/-- the least number of groups with radii of at most x -/
def vv_few (N : Nat → Nat → Int) (x : Rat) (v : Int) : Prop := ∃ m : Nat → Int, w_few (vv_f N).1 x 8 (2 ^ w_nn N - 1) m ∧ v = m (2 ^ w_nn N - 1)
theorem w_few_c {f1 g1 : Nat → Rat} {x : Rat} {m : Nat → Int} {n : Nat} (hn : n ≤ 8) (h1 : ∀ a, a < 2 ^ n → f1 a = g1 a) (h : w_few f1 x 8 (2 ^ n - 1) m) : w_few g1 x 8 (2 ^ n - 1) m := by
  refine ⟨h.1, fun T T1 T2 => ?_⟩
  obtain ⟨a1, a2, a3⟩ := h.2 T T1 T2
  refine ⟨a1, fun a b1 b2 b3 b4 => a2 a b1 b2 b3 (by rw [h1 a (by omega)]; exact b4), ?_⟩
  rcases a3 with a3 | ⟨a, b1, b2, b3, b4, b5⟩
  · exact Or.inl a3
  · exact Or.inr ⟨a, b1, b2, b3, by rw [← h1 a (by omega)]; exact b4, b5⟩
theorem L_covering (hL : q_lay K) (w : l_S K h N R c j) (hj : j < 600000) (hx : 0 ≤ x ∧ x ≤ 2147483647) (hy : 1 ≤ y ∧ y ≤ 1000) (hd : y_cc N) : ∃ v, l_C K (m_cl Z 267 [(2, ((0 : Nat) : Int)), (0, x), (0, y)] h) v N R c (j + 1) ∧ vv_few N (fr x y) v := by
  obtain ⟨σ, e, s, X, rfl, i, he, hs⟩ := w
  obtain ⟨⟨n1, n8⟩, ⟨e0, e12⟩, s0, s6⟩ := wf_b i.1.1
  have hw := i.1.1
  obtain ⟨τ, t1, -, -, t2⟩ := (x_covering (Z := Z) (e := e) (s := s) hL i (by omega) (w32_of (x := x) (by omega) (by omega)) hx.2 (q_wi (x := y) (by omega) (by omega))).2 ⟨hx.1, hy⟩
  obtain ⟨f1, f2, f3, m, a1, a2, h1⟩ := t2 hd
  exact ⟨_, l_Cok (l_w267 hL h1) t1 (by omega) he hs, m, w_few_c (wf_n hw).2.2 (vv_f_u hw a1).2.1 a2, rfl⟩
theorem L_changed (hL : q_lay K) (w : l_S K h N R c j) (hj : j < 600000) (hd : y_cc N) : l_C K (m_cl Z 269 [(2, ((0 : Nat) : Int)), (0, 0), (0, 0)] h) (q_pt (vv_r N (vv_all N)) 0) N R c (j + 1) := by
  obtain ⟨σ, e, s, X, rfl, i, he, hs⟩ := w
  obtain ⟨⟨n1, n8⟩, ⟨e0, e12⟩, s0, s6⟩ := wf_b i.1.1
  have hw := i.1.1
  obtain ⟨τ, t1, -, -, t2⟩ := (x_changed (Z := Z) (e := e) (s := s) (x := 0) (y := 0) hL i (by omega) (by decide) (by decide)).2 (by decide)
  obtain ⟨b, b1, h1⟩ := t2 hd
  obtain ⟨c1, c2, c3⟩ := w_bok hw hd.1 (by decide) (by decide) b1
  obtain ⟨d1, d2⟩ := w_Hvb (S := vv_all N) hw hd.1 (by decide) (by decide) ⟨c1, c2⟩
  have h3 : w_red (w_Hv N 0 (vv_all N) b) b.2.2 0 = q_pt (vv_r N (vv_all N)) 0 := by rw [q_ptr d1 (by have := c2.1; omega), (vv_c_b (S := vv_all N) hw hd b1).2]
  exact l_Cok (l_w269 hL (h3 ▸ h1)) t1 (by omega) he hs
noncomputable def vv_wo (N : Nat → Nat → Int) (g : Nat) (u : Int) : Int := by
  classical
  exact if y_cc (o_ds g N) then q_pt (vv_r (o_ds g N) (vv_all N)) u else -1
theorem L_without (hL : q_lay K) (w : l_S K h N R c j) (hj : j < 600000) (hx : 0 ≤ x ∧ x < N 0 1) (hu : u = 0 ∨ u = 1) (hwd : q_wf (o_ds x.toNat N)) : l_C K (m_cl Z 270 [(2, ((0 : Nat) : Int)), (0, x), (0, u)] h) (vv_wo N x.toNat u) N R c (j + 1) := by
  obtain ⟨σ, e, s, X, rfl, i, he, hs⟩ := w
  obtain ⟨⟨n1, n8⟩, ⟨e0, e12⟩, s0, s6⟩ := wf_b i.1.1
  obtain ⟨τ, t1, -, t2, t3⟩ := (x_without (Z := Z) (e := e) (s := s) hL i (by omega) (q_wi (x := x) (by omega) (by omega)) (by rcases hu with rfl | rfl <;> decide)).2.2 hx hu
  unfold vv_wo
  split
  · next hd =>
    obtain ⟨b, b1, h1⟩ := t3 hd
    obtain ⟨c1, c2, c3⟩ := w_bok hwd hd.1 (by decide) (by decide) b1
    obtain ⟨d1, d2⟩ := w_Hvb (S := vv_all N) hwd hd.1 (by decide) (by decide) ⟨c1, c2⟩
    have h3 : w_red (w_Hv (o_ds x.toNat N) 0 (vv_all N) b) b.2.2 u = q_pt (vv_r (o_ds x.toNat N) (vv_all N)) u := by rw [q_ptr d1 (by have := c2.1; omega), (vv_c_b (S := vv_all N) hwd hd b1).2]
    exact l_Cok (l_w270 hL (h3 ▸ h1)) t1 (by omega) he hs
  · next hd => exact l_Cok (l_w270 hL (t2 hd)) t1 (by omega) he hs
theorem L_disconnect (hL : q_lay K) (w : l_S K h N R c j) (hj : j < 600000) (hx : 0 ≤ x ∧ x < N 0 1) : l_C K (m_cl Z 245 [(2, ((0 : Nat) : Int)), (0, x)] h) (w_rms x.toNat (w_ns N) (N, 0)).2 (o_ds x.toNat N) (w_pR R c N) (w_pc c) (j + 1) := by
  obtain ⟨σ, e, s, X, rfl, i, he, hs⟩ := w
  obtain ⟨⟨n1, n8⟩, ⟨e0, e12⟩, s0, s6⟩ := wf_b i.1.1
  obtain ⟨τ, t1, t2, -⟩ := (x_disconnect (Z := Z) (e := e) (s := s) hL i (q_wi (x := x) (by omega) (by omega))).2 hx
  exact l_Cok (l_w245 hL t1) t2 (by omega) he hs
theorem L_setWeight (hL : q_lay K) (w : l_S K h N R c j) (hj : j < 600000) (h1 : w32 x = x) (h2 : w32 y = y) (h3 : y_sv N x y = 0) : l_C K (m_cl Z 246 [(2, ((0 : Nat) : Int)), (0, x), (0, y)] h) (N 2 x.toNat) (m_up2 N 2 x.toNat y) (w_pR R c N) (w_pc c) (j + 1) := by
  obtain ⟨σ, e, s, X, rfl, i, he, hs⟩ := w
  obtain ⟨⟨n1, n8⟩, ⟨e0, e12⟩, s0, s6⟩ := wf_b i.1.1
  obtain ⟨τ, t1, t2, -⟩ := (x_setWeight (Z := Z) (e := e) (s := s) hL i h1 h2).2 h3
  exact l_Cok (l_w246 hL t1) t2 (by omega) he hs
theorem L_connect (hL : q_lay K) (w : l_S K h N R c j) (hj : j < 600000) (h1 : w32 x = x) (h2 : w32 y = y) (h3 : w32 z = z) (h4 : y_cn N x y z = 0) : l_C K (m_cl Z 244 [(2, ((0 : Nat) : Int)), (0, x), (0, y), (0, z)] h) (w_ne N : Int) (o_cn x y z N) (w_pR R c N) (w_pc c) (j + 1) := by
  obtain ⟨σ, e, s, X, rfl, i, he, hs⟩ := w
  obtain ⟨⟨n1, n8⟩, ⟨e0, e12⟩, s0, s6⟩ := wf_b i.1.1
  obtain ⟨τ, t1, t2, -⟩ := (x_connect (Z := Z) (e := e) (s := s) hL i h1 h2 h3).2 h4
  exact l_Cok (l_w244 hL t1) t2 (by omega) he hs
/-- a change, whatever it comes to -/
def l_A (K : Nat → mK) (o : Option mO) (j : Nat) : Prop := ∃ v N R c, l_C K o v N R c j ∧ w32 v = v ∧ (0 ≤ v ∨ v = -52 ∨ v = -53 ∨ v = -51)
theorem y_sv_n3 : y_sv N x y ≠ 3 := by
  unfold y_sv
  split
  · decide
  · split <;> decide
theorem y_sv_i (h : y_sv N x y = 0) : (0 ≤ x ∧ x < N 0 0) ∧ 0 ≤ y ∧ y ≤ 9 := by
  unfold y_sv at h
  split at h
  · cases h
  · split at h
    · cases h
    · next h1 h2 => exact ⟨by omega, by omega⟩
theorem wf_sm (hw : q_wf N) {r k : Nat} (hr : 0 < r) (hk : k < q_len r) : w32 (N r k) = N r k ∧ (0 ≤ N r k ∨ N r k = -52 ∨ N r k = -53 ∨ N r k = -51) := by
  have h1 := hw.2.2.2.1 r k hr hk
  exact ⟨q_wi (by omega) (by omega), Or.inl h1.1⟩
theorem L_a_connect (hL : q_lay K) (w : l_S K h N R c j) (hj : j < 600000) (h0 : w32 x = x) (h1 : w32 y = y) (h2 : w32 z = z) : l_A K (m_cl Z 244 [(2, ((0 : Nat) : Int)), (0, x), (0, y), (0, z)] h) (j + 1) := by
  obtain ⟨σ, e, s, X, rfl, i, he, hs⟩ := w
  obtain ⟨⟨n1, n8⟩, ⟨e0, e12⟩, s0, s6⟩ := wf_b i.1.1
  obtain ⟨a1, a2⟩ := x_connect (Z := Z) (e := e) (s := s) hL i h0 h1 h2
  rcases y_cn_r (N := N) (a := x) (b := y) (l := z) with h9 | h9 | h9 | h9
  · obtain ⟨τ, t1, t2, -⟩ := a2 h9
    exact ⟨_, _, _, _, l_Cok (l_w244 hL t1) t2 (by omega) he hs, q_w (by unfold w_ne; omega), Or.inl (Int.natCast_nonneg _)⟩
  · rw [h9] at a1
    exact ⟨_, _, _, _, l_Cth (l_x244_0 hL (a1 (by decide))) i (by omega) he hs, by decide, by decide⟩
  · rw [h9] at a1
    exact ⟨_, _, _, _, l_Cth (l_x244_1 hL (a1 (by decide))) i (by omega) he hs, by decide, by decide⟩
  · rw [h9] at a1
    exact ⟨_, _, _, _, l_Cth (l_x244_2 hL (a1 (by decide))) i (by omega) he hs, by decide, by decide⟩
theorem w_rms_b {e : Nat} : ∀ (k : Nat) (x : (Nat → Nat → Int) × Int), x.2 ≤ (w_rms e k x).2 ∧ (w_rms e k x).2 ≤ x.2 + (k : Int)
  | 0, x => ⟨Int.le_refl _, by show x.2 ≤ x.2 + 0; omega⟩
  | k + 1, x => by
    have ih := w_rms_b (e := e) k (w_rm1 e k x)
    have h1 : x.2 ≤ (w_rm1 e k x).2 ∧ (w_rm1 e k x).2 ≤ x.2 + 1 := by
      unfold w_rm1
      split
      · dsimp only; omega
      · split
        · dsimp only; omega
        · omega
    rw [w_rms]
    omega
theorem L_a_disconnect (hL : q_lay K) (w : l_S K h N R c j) (hj : j < 600000) (h0 : w32 x = x) : l_A K (m_cl Z 245 [(2, ((0 : Nat) : Int)), (0, x)] h) (j + 1) := by
  obtain ⟨σ, e, s, X, rfl, i, he, hs⟩ := w
  obtain ⟨⟨n1, n8⟩, ⟨e0, e12⟩, s0, s6⟩ := wf_b i.1.1
  by_cases c1 : 0 ≤ x ∧ x < N 0 1
  · obtain ⟨τ, t1, t2, -⟩ := (x_disconnect (Z := Z) (e := e) (s := s) hL i h0).2 c1
    have hr := w_rms_b (e := x.toNat) (w_ns N) (N, 0)
    have ns := (wf_s i.1.1).2
    refine ⟨_, _, _, _, l_Cok (l_w245 hL t1) t2 (by omega) he hs, q_wi ?_ ?_, Or.inl ?_⟩
    · have := hr.1; dsimp only at this; omega
    · have := hr.2; dsimp only at this; omega
    · exact hr.1
  · exact ⟨_, _, _, _, l_Cth (l_x245_0 hL ((x_disconnect hL i h0).1 c1)) i (by omega) he hs, by decide, by decide⟩
theorem L_a_setWeight (hL : q_lay K) (w : l_S K h N R c j) (hj : j < 600000) (h0 : w32 x = x) (h1 : w32 y = y) : l_A K (m_cl Z 246 [(2, ((0 : Nat) : Int)), (0, x), (0, y)] h) (j + 1) := by
  obtain ⟨σ, e, s, X, rfl, i, he, hs⟩ := w
  obtain ⟨⟨n1, n8⟩, ⟨e0, e12⟩, s0, s6⟩ := wf_b i.1.1
  obtain ⟨a1, a2⟩ := x_setWeight (Z := Z) (e := e) (s := s) hL i h0 h1
  rcases y_sv_r (N := N) (a := x) (b := y) with h9 | h9 | h9 | h9
  · obtain ⟨τ, t1, t2, -⟩ := a2 h9
    exact ⟨_, _, _, _, l_Cok (l_w246 hL t1) t2 (by omega) he hs, wf_sm i.1.1 (by decide) (by have := (y_sv_i h9).1; show x.toNat < 8; omega)⟩
  · rw [h9] at a1
    exact ⟨_, _, _, _, l_Cth (l_x246_0 hL (a1 (by decide))) i (by omega) he hs, by decide, by decide⟩
  · rw [h9] at a1
    exact ⟨_, _, _, _, l_Cth (l_x246_1 hL (a1 (by decide))) i (by omega) he hs, by decide, by decide⟩
  · exact absurd h9 y_sv_n3
theorem L_a_setTrend (hL : q_lay K) (w : l_S K h N R c j) (hj : j < 600000) (h0 : w32 x = x) (h1 : w32 y = y) : l_A K (m_cl Z 247 [(2, ((0 : Nat) : Int)), (0, x), (0, y)] h) (j + 1) := by
  obtain ⟨σ, e, s, X, rfl, i, he, hs⟩ := w
  obtain ⟨⟨n1, n8⟩, ⟨e0, e12⟩, s0, s6⟩ := wf_b i.1.1
  obtain ⟨a1, a2⟩ := x_setTrend (Z := Z) (e := e) (s := s) hL i h0 h1
  rcases y_sv_r (N := N) (a := x) (b := y) with h9 | h9 | h9 | h9
  · obtain ⟨τ, t1, t2, -⟩ := a2 h9
    exact ⟨_, _, _, _, l_Cok (l_w247 hL t1) t2 (by omega) he hs, wf_sm i.1.1 (by decide) (by have := (y_sv_i h9).1; show x.toNat < 8; omega)⟩
  · rw [h9] at a1
    exact ⟨_, _, _, _, l_Cth (l_x247_0 hL (a1 (by decide))) i (by omega) he hs, by decide, by decide⟩
  · rw [h9] at a1
    exact ⟨_, _, _, _, l_Cth (l_x247_1 hL (a1 (by decide))) i (by omega) he hs, by decide, by decide⟩
  · exact absurd h9 y_sv_n3
theorem L_a_forbid (hL : q_lay K) (w : l_S K h N R c j) (hj : j < 600000) (h0 : w32 x = x) (h1 : w32 y = y) (h2 : w32 z = z) : l_A K (m_cl Z 248 [(2, ((0 : Nat) : Int)), (0, x), (0, y), (0, z)] h) (j + 1) := by
  obtain ⟨σ, e, s, X, rfl, i, he, hs⟩ := w
  obtain ⟨⟨n1, n8⟩, ⟨e0, e12⟩, s0, s6⟩ := wf_b i.1.1
  obtain ⟨a1, a2⟩ := x_forbid (Z := Z) (e := e) (s := s) hL i h0 h1 h2
  rcases y_fb_r (N := N) (a := x) (b := y) (l := z) with h9 | h9 | h9 | h9
  · obtain ⟨τ, t1, t2, -⟩ := a2 h9
    exact ⟨_, _, _, _, l_Cok (l_w248 hL t1) t2 (by omega) he hs, q_w (by unfold w_ns; omega), Or.inl (Int.natCast_nonneg _)⟩
  · rw [h9] at a1
    exact ⟨_, _, _, _, l_Cth (l_x248_0 hL (a1 (by decide))) i (by omega) he hs, by decide, by decide⟩
  · rw [h9] at a1
    exact ⟨_, _, _, _, l_Cth (l_x248_1 hL (a1 (by decide))) i (by omega) he hs, by decide, by decide⟩
  · rw [h9] at a1
    exact ⟨_, _, _, _, l_Cth (l_x248_2 hL (a1 (by decide))) i (by omega) he hs, by decide, by decide⟩
theorem L_a_allow (hL : q_lay K) (w : l_S K h N R c j) (hj : j < 600000) (h0 : w32 x = x) : l_A K (m_cl Z 249 [(2, ((0 : Nat) : Int)), (0, x)] h) (j + 1) := by
  obtain ⟨σ, e, s, X, rfl, i, he, hs⟩ := w
  obtain ⟨⟨n1, n8⟩, ⟨e0, e12⟩, s0, s6⟩ := wf_b i.1.1
  by_cases c1 : 0 ≤ x ∧ x < N 0 2
  · obtain ⟨τ, t1, t2, -⟩ := (x_allow (Z := Z) (e := e) (s := s) hL i h0).2 c1
    exact ⟨_, _, _, _, l_Cok (l_w249 hL t1) t2 (by omega) he hs, wf_sm i.1.1 (by decide) (by show x.toNat < 6; omega)⟩
  · exact ⟨_, _, _, _, l_Cth (l_x249_0 hL ((x_allow hL i h0).1 c1)) i (by omega) he hs, by decide, by decide⟩
theorem L_a_reset (hL : q_lay K) (w : l_S K h N R c j) (hj : j < 600000) (h0 : w32 x = x) : l_A K (m_cl Z 243 [(2, ((0 : Nat) : Int)), (0, x)] h) (j + 1) := by
  obtain ⟨σ, e, s, X, rfl, i, he, hs⟩ := w
  obtain ⟨⟨n1, n8⟩, ⟨e0, e12⟩, s0, s6⟩ := wf_b i.1.1
  by_cases c1 : 1 ≤ x ∧ x ≤ 8
  · obtain ⟨τ, t1, t2, -⟩ := (x_reset (Z := Z) (e := e) (s := s) hL i h0).2 c1
    exact ⟨_, _, _, _, l_Cok (l_w243 hL t1) t2 (by omega) he hs, q_wi (by omega) (by omega), Or.inl (by omega)⟩
  · exact ⟨_, _, _, _, l_Cth (l_x243_1 hL ((x_reset hL i h0).1 c1)) i (by omega) he hs, by decide, by decide⟩
theorem L_a_undo (hL : q_lay K) (w : l_S K h N R c j) (hj : j < 600000) : l_A K (m_cl Z 272 [(2, ((0 : Nat) : Int))] h) (j + 1) := by
  by_cases c1 : c = 0
  · subst c1
    exact ⟨_, _, _, _, L_undo0 hL w hj, by decide, by decide⟩
  · have h6 := l_Sc w
    exact ⟨_, _, _, _, L_undo hL w hj c1, q_w (by omega), Or.inl (Int.natCast_nonneg _)⟩
theorem L_checksum (hL : q_lay K) (w : l_S K h N R c j) (hj : j < 600000) : ∃ h', m_cl Z 129 [(2, ((0 : Nat) : Int))] h = some (.inl (1, 31 * (31 * vv_ck N + w32 ((0 : Nat) : Int)) + w32 (c : Int)), h') ∧ l_S K h' N R c (j + 1) := by
  obtain ⟨σ, e, s, X, rfl, i, he, hs⟩ := w
  obtain ⟨⟨n1, n8⟩, ⟨e0, e12⟩, s0, s6⟩ := wf_b i.1.1
  have hw := i.1.1
  obtain ⟨τ, v, ν, t1, t2, -, t3, t4, t5, t6⟩ := x_checksum (Z := Z) (e := e) (s := s) hL i (by omega)
  have hv : v = vv_ck N := by
    have hν : ν = vv_cn N := by
      unfold vv_cn
      split
      · next c1 => exact t3 c1
      · next c1 => exact t4 c1
    unfold vv_ck
    by_cases hd : y_cc N
    · rw [if_pos hd]
      obtain ⟨b, b', cr, p, q, f1, f2, f3, f, k1, k2, k3, k4, k5, k6, k7, k8, k9⟩ := t6 hd
      have kb := vv_bfH hw hd k2
      have kc := vv_bfC hw hd k3
      rw [k1, hν]
      unfold y_m2 vv_m2
      rw [y_hk_c (f := f) (f' := fun j => vv_cf N (j / 4) 1 ((j % 4 : Nat) : Int)) _ _ (fun j hj9 => vv_cv hw hd.1 (by omega) (by omega) (by omega) (k9 j hj9))]
      rw [show (fun i : Nat => y_bf (w_Cv N 0) b' (i : Int)) = fun i : Nat => vv_bf (vv_m N) (vv_mr N) (i : Int) from funext fun i => kc i]
      rw [show (fun i : Nat => y_bf (w_Hv N 0 ((2 ^ w_nn N - 1 : Nat) : Int)) b (i : Int)) = fun i : Nat => vv_bf (vv_c N (vv_all N)) (vv_r N (vv_all N)) (i : Int) from funext fun i => kb i]
      rw [kb 3, kb 4, k4, vv_cr_b hw hd k2, q_ptr k6 (by omega), q_ptr k6 (by omega), k8]
      have h2 : f2 (2 ^ w_nn N - 1) = vv_k N 2 := by
        rw [← vv_k_u hw k5]
        rfl
      rw [h2]
      rfl
    · rw [if_neg hd, t5 hd, hν]
  rw [← hv]
  exact ⟨_, t1, τ, e, s, X, rfl, t2, by omega, by omega⟩
end
end
