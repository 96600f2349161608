section
/-! The class's calls: facts, distances. -/
def w_deg (N : Nat → Nat → Int) (x : Int) : Int := q_cnt (fun j => decide (N 6 j = x ∨ N 8 j = x)) (w_ne N)
theorem q_cnt_congr {p p' : Nat → Bool} : ∀ (k : Nat), (∀ j, j < k → p j = p' j) → q_cnt p k = q_cnt p' k
  | 0, _ => rfl
  | k + 1, h => by
    unfold q_cnt
    rw [q_cnt_congr k (fun j hj => h j (by omega)), h k (by omega)]
theorem d_in_jo {F : Int} {N : Nat → Nat → Int} (hN : q_wf N) {g : Nat} : ∀ k, k ≤ w_ne N → g < k → d_in F N k (w_f N g) (w_s N g) ≤ 50 := by
  intro k
  induction k with
  | zero => intro _ h; omega
  | succ k ih =>
    intro hk hg
    have h7 := wf_ed hN (e := k) (by omega)
    unfold d_in
    by_cases c : w_f N g = w_f N k ∧ w_s N g = w_s N k ∨ w_f N g = w_s N k ∧ w_s N g = w_f N k
    · rw [if_pos c]; omega
    · rw [if_neg c]
      by_cases hgk : g = k
      · exact absurd (Or.inl ⟨by rw [hgk], by rw [hgk]⟩) c
      · exact ih (by omega) (by omega)
theorem d_fw_in {F : Int} {N : Nat → Nat → Int} : ∀ k a b, d_fw F N k a b ≤ d_in F N (w_ne N) a b
  | 0, _, _ => Int.le_refl _
  | k + 1, a, b => by
    have := d_fw_in (F := F) (N := N) k a b
    unfold d_fw
    split <;> omega
theorem w_ob2 {N : Nat → Nat → Int} (hw : q_wf N) {g i : Nat} (hg : g < w_ne N) (h : w_D N i (w_f N g) < 1000000) : 0 ≤ w_o N g i ∧ w_o N g i ≤ 12800 ∧ 1 ≤ w_b N g i ∧ w_b N g i ≤ 12850 ∧ N 10 g ≤ w_b N g i := by
  have h7 := wf_ed hw hg
  have b1 := w_D_b hw i (w_f N g)
  have b2 := w_D_b hw i (w_s N g)
  have tri := d_fw_tri (F := 1000000) hw (by omega) (w_nn N) (wf_n hw).2.2 (w_f N g) h7.2.2.1 i (w_s N g)
  have le1 : w_D N (w_f N g) (w_s N g) ≤ 50 := Int.le_trans (d_fw_in _ _ _) (d_in_jo hw _ (Nat.le_refl _) hg)
  have tri' : w_D N i (w_s N g) ≤ w_D N i (w_f N g) + w_D N (w_f N g) (w_s N g) := tri
  unfold w_o w_b
  omega
section
variable {Z : mZ} {K : Nat → mK} {σ τ N M : Nat → Nat → Int} {R : Nat → Nat → Nat → Int} {e s g i L n c k : Nat} {t p q v b x y z : Int} {X : Nat → Int}
theorem x_edge (hL : q_lay K) (h : w_ic σ N R c X L k) (hx : w32 x = x) (hy : w32 y = y) : (¬ (0 ≤ x ∧ x < N 0 1) → m_cl Z 103 [(2, ((0 : Nat) : Int)), (0, x), (0, y)] (K, σ, 191, e, s) = some (.inr 0, (K, σ, 191, e + 1, s + 6))) ∧ (0 ≤ x ∧ x < N 0 1 → ¬ (0 ≤ y ∧ y ≤ 2) → m_cl Z 103 [(2, ((0 : Nat) : Int)), (0, x), (0, y)] (K, σ, 191, e, s) = some (.inr 1, (K, σ, 191, e + 1, s + 6))) ∧ (0 ≤ x ∧ x < N 0 1 → 0 ≤ y ∧ y ≤ 2 → m_cl Z 103 [(2, ((0 : Nat) : Int)), (0, x), (0, y)] (K, σ, 191, e, s) = some (.inl (0, if y = 0 then N 6 x.toNat else if y = 1 then N 8 x.toNat else N 10 x.toNat), (K, σ, 191, e, s))) := by
  have hh := a_hasEdge (Z := Z) (e := e) (s := s) hL h.1 hx
  have e2 : w32 2 = 2 := by decide
  refine ⟨fun hn => ?_, fun hn hm => ?_, fun hn hm => ?_⟩
  · rw [if_neg hn] at hh
    simp only [e_103, b_103_0, b_103_8, b_103_11, b_103_15, b_103_20, b_103_24, b_103_25, b_103_28, b_103_37, ↓reduceIte, Nat.reduceEqDiff, Nat.reduceMul, q_n10, q_n01, Option.bind_some, g_aft0, g_aft1, g_aft2, g_aft3, g_aft9, Nat.reduceAdd, m_kill_0, m_kill_2, m_kill_3, m_kill_4, m_kill_9, true_or, or_true, q_lm1, q_l0, q_l1, q_l2, q_l3, q_l4, q_l5, q_l6, q_l8, q_l9, q_l10, q_l12, q_l32, q_l50, q_l120, q_l122, q_l126, q_l372, q_l1000, q_l1000000, q_clsF hL.1, q_n1F hL, q_obF hL, hh, rq_S0, g_aftE, Nat.reduceLT, m_thr]
  · rw [if_pos hn] at hh
    by_cases c1 : y < 0
    · simp only [e_103, b_103_0, b_103_8, b_103_11, b_103_15, b_103_20, b_103_24, b_103_25, b_103_28, b_103_37, ↓reduceIte, Nat.reduceEqDiff, Nat.reduceMul, q_n10, q_n01, Option.bind_some, g_aft0, g_aft1, g_aft2, g_aft3, g_aft9, Nat.reduceAdd, m_kill_0, m_kill_2, m_kill_3, m_kill_4, m_kill_9, true_or, or_true, q_lm1, q_l0, q_l1, q_l2, q_l3, q_l4, q_l5, q_l6, q_l8, q_l9, q_l10, q_l12, q_l32, q_l50, q_l120, q_l122, q_l126, q_l372, q_l1000, q_l1000000, q_clsF hL.1, q_n1F hL, q_obF hL, hh, rq_S1, hy, c1, rq_V0, g_aftE, Nat.reduceLT, m_thr]
    · have c2 : 2 < y := by clear hx hy hh e2; omega
      simp only [e_103, b_103_0, b_103_8, b_103_11, b_103_15, b_103_20, b_103_24, b_103_25, b_103_28, b_103_37, ↓reduceIte, Nat.reduceEqDiff, Nat.reduceMul, q_n10, q_n01, Option.bind_some, g_aft0, g_aft1, g_aft2, g_aft3, g_aft9, Nat.reduceAdd, m_kill_0, m_kill_2, m_kill_3, m_kill_4, m_kill_9, true_or, or_true, q_lm1, q_l0, q_l1, q_l2, q_l3, q_l4, q_l5, q_l6, q_l8, q_l9, q_l10, q_l12, q_l32, q_l50, q_l120, q_l122, q_l126, q_l372, q_l1000, q_l1000000, q_clsF hL.1, q_n1F hL, q_obF hL, hh, rq_S1, hy, c1, c2, rq_V0, g_aftE, Nat.reduceLT, m_thr]
  · rw [if_pos hn] at hh
    have c1 : ¬ y < 0 := by clear hx hy hh e2; omega
    have c2 : ¬ 2 < y := by clear hx hy hh e2; omega
    have m12 := wf_e h.1.1
    have g1 : q_get σ 7 12 x = N 6 x.toNat := by rw [q_get_ok hn.1 (by clear hx hy hh e2; omega) (by omega)]; exact h.1.2.2 6 x.toNat (by rw [q_len2]; simp; clear hx hy hh e2; omega)
    have g2 : q_get σ 9 12 x = N 8 x.toNat := by rw [q_get_ok hn.1 (by clear hx hy hh e2 g1; omega) (by omega)]; exact h.1.2.2 8 x.toNat (by rw [q_len2]; simp; clear hx hy hh e2 g1; omega)
    have g3 : q_get σ 11 12 x = N 10 x.toNat := by rw [q_get_ok hn.1 (by clear hx hy hh e2 g1 g2; omega) (by omega)]; exact h.1.2.2 10 x.toNat (by rw [q_len2]; simp; clear hx hy hh e2 g1 g2; omega)
    have hf := n_edgeFact (Z := Z) (n := 191) (e := e) (s := s) (σ := σ) (x := x) (w := y) (q_ntN hL).1
    rw [hy, show 1 + 6 = 7 from rfl, show 1 + 8 = 9 from rfl, show 1 + 10 = 11 from rfl, g1, g2, g3] at hf
    simp only [e_103, b_103_0, b_103_8, b_103_11, b_103_15, b_103_20, b_103_24, b_103_25, b_103_28, b_103_37, ↓reduceIte, Nat.reduceEqDiff, Nat.reduceMul, q_n10, q_n01, Option.bind_some, g_aft0, g_aft1, g_aft2, g_aft3, g_aft9, Nat.reduceAdd, m_kill_0, m_kill_2, m_kill_3, m_kill_4, m_kill_9, true_or, or_true, q_lm1, q_l0, q_l1, q_l2, q_l3, q_l4, q_l5, q_l6, q_l8, q_l9, q_l10, q_l12, q_l32, q_l50, q_l120, q_l122, q_l126, q_l372, q_l1000, q_l1000000, q_clsF hL.1, q_n1F hL, q_obF hL, hh, rq_S1, rq_V1, hy, c1, c2, hf]
theorem x_node (hL : q_lay K) (h : w_ic σ N R c X L k) (hx : w32 x = x) (hy : w32 y = y) : (¬ (0 ≤ x ∧ x < N 0 0) → m_cl Z 104 [(2, ((0 : Nat) : Int)), (0, x), (0, y)] (K, σ, 191, e, s) = some (.inr 0, (K, σ, 191, e + 1, s + 6))) ∧ (0 ≤ x ∧ x < N 0 0 → ¬ (0 ≤ y ∧ y ≤ 2) → m_cl Z 104 [(2, ((0 : Nat) : Int)), (0, x), (0, y)] (K, σ, 191, e, s) = some (.inr 1, (K, σ, 191, e + 1, s + 6))) ∧ (0 ≤ x ∧ x < N 0 0 → 0 ≤ y ∧ y ≤ 2 → m_cl Z 104 [(2, ((0 : Nat) : Int)), (0, x), (0, y)] (K, σ, 191, e, s) = some (.inl (0, if y = 0 then N 2 x.toNat else if y = 1 then N 4 x.toNat else w_deg N x), (K, σ, 191, e, s))) := by
  have hh := a_hasNode (Z := Z) (e := e) (s := s) hL h.1 hx
  have e2 : w32 2 = 2 := by decide
  refine ⟨fun hn => ?_, fun hn hm => ?_, fun hn hm => ?_⟩
  · rw [if_neg hn] at hh
    simp only [e_104, b_104_0, b_104_8, b_104_11, b_104_15, b_104_20, b_104_24, b_104_25, b_104_28, b_104_37, ↓reduceIte, Nat.reduceEqDiff, Nat.reduceMul, q_n10, q_n01, Option.bind_some, g_aft0, g_aft1, g_aft2, g_aft3, g_aft9, Nat.reduceAdd, m_kill_0, m_kill_2, m_kill_3, m_kill_4, m_kill_9, true_or, or_true, q_lm1, q_l0, q_l1, q_l2, q_l3, q_l4, q_l5, q_l6, q_l8, q_l9, q_l10, q_l12, q_l32, q_l50, q_l120, q_l122, q_l126, q_l372, q_l1000, q_l1000000, q_clsF hL.1, q_n1F hL, q_obF hL, hh, rq_S0, g_aftE, Nat.reduceLT, m_thr]
  · rw [if_pos hn] at hh
    by_cases c1 : y < 0
    · simp only [e_104, b_104_0, b_104_8, b_104_11, b_104_15, b_104_20, b_104_24, b_104_25, b_104_28, b_104_37, ↓reduceIte, Nat.reduceEqDiff, Nat.reduceMul, q_n10, q_n01, Option.bind_some, g_aft0, g_aft1, g_aft2, g_aft3, g_aft9, Nat.reduceAdd, m_kill_0, m_kill_2, m_kill_3, m_kill_4, m_kill_9, true_or, or_true, q_lm1, q_l0, q_l1, q_l2, q_l3, q_l4, q_l5, q_l6, q_l8, q_l9, q_l10, q_l12, q_l32, q_l50, q_l120, q_l122, q_l126, q_l372, q_l1000, q_l1000000, q_clsF hL.1, q_n1F hL, q_obF hL, hh, rq_S1, hy, c1, rq_V0, g_aftE, Nat.reduceLT, m_thr]
    · have c2 : 2 < y := by clear hx hy hh e2; omega
      simp only [e_104, b_104_0, b_104_8, b_104_11, b_104_15, b_104_20, b_104_24, b_104_25, b_104_28, b_104_37, ↓reduceIte, Nat.reduceEqDiff, Nat.reduceMul, q_n10, q_n01, Option.bind_some, g_aft0, g_aft1, g_aft2, g_aft3, g_aft9, Nat.reduceAdd, m_kill_0, m_kill_2, m_kill_3, m_kill_4, m_kill_9, true_or, or_true, q_lm1, q_l0, q_l1, q_l2, q_l3, q_l4, q_l5, q_l6, q_l8, q_l9, q_l10, q_l12, q_l32, q_l50, q_l120, q_l122, q_l126, q_l372, q_l1000, q_l1000000, q_clsF hL.1, q_n1F hL, q_obF hL, hh, rq_S1, hy, c1, c2, rq_V0, g_aftE, Nat.reduceLT, m_thr]
  · rw [if_pos hn] at hh
    have c1 : ¬ y < 0 := by clear hx hy hh e2; omega
    have c2 : ¬ 2 < y := by clear hx hy hh e2; omega
    have h8 := h.1.1.1
    have m12 := wf_e h.1.1
    obtain ⟨n1, n2, n3, n4, n5⟩ := w_in0_n h.1
    have g1 : q_get σ 3 8 x = N 2 x.toNat := by rw [q_get_ok hn.1 (by clear hx hy hh e2 n1 n2 n3 n4 n5; omega) (by omega)]; exact h.1.2.2 2 x.toNat (by rw [q_len2]; simp; clear hx hy hh e2 n1 n2 n3 n4 n5; omega)
    have g2 : q_get σ 5 8 x = N 4 x.toNat := by rw [q_get_ok hn.1 (by clear hx hy hh e2 g1 n1 n2 n3 n4 n5; omega) (by omega)]; exact h.1.2.2 4 x.toNat (by rw [q_len2]; simp; clear hx hy hh e2 g1 n1 n2 n3 n4 n5; omega)
    have g3 : q_cnt (q_et σ 1 x) (w_ne N) = w_deg N x := by
      refine q_cnt_congr _ (fun j hj => ?_)
      have b6 := w_sml h.1.1 (r := 6) (j := j) (by rw [q_len2]; simp; clear hx hy hh e2 g1 g2 n1 n2 n3 n4 n5; omega)
      have b8 := w_sml h.1.1 (r := 8) (j := j) (by rw [q_len2]; simp; clear hx hy hh e2 g1 g2 n1 n2 n3 n4 n5; omega)
      unfold q_et
      rw [h.1.2.2 6 j (by rw [q_len2]; simp; clear hx hy hh e2 g1 g2 n1 n2 n3 n4 n5; omega), h.1.2.2 8 j (by rw [q_len2]; simp; clear hx hy hh e2 g1 g2 n1 n2 n3 n4 n5; omega), hx, q_wi (by clear hx hy hh e2 g1 g2 n1 n2 n3 n4 n5; omega) (by clear hx hy hh e2 g1 g2 n1 n2 n3 n4 n5; omega), q_wi (by clear hx hy hh e2 g1 g2 n1 n2 n3 n4 n5; omega) (by clear hx hy hh e2 g1 g2 n1 n2 n3 n4 n5; omega)]
    have hf := n_nodeFact (Z := Z) (n := 191) (e := e) (s := s) (σ := σ) (x := x) (w := y) (E := w_ne N) (q_ntN hL).1 n2 m12.2
    rw [hy, show 1 + 2 = 3 from rfl, show 1 + 4 = 5 from rfl, g1, g2, g3] at hf
    simp only [e_104, b_104_0, b_104_8, b_104_11, b_104_15, b_104_20, b_104_24, b_104_25, b_104_28, b_104_37, ↓reduceIte, Nat.reduceEqDiff, Nat.reduceMul, q_n10, q_n01, Option.bind_some, g_aft0, g_aft1, g_aft2, g_aft3, g_aft9, Nat.reduceAdd, m_kill_0, m_kill_2, m_kill_3, m_kill_4, m_kill_9, true_or, or_true, q_lm1, q_l0, q_l1, q_l2, q_l3, q_l4, q_l5, q_l6, q_l8, q_l9, q_l10, q_l12, q_l32, q_l50, q_l120, q_l122, q_l126, q_l372, q_l1000, q_l1000000, q_clsF hL.1, q_n1F hL, q_obF hL, hh, rq_S1, rq_V1, hy, c1, c2, hf]
theorem x_stretch (hL : q_lay K) (h : w_ic σ N R c X L k) (hx : w32 x = x) (hy : w32 y = y) : (¬ (0 ≤ x ∧ x < N 0 2) → m_cl Z 105 [(2, ((0 : Nat) : Int)), (0, x), (0, y)] (K, σ, 191, e, s) = some (.inr 0, (K, σ, 191, e + 1, s + 6))) ∧ (0 ≤ x ∧ x < N 0 2 → ¬ (0 ≤ y ∧ y ≤ 2) → m_cl Z 105 [(2, ((0 : Nat) : Int)), (0, x), (0, y)] (K, σ, 191, e, s) = some (.inr 1, (K, σ, 191, e + 1, s + 6))) ∧ (0 ≤ x ∧ x < N 0 2 → 0 ≤ y ∧ y ≤ 2 → m_cl Z 105 [(2, ((0 : Nat) : Int)), (0, x), (0, y)] (K, σ, 191, e, s) = some (.inl (0, if y = 0 then N 12 x.toNat else if y = 1 then N 14 x.toNat else N 16 x.toNat), (K, σ, 191, e, s))) := by
  have hh := a_hasStretch (Z := Z) (e := e) (s := s) hL h.1 hx
  have e2 : w32 2 = 2 := by decide
  refine ⟨fun hn => ?_, fun hn hm => ?_, fun hn hm => ?_⟩
  · rw [if_neg hn] at hh
    simp only [e_105, b_105_0, b_105_8, b_105_11, b_105_15, b_105_20, b_105_24, b_105_25, b_105_28, b_105_37, ↓reduceIte, Nat.reduceEqDiff, Nat.reduceMul, q_n10, q_n01, Option.bind_some, g_aft0, g_aft1, g_aft2, g_aft3, g_aft9, Nat.reduceAdd, m_kill_0, m_kill_2, m_kill_3, m_kill_4, m_kill_9, true_or, or_true, q_lm1, q_l0, q_l1, q_l2, q_l3, q_l4, q_l5, q_l6, q_l8, q_l9, q_l10, q_l12, q_l32, q_l50, q_l120, q_l122, q_l126, q_l372, q_l1000, q_l1000000, q_clsF hL.1, q_n1F hL, q_obF hL, hh, rq_S0, g_aftE, Nat.reduceLT, m_thr]
  · rw [if_pos hn] at hh
    by_cases c1 : y < 0
    · simp only [e_105, b_105_0, b_105_8, b_105_11, b_105_15, b_105_20, b_105_24, b_105_25, b_105_28, b_105_37, ↓reduceIte, Nat.reduceEqDiff, Nat.reduceMul, q_n10, q_n01, Option.bind_some, g_aft0, g_aft1, g_aft2, g_aft3, g_aft9, Nat.reduceAdd, m_kill_0, m_kill_2, m_kill_3, m_kill_4, m_kill_9, true_or, or_true, q_lm1, q_l0, q_l1, q_l2, q_l3, q_l4, q_l5, q_l6, q_l8, q_l9, q_l10, q_l12, q_l32, q_l50, q_l120, q_l122, q_l126, q_l372, q_l1000, q_l1000000, q_clsF hL.1, q_n1F hL, q_obF hL, hh, rq_S1, hy, c1, rq_V0, g_aftE, Nat.reduceLT, m_thr]
    · have c2 : 2 < y := by clear hx hy hh e2; omega
      simp only [e_105, b_105_0, b_105_8, b_105_11, b_105_15, b_105_20, b_105_24, b_105_25, b_105_28, b_105_37, ↓reduceIte, Nat.reduceEqDiff, Nat.reduceMul, q_n10, q_n01, Option.bind_some, g_aft0, g_aft1, g_aft2, g_aft3, g_aft9, Nat.reduceAdd, m_kill_0, m_kill_2, m_kill_3, m_kill_4, m_kill_9, true_or, or_true, q_lm1, q_l0, q_l1, q_l2, q_l3, q_l4, q_l5, q_l6, q_l8, q_l9, q_l10, q_l12, q_l32, q_l50, q_l120, q_l122, q_l126, q_l372, q_l1000, q_l1000000, q_clsF hL.1, q_n1F hL, q_obF hL, hh, rq_S1, hy, c1, c2, rq_V0, g_aftE, Nat.reduceLT, m_thr]
  · rw [if_pos hn] at hh
    have c1 : ¬ y < 0 := by clear hx hy hh e2; omega
    have c2 : ¬ 2 < y := by clear hx hy hh e2; omega
    have m12 := wf_s h.1.1
    have g1 : q_get σ 13 6 x = N 12 x.toNat := by rw [q_get_ok hn.1 (by clear hx hy hh e2; omega) (by omega)]; exact h.1.2.2 12 x.toNat (by rw [q_len2]; simp; clear hx hy hh e2; omega)
    have g2 : q_get σ 15 6 x = N 14 x.toNat := by rw [q_get_ok hn.1 (by clear hx hy hh e2 g1; omega) (by omega)]; exact h.1.2.2 14 x.toNat (by rw [q_len2]; simp; clear hx hy hh e2 g1; omega)
    have g3 : q_get σ 17 6 x = N 16 x.toNat := by rw [q_get_ok hn.1 (by clear hx hy hh e2 g1 g2; omega) (by omega)]; exact h.1.2.2 16 x.toNat (by rw [q_len2]; simp; clear hx hy hh e2 g1 g2; omega)
    have hf := n_stretchFact (Z := Z) (n := 191) (e := e) (s := s) (σ := σ) (x := x) (w := y) (q_ntN hL).1
    rw [hy, show 1 + 12 = 13 from rfl, show 1 + 14 = 15 from rfl, show 1 + 16 = 17 from rfl, g1, g2, g3] at hf
    simp only [e_105, b_105_0, b_105_8, b_105_11, b_105_15, b_105_20, b_105_24, b_105_25, b_105_28, b_105_37, ↓reduceIte, Nat.reduceEqDiff, Nat.reduceMul, q_n10, q_n01, Option.bind_some, g_aft0, g_aft1, g_aft2, g_aft3, g_aft9, Nat.reduceAdd, m_kill_0, m_kill_2, m_kill_3, m_kill_4, m_kill_9, true_or, or_true, q_lm1, q_l0, q_l1, q_l2, q_l3, q_l4, q_l5, q_l6, q_l8, q_l9, q_l10, q_l12, q_l32, q_l50, q_l120, q_l122, q_l126, q_l372, q_l1000, q_l1000000, q_clsF hL.1, q_n1F hL, q_obF hL, hh, rq_S1, rq_V1, hy, c1, c2, hf]
theorem x_distance (hL : q_lay K) (h : w_ic σ N R c X L k) (hk : k < 999999) (hx : w32 x = x) (hy : w32 y = y) : (¬ ((0 ≤ x ∧ x < N 0 0) ∧ 0 ≤ y ∧ y < N 0 0) → m_cl Z 106 [(2, ((0 : Nat) : Int)), (0, x), (0, y)] (K, σ, 191, e, s) = some (.inr 0, (K, σ, 191, e + 1, s + 6))) ∧ ((0 ≤ x ∧ x < N 0 0) ∧ (0 ≤ y ∧ y < N 0 0) → ∃ τ, m_cl Z 106 [(2, ((0 : Nat) : Int)), (0, x), (0, y)] (K, σ, 191, e, s) = some (.inl (0, if w_D N x.toNat y.toNat < 1000000 then w_D N x.toNat y.toNat else -1), (K, τ, 191, e, s)) ∧ w_ic τ N R c X L (k + 1) ∧ ∀ a, 191 ≤ a → τ a = σ a) := by
  have h1 := a_hasNode (Z := Z) (e := e) (s := s) hL h.1 hx
  have h2 := a_hasNode (Z := Z) (e := e) (s := s) hL h.1 hy
  constructor
  · intro hn
    by_cases c1 : 0 ≤ x ∧ x < N 0 0
    · rw [if_pos c1] at h1
      rw [if_neg (fun q => hn ⟨c1, q⟩)] at h2
      simp only [e_106, b_106_0, b_106_8, b_106_11, b_106_19, b_106_22, b_106_26, b_106_27, b_106_30, b_106_42, b_106_51, b_106_58, b_106_62, b_106_63, ↓reduceIte, Nat.reduceEqDiff, Nat.reduceMul, q_n10, q_n01, Option.bind_some, g_aft0, g_aft1, g_aft2, g_aft3, g_aft9, Nat.reduceAdd, m_kill_0, m_kill_2, m_kill_3, m_kill_4, m_kill_9, true_or, or_true, q_lm1, q_l0, q_l1, q_l2, q_l3, q_l4, q_l5, q_l6, q_l8, q_l9, q_l10, q_l12, q_l32, q_l50, q_l120, q_l122, q_l126, q_l372, q_l1000, q_l1000000, q_clsF hL.1, q_n1F hL, q_obF hL, h1, h2, rq_S0, g_aftE, Nat.reduceLT, m_thr]
    · rw [if_neg c1] at h1
      simp only [e_106, b_106_0, b_106_8, b_106_11, b_106_19, b_106_22, b_106_26, b_106_27, b_106_30, b_106_42, b_106_51, b_106_58, b_106_62, b_106_63, ↓reduceIte, Nat.reduceEqDiff, Nat.reduceMul, q_n10, q_n01, Option.bind_some, g_aft0, g_aft1, g_aft2, g_aft3, g_aft9, Nat.reduceAdd, m_kill_0, m_kill_2, m_kill_3, m_kill_4, m_kill_9, true_or, or_true, q_lm1, q_l0, q_l1, q_l2, q_l3, q_l4, q_l5, q_l6, q_l8, q_l9, q_l10, q_l12, q_l32, q_l50, q_l120, q_l122, q_l126, q_l372, q_l1000, q_l1000000, q_clsF hL.1, q_n1F hL, q_obF hL, h1, rq_S0, g_aftE, Nat.reduceLT, m_thr]
  · intro hn
    rw [if_pos hn.1] at h1
    rw [if_pos hn.2] at h2
    obtain ⟨τ, t1, t2, t3, t4⟩ := x_take (Z := Z) (e := e) (s := s) (t := 0) hL h hk (by omega) (by omega)
    have n0 := wf_n h.1.1
    have hb := s_between (Z := Z) (e := e) (s := s) (σ := τ) (x := x) (y := y) hL
    have hbe := v_bet t2.2.2.2.1.2.2.1 h.1.1 (a := x.toNat) (b := y.toNat) (by clear hx hy h1 h2; omega) (by clear hx hy h1 h2; omega)
    have ex : ((x.toNat : Nat) : Int) = x := by clear hx hy h1 h2 hbe; omega
    have ey : ((y.toNat : Nat) : Int) = y := by clear hx hy h1 h2 hbe; omega
    rw [ex, ey] at hbe
    rw [hbe] at hb
    have bD := w_D_b h.1.1 x.toNat y.toNat
    have wD : w32 (w_D N x.toNat y.toNat) = w_D N x.toNat y.toNat := by clear hx hy h1 h2 hbe; exact q_wB (by omega) (by omega)
    refine ⟨τ, ?_, t3, fun a ha => t4 a (by omega)⟩
    by_cases c1 : w_D N x.toNat y.toNat < 1000000
    · rw [if_pos c1]
      have c1' := Int.not_le.mpr c1
      simp only [e_106, b_106_0, b_106_8, b_106_11, b_106_19, b_106_22, b_106_26, b_106_27, b_106_30, b_106_42, b_106_51, b_106_58, b_106_62, b_106_63, ↓reduceIte, Nat.reduceEqDiff, Nat.reduceMul, q_n10, q_n01, Option.bind_some, g_aft0, g_aft1, g_aft2, g_aft3, g_aft9, Nat.reduceAdd, m_kill_0, m_kill_2, m_kill_3, m_kill_4, m_kill_9, true_or, or_true, q_lm1, q_l0, q_l1, q_l2, q_l3, q_l4, q_l5, q_l6, q_l8, q_l9, q_l10, q_l12, q_l32, q_l50, q_l120, q_l122, q_l126, q_l372, q_l1000, q_l1000000, q_clsF hL.1, q_n1F hL, q_obF hL, h1, h2, rq_S1, t1, hb, wD, c1, c1']
    · rw [if_neg c1]
      have c1' := Int.not_lt.mp c1
      simp only [e_106, b_106_0, b_106_8, b_106_11, b_106_19, b_106_22, b_106_26, b_106_27, b_106_30, b_106_42, b_106_51, b_106_58, b_106_62, b_106_63, ↓reduceIte, Nat.reduceEqDiff, Nat.reduceMul, q_n10, q_n01, Option.bind_some, g_aft0, g_aft1, g_aft2, g_aft3, g_aft9, Nat.reduceAdd, m_kill_0, m_kill_2, m_kill_3, m_kill_4, m_kill_9, true_or, or_true, q_lm1, q_l0, q_l1, q_l2, q_l3, q_l4, q_l5, q_l6, q_l8, q_l9, q_l10, q_l12, q_l32, q_l50, q_l120, q_l122, q_l126, q_l372, q_l1000, q_l1000000, q_clsF hL.1, q_n1F hL, q_obF hL, h1, h2, rq_S1, t1, hb, wD, c1, c1']
theorem x_next (hL : q_lay K) (h : w_ic σ N R c X L k) (hk : k < 999999) (hx : w32 x = x) (hy : w32 y = y) : (¬ ((0 ≤ x ∧ x < N 0 0) ∧ 0 ≤ y ∧ y < N 0 0) → m_cl Z 107 [(2, ((0 : Nat) : Int)), (0, x), (0, y)] (K, σ, 191, e, s) = some (.inr 0, (K, σ, 191, e + 1, s + 6))) ∧ ((0 ≤ x ∧ x < N 0 0) ∧ (0 ≤ y ∧ y < N 0 0) → ∃ τ, m_cl Z 107 [(2, ((0 : Nat) : Int)), (0, x), (0, y)] (K, σ, 191, e, s) = some (.inl (0, w_fs N x.toNat y.toNat), (K, τ, 191, e, s)) ∧ w_ic τ N R c X L (k + 1) ∧ ∀ a, 191 ≤ a → τ a = σ a) := by
  have h1 := a_hasNode (Z := Z) (e := e) (s := s) hL h.1 hx
  have h2 := a_hasNode (Z := Z) (e := e) (s := s) hL h.1 hy
  constructor
  · intro hn
    by_cases c1 : 0 ≤ x ∧ x < N 0 0
    · rw [if_pos c1] at h1
      rw [if_neg (fun q => hn ⟨c1, q⟩)] at h2
      simp only [e_107, b_107_0, b_107_8, b_107_11, b_107_19, b_107_22, b_107_26, b_107_27, b_107_30, b_107_42, b_107_51, ↓reduceIte, Nat.reduceEqDiff, Nat.reduceMul, q_n10, q_n01, Option.bind_some, g_aft0, g_aft1, g_aft2, g_aft3, g_aft9, Nat.reduceAdd, m_kill_0, m_kill_2, m_kill_3, m_kill_4, m_kill_9, true_or, or_true, q_lm1, q_l0, q_l1, q_l2, q_l3, q_l4, q_l5, q_l6, q_l8, q_l9, q_l10, q_l12, q_l32, q_l50, q_l120, q_l122, q_l126, q_l372, q_l1000, q_l1000000, q_clsF hL.1, q_n1F hL, q_obF hL, h1, h2, rq_S0, g_aftE, Nat.reduceLT, m_thr]
    · rw [if_neg c1] at h1
      simp only [e_107, b_107_0, b_107_8, b_107_11, b_107_19, b_107_22, b_107_26, b_107_27, b_107_30, b_107_42, b_107_51, ↓reduceIte, Nat.reduceEqDiff, Nat.reduceMul, q_n10, q_n01, Option.bind_some, g_aft0, g_aft1, g_aft2, g_aft3, g_aft9, Nat.reduceAdd, m_kill_0, m_kill_2, m_kill_3, m_kill_4, m_kill_9, true_or, or_true, q_lm1, q_l0, q_l1, q_l2, q_l3, q_l4, q_l5, q_l6, q_l8, q_l9, q_l10, q_l12, q_l32, q_l50, q_l120, q_l122, q_l126, q_l372, q_l1000, q_l1000000, q_clsF hL.1, q_n1F hL, q_obF hL, h1, rq_S0, g_aftE, Nat.reduceLT, m_thr]
  · intro hn
    rw [if_pos hn.1] at h1
    rw [if_pos hn.2] at h2
    obtain ⟨τ, t1, t2, t3, t4⟩ := x_take (Z := Z) (e := e) (s := s) (t := 0) hL h hk (by omega) (by omega)
    have n0 := wf_n h.1.1
    have hf := s_first (Z := Z) (e := e) (s := s) (a := x.toNat) (b := y.toNat) hL t2.2.2.2.1.1 t2.2.2.2.1.2.2.1 h.1.1 (by clear hx hy h1 h2; omega) (by clear hx hy h1 h2; omega)
    have ex : ((x.toNat : Nat) : Int) = x := by clear hx hy h1 h2 hf; omega
    have ey : ((y.toNat : Nat) : Int) = y := by clear hx hy h1 h2 hf; omega
    rw [ex, ey] at hf
    refine ⟨τ, ?_, t3, fun a ha => t4 a (by omega)⟩
    simp only [e_107, b_107_0, b_107_8, b_107_11, b_107_19, b_107_22, b_107_26, b_107_27, b_107_30, b_107_42, b_107_51, ↓reduceIte, Nat.reduceEqDiff, Nat.reduceMul, q_n10, q_n01, Option.bind_some, g_aft0, g_aft1, g_aft2, g_aft3, g_aft9, Nat.reduceAdd, m_kill_0, m_kill_2, m_kill_3, m_kill_4, m_kill_9, true_or, or_true, q_lm1, q_l0, q_l1, q_l2, q_l3, q_l4, q_l5, q_l6, q_l8, q_l9, q_l10, q_l12, q_l32, q_l50, q_l120, q_l122, q_l126, q_l372, q_l1000, q_l1000000, q_clsF hL.1, q_n1F hL, q_obF hL, h1, h2, rq_S1, t1, hf]
theorem x_diameter (hL : q_lay K) (h : w_ic σ N R c X L k) (hk : k < 999999) : ∃ τ v, m_cl Z 108 [(2, ((0 : Nat) : Int))] (K, σ, 191, e, s) = some (.inl (0, v), (K, τ, 191, e, s)) ∧ w_ic τ N R c X L (k + 1) ∧ (∀ a, 191 ≤ a → τ a = σ a) ∧ (w_cn N → v = w_gd (w_D N) (w_nn N)) ∧ (¬ w_cn N → v = -1) := by
  obtain ⟨τ, t1, t2, t3, t4⟩ := x_take (Z := Z) (e := e) (s := s) (t := 0) hL h hk (by omega) (by omega)
  have vc : v_c τ N := t2.2.2.2.2.1
  by_cases hc : w_cn N
  · have hg := s_greatest (Z := Z) (e := e) (s := s) hL t2.2.2.2.1.1 t2.2.2.2.1.2.2.1 h.1.1
    refine ⟨τ, _, ?_, t3, fun a ha => t4 a (by omega), fun _ => rfl, fun q => absurd hc q⟩
    simp only [e_108, b_108_0, b_108_12, b_108_22, b_108_29, b_108_32, b_108_33, ↓reduceIte, Nat.reduceEqDiff, Nat.reduceMul, q_n10, q_n01, Option.bind_some, g_aft0, g_aft1, g_aft2, g_aft3, g_aft9, Nat.reduceAdd, m_kill_0, m_kill_2, m_kill_3, m_kill_4, m_kill_9, true_or, or_true, q_lm1, q_l0, q_l1, q_l2, q_l3, q_l4, q_l5, q_l6, q_l8, q_l9, q_l10, q_l12, q_l32, q_l50, q_l120, q_l122, q_l126, q_l372, q_l1000, q_l1000000, q_clsF hL.1, q_n1F hL, q_obF hL, t1, vc.1 hc, hg]
  · refine ⟨τ, -1, ?_, t3, fun a ha => t4 a (by omega), fun q => absurd q hc, fun _ => rfl⟩
    simp only [e_108, b_108_0, b_108_12, b_108_22, b_108_29, b_108_32, b_108_33, ↓reduceIte, Nat.reduceEqDiff, Nat.reduceMul, q_n10, q_n01, Option.bind_some, g_aft0, g_aft1, g_aft2, g_aft3, g_aft9, Nat.reduceAdd, m_kill_0, m_kill_2, m_kill_3, m_kill_4, m_kill_9, true_or, or_true, q_lm1, q_l0, q_l1, q_l2, q_l3, q_l4, q_l5, q_l6, q_l8, q_l9, q_l10, q_l12, q_l32, q_l50, q_l120, q_l122, q_l126, q_l372, q_l1000, q_l1000000, q_clsF hL.1, q_n1F hL, q_obF hL, t1, vc.2 hc]
end
end
