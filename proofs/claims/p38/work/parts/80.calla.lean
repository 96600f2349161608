section
/-! The class's calls: without an edge; the text; undo. -/
theorem ds_rmS {p j : Nat} {N : Nat → Nat → Int} (hj : j ≠ 2) : w_rmS p N 0 j = N 0 j := by
  unfold w_rmS
  rw [m_up2_nk hj, q_rem_ne (by omega), q_rem_ne (by omega), q_rem_ne (by omega)]
theorem ds_rm1 {e k j : Nat} {x : (Nat → Nat → Int) × Int} (hj : j ≠ 2) : (w_rm1 e k x).1 0 j = x.1 0 j := by
  unfold w_rm1
  by_cases c1 : x.1 12 k = (e : Int)
  · rw [if_pos c1]
    exact ds_rmS hj
  · rw [if_neg c1]
    by_cases c2 : (e : Int) < x.1 12 k
    · rw [if_pos c2]
      exact congrFun (m_up2_ne (f := x.1) (a := 12) (k := k) (v := x.1 12 k - 1) (b := 0) (by decide)) j
    · rw [if_neg c2]
theorem ds_rms {e : Nat} : ∀ (k : Nat) (x : (Nat → Nat → Int) × Int), (w_rms e k x).1 0 0 = x.1 0 0 ∧ (w_rms e k x).1 0 1 = x.1 0 1
  | 0, _ => ⟨rfl, rfl⟩
  | k + 1, x => by
    show (w_rms e k (w_rm1 e k x)).1 0 0 = x.1 0 0 ∧ (w_rms e k (w_rm1 e k x)).1 0 1 = x.1 0 1
    have ih := ds_rms (e := e) k (w_rm1 e k x)
    rw [ih.1, ih.2]
    exact ⟨ds_rm1 (by omega), ds_rm1 (by omega)⟩
theorem ds_00 {e : Nat} {N : Nat → Nat → Int} : o_ds e N 0 0 = N 0 0 ∧ o_ds e N 0 1 = N 0 1 - 1 := by
  have h := ds_rms (e := e) (w_ns N) (N, 0)
  unfold o_ds w_cut
  exact ⟨by rw [m_up2_nk (by omega), q_rem_ne (by omega), q_rem_ne (by omega), q_rem_ne (by omega)]; exact h.1, by rw [m_up2_at, h.2]⟩
section
variable {Z : mZ} {K : Nat → mK} {σ τ N M : Nat → Nat → Int} {R : Nat → Nat → Nat → Int} {e s g i L n c k a : Nat} {t p q v b x y z w u S : Int} {X : Nat → Int}
theorem w_icT {X' : Nat → Int} {L' : Nat} (h : w_ic σ N R c X L k) (hf : ∀ a, a < 186 → τ a = σ a) (ht : w_tx τ X' L') : w_ic τ N R c X' L' k := by
  obtain ⟨a1, a2, -, a4, a5, a6⟩ := h
  have hs := w_sgi (σ := σ) (τ := τ) (fun a _ ha => hf a ha)
  exact ⟨⟨a1.1, a1.2.1, nAt_fr a1.2.2 (fun a _ _ => hf a (by omega))⟩, w_ir_fr a2 (by rw [hf 0 (by omega)]) (fun a _ _ => hf a (by omega)), ht, hs.1 a4, by rw [hf 138 (by omega)]; exact a5, hs.2 a6⟩
/-- another network measured -/
theorem x_take2 (hL : q_lay K) (h : w_ic σ N R c X L k) (hk : k < 999999) (hA : q_net K 191 a) (ha : a + 17 ≤ 138) (hn : nAt σ a M) (hw : q_wf M) (hfM : q_nf M) : ∃ τ, m_cl Z 65 [(2, ((138 : Nat) : Int)), (2, ((a : Nat) : Int)), (0, 0)] (K, σ, 191, e, s) = some (.inl (9, 0), (K, τ, 191, e, s)) ∧ w_sv τ M 0 ∧ w_ic τ N R c X L (k + 1) ∧ ∀ x, x < 138 ∨ 170 ≤ x → τ x = σ x := by
  obtain ⟨a1, a2, a3, a4, a5, c1, c2, c3⟩ := h
  obtain ⟨τ, t1, t2, t3, t4⟩ := s_take (Z := Z) (e := e) (s := s) hL hA ha hn hw hfM (Int.le_refl 0) (by decide) a4
  refine ⟨τ, t1, t2, ⟨⟨a1.1, a1.2.1, nAt_fr a1.2.2 (fun a _ _ => t4 a (by omega))⟩, w_ir_fr a2 (by rw [t4 0 (by omega)]) (fun a _ _ => t4 a (by omega)), w_tx_fr a3 (by rw [t4 186 (by omega)]) (t4 188 (by omega)), ?_, ?_, ?_⟩, t4⟩
  · have b := a4.1
    rcases t3 with t3 | t3
    · rw [t3]; exact a4
    · exact ⟨by rw [t3]; omega, by rw [t3]; omega, Or.inr ⟨M, 0, t2⟩⟩
  · rcases t3 with t3 | t3
    · rw [t3]; omega
    · rw [t3]; omega
  · have e7 := t4 177 (by omega)
    rcases t3 with t3 | t3
    · rw [t3]; exact ⟨c1, c2, c3⟩
    · exact ⟨by rw [e7]; exact c1, by rw [e7, t3]; omega, fun q1 q2 => by rw [e7, t3] at q2; omega⟩
theorem x_without (hL : q_lay K) (h : w_ic σ N R c X L k) (hk : k < 999999) (hx : w32 x = x) (hy : w32 y = y) :
    (¬ (0 ≤ x ∧ x < N 0 1) → m_cl Z 123 [(2, ((0 : Nat) : Int)), (0, x), (0, y)] (K, σ, 191, e, s) = some (.inr 0, (K, σ, 191, e + 1, s + 6))) ∧
    ((0 ≤ x ∧ x < N 0 1) → ¬ (y = 0 ∨ y = 1) → m_cl Z 123 [(2, ((0 : Nat) : Int)), (0, x), (0, y)] (K, σ, 191, e, s) = some (.inr 1, (K, σ, 191, e + 1, s + 6))) ∧
    ((0 ≤ x ∧ x < N 0 1) → (y = 0 ∨ y = 1) → ∃ τ, w_ic τ N R c X L (k + 1) ∧ (∀ a, 191 ≤ a → τ a = σ a) ∧ (¬ y_cc (o_ds x.toNat N) → m_cl Z 123 [(2, ((0 : Nat) : Int)), (0, x), (0, y)] (K, σ, 191, e, s) = some (.inl (0, -1), (K, τ, 191, e, s))) ∧ (y_cc (o_ds x.toNat N) → ∃ b, w_best (w_Hv (o_ds x.toNat N) 0 ((2 ^ w_nn N - 1 : Nat) : Int)) (w_pts (o_ds x.toNat N) 0) b ∧ m_cl Z 123 [(2, ((0 : Nat) : Int)), (0, x), (0, y)] (K, σ, 191, e, s) = some (.inl (0, w_red (w_Hv (o_ds x.toNat N) 0 ((2 ^ w_nn N - 1 : Nat) : Int) b) b.2.2 y), (K, τ, 191, e, s)))) := by
  have h2 := a_hasEdge (Z := Z) (e := e) (s := s) hL h.1 hx
  have hpa := a_isPart (Z := Z) (h := (K, σ, 191, e, s)) hy
  have hne := wf_e h.1.1
  have hns := wf_s h.1.1
  refine ⟨fun hn => ?_, fun hn hm => ?_, fun hn hm => ?_⟩
  · rw [if_neg hn] at h2
    simp only [e_123, b_123_0, b_123_8, b_123_11, b_123_15, b_123_18, b_123_29, b_123_37, b_123_50, b_123_57, b_123_60, b_123_62, b_123_73, b_123_76, b_123_94, ↓reduceIte, Nat.reduceEqDiff, Nat.reduceMul, q_n10, q_n01, Option.bind_some, g_aft0, g_aft1, g_aft2, g_aft3, g_aft9, Nat.reduceAdd, m_kill_0, m_kill_2, m_kill_3, m_kill_4, m_kill_9, true_or, or_true, q_lm1, q_l0, q_l1, q_l2, q_l3, q_l4, q_l5, q_l6, q_l8, q_l9, q_l10, q_l12, q_l32, q_l50, q_l120, q_l122, q_l126, q_l372, q_l1000, q_l1000000, q_clsF hL.1, q_n1F hL, q_obF hL, h2, rq_S0, g_aftE, Nat.reduceLT, m_thr]
  · rw [if_pos hn] at h2
    rw [if_neg hm] at hpa
    simp only [e_123, b_123_0, b_123_8, b_123_11, b_123_15, b_123_18, b_123_29, b_123_37, b_123_50, b_123_57, b_123_60, b_123_62, b_123_73, b_123_76, b_123_94, ↓reduceIte, Nat.reduceEqDiff, Nat.reduceMul, q_n10, q_n01, Option.bind_some, g_aft0, g_aft1, g_aft2, g_aft3, g_aft9, Nat.reduceAdd, m_kill_0, m_kill_2, m_kill_3, m_kill_4, m_kill_9, true_or, or_true, q_lm1, q_l0, q_l1, q_l2, q_l3, q_l4, q_l5, q_l6, q_l8, q_l9, q_l10, q_l12, q_l32, q_l50, q_l120, q_l122, q_l126, q_l372, q_l1000, q_l1000000, q_clsF hL.1, q_n1F hL, q_obF hL, h2, rq_S1, hpa, rq_V0, g_aftE, Nat.reduceLT, m_thr]
  · rw [if_pos hn] at h2
    rw [if_pos hm] at hpa
    obtain ⟨M, hM⟩ : ∃ M, M = o_ds x.toNat N := ⟨_, rfl⟩
    have ex : ((x.toNat : Nat) : Int) = x := by clear hx hy h2 hpa; omega
    have hg : x.toNat < w_ne N := by clear hx hy h2 hpa; omega
    obtain ⟨ρ, r1, r2, r3⟩ := n_copy (Z := Z) (n := 191) (e := e) (s := s) (σ := σ) (a := 18) (c := 1) (q_ntN hL).2.1 (q_ntN hL).1 (by omega)
    have nρ : nAt ρ 18 N := fun r j hj => by rw [r3 r j hj]; exact h.1.2.2 r j hj
    obtain ⟨ω, o1, o2, o3⟩ := n_rmE (Z := Z) (n := 191) (e := e) (s := s) (σ := ρ) (S := w_ns N) x.toNat (by clear hx hy h2 hpa; omega) (q_ntN hL).2.1 nρ h.1.1.2.2.2.1 hns.1 hns.2
    have hwM : q_wf M := by rw [hM]; exact wf_ds h.1.1 hg
    have hfM : q_nf M := by rw [hM]; exact nf_ds h.1.1 h.1.2.1
    have nω : nAt ω 18 M := by rw [hM]; exact o2
    have fω : ∀ a, a < 18 ∨ 35 ≤ a → ω a = σ a := fun a ha => by rw [o3 a (by omega)]; exact r2 a (by omega)
    have icω : w_ic ω N R c X L k := w_ic_mk h ⟨h.1.1, h.1.2.1, nAt_fr h.1.2.2 (fun a _ _ => fω a (by omega))⟩ (w_ir_fr h.2.1 (by rw [fω 0 (by omega)]) (fun a _ _ => fω a (by omega))) (fun a ha => fω a (by omega))
    rw [ex] at o1
    obtain ⟨τ, t1, t2, t3, t4⟩ := x_take2 (Z := Z) (e := e) (s := s) hL icω hk (q_ntN hL).2.1 (by omega) nω hwM hfM
    have hC := a_hasC (Z := Z) (e := e) (s := s) hL t2
    have fτ : ∀ a, 191 ≤ a → τ a = σ a := fun a ha => by rw [t4 a (by omega)]; exact fω a (by omega)
    rw [← hM]
    have pt0 : (0 : Int) ≤ 0 ∧ (0 : Int) ≤ 10 := by decide
    by_cases hd : y_cc M
    · obtain ⟨b, b1, b2⟩ := a_seekC (Z := Z) (e := e) (s := s) (S := ((2 ^ w_nn N - 1 : Nat) : Int)) hL t2 hd
      have bok := w_bok hwM hd.1 pt0.1 pt0.2 b1
      have hV := w_Hvb (S := ((2 ^ w_nn N - 1 : Nat) : Int)) hwM hd.1 pt0.1 pt0.2 ⟨bok.1, bok.2.1⟩
      have hq : 1 ≤ b.2.2 ∧ b.2.2 ≤ 1000 := ⟨bok.2.1.1, bok.2.1.2.1⟩
      have hall := a_allNodes (Z := Z) (e := e) (s := s) hL t3.1
      have hlow := a_lowest (Z := Z) (h := (K, q_bs τ (w_x5 (w_Hv M 0 ((2 ^ w_nn N - 1 : Nat) : Int)) b), 191, e, s)) (x := w_Hv M 0 ((2 ^ w_nn N - 1 : Nat) : Int) b) (y := b.2.2) (part := y) hV.1 hV.2 hq.1 hq.2 hy
      have z5 : (w_x5 (w_Hv M 0 ((2 ^ w_nn N - 1 : Nat) : Int)) b).2.2.2.1 = b.2.2 := rfl
      have z6 : (w_x5 (w_Hv M 0 ((2 ^ w_nn N - 1 : Nat) : Int)) b).2.2.2.2 = w_Hv M 0 ((2 ^ w_nn N - 1 : Nat) : Int) b := rfl
      refine ⟨q_bs τ (w_x5 (w_Hv M 0 ((2 ^ w_nn N - 1 : Nat) : Int)) b), w_icBs t3, fun a ha => by rw [q_bs_o (by omega)]; exact fτ a ha, fun q => absurd hd q, fun _ => ⟨b, b1, ?_⟩⟩
      simp only [e_123, b_123_0, b_123_8, b_123_11, b_123_15, b_123_18, b_123_29, b_123_37, b_123_50, b_123_57, b_123_60, b_123_62, b_123_73, b_123_76, b_123_94, ↓reduceIte, Nat.reduceEqDiff, Nat.reduceMul, q_n10, q_n01, Option.bind_some, g_aft0, g_aft1, g_aft2, g_aft3, g_aft9, Nat.reduceAdd, m_kill_0, m_kill_2, m_kill_3, m_kill_4, m_kill_9, true_or, or_true, q_lm1, q_l0, q_l1, q_l2, q_l3, q_l4, q_l5, q_l6, q_l8, q_l9, q_l10, q_l12, q_l32, q_l50, q_l120, q_l122, q_l126, q_l372, q_l1000, q_l1000000, q_clsF hL.1, q_n1F hL, q_obF hL, h2, rq_S1, hpa, rq_V1, r1, o1, t1, hC.1 hd, hall, b2, q_bs_15, q_bs_16, z5, z6, hlow]
    · refine ⟨τ, t3, fτ, fun _ => ?_, fun q => absurd q hd⟩
      simp only [e_123, b_123_0, b_123_8, b_123_11, b_123_15, b_123_18, b_123_29, b_123_37, b_123_50, b_123_57, b_123_60, b_123_62, b_123_73, b_123_76, b_123_94, ↓reduceIte, Nat.reduceEqDiff, Nat.reduceMul, q_n10, q_n01, Option.bind_some, g_aft0, g_aft1, g_aft2, g_aft3, g_aft9, Nat.reduceAdd, m_kill_0, m_kill_2, m_kill_3, m_kill_4, m_kill_9, true_or, or_true, q_lm1, q_l0, q_l1, q_l2, q_l3, q_l4, q_l5, q_l6, q_l8, q_l9, q_l10, q_l12, q_l32, q_l50, q_l120, q_l122, q_l126, q_l372, q_l1000, q_l1000000, q_clsF hL.1, q_n1F hL, q_obF hL, h2, rq_S1, hpa, rq_V1, r1, o1, t1, hC.2 hd]
theorem x_type (hL : q_lay K) (h : w_ic σ N R c X L k) (hx : w32 x = x) :
    (¬ (32 ≤ x ∧ x ≤ 126) → m_cl Z 124 [(2, ((0 : Nat) : Int)), (0, x)] (K, σ, 191, e, s) = some (.inr 1, (K, σ, 191, e + 1, s + 6))) ∧
    ((32 ≤ x ∧ x ≤ 126) → L = 120 → m_cl Z 124 [(2, ((0 : Nat) : Int)), (0, x)] (K, σ, 191, e, s) = some (.inr 2, (K, σ, 191, e + 1, s + 6))) ∧
    ((32 ≤ x ∧ x ≤ 126) → L ≠ 120 → ∃ τ, m_cl Z 124 [(2, ((0 : Nat) : Int)), (0, x)] (K, σ, 191, e, s) = some (.inl (0, ((L + 1 : Nat) : Int)), (K, τ, 191, e, s)) ∧ w_ic τ N R c (m_up X L x) (L + 1) k ∧ ∀ a, 191 ≤ a → τ a = σ a) := by
  have e1 : w32 32 = 32 := by decide
  have e2 : w32 126 = 126 := by decide
  have e3 : w32 120 = 120 := by decide
  obtain ⟨x1, x2, x3⟩ := h.2.2.1
  have wL : w32 (L : Int) = (L : Int) := q_w (by clear e1 e2 e3 hx; omega)
  refine ⟨fun hn => ?_, fun hn hm => ?_, fun hn hm => ?_⟩
  · by_cases c1 : x < 32
    · simp only [e_124, b_124_0, b_124_6, b_124_12, b_124_16, b_124_17, b_124_20, b_124_32, b_124_36, b_124_37, b_124_40, b_124_48, ↓reduceIte, Nat.reduceEqDiff, Nat.reduceMul, q_n10, q_n01, Option.bind_some, g_aft0, g_aft1, g_aft2, g_aft3, g_aft9, Nat.reduceAdd, m_kill_0, m_kill_2, m_kill_3, m_kill_4, m_kill_9, true_or, or_true, q_lm1, q_l0, q_l1, q_l2, q_l3, q_l4, q_l5, q_l6, q_l8, q_l9, q_l10, q_l12, q_l32, q_l50, q_l120, q_l122, q_l126, q_l372, q_l1000, q_l1000000, q_clsF hL.1, q_obF hL, hx, c1, rq_V0, g_aftE, Nat.reduceLT, m_thr]
    · have c2 : 126 < x := by clear hx e1 e2 e3 wL; omega
      simp only [e_124, b_124_0, b_124_6, b_124_12, b_124_16, b_124_17, b_124_20, b_124_32, b_124_36, b_124_37, b_124_40, b_124_48, ↓reduceIte, Nat.reduceEqDiff, Nat.reduceMul, q_n10, q_n01, Option.bind_some, g_aft0, g_aft1, g_aft2, g_aft3, g_aft9, Nat.reduceAdd, m_kill_0, m_kill_2, m_kill_3, m_kill_4, m_kill_9, true_or, or_true, q_lm1, q_l0, q_l1, q_l2, q_l3, q_l4, q_l5, q_l6, q_l8, q_l9, q_l10, q_l12, q_l32, q_l50, q_l120, q_l122, q_l126, q_l372, q_l1000, q_l1000000, q_clsF hL.1, q_obF hL, hx, c1, c2, rq_V0, g_aftE, Nat.reduceLT, m_thr]
  · have c1 : ¬ x < 32 := by clear hx e1 e2 e3 wL; omega
    have c2 : ¬ 126 < x := by clear hx e1 e2 e3 wL; omega
    have c3 : (120 : Int) ≤ (L : Int) := by clear hx e1 e2 e3 wL; omega
    simp only [e_124, b_124_0, b_124_6, b_124_12, b_124_16, b_124_17, b_124_20, b_124_32, b_124_36, b_124_37, b_124_40, b_124_48, ↓reduceIte, Nat.reduceEqDiff, Nat.reduceMul, q_n10, q_n01, Option.bind_some, g_aft0, g_aft1, g_aft2, g_aft3, g_aft9, Nat.reduceAdd, m_kill_0, m_kill_2, m_kill_3, m_kill_4, m_kill_9, true_or, or_true, q_lm1, q_l0, q_l1, q_l2, q_l3, q_l4, q_l5, q_l6, q_l8, q_l9, q_l10, q_l12, q_l32, q_l50, q_l120, q_l122, q_l126, q_l372, q_l1000, q_l1000000, q_clsF hL.1, q_obF hL, hx, c1, c2, rq_V1, x1, wL, c3, rq_N0, g_aftE, Nat.reduceLT, m_thr]
  · have c1 : ¬ x < 32 := by clear hx e1 e2 e3 wL; omega
    have c2 : ¬ 126 < x := by clear hx e1 e2 e3 wL; omega
    have c3 : ¬ (120 : Int) ≤ (L : Int) := by clear hx e1 e2 e3 wL; omega
    have hl : L < 120 := by clear hx e1 e2 e3 wL; omega
    have s1 : ∀ v, q_set σ 188 120 (L : Int) v = m_up2 σ 188 L v := fun v => q_set_nat hl (by omega)
    have eL : (L : Int) + 1 = ((L + 1 : Nat) : Int) := rfl
    have n1 : ∀ v, m_up2 σ 188 L v 186 0 = (L : Int) := fun v => by rw [m_up2_ne (by omega)]; exact x1
    refine ⟨m_up2 (m_up2 σ 188 L x) 186 0 ((L + 1 : Nat) : Int), ?_, w_icT h (fun a ha => by rw [m_up2_ne (by omega), m_up2_ne (by omega)]) ⟨m_up2_at, by clear hx e1 e2 e3 wL; omega, fun i hi => ?_⟩, fun a ha => by rw [m_up2_ne (by omega), m_up2_ne (by omega)]⟩
    · simp only [e_124, b_124_0, b_124_6, b_124_12, b_124_16, b_124_17, b_124_20, b_124_32, b_124_36, b_124_37, b_124_40, b_124_48, e_52, b_52_0, b_52_12, ↓reduceIte, Nat.reduceEqDiff, Nat.reduceMul, q_n10, q_n01, Option.bind_some, g_aft0, g_aft1, g_aft2, g_aft3, g_aft9, Nat.reduceAdd, m_kill_0, m_kill_2, m_kill_3, m_kill_4, m_kill_9, true_or, or_true, q_lm1, q_l0, q_l1, q_l2, q_l3, q_l4, q_l5, q_l6, q_l8, q_l9, q_l10, q_l12, q_l32, q_l50, q_l120, q_l122, q_l126, q_l372, q_l1000, q_l1000000, q_clsF hL.1, q_scrF hL.2.2.2.2.2.1, q_obF hL, hx, c1, c2, rq_V1, x1, wL, c3, rq_N1, r_set, s1, n1, eL, m_up2_at]
    · rw [m_up2_ne (by omega)]
      by_cases hi2 : i = L
      · rw [hi2, m_up2_at, m_up_at]
        exact ⟨rfl, hn⟩
      · rw [m_up2_nk hi2, m_up_ne hi2]
        exact x3 i (by clear hx e1 e2 e3 wL; omega)
theorem x_undo (hL : q_lay K) (h : w_ic σ N R c X L k) : (c = 0 → m_cl Z 128 [(2, ((0 : Nat) : Int))] (K, σ, 191, e, s) = some (.inr 2, (K, σ, 191, e + 1, s + 6))) ∧ (c ≠ 0 → ∃ τ, m_cl Z 128 [(2, ((0 : Nat) : Int))] (K, σ, 191, e, s) = some (.inl (0, ((c - 1 : Nat) : Int)), (K, τ, 191, e, s)) ∧ w_ic τ (R (c - 1)) R (c - 1) X L k ∧ ∀ a, 191 ≤ a → τ a = σ a) := by
  obtain ⟨r1, r2, r3⟩ := h.2.1
  have wc : w32 (c : Int) = (c : Int) := q_w (by omega)
  constructor
  · intro h0
    have c1 : (c : Int) ≤ 0 := by clear wc; omega
    simp only [e_128, b_128_0, b_128_7, b_128_11, b_128_12, b_128_15, b_128_33, b_128_38, b_128_46, ↓reduceIte, Nat.reduceEqDiff, Nat.reduceMul, q_n10, q_n01, Option.bind_some, g_aft0, g_aft1, g_aft2, g_aft3, g_aft9, Nat.reduceAdd, m_kill_0, m_kill_2, m_kill_3, m_kill_4, m_kill_9, true_or, or_true, q_lm1, q_l0, q_l1, q_l2, q_l3, q_l4, q_l5, q_l6, q_l8, q_l9, q_l10, q_l12, q_l32, q_l50, q_l120, q_l122, q_l126, q_l372, q_l1000, q_l1000000, q_clsF hL.1, q_obF hL, r1, wc, c1, rq_N0, g_aftE, Nat.reduceLT, m_thr]
  · intro h0
    have c1 : ¬ (c : Int) ≤ 0 := by clear wc; omega
    have e1 : (c : Int) - 1 = ((c - 1 : Nat) : Int) := by clear wc; omega
    have h6 : c - 1 < 6 := by clear wc; omega
    have ha := a_rec (Z := Z) (e := e) (s := s) (σ := m_up2 σ 0 3 ((c - 1 : Nat) : Int)) hL h6
    obtain ⟨τ, t1, t2, t3⟩ := n_copy (Z := Z) (n := 191) (e := e) (s := s) (σ := m_up2 σ 0 3 ((c - 1 : Nat) : Int)) (a := 1) (c := 36 + 17 * (c - 1)) (q_ntN hL).1 ((q_ntN hL).2.2 _ h6) (by omega)
    have hob := (q_netF ((q_ntN hL).2.2 _ h6)).1
    have q03 : τ 0 3 = ((c - 1 : Nat) : Int) := by rw [t2 0 (by omega), m_up2_at]
    have fr : ∀ a, 18 ≤ a → τ a = σ a := fun a ha => by rw [t2 a (by omega), m_up2_ne (by omega)]
    refine ⟨τ, ?_, w_ic_mk h ⟨(r3 (c - 1) (by clear wc; omega)).1, (r3 (c - 1) (by clear wc; omega)).2.1, fun r j hj => ?_⟩ ⟨q03, by clear wc; omega, fun i hi => ⟨(r3 i (by clear wc; omega)).1, (r3 i (by clear wc; omega)).2.1, nAt_fr (r3 i (by clear wc; omega)).2.2 (fun a ha ha2 => fr a (by omega))⟩⟩ (fun a ha => fr a (by omega)), fun a ha => fr a (by omega)⟩
    · simp only [e_128, b_128_0, b_128_7, b_128_11, b_128_12, b_128_15, b_128_33, b_128_38, b_128_46, ↓reduceIte, Nat.reduceEqDiff, Nat.reduceMul, q_n10, q_n01, Option.bind_some, g_aft0, g_aft1, g_aft2, g_aft3, g_aft9, Nat.reduceAdd, m_kill_0, m_kill_2, m_kill_3, m_kill_4, m_kill_9, true_or, or_true, q_lm1, q_l0, q_l1, q_l2, q_l3, q_l4, q_l5, q_l6, q_l8, q_l9, q_l10, q_l12, q_l32, q_l50, q_l120, q_l122, q_l126, q_l372, q_l1000, q_l1000000, q_clsF hL.1, q_n1F hL, q_obF hL, r1, wc, c1, rq_N1, e1, m_up2_at, ha, hob, t1, q03]
    · rw [t3 r j hj, m_up2_ne (by omega)]
      exact (r3 (c - 1) (by clear wc; omega)).2.2 r j hj
end
end
