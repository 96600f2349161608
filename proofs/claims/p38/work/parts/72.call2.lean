section
/-! The class's calls: what is asked. -/
theorem w_svB {σ τ : Nat → Nat → Int} (hf1 : ∀ a, 139 ≤ a → a < 170 → τ a = σ a) (hf2 : ∀ j, j < 12 → τ 138 j = σ 138 j) {N : Nat → Nat → Int} {t : Int} (h : w_sv σ N t) : w_sv τ N t := by
  have vp : ∀ L, v_p σ L → v_p τ L := fun L hl => ⟨by rw [hf2 8 (by omega)]; exact hl.1, fun i hi => by
    rw [hf1 165 (by omega) (by omega), hf1 167 (by omega) (by omega), hf1 169 (by omega) (by omega)]
    exact hl.2 i hi⟩
  obtain ⟨s1, s2, s3, s4, s5, s6, s7, s8, s9⟩ := h
  exact ⟨s1, s2, s3, v_a_fr s4 (fun a _ _ => hf1 a (by omega) (by omega)), ⟨fun q => by rw [hf2 3 (by omega)]; exact s5.1 q, fun q => by rw [hf2 3 (by omega)]; exact s5.2 q⟩, fun q => vp _ (s6 q), fun q => vp _ (s7 q), by rw [hf2 1 (by omega)]; exact s8, by rw [hf2 2 (by omega)]; exact s9⟩
theorem w_gvB {σ τ : Nat → Nat → Int} (h7 : τ 177 = σ 177) (h9 : τ 179 = σ 179) (h1 : τ 181 = σ 181) {N : Nat → Nat → Int} {t : Int} (h : w_gv σ N t) : w_gv τ N t := by
  unfold w_gv w_F2 w_eo at *
  rw [h7, h9, h1]
  exact h
theorem w_svU {σ : Nat → Nat → Int} {N M : Nat → Nat → Int} {t u : Int} (h : w_sv σ N t) (h2 : w_sv σ M u) : N = M ∧ t = u := by
  refine ⟨nf_ext h.2.1 h2.2.1 (fun r j hj => ?_), ?_⟩
  · rw [← h.2.2.2.1.1 r j hj, ← h2.2.2.2.1.1 r j hj]
  · obtain ⟨-, -, -, -, -, -, -, a, -⟩ := h
    obtain ⟨-, -, -, -, -, -, -, b, -⟩ := h2
    rw [← a, ← b]
section
variable {Z : mZ} {K : Nat → mK} {σ τ N M : Nat → Nat → Int} {R : Nat → Nat → Nat → Int} {e s g i L n c k : Nat} {t p q v b x y z : Int} {X : Nat → Int}
theorem w_icB (h : w_ic σ N R c X L k) (hf0 : ∀ a, a < 138 ∨ 186 ≤ a → τ a = σ a) (hf1 : ∀ a, 139 ≤ a → a < 170 → τ a = σ a) (hf2 : ∀ j, j < 12 → τ 138 j = σ 138 j) (h7 : τ 177 = σ 177) (h9 : τ 179 = σ 179) (h1 : τ 181 = σ 181) : w_ic τ N R c X L k := by
  obtain ⟨a1, a2, a3, ⟨b1, b2, b3⟩, a5, c1, c2, c3⟩ := h
  refine ⟨⟨a1.1, a1.2.1, nAt_fr a1.2.2 (fun a _ _ => hf0 a (by omega))⟩, w_ir_fr a2 (by rw [hf0 0 (by omega)]) (fun a _ _ => hf0 a (by omega)), w_tx_fr a3 (by rw [hf0 186 (by omega)]) (hf0 188 (by omega)), ⟨by rw [hf2 2 (by omega)]; exact b1, by rw [hf2 2 (by omega)]; exact b2, ?_⟩, by rw [hf2 2 (by omega)]; exact a5, by rw [h7]; exact c1, by rw [h7, hf2 2 (by omega)]; exact c2, fun q1 q2 N t hs => ?_⟩
  · rcases b3 with b3 | ⟨N, t, b3⟩
    · exact Or.inl (by rw [hf2 2 (by omega)]; exact b3)
    · exact Or.inr ⟨N, t, w_svB hf1 hf2 b3⟩
  · rw [h7] at q1
    rw [h7, hf2 2 (by omega)] at q2
    exact w_gvB h7 h9 h1 (c3 q1 q2 N t (w_svB (fun a b d => (hf1 a b d).symm) (fun j hj => (hf2 j hj).symm) hs))
/-- measured: the survey holds N with parameter t -/
theorem x_take (hL : q_lay K) (h : w_ic σ N R c X L k) (hk : k < 999999) (ht : 0 ≤ t) (ht2 : t ≤ 10) : ∃ τ, m_cl Z 65 [(2, ((138 : Nat) : Int)), (2, ((1 : Nat) : Int)), (0, t)] (K, σ, 191, e, s) = some (.inl (9, 0), (K, τ, 191, e, s)) ∧ w_sv τ N t ∧ w_ic τ N R c X L (k + 1) ∧ ∀ x, x < 138 ∨ 170 ≤ x → τ x = σ x := by
  obtain ⟨a1, a2, a3, a4, a5, c1, c2, c3⟩ := h
  obtain ⟨τ, t1, t2, t3, t4⟩ := s_take (Z := Z) (e := e) (s := s) hL (q_ntN hL).1 (by omega) a1.2.2 a1.1 a1.2.1 ht ht2 a4
  refine ⟨τ, t1, t2, ⟨⟨a1.1, a1.2.1, nAt_fr a1.2.2 (fun a _ _ => t4 a (by omega))⟩, w_ir_fr a2 (by rw [t4 0 (by omega)]) (fun a _ _ => t4 a (by omega)), w_tx_fr a3 (by rw [t4 186 (by omega)]) (t4 188 (by omega)), ?_, ?_, ?_⟩, t4⟩
  · have b := a4.1
    rcases t3 with t3 | t3
    · rw [t3]; exact a4
    · exact ⟨by rw [t3]; omega, by rw [t3]; omega, Or.inr ⟨N, t, t2⟩⟩
  · rcases t3 with t3 | t3
    · rw [t3]; omega
    · rw [t3]; omega
  · have e7 := t4 177 (by omega)
    rcases t3 with t3 | t3
    · rw [t3]; exact ⟨c1, c2, c3⟩
    · exact ⟨by rw [e7]; exact c1, by rw [e7, t3]; omega, fun q1 q2 => by rw [e7, t3] at q2; omega⟩
theorem x_count (hL : q_lay K) (h : w_ic σ N R c X L k) (hk : k < 999999) (hx : w32 x = x) : (¬ (0 ≤ x ∧ x ≤ 3) → m_cl Z 102 [(2, ((0 : Nat) : Int)), (0, x)] (K, σ, 191, e, s) = some (.inr 1, (K, σ, 191, e + 1, s + 6))) ∧ (0 ≤ x ∧ x ≤ 3 → ∃ v τ, m_cl Z 102 [(2, ((0 : Nat) : Int)), (0, x)] (K, σ, 191, e, s) = some (.inl (0, v), (K, τ, 191, e, s)) ∧ w_ic τ N R c X L (k + 1) ∧ (∀ a, 191 ≤ a → τ a = σ a) ∧ (x = 0 → v = N 0 0) ∧ (x = 1 → v = N 0 1) ∧ (x = 2 → v = N 0 2) ∧ (x = 3 → (w_cn N → v = 1) ∧ (¬ w_cn N → v = 0))) := by
  have e3 : w32 3 = 3 := by decide
  constructor
  · intro hn
    by_cases c1 : x < 0
    · simp only [e_102, b_102_0, b_102_4, b_102_9, b_102_13, b_102_14, b_102_17, b_102_29, b_102_34, ↓reduceIte, Nat.reduceEqDiff, Nat.reduceMul, q_n10, q_n01, Option.bind_some, g_aft0, g_aft1, g_aft2, g_aft3, g_aft9, Nat.reduceAdd, m_kill_0, m_kill_2, m_kill_3, m_kill_4, m_kill_9, true_or, or_true, q_lm1, q_l0, q_l1, q_l2, q_l3, q_l4, q_l5, q_l6, q_l8, q_l9, q_l10, q_l12, q_l32, q_l50, q_l120, q_l122, q_l126, q_l372, q_l1000, q_l1000000, hx, c1, rq_V0, g_aftE, Nat.reduceLT, m_thr]
    · have c2 : 3 < x := by clear hx e3; omega
      simp only [e_102, b_102_0, b_102_4, b_102_9, b_102_13, b_102_14, b_102_17, b_102_29, b_102_34, ↓reduceIte, Nat.reduceEqDiff, Nat.reduceMul, q_n10, q_n01, Option.bind_some, g_aft0, g_aft1, g_aft2, g_aft3, g_aft9, Nat.reduceAdd, m_kill_0, m_kill_2, m_kill_3, m_kill_4, m_kill_9, true_or, or_true, q_lm1, q_l0, q_l1, q_l2, q_l3, q_l4, q_l5, q_l6, q_l8, q_l9, q_l10, q_l12, q_l32, q_l50, q_l120, q_l122, q_l126, q_l372, q_l1000, q_l1000000, hx, c1, c2, rq_V0, g_aftE, Nat.reduceLT, m_thr]
  · intro hn
    obtain ⟨τ, t1, t2, t3, t4⟩ := x_take (Z := Z) (e := e) (s := s) (t := 0) hL h hk (by omega) (by omega)
    have c1 : ¬ x < 0 := by clear hx e3; omega
    have c2 : ¬ 3 < x := by clear hx e3; omega
    obtain ⟨n1, n2, n3, n4, n5⟩ := w_in0_n t3.1
    have z0 : τ 1 0 = N 0 0 := nAt_0 t3.1.2.2 (by omega)
    have z1 : τ 1 1 = N 0 1 := nAt_0 t3.1.2.2 (by omega)
    have z2 : τ 1 2 = N 0 2 := nAt_0 t3.1.2.2 (by omega)
    have vc : v_c τ N := t2.2.2.2.2.1
    rcases (show x = 0 ∨ x = 1 ∨ x = 2 ∨ x = 3 by clear hx e3; omega) with rfl | rfl | rfl | rfl
    · refine ⟨N 0 0, τ, ?_, t3, fun a ha => t4 a (by omega), fun _ => rfl, fun q => absurd q (by decide), fun q => absurd q (by decide), fun q => absurd q (by decide)⟩
      simp only [e_102, b_102_0, b_102_4, b_102_9, b_102_13, b_102_14, b_102_17, b_102_29, b_102_34, e_141, b_141_0, b_141_28, b_141_36, b_141_44, b_141_52, b_141_62, b_141_66, b_141_67, ↓reduceIte, Nat.reduceEqDiff, Nat.reduceMul, q_n10, q_n01, Option.bind_some, g_aft0, g_aft1, g_aft2, g_aft3, g_aft9, Nat.reduceAdd, m_kill_0, m_kill_2, m_kill_3, m_kill_4, m_kill_9, true_or, or_true, q_lm1, q_l0, q_l1, q_l2, q_l3, q_l4, q_l5, q_l6, q_l8, q_l9, q_l10, q_l12, q_l32, q_l50, q_l120, q_l122, q_l126, q_l372, q_l1000, q_l1000000, q_clsF hL.1, q_n1F hL, q_obF hL, c1, c2, rq_V1, t1, z0]
    · refine ⟨N 0 1, τ, ?_, t3, fun a ha => t4 a (by omega), fun q => absurd q (by decide), fun _ => rfl, fun q => absurd q (by decide), fun q => absurd q (by decide)⟩
      simp only [e_102, b_102_0, b_102_4, b_102_9, b_102_13, b_102_14, b_102_17, b_102_29, b_102_34, e_141, b_141_0, b_141_28, b_141_36, b_141_44, b_141_52, b_141_62, b_141_66, b_141_67, ↓reduceIte, Nat.reduceEqDiff, Nat.reduceMul, q_n10, q_n01, Option.bind_some, g_aft0, g_aft1, g_aft2, g_aft3, g_aft9, Nat.reduceAdd, m_kill_0, m_kill_2, m_kill_3, m_kill_4, m_kill_9, true_or, or_true, q_lm1, q_l0, q_l1, q_l2, q_l3, q_l4, q_l5, q_l6, q_l8, q_l9, q_l10, q_l12, q_l32, q_l50, q_l120, q_l122, q_l126, q_l372, q_l1000, q_l1000000, q_clsF hL.1, q_n1F hL, q_obF hL, c1, c2, rq_V1, t1, z1]
    · refine ⟨N 0 2, τ, ?_, t3, fun a ha => t4 a (by omega), fun q => absurd q (by decide), fun q => absurd q (by decide), fun _ => rfl, fun q => absurd q (by decide)⟩
      have q1 : ¬ (2 : Int) = 0 := by decide
      have q2 : ¬ (2 : Int) = 1 := by decide
      simp only [e_102, b_102_0, b_102_4, b_102_9, b_102_13, b_102_14, b_102_17, b_102_29, b_102_34, e_141, b_141_0, b_141_28, b_141_36, b_141_44, b_141_52, b_141_62, b_141_66, b_141_67, ↓reduceIte, Nat.reduceEqDiff, Nat.reduceMul, q_n10, q_n01, Option.bind_some, g_aft0, g_aft1, g_aft2, g_aft3, g_aft9, Nat.reduceAdd, m_kill_0, m_kill_2, m_kill_3, m_kill_4, m_kill_9, true_or, or_true, q_lm1, q_l0, q_l1, q_l2, q_l3, q_l4, q_l5, q_l6, q_l8, q_l9, q_l10, q_l12, q_l32, q_l50, q_l120, q_l122, q_l126, q_l372, q_l1000, q_l1000000, q_clsF hL.1, q_n1F hL, q_obF hL, c1, c2, rq_V1, t1, z2, q1, q2]
    · have q1 : ¬ (3 : Int) = 0 := by decide
      have q2 : ¬ (3 : Int) = 1 := by decide
      have q3 : ¬ (3 : Int) = 2 := by decide
      by_cases hc : w_cn N
      · refine ⟨1, τ, ?_, t3, fun a ha => t4 a (by omega), fun q => absurd q (by decide), fun q => absurd q (by decide), fun q => absurd q (by decide), fun _ => ⟨fun _ => rfl, fun q => absurd hc q⟩⟩
        simp only [e_102, b_102_0, b_102_4, b_102_9, b_102_13, b_102_14, b_102_17, b_102_29, b_102_34, e_141, b_141_0, b_141_28, b_141_36, b_141_44, b_141_52, b_141_62, b_141_66, b_141_67, ↓reduceIte, Nat.reduceEqDiff, Nat.reduceMul, q_n10, q_n01, Option.bind_some, g_aft0, g_aft1, g_aft2, g_aft3, g_aft9, Nat.reduceAdd, m_kill_0, m_kill_2, m_kill_3, m_kill_4, m_kill_9, true_or, or_true, q_lm1, q_l0, q_l1, q_l2, q_l3, q_l4, q_l5, q_l6, q_l8, q_l9, q_l10, q_l12, q_l32, q_l50, q_l120, q_l122, q_l126, q_l372, q_l1000, q_l1000000, q_clsF hL.1, q_n1F hL, q_obF hL, c1, c2, rq_V1, t1, q1, q2, q3, vc.1 hc]
      · refine ⟨0, τ, ?_, t3, fun a ha => t4 a (by omega), fun q => absurd q (by decide), fun q => absurd q (by decide), fun q => absurd q (by decide), fun _ => ⟨fun q => absurd q hc, fun _ => rfl⟩⟩
        simp only [e_102, b_102_0, b_102_4, b_102_9, b_102_13, b_102_14, b_102_17, b_102_29, b_102_34, e_141, b_141_0, b_141_28, b_141_36, b_141_44, b_141_52, b_141_62, b_141_66, b_141_67, ↓reduceIte, Nat.reduceEqDiff, Nat.reduceMul, q_n10, q_n01, Option.bind_some, g_aft0, g_aft1, g_aft2, g_aft3, g_aft9, Nat.reduceAdd, m_kill_0, m_kill_2, m_kill_3, m_kill_4, m_kill_9, true_or, or_true, q_lm1, q_l0, q_l1, q_l2, q_l3, q_l4, q_l5, q_l6, q_l8, q_l9, q_l10, q_l12, q_l32, q_l50, q_l120, q_l122, q_l126, q_l372, q_l1000, q_l1000000, q_clsF hL.1, q_n1F hL, q_obF hL, c1, c2, rq_V1, t1, q1, q2, q3, vc.2 hc]
end
end
