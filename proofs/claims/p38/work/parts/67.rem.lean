section
/-! The class's state; records. -/
def w_gi (σ : Nat → Nat → Int) : Prop := 0 ≤ σ 177 1 ∧ σ 177 1 ≤ σ 138 2 ∧ (1 ≤ σ 177 1 → σ 177 1 = σ 138 2 → ∀ N t, w_sv σ N t → w_gv σ N t)
def w_ir (σ : Nat → Nat → Int) (R : Nat → Nat → Nat → Int) (c : Nat) : Prop := σ 0 3 = (c : Int) ∧ c ≤ 6 ∧ ∀ i, i < c → q_wf (R i) ∧ q_nf (R i) ∧ nAt σ (36 + 17 * i) (R i)
def w_in0 (σ N : Nat → Nat → Int) : Prop := q_wf N ∧ q_nf N ∧ nAt σ 1 N
def w_ic (σ N : Nat → Nat → Int) (R : Nat → Nat → Nat → Int) (c : Nat) (X : Nat → Int) (L k : Nat) : Prop := w_in0 σ N ∧ w_ir σ R c ∧ w_tx σ X L ∧ w_si σ ∧ σ 138 2 ≤ (k : Int) ∧ w_gi σ
/-- records with one more -/
def w_pR (R : Nat → Nat → Nat → Int) (c : Nat) (N : Nat → Nat → Int) : Nat → Nat → Nat → Int := fun i => if c = 6 then (if i < 5 then R (i + 1) else N) else if i = c then N else R i
def w_pc (c : Nat) : Nat := if c = 6 then 6 else c + 1
/-- the survey's and the groups' cells stay -/
theorem w_sgi {σ τ : Nat → Nat → Int} (hf : ∀ a, 138 ≤ a → a < 186 → τ a = σ a) : (w_si σ → w_si τ) ∧ (w_gi σ → w_gi τ) := by
  have e138 := hf 138 (by omega) (by omega)
  have e177 := hf 177 (by omega) (by omega)
  have e179 := hf 179 (by omega) (by omega)
  have e181 := hf 181 (by omega) (by omega)
  have vp : ∀ L, v_p σ L ↔ v_p τ L := fun L => by
    unfold v_p
    rw [e138, hf 165 (by omega) (by omega), hf 167 (by omega) (by omega), hf 169 (by omega) (by omega)]
  have sv : ∀ N t, w_sv σ N t → w_sv τ N t := by
    rintro N t ⟨s1, s2, s3, s4, s5, s6, s7, s8, s9⟩
    exact ⟨s1, s2, s3, v_a_fr s4 (fun a _ _ => hf a (by omega) (by omega)), ⟨fun q => by rw [e138]; exact s5.1 q, fun q => by rw [e138]; exact s5.2 q⟩, fun q => (vp _).mp (s6 q), fun q => (vp _).mp (s7 q), by rw [e138]; exact s8, by rw [e138]; exact s9⟩
  have sv' : ∀ N t, w_sv τ N t → w_sv σ N t := by
    rintro N t ⟨s1, s2, s3, s4, s5, s6, s7, s8, s9⟩
    exact ⟨s1, s2, s3, v_a_fr s4 (fun a _ _ => (hf a (by omega) (by omega)).symm), ⟨fun q => by rw [← e138]; exact s5.1 q, fun q => by rw [← e138]; exact s5.2 q⟩, fun q => (vp _).mpr (s6 q), fun q => (vp _).mpr (s7 q), by rw [← e138]; exact s8, by rw [← e138]; exact s9⟩
  refine ⟨?_, ?_⟩
  · rintro ⟨h1, h2, h3⟩
    refine ⟨by rw [e138]; exact h1, by rw [e138]; exact h2, ?_⟩
    rcases h3 with h3 | ⟨N, t, h3⟩
    · exact Or.inl (by rw [e138]; exact h3)
    · exact Or.inr ⟨N, t, sv N t h3⟩
  · rintro ⟨h1, h2, h3⟩
    refine ⟨by rw [e177]; exact h1, by rw [e177, e138]; exact h2, fun q1 q2 N t hs => ?_⟩
    rw [e177] at q1
    rw [e177, e138] at q2
    have := h3 q1 q2 N t (sv' N t hs)
    unfold w_gv w_F2 w_eo at *
    rw [e177, e179, e181]
    exact this
theorem w_tx_fr {σ τ : Nat → Nat → Int} {X : Nat → Int} {L : Nat} (h : w_tx σ X L) (h1 : τ 186 0 = σ 186 0) (h2 : τ 188 = σ 188) : w_tx τ X L := ⟨h1.trans h.1, h.2.1, fun i hi => by rw [h2]; exact h.2.2 i hi⟩
section
variable {Z : mZ} {K : Nat → mK} {σ τ N : Nat → Nat → Int} {R : Nat → Nat → Nat → Int} {e s g i L n c k : Nat} {t p q v b : Int} {h : mH} {X : Nat → Int}
theorem q_ntN (hL : q_lay K) : q_net K 191 1 ∧ q_net K 191 18 ∧ ∀ i, i < 6 → q_net K 191 (36 + 17 * i) := by
  obtain ⟨h1, h2, h3⟩ := hL.2.2.2.2.2.2.2
  refine ⟨h1, h2, fun i hi => ?_⟩
  obtain ⟨a0, a1, a2, a3, a4, a5⟩ := h3
  rcases (show i = 0 ∨ i = 1 ∨ i = 2 ∨ i = 3 ∨ i = 4 ∨ i = 5 by omega) with rfl | rfl | rfl | rfl | rfl | rfl
  · exact a0
  · exact a1
  · exact a2
  · exact a3
  · exact a4
  · exact a5
theorem q_rec (hL : q_lay K) (hi : i < 6) : q_rp K 35 i ∧ q_rf K 35 i = 36 + 17 * i := by
  have h := q_clsF hL.1
  rcases (show i = 0 ∨ i = 1 ∨ i = 2 ∨ i = 3 ∨ i = 4 ∨ i = 5 by omega) with rfl | rfl | rfl | rfl | rfl | rfl <;> simp only [h, Nat.reduceMul, Nat.reduceAdd, and_self]
theorem a_rec (hL : q_lay K) (hi : i < 6) : m_cl Z 137 [(2, ((0 : Nat) : Int)), (0, (i : Int))] (K, σ, 191, e, s) = some (.inl (2, ((36 + 17 * i : Nat) : Int)), (K, σ, 191, e, s)) := by
  obtain ⟨r1, r2⟩ := q_rec hL hi
  have c0 : ¬ (i : Int) < 0 := by omega
  have c1 : ¬ ((6 : Nat) : Int) ≤ (i : Int) := by omega
  have c2 : (i : Int) < ((6 : Nat) : Int) := by omega
  have c3 : 0 ≤ (i : Int) := by omega
  have tn : ((i : Int)).toNat = i := rfl
  have w6 : w32 ((6 : Nat) : Int) = ((6 : Nat) : Int) := by decide
  have wi : w32 (i : Int) = (i : Int) := q_w (by omega)
  simp only [e_137, b_137_0, b_137_4, b_137_13, b_137_22, b_137_23, ↓reduceIte, Nat.reduceEqDiff, Nat.reduceMul, q_n10, q_n01, Option.bind_some, g_aft0, g_aft1, g_aft2, g_aft3, g_aft9, Nat.reduceAdd, m_kill_0, m_kill_2, m_kill_3, m_kill_4, m_kill_9, true_or, or_true, q_lm1, q_l0, q_l1, q_l2, q_l3, q_l4, q_l5, q_l6, q_l8, q_l9, q_l10, q_l12, q_l32, q_l50, q_l120, q_l122, q_l126, q_l372, q_l1000, q_l1000000, q_clsF hL.1, wi, w6, c0, c1, c2, c3, tn, r1, r2]
theorem a_drop (hL : q_lay K) (hR : w_ir σ R 6) : ∃ τ, m_cl Z 139 [(2, ((0 : Nat) : Int))] (K, σ, 191, e, s) = some (.inl (9, 0), (K, τ, 191, e, s)) ∧ τ 0 3 = 5 ∧ (∀ i, i < 5 → nAt τ (36 + 17 * i) (R (i + 1))) ∧ (∀ j, j ≠ 3 → τ 0 j = σ 0 j) ∧ ∀ a, a ≠ 0 → a < 36 ∨ 138 ≤ a → τ a = σ a := by
  obtain ⟨h1, h2, h3⟩ := hR
  obtain ⟨n1, n2, n3⟩ := q_ntN hL
  obtain ⟨x, x1, x2, x3, x4⟩ := q_loop (Z := Z) (N := 5) (S := fun i (x : (Nat → Nat → Int) × mV × mV) => (139, 2, [(2, ((0 : Nat) : Int)), (0, (i : Int)), x.2.1, x.2.2], [], (K, x.1, 191, e, s))) (P := fun i x => (∀ j, j < i → nAt x.1 (36 + 17 * j) (R (j + 1))) ∧ (∀ j, i ≤ j → j < 6 → nAt x.1 (36 + 17 * j) (R j)) ∧ ∀ a, a < 36 ∨ 138 ≤ a → x.1 a = σ a) (by
    intro i x hi ⟨y1, y2, y3⟩
    obtain ⟨ρ, c1, c2, c3⟩ := n_copy (Z := Z) (n := 191) (e := e) (s := s) (σ := x.1) (n3 i (by omega)) (n3 (i + 1) (by omega)) (Or.inl (by omega))
    have r1 := a_rec (Z := Z) (e := e) (s := s) (σ := x.1) hL (i := i) (by omega)
    have r2 := a_rec (Z := Z) (e := e) (s := s) (σ := x.1) hL (i := i + 1) (by omega)
    have e1 : ((i + 1 : Nat) : Int) = (i : Int) + 1 := rfl
    have hob := (q_netF (n3 i (by omega))).1
    refine ⟨(ρ, (2, ((36 + 17 * i : Nat) : Int)), (2, ((36 + 17 * (i + 1) : Nat) : Int))), ?_, fun j hj => ?_, fun j hj hj2 => ?_, fun a ha => ?_⟩
    · have c0 : ¬ ((6 : Nat) : Int) ≤ (i : Int) + 1 := by omega
      have w6 : w32 ((6 : Nat) : Int) = ((6 : Nat) : Int) := by decide
      have wi : w32 ((i : Int) + 1) = (i : Int) + 1 := by clear w6; exact q_wi (by omega) (by omega)
      rw [e1] at r2
      conv => lhs; simp only [b_139_2, ↓reduceIte, Nat.reduceEqDiff, Nat.reduceMul, q_n10, q_n01, Option.bind_some, g_aft0, g_aft1, g_aft2, g_aft3, g_aft9, Nat.reduceAdd, m_kill_0, m_kill_2, m_kill_3, m_kill_4, m_kill_9, true_or, or_true, q_lm1, q_l0, q_l1, q_l2, q_l3, q_l4, q_l5, q_l6, q_l8, q_l9, q_l10, q_l12, q_l32, q_l50, q_l120, q_l122, q_l126, q_l372, q_l1000, q_l1000000, q_clsF hL.1, w6, wi, c0]
      simp only [b_139_13, b_139_18, b_139_26, b_139_31, b_139_35, b_139_40, ↓reduceIte, Nat.reduceEqDiff, Nat.reduceMul, q_n10, q_n01, Option.bind_some, g_aft0, g_aft1, g_aft2, g_aft3, g_aft9, Nat.reduceAdd, m_kill_0, m_kill_2, m_kill_3, m_kill_4, m_kill_9, true_or, or_true, q_lm1, q_l0, q_l1, q_l2, q_l3, q_l4, q_l5, q_l6, q_l8, q_l9, q_l10, q_l12, q_l32, q_l50, q_l120, q_l122, q_l126, q_l372, q_l1000, q_l1000000, q_clsF hL.1, r1, r2, hob, c1]
      rfl
    · by_cases hj2 : j = i
      · subst hj2
        intro r m hm
        show ρ (36 + 17 * j + r) m = _
        rw [c3 r m hm]
        exact y2 (j + 1) (by omega) (by omega) r m hm
      · exact nAt_fr (y1 j (by omega)) (fun a _ _ => c2 a (by omega))
    · exact nAt_fr (y2 j (by omega) hj2) (fun a _ _ => c2 a (by omega))
    · show ρ a = _
      rw [c2 a (by omega)]; exact y3 a ha) 5 0 (σ, (9, 0), (9, 0)) (by omega) ⟨fun j hj => absurd hj (by omega), fun j _ hj => (h3 j hj).2.2, fun _ _ => rfl⟩
  have h03 : x.1 0 3 = 6 := by rw [x4 0 (by omega)]; exact h1
  refine ⟨m_up2 x.1 0 3 5, ?_, m_up2_at, fun i hi => nAt_fr (x2 i hi) (fun a _ _ => m_up2_ne (by omega)), fun j hj => by rw [m_up2_nk hj, x4 0 (by omega)], fun a ha ha2 => by rw [m_up2_ne ha]; exact x4 a ha2⟩
  have w6 : w32 ((6 : Nat) : Int) = 6 := by decide
  have w65 : w32 (((5 : Nat) : Int) + 1) = 6 := by decide
  have s5 : (6 : Int) - 1 = 5 := rfl
  rw [e_139, b_139_0]
  refine x1.trans ?_
  simp only [b_139_2, b_139_46, ↓reduceIte, Nat.reduceEqDiff, Nat.reduceMul, q_n10, q_n01, Option.bind_some, g_aft0, g_aft1, g_aft2, g_aft3, g_aft9, Nat.reduceAdd, m_kill_0, m_kill_2, m_kill_3, m_kill_4, m_kill_9, true_or, or_true, q_lm1, q_l0, q_l1, q_l2, q_l3, q_l4, q_l5, q_l6, q_l8, q_l9, q_l10, q_l12, q_l32, q_l50, q_l120, q_l122, q_l126, q_l372, q_l1000, q_l1000000, q_clsF hL.1, w6, w65, Int.le_refl, h03, s5]
theorem a_remember (hL : q_lay K) (hN : w_in0 σ N) (hR : w_ir σ R c) : ∃ τ, m_cl Z 138 [(2, ((0 : Nat) : Int))] (K, σ, 191, e, s) = some (.inl (9, 0), (K, τ, 191, e, s)) ∧ w_ir τ (w_pR R c N) (w_pc c) ∧ (∀ j, j ≠ 3 → τ 0 j = σ 0 j) ∧ ∀ a, a ≠ 0 → a < 36 ∨ 138 ≤ a → τ a = σ a := by
  obtain ⟨n1, n2, n3⟩ := q_ntN hL
  have push : ∀ (ρ : Nat → Nat → Int) (d : Nat), ρ 0 3 = (d : Int) → d < 6 → nAt ρ 1 N → ∃ τ, m_run Z (138, 13, [(2, ((0 : Nat) : Int)), (9, 0)], [], (K, ρ, 191, e, s)) = some (.inl (9, 0), (K, τ, 191, e, s)) ∧ τ 0 3 = ((d + 1 : Nat) : Int) ∧ nAt τ (36 + 17 * d) N ∧ (∀ j, j ≠ 3 → τ 0 j = ρ 0 j) ∧ ∀ a, a ≠ 0 → a < 36 + 17 * d ∨ 36 + 17 * d + 17 ≤ a → τ a = ρ a := by
    intro ρ d hd hd6 hn
    obtain ⟨ω, c1, c2, c3⟩ := n_copy (Z := Z) (n := 191) (e := e) (s := s) (σ := ρ) (n3 d hd6) n1 (Or.inr (by omega))
    have r1 := a_rec (Z := Z) (e := e) (s := s) (σ := ρ) hL hd6
    have hob := (q_netF (n3 d hd6)).1
    have e0 : ω 0 3 = (d : Int) := by rw [c2 0 (by omega)]; exact hd
    have e1 : (d : Int) + 1 = ((d + 1 : Nat) : Int) := rfl
    refine ⟨m_up2 ω 0 3 ((d + 1 : Nat) : Int), ?_, m_up2_at, nAt_fr (N := N) (fun r m hm => by rw [c3 r m hm]; exact hn r m hm) (fun a _ _ => m_up2_ne (by omega)), fun j hj => by rw [m_up2_nk hj, c2 0 (by omega)], fun a ha ha2 => by rw [m_up2_ne ha]; exact c2 a ha2⟩
    simp only [b_138_13, b_138_21, b_138_26, b_138_34, b_138_44, ↓reduceIte, Nat.reduceEqDiff, Nat.reduceMul, q_n10, q_n01, Option.bind_some, g_aft0, g_aft1, g_aft2, g_aft3, g_aft9, Nat.reduceAdd, m_kill_0, m_kill_2, m_kill_3, m_kill_4, m_kill_9, true_or, or_true, q_lm1, q_l0, q_l1, q_l2, q_l3, q_l4, q_l5, q_l6, q_l8, q_l9, q_l10, q_l12, q_l32, q_l50, q_l120, q_l122, q_l126, q_l372, q_l1000, q_l1000000, q_clsF hL.1, hd, r1, hob, c1, e0, e1]
  have w6 : w32 6 = 6 := by decide
  obtain ⟨h1, h2, h3⟩ := hR
  by_cases hc : c = 6
  · subst hc
    obtain ⟨ρ, d1, d2, d3, d4, d5⟩ := a_drop (Z := Z) (e := e) (s := s) hL ⟨h1, h2, h3⟩
    obtain ⟨τ, t1, t2, t3, t4, t5⟩ := push ρ 5 d2 (by omega) (nAt_fr hN.2.2 (fun a _ _ => d5 a (by omega) (by omega)))
    refine ⟨τ, ?_, ⟨t2, by decide, fun i hi => ?_⟩, fun j hj => by rw [t4 j hj, d4 j hj], fun a ha ha2 => by rw [t5 a ha (by omega)]; exact d5 a ha ha2⟩
    · have h03 : σ 0 3 = 6 := h1
      simp only [e_138, b_138_0, b_138_9, ↓reduceIte, Nat.reduceEqDiff, Nat.reduceMul, q_n10, q_n01, Option.bind_some, g_aft0, g_aft1, g_aft2, g_aft3, g_aft9, Nat.reduceAdd, m_kill_0, m_kill_2, m_kill_3, m_kill_4, m_kill_9, true_or, or_true, q_lm1, q_l0, q_l1, q_l2, q_l3, q_l4, q_l5, q_l6, q_l8, q_l9, q_l10, q_l12, q_l32, q_l50, q_l120, q_l122, q_l126, q_l372, q_l1000, q_l1000000, q_clsF hL.1, h03, d1]
      exact t1
    · have hi6 : i < 6 := hi
      unfold w_pR
      rw [if_pos rfl]
      by_cases hi5 : i < 5
      · rw [if_pos hi5]
        exact ⟨(h3 (i + 1) (by omega)).1, (h3 (i + 1) (by omega)).2.1, nAt_fr (d3 i hi5) (fun a _ _ => t5 a (by omega) (by omega))⟩
      · rw [if_neg hi5]
        have : i = 5 := by omega
        subst this
        exact ⟨hN.1, hN.2.1, t3⟩
  · obtain ⟨τ, t1, t2, t3, t4, t5⟩ := push σ c h1 (by omega) hN.2.2
    have hpc : w_pc c = c + 1 := by unfold w_pc; rw [if_neg hc]
    refine ⟨τ, ?_, ⟨by rw [hpc]; exact t2, by rw [hpc]; omega, fun i hi => ?_⟩, t4, fun a ha ha2 => t5 a ha (by omega)⟩
    · have c6 : ¬ (c : Int) = 6 := by clear w6; omega
      have wc : w32 (c : Int) = (c : Int) := q_w (by clear w6; omega)
      simp only [e_138, b_138_0, ↓reduceIte, Nat.reduceEqDiff, Nat.reduceMul, q_n10, q_n01, Option.bind_some, g_aft0, g_aft1, g_aft2, g_aft3, g_aft9, Nat.reduceAdd, m_kill_0, m_kill_2, m_kill_3, m_kill_4, m_kill_9, true_or, or_true, q_lm1, q_l0, q_l1, q_l2, q_l3, q_l4, q_l5, q_l6, q_l8, q_l9, q_l10, q_l12, q_l32, q_l50, q_l120, q_l122, q_l126, q_l372, q_l1000, q_l1000000, q_clsF hL.1, h1, wc, w6, c6]
      exact t1
    · rw [hpc] at hi
      unfold w_pR
      rw [if_neg hc]
      by_cases hic : i = c
      · subst hic
        rw [if_pos rfl]
        exact ⟨hN.1, hN.2.1, t3⟩
      · rw [if_neg hic]
        exact ⟨(h3 i (by omega)).1, (h3 i (by omega)).2.1, nAt_fr (h3 i (by omega)).2.2 (fun a _ _ => t5 a (by omega) (by omega))⟩
end
end
