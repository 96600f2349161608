section
/-! The survey takes a network. -/
def q_nf (N : Nat → Nat → Int) : Prop := ∀ r j, ¬ j < q_len r → N r j = 0
def w_sv (σ N : Nat → Nat → Int) (t : Int) : Prop := q_wf N ∧ q_nf N ∧ (0 ≤ t ∧ t ≤ 10) ∧ v_a σ N t ∧ v_c σ N ∧ (w_cn N → v_p σ (w_pts N t)) ∧ (¬ w_cn N → v_p σ []) ∧ σ 138 1 = t ∧ 1 ≤ σ 138 2
def w_si (σ : Nat → Nat → Int) : Prop := 0 ≤ σ 138 2 ∧ σ 138 2 ≤ 1000000 ∧ (σ 138 2 = 0 ∨ ∃ N t, w_sv σ N t)
theorem w_sml {N : Nat → Nat → Int} (hw : q_wf N) {r j : Nat} (h : j < q_len r) : 0 ≤ N r j ∧ N r j ≤ 50 := by
  by_cases c : r = 0
  · subst c
    have h3 : j < 3 := by simpa [q_len2] using h
    obtain ⟨h1, h2, h4, -⟩ := hw
    rcases (show j = 0 ∨ j = 1 ∨ j = 2 by omega) with rfl | rfl | rfl <;> omega
  · exact hw.2.2.2.1 r j (by omega) h
theorem nf_ext {N M : Nat → Nat → Int} (h1 : q_nf N) (h2 : q_nf M) (h : ∀ r j, j < q_len r → N r j = M r j) : N = M := by
  funext r j
  by_cases c : j < q_len r
  · exact h r j c
  · rw [h1 r j c, h2 r j c]
theorem q_sm_eq {σ M N : Nat → Nat → Int} {a c r L : Nat} (ha : nAt σ a M) (hc : nAt σ c N) (hM : q_wf M) (hN : q_wf N) (hL : L = q_len r) (h : q_sm (q_eq σ (a + r) (c + r) L) 0 L = true) : ∀ j, j < q_len r → M r j = N r j := by
  intro j hj
  have h1 := (q_sm_iff _ _).mp h j (by omega) (by omega)
  have h2 := of_decide_eq_true h1
  have hL2 : L ≤ 1000 := by
    rw [hL, q_len2]
    repeat' split
    all_goals omega
  rw [q_get_nat (by omega) hL2, ha r j hj, hc r j hj] at h2
  have b1 := w_sml hM hj
  have b2 := w_sml hN hj
  rw [q_wi (by omega) (by omega), q_wi (by omega) (by omega)] at h2
  exact h2
theorem n_sameE {σ M N : Nat → Nat → Int} {a c : Nat} (ha : nAt σ a M) (hc : nAt σ c N) (hM : q_wf M) (hN : q_wf N) (fM : q_nf M) (fN : q_nf N) (h : q_nsB σ a c) : M = N := by
  obtain ⟨h1, h2, h3, g1, g2, g3, g4, g5, g6, g7, g8⟩ := h
  have k0 : ∀ j, j < 3 → w32 (σ a j) = w32 (σ c j) → M 0 j = N 0 j := by
    intro j hj hh
    rw [nAt_0 ha hj, nAt_0 hc hj] at hh
    have b1 := w_sml hM (r := 0) (j := j) (by simpa [q_len2] using hj)
    have b2 := w_sml hN (r := 0) (j := j) (by simpa [q_len2] using hj)
    rw [q_wi (by omega) (by omega), q_wi (by omega) (by omega)] at hh
    exact hh
  refine nf_ext fM fN (fun r j hj => ?_)
  rcases q_len_cases hj with ⟨rfl, q⟩ | ⟨rfl, q⟩ | ⟨rfl, q⟩ | ⟨rfl, q⟩ | ⟨rfl, q⟩ | ⟨rfl, q⟩ | ⟨rfl, q⟩ | ⟨rfl, q⟩ | ⟨rfl, q⟩
  · rcases (show j = 0 ∨ j = 1 ∨ j = 2 by clear h1 h2 h3; omega) with rfl | rfl | rfl
    · exact k0 0 (by omega) h1
    · exact k0 1 (by omega) h2
    · exact k0 2 (by omega) h3
  · exact q_sm_eq ha hc hM hN rfl g1 j hj
  · exact q_sm_eq ha hc hM hN rfl g2 j hj
  · exact q_sm_eq ha hc hM hN rfl g3 j hj
  · exact q_sm_eq ha hc hM hN rfl g4 j hj
  · exact q_sm_eq ha hc hM hN rfl g5 j hj
  · exact q_sm_eq ha hc hM hN rfl g6 j hj
  · exact q_sm_eq ha hc hM hN rfl g7 j hj
  · exact q_sm_eq ha hc hM hN rfl g8 j hj
section
variable {Z : mZ} {K : Nat → mK} {σ N : Nat → Nat → Int} {e s g i a : Nat} {t p q : Int}
/-- measured anew -/
theorem s_anew {l3 : mV} (hL : q_lay K) (hA : q_net K 191 a) (ha : a + 17 ≤ 138) (hn : nAt σ a N) (hw : q_wf N) (hf : q_nf N) (ht : 0 ≤ t) (ht2 : t ≤ 10) (hs : 0 ≤ σ 138 2) : ∃ τ, m_run Z (65, 27, [(2, ((138 : Nat) : Int)), (2, ((a : Nat) : Int)), (0, t), l3], [], (K, σ, 191, e, s)) = some (.inl (9, 0), (K, τ, 191, e, s)) ∧ w_sv τ N t ∧ τ 138 2 = σ 138 2 + 1 ∧ ∀ x, x < 138 ∨ 170 ≤ x → τ x = σ x := by
  obtain ⟨τ, c1, c2, c3⟩ := n_copy (Z := Z) (n := 191) (e := e) (s := s) (σ := σ) (q_tkF hL.2.1).1 hA (Or.inr (by omega))
  have hn139 : nAt τ 139 N := fun r j hj => by
    rw [c3 r j hj]; exact hn r j hj
  have t1 : τ 138 = σ 138 := c2 138 (by omega)
  -- heap behind the counters
  have hn0 : nAt (m_up2 (m_up2 τ 138 1 t) 138 2 (σ 138 2 + 1)) 139 N := nAt_fr hn139 (fun x _ _ => by rw [m_up2_ne (by omega), m_up2_ne (by omega)])
  have hc2 : m_up2 τ 138 1 t 138 2 = σ 138 2 := by rw [m_up2_nk (by omega), t1]
  generalize hρ : m_up2 (m_up2 τ 138 1 t) 138 2 (σ 138 2 + 1) = ρ at *
  have r138 : ρ 138 1 = t ∧ ρ 138 2 = σ 138 2 + 1 := by
    rw [← hρ]
    exact ⟨by rw [m_up2_nk (by omega), m_up2_at], m_up2_at⟩
  have rfr : ∀ x, x ≠ 138 → ρ x = τ x := fun x hx => by rw [← hρ, m_up2_ne hx, m_up2_ne hx]
  have n8 := (wf_n hw).2.2
  -- weights
  obtain ⟨y, h1, h2⟩ := q_loop (Z := Z) (N := 8) (S := fun i (x : Nat → Int) => (65, 52, [(2, ((138 : Nat) : Int)), (2, ((a : Nat) : Int)), (0, t), (0, (i : Int))], [], (K, q_put ρ 157 x, 191, e, s))) (P := fun i x => ∀ j, j < i → x j = w_W N t j) (by
    intro i x hi hx
    have c0 : ¬ (8 : Int) ≤ (i : Int) := by omega
    have e1 : (((i + 1 : Nat)) : Int) = (i : Int) + 1 := by omega
    have g1 : ∀ z, q_get (q_put ρ 157 z) 141 8 (i : Int) = N 2 i := by
      intro z
      rw [q_get_nat (by omega) (by omega), q_put_ne (by omega)]
      exact hn0 2 i (by rw [q_len2]; simpa using hi)
    have g2 : ∀ z, q_get (q_put ρ 157 z) 143 8 (i : Int) = N 4 i := by
      intro z
      rw [q_get_nat (by omega) (by omega), q_put_ne (by omega)]
      exact hn0 4 i (by rw [q_len2]; simpa using hi)
    have g3 : ∀ v, q_set (q_put ρ 157 x) 157 8 (i : Int) v = q_put ρ 157 (m_up x i v) := by
      intro v
      rw [q_set_nat (by omega) (by omega), q_up_pt]
    refine ⟨m_up x i (w_W N t i), ?_, ?_⟩
    · have w0 : w32 (i : Int) = (i : Int) := q_w (by omega)
      conv => lhs; simp only [b_65_52, ↓reduceIte, Nat.reduceEqDiff, Nat.reduceMul, q_n10, q_n01, Option.bind_some, g_aft0, g_aft1, g_aft2, g_aft3, g_aft9, Nat.reduceAdd, m_kill_0, m_kill_2, m_kill_3, m_kill_4, m_kill_9, true_or, or_true, q_lm1, q_l0, q_l1, q_l2, q_l3, q_l4, q_l5, q_l6, q_l8, q_l9, q_l10, q_l12, q_l32, q_l50, q_l120, q_l122, q_l126, q_l372, q_l1000, q_l1000000, w0, c0]
      simp only [b_65_0, b_65_7, b_65_15, b_65_23, b_65_26, b_65_27, b_65_35, b_65_58, b_65_74, b_65_86, b_65_91, b_65_97, b_65_101, b_65_105, b_65_109, ↓reduceIte, Nat.reduceEqDiff, Nat.reduceMul, q_n10, q_n01, Option.bind_some, g_aft0, g_aft1, g_aft2, g_aft3, g_aft9, Nat.reduceAdd, m_kill_0, m_kill_2, m_kill_3, m_kill_4, m_kill_9, true_or, or_true, q_lm1, q_l0, q_l1, q_l2, q_l3, q_l4, q_l5, q_l6, q_l8, q_l9, q_l10, q_l12, q_l32, q_l50, q_l120, q_l122, q_l126, q_l372, q_l1000, q_l1000000, q_surF hL.2.2.1, q_tkF hL.2.1, r_get, r_set, g1, g2, g3, e1]
      rfl
    · intro j hj
      by_cases c : j = i
      · subst c; exact m_up_at
      · rw [m_up_ne c]; exact hx j (by omega)) 8 0 (ρ 157) (by omega) (fun j hj => absurd hj (by omega))
  rw [q_put_self] at h1
  have m0 : nAt (q_put ρ 157 y) 139 N := nAt_fr hn0 (fun x _ _ => by
    by_cases c : x = 157
    · omega
    · exact q_put_ne c)
  obtain ⟨T, c, k1, k2, k3, k4⟩ := s_mnodes (Z := Z) (e := e) (s := s) hL m0 hw
  have m1 : nAt (m_up2 (q_put (q_put ρ 157 y) 159 T) 138 3 c) 139 N := nAt_fr m0 (fun x _ _ => by rw [m_up2_ne (by omega), q_put_ne (by omega)])
  have d1 : v_d (m_up2 (q_put (q_put ρ 157 y) 159 T) 138 3 c) N := fun a b ha hb => by
    rw [m_up2_ne (by omega), q_put_at]; exact k2 a b ha hb
  obtain ⟨A, B, u1, u2⟩ := s_medges (Z := Z) (e := e) (s := s) hL m1 d1 hw
  generalize hκ : q_put (q_put (m_up2 (q_put (q_put ρ 157 y) 159 T) 138 3 c) 161 A) 163 B = κ at *
  have κa : v_a κ N t := by
    rw [← hκ]
    refine ⟨nAt_fr m1 (fun x _ _ => by rw [q_put_ne (by omega), q_put_ne (by omega)]), ?_, ?_, ?_⟩
    · intro j hj
      rw [q_put_ne (by omega), q_put_ne (by omega), m_up2_ne (by omega), q_put_ne (by omega), q_put_at]
      exact h2 j hj
    · intro a b ha hb
      rw [q_put_ne (by omega), q_put_ne (by omega)]
      exact d1 a b ha hb
    · intro g i hg hi
      rw [q_put_at, q_put_ne (by omega), q_put_at]
      exact u2 g i hg hi
  have κ3 : κ 138 3 = c := by
    rw [← hκ, q_put_ne (by omega), q_put_ne (by omega), m_up2_at]
  have κo : ∀ j, j ≠ 3 → κ 138 j = ρ 138 j := by
    intro j hj
    rw [← hκ, q_put_ne (by omega), q_put_ne (by omega), m_up2_nk hj, q_put_ne (by omega), q_put_ne (by omega)]
  have κc : v_c κ N := ⟨fun q => by rw [κ3]; exact k3 q, fun q => by rw [κ3]; exact k4 q⟩
  obtain ⟨ω, o1, o2, o3, o4⟩ := s_gather (Z := Z) (e := e) (s := s) hL κa κc hw ht ht2
  refine ⟨ω, ?_, ⟨hw, hf, ⟨ht, ht2⟩, v_a_f8 κa o2, ?_, o3, o4, ?_, ?_⟩, ?_, ?_⟩
  · simp only [b_65_27, b_65_35, ↓reduceIte, Nat.reduceEqDiff, Nat.reduceMul, q_n10, q_n01, Option.bind_some, g_aft0, g_aft1, g_aft2, g_aft3, g_aft9, Nat.reduceAdd, m_kill_0, m_kill_2, m_kill_3, m_kill_4, m_kill_9, true_or, or_true, q_lm1, q_l0, q_l1, q_l2, q_l3, q_l4, q_l5, q_l6, q_l8, q_l9, q_l10, q_l12, q_l32, q_l50, q_l120, q_l122, q_l126, q_l372, q_l1000, q_l1000000, q_surF hL.2.2.1, q_tkF hL.2.1, c1, hc2, hρ]
    refine Eq.trans h1 ?_
    have w8 : w32 ((8 : Nat) : Int) = 8 := by decide
    conv => lhs; simp only [b_65_52, ↓reduceIte, Nat.reduceEqDiff, Nat.reduceMul, q_n10, q_n01, Option.bind_some, g_aft0, g_aft1, g_aft2, g_aft3, g_aft9, Nat.reduceAdd, m_kill_0, m_kill_2, m_kill_3, m_kill_4, m_kill_9, true_or, or_true, q_lm1, q_l0, q_l1, q_l2, q_l3, q_l4, q_l5, q_l6, q_l8, q_l9, q_l10, q_l12, q_l32, q_l50, q_l120, q_l122, q_l126, q_l372, q_l1000, q_l1000000, w8, Int.le_refl]
    simp only [b_65_97, b_65_101, b_65_105, b_65_109, ↓reduceIte, Nat.reduceEqDiff, Nat.reduceMul, q_n10, q_n01, Option.bind_some, g_aft0, g_aft1, g_aft2, g_aft3, g_aft9, Nat.reduceAdd, m_kill_0, m_kill_2, m_kill_3, m_kill_4, m_kill_9, true_or, or_true, q_lm1, q_l0, q_l1, q_l2, q_l3, q_l4, q_l5, q_l6, q_l8, q_l9, q_l10, q_l12, q_l32, q_l50, q_l120, q_l122, q_l126, q_l372, q_l1000, q_l1000000, q_surF hL.2.2.1, q_tkF hL.2.1, k1, u1, o1]
  · exact ⟨fun q => by rw [o2.2 3 (by omega)]; exact κc.1 q, fun q => by rw [o2.2 3 (by omega)]; exact κc.2 q⟩
  · rw [o2.2 1 (by omega), κo 1 (by omega)]; exact r138.1
  · rw [o2.2 2 (by omega), κo 2 (by omega), r138.2]; omega
  · rw [o2.2 2 (by omega), κo 2 (by omega), r138.2]
  · intro x hx
    rw [o2.1 x (by omega) (by omega) (by omega) (by omega), ← hκ, q_put_ne (by omega), q_put_ne (by omega), m_up2_ne (by omega), q_put_ne (by omega), q_put_ne (by omega), rfr x (by omega)]
    exact c2 x (by omega)
theorem s_take (hL : q_lay K) (hA : q_net K 191 a) (ha : a + 17 ≤ 138) (hn : nAt σ a N) (hw : q_wf N) (hf : q_nf N) (ht : 0 ≤ t) (ht2 : t ≤ 10) (hs : w_si σ) : ∃ τ, m_cl Z 65 [(2, ((138 : Nat) : Int)), (2, ((a : Nat) : Int)), (0, t)] (K, σ, 191, e, s) = some (.inl (9, 0), (K, τ, 191, e, s)) ∧ w_sv τ N t ∧ (τ = σ ∨ τ 138 2 = σ 138 2 + 1) ∧ ∀ x, x < 138 ∨ 170 ≤ x → τ x = σ x := by
  obtain ⟨s1, s2, s3⟩ := hs
  have anew : ∀ R : Option mO, (∀ τ, m_run Z (65, 27, [(2, ((138 : Nat) : Int)), (2, ((a : Nat) : Int)), (0, t), (9, 0)], [], (K, σ, 191, e, s)) = some (.inl (9, 0), (K, τ, 191, e, s)) → R = some (.inl (9, 0), (K, τ, 191, e, s))) → ∃ τ, R = some (.inl (9, 0), (K, τ, 191, e, s)) ∧ w_sv τ N t ∧ (τ = σ ∨ τ 138 2 = σ 138 2 + 1) ∧ ∀ x, x < 138 ∨ 170 ≤ x → τ x = σ x := by
    intro R hR
    obtain ⟨τ, h1, h2, h3, h4⟩ := s_anew (Z := Z) (e := e) (s := s) (l3 := (9, 0)) hL hA ha hn hw hf ht ht2 s1
    exact ⟨τ, hR τ h1, h2, Or.inr h3, h4⟩
  have w2 : w32 (σ 138 2) = σ 138 2 := q_wi (by omega) (by omega)
  rcases s3 with s3 | ⟨M, u, hM⟩
  · refine anew _ (fun τ h => ?_)
    rw [e_65]
    simp only [b_65_0, ↓reduceIte, Nat.reduceEqDiff, Nat.reduceMul, q_n10, q_n01, Option.bind_some, g_aft0, g_aft1, g_aft2, g_aft3, g_aft9, Nat.reduceAdd, m_kill_0, m_kill_2, m_kill_3, m_kill_4, m_kill_9, true_or, or_true, q_lm1, q_l0, q_l1, q_l2, q_l3, q_l4, q_l5, q_l6, q_l8, q_l9, q_l10, q_l12, q_l32, q_l50, q_l120, q_l122, q_l126, q_l372, q_l1000, q_l1000000, q_surF hL.2.2.1, q_tkF hL.2.1, s3, Int.le_refl]
    exact h
  · have hM' := hM
    obtain ⟨m1, m2, m3, m4, m5, m6, m7, m8, m9⟩ := hM
    have wu : w32 u = u := q_wi (by omega) (by omega)
    have wt : w32 t = t := q_wi (by omega) (by omega)
    have c1 : ¬ σ 138 2 ≤ 0 := by clear w2 wu wt; omega
    by_cases c : t = u ∧ q_nsB σ 139 a
    · refine ⟨σ, ?_, ?_, Or.inl rfl, fun _ _ => rfl⟩
      · have hsm := (n_same (Z := Z) (e := e) (s := s) (σ := σ) (q_tkF hL.2.1).1 hA).1 c.2
        rw [e_65]
        simp only [b_65_0, b_65_7, b_65_15, b_65_23, b_65_26, ↓reduceIte, Nat.reduceEqDiff, Nat.reduceMul, q_n10, q_n01, Option.bind_some, g_aft0, g_aft1, g_aft2, g_aft3, g_aft9, Nat.reduceAdd, m_kill_0, m_kill_2, m_kill_3, m_kill_4, m_kill_9, true_or, or_true, q_lm1, q_l0, q_l1, q_l2, q_l3, q_l4, q_l5, q_l6, q_l8, q_l9, q_l10, q_l12, q_l32, q_l50, q_l120, q_l122, q_l126, q_l372, q_l1000, q_l1000000, q_surF hL.2.2.1, q_tkF hL.2.1, hA, w2, c1, m8, wu, c.1, hsm]
      · have hMN := n_sameE m4.1 hn m1 hw m2 hf c.2
        rw [c.1, ← hMN]
        exact hM'
    · refine anew _ (fun τ h => ?_)
      rw [e_65]
      by_cases ct : t = u
      · have hsm := (n_same (Z := Z) (e := e) (s := s) (σ := σ) (q_tkF hL.2.1).1 hA).2 (fun q => c ⟨ct, q⟩)
        simp only [b_65_0, b_65_7, b_65_15, b_65_23, ↓reduceIte, Nat.reduceEqDiff, Nat.reduceMul, q_n10, q_n01, Option.bind_some, g_aft0, g_aft1, g_aft2, g_aft3, g_aft9, Nat.reduceAdd, m_kill_0, m_kill_2, m_kill_3, m_kill_4, m_kill_9, true_or, or_true, q_lm1, q_l0, q_l1, q_l2, q_l3, q_l4, q_l5, q_l6, q_l8, q_l9, q_l10, q_l12, q_l32, q_l50, q_l120, q_l122, q_l126, q_l372, q_l1000, q_l1000000, q_surF hL.2.2.1, q_tkF hL.2.1, hA, w2, c1, m8, wu, ct, hsm]
        rw [← ct]
        exact h
      · simp only [b_65_0, b_65_7, ↓reduceIte, Nat.reduceEqDiff, Nat.reduceMul, q_n10, q_n01, Option.bind_some, g_aft0, g_aft1, g_aft2, g_aft3, g_aft9, Nat.reduceAdd, m_kill_0, m_kill_2, m_kill_3, m_kill_4, m_kill_9, true_or, or_true, q_lm1, q_l0, q_l1, q_l2, q_l3, q_l4, q_l5, q_l6, q_l8, q_l9, q_l10, q_l12, q_l32, q_l50, q_l120, q_l122, q_l126, q_l372, q_l1000, q_l1000000, q_surF hL.2.2.1, q_tkF hL.2.1, w2, c1, m8, wu, wt, ct]
        exact h
end
end
