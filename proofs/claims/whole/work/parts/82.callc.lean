section
/-! The class's calls: run, going on. -/
section
variable {Z : mZ} {K : Nat → mK} {σ τ N M : Nat → Nat → Int} {R : Nat → Nat → Nat → Int} {e s g i L n c k a : Nat} {t p q v b x y z w u S : Int} {X : Nat → Int}
theorem y_do_01 {kd : Int} : (y_do kd x y z N).2 = 0 ∨ (y_do kd x y z N).2 = 1 := by
  unfold y_do
  repeat' split
  all_goals simp
theorem w_kc_k : (w_kd X L i = 0 ∧ w_kc X L i = 119) ∨ (w_kd X L i = 1 ∧ w_kc X L i = 118) ∨ (w_kd X L i = 2 ∧ w_kc X L i = 120) ∨ (2 < w_kd X L i ∧ w_kc X L i = 35) := by
  unfold w_kc
  by_cases h0 : w_kd X L i = 0
  · rw [if_pos h0]; exact Or.inl ⟨h0, rfl⟩
  · rw [if_neg h0]
    by_cases h1 : w_kd X L i = 1
    · rw [if_pos h1]; exact Or.inr (Or.inl ⟨h1, rfl⟩)
    · rw [if_neg h1]
      by_cases h2 : w_kd X L i = 2
      · rw [if_pos h2]; exact Or.inr (Or.inr (Or.inl ⟨h2, rfl⟩))
      · rw [if_neg h2]; exact Or.inr (Or.inr (Or.inr ⟨by omega, rfl⟩))
theorem w_flf_s (hj : i ≤ L) (hsk : w_sk X L i < L) (h : w_flf X L (k + 1) i = -1) : (w_cm X L (w_sk X L i)).1 = true ∧ w_flf X L k (w_cm X L (w_sk X L i)).2.1 = -1 := by
  have h2 : (if w_sk X L i < L then (if (w_cm X L (w_sk X L i)).1 = true then w_flf X L k (w_cm X L (w_sk X L i)).2.1 else ((w_cm X L (w_sk X L i)).2.1 : Int)) else -1) = -1 := h
  rw [if_pos hsk] at h2
  by_cases hc : (w_cm X L (w_sk X L i)).1 = true
  · rw [if_pos hc] at h2
    exact ⟨hc, h2⟩
  · rw [if_neg hc] at h2
    omega
theorem a_runl (hL : q_lay K) : ∀ (f j i : Nat) (σ N : Nat → Nat → Int) (d : Int), f + j = 120 → j ≤ i → i ≤ L → w_flf X L (L + 1 - j) i = -1 → w_in0 σ N → w_tx σ X L → σ 186 2 = (i : Int) → ∃ τ, m_run Z (127, 34, [(2, ((0 : Nat) : Int)), (0, d), (0, (j : Int))], [], (K, σ, 206, e, s)) = some (.inl (0, (y_rn X L f i (N, d)).2), (K, τ, 206, e, s)) ∧ w_in0 τ (y_rn X L f i (N, d)).1 ∧ w_tx τ X L ∧ ∀ a, a < 1 ∨ 18 ≤ a → a ≠ 186 → a ≠ 190 → τ a = σ a := by
  intro f
  induction f with
  | zero =>
    intro j i σ N d hf hj hi hfl hn htx hp
    have hj' : j = 120 := by omega
    subst hj'
    refine ⟨σ, ?_, hn, htx, fun _ _ _ _ => rfl⟩
    have w1 : w32 120 = 120 := by decide
    have w2 : w32 ((120 : Nat) : Int) = 120 := by decide
    simp only [b_127_34, b_127_76, ↓reduceIte, Nat.reduceEqDiff, Nat.reduceMul, q_n10, q_n01, Option.bind_some, g_aft0, g_aft1, g_aft2, g_aft3, g_aft9, Nat.reduceAdd, m_kill_0, m_kill_2, m_kill_3, m_kill_4, m_kill_9, true_or, or_true, q_lm1, q_l0, q_l1, q_l2, q_l3, q_l4, q_l5, q_l6, q_l8, q_l9, q_l10, q_l12, q_l17, q_l32, q_l35, q_l48, q_l50, q_l54, q_l57, q_l64, q_l73, q_l118, q_l119, q_l120, q_l122, q_l126, q_l160, q_l256, q_l365, q_l372, q_l438, q_l1000, q_l100000, q_l1000000, w1, w2, Int.le_refl]
    rfl
  | succ f ih =>
    intro j i σ N d hf hj hi hfl hn htx hp
    have L120 := htx.2.1
    have w1 : w32 120 = 120 := by decide
    have w2 : w32 (j : Int) = (j : Int) := q_w (by clear w1; omega)
    have c1 : ¬ (120 : Int) ≤ (j : Int) := by clear w1 w2; omega
    have hm := c_hasMore (Z := Z) (e := e) (s := s) hL htx hp hi
    have hsl := w_sk_le (X := X) hi
    have tx1 : w_tx (m_up2 σ 186 2 (w_sk X L i : Int)) X L := w_tx_f htx q_fs_2
    have in1 : w_in0 (m_up2 σ 186 2 (w_sk X L i : Int)) N := ⟨hn.1, hn.2.1, nAt_fr hn.2.2 (fun a _ _ => m_up2_ne (by omega))⟩
    by_cases hsk : w_sk X L i < L
    · rw [if_pos hsk] at hm
      rw [show L + 1 - j = (L - j) + 1 by clear w1 w2; omega] at hfl
      obtain ⟨f1, f2⟩ := w_flf_s hi hsk hfl
      obtain ⟨τ1, r1, r2, r3, r4⟩ := c_readCmd (Z := Z) (e := e) (s := s) hL tx1 m_up2_at hsl.2
      obtain ⟨r5, r6⟩ := r4 f1
      rw [if_pos f1] at r1
      obtain ⟨n1, n2, n3⟩ := w_cm_num hsl.2 f1
      have in2 : w_in0 τ1 N := ⟨hn.1, hn.2.1, nAt_fr in1.2.2 (fun a _ _ => r2.1 a (by omega) (by omega))⟩
      have hkk := w_kc_k (X := X) (L := L) (i := w_sk X L i)
      have hlen : 2 ≤ (w_cm X L (w_sk X L i)).2.2.length ∧ (w_kc X L (w_sk X L i) = 120 ∨ w_kc X L (w_sk X L i) = 35 → 3 ≤ (w_cm X L (w_sk X L i)).2.2.length) := by
        rw [n3]
        clear w1 w2 hm r1
        split
        · next c => exact ⟨Nat.le_refl _, fun q => by omega⟩
        · next c => exact ⟨by omega, fun _ => Nat.le_refl _⟩
      obtain ⟨τ2, q1, q2, q3⟩ := a_carry (Z := Z) (e := e) (s := s) (x := (w_cm X L (w_sk X L i)).2.2.getD 0 0) (y := (w_cm X L (w_sk X L i)).2.2.getD 1 0) (z := (w_cm X L (w_sk X L i)).2.2.getD 2 0) hL in2 r5 (by clear w1 w2 hm r1; omega) (r6 0 (by clear w1 w2 hm r1; omega)) (n1 0) (r6 1 (by clear w1 w2 hm r1; omega)) (n1 1) (fun q => ⟨r6 2 (hlen.2 q), n1 2⟩)
      have hcl := w_cm_le (X := X) hsl.2
      have hca := w_cm_adv hsl.2 f1
      have tx3 : w_tx τ2 X L := w_tx_fr (w_tx_f tx1 r2) (by rw [q3 186 (by omega)]) (q3 188 (by omega))
      have hgo : ∀ dd, ∃ τ, m_run Z (127, 34, [(2, ((0 : Nat) : Int)), (0, dd), (0, ((j + 1 : Nat) : Int))], [], (K, τ2, 206, e, s)) = some (.inl (0, (y_rn X L f (w_cm X L (w_sk X L i)).2.1 ((y_d1 X L (w_sk X L i) N).1, dd)).2), (K, τ, 206, e, s)) ∧ _ := fun dd => ih (j + 1) (w_cm X L (w_sk X L i)).2.1 τ2 (y_d1 X L (w_sk X L i) N).1 dd (by clear w1 w2 hm r1; omega) (by clear w1 w2 hm r1; omega) hcl.2 (by rw [show L + 1 - (j + 1) = L - j by clear w1 w2 hm r1; omega]; exact f2) q2 tx3 (by rw [q3 186 (by omega)]; exact r3)
      have eqr : y_rn X L (f + 1) i (N, d) = y_rn X L f (w_cm X L (w_sk X L i)).2.1 ((y_d1 X L (w_sk X L i) N).1, d + (y_d1 X L (w_sk X L i) N).2) := by
        show (if w_sk X L i < L then _ else _) = _
        rw [if_pos hsk]
      have ej : (j : Int) + 1 = ((j + 1 : Nat) : Int) := rfl
      obtain ⟨τ, u1, u2, u3, u4⟩ := hgo (d + (y_d1 X L (w_sk X L i) N).2)
      rw [eqr]
      refine ⟨τ, ?_, u2, u3, fun a h1 h2 h3 => ?_⟩
      · rw [← u1]
        rcases y_do_01 (kd := w_kc X L (w_sk X L i)) (x := (w_cm X L (w_sk X L i)).2.2.getD 0 0) (y := (w_cm X L (w_sk X L i)).2.2.getD 1 0) (z := (w_cm X L (w_sk X L i)).2.2.getD 2 0) (N := N) with h0 | h0
        · rw [show (y_d1 X L (w_sk X L i) N).2 = 0 from h0, Int.add_zero]
          rw [h0] at q1
          conv => lhs; simp only [b_127_34, ↓reduceIte, Nat.reduceEqDiff, Nat.reduceMul, q_n10, q_n01, Option.bind_some, g_aft0, g_aft1, g_aft2, g_aft3, g_aft9, Nat.reduceAdd, m_kill_0, m_kill_2, m_kill_3, m_kill_4, m_kill_9, true_or, or_true, q_lm1, q_l0, q_l1, q_l2, q_l3, q_l4, q_l5, q_l6, q_l8, q_l9, q_l10, q_l12, q_l17, q_l32, q_l35, q_l48, q_l50, q_l54, q_l57, q_l64, q_l73, q_l118, q_l119, q_l120, q_l122, q_l126, q_l160, q_l256, q_l365, q_l372, q_l438, q_l1000, q_l100000, q_l1000000, w1, w2, c1]
          simp only [b_127_40, b_127_47, b_127_50, b_127_57, b_127_60, b_127_64, b_127_70, ↓reduceIte, Nat.reduceEqDiff, Nat.reduceMul, q_n10, q_n01, Option.bind_some, g_aft0, g_aft1, g_aft2, g_aft3, g_aft9, Nat.reduceAdd, m_kill_0, m_kill_2, m_kill_3, m_kill_4, m_kill_9, true_or, or_true, q_lm1, q_l0, q_l1, q_l2, q_l3, q_l4, q_l5, q_l6, q_l8, q_l9, q_l10, q_l12, q_l17, q_l32, q_l35, q_l48, q_l50, q_l54, q_l57, q_l64, q_l73, q_l118, q_l119, q_l120, q_l122, q_l126, q_l160, q_l256, q_l365, q_l372, q_l438, q_l1000, q_l100000, q_l1000000, q_clsF hL.1, q_obF hL, hm, r1, q1, ej]
        · rw [show (y_d1 X L (w_sk X L i) N).2 = 1 from h0]
          rw [h0] at q1
          conv => lhs; simp only [b_127_34, ↓reduceIte, Nat.reduceEqDiff, Nat.reduceMul, q_n10, q_n01, Option.bind_some, g_aft0, g_aft1, g_aft2, g_aft3, g_aft9, Nat.reduceAdd, m_kill_0, m_kill_2, m_kill_3, m_kill_4, m_kill_9, true_or, or_true, q_lm1, q_l0, q_l1, q_l2, q_l3, q_l4, q_l5, q_l6, q_l8, q_l9, q_l10, q_l12, q_l17, q_l32, q_l35, q_l48, q_l50, q_l54, q_l57, q_l64, q_l73, q_l118, q_l119, q_l120, q_l122, q_l126, q_l160, q_l256, q_l365, q_l372, q_l438, q_l1000, q_l100000, q_l1000000, w1, w2, c1]
          simp only [b_127_40, b_127_47, b_127_50, b_127_57, b_127_60, b_127_64, b_127_67, b_127_70, ↓reduceIte, Nat.reduceEqDiff, Nat.reduceMul, q_n10, q_n01, Option.bind_some, g_aft0, g_aft1, g_aft2, g_aft3, g_aft9, Nat.reduceAdd, m_kill_0, m_kill_2, m_kill_3, m_kill_4, m_kill_9, true_or, or_true, q_lm1, q_l0, q_l1, q_l2, q_l3, q_l4, q_l5, q_l6, q_l8, q_l9, q_l10, q_l12, q_l17, q_l32, q_l35, q_l48, q_l50, q_l54, q_l57, q_l64, q_l73, q_l118, q_l119, q_l120, q_l122, q_l126, q_l160, q_l256, q_l365, q_l372, q_l438, q_l1000, q_l100000, q_l1000000, q_clsF hL.1, q_obF hL, hm, r1, q1, ej]
      · rw [u4 a h1 h2 h3, q3 a h1, r2.1 a h2 h3, m_up2_ne h2]
    · rw [if_neg hsk] at hm
      have eqr : y_rn X L (f + 1) i (N, d) = (N, d) := by
        show (if w_sk X L i < L then _ else _) = _
        rw [if_neg hsk]
      rw [eqr]
      refine ⟨m_up2 σ 186 2 (w_sk X L i : Int), ?_, in1, tx1, fun a _ h2 _ => m_up2_ne h2⟩
      conv => lhs; simp only [b_127_34, ↓reduceIte, Nat.reduceEqDiff, Nat.reduceMul, q_n10, q_n01, Option.bind_some, g_aft0, g_aft1, g_aft2, g_aft3, g_aft9, Nat.reduceAdd, m_kill_0, m_kill_2, m_kill_3, m_kill_4, m_kill_9, true_or, or_true, q_lm1, q_l0, q_l1, q_l2, q_l3, q_l4, q_l5, q_l6, q_l8, q_l9, q_l10, q_l12, q_l17, q_l32, q_l35, q_l48, q_l50, q_l54, q_l57, q_l64, q_l73, q_l118, q_l119, q_l120, q_l122, q_l126, q_l160, q_l256, q_l365, q_l372, q_l438, q_l1000, q_l100000, q_l1000000, w1, w2, c1]
      simp only [b_127_40, b_127_47, b_127_76, ↓reduceIte, Nat.reduceEqDiff, Nat.reduceMul, q_n10, q_n01, Option.bind_some, g_aft0, g_aft1, g_aft2, g_aft3, g_aft9, Nat.reduceAdd, m_kill_0, m_kill_2, m_kill_3, m_kill_4, m_kill_9, true_or, or_true, q_lm1, q_l0, q_l1, q_l2, q_l3, q_l4, q_l5, q_l6, q_l8, q_l9, q_l10, q_l12, q_l17, q_l32, q_l35, q_l48, q_l50, q_l54, q_l57, q_l64, q_l73, q_l118, q_l119, q_l120, q_l122, q_l126, q_l160, q_l256, q_l365, q_l372, q_l438, q_l1000, q_l100000, q_l1000000, q_clsF hL.1, q_obF hL, hm]
theorem w_flf_b : ∀ (k i : Nat), i ≤ L → -1 ≤ w_flf X L k i ∧ w_flf X L k i ≤ (L : Int)
  | 0, _, _ => ⟨Int.le_refl _, by show (-1 : Int) ≤ _; omega⟩
  | k + 1, i, hi => by
    have hs := w_sk_le (X := X) hi
    have hc := w_cm_le (X := X) hs.2
    show -1 ≤ (if w_sk X L i < L then (if (w_cm X L (w_sk X L i)).1 = true then w_flf X L k (w_cm X L (w_sk X L i)).2.1 else ((w_cm X L (w_sk X L i)).2.1 : Int)) else -1) ∧ (if w_sk X L i < L then (if (w_cm X L (w_sk X L i)).1 = true then w_flf X L k (w_cm X L (w_sk X L i)).2.1 else ((w_cm X L (w_sk X L i)).2.1 : Int)) else -1) ≤ (L : Int)
    split
    · split
      · exact w_flf_b k _ hc.2
      · omega
    · omega
theorem w_fl_b (h : L ≤ 120) : -1 ≤ w_fl X L ∧ w_fl X L ≤ 120 := by
  have := w_flf_b (X := X) (L := L) (L + 1) 0 (Nat.zero_le _)
  unfold w_fl
  omega
theorem x_run (hL : q_lay K) (h : w_ic σ N R c X L k) : (w_fl X L ≠ -1 → ∃ τ, m_cl Z 127 [(2, ((0 : Nat) : Int))] (K, σ, 206, e, s) = some (.inr 1, (K, τ, 206, e + 1, s + 6)) ∧ w_ic τ N R c X L k ∧ ∀ a, 191 ≤ a → τ a = σ a) ∧ (w_fl X L = -1 → ∃ τ, m_cl Z 127 [(2, ((0 : Nat) : Int))] (K, σ, 206, e, s) = some (.inl (0, (y_rn X L 120 0 (N, 0)).2), (K, τ, 206, e, s)) ∧ w_ic τ (y_rn X L 120 0 (N, 0)).1 (w_pR R c N) (w_pc c) X L k ∧ ∀ a, 191 ≤ a → τ a = σ a) := by
  obtain ⟨τ, t1, t2⟩ := c_fault (Z := Z) (e := e) (s := s) hL h.2.2.1
  have ic1 : w_ic τ N R c X L k := w_icT h (fun a ha => t2.1 a (by omega) (by omega)) (w_tx_f h.2.2.1 t2)
  have f1 : ∀ a, 191 ≤ a → τ a = σ a := fun a ha => t2.1 a (by omega) (by omega)
  have em : w32 (-1) = -1 := by decide
  constructor
  · intro hn
    have hw : ¬ w32 (w_fl X L) = -1 := by
      have hb := w_fl_b (X := X) h.2.2.1.2.1
      rw [q_wi (by clear em; omega) (by clear em; omega)]
      exact hn
    refine ⟨τ, ?_, ic1, f1⟩
    simp only [e_127, b_127_0, b_127_7, b_127_15, b_127_16, ↓reduceIte, Nat.reduceEqDiff, Nat.reduceMul, q_n10, q_n01, Option.bind_some, g_aft0, g_aft1, g_aft2, g_aft3, g_aft9, Nat.reduceAdd, m_kill_0, m_kill_2, m_kill_3, m_kill_4, m_kill_9, true_or, or_true, q_lm1, q_l0, q_l1, q_l2, q_l3, q_l4, q_l5, q_l6, q_l8, q_l9, q_l10, q_l12, q_l17, q_l32, q_l35, q_l48, q_l50, q_l54, q_l57, q_l64, q_l73, q_l118, q_l119, q_l120, q_l122, q_l126, q_l160, q_l256, q_l365, q_l372, q_l438, q_l1000, q_l100000, q_l1000000, q_clsF hL.1, q_obF hL, t1, em, hw, rq_V0, g_aftE, Nat.reduceLT, m_thr]
  · intro hn
    rw [hn] at t1
    obtain ⟨ρ, r1, r2, r3, r4⟩ := w_chg (Z := Z) (e := e) (s := s) hL ic1
    have tx2 : w_tx ρ X L := w_tx_fr ic1.2.2.1 (by rw [r3 186 (by omega)]) (r3 188 (by omega))
    have in3 : w_in0 (m_up2 ρ 186 2 0) N := ⟨r2.1, r2.2.1, nAt_fr r2.2.2 (fun a _ _ => m_up2_ne (by omega))⟩
    obtain ⟨ω, o1, o2, o3, o4⟩ := a_runl (Z := Z) (e := e) (s := s) hL (L := L) (X := X) 120 0 0 (m_up2 ρ 186 2 0) N 0 rfl (Nat.le_refl _) (Nat.zero_le _) hn in3 (w_tx_f tx2 q_fs_2) m_up2_at
    have ic2 := r4 (fun a => if a = 186 ∨ a = 190 then ρ a else ω a) (y_rn X L 120 0 (N, 0)).1 o2.1 o2.2.1 (nAt_fr o2.2.2 (fun a h1 h2 => by show (if a = 186 ∨ a = 190 then ρ a else ω a) = ω a; rw [if_neg (by omega)])) (fun a ha => by
      show (if a = 186 ∨ a = 190 then ρ a else ω a) = ρ a
      by_cases c1 : a = 186 ∨ a = 190
      · rw [if_pos c1]
      · rw [if_neg c1, o4 a ha (by omega) (by omega), m_up2_ne (by omega)])
    refine ⟨ω, ?_, w_icT ic2.1 (fun a ha => by show ω a = (if a = 186 ∨ a = 190 then ρ a else ω a); rw [if_neg (by omega)]) o3, fun a ha => by rw [o4 a (by omega) (by omega) (by omega), m_up2_ne (by omega), r3 a (by omega)]; exact f1 a ha⟩
    have hz : ((0 : Nat) : Int) = 0 := rfl
    rw [hz] at o1
    simp only [e_127, b_127_0, b_127_7, b_127_11, b_127_16, b_127_19, b_127_23, b_127_32, e_55, b_55_0, ↓reduceIte, Nat.reduceEqDiff, Nat.reduceMul, q_n10, q_n01, Option.bind_some, g_aft0, g_aft1, g_aft2, g_aft3, g_aft9, Nat.reduceAdd, m_kill_0, m_kill_2, m_kill_3, m_kill_4, m_kill_9, true_or, or_true, q_lm1, q_l0, q_l1, q_l2, q_l3, q_l4, q_l5, q_l6, q_l8, q_l9, q_l10, q_l12, q_l17, q_l32, q_l35, q_l48, q_l50, q_l54, q_l57, q_l64, q_l73, q_l118, q_l119, q_l120, q_l122, q_l126, q_l160, q_l256, q_l365, q_l372, q_l438, q_l1000, q_l100000, q_l1000000, q_clsF hL.1, q_obF hL, t1, em, rq_V1, r1]
    exact o1
end
end
