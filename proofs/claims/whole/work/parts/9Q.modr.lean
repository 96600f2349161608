section
/-! The model's calls: covering, covered. -/
section
variable {N : Nat → Nat → Int} {t p q x : Int} {g i j k n : Nat}
theorem q_topN : ∀ k : Fin 8, ∀ S : Fin 256, 2 ^ k.val ≤ S.val → S.val < 2 ^ (k.val + 1) → w_sub (2 ^ k.val) S.val = true := by decide +kernel
theorem w_few_le {f1 : Nat → Rat} {y : Rat} {M : Int} {n : Nat} {c : Nat → Int} (hn : n ≤ 8) (h : w_few f1 y M (2 ^ n - 1) c) (h1 : ∀ i, i < n → f1 (2 ^ i) ≤ y) : ∀ k, k ≤ n → ∀ S, S < 2 ^ k → c S ≤ (k : Int) := by
  intro k
  induction k with
  | zero =>
    intro _ S hS
    have : S = 0 := by simp at hS; exact hS
    rw [this, h.1]
    exact Int.le_refl _
  | succ k ih =>
    intro hk S hS
    by_cases c1 : S < 2 ^ k
    · have := ih (by omega) S c1
      omega
    · have p8 := q_pow8 (n := k) (by omega)
      have pn := q_pow8 hn
      have e1 : 2 ^ (k + 1) = 2 * 2 ^ k := by rw [Nat.pow_succ]; omega
      have e2 : 2 ^ (k + 1) ≤ 2 ^ n := Nat.pow_le_pow_right (by omega) hk
      have hs := q_topN ⟨k, by omega⟩ ⟨S, by omega⟩ (by show 2 ^ k ≤ S; omega) (by show S < 2 ^ (k + 1); exact hS)
      have := (h.2 S (by omega) (by omega)).2.1 (2 ^ k) (by omega) (by omega) hs (h1 k (by omega))
      have h3 := ih (by omega) (S - 2 ^ k) (by omega)
      omega
theorem w_few_u {f1 : Nat → Rat} {y : Rat} {n : Nat} {c c' : Nat → Int} (hn : n ≤ 8) (h : w_few f1 y 8 (2 ^ n - 1) c) (h' : w_few f1 y 9 (2 ^ n - 1) c') (h1 : ∀ i, i < n → f1 (2 ^ i) ≤ y) : c (2 ^ n - 1) = c' (2 ^ n - 1) := by
  have p8 := q_pow8 hn
  have h8 := w_few_le hn h' h1 n (Nat.le_refl _)
  have key : ∀ S, S ≤ 2 ^ n - 1 → c S = c' S := by
    intro S
    induction S using Nat.strongRecOn with
    | ind S ih =>
      intro hS
      by_cases c0 : S = 0
      · rw [c0, h.1, h'.1]
      · obtain ⟨a1, a2, a3⟩ := h.2 S (by omega) hS
        obtain ⟨b1, b2, b3⟩ := h'.2 S (by omega) hS
        have h9 := h8 S (Nat.lt_of_le_of_lt hS (Nat.sub_lt p8.1 Nat.one_pos))
        refine Int.le_antisymm ?_ ?_
        · rcases b3 with b3 | ⟨a, d1, d2, d3, d4, d5⟩
          · omega
          · have := a2 a d1 d2 d3 d4
            rw [ih (S - a) (by omega) (by omega), ← d5] at this
            exact this
        · rcases a3 with a3 | ⟨a, d1, d2, d3, d4, d5⟩
          · omega
          · have := b2 a d1 d2 d3 d4
            rw [← ih (S - a) (by omega) (by omega), ← d5] at this
            exact this
  exact key _ (Nat.le_refl _)
/-- a node without edges is far from all others -/
theorem d_lone (hw : q_wf N) (hno : ∀ e, e < w_ne N → w_f N e ≠ i ∧ w_s N e ≠ i) : ∀ k, k ≤ 8 → ∀ b, b ≠ i → d_fw 1000000 N k i b = 1000000 := by
  have hin : ∀ k, k ≤ w_ne N → ∀ b, b ≠ i → d_in 1000000 N k i b = 1000000 := by
    intro k
    induction k with
    | zero => intro _ b hb; unfold d_in; rw [if_neg (fun q => hb q.symm)]
    | succ k ih =>
      intro hk b hb
      unfold d_in
      have := hno k (by omega)
      rw [if_neg (by omega)]
      exact ih (by omega) b hb
  intro k
  induction k with
  | zero => intro _ b hb; exact hin _ (Nat.le_refl _) b hb
  | succ k ih =>
    intro hk b hb
    have q1 := d_fw_b hw (F := 1000000) (by omega) (k := k) (by omega) k b
    have q2 := (d_fw_b hw (F := 1000000) (by omega) (k := k) (by omega) i i).1 rfl
    have h1 := ih (by omega) b hb
    unfold d_fw
    by_cases c : k = i
    · rw [if_neg (by rw [c] at q2 h1 ⊢; omega)]
      exact h1
    · have h2 := ih (by omega) k c
      rw [if_neg (by omega)]
      exact h1
theorem w_inc (hw : q_wf N) (hc : y_cc N) (hi : i < w_nn N) : ∃ e, e < w_ne N ∧ (w_f N e = i ∨ w_s N e = i) := by
  refine Classical.byContradiction (fun hno => ?_)
  have hno' : ∀ e, e < w_ne N → w_f N e ≠ i ∧ w_s N e ≠ i := fun e he => ⟨fun q => hno ⟨e, he, Or.inl q⟩, fun q => hno ⟨e, he, Or.inr q⟩⟩
  have h7 := wf_ed hw hc.2
  have h8 := d_lone hw hno' (w_nn N) (wf_n hw).2.2 (w_f N 0) (hno' 0 hc.2).1
  have h9 := w_D_cn hw hc.1 hi h7.2.2.1
  have : w_D N i (w_f N 0) = 1000000 := h8
  omega
/-- one node alone has the radius 0 -/
theorem w_single {f : Rat} (hw : q_wf N) (hc : y_cc N) (hi : i < w_nn N) (h : w_isR N 0 (2 ^ i) f) : f ≤ 0 := by
  obtain ⟨e, e1, e2⟩ := w_inc hw hc hi
  have n8 := (wf_n hw).2.2
  have h7 := wf_ed hw e1
  have ob := w_ob hw hc.1 e1 hi
  have hH : ∀ p, w_R N e i p 1 = 0 → w_H N 0 ((2 ^ i : Nat) : Int) e p 1 (w_nn N) = 0 := by
    intro p hp
    have hb := w_H_bit (N := N) (t := 0) (g := e) (p := p) (q := 1) (i := i) (o := 0) hi n8 (Nat.two_pow_pos i)
    have h0 : w_H N 0 ((0 : Nat) : Int) e p 1 (w_nn N) = 0 := w_H_0 n8
    rw [Nat.add_zero, h0] at hb
    have hF : w_F N 0 e i p 1 = 0 := by unfold w_F; rw [hp, Int.mul_zero]
    rw [hF, if_neg (by omega)] at hb
    exact hb
  have fin : ∀ p, (e, p, 1) ∈ w_pts N 0 → w_R N e i p 1 = 0 → f ≤ 0 := by
    intro p hp hr
    have := h.2 _ hp
    have hz : w_Hv N 0 ((2 ^ i : Nat) : Int) (e, p, 1) = 0 := hH p hr
    rw [hz, fr_0] at this
    exact this
  have al0 : w_al N e 0 1 = true := by
    rw [w_al_iff]
    rintro k hk ⟨h1, h2, -⟩
    obtain ⟨e', a1, a2, a3, -⟩ := wf_st hw hk
    omega
  have all' : w_al N e (N 10 e) 1 = true := by
    rw [w_al_iff]
    rintro k hk ⟨h1, -, h2⟩
    obtain ⟨e', a1, a2, a3, a4, a5, -⟩ := wf_st hw hk
    have : e' = e := by omega
    subst this
    omega
  rcases e2 with e2 | e2
  · refine fin 0 (w_pts_0 e1 al0) ?_
    have h0 : w_o N e i = 0 := by unfold w_o; rw [e2]; exact (w_D_b hw i i).1 rfl
    unfold w_R
    rw [h0, if_neg (by omega)]
    omega
  · refine fin (N 10 e) (w_pts_l e1 all') ?_
    have h0 : w_b N e i = N 10 e := by unfold w_b; rw [e2, (w_D_b hw i i).1 rfl]; omega
    unfold w_R
    rw [h0, if_pos (by omega)]
    omega
end
section
variable {Z : mZ} {K : Nat → mK} {σ τ N M : Nat → Nat → Int} {e g i L n c k s a : Nat} {t p q v x y z w u S : Int} {X : Nat → Int} {h : mH} {R : Nat → Nat → Nat → Int} {T : Nat → Int} {f1 f2 : Nat → Rat} {f3 b : Rat}
/-- the covers of one set -/
theorem z_cov1 {S : Nat} {C : Nat → Int} (hL : q_lay K) (hw : q_wf N) (hr : ∀ S, S < 2 ^ w_nn N → z_eo σ 200 201 S ∧ z_gr σ 200 201 S = f1 S) (h1 : 1 ≤ S) (hS : S < 2 ^ w_nn N) (hC : ∀ j, j < S → σ 204 j = C j ∧ 0 ≤ C j ∧ C j ≤ 9) (h9 : σ 204 S = 9) (hp : 0 ≤ p ∧ p ≤ 2147483647) (hq : 1 ≤ q ∧ q ≤ 1000) (hpw : w32 p = p) (hqw : w32 q = q) : ∃ τ, m_run Z (233, 74, [(2, ((191 : Nat) : Int)), (0, p), (0, q), (0, (S : Int)), (0, ((1 : Nat) : Int))], [], (K, σ, 206, e, s)) = m_run Z (233, 160, [(2, ((191 : Nat) : Int)), (0, p), (0, q), (0, (S : Int)), (0, ((S + 1 : Nat) : Int))], [], (K, τ, 206, e, s)) ∧ (∀ a, a ≠ 204 → τ a = σ a) ∧ (∀ j, j ≠ S → τ 204 j = σ 204 j) ∧ 0 ≤ τ 204 S ∧ w_fs1 f1 (fr p q) 9 C S (τ 204 S) := by
  have n0 := wf_n hw
  have p8 := q_pow8 n0.2.2
  have wS : w32 (S : Int) = (S : Int) := by clear hpw hqw; exact q_w (by omega)
  have s0 : 0 ≤ (S : Int) := by clear hpw hqw wS; omega
  have s1 : (S : Int) < ((256 : Nat) : Int) := by clear hpw hqw wS; omega
  have sn : ((S : Int)).toNat = S := rfl
  obtain ⟨y, y1, y2, y3, y4, y5, y6, y7⟩ := q_loop (Z := Z) (N := S + 1) (α := Nat → Nat → Int) (S := fun a x => (233, 74, [(2, ((191 : Nat) : Int)), (0, p), (0, q), (0, (S : Int)), (0, (a : Int))], [], (K, x, 206, e, s))) (P := fun a x => (∀ b, b ≠ 204 → x b = σ b) ∧ (∀ j, j ≠ S → x 204 j = σ 204 j) ∧ 0 ≤ x 204 S ∧ x 204 S ≤ 9 ∧ (∀ b, 1 ≤ b → b < a → w_sub b S = true → f1 b ≤ fr p q → x 204 S ≤ C (S - b) + 1) ∧ (x 204 S = 9 ∨ ∃ b, 1 ≤ b ∧ b ≤ S ∧ w_sub b S = true ∧ f1 b ≤ fr p q ∧ x 204 S = C (S - b) + 1) ∧ 1 ≤ a) (by
    rintro a τ ha ⟨x1, x2, x3, x4, x5, x6, x7⟩
    have wa : w32 (a : Int) = (a : Int) := by clear hpw hqw wS; exact q_w (by omega)
    have c0 : ¬ (S : Int) < (a : Int) := by clear hpw hqw wS wa; omega
    have a0 : 0 ≤ (a : Int) := by clear hpw hqw wS wa; omega
    have a1 : (a : Int) < ((256 : Nat) : Int) := by clear hpw hqw wS wa; omega
    have an : ((a : Int)).toNat = a := rfl
    have es : ((a + 1 : Nat) : Int) = (a : Int) + 1 := rfl
    have hm := w_sub_m (a := a) (S := S) (by clear hpw hqw wS wa; omega) (by clear hpw hqw wS wa; omega)
    by_cases hsub : w_sub a S = true
    · obtain ⟨rl, -, er⟩ := w_sub_le (a := a) (S := S) (by clear hpw hqw wS wa hm; omega) (by clear hpw hqw wS wa hm; omega) hsub
      have hm0 : i_and (a : Int) (i_xor (S : Int) (-1)) = 0 := by rw [hm]; exact hsub
      have w0 : w32 0 = 0 := by decide
      obtain ⟨r, hr'⟩ : ∃ r, r = S - a := ⟨_, rfl⟩
      rw [← hr'] at er
      have wr : w32 (r : Int) = (r : Int) := by clear hpw hqw wS wa hm hm0 er w0; exact q_w (by omega)
      have r0 : 0 ≤ (r : Int) := by clear hpw hqw wS wa hm hm0 er w0 wr; omega
      have r1 : (r : Int) < ((256 : Nat) : Int) := by clear hpw hqw wS wa hm hm0 er w0 wr; omega
      have rn : ((r : Int)).toNat = r := rfl
      obtain ⟨oa, ga⟩ := hr a (by clear hpw hqw wS wa hm hm0 er w0 wr; omega)
      have v200 : τ 200 = σ 200 := x1 200 (by omega)
      have v201 : τ 201 = σ 201 := x1 201 (by omega)
      obtain ⟨cr, cr0, cr9⟩ := hC r (by clear hpw hqw wS wa hm hm0 er w0 wr; omega)
      have vr : τ 204 r = C r := by rw [x2 r (by clear hpw hqw wS wa hm hm0 er w0 wr; omega)]; exact cr
      have m1 := q_mb oa.2.1 oa.2.2 (show 0 ≤ q by clear hpw hqw wS wa hm hm0 er w0 wr; omega) hq.2
      have m2 := q_mb hp.1 hp.2 (show 0 ≤ σ 201 a by have := oa.1.1; clear hpw hqw wS wa hm hm0 er w0 wr; omega) oa.1.2
      have w1 : w64 (σ 200 a * q) = σ 200 a * q := by clear hpw hqw wS wa hm hm0 er w0 wr; exact q_w64 (by omega) (by omega)
      have w2 : w64 (p * σ 201 a) = p * σ 201 a := by clear hpw hqw wS wa hm hm0 er w0 wr w1; exact q_w64 (by omega) (by omega)
      have hlt : (fr p q < f1 a) = (p * σ 201 a < σ 200 a * q) := by
        rw [← ga]
        exact fr_lt (by clear hpw hqw wS wa hm hm0 er w0 wr w1 w2; omega) (by have := oa.1.1; clear hpw hqw wS wa hm hm0 er w0 wr w1 w2; omega)
      have hc1 : (0 < w32 (l_cmp (σ 200 a * q) (p * σ 201 a))) = ¬ (f1 a ≤ fr p q) := by rw [l_cg w1 w2, ← hlt, Rat.not_le]
      have wT : w32 (τ 204 S) = τ 204 S := by clear hpw hqw wS wa hm hm0 er w0 wr w1 w2 hc1; exact q_wi (by omega) (by omega)
      have wC : w32 (C r + 1) = C r + 1 := by clear hpw hqw wS wa hm hm0 er w0 wr w1 w2 hc1 wT; exact q_wi (by omega) (by omega)
      clear w1 w2
      by_cases d1 : f1 a ≤ fr p q
      · by_cases d2 : τ 204 S ≤ C r + 1
        · refine ⟨τ, ?_, x1, x2, x3, x4, fun b b1 b2 b3 b4 => ?_, x6, by clear hpw hqw wS wa hm hm0 er w0 wr hc1 wT wC; omega⟩
          · rw [es]
            conv => lhs; simp only [b_233_74, ↓reduceIte, Nat.reduceEqDiff, Nat.reduceMul, q_n10, q_n01, Option.bind_some, g_aft0, g_aft1, g_aft2, g_aft3, g_aft9, Nat.reduceAdd, m_kill_0, m_kill_2, m_kill_3, m_kill_4, m_kill_9, true_or, or_true, q_lm1, q_l0, q_l1, q_l2, q_l3, q_l4, q_l5, q_l6, q_l8, q_l9, q_l10, q_l12, q_l17, q_l32, q_l35, q_l48, q_l50, q_l54, q_l57, q_l64, q_l73, q_l118, q_l119, q_l120, q_l122, q_l126, q_l160, q_l256, q_l365, q_l372, q_l438, q_l1000, q_l100000, q_l1000000, wS, wa, c0]
            simp only [b_233_80, b_233_89, b_233_113, b_233_154, ↓reduceIte, Nat.reduceEqDiff, Nat.reduceMul, q_n10, q_n01, Option.bind_some, g_aft0, g_aft1, g_aft2, g_aft3, g_aft9, Nat.reduceAdd, m_kill_0, m_kill_2, m_kill_3, m_kill_4, m_kill_9, true_or, or_true, q_lm1, q_l0, q_l1, q_l2, q_l3, q_l4, q_l5, q_l6, q_l8, q_l9, q_l10, q_l12, q_l17, q_l32, q_l35, q_l48, q_l50, q_l54, q_l57, q_l64, q_l73, q_l118, q_l119, q_l120, q_l122, q_l126, q_l160, q_l256, q_l365, q_l372, q_l438, q_l1000, q_l100000, q_l1000000, q_modF hL.2.2.2.2.2.2.1, hm0, hpw, hqw, wa, a0, a1, an, v200, v201, hc1.trans (eq_false (fun q => q d1)), wS, s0, s1, sn, er, wr, r0, r1, rn, vr, wT, wC, d2]
          · rcases Nat.lt_succ_iff_lt_or_eq.mp b2 with h | h
            · exact x5 b b1 h b3 b4
            · subst h; rw [← hr']; exact d2
        · have e204 : m_up2 τ 204 S (C r + 1) 204 S = C r + 1 := m_up2_at
          refine ⟨m_up2 τ 204 S (C r + 1), ?_, fun b hb => by rw [m_up2_ne hb]; exact x1 b hb, fun j hj => by rw [m_up2_nk hj]; exact x2 j hj, by rw [e204]; clear hpw hqw wS wa hm hm0 er w0 wr hc1 wT wC; omega, by rw [e204]; clear hpw hqw wS wa hm hm0 er w0 wr hc1 wT wC; omega, fun b b1 b2 b3 b4 => ?_, Or.inr ⟨a, x7, rl, hsub, d1, by rw [e204, ← hr']⟩, by clear hpw hqw wS wa hm hm0 er w0 wr hc1 wT wC; omega⟩
          · rw [es]
            conv => lhs; simp only [b_233_74, ↓reduceIte, Nat.reduceEqDiff, Nat.reduceMul, q_n10, q_n01, Option.bind_some, g_aft0, g_aft1, g_aft2, g_aft3, g_aft9, Nat.reduceAdd, m_kill_0, m_kill_2, m_kill_3, m_kill_4, m_kill_9, true_or, or_true, q_lm1, q_l0, q_l1, q_l2, q_l3, q_l4, q_l5, q_l6, q_l8, q_l9, q_l10, q_l12, q_l17, q_l32, q_l35, q_l48, q_l50, q_l54, q_l57, q_l64, q_l73, q_l118, q_l119, q_l120, q_l122, q_l126, q_l160, q_l256, q_l365, q_l372, q_l438, q_l1000, q_l100000, q_l1000000, wS, wa, c0]
            simp only [b_233_80, b_233_89, b_233_113, b_233_135, b_233_154, ↓reduceIte, Nat.reduceEqDiff, Nat.reduceMul, q_n10, q_n01, Option.bind_some, g_aft0, g_aft1, g_aft2, g_aft3, g_aft9, Nat.reduceAdd, m_kill_0, m_kill_2, m_kill_3, m_kill_4, m_kill_9, true_or, or_true, q_lm1, q_l0, q_l1, q_l2, q_l3, q_l4, q_l5, q_l6, q_l8, q_l9, q_l10, q_l12, q_l17, q_l32, q_l35, q_l48, q_l50, q_l54, q_l57, q_l64, q_l73, q_l118, q_l119, q_l120, q_l122, q_l126, q_l160, q_l256, q_l365, q_l372, q_l438, q_l1000, q_l100000, q_l1000000, q_modF hL.2.2.2.2.2.2.1, hm0, hpw, hqw, wa, a0, a1, an, v200, v201, hc1.trans (eq_false (fun q => q d1)), wS, s0, s1, sn, er, wr, r0, r1, rn, vr, wT, wC, d2]
          · rw [e204]
            rcases Nat.lt_succ_iff_lt_or_eq.mp b2 with h | h
            · have := x5 b b1 h b3 b4
              clear hpw hqw wS wa hm hm0 er w0 wr hc1 wT wC; omega
            · subst h; rw [← hr']; exact Int.le_refl _
      · refine ⟨τ, ?_, x1, x2, x3, x4, fun b b1 b2 b3 b4 => ?_, x6, by clear hpw hqw wS wa hm hm0 er w0 wr hc1 wT wC; omega⟩
        · rw [es]
          conv => lhs; simp only [b_233_74, ↓reduceIte, Nat.reduceEqDiff, Nat.reduceMul, q_n10, q_n01, Option.bind_some, g_aft0, g_aft1, g_aft2, g_aft3, g_aft9, Nat.reduceAdd, m_kill_0, m_kill_2, m_kill_3, m_kill_4, m_kill_9, true_or, or_true, q_lm1, q_l0, q_l1, q_l2, q_l3, q_l4, q_l5, q_l6, q_l8, q_l9, q_l10, q_l12, q_l17, q_l32, q_l35, q_l48, q_l50, q_l54, q_l57, q_l64, q_l73, q_l118, q_l119, q_l120, q_l122, q_l126, q_l160, q_l256, q_l365, q_l372, q_l438, q_l1000, q_l100000, q_l1000000, wS, wa, c0]
          simp only [b_233_80, b_233_89, b_233_154, ↓reduceIte, Nat.reduceEqDiff, Nat.reduceMul, q_n10, q_n01, Option.bind_some, g_aft0, g_aft1, g_aft2, g_aft3, g_aft9, Nat.reduceAdd, m_kill_0, m_kill_2, m_kill_3, m_kill_4, m_kill_9, true_or, or_true, q_lm1, q_l0, q_l1, q_l2, q_l3, q_l4, q_l5, q_l6, q_l8, q_l9, q_l10, q_l12, q_l17, q_l32, q_l35, q_l48, q_l50, q_l54, q_l57, q_l64, q_l73, q_l118, q_l119, q_l120, q_l122, q_l126, q_l160, q_l256, q_l365, q_l372, q_l438, q_l1000, q_l100000, q_l1000000, q_modF hL.2.2.2.2.2.2.1, hm0, hpw, hqw, wa, a0, a1, an, v200, v201, hc1.trans (eq_true d1)]
        · rcases Nat.lt_succ_iff_lt_or_eq.mp b2 with h | h
          · exact x5 b b1 h b3 b4
          · subst h; exact absurd b4 d1
    · have hmn : ¬ i_and (a : Int) (i_xor (S : Int) (-1)) = 0 := by rw [hm]; exact hsub
      have wmn : w32 (i_and (a : Int) (i_xor (S : Int) (-1))) = i_and (a : Int) (i_xor (S : Int) (-1)) := i_and_w
      refine ⟨τ, ?_, x1, x2, x3, x4, fun b b1 b2 b3 b4 => ?_, x6, by clear hpw hqw wS wa hm hmn wmn; omega⟩
      · rw [es]
        conv => lhs; simp only [b_233_74, ↓reduceIte, Nat.reduceEqDiff, Nat.reduceMul, q_n10, q_n01, Option.bind_some, g_aft0, g_aft1, g_aft2, g_aft3, g_aft9, Nat.reduceAdd, m_kill_0, m_kill_2, m_kill_3, m_kill_4, m_kill_9, true_or, or_true, q_lm1, q_l0, q_l1, q_l2, q_l3, q_l4, q_l5, q_l6, q_l8, q_l9, q_l10, q_l12, q_l17, q_l32, q_l35, q_l48, q_l50, q_l54, q_l57, q_l64, q_l73, q_l118, q_l119, q_l120, q_l122, q_l126, q_l160, q_l256, q_l365, q_l372, q_l438, q_l1000, q_l100000, q_l1000000, wS, wa, c0]
        simp only [b_233_80, b_233_154, ↓reduceIte, Nat.reduceEqDiff, Nat.reduceMul, q_n10, q_n01, Option.bind_some, g_aft0, g_aft1, g_aft2, g_aft3, g_aft9, Nat.reduceAdd, m_kill_0, m_kill_2, m_kill_3, m_kill_4, m_kill_9, true_or, or_true, q_lm1, q_l0, q_l1, q_l2, q_l3, q_l4, q_l5, q_l6, q_l8, q_l9, q_l10, q_l12, q_l17, q_l32, q_l35, q_l48, q_l50, q_l54, q_l57, q_l64, q_l73, q_l118, q_l119, q_l120, q_l122, q_l126, q_l160, q_l256, q_l365, q_l372, q_l438, q_l1000, q_l100000, q_l1000000, wmn, hmn]
      · rcases Nat.lt_succ_iff_lt_or_eq.mp b2 with h | h
        · exact x5 b b1 h b3 b4
        · subst h; exact absurd b3 hsub) S 1 σ (by clear hpw hqw wS; omega) ⟨fun _ _ => rfl, fun _ _ => rfl, by rw [h9]; decide, by rw [h9]; decide, fun b b1 b2 => by omega, Or.inl h9, Nat.le_refl 1⟩
  refine ⟨y, ?_, y2, y3, y4, y5, fun b b1 b2 b3 b4 => y6 b b1 (by clear hpw hqw wS; omega) b3 b4, y7.1⟩
  refine Eq.trans y1 ?_
  have wS1 : w32 ((S + 1 : Nat) : Int) = ((S + 1 : Nat) : Int) := by clear hpw hqw wS; exact q_w (by omega)
  have c1 : (S : Int) < ((S + 1 : Nat) : Int) := by clear hpw hqw wS wS1; omega
  conv => lhs; simp only [b_233_74, ↓reduceIte, Nat.reduceEqDiff, Nat.reduceMul, q_n10, q_n01, Option.bind_some, g_aft0, g_aft1, g_aft2, g_aft3, g_aft9, Nat.reduceAdd, m_kill_0, m_kill_2, m_kill_3, m_kill_4, m_kill_9, true_or, or_true, q_lm1, q_l0, q_l1, q_l2, q_l3, q_l4, q_l5, q_l6, q_l8, q_l9, q_l10, q_l12, q_l17, q_l32, q_l35, q_l48, q_l50, q_l54, q_l57, q_l64, q_l73, q_l118, q_l119, q_l120, q_l122, q_l126, q_l160, q_l256, q_l365, q_l372, q_l438, q_l1000, q_l100000, q_l1000000, wS, wS1, c1]
end
end
