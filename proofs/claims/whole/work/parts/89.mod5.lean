section
/-! The model: edges and stretches put in and taken out. -/
theorem z_sh_0 {f : Nat → Int} {A : Nat} : z_sh f A A = f := by
  funext j
  unfold z_sh
  rw [if_neg (by omega)]
theorem z_sh_s {f : Nat → Int} {A t : Nat} : m_up (z_sh f A (A + t)) (A + t) (f (A + t + 3)) = z_sh f A (A + (t + 1)) := by
  funext j
  rw [m_upf]
  unfold z_sh
  by_cases h : j = A + t
  · rw [if_pos h, if_pos (by omega), h]
  · rw [if_neg h]
    by_cases h2 : A ≤ j ∧ j < A + t
    · rw [if_pos h2, if_pos (by omega)]
    · rw [if_neg h2, if_neg (by omega)]
theorem z_sh_r {f : Nat → Int} {A t : Nat} : z_sh f A (A + t) (A + t + 3) = f (A + t + 3) := by
  unfold z_sh
  rw [if_neg (by omega)]
theorem z_sh_o {f : Nat → Int} {A B j : Nat} (h : j < A ∨ B ≤ j) : z_sh f A B j = f j := by
  unfold z_sh
  rw [if_neg (by omega)]
section
variable {Z : mZ} {K : Nat → mK} {σ τ N M : Nat → Nat → Int} {e g i L n c k a p s : Nat} {t q v b x y z w u S : Int} {X : Nat → Int} {h : mH} {R : Nat → Nat → Nat → Int}
theorem z_156 (hL : q_lay K) : m_cl Z 156 [(2, ((191 : Nat) : Int))] (K, σ, 206, e, s) = some (.inl (0, σ 192 0), (K, σ, 206, e, s)) := by
  simp only [e_156, b_156_0, ↓reduceIte, Nat.reduceEqDiff, Nat.reduceMul, q_n10, q_n01, Option.bind_some, g_aft0, g_aft1, g_aft2, g_aft3, g_aft9, Nat.reduceAdd, m_kill_0, m_kill_2, m_kill_3, m_kill_4, m_kill_9, true_or, or_true, q_lm1, q_l0, q_l1, q_l2, q_l3, q_l4, q_l5, q_l6, q_l8, q_l9, q_l10, q_l12, q_l17, q_l32, q_l35, q_l48, q_l50, q_l54, q_l57, q_l64, q_l73, q_l118, q_l119, q_l120, q_l122, q_l126, q_l160, q_l256, q_l365, q_l372, q_l438, q_l1000, q_l100000, q_l1000000, q_modF hL.2.2.2.2.2.2.1, Int.le_refl, z_c0, z_t0]
theorem z_158 (hL : q_lay K) : m_cl Z 158 [(2, ((191 : Nat) : Int))] (K, σ, 206, e, s) = some (.inl (0, σ 192 17), (K, σ, 206, e, s)) := by
  simp only [e_158, b_158_0, ↓reduceIte, Nat.reduceEqDiff, Nat.reduceMul, q_n10, q_n01, Option.bind_some, g_aft0, g_aft1, g_aft2, g_aft3, g_aft9, Nat.reduceAdd, m_kill_0, m_kill_2, m_kill_3, m_kill_4, m_kill_9, true_or, or_true, q_lm1, q_l0, q_l1, q_l2, q_l3, q_l4, q_l5, q_l6, q_l8, q_l9, q_l10, q_l12, q_l17, q_l32, q_l35, q_l48, q_l50, q_l54, q_l57, q_l64, q_l73, q_l118, q_l119, q_l120, q_l122, q_l126, q_l160, q_l256, q_l365, q_l372, q_l438, q_l1000, q_l100000, q_l1000000, q_modF hL.2.2.2.2.2.2.1, z_p17, z_c17, z_t17]
theorem z_161 (hL : q_lay K) : m_cl Z 161 [(2, ((191 : Nat) : Int))] (K, σ, 206, e, s) = some (.inl (0, σ 192 54), (K, σ, 206, e, s)) := by
  simp only [e_161, b_161_0, ↓reduceIte, Nat.reduceEqDiff, Nat.reduceMul, q_n10, q_n01, Option.bind_some, g_aft0, g_aft1, g_aft2, g_aft3, g_aft9, Nat.reduceAdd, m_kill_0, m_kill_2, m_kill_3, m_kill_4, m_kill_9, true_or, or_true, q_lm1, q_l0, q_l1, q_l2, q_l3, q_l4, q_l5, q_l6, q_l8, q_l9, q_l10, q_l12, q_l17, q_l32, q_l35, q_l48, q_l50, q_l54, q_l57, q_l64, q_l73, q_l118, q_l119, q_l120, q_l122, q_l126, q_l160, q_l256, q_l365, q_l372, q_l438, q_l1000, q_l100000, q_l1000000, q_modF hL.2.2.2.2.2.2.1, z_p54, z_c54, z_t54]
theorem z_connects (hL : q_lay K) (h : z_row (σ 192) N) (hw : q_wf N) (hE : w_ne N < 12) : m_cl Z 166 [(2, ((191 : Nat) : Int)), (0, x), (0, y), (0, z)] (K, σ, 206, e, s) = some (.inl (0, (w_ne N : Int)), (K, q_put σ 192 (m_up (m_up (m_up (m_up (σ 192) (18 + 3 * w_ne N) x) (18 + 3 * w_ne N + 1) y) (18 + 3 * w_ne N + 2) z) 17 ((w_ne N : Int) + 1)), 206, e, s)) := by
  have h0 : σ 192 17 = (w_ne N : Int) := h.1.2.1.trans (wf_e hw).1
  obtain ⟨i1, i2, i3⟩ := z_ix (x := 18 + 3 * (w_ne N : Int)) (m := 18 + 3 * w_ne N) (L' := 73) (by omega) (by omega) (by omega)
  obtain ⟨j1, j2, j3⟩ := z_ix (x := 18 + 3 * (w_ne N : Int) + 1) (m := 18 + 3 * w_ne N + 1) (L' := 73) (by omega) (by omega) (by omega)
  obtain ⟨k1, k2, k3⟩ := z_ix (x := 18 + 3 * (w_ne N : Int) + 2) (m := 18 + 3 * w_ne N + 2) (L' := 73) (by omega) (by omega) (by omega)
  have n1 : (17 : Nat) ≠ 18 + 3 * w_ne N := by omega
  have n2 : (17 : Nat) ≠ 18 + 3 * w_ne N + 1 := by omega
  have n3 : (17 : Nat) ≠ 18 + 3 * w_ne N + 2 := by omega
  simp only [e_166, b_166_0, ↓reduceIte, Nat.reduceEqDiff, Nat.reduceMul, q_n10, q_n01, Option.bind_some, g_aft0, g_aft1, g_aft2, g_aft3, g_aft9, Nat.reduceAdd, m_kill_0, m_kill_2, m_kill_3, m_kill_4, m_kill_9, true_or, or_true, q_lm1, q_l0, q_l1, q_l2, q_l3, q_l4, q_l5, q_l6, q_l8, q_l9, q_l10, q_l12, q_l17, q_l32, q_l35, q_l48, q_l50, q_l54, q_l57, q_l64, q_l73, q_l118, q_l119, q_l120, q_l122, q_l126, q_l160, q_l256, q_l365, q_l372, q_l438, q_l1000, q_l100000, q_l1000000, q_modF hL.2.2.2.2.2.2.1, z_158 hL, h0]
  simp only [b_166_4, ↓reduceIte, Nat.reduceEqDiff, Nat.reduceMul, q_n10, q_n01, Option.bind_some, g_aft0, g_aft1, g_aft2, g_aft3, g_aft9, Nat.reduceAdd, m_kill_0, m_kill_2, m_kill_3, m_kill_4, m_kill_9, true_or, or_true, q_lm1, q_l0, q_l1, q_l2, q_l3, q_l4, q_l5, q_l6, q_l8, q_l9, q_l10, q_l12, q_l17, q_l32, q_l35, q_l48, q_l50, q_l54, q_l57, q_l64, q_l73, q_l118, q_l119, q_l120, q_l122, q_l126, q_l160, q_l256, q_l365, q_l372, q_l438, q_l1000, q_l100000, q_l1000000, q_modF hL.2.2.2.2.2.2.1, i1, i2, i3, j1, j2, j3, k1, k2, k3, z_p17, z_c17, z_t17, m_up2_nk n1, m_up2_nk n2, m_up2_nk n3, m_up_ne n1, m_up_ne n2, m_up_ne n3, h0, q_up_put, q_put_put, q_put_at]
theorem z_forbids (hL : q_lay K) (h : z_row (σ 192) N) (hw : q_wf N) (hE : w_ns N < 6) : m_cl Z 175 [(2, ((191 : Nat) : Int)), (0, x), (0, y), (0, z)] (K, σ, 206, e, s) = some (.inl (0, (w_ns N : Int)), (K, q_put σ 192 (m_up (m_up (m_up (m_up (σ 192) (55 + 3 * w_ns N) x) (55 + 3 * w_ns N + 1) y) (55 + 3 * w_ns N + 2) z) 54 ((w_ns N : Int) + 1)), 206, e, s)) := by
  have h0 : σ 192 54 = (w_ns N : Int) := h.1.2.2.trans (wf_s hw).1
  obtain ⟨i1, i2, i3⟩ := z_ix (x := 55 + 3 * (w_ns N : Int)) (m := 55 + 3 * w_ns N) (L' := 73) (by omega) (by omega) (by omega)
  obtain ⟨j1, j2, j3⟩ := z_ix (x := 55 + 3 * (w_ns N : Int) + 1) (m := 55 + 3 * w_ns N + 1) (L' := 73) (by omega) (by omega) (by omega)
  obtain ⟨k1, k2, k3⟩ := z_ix (x := 55 + 3 * (w_ns N : Int) + 2) (m := 55 + 3 * w_ns N + 2) (L' := 73) (by omega) (by omega) (by omega)
  have n1 : (54 : Nat) ≠ 55 + 3 * w_ns N := by omega
  have n2 : (54 : Nat) ≠ 55 + 3 * w_ns N + 1 := by omega
  have n3 : (54 : Nat) ≠ 55 + 3 * w_ns N + 2 := by omega
  simp only [e_175, b_175_0, ↓reduceIte, Nat.reduceEqDiff, Nat.reduceMul, q_n10, q_n01, Option.bind_some, g_aft0, g_aft1, g_aft2, g_aft3, g_aft9, Nat.reduceAdd, m_kill_0, m_kill_2, m_kill_3, m_kill_4, m_kill_9, true_or, or_true, q_lm1, q_l0, q_l1, q_l2, q_l3, q_l4, q_l5, q_l6, q_l8, q_l9, q_l10, q_l12, q_l17, q_l32, q_l35, q_l48, q_l50, q_l54, q_l57, q_l64, q_l73, q_l118, q_l119, q_l120, q_l122, q_l126, q_l160, q_l256, q_l365, q_l372, q_l438, q_l1000, q_l100000, q_l1000000, q_modF hL.2.2.2.2.2.2.1, z_161 hL, h0]
  simp only [b_175_4, ↓reduceIte, Nat.reduceEqDiff, Nat.reduceMul, q_n10, q_n01, Option.bind_some, g_aft0, g_aft1, g_aft2, g_aft3, g_aft9, Nat.reduceAdd, m_kill_0, m_kill_2, m_kill_3, m_kill_4, m_kill_9, true_or, or_true, q_lm1, q_l0, q_l1, q_l2, q_l3, q_l4, q_l5, q_l6, q_l8, q_l9, q_l10, q_l12, q_l17, q_l32, q_l35, q_l48, q_l50, q_l54, q_l57, q_l64, q_l73, q_l118, q_l119, q_l120, q_l122, q_l126, q_l160, q_l256, q_l365, q_l372, q_l438, q_l1000, q_l100000, q_l1000000, q_modF hL.2.2.2.2.2.2.1, i1, i2, i3, j1, j2, j3, k1, k2, k3, z_p54, z_c54, z_t54, m_up2_nk n1, m_up2_nk n2, m_up2_nk n3, m_up_ne n1, m_up_ne n2, m_up_ne n3, h0, q_up_put, q_put_put, q_put_at]
theorem z_drop {m : Nat} (hL : q_lay K) (h : σ 192 54 = (m : Int)) (hp : p < m) (hm : m ≤ 6) : m_cl Z 168 [(2, ((191 : Nat) : Int)), (0, (p : Int))] (K, σ, 206, e, s) = some (.inl (9, 0), (K, q_put σ 192 (m_up (z_sh (σ 192) (55 + 3 * p) (55 + 3 * (m - 1))) 54 ((m : Int) - 1)), 206, e, s)) := by
  obtain ⟨T, hT⟩ : ∃ T, T = 3 * (m - 1 - p) := ⟨_, rfl⟩
  have key : ∀ t, t ≤ T → q_put σ 192 (z_sh (σ 192) (55 + 3 * p) (55 + 3 * p + t)) 192 54 = (m : Int) := fun t _ => by rw [q_put_at, z_sh_o (by omega)]; exact h
  have wB : w32 (55 + 3 * ((m : Int) - 1)) = 55 + 3 * ((m : Int) - 1) := by clear key h; exact q_wi (by omega) (by omega)
  have lp := q_loopf (Z := Z) (N := T) (S := fun t => (168, 7, [(2, ((191 : Nat) : Int)), (0, (p : Int)), (0, ((55 + 3 * p + t : Nat) : Int))], [], (K, q_put σ 192 (z_sh (σ 192) (55 + 3 * p) (55 + 3 * p + t)), 206, e, s))) (by
    intro t ht
    have k1 := key t (by clear wB; omega)
    have w1 : w32 ((55 + 3 * p + t : Nat) : Int) = ((55 + 3 * p + t : Nat) : Int) := q_w (by clear wB k1; omega)
    have c0 : ¬ 55 + 3 * ((m : Int) - 1) ≤ ((55 + 3 * p + t : Nat) : Int) := by clear wB k1 w1; omega
    obtain ⟨i1, i2, i3⟩ := z_ix (x := ((55 + 3 * p + t : Nat) : Int)) (m := 55 + 3 * p + t) (L' := 73) rfl (by clear wB k1 w1; omega) (by omega)
    obtain ⟨j1, j2, j3⟩ := z_ix (x := ((55 + 3 * p + t : Nat) : Int) + 3) (m := 55 + 3 * p + t + 3) (L' := 73) (by clear wB k1 w1 i1 i2 i3; omega) (by clear wB k1 w1 i1 i2 i3; omega) (by omega)
    have e1 : ((55 + 3 * p + (t + 1) : Nat) : Int) = ((55 + 3 * p + t : Nat) : Int) + 1 := rfl
    rw [e1, ← z_sh_s]
    conv => lhs; simp only [b_168_7, ↓reduceIte, Nat.reduceEqDiff, Nat.reduceMul, q_n10, q_n01, Option.bind_some, g_aft0, g_aft1, g_aft2, g_aft3, g_aft9, Nat.reduceAdd, m_kill_0, m_kill_2, m_kill_3, m_kill_4, m_kill_9, true_or, or_true, q_lm1, q_l0, q_l1, q_l2, q_l3, q_l4, q_l5, q_l6, q_l8, q_l9, q_l10, q_l12, q_l17, q_l32, q_l35, q_l48, q_l50, q_l54, q_l57, q_l64, q_l73, q_l118, q_l119, q_l120, q_l122, q_l126, q_l160, q_l256, q_l365, q_l372, q_l438, q_l1000, q_l100000, q_l1000000, q_modF hL.2.2.2.2.2.2.1, z_161 hL, k1]
    rw [w1] at i1 i2 i3
    simp only [b_168_15, b_168_22, ↓reduceIte, Nat.reduceEqDiff, Nat.reduceMul, q_n10, q_n01, Option.bind_some, g_aft0, g_aft1, g_aft2, g_aft3, g_aft9, Nat.reduceAdd, m_kill_0, m_kill_2, m_kill_3, m_kill_4, m_kill_9, true_or, or_true, q_lm1, q_l0, q_l1, q_l2, q_l3, q_l4, q_l5, q_l6, q_l8, q_l9, q_l10, q_l12, q_l17, q_l32, q_l35, q_l48, q_l50, q_l54, q_l57, q_l64, q_l73, q_l118, q_l119, q_l120, q_l122, q_l126, q_l160, q_l256, q_l365, q_l372, q_l438, q_l1000, q_l100000, q_l1000000, q_modF hL.2.2.2.2.2.2.1, wB, w1, c0, i1, i2, i3, j1, j2, j3, q_put_at, z_sh_r]
    rw [q_up_pt])
  have e0 : 55 + 3 * (p : Int) = ((55 + 3 * p + 0 : Nat) : Int) := by clear wB; omega
  have eT : 55 + 3 * p + T = 55 + 3 * (m - 1) := by clear wB; omega
  have k1 := key T (Nat.le_refl _)
  have w1 : w32 ((55 + 3 * p + T : Nat) : Int) = ((55 + 3 * p + T : Nat) : Int) := q_w (by clear wB k1; omega)
  have c0 : 55 + 3 * ((m : Int) - 1) ≤ ((55 + 3 * p + T : Nat) : Int) := by clear wB k1 w1; omega
  have ez : q_put σ 192 (z_sh (σ 192) (55 + 3 * p) (55 + 3 * p + 0)) = σ := by
    show q_put σ 192 (z_sh (σ 192) (55 + 3 * p) (55 + 3 * p)) = σ
    rw [z_sh_0, q_put_self]
  rw [ez] at lp
  rw [e_168, b_168_0, e0]
  refine Eq.trans lp ?_
  conv => lhs; simp only [b_168_7, ↓reduceIte, Nat.reduceEqDiff, Nat.reduceMul, q_n10, q_n01, Option.bind_some, g_aft0, g_aft1, g_aft2, g_aft3, g_aft9, Nat.reduceAdd, m_kill_0, m_kill_2, m_kill_3, m_kill_4, m_kill_9, true_or, or_true, q_lm1, q_l0, q_l1, q_l2, q_l3, q_l4, q_l5, q_l6, q_l8, q_l9, q_l10, q_l12, q_l17, q_l32, q_l35, q_l48, q_l50, q_l54, q_l57, q_l64, q_l73, q_l118, q_l119, q_l120, q_l122, q_l126, q_l160, q_l256, q_l365, q_l372, q_l438, q_l1000, q_l100000, q_l1000000, q_modF hL.2.2.2.2.2.2.1, z_161 hL, k1]
  simp only [b_168_15, b_168_42, ↓reduceIte, Nat.reduceEqDiff, Nat.reduceMul, q_n10, q_n01, Option.bind_some, g_aft0, g_aft1, g_aft2, g_aft3, g_aft9, Nat.reduceAdd, m_kill_0, m_kill_2, m_kill_3, m_kill_4, m_kill_9, true_or, or_true, q_lm1, q_l0, q_l1, q_l2, q_l3, q_l4, q_l5, q_l6, q_l8, q_l9, q_l10, q_l12, q_l17, q_l32, q_l35, q_l48, q_l50, q_l54, q_l57, q_l64, q_l73, q_l118, q_l119, q_l120, q_l122, q_l126, q_l160, q_l256, q_l365, q_l372, q_l438, q_l1000, q_l100000, q_l1000000, q_modF hL.2.2.2.2.2.2.1, wB, w1, c0, z_p54, z_c54, z_t54, k1]
  rw [q_up_pt, eT]
theorem z_dropS (hL : q_lay K) {e0 : Nat} (he : e0 ≤ 50) : ∀ (k : Nat) (σ : Nat → Nat → Int) (Y : (Nat → Nat → Int) × Int), k ≤ w_ns Y.1 → w_ns Y.1 ≤ 6 → Y.1 0 2 = (w_ns Y.1 : Int) → w_nn Y.1 ≤ 8 → w_ne Y.1 ≤ 12 → z_row (σ 192) Y.1 → q_sml Y.1 → ∃ τ, m_run Z (169, 9, [(2, ((191 : Nat) : Int)), (0, (e0 : Int)), (0, Y.2), (0, (k : Int) - 1)], [], (K, σ, 206, e, s)) = m_run Z (169, 65, [(2, ((191 : Nat) : Int)), (0, (e0 : Int)), (0, (w_rms e0 k Y).2), (0, -1)], [], (K, τ, 206, e, s)) ∧ z_row (τ 192) (w_rms e0 k Y).1 ∧ ∀ a, a ≠ 192 → τ a = σ a := by
  intro k
  induction k with
  | zero =>
    intro σ Y _ _ _ _ _ hr _
    refine ⟨σ, ?_, hr, fun _ _ => rfl⟩
    have z1 : ((0 : Nat) : Int) - 1 = -1 := rfl
    have wm : w32 (-1) = -1 := by decide
    have c0 : (-1 : Int) < 0 := by decide
    rw [z1]
    simp only [b_169_9, ↓reduceIte, Nat.reduceEqDiff, Nat.reduceMul, q_n10, q_n01, Option.bind_some, g_aft0, g_aft1, g_aft2, g_aft3, g_aft9, Nat.reduceAdd, m_kill_0, m_kill_2, m_kill_3, m_kill_4, m_kill_9, true_or, or_true, q_lm1, q_l0, q_l1, q_l2, q_l3, q_l4, q_l5, q_l6, q_l8, q_l9, q_l10, q_l12, q_l17, q_l32, q_l35, q_l48, q_l50, q_l54, q_l57, q_l64, q_l73, q_l118, q_l119, q_l120, q_l122, q_l126, q_l160, q_l256, q_l365, q_l372, q_l438, q_l1000, q_l100000, q_l1000000, wm, c0]
    rfl
  | succ k ih =>
    intro σ Y hk h6 h02 hn hE hr hs
    have z1 : ((k + 1 : Nat) : Int) - 1 = (k : Int) := by omega
    have hsm := hs 12 k (by omega) (by rw [q_len2]; simp; omega)
    have wk : w32 (k : Int) = (k : Int) := q_w (by omega)
    have w12 : w32 (Y.1 12 k) = Y.1 12 k := by clear wk; exact q_wi (by omega) (by omega)
    have we : w32 (e0 : Int) = (e0 : Int) := q_w (by clear wk w12; omega)
    have c0 : ¬ (k : Int) < 0 := by clear wk w12 we; omega
    have hat := z_at' (Z := Z) (σ := σ) (e := e) (s := s) (x := (k : Int)) (w := 0) (m := 55 + 3 * k) hL (by clear wk w12 we; omega) (by clear wk w12 we; omega)
    rw [(hr.2.2.2 k (by clear wk w12 we; omega)).1] at hat
    have em : (k : Int) + -1 = (k : Int) - 1 := by clear wk w12 we; omega
    have ew : w_rms e0 (k + 1) Y = w_rms e0 k (w_rm1 e0 k Y) := rfl
    rw [ew, z1]
    conv => enter [1, τ, 1]; lhs; simp only [b_169_9, ↓reduceIte, Nat.reduceEqDiff, Nat.reduceMul, q_n10, q_n01, Option.bind_some, g_aft0, g_aft1, g_aft2, g_aft3, g_aft9, Nat.reduceAdd, m_kill_0, m_kill_2, m_kill_3, m_kill_4, m_kill_9, true_or, or_true, q_lm1, q_l0, q_l1, q_l2, q_l3, q_l4, q_l5, q_l6, q_l8, q_l9, q_l10, q_l12, q_l17, q_l32, q_l35, q_l48, q_l50, q_l54, q_l57, q_l64, q_l73, q_l118, q_l119, q_l120, q_l122, q_l126, q_l160, q_l256, q_l365, q_l372, q_l438, q_l1000, q_l100000, q_l1000000, wk, c0]
    by_cases c1 : Y.1 12 k = (e0 : Int)
    · have ey : w_rm1 e0 k Y = (w_rmS k Y.1, Y.2 + 1) := by unfold w_rm1; rw [if_pos c1]
      have hd := z_drop (Z := Z) (e := e) (s := s) (p := k) (m := w_ns Y.1) hL (hr.1.2.2.trans h02) (by clear wk w12 we; omega) h6
      have hr' := z_row_rm hr hn hE h6 (show k < w_ns Y.1 by clear wk w12 we; omega) h02
      have r02 : w_rmS k Y.1 0 2 = (w_ns Y.1 : Int) - 1 := by unfold w_rmS; rw [m_up2_at, h02]
      have ns' : w_ns (w_rmS k Y.1) = w_ns Y.1 - 1 := by
        have : w_ns (w_rmS k Y.1) = (w_rmS k Y.1 0 2).toNat := rfl
        rw [this, r02]; clear wk w12 we; omega
      obtain ⟨τ, t1, t2, t3⟩ := ih (q_put σ 192 (m_up (z_sh (σ 192) (55 + 3 * k) (55 + 3 * (w_ns Y.1 - 1))) 54 ((w_ns Y.1 : Int) - 1))) (w_rmS k Y.1, Y.2 + 1) (by show k ≤ w_ns (w_rmS k Y.1); rw [ns']; clear wk w12 we; omega) (by show w_ns (w_rmS k Y.1) ≤ 6; rw [ns']; clear wk w12 we; omega) (by show w_rmS k Y.1 0 2 = (w_ns (w_rmS k Y.1) : Int); rw [r02, ns']; clear wk w12 we; omega) (by show w_nn (w_rmS k Y.1) ≤ 8; unfold w_nn; rw [ds_rmS (by omega)]; exact hn) (by show w_ne (w_rmS k Y.1) ≤ 12; unfold w_ne; rw [ds_rmS (by omega)]; exact hE) (by rw [q_put_at]; exact hr') (q_sml_rmS hs)
      rw [ey]
      refine ⟨τ, ?_, t2, fun a ha => by rw [t3 a ha, q_put_ne ha]⟩
      rw [← t1]
      simp only [b_169_13, b_169_19, b_169_23, b_169_28, ↓reduceIte, Nat.reduceEqDiff, Nat.reduceMul, q_n10, q_n01, Option.bind_some, g_aft0, g_aft1, g_aft2, g_aft3, g_aft9, Nat.reduceAdd, m_kill_0, m_kill_2, m_kill_3, m_kill_4, m_kill_9, true_or, or_true, q_lm1, q_l0, q_l1, q_l2, q_l3, q_l4, q_l5, q_l6, q_l8, q_l9, q_l10, q_l12, q_l17, q_l32, q_l35, q_l48, q_l50, q_l54, q_l57, q_l64, q_l73, q_l118, q_l119, q_l120, q_l122, q_l126, q_l160, q_l256, q_l365, q_l372, q_l438, q_l1000, q_l100000, q_l1000000, q_modF hL.2.2.2.2.2.2.1, hat, w12, we, c1, hd, em]
    · by_cases c2 : (e0 : Int) < Y.1 12 k
      · have ey : w_rm1 e0 k Y = (m_up2 Y.1 12 k (Y.1 12 k - 1), Y.2) := by unfold w_rm1; rw [if_neg c1, if_pos c2]
        have c3 : ¬ Y.1 12 k ≤ (e0 : Int) := by clear wk w12 we; omega
        obtain ⟨n1, n2, n3⟩ := z_row_c (N := Y.1) (M := m_up2 Y.1 12 k (Y.1 12 k - 1)) rfl rfl rfl
        obtain ⟨i1, i2, i3⟩ := z_ix (x := 55 + 3 * (k : Int)) (m := 55 + 3 * k) (L' := 73) (by clear wk w12 we; omega) (by clear wk w12 we; omega) (by omega)
        have hr' := z_row_dc (v := Y.1 12 k - 1) hr hn hE h6 (show k < 6 by clear wk w12 we; omega)
        obtain ⟨τ, t1, t2, t3⟩ := ih (q_put σ 192 (m_up (σ 192) (55 + 3 * k) (Y.1 12 k - 1))) (m_up2 Y.1 12 k (Y.1 12 k - 1), Y.2) (by show k ≤ w_ns (m_up2 Y.1 12 k (Y.1 12 k - 1)); rw [n3]; clear wk w12 we i1 i2 i3; omega) (by show w_ns (m_up2 Y.1 12 k (Y.1 12 k - 1)) ≤ 6; rw [n3]; exact h6) (by show Y.1 0 2 = (w_ns (m_up2 Y.1 12 k (Y.1 12 k - 1)) : Int); rw [n3]; exact h02) (by show w_nn (m_up2 Y.1 12 k (Y.1 12 k - 1)) ≤ 8; rw [n1]; exact hn) (by show w_ne (m_up2 Y.1 12 k (Y.1 12 k - 1)) ≤ 12; rw [n2]; exact hE) (by rw [q_put_at]; exact hr') (q_sml_up hs (fun _ => by clear wk w12 we i1 i2 i3; omega))
        rw [ey]
        refine ⟨τ, ?_, t2, fun a ha => by rw [t3 a ha, q_put_ne ha]⟩
        rw [← t1]
        have h12 : σ 192 (55 + 3 * k) = Y.1 12 k := (hr.2.2.2 k (by clear wk w12 we i1 i2 i3; omega)).1
        simp only [b_169_13, b_169_19, b_169_34, b_169_40, b_169_44, b_169_59, ↓reduceIte, Nat.reduceEqDiff, Nat.reduceMul, q_n10, q_n01, Option.bind_some, g_aft0, g_aft1, g_aft2, g_aft3, g_aft9, Nat.reduceAdd, m_kill_0, m_kill_2, m_kill_3, m_kill_4, m_kill_9, true_or, or_true, q_lm1, q_l0, q_l1, q_l2, q_l3, q_l4, q_l5, q_l6, q_l8, q_l9, q_l10, q_l12, q_l17, q_l32, q_l35, q_l48, q_l50, q_l54, q_l57, q_l64, q_l73, q_l118, q_l119, q_l120, q_l122, q_l126, q_l160, q_l256, q_l365, q_l372, q_l438, q_l1000, q_l100000, q_l1000000, q_modF hL.2.2.2.2.2.2.1, hat, w12, we, c1, c3, i1, i2, i3, h12, em, q_up_put]
      · have ey : w_rm1 e0 k Y = Y := by unfold w_rm1; rw [if_neg c1, if_neg c2]
        have c3 : Y.1 12 k ≤ (e0 : Int) := by clear wk w12 we; omega
        obtain ⟨τ, t1, t2, t3⟩ := ih σ Y (by clear wk w12 we; omega) h6 h02 hn hE hr hs
        rw [ey]
        refine ⟨τ, ?_, t2, t3⟩
        rw [← t1]
        simp only [b_169_13, b_169_19, b_169_34, b_169_40, b_169_59, ↓reduceIte, Nat.reduceEqDiff, Nat.reduceMul, q_n10, q_n01, Option.bind_some, g_aft0, g_aft1, g_aft2, g_aft3, g_aft9, Nat.reduceAdd, m_kill_0, m_kill_2, m_kill_3, m_kill_4, m_kill_9, true_or, or_true, q_lm1, q_l0, q_l1, q_l2, q_l3, q_l4, q_l5, q_l6, q_l8, q_l9, q_l10, q_l12, q_l17, q_l32, q_l35, q_l48, q_l50, q_l54, q_l57, q_l64, q_l73, q_l118, q_l119, q_l120, q_l122, q_l126, q_l160, q_l256, q_l365, q_l372, q_l438, q_l1000, q_l100000, q_l1000000, q_modF hL.2.2.2.2.2.2.1, hat, w12, we, c1, c3, em]
theorem z_dropE (hL : q_lay K) (h : z_row (σ 192) N) (hw : q_wf N) (hg : g < w_ne N) : ∃ τ, m_cl Z 169 [(2, ((191 : Nat) : Int)), (0, (g : Int))] (K, σ, 206, e, s) = some (.inl (0, (w_rms g (w_ns N) (N, 0)).2), (K, τ, 206, e, s)) ∧ z_row (τ 192) (o_ds g N) ∧ ∀ a, a ≠ 192 → τ a = σ a := by
  have hn := wf_n hw
  have he := wf_e hw
  have hs := wf_s hw
  obtain ⟨τ, t1, t2, t3⟩ := z_dropS (Z := Z) (K := K) (e := e) (s := s) hL (e0 := g) (by omega) (w_ns N) σ (N, 0) (Nat.le_refl _) hs.2 hs.1 hn.2.2 he.2 h hw.2.2.2.1
  obtain ⟨M, hM⟩ : ∃ M, M = (w_rms g (w_ns N) (N, 0)).1 := ⟨_, rfl⟩
  have hr0 := ds_rms (e := g) (w_ns N) (N, 0)
  rw [← hM] at t2 hr0
  have m00 : M 0 0 = N 0 0 := hr0.1
  have m01 : M 0 1 = N 0 1 := hr0.2
  have hnM : w_nn M = w_nn N := by unfold w_nn; rw [m00]
  have heM : w_ne M = w_ne N := by unfold w_ne; rw [m01]
  have h17 : τ 192 17 = (w_ne N : Int) := by rw [t2.1.2.1, m01]; exact he.1
  have h54 : σ 192 54 = (w_ns N : Int) := h.1.2.2.trans hs.1
  obtain ⟨m, hm⟩ : ∃ m, m = w_ne N := ⟨_, rfl⟩
  obtain ⟨T, hT⟩ : ∃ T, T = 3 * (m - 1 - g) := ⟨_, rfl⟩
  have hfin := z_row_ct t2 (by rw [hnM]; exact hn.2.2) (by rw [heM]; exact he.2) (show g < w_ne M by rw [heM]; exact hg) (by rw [m01, heM]; exact he.1)
  rw [heM, ← hm] at hfin
  rw [← hm] at h17 hg he
  have key : ∀ t, t ≤ T → q_put τ 192 (z_sh (τ 192) (18 + 3 * g) (18 + 3 * g + t)) 192 17 = (m : Int) := fun t _ => by rw [q_put_at, z_sh_o (by omega)]; exact h17
  have wB : w32 (18 + 3 * ((m : Int) - 1)) = 18 + 3 * ((m : Int) - 1) := by clear key h17 h54; exact q_wi (by omega) (by omega)
  obtain ⟨d, hd⟩ : ∃ d : Int, d = (w_rms g (w_ns N) (N, 0)).2 := ⟨_, rfl⟩
  have lp := q_loopf (Z := Z) (N := T) (S := fun t => (169, 72, [(2, ((191 : Nat) : Int)), (0, (g : Int)), (0, d), (0, ((18 + 3 * g + t : Nat) : Int))], [], (K, q_put τ 192 (z_sh (τ 192) (18 + 3 * g) (18 + 3 * g + t)), 206, e, s))) (by
    intro t ht
    have k1 := key t (by clear wB; omega)
    have w1 : w32 ((18 + 3 * g + t : Nat) : Int) = ((18 + 3 * g + t : Nat) : Int) := q_w (by clear wB k1; omega)
    have c0 : ¬ 18 + 3 * ((m : Int) - 1) ≤ ((18 + 3 * g + t : Nat) : Int) := by clear wB k1 w1; omega
    obtain ⟨i1, i2, i3⟩ := z_ix (x := ((18 + 3 * g + t : Nat) : Int)) (m := 18 + 3 * g + t) (L' := 73) rfl (by clear wB k1 w1; omega) (by omega)
    obtain ⟨j1, j2, j3⟩ := z_ix (x := ((18 + 3 * g + t : Nat) : Int) + 3) (m := 18 + 3 * g + t + 3) (L' := 73) (by clear wB k1 w1 i1 i2 i3; omega) (by clear wB k1 w1 i1 i2 i3; omega) (by omega)
    have e1 : ((18 + 3 * g + (t + 1) : Nat) : Int) = ((18 + 3 * g + t : Nat) : Int) + 1 := rfl
    rw [e1, ← z_sh_s]
    conv => lhs; simp only [b_169_72, ↓reduceIte, Nat.reduceEqDiff, Nat.reduceMul, q_n10, q_n01, Option.bind_some, g_aft0, g_aft1, g_aft2, g_aft3, g_aft9, Nat.reduceAdd, m_kill_0, m_kill_2, m_kill_3, m_kill_4, m_kill_9, true_or, or_true, q_lm1, q_l0, q_l1, q_l2, q_l3, q_l4, q_l5, q_l6, q_l8, q_l9, q_l10, q_l12, q_l17, q_l32, q_l35, q_l48, q_l50, q_l54, q_l57, q_l64, q_l73, q_l118, q_l119, q_l120, q_l122, q_l126, q_l160, q_l256, q_l365, q_l372, q_l438, q_l1000, q_l100000, q_l1000000, q_modF hL.2.2.2.2.2.2.1, z_158 hL, k1]
    rw [w1] at i1 i2 i3
    simp only [b_169_80, b_169_87, ↓reduceIte, Nat.reduceEqDiff, Nat.reduceMul, q_n10, q_n01, Option.bind_some, g_aft0, g_aft1, g_aft2, g_aft3, g_aft9, Nat.reduceAdd, m_kill_0, m_kill_2, m_kill_3, m_kill_4, m_kill_9, true_or, or_true, q_lm1, q_l0, q_l1, q_l2, q_l3, q_l4, q_l5, q_l6, q_l8, q_l9, q_l10, q_l12, q_l17, q_l32, q_l35, q_l48, q_l50, q_l54, q_l57, q_l64, q_l73, q_l118, q_l119, q_l120, q_l122, q_l126, q_l160, q_l256, q_l365, q_l372, q_l438, q_l1000, q_l100000, q_l1000000, q_modF hL.2.2.2.2.2.2.1, wB, w1, c0, i1, i2, i3, j1, j2, j3, q_put_at, z_sh_r]
    rw [q_up_pt])
  have e0 : 18 + 3 * (g : Int) = ((18 + 3 * g + 0 : Nat) : Int) := by clear wB; omega
  have eT : 18 + 3 * g + T = 18 + 3 * (m - 1) := by clear wB; omega
  have k1 := key T (Nat.le_refl _)
  have w1 : w32 ((18 + 3 * g + T : Nat) : Int) = ((18 + 3 * g + T : Nat) : Int) := q_w (by clear wB k1; omega)
  have c0 : 18 + 3 * ((m : Int) - 1) ≤ ((18 + 3 * g + T : Nat) : Int) := by clear wB k1 w1; omega
  have ez : q_put τ 192 (z_sh (τ 192) (18 + 3 * g) (18 + 3 * g + 0)) = τ := by
    show q_put τ 192 (z_sh (τ 192) (18 + 3 * g) (18 + 3 * g)) = τ
    rw [z_sh_0, q_put_self]
  rw [ez] at lp
  have eds : o_ds g N = w_cut g M := by rw [hM]; rfl
  refine ⟨q_put τ 192 (m_up (z_sh (τ 192) (18 + 3 * g) (18 + 3 * (m - 1))) 17 ((m : Int) - 1)), ?_, by rw [q_put_at, eds]; exact hfin, fun a ha => by rw [q_put_ne ha]; exact t3 a ha⟩
  rw [← hd] at t1 ⊢
  simp only [e_169, b_169_0, b_169_6, ↓reduceIte, Nat.reduceEqDiff, Nat.reduceMul, q_n10, q_n01, Option.bind_some, g_aft0, g_aft1, g_aft2, g_aft3, g_aft9, Nat.reduceAdd, m_kill_0, m_kill_2, m_kill_3, m_kill_4, m_kill_9, true_or, or_true, q_lm1, q_l0, q_l1, q_l2, q_l3, q_l4, q_l5, q_l6, q_l8, q_l9, q_l10, q_l12, q_l17, q_l32, q_l35, q_l48, q_l50, q_l54, q_l57, q_l64, q_l73, q_l118, q_l119, q_l120, q_l122, q_l126, q_l160, q_l256, q_l365, q_l372, q_l438, q_l1000, q_l100000, q_l1000000, q_modF hL.2.2.2.2.2.2.1, z_161 hL, h54]
  refine Eq.trans t1 ?_
  rw [b_169_65, e0]
  refine Eq.trans lp ?_
  conv => lhs; simp only [b_169_72, ↓reduceIte, Nat.reduceEqDiff, Nat.reduceMul, q_n10, q_n01, Option.bind_some, g_aft0, g_aft1, g_aft2, g_aft3, g_aft9, Nat.reduceAdd, m_kill_0, m_kill_2, m_kill_3, m_kill_4, m_kill_9, true_or, or_true, q_lm1, q_l0, q_l1, q_l2, q_l3, q_l4, q_l5, q_l6, q_l8, q_l9, q_l10, q_l12, q_l17, q_l32, q_l35, q_l48, q_l50, q_l54, q_l57, q_l64, q_l73, q_l118, q_l119, q_l120, q_l122, q_l126, q_l160, q_l256, q_l365, q_l372, q_l438, q_l1000, q_l100000, q_l1000000, q_modF hL.2.2.2.2.2.2.1, z_158 hL, k1]
  simp only [b_169_80, b_169_107, ↓reduceIte, Nat.reduceEqDiff, Nat.reduceMul, q_n10, q_n01, Option.bind_some, g_aft0, g_aft1, g_aft2, g_aft3, g_aft9, Nat.reduceAdd, m_kill_0, m_kill_2, m_kill_3, m_kill_4, m_kill_9, true_or, or_true, q_lm1, q_l0, q_l1, q_l2, q_l3, q_l4, q_l5, q_l6, q_l8, q_l9, q_l10, q_l12, q_l17, q_l32, q_l35, q_l48, q_l50, q_l54, q_l57, q_l64, q_l73, q_l118, q_l119, q_l120, q_l122, q_l126, q_l160, q_l256, q_l365, q_l372, q_l438, q_l1000, q_l100000, q_l1000000, q_modF hL.2.2.2.2.2.2.1, wB, w1, c0, z_p17, z_c17, z_t17, k1]
  rw [q_up_pt, eT]
end
end
