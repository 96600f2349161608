section
/-! Scripts: commands. -/
section
variable {Z : mZ} {K : Nat → mK} {σ τ N : Nat → Nat → Int} {e s g i L : Nat} {t p q v : Int} {X : Nat → Int}
theorem w_dg_lt {j : Nat} (h : w_dg X L j = true) : j < L ∧ 48 ≤ w_sg X L j ∧ w_sg X L j ≤ 57 := by
  have := of_decide_eq_true h
  refine ⟨?_, this⟩
  unfold w_sg at this
  by_cases c : j < L
  · exact c
  · rw [if_neg c] at this
    omega
/-- a number, place i being no space -/
def w_nd (X : Nat → Int) (L i : Nat) : Bool × Nat × Int := if w_dg X L i = true then (if w_dg X L (i + 1) = true then (true, i + 2, (w_sg X L i - 48) * 10 + (w_sg X L (i + 1) - 48)) else (true, i + 1, w_sg X L i - 48)) else (false, i, 0)
theorem w_nm_nd : w_nm X L i = w_nd X L (w_sk X L i) := rfl
theorem w_nd_le (hi : i ≤ L) : i ≤ (w_nd X L i).2.1 ∧ (w_nd X L i).2.1 ≤ L ∧ 0 ≤ (w_nd X L i).2.2 ∧ (w_nd X L i).2.2 ≤ 99 := by
  unfold w_nd
  by_cases c : w_dg X L i = true
  · have h1 := w_dg_lt c
    rw [if_pos c]
    by_cases c2 : w_dg X L (i + 1) = true
    · have h2 := w_dg_lt c2
      rw [if_pos c2]
      show i ≤ i + 2 ∧ i + 2 ≤ L ∧ 0 ≤ (w_sg X L i - 48) * 10 + (w_sg X L (i + 1) - 48) ∧ (w_sg X L i - 48) * 10 + (w_sg X L (i + 1) - 48) ≤ 99
      omega
    · rw [if_neg c2]
      show i ≤ i + 1 ∧ i + 1 ≤ L ∧ 0 ≤ w_sg X L i - 48 ∧ w_sg X L i - 48 ≤ 99
      omega
  · rw [if_neg c]
    exact ⟨Nat.le_refl _, hi, (by decide : (0 : Int) ≤ 0), (by decide : (0 : Int) ≤ 99)⟩
theorem c_readNumber {n : Nat} (hL : q_lay K) (h : w_tx σ X L) (hp : σ 186 2 = (i : Int)) (hi : i ≤ L) (hn : σ 186 4 = (n : Int)) (hn3 : n < 3) : ∃ τ, m_cl Z 63 [(2, ((186 : Nat) : Int))] (K, σ, 206, e, s) = some (.inl (0, if (w_nd X L i).1 = true then 1 else 0), (K, τ, 206, e, s)) ∧ q_fs σ τ ∧ τ 186 2 = ((w_nd X L i).2.1 : Int) ∧ τ 186 3 = σ 186 3 ∧ τ 186 4 = ((n + 1 : Nat) : Int) ∧ τ 190 n = (w_nd X L i).2.2 ∧ ∀ j, j ≠ n → τ 190 j = σ 190 j := by
  have L120 := h.2.1
  have d1 := c_digit (Z := Z) (e := e) (s := s) hL h hp (by omega)
  have e0 : w32 0 = 0 := by decide
  have e2 : w32 2 = 2 := by decide
  have fin : ∀ (ρ : Nat → Nat → Int) (j : Nat) (v : Int), q_fs σ ρ → ρ 186 2 = (j : Int) → ρ 186 3 = σ 186 3 → ρ 186 4 = (n : Int) → ρ 190 = σ 190 → (w_nd X L i).2.1 = j → (w_nd X L i).2.2 = v → (∀ l3, m_run Z (63, 50, [(2, ((186 : Nat) : Int)), (0, if (w_nd X L i).1 = true then 1 else 0), (0, v), l3], [], (K, ρ, 206, e, s)) = some (.inl (0, if (w_nd X L i).1 = true then 1 else 0), (K, m_up2 (m_up2 ρ 190 n v) 186 4 ((n + 1 : Nat) : Int), 206, e, s))) ∧ q_fs σ (m_up2 (m_up2 ρ 190 n v) 186 4 ((n + 1 : Nat) : Int)) ∧ (m_up2 (m_up2 ρ 190 n v) 186 4 ((n + 1 : Nat) : Int)) 186 2 = ((w_nd X L i).2.1 : Int) ∧ (m_up2 (m_up2 ρ 190 n v) 186 4 ((n + 1 : Nat) : Int)) 186 3 = σ 186 3 ∧ (m_up2 (m_up2 ρ 190 n v) 186 4 ((n + 1 : Nat) : Int)) 186 4 = ((n + 1 : Nat) : Int) ∧ (m_up2 (m_up2 ρ 190 n v) 186 4 ((n + 1 : Nat) : Int)) 190 n = (w_nd X L i).2.2 ∧ ∀ j, j ≠ n → (m_up2 (m_up2 ρ 190 n v) 186 4 ((n + 1 : Nat) : Int)) 190 j = σ 190 j := by
    intro ρ j v f1 f2 f3 f4 f5 f6 f7
    refine ⟨fun l3 => ?_, q_fs_t f1 ⟨fun a a1 a2 => by rw [m_up2_ne a1, m_up2_ne a2], fun j a1 a2 a3 => by rw [m_up2_nk a3, m_up2_ne (by omega)]⟩, ?_, ?_, m_up2_at, ?_, ?_⟩
    · have r1 : ∀ v, q_set ρ 190 3 (n : Int) v = m_up2 ρ 190 n v := fun v => q_set_nat hn3 (by omega)
      have en : (n : Int) + 1 = ((n + 1 : Nat) : Int) := by clear r1 e0 e2; omega
      have hz : (w32 (if (w_nd X L i).1 = true then 1 else 0) = 0 ∨ w32 (if (w_nd X L i).1 = true then 1 else 0) = 1) = True := q_wi01
      simp only [b_63_50, b_63_62, ↓reduceIte, Nat.reduceEqDiff, Nat.reduceMul, q_n10, q_n01, Option.bind_some, g_aft0, g_aft1, g_aft2, g_aft3, g_aft9, Nat.reduceAdd, m_kill_0, m_kill_2, m_kill_3, m_kill_4, m_kill_9, true_or, or_true, q_lm1, q_l0, q_l1, q_l2, q_l3, q_l4, q_l5, q_l6, q_l8, q_l9, q_l10, q_l12, q_l17, q_l32, q_l35, q_l48, q_l50, q_l54, q_l57, q_l64, q_l73, q_l118, q_l119, q_l120, q_l122, q_l126, q_l160, q_l256, q_l365, q_l372, q_l438, q_l1000, q_l100000, q_l1000000, q_scrF hL.2.2.2.2.2.1, r_set, f4, r1, m_up2_ne, ne_eq, not_false_eq_true, hz, en]
    · rw [m_up2_nk (by omega), m_up2_ne (by omega), f2, f6]
    · rw [m_up2_nk (by omega), m_up2_ne (by omega), f3]
    · rw [m_up2_ne (by omega), m_up2_at, f7]
    · intro j hj
      rw [m_up2_ne (by omega), m_up2_nk hj, f5]
  by_cases c : w_dg X L i = true
  · have b1 := w_dg_lt c
    have hs1 := c_sign (Z := Z) (e := e) (s := s) hL h hp (by clear e0 e2; omega)
    have ei : (i : Int) + 1 = ((i + 1 : Nat) : Int) := by clear e0 e2; omega
    have hρ : w_tx (m_up2 σ 186 2 ((i + 1 : Nat) : Int)) X L := w_tx_f h q_fs_2
    have d2 := c_digit (Z := Z) (e := e) (s := s) hL hρ m_up2_at (by clear e0 e2; omega)
    rw [if_pos c] at d1
    by_cases c2 : w_dg X L (i + 1) = true
    · have b2 := w_dg_lt c2
      have hs2 := c_sign (Z := Z) (e := e) (s := s) hL hρ m_up2_at (by clear e0 e2; omega)
      rw [if_pos c2] at d2
      have hnd : w_nd X L i = (true, i + 2, (w_sg X L i - 48) * 10 + (w_sg X L (i + 1) - 48)) := by unfold w_nd; rw [if_pos c, if_pos c2]
      have ei2 : ((i + 1 : Nat) : Int) + 1 = ((i + 2 : Nat) : Int) := by clear e0 e2; omega
      obtain ⟨F1, F2⟩ := fin (m_up2 σ 186 2 ((i + 2 : Nat) : Int)) (i + 2) ((w_sg X L i - 48) * 10 + (w_sg X L (i + 1) - 48)) q_fs_2 m_up2_at (m_up2_nk (by omega)) (by rw [m_up2_nk (by omega), hn]) (m_up2_ne (by omega)) (by rw [hnd]) (by rw [hnd])
      refine ⟨_, ?_, F2⟩
      rw [← F1 (0, 2)]
      rw [hnd]
      have v1 : (0 : Int) * 10 + w_sg X L i - 48 = w_sg X L i - 48 := by clear e0 e2; omega
      have v2 : (w_sg X L i - 48) * 10 + w_sg X L (i + 1) - 48 = (w_sg X L i - 48) * 10 + (w_sg X L (i + 1) - 48) := by clear e0 e2; omega
      have t1 : ¬ (2 : Int) ≤ 0 := by decide
      have t2 : ¬ (2 : Int) ≤ 1 := by decide
      have t3 : (0 : Int) + 1 = 1 := rfl
      have t4 : (1 : Int) + 1 = 2 := rfl
      simp only [e_63, b_63_0, b_63_4, ↓reduceIte, Nat.reduceEqDiff, Nat.reduceMul, q_n10, q_n01, Option.bind_some, g_aft0, g_aft1, g_aft2, g_aft3, g_aft9, Nat.reduceAdd, m_kill_0, m_kill_2, m_kill_3, m_kill_4, m_kill_9, true_or, or_true, q_lm1, q_l0, q_l1, q_l2, q_l3, q_l4, q_l5, q_l6, q_l8, q_l9, q_l10, q_l12, q_l17, q_l32, q_l35, q_l48, q_l50, q_l54, q_l57, q_l64, q_l73, q_l118, q_l119, q_l120, q_l122, q_l126, q_l160, q_l256, q_l365, q_l372, q_l438, q_l1000, q_l100000, q_l1000000, q_scrF hL.2.2.2.2.2.1, d1]
      conv => lhs; simp only [b_63_9, ↓reduceIte, Nat.reduceEqDiff, Nat.reduceMul, q_n10, q_n01, Option.bind_some, g_aft0, g_aft1, g_aft2, g_aft3, g_aft9, Nat.reduceAdd, m_kill_0, m_kill_2, m_kill_3, m_kill_4, m_kill_9, true_or, or_true, q_lm1, q_l0, q_l1, q_l2, q_l3, q_l4, q_l5, q_l6, q_l8, q_l9, q_l10, q_l12, q_l17, q_l32, q_l35, q_l48, q_l50, q_l54, q_l57, q_l64, q_l73, q_l118, q_l119, q_l120, q_l122, q_l126, q_l160, q_l256, q_l365, q_l372, q_l438, q_l1000, q_l100000, q_l1000000, t1]
      simp only [b_63_14, b_63_18, b_63_21, b_63_29, ↓reduceIte, Nat.reduceEqDiff, Nat.reduceMul, q_n10, q_n01, Option.bind_some, g_aft0, g_aft1, g_aft2, g_aft3, g_aft9, Nat.reduceAdd, m_kill_0, m_kill_2, m_kill_3, m_kill_4, m_kill_9, true_or, or_true, q_lm1, q_l0, q_l1, q_l2, q_l3, q_l4, q_l5, q_l6, q_l8, q_l9, q_l10, q_l12, q_l17, q_l32, q_l35, q_l48, q_l50, q_l54, q_l57, q_l64, q_l73, q_l118, q_l119, q_l120, q_l122, q_l126, q_l160, q_l256, q_l365, q_l372, q_l438, q_l1000, q_l100000, q_l1000000, q_scrF hL.2.2.2.2.2.1, d1, hs1, hp, ei, v1, t3]
      conv => lhs; simp only [b_63_9, ↓reduceIte, Nat.reduceEqDiff, Nat.reduceMul, q_n10, q_n01, Option.bind_some, g_aft0, g_aft1, g_aft2, g_aft3, g_aft9, Nat.reduceAdd, m_kill_0, m_kill_2, m_kill_3, m_kill_4, m_kill_9, true_or, or_true, q_lm1, q_l0, q_l1, q_l2, q_l3, q_l4, q_l5, q_l6, q_l8, q_l9, q_l10, q_l12, q_l17, q_l32, q_l35, q_l48, q_l50, q_l54, q_l57, q_l64, q_l73, q_l118, q_l119, q_l120, q_l122, q_l126, q_l160, q_l256, q_l365, q_l372, q_l438, q_l1000, q_l100000, q_l1000000, t2]
      simp only [b_63_14, b_63_18, b_63_21, b_63_29, ↓reduceIte, Nat.reduceEqDiff, Nat.reduceMul, q_n10, q_n01, Option.bind_some, g_aft0, g_aft1, g_aft2, g_aft3, g_aft9, Nat.reduceAdd, m_kill_0, m_kill_2, m_kill_3, m_kill_4, m_kill_9, true_or, or_true, q_lm1, q_l0, q_l1, q_l2, q_l3, q_l4, q_l5, q_l6, q_l8, q_l9, q_l10, q_l12, q_l17, q_l32, q_l35, q_l48, q_l50, q_l54, q_l57, q_l64, q_l73, q_l118, q_l119, q_l120, q_l122, q_l126, q_l160, q_l256, q_l365, q_l372, q_l438, q_l1000, q_l100000, q_l1000000, q_scrF hL.2.2.2.2.2.1, d2, hs2, m_up2_at, m_up2_2, ei2, v2, t4]
      simp only [b_63_9, ↓reduceIte, Nat.reduceEqDiff, Nat.reduceMul, q_n10, q_n01, Option.bind_some, g_aft0, g_aft1, g_aft2, g_aft3, g_aft9, Nat.reduceAdd, m_kill_0, m_kill_2, m_kill_3, m_kill_4, m_kill_9, true_or, or_true, q_lm1, q_l0, q_l1, q_l2, q_l3, q_l4, q_l5, q_l6, q_l8, q_l9, q_l10, q_l12, q_l17, q_l32, q_l35, q_l48, q_l50, q_l54, q_l57, q_l64, q_l73, q_l118, q_l119, q_l120, q_l122, q_l126, q_l160, q_l256, q_l365, q_l372, q_l438, q_l1000, q_l100000, q_l1000000, Int.le_refl]
    · rw [if_neg c2] at d2
      have hnd : w_nd X L i = (true, i + 1, w_sg X L i - 48) := by unfold w_nd; rw [if_pos c, if_neg c2]
      obtain ⟨F1, F2⟩ := fin (m_up2 σ 186 2 ((i + 1 : Nat) : Int)) (i + 1) (w_sg X L i - 48) q_fs_2 m_up2_at (m_up2_nk (by omega)) (by rw [m_up2_nk (by omega), hn]) (m_up2_ne (by omega)) (by rw [hnd]) (by rw [hnd])
      refine ⟨_, ?_, F2⟩
      rw [← F1 (0, 1)]
      rw [hnd]
      have v1 : (0 : Int) * 10 + w_sg X L i - 48 = w_sg X L i - 48 := by clear e0 e2; omega
      have t1 : ¬ (2 : Int) ≤ 0 := by decide
      have t2 : ¬ (2 : Int) ≤ 1 := by decide
      have t3 : (0 : Int) + 1 = 1 := rfl
      simp only [e_63, b_63_0, b_63_4, ↓reduceIte, Nat.reduceEqDiff, Nat.reduceMul, q_n10, q_n01, Option.bind_some, g_aft0, g_aft1, g_aft2, g_aft3, g_aft9, Nat.reduceAdd, m_kill_0, m_kill_2, m_kill_3, m_kill_4, m_kill_9, true_or, or_true, q_lm1, q_l0, q_l1, q_l2, q_l3, q_l4, q_l5, q_l6, q_l8, q_l9, q_l10, q_l12, q_l17, q_l32, q_l35, q_l48, q_l50, q_l54, q_l57, q_l64, q_l73, q_l118, q_l119, q_l120, q_l122, q_l126, q_l160, q_l256, q_l365, q_l372, q_l438, q_l1000, q_l100000, q_l1000000, q_scrF hL.2.2.2.2.2.1, d1]
      conv => lhs; simp only [b_63_9, ↓reduceIte, Nat.reduceEqDiff, Nat.reduceMul, q_n10, q_n01, Option.bind_some, g_aft0, g_aft1, g_aft2, g_aft3, g_aft9, Nat.reduceAdd, m_kill_0, m_kill_2, m_kill_3, m_kill_4, m_kill_9, true_or, or_true, q_lm1, q_l0, q_l1, q_l2, q_l3, q_l4, q_l5, q_l6, q_l8, q_l9, q_l10, q_l12, q_l17, q_l32, q_l35, q_l48, q_l50, q_l54, q_l57, q_l64, q_l73, q_l118, q_l119, q_l120, q_l122, q_l126, q_l160, q_l256, q_l365, q_l372, q_l438, q_l1000, q_l100000, q_l1000000, t1]
      simp only [b_63_14, b_63_18, b_63_21, b_63_29, ↓reduceIte, Nat.reduceEqDiff, Nat.reduceMul, q_n10, q_n01, Option.bind_some, g_aft0, g_aft1, g_aft2, g_aft3, g_aft9, Nat.reduceAdd, m_kill_0, m_kill_2, m_kill_3, m_kill_4, m_kill_9, true_or, or_true, q_lm1, q_l0, q_l1, q_l2, q_l3, q_l4, q_l5, q_l6, q_l8, q_l9, q_l10, q_l12, q_l17, q_l32, q_l35, q_l48, q_l50, q_l54, q_l57, q_l64, q_l73, q_l118, q_l119, q_l120, q_l122, q_l126, q_l160, q_l256, q_l365, q_l372, q_l438, q_l1000, q_l100000, q_l1000000, q_scrF hL.2.2.2.2.2.1, d1, hs1, hp, ei, v1, t3]
      conv => lhs; simp only [b_63_9, ↓reduceIte, Nat.reduceEqDiff, Nat.reduceMul, q_n10, q_n01, Option.bind_some, g_aft0, g_aft1, g_aft2, g_aft3, g_aft9, Nat.reduceAdd, m_kill_0, m_kill_2, m_kill_3, m_kill_4, m_kill_9, true_or, or_true, q_lm1, q_l0, q_l1, q_l2, q_l3, q_l4, q_l5, q_l6, q_l8, q_l9, q_l10, q_l12, q_l17, q_l32, q_l35, q_l48, q_l50, q_l54, q_l57, q_l64, q_l73, q_l118, q_l119, q_l120, q_l122, q_l126, q_l160, q_l256, q_l365, q_l372, q_l438, q_l1000, q_l100000, q_l1000000, t2]
      simp only [b_63_14, b_63_18, ↓reduceIte, Nat.reduceEqDiff, Nat.reduceMul, q_n10, q_n01, Option.bind_some, g_aft0, g_aft1, g_aft2, g_aft3, g_aft9, Nat.reduceAdd, m_kill_0, m_kill_2, m_kill_3, m_kill_4, m_kill_9, true_or, or_true, q_lm1, q_l0, q_l1, q_l2, q_l3, q_l4, q_l5, q_l6, q_l8, q_l9, q_l10, q_l12, q_l17, q_l32, q_l35, q_l48, q_l50, q_l54, q_l57, q_l64, q_l73, q_l118, q_l119, q_l120, q_l122, q_l126, q_l160, q_l256, q_l365, q_l372, q_l438, q_l1000, q_l100000, q_l1000000, q_scrF hL.2.2.2.2.2.1, d2]
  · rw [if_neg c] at d1
    have hnd : w_nd X L i = (false, i, 0) := by unfold w_nd; rw [if_neg c]
    obtain ⟨F1, F2⟩ := fin σ i 0 q_fs_r hp rfl hn rfl (by rw [hnd]) (by rw [hnd])
    refine ⟨_, ?_, F2⟩
    rw [← F1 (0, 0)]
    rw [hnd]
    have t1 : ¬ (2 : Int) ≤ 0 := by decide
    simp only [e_63, b_63_0, b_63_4, ↓reduceIte, Nat.reduceEqDiff, Nat.reduceMul, q_n10, q_n01, Option.bind_some, g_aft0, g_aft1, g_aft2, g_aft3, g_aft9, Nat.reduceAdd, m_kill_0, m_kill_2, m_kill_3, m_kill_4, m_kill_9, true_or, or_true, q_lm1, q_l0, q_l1, q_l2, q_l3, q_l4, q_l5, q_l6, q_l8, q_l9, q_l10, q_l12, q_l17, q_l32, q_l35, q_l48, q_l50, q_l54, q_l57, q_l64, q_l73, q_l118, q_l119, q_l120, q_l122, q_l126, q_l160, q_l256, q_l365, q_l372, q_l438, q_l1000, q_l100000, q_l1000000, q_scrF hL.2.2.2.2.2.1, d1]
    conv => lhs; simp only [b_63_9, ↓reduceIte, Nat.reduceEqDiff, Nat.reduceMul, q_n10, q_n01, Option.bind_some, g_aft0, g_aft1, g_aft2, g_aft3, g_aft9, Nat.reduceAdd, m_kill_0, m_kill_2, m_kill_3, m_kill_4, m_kill_9, true_or, or_true, q_lm1, q_l0, q_l1, q_l2, q_l3, q_l4, q_l5, q_l6, q_l8, q_l9, q_l10, q_l12, q_l17, q_l32, q_l35, q_l48, q_l50, q_l54, q_l57, q_l64, q_l73, q_l118, q_l119, q_l120, q_l122, q_l126, q_l160, q_l256, q_l365, q_l372, q_l438, q_l1000, q_l100000, q_l1000000, t1]
    simp only [b_63_14, b_63_18, ↓reduceIte, Nat.reduceEqDiff, Nat.reduceMul, q_n10, q_n01, Option.bind_some, g_aft0, g_aft1, g_aft2, g_aft3, g_aft9, Nat.reduceAdd, m_kill_0, m_kill_2, m_kill_3, m_kill_4, m_kill_9, true_or, or_true, q_lm1, q_l0, q_l1, q_l2, q_l3, q_l4, q_l5, q_l6, q_l8, q_l9, q_l10, q_l12, q_l17, q_l32, q_l35, q_l48, q_l50, q_l54, q_l57, q_l64, q_l73, q_l118, q_l119, q_l120, q_l122, q_l126, q_l160, q_l256, q_l365, q_l372, q_l438, q_l1000, q_l100000, q_l1000000, q_scrF hL.2.2.2.2.2.1, d1, Bool.false_eq_true, if_false]
theorem c_pattern (hL : q_lay K) (h : w_tx σ X L) (hp : σ 186 2 = (i : Int)) (hi : i ≤ 200) : m_cl Z 60 [(2, ((186 : Nat) : Int))] (K, σ, 206, e, s) = some (.inl (3, ((w_kd X L i : Nat) : Int)), (K, σ, 206, e, s)) := by
  have hb := w_sgb h i
  have hs := c_sign (Z := Z) (e := e) (s := s) hL h hp hi
  have hd := c_digit (Z := Z) (e := e) (s := s) hL h hp hi
  have w1 : w32 (w_sg X L i) = w_sg X L i := q_wi (by omega) (by omega)
  unfold w_kd
  by_cases c1 : w_sg X L i = 118
  · have c2 : ¬ w_sg X L i = 119 := by rw [c1]; decide
    rw [if_neg c2, if_pos c1]
    simp only [e_60, b_60_0, b_60_4, b_60_32, b_60_35, b_60_38, b_60_41, b_60_45, b_60_48, b_60_53, b_60_55, ↓reduceIte, Nat.reduceEqDiff, Nat.reduceMul, q_n10, q_n01, Option.bind_some, g_aft0, g_aft1, g_aft2, g_aft3, g_aft9, Nat.reduceAdd, m_kill_0, m_kill_2, m_kill_3, m_kill_4, m_kill_9, true_or, or_true, q_lm1, q_l0, q_l1, q_l2, q_l3, q_l4, q_l5, q_l6, q_l8, q_l9, q_l10, q_l12, q_l17, q_l32, q_l35, q_l48, q_l50, q_l54, q_l57, q_l64, q_l73, q_l118, q_l119, q_l120, q_l122, q_l126, q_l160, q_l256, q_l365, q_l372, q_l438, q_l1000, q_l100000, q_l1000000, q_scrF hL.2.2.2.2.2.1, hs, w1, c1]
  · by_cases c2 : w_sg X L i = 119
    · rw [if_pos c2]
      simp only [e_60, b_60_0, b_60_4, b_60_32, b_60_35, b_60_38, b_60_41, b_60_45, b_60_48, b_60_53, b_60_55, ↓reduceIte, Nat.reduceEqDiff, Nat.reduceMul, q_n10, q_n01, Option.bind_some, g_aft0, g_aft1, g_aft2, g_aft3, g_aft9, Nat.reduceAdd, m_kill_0, m_kill_2, m_kill_3, m_kill_4, m_kill_9, true_or, or_true, q_lm1, q_l0, q_l1, q_l2, q_l3, q_l4, q_l5, q_l6, q_l8, q_l9, q_l10, q_l12, q_l17, q_l32, q_l35, q_l48, q_l50, q_l54, q_l57, q_l64, q_l73, q_l118, q_l119, q_l120, q_l122, q_l126, q_l160, q_l256, q_l365, q_l372, q_l438, q_l1000, q_l100000, q_l1000000, q_scrF hL.2.2.2.2.2.1, hs, w1, c2]
      rfl
    · by_cases c3 : w_sg X L i = 120
      · rw [if_neg c2, if_neg c1, if_pos c3]
        simp only [e_60, b_60_0, b_60_4, b_60_32, b_60_35, b_60_38, b_60_41, b_60_45, b_60_48, b_60_53, b_60_55, ↓reduceIte, Nat.reduceEqDiff, Nat.reduceMul, q_n10, q_n01, Option.bind_some, g_aft0, g_aft1, g_aft2, g_aft3, g_aft9, Nat.reduceAdd, m_kill_0, m_kill_2, m_kill_3, m_kill_4, m_kill_9, true_or, or_true, q_lm1, q_l0, q_l1, q_l2, q_l3, q_l4, q_l5, q_l6, q_l8, q_l9, q_l10, q_l12, q_l17, q_l32, q_l35, q_l48, q_l50, q_l54, q_l57, q_l64, q_l73, q_l118, q_l119, q_l120, q_l122, q_l126, q_l160, q_l256, q_l365, q_l372, q_l438, q_l1000, q_l100000, q_l1000000, q_scrF hL.2.2.2.2.2.1, hs, w1, c3]
        rfl
      · rw [if_neg c2, if_neg c1, if_neg c3]
        by_cases c4 : w_dg X L i = true
        · rw [if_pos c4] at hd ⊢
          simp only [e_60, b_60_0, b_60_4, b_60_32, b_60_35, b_60_38, b_60_41, b_60_45, b_60_48, b_60_53, b_60_55, ↓reduceIte, Nat.reduceEqDiff, Nat.reduceMul, q_n10, q_n01, Option.bind_some, g_aft0, g_aft1, g_aft2, g_aft3, g_aft9, Nat.reduceAdd, m_kill_0, m_kill_2, m_kill_3, m_kill_4, m_kill_9, true_or, or_true, q_lm1, q_l0, q_l1, q_l2, q_l3, q_l4, q_l5, q_l6, q_l8, q_l9, q_l10, q_l12, q_l17, q_l32, q_l35, q_l48, q_l50, q_l54, q_l57, q_l64, q_l73, q_l118, q_l119, q_l120, q_l122, q_l126, q_l160, q_l256, q_l365, q_l372, q_l438, q_l1000, q_l100000, q_l1000000, q_scrF hL.2.2.2.2.2.1, hs, w1, c1, c2, c3, hd]
        · rw [if_neg c4] at hd ⊢
          simp only [e_60, b_60_0, b_60_4, b_60_32, b_60_35, b_60_38, b_60_41, b_60_45, b_60_48, b_60_53, b_60_55, ↓reduceIte, Nat.reduceEqDiff, Nat.reduceMul, q_n10, q_n01, Option.bind_some, g_aft0, g_aft1, g_aft2, g_aft3, g_aft9, Nat.reduceAdd, m_kill_0, m_kill_2, m_kill_3, m_kill_4, m_kill_9, true_or, or_true, q_lm1, q_l0, q_l1, q_l2, q_l3, q_l4, q_l5, q_l6, q_l8, q_l9, q_l10, q_l12, q_l17, q_l32, q_l35, q_l48, q_l50, q_l54, q_l57, q_l64, q_l73, q_l118, q_l119, q_l120, q_l122, q_l126, q_l160, q_l256, q_l365, q_l372, q_l438, q_l1000, q_l100000, q_l1000000, q_scrF hL.2.2.2.2.2.1, hs, w1, c1, c2, c3, hd]
end
end
