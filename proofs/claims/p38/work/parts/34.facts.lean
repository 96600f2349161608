section
/-! What simplifies; networks. -/
theorem q_lm1 : w32 (-1) = -1 := by decide
theorem q_l0 : w32 0 = 0 := by decide
theorem q_l1 : w32 1 = 1 := by decide
theorem q_l2 : w32 2 = 2 := by decide
theorem q_l3 : w32 3 = 3 := by decide
theorem q_l4 : w32 4 = 4 := by decide
theorem q_l5 : w32 5 = 5 := by decide
theorem q_l6 : w32 6 = 6 := by decide
theorem q_l8 : w32 8 = 8 := by decide
theorem q_l9 : w32 9 = 9 := by decide
theorem q_l10 : w32 10 = 10 := by decide
theorem q_l12 : w32 12 = 12 := by decide
theorem q_l32 : w32 32 = 32 := by decide
theorem q_l50 : w32 50 = 50 := by decide
theorem q_l120 : w32 120 = 120 := by decide
theorem q_l122 : w32 122 = 122 := by decide
theorem q_l126 : w32 126 = 126 := by decide
theorem q_l372 : w32 372 = 372 := by decide
theorem q_l1000 : w32 1000 = 1000 := by decide
theorem q_l1000000 : w32 1000000 = 1000000 := by decide
theorem q_n10 : ((1 : Int) = 0) = False := by decide
theorem q_n01 : ((0 : Int) = 1) = False := by decide
theorem m_kill_0 {x : Int} : m_kill (0, x) = (0, x) := rfl
theorem m_kill_2 {x : Int} : m_kill (2, x) = (2, x) := rfl
theorem m_kill_3 {x : Int} : m_kill (3, x) = (3, x) := rfl
theorem m_kill_4 {x : Int} : m_kill (4, x) = (4, x) := rfl
theorem m_kill_9 {x : Int} : m_kill (9, x) = (9, x) := rfl
section QA
variable {Z : mZ} {m pc : Nat} {ls rest : List mV} {x : Int} {h' : mH}
theorem g_aft0 : m_aft (m_run Z) m pc ls rest (.inl (0, x), h') = m_run Z (m, pc + 3, ls, (0, x) :: rest, h') := rfl
theorem g_aft1 : m_aft (m_run Z) m pc ls rest (.inl (1, x), h') = m_run Z (m, pc + 3, ls, (1, x) :: rest, h') := rfl
theorem g_aft2 : m_aft (m_run Z) m pc ls rest (.inl (2, x), h') = m_run Z (m, pc + 3, ls, (2, x) :: rest, h') := rfl
theorem g_aft3 : m_aft (m_run Z) m pc ls rest (.inl (3, x), h') = m_run Z (m, pc + 3, ls, (3, x) :: rest, h') := rfl
theorem g_aft9 : m_aft (m_run Z) m pc ls rest (.inl (9, x), h') = m_run Z (m, pc + 3, ls, rest, h') := rfl
end QA
/-- a network at a: its rows at a + 1, a + 3 .., their numbers at a + 2, a + 4 .. -/
def q_net (K : Nat → mK) (n a : Nat) : Prop := q_ob K n a 1 ∧ (q_row K n (a + 1) ∧ q_row K n (a + 3) ∧ q_row K n (a + 5) ∧ q_row K n (a + 7) ∧ q_row K n (a + 9) ∧ q_row K n (a + 11) ∧ q_row K n (a + 13) ∧ q_row K n (a + 15)) ∧
  (q_rp K a 3 ∧ q_rp K a 4 ∧ q_rp K a 5 ∧ q_rp K a 6 ∧ q_rp K a 7 ∧ q_rp K a 8 ∧ q_rp K a 9 ∧ q_rp K a 10) ∧
  (q_rf K a 3 = a + 1 ∧ q_rf K a 4 = a + 3 ∧ q_rf K a 5 = a + 5 ∧ q_rf K a 6 = a + 7 ∧ q_rf K a 7 = a + 9 ∧ q_rf K a 8 = a + 11 ∧ q_rf K a 9 = a + 13 ∧ q_rf K a 10 = a + 15) ∧
  (q_ln K (a + 2) = 8 ∧ q_ln K (a + 4) = 8 ∧ q_ln K (a + 6) = 12 ∧ q_ln K (a + 8) = 12 ∧ q_ln K (a + 10) = 12 ∧ q_ln K (a + 12) = 6 ∧ q_ln K (a + 14) = 6 ∧ q_ln K (a + 16) = 6)
theorem q_rowo {K : Nat → mK} {n b : Nat} (h : q_row K n b) : q_ob K n b 3 := h.1
theorem q_p1 (a : Nat) : a + 1 + 1 = a + 2 := rfl
theorem q_p3 (a : Nat) : a + 3 + 1 = a + 4 := rfl
theorem q_p5 (a : Nat) : a + 5 + 1 = a + 6 := rfl
theorem q_p7 (a : Nat) : a + 7 + 1 = a + 8 := rfl
theorem q_p9 (a : Nat) : a + 9 + 1 = a + 10 := rfl
theorem q_p11 (a : Nat) : a + 11 + 1 = a + 12 := rfl
theorem q_p13 (a : Nat) : a + 13 + 1 = a + 14 := rfl
theorem q_p15 (a : Nat) : a + 15 + 1 = a + 16 := rfl
/-- the facts of a network, for simplification -/
theorem q_netF {K : Nat → mK} {n a : Nat} (h : q_net K n a) : q_ob K n a 1 ∧ (q_row K n (a + 1) ∧ q_row K n (a + 3) ∧ q_row K n (a + 5) ∧ q_row K n (a + 7) ∧ q_row K n (a + 9) ∧ q_row K n (a + 11) ∧ q_row K n (a + 13) ∧ q_row K n (a + 15)) ∧
  (q_ob K n (a + 1) 3 ∧ q_ob K n (a + 3) 3 ∧ q_ob K n (a + 5) 3 ∧ q_ob K n (a + 7) 3 ∧ q_ob K n (a + 9) 3 ∧ q_ob K n (a + 11) 3 ∧ q_ob K n (a + 13) 3 ∧ q_ob K n (a + 15) 3) ∧
  (q_rp K a 3 ∧ q_rp K a 4 ∧ q_rp K a 5 ∧ q_rp K a 6 ∧ q_rp K a 7 ∧ q_rp K a 8 ∧ q_rp K a 9 ∧ q_rp K a 10) ∧
  (q_rf K a 3 = a + 1 ∧ q_rf K a 4 = a + 3 ∧ q_rf K a 5 = a + 5 ∧ q_rf K a 6 = a + 7 ∧ q_rf K a 7 = a + 9 ∧ q_rf K a 8 = a + 11 ∧ q_rf K a 9 = a + 13 ∧ q_rf K a 10 = a + 15) ∧
  (q_ln K (a + 2) = 8 ∧ q_ln K (a + 4) = 8 ∧ q_ln K (a + 6) = 12 ∧ q_ln K (a + 8) = 12 ∧ q_ln K (a + 10) = 12 ∧ q_ln K (a + 12) = 6 ∧ q_ln K (a + 14) = 6 ∧ q_ln K (a + 16) = 6) := by
  obtain ⟨h1, h2, h3⟩ := h
  exact ⟨h1, h2, ⟨h2.1.1, h2.2.1.1, h2.2.2.1.1, h2.2.2.2.1.1, h2.2.2.2.2.1.1, h2.2.2.2.2.2.1.1, h2.2.2.2.2.2.2.1.1, h2.2.2.2.2.2.2.2.1⟩, h3⟩
section QN
variable {Z : mZ} {K : Nat → mK} {σ : Nat → Nat → Int} {n e s a : Nat}
theorem n_hasNode {i : Int} (hN : q_net K n a) : m_cl Z 15 [(2, ((a : Nat) : Int)), (0, i)] (K, σ, n, e, s) = some (.inl (0, if 0 ≤ w32 i ∧ w32 i < w32 (σ a 0) then 1 else 0), (K, σ, n, e, s)) := by
  simp only [e_15, b_15_0, b_15_4, b_15_12, b_15_16, b_15_17, ↓reduceIte, Nat.reduceEqDiff, Nat.reduceMul, q_n10, q_n01, Option.bind_some, g_aft0, g_aft1, g_aft2, g_aft3, g_aft9, Nat.reduceAdd, m_kill_0, m_kill_2, m_kill_3, m_kill_4, m_kill_9, true_or, or_true, q_lm1, q_l0, q_l1, q_l2, q_l3, q_l4, q_l5, q_l6, q_l8, q_l9, q_l10, q_l12, q_l32, q_l50, q_l120, q_l122, q_l126, q_l372, q_l1000, q_l1000000, q_netF hN]
  repeat' split
  all_goals first | rfl | (exfalso; omega)
theorem n_hasEdge {i : Int} (hN : q_net K n a) : m_cl Z 16 [(2, ((a : Nat) : Int)), (0, i)] (K, σ, n, e, s) = some (.inl (0, if 0 ≤ w32 i ∧ w32 i < w32 (σ a 1) then 1 else 0), (K, σ, n, e, s)) := by
  simp only [e_16, b_16_0, b_16_4, b_16_12, b_16_16, b_16_17, ↓reduceIte, Nat.reduceEqDiff, Nat.reduceMul, q_n10, q_n01, Option.bind_some, g_aft0, g_aft1, g_aft2, g_aft3, g_aft9, Nat.reduceAdd, m_kill_0, m_kill_2, m_kill_3, m_kill_4, m_kill_9, true_or, or_true, q_lm1, q_l0, q_l1, q_l2, q_l3, q_l4, q_l5, q_l6, q_l8, q_l9, q_l10, q_l12, q_l32, q_l50, q_l120, q_l122, q_l126, q_l372, q_l1000, q_l1000000, q_netF hN]
  repeat' split
  all_goals first | rfl | (exfalso; omega)
theorem n_hasStretch {i : Int} (hN : q_net K n a) : m_cl Z 17 [(2, ((a : Nat) : Int)), (0, i)] (K, σ, n, e, s) = some (.inl (0, if 0 ≤ w32 i ∧ w32 i < w32 (σ a 2) then 1 else 0), (K, σ, n, e, s)) := by
  simp only [e_17, b_17_0, b_17_4, b_17_12, b_17_16, b_17_17, ↓reduceIte, Nat.reduceEqDiff, Nat.reduceMul, q_n10, q_n01, Option.bind_some, g_aft0, g_aft1, g_aft2, g_aft3, g_aft9, Nat.reduceAdd, m_kill_0, m_kill_2, m_kill_3, m_kill_4, m_kill_9, true_or, or_true, q_lm1, q_l0, q_l1, q_l2, q_l3, q_l4, q_l5, q_l6, q_l8, q_l9, q_l10, q_l12, q_l32, q_l50, q_l120, q_l122, q_l126, q_l372, q_l1000, q_l1000000, q_netF hN]
  repeat' split
  all_goals first | rfl | (exfalso; omega)
theorem n_hasSet {i : Int} (hN : q_net K n a) : m_cl Z 18 [(2, ((a : Nat) : Int)), (0, i)] (K, σ, n, e, s) = some (.inl (0, if w32 (i_ushr i (σ a 0)) = 0 then 1 else 0), (K, σ, n, e, s)) := by
  simp only [e_18, b_18_0, b_18_9, b_18_13, b_18_14, ↓reduceIte, Nat.reduceEqDiff, Nat.reduceMul, q_n10, q_n01, Option.bind_some, g_aft0, g_aft1, g_aft2, g_aft3, g_aft9, Nat.reduceAdd, m_kill_0, m_kill_2, m_kill_3, m_kill_4, m_kill_9, true_or, or_true, q_lm1, q_l0, q_l1, q_l2, q_l3, q_l4, q_l5, q_l6, q_l8, q_l9, q_l10, q_l12, q_l32, q_l50, q_l120, q_l122, q_l126, q_l372, q_l1000, q_l1000000, q_netF hN]
  repeat' split
  all_goals first | rfl | (exfalso; omega)
theorem n_allNodes (hN : q_net K n a) : m_cl Z 19 [(2, ((a : Nat) : Int))] (K, σ, n, e, s) = some (.inl (0, i_shl 1 (σ a 0) - 1), (K, σ, n, e, s)) := by
  simp only [e_19, b_19_0, ↓reduceIte, Nat.reduceEqDiff, Nat.reduceMul, q_n10, q_n01, Option.bind_some, g_aft0, g_aft1, g_aft2, g_aft3, g_aft9, Nat.reduceAdd, m_kill_0, m_kill_2, m_kill_3, m_kill_4, m_kill_9, true_or, or_true, q_lm1, q_l0, q_l1, q_l2, q_l3, q_l4, q_l5, q_l6, q_l8, q_l9, q_l10, q_l12, q_l32, q_l50, q_l120, q_l122, q_l126, q_l372, q_l1000, q_l1000000, q_netF hN]
theorem n_hasPoint {i p q : Int} (hN : q_net K n a) : m_cl Z 20 [(2, ((a : Nat) : Int)), (0, i), (0, p), (0, q)] (K, σ, n, e, s) = some (.inl (0, if 1 ≤ w32 q ∧ w32 q ≤ 1000 ∧ 0 ≤ w32 p ∧ w32 p ≤ w32 (q_get σ (a + 10) 12 i * q) then 1 else 0), (K, σ, n, e, s)) := by
  simp only [e_20, b_20_0, b_20_5, b_20_12, b_20_16, b_20_25, b_20_30, b_20_34, b_20_35, ↓reduceIte, Nat.reduceEqDiff, Nat.reduceMul, q_n10, q_n01, Option.bind_some, g_aft0, g_aft1, g_aft2, g_aft3, g_aft9, Nat.reduceAdd, m_kill_0, m_kill_2, m_kill_3, m_kill_4, m_kill_9, true_or, or_true, q_lm1, q_l0, q_l1, q_l2, q_l3, q_l4, q_l5, q_l6, q_l8, q_l9, q_l10, q_l12, q_l32, q_l50, q_l120, q_l122, q_l126, q_l372, q_l1000, q_l1000000, q_netF hN, r_get, Nat.add_assoc]
  repeat' split
  all_goals first | rfl | (exfalso; omega)
end QN
end
