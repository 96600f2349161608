section
/-! The best point. -/
def q_bs (σ : Nat → Nat → Int) (x : Int × Int × Int × Int × Int) : Nat → Nat → Int := q_put σ 138 (fun j => if j = 12 then x.1 else if j = 13 then x.2.1 else if j = 14 then x.2.2.1 else if j = 15 then x.2.2.2.1 else if j = 16 then x.2.2.2.2 else σ 138 j)
section
variable {Z : mZ} {K : Nat → mK} {σ N : Nat → Nat → Int} {e s g i : Nat} {t p q : Int} {x y : Int × Int × Int × Int × Int}
theorem q_bs_all {a b c d f : Int} : m_up2 (m_up2 (m_up2 (m_up2 (m_up2 σ 138 12 a) 138 13 b) 138 14 c) 138 15 d) 138 16 f = q_bs σ (a, b, c, d, f) := by
  funext u j
  unfold q_bs m_up2 q_put
  by_cases h : u = 138
  · subst h
    rw [if_pos rfl]
    by_cases c1 : j = 16
    · subst c1; simp
    by_cases c2 : j = 15
    · subst c2; simp
    by_cases c3 : j = 14
    · subst c3; simp
    by_cases c4 : j = 13
    · subst c4; simp
    by_cases c5 : j = 12
    · subst c5; simp
    simp [c1, c2, c3, c4, c5]
  · simp [h]
theorem q_bs_bs : q_bs (q_bs σ x) y = q_bs σ y := by
  funext u j
  unfold q_bs q_put
  by_cases h : u = 138
  · subst h
    simp only [if_true]
    split
    · rfl
    · split
      · rfl
      · split
        · rfl
        · split
          · rfl
          · split
            · rfl
            · rfl
  · rw [if_neg h, if_neg h, if_neg h]
theorem q_bs_o {a : Nat} (h : a ≠ 138) : q_bs σ x a = σ a := q_put_ne h
theorem q_bs_n {j : Nat} (h : j ≠ 12) (h2 : j ≠ 13) (h3 : j ≠ 14) (h4 : j ≠ 15) (h5 : j ≠ 16) : q_bs σ x 138 j = σ 138 j := by
  unfold q_bs
  rw [q_put_at]
  try dsimp only
  rw [if_neg h, if_neg h2, if_neg h3, if_neg h4, if_neg h5]
theorem q_bs_12 : q_bs σ x 138 12 = x.1 := rfl
theorem q_bs_13 : q_bs σ x 138 13 = x.2.1 := rfl
theorem q_bs_14 : q_bs σ x 138 14 = x.2.2.1 := rfl
theorem q_bs_15 : q_bs σ x 138 15 = x.2.2.2.1 := rfl
theorem q_bs_16 : q_bs σ x 138 16 = x.2.2.2.2 := rfl
theorem q_bs_get {c L : Nat} {z : Int} (h : c ≠ 138) : q_get (q_bs σ x) c L z = q_get σ c L z := q_get_ne (q_bs_o h)
theorem s_start (hL : q_lay K) : m_cl Z 90 [(2, ((138 : Nat) : Int))] (K, σ, 191, e, s) = some (.inl (9, 0), (K, q_bs σ (0, 0, 0, 1, 0), 191, e, s)) := by
  simp only [e_90, b_90_0, ↓reduceIte, Nat.reduceEqDiff, Nat.reduceMul, q_n10, q_n01, Option.bind_some, g_aft0, g_aft1, g_aft2, g_aft3, g_aft9, Nat.reduceAdd, m_kill_0, m_kill_2, m_kill_3, m_kill_4, m_kill_9, true_or, or_true, q_lm1, q_l0, q_l1, q_l2, q_l3, q_l4, q_l5, q_l6, q_l8, q_l9, q_l10, q_l12, q_l32, q_l50, q_l120, q_l122, q_l126, q_l372, q_l1000, q_l1000000, q_surF hL.2.2.1, q_tkF hL.2.1, true_or, q_bs_all]
/-- a point that is small enough, with a value that is -/
def w_pb (g p q v : Int) : Prop := 0 ≤ g ∧ g ≤ 1000 ∧ 0 ≤ p ∧ p ≤ 50000 ∧ 1 ≤ q ∧ q ≤ 1000 ∧ 0 ≤ v ∧ v ≤ 2147483647
theorem w_pb64 {g p q v G P Q V : Int} (h1 : w_pb g p q v) (h2 : w_pb G P Q V) : w64 (v * Q - V * q) = v * Q - V * q ∧ w64 (p * Q) = p * Q ∧ w64 (P * q) = P * q := by
  obtain ⟨-, -, a1, a2, a3, a4, a5, a6⟩ := h1
  obtain ⟨-, -, b1, b2, b3, b4, b5, b6⟩ := h2
  have m1 := q_mb a5 a6 (show 0 ≤ Q by omega) b4
  have m2 := q_mb b5 b6 (show 0 ≤ q by omega) a4
  have m3 := q_mb a1 a2 (show 0 ≤ Q by omega) b4
  have m4 := q_mb b1 b2 (show 0 ≤ q by omega) a4
  exact ⟨q_w64 (by omega) (by omega), q_w64 (by omega) (by omega), q_w64 (by omega) (by omega)⟩
theorem w_pb32 {g p q v : Int} (h1 : w_pb g p q v) : w32 g = g ∧ w32 p = p ∧ w32 q = q ∧ w32 v = v := by
  obtain ⟨a0, a9, a1, a2, a3, a4, a5, a6⟩ := h1
  exact ⟨q_wB (by omega) (by omega), q_wB (by omega) (by omega), q_wB (by omega) (by omega), q_wB (by omega) (by omega)⟩
theorem s_before {k : Nat} {v F G P Q V : Int} {gg : Int} (hL : q_lay K) (hk : k < 372) (h1 : σ 165 k = gg) (h2 : σ 167 k = p) (h3 : σ 169 k = q) (hb : w_pb gg p q v) (hB : w_pb G P Q V) : m_cl Z 92 [(2, ((138 : Nat) : Int)), (0, (k : Int))] (K, q_bs σ (F, G, P, Q, V), 191, e, s) = some (.inl (0, if gg < G ∨ gg = G ∧ p * Q < P * q then 1 else 0), (K, q_bs σ (F, G, P, Q, V), 191, e, s)) := by
  obtain ⟨z1, z2, z3⟩ := w_pb64 hb hB
  obtain ⟨y1, y2, y3, y4⟩ := w_pb32 hb
  obtain ⟨x1, x2, x3, x4⟩ := w_pb32 hB
  have g1 : q_get σ 165 372 (k : Int) = gg := by rw [q_get_nat hk (by omega)]; exact h1
  have g2 : q_get σ 167 372 (k : Int) = p := by rw [q_get_nat hk (by omega)]; exact h2
  have g3 : q_get σ 169 372 (k : Int) = q := by rw [q_get_nat hk (by omega)]; exact h3
  simp only [e_92, b_92_0, b_92_8, b_92_17, b_92_37, b_92_43, b_92_47, b_92_48, b_92_57, b_92_65, b_92_69, b_92_73, b_92_74, ↓reduceIte, Nat.reduceEqDiff, Nat.reduceMul, q_n10, q_n01, Option.bind_some, g_aft0, g_aft1, g_aft2, g_aft3, g_aft9, Nat.reduceAdd, m_kill_0, m_kill_2, m_kill_3, m_kill_4, m_kill_9, true_or, or_true, q_lm1, q_l0, q_l1, q_l2, q_l3, q_l4, q_l5, q_l6, q_l8, q_l9, q_l10, q_l12, q_l32, q_l50, q_l120, q_l122, q_l126, q_l372, q_l1000, q_l1000000, q_surF hL.2.2.1, q_tkF hL.2.1, r_get, q_bs_get, ne_eq, not_false_eq_true, q_bs_13, q_bs_14, q_bs_15, g1, g2, g3, y1, y2, y3, x1, x2, x3, l_cge z2 z3, true_or, or_true]
  clear g1 g2 g3 y1 y2 y3 y4 x1 x2 x3 x4 z1 z2 z3 h1 h2 h3
  by_cases c1 : gg < G
  · simp [c1]
  · by_cases c2 : gg = G
    · subst c2
      by_cases c3 : P * q ≤ p * Q
      · simp [c3, Int.not_lt.mpr c3]
      · simp [c3, Int.not_le.mp c3]
    · simp [c1, c2]
theorem s_offer {k : Nat} {v F G P Q V : Int} {gg : Int} (hL : q_lay K) (hk : k < 372) (h1 : σ 165 k = gg) (h2 : σ 167 k = p) (h3 : σ 169 k = q) (hb : w_pb gg p q v) (hB : w_pb G P Q V) (hF : F = 0 ∨ F = 1) : m_cl Z 91 [(2, ((138 : Nat) : Int)), (0, (k : Int)), (0, v)] (K, q_bs σ (F, G, P, Q, V), 191, e, s) = some (.inl (9, 0), (K, q_bs σ (if F = 0 ∨ v * Q < V * q ∨ v * Q = V * q ∧ (gg < G ∨ gg = G ∧ p * Q < P * q) then (1, gg, p, q, v) else (F, G, P, Q, V)), 191, e, s)) := by
  obtain ⟨z1, z2, z3⟩ := w_pb64 hb hB
  obtain ⟨y1, y2, y3, y4⟩ := w_pb32 hb
  obtain ⟨x1, x2, x3, x4⟩ := w_pb32 hB
  have g1 : ∀ z, q_get (q_bs σ z) 165 372 (k : Int) = gg := by intro z; rw [q_bs_get (by omega), q_get_nat hk (by omega)]; exact h1
  have g2 : ∀ z, q_get (q_bs σ z) 167 372 (k : Int) = p := by intro z; rw [q_bs_get (by omega), q_get_nat hk (by omega)]; exact h2
  have g3 : ∀ z, q_get (q_bs σ z) 169 372 (k : Int) = q := by intro z; rw [q_bs_get (by omega), q_get_nat hk (by omega)]; exact h3
  have g1' : ∀ z, q_get (m_up2 (q_bs σ z) 138 12 1) 165 372 (k : Int) = gg := by intro z; rw [q_get_u2 (by omega)]; exact g1 z
  have g2' : ∀ z w, q_get (m_up2 (m_up2 (q_bs σ z) 138 12 1) 138 13 w) 167 372 (k : Int) = p := by intro z w; rw [q_get_u2 (by omega), q_get_u2 (by omega)]; exact g2 z
  have w64_0 : w64 0 = 0 := by decide
  have wF : w32 F = F := by rcases hF with h | h <;> subst h <;> decide
  have hS := s_before (Z := Z) (e := e) (s := s) (F := F) hL hk h1 h2 h3 hb hB
  simp only [e_91, b_91_0, b_91_8, b_91_35, b_91_42, b_91_49, b_91_54, b_91_57, b_91_71, b_91_83, b_91_96, ↓reduceIte, Nat.reduceEqDiff, Nat.reduceMul, q_n10, q_n01, Option.bind_some, g_aft0, g_aft1, g_aft2, g_aft3, g_aft9, Nat.reduceAdd, m_kill_0, m_kill_2, m_kill_3, m_kill_4, m_kill_9, true_or, or_true, q_lm1, q_l0, q_l1, q_l2, q_l3, q_l4, q_l5, q_l6, q_l8, q_l9, q_l10, q_l12, q_l32, q_l50, q_l120, q_l122, q_l126, q_l372, q_l1000, q_l1000000, q_surF hL.2.2.1, q_tkF hL.2.1, r_get, g1, g2, g3, g1', g2', q_bs_12, q_bs_13, q_bs_14, q_bs_15, q_bs_16, y3, y4, x3, x4, wF, l_cl z1 w64_0, l_ce z1 w64_0, hS, true_or, or_true, q_bs_all, q_bs_bs, q_wi0]
  clear g1 g2 g3 g1' g2' y1 y2 y3 y4 x1 x2 x3 x4 z1 z2 z3 h1 h2 h3 hS wF w64_0
  by_cases c0 : F = 0
  · simp [c0]
  · by_cases c1 : v * Q < V * q
    · have c1' : v * Q - V * q < 0 := by omega
      simp [c0, c1, c1']
    · have c1' : ¬ v * Q - V * q < 0 := by omega
      by_cases c2 : v * Q = V * q
      · have c2' : v * Q - V * q = 0 := by omega
        by_cases c3 : gg < G ∨ gg = G ∧ p * Q < P * q
        · simp [c0, c2, c3]
        · simp [c0, c2, c3]
      · have c2' : ¬ v * Q - V * q = 0 := by omega
        simp [c0, c1, c2, c1', c2']
end
end
