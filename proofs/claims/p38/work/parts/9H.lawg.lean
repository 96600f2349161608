section
/-! The law: its loop. -/
theorem i_and_n {x : Int} {b : Nat} (hb : b < 2147483648) : ∃ m : Nat, i_and x (b : Int) = (m : Int) ∧ m ≤ b := by
  have h1 : (BitVec.ofInt 32 (b : Int)).toNat = b := by
    rw [BitVec.toNat_ofInt]
    omega
  have h2 : (BitVec.ofInt 32 (b : Int)).msb = false := by
    rw [BitVec.msb_eq_false_iff_two_mul_lt, h1]
    omega
  refine ⟨(BitVec.ofInt 32 x).toNat &&& b, ?_, Nat.and_le_right⟩
  unfold i_and
  show (Int32.ofInt x &&& Int32.ofInt (b : Int)).toBitVec.toInt = _
  rw [Int32.toBitVec_and, Int32.toBitVec_ofInt, Int32.toBitVec_ofInt, BitVec.toInt_eq_toNat_of_msb (by rw [BitVec.msb_and, h2, Bool.and_false]), BitVec.toNat_and, h1]
theorem w_tm {a b : Int} (h0 : -1000000 ≤ a) (h1 : a ≤ 1000000) : w32 (a.tmod b) = a.tmod b ∧ -1000000 ≤ a.tmod b ∧ a.tmod b ≤ 1000000 := by
  have h2 := Int.natAbs_tmod a b
  have h3 := Nat.mod_le a.natAbs b.natAbs
  rw [← h2] at h3
  generalize a.tmod b = x at *
  exact ⟨q_wi (by omega) (by omega), by omega, by omega⟩
theorem w_td {a b : Int} (h0 : -1000000 ≤ a) (h1 : a ≤ 1000000) : w32 (a.tdiv b) = a.tdiv b ∧ -1000000 ≤ a.tdiv b ∧ a.tdiv b ≤ 1000000 := by
  have h2 := Int.natAbs_tdiv a b
  have h3 := Nat.div_le_self a.natAbs b.natAbs
  have h4 : (a.tdiv b).natAbs ≤ a.natAbs := by rw [h2]; exact h3
  generalize a.tdiv b = x at *
  exact ⟨q_wi (by omega) (by omega), by omega, by omega⟩
theorem w_tmb {a b : Int} (h0 : 0 ≤ a) (hb : 0 < b) : 0 ≤ a.tmod b ∧ a.tmod b < b := ⟨Int.tmod_nonneg _ h0, Int.tmod_lt_of_pos _ hb⟩
section
variable {Z : mZ} {K : Nat → mK} {N : Nat → Nat → Int} {R : Nat → Nat → Nat → Int} {c j : Nat} {x y z r v n t : Int} {l4 l5 l6 l7 l8 l9 : mV} {h : mH}
/-- low -/
theorem t_low (hn : 1 ≤ n) (hn2 : n ≤ 1000000) : ∃ v : Int, m_cl Z 242 [(0, x), (0, n)] h = some (.inl (0, v), h) ∧ 0 ≤ v ∧ v < n := by
  have wn : w32 n = n := q_wi (by omega) (by omega)
  have c0 : ¬ w32 n = 0 := by rw [wn]; clear wn; omega
  obtain ⟨m, m1, m2⟩ := i_and_n (x := x) (b := 2147483647) (by decide)
  have m1 : i_and x 2147483647 = (m : Int) := m1
  have wm : w32 (m : Int) = (m : Int) := w32_of (by clear wn; omega) (by clear wn; omega)
  obtain ⟨b1, b2⟩ := w_tmb (a := (m : Int)) (b := n) (Int.natCast_nonneg m) (by clear wn c0 wm; omega)
  exact ⟨(m : Int).tmod n, by rw [e_242, b_242_0 c0, m1, wm, wn], b1, b2⟩
/-- cell -/
theorem t_cell (hZ : Z.1 ≤ 260) {k : Int} (hk : 0 ≤ k) (hk2 : k ≤ 1000) : ∃ v : Int, m_cl Z 241 [(4, 0), (0, k)] h = some (.inl (0, v), h) := by
  have wZ : w32 (Z.1 : Int) = (Z.1 : Int) := q_w (by omega)
  have wk : w32 k = k := q_wi (by omega) (by omega)
  by_cases c1 : (Z.1 : Int) ≤ k
  · exact ⟨_, by rw [e_241, b_241_0, wZ, wk, if_pos c1, b_241_12, b_241_18]⟩
  · exact ⟨_, by rw [e_241, b_241_0, wZ, wk, if_neg c1, b_241_6 (by rw [wk]; exact hk) (by rw [wk]; clear wZ wk; omega)]⟩
/-- the number of nodes behind a change -/
theorem t_all (hL : q_lay K) (w : l_S K h N R c j) (hj : j < 500000) (hr : w32 r = r ∧ (0 ≤ r ∨ r = -52 ∨ r = -53 ∨ r = -51)) : ∃ h', l_S K h' N R c (j + 1) ∧ (m_cl Z 250 [(2, ((0 : Nat) : Int)), (0, 0)] h).bind (m_aft (m_run Z) 282 450 [(4, 0), (2, ((0 : Nat) : Int)), (0, 1), (0, t), l4, l5, l6, (0, r), l8, l9] [(0, 1)]) = m_run Z (282, 484, [(4, 0), (2, ((0 : Nat) : Int)), (0, 1), (0, t), l4, l5, l6, (0, r), (0, (vv_A N : Int)), l9], [], h') := by
  have hw := l_Sw w
  have n8 := (wf_n hw).2.2
  obtain ⟨h1, e1, w1⟩ := L_count0 (Z := Z) hL w (by omega)
  rw [(wf_n hw).1] at e1
  have hA : i_shl 1 (w_nn N : Int) - 1 = (vv_A N : Int) := by
    rw [q_shl n8]
    unfold vv_A
    have := (q_pow8 n8).1
    omega
  refine ⟨h1, w1, ?_⟩
  obtain ⟨wr, hr⟩ := hr
  by_cases c0 : 0 ≤ r
  · simp only [e1, b_282_0, b_282_7, b_282_12, b_282_17, b_282_22, b_282_26, b_282_31, b_282_34, b_282_38, b_282_42, b_282_48, b_282_53, b_282_57, b_282_60, b_282_64, b_282_65, b_282_70, b_282_80, b_282_85, b_282_89, b_282_92, b_282_102, b_282_107, b_282_111, b_282_115, b_282_125, b_282_130, b_282_134, b_282_138, b_282_146, b_282_150, b_282_154, b_282_155, b_282_164, b_282_168, b_282_173, b_282_180, b_282_191, b_282_203_0, b_282_203_1, b_282_203_2, b_282_203_3, b_282_203_4, b_282_203_5, b_282_203_6, b_282_203_7, b_282_203_8, b_282_203_9, b_282_203_d, b_282_256, b_282_283, b_282_288, b_282_297, b_282_302, b_282_319, b_282_324, b_282_341, b_282_346, b_282_379, b_282_384, b_282_391, b_282_401, b_282_404, b_282_408, b_282_413, b_282_420, b_282_432, b_282_435, b_282_445, b_282_447, b_282_453, b_282_463, b_282_470, b_282_477, b_282_484, b_282_488, b_282_491, b_282_506, b_282_509, b_282_529, b_282_532, b_282_536, b_282_537, b_282_543, b_282_547, b_282_552, b_282_555, b_282_559, b_282_560, b_282_566, b_282_571, b_282_580, b_282_583, b_282_591, b_282_595, b_282_598, b_282_604, b_282_611, b_282_614, b_282_621, b_282_629, b_282_633, b_282_636, b_282_643, b_282_647, b_282_650, b_282_654, b_282_655, b_282_662, b_282_666, b_282_670, b_282_673, b_282_677, b_282_678, ↓reduceIte, Nat.reduceEqDiff, Nat.reduceMul, q_n10, q_n01, Option.bind_some, g_aft0, g_aft1, g_aft2, g_aft3, g_aft9, Nat.reduceAdd, m_kill_0, m_kill_2, m_kill_3, m_kill_4, m_kill_9, true_or, or_true, q_lm53, q_lm52, q_lm51, q_lm1, q_l0, q_l1, q_l2, q_l3, q_l4, q_l5, q_l6, q_l7, q_l8, q_l9, q_l10, q_l11, q_l12, q_l20, q_l32, q_l50, q_l64, q_l80, q_l120, q_l122, q_l126, q_l372, q_l1000, q_l1000000, wr, c0, hA]
  · rcases hr with hr | hr | hr | hr
    · exact absurd hr c0
    · subst hr
      simp only [e1, b_282_0, b_282_7, b_282_12, b_282_17, b_282_22, b_282_26, b_282_31, b_282_34, b_282_38, b_282_42, b_282_48, b_282_53, b_282_57, b_282_60, b_282_64, b_282_65, b_282_70, b_282_80, b_282_85, b_282_89, b_282_92, b_282_102, b_282_107, b_282_111, b_282_115, b_282_125, b_282_130, b_282_134, b_282_138, b_282_146, b_282_150, b_282_154, b_282_155, b_282_164, b_282_168, b_282_173, b_282_180, b_282_191, b_282_203_0, b_282_203_1, b_282_203_2, b_282_203_3, b_282_203_4, b_282_203_5, b_282_203_6, b_282_203_7, b_282_203_8, b_282_203_9, b_282_203_d, b_282_256, b_282_283, b_282_288, b_282_297, b_282_302, b_282_319, b_282_324, b_282_341, b_282_346, b_282_379, b_282_384, b_282_391, b_282_401, b_282_404, b_282_408, b_282_413, b_282_420, b_282_432, b_282_435, b_282_445, b_282_447, b_282_453, b_282_463, b_282_470, b_282_477, b_282_484, b_282_488, b_282_491, b_282_506, b_282_509, b_282_529, b_282_532, b_282_536, b_282_537, b_282_543, b_282_547, b_282_552, b_282_555, b_282_559, b_282_560, b_282_566, b_282_571, b_282_580, b_282_583, b_282_591, b_282_595, b_282_598, b_282_604, b_282_611, b_282_614, b_282_621, b_282_629, b_282_633, b_282_636, b_282_643, b_282_647, b_282_650, b_282_654, b_282_655, b_282_662, b_282_666, b_282_670, b_282_673, b_282_677, b_282_678, ↓reduceIte, Nat.reduceEqDiff, Nat.reduceMul, q_n10, q_n01, Option.bind_some, g_aft0, g_aft1, g_aft2, g_aft3, g_aft9, Nat.reduceAdd, m_kill_0, m_kill_2, m_kill_3, m_kill_4, m_kill_9, true_or, or_true, q_lm53, q_lm52, q_lm51, q_lm1, q_l0, q_l1, q_l2, q_l3, q_l4, q_l5, q_l6, q_l7, q_l8, q_l9, q_l10, q_l11, q_l12, q_l20, q_l32, q_l50, q_l64, q_l80, q_l120, q_l122, q_l126, q_l372, q_l1000, q_l1000000, c0, hA]
    · subst hr
      have n1 : ¬ (-53 : Int) = -52 := by decide
      simp only [e1, b_282_0, b_282_7, b_282_12, b_282_17, b_282_22, b_282_26, b_282_31, b_282_34, b_282_38, b_282_42, b_282_48, b_282_53, b_282_57, b_282_60, b_282_64, b_282_65, b_282_70, b_282_80, b_282_85, b_282_89, b_282_92, b_282_102, b_282_107, b_282_111, b_282_115, b_282_125, b_282_130, b_282_134, b_282_138, b_282_146, b_282_150, b_282_154, b_282_155, b_282_164, b_282_168, b_282_173, b_282_180, b_282_191, b_282_203_0, b_282_203_1, b_282_203_2, b_282_203_3, b_282_203_4, b_282_203_5, b_282_203_6, b_282_203_7, b_282_203_8, b_282_203_9, b_282_203_d, b_282_256, b_282_283, b_282_288, b_282_297, b_282_302, b_282_319, b_282_324, b_282_341, b_282_346, b_282_379, b_282_384, b_282_391, b_282_401, b_282_404, b_282_408, b_282_413, b_282_420, b_282_432, b_282_435, b_282_445, b_282_447, b_282_453, b_282_463, b_282_470, b_282_477, b_282_484, b_282_488, b_282_491, b_282_506, b_282_509, b_282_529, b_282_532, b_282_536, b_282_537, b_282_543, b_282_547, b_282_552, b_282_555, b_282_559, b_282_560, b_282_566, b_282_571, b_282_580, b_282_583, b_282_591, b_282_595, b_282_598, b_282_604, b_282_611, b_282_614, b_282_621, b_282_629, b_282_633, b_282_636, b_282_643, b_282_647, b_282_650, b_282_654, b_282_655, b_282_662, b_282_666, b_282_670, b_282_673, b_282_677, b_282_678, ↓reduceIte, Nat.reduceEqDiff, Nat.reduceMul, q_n10, q_n01, Option.bind_some, g_aft0, g_aft1, g_aft2, g_aft3, g_aft9, Nat.reduceAdd, m_kill_0, m_kill_2, m_kill_3, m_kill_4, m_kill_9, true_or, or_true, q_lm53, q_lm52, q_lm51, q_lm1, q_l0, q_l1, q_l2, q_l3, q_l4, q_l5, q_l6, q_l7, q_l8, q_l9, q_l10, q_l11, q_l12, q_l20, q_l32, q_l50, q_l64, q_l80, q_l120, q_l122, q_l126, q_l372, q_l1000, q_l1000000, c0, hA, n1]
    · subst hr
      have n1 : ¬ (-51 : Int) = -52 := by decide
      have n2 : ¬ (-51 : Int) = -53 := by decide
      simp only [e1, b_282_0, b_282_7, b_282_12, b_282_17, b_282_22, b_282_26, b_282_31, b_282_34, b_282_38, b_282_42, b_282_48, b_282_53, b_282_57, b_282_60, b_282_64, b_282_65, b_282_70, b_282_80, b_282_85, b_282_89, b_282_92, b_282_102, b_282_107, b_282_111, b_282_115, b_282_125, b_282_130, b_282_134, b_282_138, b_282_146, b_282_150, b_282_154, b_282_155, b_282_164, b_282_168, b_282_173, b_282_180, b_282_191, b_282_203_0, b_282_203_1, b_282_203_2, b_282_203_3, b_282_203_4, b_282_203_5, b_282_203_6, b_282_203_7, b_282_203_8, b_282_203_9, b_282_203_d, b_282_256, b_282_283, b_282_288, b_282_297, b_282_302, b_282_319, b_282_324, b_282_341, b_282_346, b_282_379, b_282_384, b_282_391, b_282_401, b_282_404, b_282_408, b_282_413, b_282_420, b_282_432, b_282_435, b_282_445, b_282_447, b_282_453, b_282_463, b_282_470, b_282_477, b_282_484, b_282_488, b_282_491, b_282_506, b_282_509, b_282_529, b_282_532, b_282_536, b_282_537, b_282_543, b_282_547, b_282_552, b_282_555, b_282_559, b_282_560, b_282_566, b_282_571, b_282_580, b_282_583, b_282_591, b_282_595, b_282_598, b_282_604, b_282_611, b_282_614, b_282_621, b_282_629, b_282_633, b_282_636, b_282_643, b_282_647, b_282_650, b_282_654, b_282_655, b_282_662, b_282_666, b_282_670, b_282_673, b_282_677, b_282_678, ↓reduceIte, Nat.reduceEqDiff, Nat.reduceMul, q_n10, q_n01, Option.bind_some, g_aft0, g_aft1, g_aft2, g_aft3, g_aft9, Nat.reduceAdd, m_kill_0, m_kill_2, m_kill_3, m_kill_4, m_kill_9, true_or, or_true, q_lm53, q_lm52, q_lm51, q_lm1, q_l0, q_l1, q_l2, q_l3, q_l4, q_l5, q_l6, q_l7, q_l8, q_l9, q_l10, q_l11, q_l12, q_l20, q_l32, q_l50, q_l64, q_l80, q_l120, q_l122, q_l126, q_l372, q_l1000, q_l1000000, c0, hA, n1, n2]
end
end
