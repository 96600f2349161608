section
/-! The law: from the new object to the rounds. -/
section
variable {N : Nat → Nat → Int} {m : Nat} {a b l : Int}
theorem l_ne (h1 : N 0 1 = (m : Int)) : w_ne N = m := by
  unfold w_ne
  rw [h1]
  exact Int.toNat_natCast m
theorem l_cn0 (h0 : N 0 0 = 4) (h1 : N 0 1 = (m : Int)) (hm : m < 12) (ha : 0 ≤ a ∧ a < 4) (hb : 0 ≤ b ∧ b < 4) (hab : a ≠ b) (hl : 1 ≤ l ∧ l ≤ 50) (hE : ∀ e, e < m → ¬ (N 6 e = a ∧ N 8 e = b ∨ N 6 e = b ∧ N 8 e = a)) : y_cn N a b l = 0 := by
  have hn := l_ne h1
  have hf : w_ebI N a b = -1 := by
    unfold w_ebI
    rcases q_fst_r (p := fun i => decide (N 6 i = a ∧ N 8 i = b ∨ N 6 i = b ∧ N 8 i = a)) (w_ne N) 0 with ⟨h, -⟩ | ⟨j, -, hj, hp, -⟩
    · exact h
    · rw [hn] at hj
      exact absurd (of_decide_eq_true hp) (hE j (by omega))
  unfold y_cn
  rw [h0, hf, hn, if_neg (fun q => q.elim (fun q => q ha) (fun q => q hb)), if_neg (by omega), if_neg (by omega)]
theorem l_cnR (h1 : N 0 1 = (m : Int)) : o_cn a b l N 0 0 = N 0 0 ∧ o_cn a b l N 0 1 = ((m + 1 : Nat) : Int) ∧ (o_cn a b l N 6 m = a ∧ o_cn a b l N 8 m = b) ∧ ∀ e, e < m → o_cn a b l N 6 e = N 6 e ∧ o_cn a b l N 8 e = N 8 e := by
  have hn := l_ne h1
  unfold o_cn
  rw [hn]
  refine ⟨?_, ?_, ⟨?_, ?_⟩, fun e he => ⟨?_, ?_⟩⟩
  · show (if 0 = 0 ∧ 0 = 1 then _ else _) = _
    rw [if_neg (by decide), m_up2_ne (by decide), m_up2_ne (by decide), m_up2_ne (by decide)]
  · rw [m_up2_at]
    rfl
  · rw [m_up2_ne (by decide), m_up2_ne (by decide), m_up2_ne (by decide), m_up2_at]
  · rw [m_up2_ne (by decide), m_up2_ne (by decide), m_up2_at]
  · rw [m_up2_ne (by decide), m_up2_ne (by decide), m_up2_ne (by decide)]
    show (if 6 = 6 ∧ e = m then _ else _) = _
    rw [if_neg (fun q => by omega)]
  · rw [m_up2_ne (by decide), m_up2_ne (by decide)]
    show (if 8 = 8 ∧ e = m then _ else _) = _
    rw [if_neg (fun q => by omega), m_up2_ne (by decide)]
end
theorem l_N00 : l_N 0 0 = 4 := by decide
theorem l_N01 : l_N 0 1 = ((0 : Nat) : Int) := by decide
theorem l_Nd : vv_dm l_N = -1 := by
  unfold vv_dm
  rw [if_neg]
  intro hc
  have h := hc 1 (by decide)
  have h1 : w_D l_N 0 1 = 1000000 := by decide +kernel
  omega
theorem l_Ncc : ¬ y_cc l_N := by
  intro h
  have h1 : 0 < w_ne l_N := h.2
  rw [l_ne l_N01] at h1
  exact absurd h1 (by decide)
section
variable {Z : mZ} {K : Nat → mK} {N : Nat → Nat → Int} {R : Nat → Nat → Nat → Int} {c j k v : Nat} {l2 l3 l4 l5 l6 l7 l8 l9 : mV} {h : mH}
theorem t_go1 (hL : q_lay K) (w : l_S K h l_N R 0 0) : ∃ h' R' c', l_S K h' l_N R' c' 60 ∧ m_run Z (282, 7, [(4, 0), (9, 0), (9, 0), (9, 0), (9, 0), (9, 0), (9, 0), (9, 0), (9, 0), (9, 0)], [(2, ((0 : Nat) : Int))], h) = m_run Z (282, 70, [(4, 0), (2, ((0 : Nat) : Int)), (0, 1), (9, 0), (9, 0), (9, 0), (9, 0), (9, 0), (9, 0), (9, 0)], [], h') := by
  obtain ⟨h1, e1, w1⟩ := L_undo0 (Z := Z) hL w (by decide)
  obtain ⟨h2, e2, w2⟩ := L_count0 (Z := Z) hL w1 (by decide)
  rw [l_N00] at e2
  obtain ⟨h3, e3, w3⟩ := L_count1 (Z := Z) hL w2 (by decide)
  rw [show l_N 0 1 = 0 from l_N01] at e3
  obtain ⟨h4, e4, w4⟩ := L_diameter (Z := Z) hL w3 (by decide)
  rw [l_Nd] at e4
  obtain ⟨h5, e5, w5⟩ := L_radiusN (Z := Z) (x := 0) (u := 0) hL w4 (by decide) (by decide) (Or.inl rfl) l_Ncc
  obtain ⟨R6, c6, h6, e6, w6⟩ := t_refused (Z := Z) hL w5 (by decide)
  refine ⟨h6, R6, c6, l_Sm w6 (by decide), ?_⟩
  obtain ⟨σ3, e3', s3, X3, rfl, -⟩ := id w3
  have q6 := (q_clsF hL.1).1
  simp only [b_282_7, b_282_12, b_282_17, b_282_22, b_282_26, b_282_31, b_282_34, b_282_38, b_282_42, b_282_48, b_282_53, b_282_57, b_282_60, ↓reduceIte, Nat.reduceEqDiff, Nat.reduceMul, q_n10, q_n01, Option.bind_some, g_aft0, g_aft1, g_aft2, g_aft3, g_aft9, Nat.reduceAdd, m_kill_0, m_kill_2, m_kill_3, m_kill_4, m_kill_9, true_or, or_true, q_lm53, q_lm52, q_lm51, q_lm1, q_l0, q_l1, q_l2, q_l3, q_l4, q_l5, q_l6, q_l7, q_l8, q_l9, q_l10, q_l11, q_l12, q_l20, q_l32, q_l50, q_l64, q_l80, q_l120, q_l122, q_l126, q_l372, q_l1000, q_l1000000, Int.reduceEq, not_false_eq_true, q6, e1, e2, e3, e4, e5, e6]
theorem t_go2 (hL : q_lay K) (hZ : Z.1 ≤ 260) (w : l_S K h l_N R c 60) : ∃ h' N' R' c', l_S K h' N' R' c' 70 ∧ m_run Z (282, 70, [(4, 0), (2, ((0 : Nat) : Int)), (0, 1), l3, l4, l5, l6, l7, l8, l9], [], h) = m_run Z (282, 158, [(4, 0), (2, ((0 : Nat) : Int)), (0, 1), (0, ((0 : Nat) : Int)), l4, l5, l6, l7, l8, l9], [], h') := by
  obtain ⟨x1, a1⟩ := t_cell (Z := Z) (h := h) (k := 20) hZ (by decide) (by decide)
  obtain ⟨y1, b1, p1, q1⟩ := t_low (Z := Z) (h := h) (x := x1) (n := 50) (by decide) (by decide)
  have z1 : w32 (1 + y1) = 1 + y1 := w_ad (by omega) (by omega)
  obtain ⟨h1, e1, w1⟩ := L_connect (Z := Z) (x := 0) (y := 1) (z := 1 + y1) hL w (by decide) (by decide) (by decide) z1 (l_cn0 l_N00 l_N01 (by decide) (by decide) (by decide) (by decide) (by clear z1; omega) (fun e he => absurd he (Nat.not_lt_zero e)))
  obtain ⟨r1, s1, t1, -⟩ := l_cnR (a := 0) (b := 1) (l := 1 + y1) l_N01
  rw [l_N00] at r1
  rw [show (w_ne l_N : Int) = 0 from by rw [l_ne l_N01]; rfl] at e1
  generalize o_cn 0 1 (1 + y1) l_N = N1 at *
  obtain ⟨x2, a2⟩ := t_cell (Z := Z) (h := h1) (k := 21) hZ (by decide) (by decide)
  obtain ⟨y2, b2, p2, q2⟩ := t_low (Z := Z) (h := h1) (x := x2) (n := 50) (by decide) (by decide)
  have z2 : w32 (1 + y2) = 1 + y2 := w_ad (by clear z1; omega) (by clear z1; omega)
  obtain ⟨h2, e2, w2⟩ := L_connect (Z := Z) (x := 1) (y := 2) (z := 1 + y2) hL w1 (by decide) (by decide) (by decide) z2 (l_cn0 r1 s1 (by decide) (by decide) (by decide) (by decide) (by clear z1 z2; omega) (fun e he => by
    obtain rfl : e = 0 := by clear z1 z2; omega
    rw [t1.1, t1.2]
    decide))
  obtain ⟨r2, s2, t2, u2⟩ := l_cnR (a := 1) (b := 2) (l := 1 + y2) s1
  rw [r1] at r2
  obtain ⟨g1, g2⟩ := u2 0 (by decide)
  rw [t1.1] at g1
  rw [t1.2] at g2
  clear u2
  rw [show (w_ne N1 : Int) = 1 from by rw [l_ne s1]; rfl] at e2
  generalize o_cn 1 2 (1 + y2) N1 = N2 at *
  have t2 : N2 6 1 = 1 ∧ N2 8 1 = 2 := t2
  obtain ⟨x3, a3⟩ := t_cell (Z := Z) (h := h2) (k := 22) hZ (by decide) (by decide)
  obtain ⟨y3, b3, p3, q3⟩ := t_low (Z := Z) (h := h2) (x := x3) (n := 50) (by decide) (by decide)
  have z3 : w32 (1 + y3) = 1 + y3 := w_ad (by clear z1 z2; omega) (by clear z1 z2; omega)
  obtain ⟨h3, e3, w3⟩ := L_connect (Z := Z) (x := 3) (y := 1) (z := 1 + y3) hL w2 (by decide) (by decide) (by decide) z3 (l_cn0 r2 s2 (by decide) (by decide) (by decide) (by decide) (by clear z1 z2 z3; omega) (fun e he => by
    have ce : e = 0 ∨ e = 1 := by clear z1 z2 z3; omega
    rcases ce with rfl | rfl
    · rw [g1, g2]
      decide
    · rw [t2.1, t2.2]
      decide))
  obtain ⟨r3, s3, t3, u3⟩ := l_cnR (a := 3) (b := 1) (l := 1 + y3) s2
  rw [r2] at r3
  obtain ⟨g3, g4⟩ := u3 0 (by decide)
  obtain ⟨g5, g6⟩ := u3 1 (by decide)
  rw [g1] at g3
  rw [g2] at g4
  rw [t2.1] at g5
  rw [t2.2] at g6
  clear u3
  rw [show (w_ne N2 : Int) = 2 from by rw [l_ne s2]; rfl] at e3
  generalize o_cn 3 1 (1 + y3) N2 = N3 at *
  have t3 : N3 6 2 = 3 ∧ N3 8 2 = 1 := t3
  obtain ⟨h4, e4, w4⟩ := L_connect (Z := Z) (x := 2) (y := 3) (z := 7) hL w3 (by decide) (by decide) (by decide) (by decide) (l_cn0 r3 s3 (by decide) (by decide) (by decide) (by decide) (by decide) (fun e he => by
    have ce : e = 0 ∨ e = 1 ∨ e = 2 := by clear z1 z2 z3; omega
    rcases ce with rfl | rfl | rfl
    · rw [g3, g4]
      decide
    · rw [g5, g6]
      decide
    · rw [t3.1, t3.2]
      decide))
  rw [show (w_ne N3 : Int) = 3 from by rw [l_ne s3]; rfl] at e4
  refine ⟨h4, _, _, _, l_Sm w4 (by decide), ?_⟩
  simp only [b_282_70, b_282_80, b_282_85, b_282_89, b_282_92, b_282_102, b_282_107, b_282_111, b_282_115, b_282_125, b_282_130, b_282_134, b_282_138, b_282_146, b_282_150, ↓reduceIte, Nat.reduceEqDiff, Nat.reduceMul, q_n10, q_n01, Option.bind_some, g_aft0, g_aft1, g_aft2, g_aft3, g_aft9, Nat.reduceAdd, m_kill_0, m_kill_2, m_kill_3, m_kill_4, m_kill_9, true_or, or_true, q_lm53, q_lm52, q_lm51, q_lm1, q_l0, q_l1, q_l2, q_l3, q_l4, q_l5, q_l6, q_l7, q_l8, q_l9, q_l10, q_l11, q_l12, q_l20, q_l32, q_l50, q_l64, q_l80, q_l120, q_l122, q_l126, q_l372, q_l1000, q_l1000000, Int.reduceEq, not_false_eq_true, a1, b1, e1, a2, b2, e2, a3, b3, e3, e4]
  rfl
/-- all of it -/
theorem t_law (hZ : Z.1 ≤ 260) : ∃ (K : Nat → mK) (h : mH) (N : Nat → Nat → Int) (R : Nat → Nat → Nat → Int) (c : Nat), l_S K h N R c 60200 ∧ m_run Z (282, 0, m_ent (m_max 282) [(4, 0)], [], m_h0) = some (.inl (0, 1), h) := by
  obtain ⟨K, h, R, hL, w, e0⟩ := l_start
  obtain ⟨h1, R1, c1, w1, e1⟩ := t_go1 (Z := Z) hL w
  obtain ⟨h2, N2, R2, c2, w2, e2⟩ := t_go2 (Z := Z) (l3 := (9, 0)) (l4 := (9, 0)) (l5 := (9, 0)) (l6 := (9, 0)) (l7 := (9, 0)) (l8 := (9, 0)) (l9 := (9, 0)) hL hZ w1
  obtain ⟨h3, N3, R3, c3, l4, l5, l6, l7, l8, l9, w3, e3⟩ := t_loop (Z := Z) hL hZ 10 0 70 N2 R2 c2 (9, 0) (9, 0) (9, 0) (9, 0) (9, 0) (9, 0) h2 rfl w2 (by decide)
  obtain ⟨R4, c4, h4, e4, w4⟩ := t_refused (Z := Z) hL w3 (by decide)
  refine ⟨K, h4, N3, R4, c4, l_Sm w4 (by decide), ?_⟩
  rw [e0 Z, e1, e2, e3]
  have ck : w32 10 ≤ w32 ((10 : Nat) : Int) := by decide
  rw [b_282_158, if_pos ck]
  simp only [b_282_662, b_282_666, b_282_670, b_282_673, ↓reduceIte, Nat.reduceEqDiff, Nat.reduceMul, q_n10, q_n01, Option.bind_some, g_aft0, g_aft1, g_aft2, g_aft3, g_aft9, Nat.reduceAdd, m_kill_0, m_kill_2, m_kill_3, m_kill_4, m_kill_9, true_or, or_true, q_lm53, q_lm52, q_lm51, q_lm1, q_l0, q_l1, q_l2, q_l3, q_l4, q_l5, q_l6, q_l7, q_l8, q_l9, q_l10, q_l11, q_l12, q_l20, q_l32, q_l50, q_l64, q_l80, q_l120, q_l122, q_l126, q_l372, q_l1000, q_l1000000, e4]
end
end
