section
/-! The law: one round. -/
theorem n_bd {j q : Nat} (h : j + (q + 6000) < 100000) : j < 400000 ∧ j + 3 < 300000 ∧ j + 3 + 2700 < 200000 ∧ j + 3 + 2700 + 3000 + q < 100000 ∧ j + 3 + 2700 + 3000 + q ≤ j + (q + 6000) := by
  have h0 : j < 100000 := Nat.lt_of_le_of_lt (Nat.le_add_right _ _) h
  refine ⟨by omega, by omega, ?_, ?_, ?_⟩
  · exact Nat.lt_of_lt_of_le (Nat.add_lt_add_right (Nat.add_lt_add_right h0 3) 2700) (by decide)
  · refine Nat.lt_of_le_of_lt ?_ h
    omega
  · omega
theorem t_tm (a b : Nat) : (a : Int).tmod (b : Int) = ((a % b : Nat) : Int) := (Int.ofNat_tmod a b).symm
noncomputable def vv_is (N : Nat → Nat → Int) : Int := by
  classical exact if y_cc N then 1 else 0
theorem vv_is1 {N : Nat → Nat → Int} (h : y_cc N) : vv_is N = 1 := by unfold vv_is; rw [if_pos h]
theorem vv_is0 {N : Nat → Nat → Int} (h : ¬ y_cc N) : vv_is N = 0 := by unfold vv_is; rw [if_neg h]
section
variable {Z : mZ} {K : Nat → mK} {N : Nat → Nat → Int} {R : Nat → Nat → Nat → Int} {c j k v : Nat} {l4 l5 l6 l7 l8 l9 : mV} {h : mH}
/-- to the change's end -/
theorem t_bdA (hL : q_lay K) (w : l_S K h N R c j) (hj : j < 400000) (hZ : Z.1 ≤ 260) (hk : k < 10) : ∃ (h' : mH) (N' : Nat → Nat → Int) (R' : Nat → Nat → Nat → Int) (c' v : Nat) (l4' l5' l7' : mV), l_S K h' N' R' c' (j + 3) ∧ v < 100000 ∧ m_run Z (282, 158, [(4, 0), (2, ((0 : Nat) : Int)), (0, 1), (0, (k : Int)), l4, l5, l6, l7, l8, l9], [], h) = m_run Z (282, 484, [(4, 0), (2, ((0 : Nat) : Int)), (0, 1), (0, (k : Int)), l4', l5', (0, (v : Int)), l7', (0, (vv_A N' : Int)), l9], [], h') := by
  have hw := l_Sw w
  have n8 := (wf_n hw).2
  have wk : w32 (k : Int) = (k : Int) := q_w (by omega)
  have ck : ¬ (10 : Int) ≤ (k : Int) := by clear wk; omega
  obtain ⟨x, e1⟩ := t_cell (Z := Z) (h := h) (k := (k : Int)) hZ (by clear wk; omega) (by clear wk; omega)
  obtain ⟨h2, e2, w2⟩ := L_count0 (Z := Z) hL w (by clear wk; omega)
  rw [(wf_n hw).1] at e2
  obtain ⟨y, e3, y1, y2⟩ := t_low (Z := Z) (h := h2) (x := i_shr x 5) (n := 100000) (by decide) (by decide)
  obtain ⟨v, rfl⟩ := Int.eq_ofNat_of_zero_le y1
  obtain ⟨s, e4, s1, s2⟩ := t_low (Z := Z) (h := h2) (x := x) (n := 11) (by decide) (by decide)
  obtain ⟨h5, N5, R5, c5, r, w5, hr, e5⟩ := t_chg (Z := Z) (t := (k : Int)) (l4 := (0, x)) (l8 := l8) (l9 := l9) (n := (w_nn N : Int)) (v := (v : Int)) (s := s) hL w2 (by clear wk; omega) (by clear wk; omega) ⟨y1, y2⟩ ⟨s1, s2⟩
  obtain ⟨h6, w6, e6⟩ := t_all (Z := Z) (t := (k : Int)) (l4 := (0, x)) (l5 := (0, (w_nn N : Int))) (l6 := (0, (v : Int))) (l8 := l8) (l9 := l9) hL w5 (by clear wk; omega) hr
  refine ⟨h6, N5, R5, c5, v, (0, x), (0, (w_nn N : Int)), (0, r), w6, by clear wk; omega, ?_⟩
  rw [e6] at e5
  rw [← e5]
  simp only [b_282_158, b_282_164, b_282_168, b_282_173, b_282_180, b_282_191, ↓reduceIte, Nat.reduceEqDiff, Nat.reduceMul, q_n10, q_n01, Option.bind_some, g_aft0, g_aft1, g_aft2, g_aft3, g_aft9, Nat.reduceAdd, m_kill_0, m_kill_2, m_kill_3, m_kill_4, m_kill_9, true_or, or_true, q_lm53, q_lm52, q_lm51, q_lm1, q_l0, q_l1, q_l2, q_l3, q_l4, q_l5, q_l6, q_l7, q_l8, q_l9, q_l10, q_l11, q_l12, q_l20, q_l32, q_l50, q_l64, q_l80, q_l120, q_l122, q_l126, q_l372, q_l1000, q_l1000000, wk, ck, e1, e2, e3, e4]
/-- to the answers of the centers -/
theorem t_bdB (hL : q_lay K) (w : l_S K h N R c j) (hj : j < 300000) (hv : v < 100000) : ∃ h', l_S K h' N R c (j + 2700) ∧ m_run Z (282, 484, [(4, 0), (2, ((0 : Nat) : Int)), (0, 1), (0, (k : Int)), l4, l5, (0, (v : Int)), l7, (0, (vv_A N : Int)), l9], [], h) = m_run Z (282, 566, [(4, 0), (2, ((0 : Nat) : Int)), (0, 1), (0, (k : Int)), l4, l5, (0, (v : Int)), l7, (0, (vv_A N : Int)), (0, vv_is N)], [], h') := by
  have hw := l_Sw w
  have hE := (wf_e hw).1
  have n12 := (wf_e hw).2
  obtain ⟨A1, A2, A3, A4⟩ := vv_Ab hw
  have wv : w32 (v : Int) = (v : Int) := q_w (by omega)
  have wa : w32 (w_ne N : Int) = (w_ne N : Int) := q_w (by clear wv; omega)
  have hv0 : 0 ≤ (v : Int) ∧ (v : Int) ≤ 1000000 := by clear wv wa; omega
  have m7 := w_tmb (a := (v : Int)) (b := 7) hv0.1 (by decide)
  have m11 := w_tmb (a := (v : Int)) (b := 11) hv0.1 (by decide)
  have d3 : 0 ≤ (v : Int).tdiv 3 ∧ (v : Int).tdiv 3 ≤ 1000000 := ⟨Int.tdiv_nonneg hv0.1 (by decide), (w_td (a := (v : Int)) (b := 3) (by clear wv wa; omega) hv0.2).2.2⟩
  obtain ⟨m, m1, m2⟩ := i_and_n (x := (v : Int)) (b := vv_A N) (by clear wv wa; omega)
  obtain ⟨h1, e1, w1⟩ := t_ways (Z := Z) hL w (by clear wv wa; omega)
  obtain ⟨h2, e2, w2⟩ := t_center (Z := Z) (p := (v : Int)) (q := 1 + (v : Int).tmod 7) hL w1 (by clear wv wa; omega) A1 hv0.1 hv0.2 (by clear wv wa; omega) (by clear wv wa; omega)
  obtain ⟨h3, e3, w3⟩ := t_center (Z := Z) (p := (v : Int).tdiv 3) (q := 1 + (v : Int).tmod 11) hL w2 (by clear wv wa; omega) (Nat.lt_of_le_of_lt m2 A1) d3.1 d3.2 (by clear wv wa; omega) (by clear wv wa; omega)
  obtain ⟨h4, e4, w4⟩ := L_count3 (Z := Z) hL w3 (by clear wv wa; omega)
  by_cases c1 : w_cn N
  · rw [vv_cn1 c1] at e4
    obtain ⟨h5, e5, w5⟩ := L_count1 (Z := Z) hL w4 (by clear wv wa; omega)
    rw [hE] at e5
    by_cases c2 : 0 < w_ne N
    · have c3 : ¬ (w_ne N : Int) ≤ 0 := by clear wv wa; omega
      refine ⟨h5, l_Sm w5 (by clear wv wa; omega), ?_⟩
      rw [vv_is1 (show y_cc N from ⟨c1, c2⟩)]
      simp only [b_282_484, b_282_488, b_282_491, b_282_506, b_282_509, b_282_529, b_282_532, b_282_543, b_282_547, b_282_552, b_282_555, ↓reduceIte, Nat.reduceEqDiff, Nat.reduceMul, q_n10, q_n01, Option.bind_some, g_aft0, g_aft1, g_aft2, g_aft3, g_aft9, Nat.reduceAdd, m_kill_0, m_kill_2, m_kill_3, m_kill_4, m_kill_9, true_or, or_true, q_lm53, q_lm52, q_lm51, q_lm1, q_l0, q_l1, q_l2, q_l3, q_l4, q_l5, q_l6, q_l7, q_l8, q_l9, q_l10, q_l11, q_l12, q_l20, q_l32, q_l50, q_l64, q_l80, q_l120, q_l122, q_l126, q_l372, q_l1000, q_l1000000, Int.reduceEq, not_false_eq_true, wv, wa, m1, e1, e2, e3, e4, e5, c3]
    · have c3 : (w_ne N : Int) ≤ 0 := by clear wv wa; omega
      refine ⟨h5, l_Sm w5 (by clear wv wa; omega), ?_⟩
      rw [vv_is0 (show ¬ y_cc N from fun q => c2 q.2)]
      simp only [b_282_484, b_282_488, b_282_491, b_282_506, b_282_509, b_282_529, b_282_532, b_282_543, b_282_547, b_282_552, b_282_559, b_282_560, ↓reduceIte, Nat.reduceEqDiff, Nat.reduceMul, q_n10, q_n01, Option.bind_some, g_aft0, g_aft1, g_aft2, g_aft3, g_aft9, Nat.reduceAdd, m_kill_0, m_kill_2, m_kill_3, m_kill_4, m_kill_9, true_or, or_true, q_lm53, q_lm52, q_lm51, q_lm1, q_l0, q_l1, q_l2, q_l3, q_l4, q_l5, q_l6, q_l7, q_l8, q_l9, q_l10, q_l11, q_l12, q_l20, q_l32, q_l50, q_l64, q_l80, q_l120, q_l122, q_l126, q_l372, q_l1000, q_l1000000, Int.reduceEq, not_false_eq_true, wv, wa, m1, e1, e2, e3, e4, e5, c3]
  · rw [vv_cn0 c1] at e4
    refine ⟨h4, l_Sm w4 (by clear wv wa; omega), ?_⟩
    rw [vv_is0 (show ¬ y_cc N from fun q => c1 q.1)]
    simp only [b_282_484, b_282_488, b_282_491, b_282_506, b_282_509, b_282_529, b_282_532, b_282_543, b_282_559, b_282_560, ↓reduceIte, Nat.reduceEqDiff, Nat.reduceMul, q_n10, q_n01, Option.bind_some, g_aft0, g_aft1, g_aft2, g_aft3, g_aft9, Nat.reduceAdd, m_kill_0, m_kill_2, m_kill_3, m_kill_4, m_kill_9, true_or, or_true, q_lm53, q_lm52, q_lm51, q_lm1, q_l0, q_l1, q_l2, q_l3, q_l4, q_l5, q_l6, q_l7, q_l8, q_l9, q_l10, q_l11, q_l12, q_l20, q_l32, q_l50, q_l64, q_l80, q_l120, q_l122, q_l126, q_l372, q_l1000, q_l1000000, Int.reduceEq, not_false_eq_true, wv, wa, m1, e1, e2, e3, e4]
/-- to the round's end -/
theorem t_bdD (hL : q_lay K) (w : l_S K h N R c j) (hj : j < 300000) (hk : k < 10) : ∃ h' R' c', l_S K h' N R' c' (j + 50) ∧ m_run Z (282, 636, [(4, 0), (2, ((0 : Nat) : Int)), (0, 1), (0, (k : Int)), l4, l5, l6, l7, l8, l9], [], h) = m_run Z (282, 158, [(4, 0), (2, ((0 : Nat) : Int)), (0, 1), (0, ((k + 1 : Nat) : Int)), l4, l5, l6, l7, l8, l9], [], h') := by
  have wk : w32 (k : Int) = (k : Int) := q_w (by omega)
  have m5 := (w_tm (a := (k : Int)) (b := 5) (by clear wk; omega) (by clear wk; omega)).1
  have ek : ((k + 1 : Nat) : Int) = (k : Int) + 1 := Int.natCast_succ k
  rw [ek]
  by_cases c5 : (k : Int).tmod 5 = 2
  · obtain ⟨R1, c1, h1, e1, w1⟩ := t_refused (Z := Z) hL w (by clear wk m5; omega)
    refine ⟨h1, R1, c1, w1, ?_⟩
    simp only [b_282_636, b_282_643, b_282_647, b_282_650, ↓reduceIte, Nat.reduceEqDiff, Nat.reduceMul, q_n10, q_n01, Option.bind_some, g_aft0, g_aft1, g_aft2, g_aft3, g_aft9, Nat.reduceAdd, m_kill_0, m_kill_2, m_kill_3, m_kill_4, m_kill_9, true_or, or_true, q_lm53, q_lm52, q_lm51, q_lm1, q_l0, q_l1, q_l2, q_l3, q_l4, q_l5, q_l6, q_l7, q_l8, q_l9, q_l10, q_l11, q_l12, q_l20, q_l32, q_l50, q_l64, q_l80, q_l120, q_l122, q_l126, q_l372, q_l1000, q_l1000000, Int.reduceEq, not_false_eq_true, wk, m5, c5, e1]
  · refine ⟨h, R, c, l_Sm w (by clear wk m5; omega), ?_⟩
    simp only [b_282_636, b_282_650, ↓reduceIte, Nat.reduceEqDiff, Nat.reduceMul, q_n10, q_n01, Option.bind_some, g_aft0, g_aft1, g_aft2, g_aft3, g_aft9, Nat.reduceAdd, m_kill_0, m_kill_2, m_kill_3, m_kill_4, m_kill_9, true_or, or_true, q_lm53, q_lm52, q_lm51, q_lm1, q_l0, q_l1, q_l2, q_l3, q_l4, q_l5, q_l6, q_l7, q_l8, q_l9, q_l10, q_l11, q_l12, q_l20, q_l32, q_l50, q_l64, q_l80, q_l120, q_l122, q_l126, q_l372, q_l1000, q_l1000000, Int.reduceEq, not_false_eq_true, wk, m5, c5]
theorem t_bdC (hL : q_lay K) (w : l_S K h N R c j) (hj : j < 200000) (hk : k < 10) (hv : v < 100000) : ∃ h' R' c', l_S K h' N R' c' (j + 3000) ∧ m_run Z (282, 566, [(4, 0), (2, ((0 : Nat) : Int)), (0, 1), (0, (k : Int)), l4, l5, (0, (v : Int)), l7, (0, (vv_A N : Int)), (0, vv_is N)], [], h) = m_run Z (282, 158, [(4, 0), (2, ((0 : Nat) : Int)), (0, 1), (0, ((k + 1 : Nat) : Int)), l4, l5, (0, (v : Int)), l7, (0, (vv_A N : Int)), (0, vv_is N)], [], h') := by
  have hw := l_Sw w
  have hE := (wf_e hw).1
  have n12 := (wf_e hw).2
  obtain ⟨A1, A2, A3, A4⟩ := vv_Ab hw
  by_cases hd : y_cc N
  · rw [vv_is1 hd]
    have wk : w32 (k : Int) = (k : Int) := q_w (by omega)
    have wv : w32 (v : Int) = (v : Int) := q_w (by clear wk; omega)
    have wa : w32 (w_ne N : Int) = (w_ne N : Int) := q_w (by clear wv wk; omega)
    have ca : ¬ (w_ne N : Int) = 0 := by have := hd.2; clear wv wk wa; omega
    have m4 := (w_tm (a := (k : Int)) (b := 4) (by clear wk wv wa; omega) (by clear wk wv wa; omega)).1
    have hg : v % w_ne N < w_ne N := Nat.mod_lt _ hd.2
    have tg := t_tm v (w_ne N)
    have t3 : 1 + (k : Int).tmod 3 = ((1 + k % 3 : Nat) : Int) := by rw [show (k : Int).tmod 3 = ((k % 3 : Nat) : Int) from t_tm k 3]; clear wk wv wa m4; omega
    obtain ⟨h1, e1, w1⟩ := t_groups (Z := Z) (k := 1 + k % 3) hL w (by clear wv wk wa m4; omega) hd (by clear wv wk wa m4; omega) (by clear wv wk wa m4; omega)
    obtain ⟨h2, e2, w2⟩ := L_count1 (Z := Z) hL w1 (by clear wv wk wa m4; omega)
    rw [hE] at e2
    obtain ⟨h3, e3, w3⟩ := t_corners (Z := Z) (g := v % w_ne N) hL w2 (by clear wv wk wa m4; omega) hd.1 hg
    obtain ⟨h4, e4, w4⟩ := L_changed (Z := Z) hL w3 (by clear wv wk wa m4; omega) hd
    rw [show q_pt (vv_r N (vv_all N)) 0 = cA N (vv_A N) from by rw [A4]; rfl] at e4
    obtain ⟨h5, e5, w5⟩ := L_radius0 (Z := Z) hL w4 (by clear wv wk wa m4; omega) A1 hd
    by_cases c4 : (k : Int).tmod 4 = 1
    · obtain ⟨h6, e6, w6⟩ := L_count1 (Z := Z) hL w5 (by clear wv wk wa m4; omega)
      rw [hE] at e6
      obtain ⟨R7, c7, h7, e7, w7⟩ := t_without (Z := Z) (g := v % w_ne N) hL w6 (by clear wv wk wa m4; omega) hd hg
      obtain ⟨h8, R8, c8, w8, e8⟩ := t_bdD (Z := Z) (l4 := l4) (l5 := l5) (l6 := (0, (v : Int))) (l7 := l7) (l8 := (0, (vv_A N : Int))) (l9 := (0, 1)) hL w7 (by clear wv wk wa m4; omega) hk
      refine ⟨h8, R8, c8, l_Sm w8 (by clear wv wk wa m4; omega), ?_⟩
      rw [← e8]
      simp only [b_282_566, b_282_571, b_282_580, b_282_583, b_282_591, b_282_595, b_282_598, b_282_604, b_282_611, b_282_614, b_282_621, b_282_629, b_282_633, ↓reduceIte, Nat.reduceEqDiff, Nat.reduceMul, q_n10, q_n01, Option.bind_some, g_aft0, g_aft1, g_aft2, g_aft3, g_aft9, Nat.reduceAdd, m_kill_0, m_kill_2, m_kill_3, m_kill_4, m_kill_9, true_or, or_true, q_lm53, q_lm52, q_lm51, q_lm1, q_l0, q_l1, q_l2, q_l3, q_l4, q_l5, q_l6, q_l7, q_l8, q_l9, q_l10, q_l11, q_l12, q_l20, q_l32, q_l50, q_l64, q_l80, q_l120, q_l122, q_l126, q_l372, q_l1000, q_l1000000, Int.reduceEq, not_false_eq_true, wk, wv, wa, ca, m4, c4, t3, tg, e1, e2, e3, e4, e5, e6, e7]
    · obtain ⟨h8, R8, c8, w8, e8⟩ := t_bdD (Z := Z) (l4 := l4) (l5 := l5) (l6 := (0, (v : Int))) (l7 := l7) (l8 := (0, (vv_A N : Int))) (l9 := (0, 1)) hL w5 (by clear wv wk wa m4; omega) hk
      refine ⟨h8, R8, c8, l_Sm w8 (by clear wv wk wa m4; omega), ?_⟩
      rw [← e8]
      simp only [b_282_566, b_282_571, b_282_580, b_282_583, b_282_591, b_282_595, b_282_598, b_282_604, b_282_611, b_282_614, ↓reduceIte, Nat.reduceEqDiff, Nat.reduceMul, q_n10, q_n01, Option.bind_some, g_aft0, g_aft1, g_aft2, g_aft3, g_aft9, Nat.reduceAdd, m_kill_0, m_kill_2, m_kill_3, m_kill_4, m_kill_9, true_or, or_true, q_lm53, q_lm52, q_lm51, q_lm1, q_l0, q_l1, q_l2, q_l3, q_l4, q_l5, q_l6, q_l7, q_l8, q_l9, q_l10, q_l11, q_l12, q_l20, q_l32, q_l50, q_l64, q_l80, q_l120, q_l122, q_l126, q_l372, q_l1000, q_l1000000, Int.reduceEq, not_false_eq_true, wk, wv, wa, ca, m4, c4, t3, tg, e1, e2, e3, e4, e5]
  · rw [vv_is0 hd]
    obtain ⟨h8, R8, c8, w8, e8⟩ := t_bdD (Z := Z) (l4 := l4) (l5 := l5) (l6 := (0, (v : Int))) (l7 := l7) (l8 := (0, (vv_A N : Int))) (l9 := (0, 0)) hL w (by omega) hk
    refine ⟨h8, R8, c8, l_Sm w8 (by omega), ?_⟩
    rw [← e8]
    simp only [b_282_566, ↓reduceIte, Nat.reduceEqDiff, Nat.reduceMul, q_n10, q_n01, Option.bind_some, g_aft0, g_aft1, g_aft2, g_aft3, g_aft9, Nat.reduceAdd, m_kill_0, m_kill_2, m_kill_3, m_kill_4, m_kill_9, true_or, or_true, q_lm53, q_lm52, q_lm51, q_lm1, q_l0, q_l1, q_l2, q_l3, q_l4, q_l5, q_l6, q_l7, q_l8, q_l9, q_l10, q_l11, q_l12, q_l20, q_l32, q_l50, q_l64, q_l80, q_l120, q_l122, q_l126, q_l372, q_l1000, q_l1000000]
/-- ten rounds -/
theorem t_loop (hL : q_lay K) (hZ : Z.1 ≤ 260) : ∀ (m k j : Nat) (N : Nat → Nat → Int) (R : Nat → Nat → Nat → Int) (c : Nat) (l4 l5 l6 l7 l8 l9 : mV) (h : mH), k + m = 10 → l_S K h N R c j → j + 6000 * m < 100000 → ∃ (h' : mH) (N' : Nat → Nat → Int) (R' : Nat → Nat → Nat → Int) (c' : Nat) (l4' l5' l6' l7' l8' l9' : mV), l_S K h' N' R' c' (j + 6000 * m) ∧ m_run Z (282, 158, [(4, 0), (2, ((0 : Nat) : Int)), (0, 1), (0, (k : Int)), l4, l5, l6, l7, l8, l9], [], h) = m_run Z (282, 158, [(4, 0), (2, ((0 : Nat) : Int)), (0, 1), (0, ((10 : Nat) : Int)), l4', l5', l6', l7', l8', l9'], [], h') := by
  intro m
  induction m with
  | zero =>
    intro k j N R c l4 l5 l6 l7 l8 l9 h hk w hj
    obtain rfl : k = 10 := hk
    exact ⟨h, N, R, c, l4, l5, l6, l7, l8, l9, w, rfl⟩
  | succ m ih =>
    intro k j N R c l4 l5 l6 l7 l8 l9 h hk w hj
    have hm : 6000 * (m + 1) = 6000 * m + 6000 := Nat.mul_succ 6000 m
    rw [hm] at hj ⊢
    generalize 6000 * m = q at *
    obtain ⟨b0, b1, b2, b3, b4⟩ := n_bd hj
    have b5 : k < 10 := by omega
    have b6 : k + 1 + m = 10 := by omega
    obtain ⟨h1, N1, R1, c1, v, x4, x5, x7, w1, hv, e1⟩ := t_bdA (Z := Z) (k := k) (l4 := l4) (l5 := l5) (l6 := l6) (l7 := l7) (l8 := l8) (l9 := l9) hL w b0 hZ b5
    obtain ⟨h2, w2, e2⟩ := t_bdB (Z := Z) (k := k) (l4 := x4) (l5 := x5) (l7 := x7) (l9 := l9) hL w1 b1 hv
    obtain ⟨h3, R3, c3, w3, e3⟩ := t_bdC (Z := Z) (k := k) (l4 := x4) (l5 := x5) (l7 := x7) hL w2 b2 b5 hv
    obtain ⟨h4, N4, R4, c4, y4, y5, y6, y7, y8, y9, w4, e4⟩ := ih (k + 1) _ N1 R3 c3 x4 x5 (0, (v : Int)) x7 (0, (vv_A N1 : Int)) (0, vv_is N1) h3 b6 w3 b3
    exact ⟨h4, N4, R4, c4, y4, y5, y6, y7, y8, y9, l_Sm w4 b4, e1.trans (e2.trans (e3.trans e4))⟩
end
end
