section
/-! isWithout answers true. -/
section
variable {Z : mZ} {K : Nat → mK} {N : Nat → Nat → Int} {R : Nat → Nat → Nat → Int} {c j g i : Nat} {y z : Int} {l5 l6 : mV} {h : mH}
theorem o_ds_nn {e : Nat} : w_nn (o_ds e N) = w_nn N := by
  have h1 := (ds_rms (e := e) (w_ns N) (N, 0)).1
  unfold w_nn
  rw [show o_ds e N 0 0 = (w_rms e (w_ns N) (N, 0)).1 0 0 from rfl, h1]
theorem t_without (hL : q_lay K) (w : l_S K h N R c j) (hj : j < 400000) (hd : y_cc N) (hg : g < w_ne N) : ∃ R' c', l_C K (m_cl Z 281 [(2, ((0 : Nat) : Int)), (0, (g : Int))] h) 1 N R' c' (j + 50) := by
  have hw := l_Sw w
  have n8 := (wf_n hw).2.2
  have hE := (wf_e hw).1
  have n12 := (wf_e hw).2
  have hc6 := l_Sc w
  have hwd := wf_ds hw hg
  have rg : 0 ≤ (g : Int) ∧ (g : Int) < N 0 1 := ⟨by omega, by omega⟩
  have tg : (g : Int).toNat = g := Int.toNat_natCast g
  obtain ⟨h1, e1, w1⟩ := t_print (Z := Z) hL w (by omega)
  obtain ⟨h2, e2, w2⟩ := L_without (Z := Z) (x := (g : Int)) (u := 0) hL w1 (by omega) rg (Or.inl rfl) (by rw [tg]; exact hwd)
  obtain ⟨h3, e3, w3⟩ := L_without (Z := Z) (x := (g : Int)) (u := 1) hL w2 (by omega) rg (Or.inr rfl) (by rw [tg]; exact hwd)
  obtain ⟨h4, e4, w4⟩ := L_count0 (Z := Z) hL w3 (by omega)
  rw [(wf_n hw).1] at e4
  obtain ⟨h5, e5, w5⟩ := t_print (Z := Z) hL w4 (by omega)
  obtain ⟨h6, e6, w6⟩ := L_disconnect (Z := Z) (x := (g : Int)) hL w5 (by omega) rg
  rw [tg] at e2 e3 e6 w6
  have hc5 := l_Sc w5
  obtain ⟨q1, q2⟩ := w_pRc (R := w_pR (w_pR R c N) (w_pc c - 1) N) (c := w_pc (w_pc c - 1) - 1) (N := N) hc5
  have hr := w_rms_b (e := g) (w_ns N) (N, 0)
  have hr1 : 0 ≤ (w_rms g (w_ns N) (N, 0)).2 := hr.1
  have hr2 : (w_rms g (w_ns N) (N, 0)).2 ≤ 0 + (w_ns N : Int) := hr.2
  have ns6 := (wf_s hw).2
  generalize (w_rms g (w_ns N) (N, 0)).2 = dv at *
  have wd : w32 dv = dv := q_wi (by omega) (by omega)
  have cd : ¬ dv < 0 := by clear wd; omega
  have hA : i_shl 1 (w_nn N : Int) - 1 = (vv_A N : Int) := by
    rw [q_shl n8]
    unfold vv_A
    have := (q_pow8 n8).1
    clear wd
    omega
  have nn : w_nn (o_ds g N) = w_nn N := o_ds_nn
  obtain ⟨A1, A2, A3, A4⟩ := vv_Ab hw
  rw [← nn] at A1
  by_cases hdd : y_cc (o_ds g N)
  · have v0 : vv_wo N g 0 = cA (o_ds g N) (vv_A N) := by unfold vv_wo; rw [if_pos hdd, A4]; rfl
    have v1 : vv_wo N g 1 = cB (o_ds g N) (vv_A N) := by unfold vv_wo; rw [if_pos hdd, A4]; rfl
    rw [v0] at e2
    rw [v1] at e3
    obtain ⟨-, ⟨b1, b2⟩, ⟨b3, b4⟩, -⟩ := c_bd (S := vv_A N) hwd hdd
    obtain ⟨h7, e7, w7⟩ := L_radius0 (Z := Z) hL w6 (by clear wd b1 b3; omega) A1 hdd
    obtain ⟨h8, e8, w8⟩ := L_radius1 (Z := Z) hL w7 (by clear wd b1 b3; omega) A1 hdd
    obtain ⟨h9, e9, w9⟩ := L_undo (Z := Z) hL w8 (by clear wd b1 b3; omega) q2
    rw [q1] at w9
    obtain ⟨h10, e10, w10⟩ := t_print (Z := Z) hL w9 (by clear wd b1 b3; omega)
    have c9 := l_Sc w9
    have wu : w32 ((w_pc (w_pc (w_pc c - 1) - 1) - 1 : Nat) : Int) = ((w_pc (w_pc (w_pc c - 1) - 1) - 1 : Nat) : Int) := q_w (by clear wd b1 b3; omega)
    have cu : ¬ ((w_pc (w_pc (w_pc c - 1) - 1) - 1 : Nat) : Int) < 0 := by clear wd b1 b3 wu; omega
    have ca : ¬ cA (o_ds g N) (vv_A N) = -1 := by clear wd b1 b3 wu; omega
    refine ⟨_, _, h10, ?_, l_Sm w10 (by clear wd b1 b3 wu; omega)⟩
    simp only [e_281, b_281_0, b_281_4, b_281_11, b_281_19, b_281_27, b_281_36, b_281_41, b_281_46, b_281_49, b_281_53, b_281_54, b_281_61, b_281_67, b_281_73, b_281_80, b_281_85, b_281_88, b_281_95, b_281_100, b_281_107, b_281_112, b_281_116, b_281_117, b_281_124, b_281_128, b_281_131, b_281_135, b_281_140, b_281_144, b_281_145, ↓reduceIte, Nat.reduceEqDiff, Nat.reduceMul, q_n10, q_n01, Option.bind_some, g_aft0, g_aft1, g_aft2, g_aft3, g_aft9, Nat.reduceAdd, m_kill_0, m_kill_2, m_kill_3, m_kill_4, m_kill_9, true_or, or_true, q_lm53, q_lm52, q_lm51, q_lm1, q_l0, q_l1, q_l2, q_l3, q_l4, q_l5, q_l6, q_l7, q_l8, q_l9, q_l10, q_l11, q_l12, q_l20, q_l32, q_l50, q_l64, q_l80, q_l120, q_l122, q_l126, q_l372, q_l1000, q_l1000000, e1, e2, e3, e4, hA, e5, l_cmp_r, e6, wd, cd, b1, ca, e7, e8, e9, wu, cu, e10]
  · have v0 : vv_wo N g 0 = -1 := by unfold vv_wo; rw [if_neg hdd]
    have v1 : vv_wo N g 1 = -1 := by unfold vv_wo; rw [if_neg hdd]
    rw [v0] at e2
    rw [v1] at e3
    obtain ⟨h7, e7, w7⟩ := L_radiusN (Z := Z) (x := (vv_A N : Int)) (u := 0) hL w6 (by clear wd; omega) ⟨Int.natCast_nonneg _, Int.ofNat_lt.mpr A1⟩ (Or.inl rfl) hdd
    obtain ⟨h9, e9, w9⟩ := L_undo (Z := Z) hL w7 (by clear wd; omega) q2
    rw [q1] at w9
    obtain ⟨h10, e10, w10⟩ := t_print (Z := Z) hL w9 (by clear wd; omega)
    have c9 := l_Sc w9
    have wu : w32 ((w_pc (w_pc (w_pc c - 1) - 1) - 1 : Nat) : Int) = ((w_pc (w_pc (w_pc c - 1) - 1) - 1 : Nat) : Int) := q_w (by clear wd; omega)
    have cu : ¬ ((w_pc (w_pc (w_pc c - 1) - 1) - 1 : Nat) : Int) < 0 := by clear wd wu; omega
    refine ⟨_, _, h10, ?_, l_Sm w10 (by clear wd wu; omega)⟩
    simp only [e_281, b_281_0, b_281_4, b_281_11, b_281_19, b_281_27, b_281_36, b_281_41, b_281_46, b_281_49, b_281_53, b_281_54, b_281_61, b_281_67, b_281_73, b_281_80, b_281_85, b_281_88, b_281_95, b_281_100, b_281_107, b_281_112, b_281_116, b_281_117, b_281_124, b_281_128, b_281_131, b_281_135, b_281_140, b_281_144, b_281_145, ↓reduceIte, Nat.reduceEqDiff, Nat.reduceMul, q_n10, q_n01, Option.bind_some, g_aft0, g_aft1, g_aft2, g_aft3, g_aft9, Nat.reduceAdd, m_kill_0, m_kill_2, m_kill_3, m_kill_4, m_kill_9, true_or, or_true, q_lm53, q_lm52, q_lm51, q_lm1, q_l0, q_l1, q_l2, q_l3, q_l4, q_l5, q_l6, q_l7, q_l8, q_l9, q_l10, q_l11, q_l12, q_l20, q_l32, q_l50, q_l64, q_l80, q_l120, q_l122, q_l126, q_l372, q_l1000, q_l1000000, e1, e2, e3, e4, hA, e5, l_cmp_r, e6, wd, cd, e7, e9, wu, cu, e10]
end
end
