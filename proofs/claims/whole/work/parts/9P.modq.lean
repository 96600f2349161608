section
/-! The model's calls: radiusOf, group. -/
section
variable {Z : mZ} {K : Nat → mK} {σ τ N M : Nat → Nat → Int} {e g i L n c k s a : Nat} {t p q v x y z w u S : Int} {X : Nat → Int} {h : mH} {R : Nat → Nat → Nat → Int} {T : Nat → Int} {f1 f2 : Nat → Rat} {f3 b : Rat}
theorem z_bd_ge {a c i : Nat} (hi : z_eo σ a c i) (hb : z_bd σ b) : (0 < w32 (l_cmp (σ a i * σ 191 22) (σ 191 21 * σ c i))) = ¬ (z_gr σ a c i ≤ b) := by
  obtain ⟨⟨b1, b2⟩, ⟨b3, b4⟩, b5⟩ := hb
  obtain ⟨⟨h1, h2⟩, h3, h4⟩ := hi
  have m1 := q_mb h3 h4 (show 0 ≤ σ 191 22 by omega) b2
  have m2 := q_mb b3 b4 (show 0 ≤ σ c i by omega) h2
  have w1 : w64 (σ a i * σ 191 22) = σ a i * σ 191 22 := q_w64 (by omega) (by omega)
  have w2 : w64 (σ 191 21 * σ c i) = σ 191 21 * σ c i := by clear w1; exact q_w64 (by omega) (by omega)
  rw [l_cg w1 w2, ← b5]
  unfold z_gr
  have : (fr (σ 191 21) (σ 191 22) < fr (σ a i) (σ c i)) = (σ 191 21 * σ c i < σ a i * σ 191 22) := fr_lt (by clear w1 w2; omega) (by clear w1 w2; omega)
  rw [← this, Rat.not_le]
theorem z_enough {S : Nat} {kk : Int} (hL : q_lay K) (hw : q_wf N) (hF : z_gF σ N f1 f2) (hb : z_bd σ b) (hS : S < 2 ^ w_nn N) (hk : kk = 1 ∨ kk = 2) : m_cl Z 230 [(2, ((191 : Nat) : Int)), (0, (S : Int)), (0, kk)] (K, σ, 206, e, s) = some (.inl (0, if (if kk = 1 then f1 S else f2 S) ≤ b then 1 else 0), (K, σ, 206, e, s)) := by
  have p8 := q_pow8 (wf_n hw).2.2
  obtain ⟨⟨o1, g1⟩, o2, g2⟩ := hF S hS
  have wS : w32 (S : Int) = (S : Int) := q_w (by omega)
  have p0 : 0 ≤ (S : Int) := by clear wS; omega
  have p1 : (S : Int) < ((256 : Nat) : Int) := by clear wS; omega
  have tn : ((S : Int)).toNat = S := rfl
  have e1 : w32 1 = 1 := by decide
  have e2 : w32 2 = 2 := by decide
  have n21 : ¬ (2 : Int) = 1 := by decide
  have h1 := z_bd_ge o1 hb
  have h2 := z_bd_ge o2 hb
  rw [g1] at h1
  rw [g2] at h2
  rcases hk with rfl | rfl
  · rw [if_pos rfl]
    by_cases c : f1 S ≤ b
    · rw [if_pos c]
      simp only [e_230, b_230_0, b_230_5, b_230_31, b_230_35, b_230_39, b_230_65, b_230_69, b_230_70, ↓reduceIte, Nat.reduceEqDiff, Nat.reduceMul, q_n10, q_n01, Option.bind_some, g_aft0, g_aft1, g_aft2, g_aft3, g_aft9, Nat.reduceAdd, m_kill_0, m_kill_2, m_kill_3, m_kill_4, m_kill_9, true_or, or_true, q_lm1, q_l0, q_l1, q_l2, q_l3, q_l4, q_l5, q_l6, q_l8, q_l9, q_l10, q_l12, q_l17, q_l32, q_l35, q_l48, q_l50, q_l54, q_l57, q_l64, q_l73, q_l118, q_l119, q_l120, q_l122, q_l126, q_l160, q_l256, q_l365, q_l372, q_l438, q_l1000, q_l100000, q_l1000000, q_modF hL.2.2.2.2.2.2.1, e1, wS, p0, p1, tn, h1.trans (eq_false (fun q => q c))]
    · rw [if_neg c]
      simp only [e_230, b_230_0, b_230_5, b_230_31, b_230_35, b_230_39, b_230_65, b_230_69, b_230_70, ↓reduceIte, Nat.reduceEqDiff, Nat.reduceMul, q_n10, q_n01, Option.bind_some, g_aft0, g_aft1, g_aft2, g_aft3, g_aft9, Nat.reduceAdd, m_kill_0, m_kill_2, m_kill_3, m_kill_4, m_kill_9, true_or, or_true, q_lm1, q_l0, q_l1, q_l2, q_l3, q_l4, q_l5, q_l6, q_l8, q_l9, q_l10, q_l12, q_l17, q_l32, q_l35, q_l48, q_l50, q_l54, q_l57, q_l64, q_l73, q_l118, q_l119, q_l120, q_l122, q_l126, q_l160, q_l256, q_l365, q_l372, q_l438, q_l1000, q_l100000, q_l1000000, q_modF hL.2.2.2.2.2.2.1, e1, wS, p0, p1, tn, h1.trans (eq_true c)]
  · rw [if_neg n21]
    by_cases c : f2 S ≤ b
    · rw [if_pos c]
      simp only [e_230, b_230_0, b_230_5, b_230_31, b_230_35, b_230_39, b_230_65, b_230_69, b_230_70, ↓reduceIte, Nat.reduceEqDiff, Nat.reduceMul, q_n10, q_n01, Option.bind_some, g_aft0, g_aft1, g_aft2, g_aft3, g_aft9, Nat.reduceAdd, m_kill_0, m_kill_2, m_kill_3, m_kill_4, m_kill_9, true_or, or_true, q_lm1, q_l0, q_l1, q_l2, q_l3, q_l4, q_l5, q_l6, q_l8, q_l9, q_l10, q_l12, q_l17, q_l32, q_l35, q_l48, q_l50, q_l54, q_l57, q_l64, q_l73, q_l118, q_l119, q_l120, q_l122, q_l126, q_l160, q_l256, q_l365, q_l372, q_l438, q_l1000, q_l100000, q_l1000000, q_modF hL.2.2.2.2.2.2.1, e1, e2, n21, wS, p0, p1, tn, h2.trans (eq_false (fun q => q c)), true_or, or_true]
    · rw [if_neg c]
      simp only [e_230, b_230_0, b_230_5, b_230_31, b_230_35, b_230_39, b_230_65, b_230_69, b_230_70, ↓reduceIte, Nat.reduceEqDiff, Nat.reduceMul, q_n10, q_n01, Option.bind_some, g_aft0, g_aft1, g_aft2, g_aft3, g_aft9, Nat.reduceAdd, m_kill_0, m_kill_2, m_kill_3, m_kill_4, m_kill_9, true_or, or_true, q_lm1, q_l0, q_l1, q_l2, q_l3, q_l4, q_l5, q_l6, q_l8, q_l9, q_l10, q_l12, q_l17, q_l32, q_l35, q_l48, q_l50, q_l54, q_l57, q_l64, q_l73, q_l118, q_l119, q_l120, q_l122, q_l126, q_l160, q_l256, q_l365, q_l372, q_l438, q_l1000, q_l100000, q_l1000000, q_modF hL.2.2.2.2.2.2.1, e1, e2, n21, wS, p0, p1, tn, h2.trans (eq_true c), true_or, or_true]
/-- the greatest part that will do -/
def z_gi (C : Nat → Prop) (m : Nat) (r : Int) : Prop := (r = 0 ∧ ∀ a, 1 ≤ a → a < m → ¬ C a) ∨ ∃ j, 1 ≤ j ∧ j < m ∧ r = ((j : Nat) : Int) ∧ C j ∧ ∀ a, j < a → a < m → ¬ C a
theorem z_gi_n {C : Nat → Prop} {m : Nat} {r : Int} (h : z_gi C m r) (hn : ¬ C m) : z_gi C (m + 1) r := by
  rcases h with ⟨h1, h2⟩ | ⟨j, j1, j2, j3, j4, j5⟩
  · refine Or.inl ⟨h1, fun a a1 a2 => ?_⟩
    rcases Nat.lt_succ_iff_lt_or_eq.mp a2 with q | q
    · exact h2 a a1 q
    · rw [q]; exact hn
  · refine Or.inr ⟨j, j1, by omega, j3, j4, fun a a1 a2 => ?_⟩
    rcases Nat.lt_succ_iff_lt_or_eq.mp a2 with q | q
    · exact j5 a a1 q
    · rw [q]; exact hn
theorem z_gi_y {C : Nat → Prop} {m : Nat} {r : Int} (h : z_gi C m r) (hn : C m) : z_gi C (m + 1) (m : Int) := by
  by_cases c : m = 0
  · subst c
    refine Or.inl ⟨rfl, fun a a1 a2 => by omega⟩
  · exact Or.inr ⟨m, by omega, by omega, rfl, hn, fun a a1 a2 => by omega⟩
theorem z_gi_gg {C : Nat → Prop} {S : Nat} {r : Int} (h : z_gi C (S + 1) r) : ∃ j : Nat, r = (j : Int) ∧ w_gg C S j := by
  rcases h with ⟨h1, h2⟩ | ⟨j, j1, j2, j3, j4, j5⟩
  · exact ⟨0, h1, Or.inl ⟨rfl, fun a a1 a2 => h2 a a1 (by omega)⟩⟩
  · exact ⟨j, j3, Or.inr ⟨j1, by omega, j4, fun a a1 a2 => j5 a a1 (by omega)⟩⟩
theorem z_gsel {l5 l6 : mV} {kx ix gx kk : Int} {left : Nat} (hL : q_lay K) (hw : q_wf N) (hF : z_gF σ N f1 f2) (hb : z_bd σ b) (hl : left < 2 ^ w_nn N) (hk : kk = 1 ∨ kk = 2) (hkx : kx - 1 - gx = kk) : ∃ j : Nat, m_run Z (231, 20, [(2, ((191 : Nat) : Int)), (0, kx), (0, ix), (0, (left : Int)), (0, gx), l5, l6], [], (K, σ, 206, e, s)) = m_run Z (231, 85, [(2, ((191 : Nat) : Int)), (0, kx), (0, ix), (0, (left : Int)), (0, gx), (0, (j : Int)), (0, ((left + 1 : Nat) : Int))], [], (K, σ, 206, e, s)) ∧ w_gg (w_cd f1 (if kk = 1 then f1 else f2) b left) left j := by
  have p8 := q_pow8 (wf_n hw).2.2
  have wl : w32 (left : Int) = (left : Int) := q_w (by omega)
  have n10 : ¬ (1 : Int) = 0 := by decide
  obtain ⟨y, y1, y2⟩ := q_loop (Z := Z) (N := left + 1) (α := Int) (S := fun a r => (231, 26, [(2, ((191 : Nat) : Int)), (0, kx), (0, ix), (0, (left : Int)), (0, gx), (0, r), (0, (a : Int))], [], (K, σ, 206, e, s))) (P := fun a r => z_gi (w_cd f1 (if kk = 1 then f1 else f2) b left) a r) (by
    intro a r ha hr
    have wa : w32 (a : Int) = (a : Int) := q_w (by clear wl; omega)
    have c0 : ¬ (left : Int) < (a : Int) := by clear wl wa; omega
    have es : ((a + 1 : Nat) : Int) = (a : Int) + 1 := rfl
    have hm := w_sub_m (a := a) (S := left) (by clear wl wa; omega) (by clear wl wa; omega)
    by_cases hsub : w_sub a left = true
    · obtain ⟨rl, -, er⟩ := w_sub_le (a := a) (S := left) (by clear wl wa hm; omega) (by clear wl wa hm; omega) hsub
      have hm0 : i_and (a : Int) (i_xor (left : Int) (-1)) = 0 := by rw [hm]; exact hsub
      have w0 : w32 0 = 0 := by decide
      have hE1 := z_enough (Z := Z) (e := e) (s := s) (S := a) (kk := 1) hL hw hF hb (by clear wl wa hm hm0 er w0; omega) (Or.inl rfl)
      rw [if_pos rfl] at hE1
      have hE2 := z_enough (Z := Z) (e := e) (s := s) (S := left - a) (kk := kk) hL hw hF hb (by clear wl wa hm hm0 er w0; omega) hk
      rw [← er, ← hkx] at hE2
      have efk : (if kx - 1 - gx = 1 then f1 (left - a) else f2 (left - a)) = (if kk = 1 then f1 else f2) (left - a) := by
        rw [hkx]
        split <;> rfl
      rw [efk] at hE2
      by_cases d1 : f1 a ≤ b
      · rw [if_pos d1] at hE1
        by_cases d2 : (if kk = 1 then f1 else f2) (left - a) ≤ b
        · rw [if_pos d2] at hE2
          refine ⟨(a : Int), ?_, z_gi_y hr ⟨hsub, d1, d2⟩⟩
          rw [es]
          conv => lhs; simp only [b_231_26, ↓reduceIte, Nat.reduceEqDiff, Nat.reduceMul, q_n10, q_n01, Option.bind_some, g_aft0, g_aft1, g_aft2, g_aft3, g_aft9, Nat.reduceAdd, m_kill_0, m_kill_2, m_kill_3, m_kill_4, m_kill_9, true_or, or_true, q_lm1, q_l0, q_l1, q_l2, q_l3, q_l4, q_l5, q_l6, q_l8, q_l9, q_l10, q_l12, q_l17, q_l32, q_l35, q_l48, q_l50, q_l54, q_l57, q_l64, q_l73, q_l118, q_l119, q_l120, q_l122, q_l126, q_l160, q_l256, q_l365, q_l372, q_l438, q_l1000, q_l100000, q_l1000000, wl, wa, c0]
          simp only [b_231_32, b_231_41, b_231_48, b_231_51, b_231_67, b_231_70, ↓reduceIte, Nat.reduceEqDiff, Nat.reduceMul, q_n10, q_n01, Option.bind_some, g_aft0, g_aft1, g_aft2, g_aft3, g_aft9, Nat.reduceAdd, m_kill_0, m_kill_2, m_kill_3, m_kill_4, m_kill_9, true_or, or_true, q_lm1, q_l0, q_l1, q_l2, q_l3, q_l4, q_l5, q_l6, q_l8, q_l9, q_l10, q_l12, q_l17, q_l32, q_l35, q_l48, q_l50, q_l54, q_l57, q_l64, q_l73, q_l118, q_l119, q_l120, q_l122, q_l126, q_l160, q_l256, q_l365, q_l372, q_l438, q_l1000, q_l100000, q_l1000000, q_modF hL.2.2.2.2.2.2.1, hm0, hE1, hE2, n10]
        · rw [if_neg d2] at hE2
          refine ⟨r, ?_, z_gi_n hr (fun q => d2 q.2.2)⟩
          rw [es]
          conv => lhs; simp only [b_231_26, ↓reduceIte, Nat.reduceEqDiff, Nat.reduceMul, q_n10, q_n01, Option.bind_some, g_aft0, g_aft1, g_aft2, g_aft3, g_aft9, Nat.reduceAdd, m_kill_0, m_kill_2, m_kill_3, m_kill_4, m_kill_9, true_or, or_true, q_lm1, q_l0, q_l1, q_l2, q_l3, q_l4, q_l5, q_l6, q_l8, q_l9, q_l10, q_l12, q_l17, q_l32, q_l35, q_l48, q_l50, q_l54, q_l57, q_l64, q_l73, q_l118, q_l119, q_l120, q_l122, q_l126, q_l160, q_l256, q_l365, q_l372, q_l438, q_l1000, q_l100000, q_l1000000, wl, wa, c0]
          simp only [b_231_32, b_231_41, b_231_48, b_231_51, b_231_67, b_231_75, b_231_77, ↓reduceIte, Nat.reduceEqDiff, Nat.reduceMul, q_n10, q_n01, Option.bind_some, g_aft0, g_aft1, g_aft2, g_aft3, g_aft9, Nat.reduceAdd, m_kill_0, m_kill_2, m_kill_3, m_kill_4, m_kill_9, true_or, or_true, q_lm1, q_l0, q_l1, q_l2, q_l3, q_l4, q_l5, q_l6, q_l8, q_l9, q_l10, q_l12, q_l17, q_l32, q_l35, q_l48, q_l50, q_l54, q_l57, q_l64, q_l73, q_l118, q_l119, q_l120, q_l122, q_l126, q_l160, q_l256, q_l365, q_l372, q_l438, q_l1000, q_l100000, q_l1000000, q_modF hL.2.2.2.2.2.2.1, hm0, hE1, hE2, n10]
      · rw [if_neg d1] at hE1
        refine ⟨r, ?_, z_gi_n hr (fun q => d1 q.2.1)⟩
        rw [es]
        conv => lhs; simp only [b_231_26, ↓reduceIte, Nat.reduceEqDiff, Nat.reduceMul, q_n10, q_n01, Option.bind_some, g_aft0, g_aft1, g_aft2, g_aft3, g_aft9, Nat.reduceAdd, m_kill_0, m_kill_2, m_kill_3, m_kill_4, m_kill_9, true_or, or_true, q_lm1, q_l0, q_l1, q_l2, q_l3, q_l4, q_l5, q_l6, q_l8, q_l9, q_l10, q_l12, q_l17, q_l32, q_l35, q_l48, q_l50, q_l54, q_l57, q_l64, q_l73, q_l118, q_l119, q_l120, q_l122, q_l126, q_l160, q_l256, q_l365, q_l372, q_l438, q_l1000, q_l100000, q_l1000000, wl, wa, c0]
        simp only [b_231_32, b_231_41, b_231_48, b_231_75, b_231_77, ↓reduceIte, Nat.reduceEqDiff, Nat.reduceMul, q_n10, q_n01, Option.bind_some, g_aft0, g_aft1, g_aft2, g_aft3, g_aft9, Nat.reduceAdd, m_kill_0, m_kill_2, m_kill_3, m_kill_4, m_kill_9, true_or, or_true, q_lm1, q_l0, q_l1, q_l2, q_l3, q_l4, q_l5, q_l6, q_l8, q_l9, q_l10, q_l12, q_l17, q_l32, q_l35, q_l48, q_l50, q_l54, q_l57, q_l64, q_l73, q_l118, q_l119, q_l120, q_l122, q_l126, q_l160, q_l256, q_l365, q_l372, q_l438, q_l1000, q_l100000, q_l1000000, q_modF hL.2.2.2.2.2.2.1, hm0, hE1]
    · have hmn : ¬ i_and (a : Int) (i_xor (left : Int) (-1)) = 0 := by rw [hm]; exact hsub
      have wmn : w32 (i_and (a : Int) (i_xor (left : Int) (-1))) = i_and (a : Int) (i_xor (left : Int) (-1)) := i_and_w
      refine ⟨r, ?_, z_gi_n hr (fun q => hsub q.1)⟩
      rw [es]
      conv => lhs; simp only [b_231_26, ↓reduceIte, Nat.reduceEqDiff, Nat.reduceMul, q_n10, q_n01, Option.bind_some, g_aft0, g_aft1, g_aft2, g_aft3, g_aft9, Nat.reduceAdd, m_kill_0, m_kill_2, m_kill_3, m_kill_4, m_kill_9, true_or, or_true, q_lm1, q_l0, q_l1, q_l2, q_l3, q_l4, q_l5, q_l6, q_l8, q_l9, q_l10, q_l12, q_l17, q_l32, q_l35, q_l48, q_l50, q_l54, q_l57, q_l64, q_l73, q_l118, q_l119, q_l120, q_l122, q_l126, q_l160, q_l256, q_l365, q_l372, q_l438, q_l1000, q_l100000, q_l1000000, wl, wa, c0]
      simp only [b_231_32, b_231_75, b_231_77, ↓reduceIte, Nat.reduceEqDiff, Nat.reduceMul, q_n10, q_n01, Option.bind_some, g_aft0, g_aft1, g_aft2, g_aft3, g_aft9, Nat.reduceAdd, m_kill_0, m_kill_2, m_kill_3, m_kill_4, m_kill_9, true_or, or_true, q_lm1, q_l0, q_l1, q_l2, q_l3, q_l4, q_l5, q_l6, q_l8, q_l9, q_l10, q_l12, q_l17, q_l32, q_l35, q_l48, q_l50, q_l54, q_l57, q_l64, q_l73, q_l118, q_l119, q_l120, q_l122, q_l126, q_l160, q_l256, q_l365, q_l372, q_l438, q_l1000, q_l100000, q_l1000000, wmn, hmn]) (left + 1) 0 0 (by clear wl; omega) (Or.inl ⟨rfl, fun a a1 a2 => by omega⟩)
  obtain ⟨j, rfl, j2⟩ := z_gi_gg y2
  refine ⟨j, ?_, j2⟩
  rw [b_231_20]
  refine Eq.trans y1 ?_
  have wl1 : w32 ((left + 1 : Nat) : Int) = ((left + 1 : Nat) : Int) := q_w (by clear wl; omega)
  have c1 : (left : Int) < ((left + 1 : Nat) : Int) := by clear wl wl1; omega
  conv => lhs; simp only [b_231_26, ↓reduceIte, Nat.reduceEqDiff, Nat.reduceMul, q_n10, q_n01, Option.bind_some, g_aft0, g_aft1, g_aft2, g_aft3, g_aft9, Nat.reduceAdd, m_kill_0, m_kill_2, m_kill_3, m_kill_4, m_kill_9, true_or, or_true, q_lm1, q_l0, q_l1, q_l2, q_l3, q_l4, q_l5, q_l6, q_l8, q_l9, q_l10, q_l12, q_l17, q_l32, q_l35, q_l48, q_l50, q_l54, q_l57, q_l64, q_l73, q_l118, q_l119, q_l120, q_l122, q_l126, q_l160, q_l256, q_l365, q_l372, q_l438, q_l1000, q_l100000, q_l1000000, wl, wl1, c1]
theorem z_groupT {i : Nat} (hL : q_lay K) (hn : z_n σ N) (hF : z_gF σ N f1 f2) (hb : z_bd σ b) (hk : 1 ≤ k) (hk3 : k ≤ 3) (hi : i < k) : ∃ r : Nat, m_cl Z 231 [(2, ((191 : Nat) : Int)), (0, (k : Int)), (0, (i : Int))] (K, σ, 206, e, s) = some (.inl (0, (r : Int)), (K, σ, 206, e, s)) ∧ w_chs f1 f2 b (2 ^ w_nn N - 1) k i r := by
  have hw := hn.1
  have n0 := wf_n hw
  have p8 := q_pow8 n0.2.2
  have hall := w_all1 n0.2.2
  have hmn := z_many (Z := Z) (e := e) (s := s) hL hn
  rw [n0.1] at hmn
  obtain ⟨A, hA⟩ : ∃ A, A = 2 ^ w_nn N - 1 := ⟨_, rfl⟩
  rw [← hA] at hall ⊢
  have cut : ∀ {S j : Nat}, S < 256 → (∃ C, w_gg C S j) → (∀ C, w_gg C S j → 1 ≤ j → w_sub j S = true) → True := fun _ _ _ => trivial
  have sub : ∀ (S j : Nat) (fk : Nat → Rat), S < 256 → w_gg (w_cd f1 fk b S) S j → j ≤ S ∧ i_and (S : Int) (i_xor (j : Int) (-1)) = ((S - j : Nat) : Int) := by
    intro S j fk hS hg
    have hle := w_gg_le hg
    have hs : w_sub j S = true := by
      rcases hg with ⟨h1, -⟩ | ⟨-, -, h3, -⟩
      · rw [h1]; exact w_sub_0
      · exact h3.1
    exact ⟨hle, (w_sub_le hS (by clear hall; omega) hs).2.2⟩
  have e0 : w32 0 = 0 := by decide
  have e1 : w32 1 = 1 := by decide
  have e2 : w32 2 = 2 := by decide
  have d10 : w32 ((1 : Int) - 1) = 0 := by decide
  have d21 : w32 ((2 : Int) - 1) = 1 := by decide
  have d31 : w32 ((3 : Int) - 1) = 2 := by decide
  have l00 : (0 : Int) ≤ 0 := by decide
  have l10 : ¬ (1 : Int) ≤ 0 := by decide
  have l20 : ¬ (2 : Int) ≤ 0 := by decide
  have l21 : ¬ (2 : Int) ≤ 1 := by decide
  have l11 : (1 : Int) ≤ 1 := by decide
  have l22 : (2 : Int) ≤ 2 := by decide
  have a01 : (0 : Int) + 1 = 1 := by decide
  have a11 : (1 : Int) + 1 = 2 := by decide
  have wi : w32 (i : Int) = (i : Int) := q_w (by clear hall; omega)
  have k1 : ((1 : Nat) : Int) = 1 := rfl
  have k2 : ((2 : Nat) : Int) = 2 := rfl
  have k3 : ((3 : Nat) : Int) = 3 := rfl
  rcases (show k = 1 ∨ k = 2 ∨ k = 3 by clear hall wi; omega) with rfl | rfl | rfl
  · refine ⟨A, ?_, Or.inl ⟨rfl, rfl⟩⟩
    rw [k1]
    simp only [e_231, b_231_0, b_231_5, ↓reduceIte, Nat.reduceEqDiff, Nat.reduceMul, q_n10, q_n01, Option.bind_some, g_aft0, g_aft1, g_aft2, g_aft3, g_aft9, Nat.reduceAdd, m_kill_0, m_kill_2, m_kill_3, m_kill_4, m_kill_9, true_or, or_true, q_lm1, q_l0, q_l1, q_l2, q_l3, q_l4, q_l5, q_l6, q_l8, q_l9, q_l10, q_l12, q_l17, q_l32, q_l35, q_l48, q_l50, q_l54, q_l57, q_l64, q_l73, q_l118, q_l119, q_l120, q_l122, q_l126, q_l160, q_l256, q_l365, q_l372, q_l438, q_l1000, q_l100000, q_l1000000, q_modF hL.2.2.2.2.2.2.1, hmn, hall]
    conv => lhs; simp only [b_231_12, ↓reduceIte, Nat.reduceEqDiff, Nat.reduceMul, q_n10, q_n01, Option.bind_some, g_aft0, g_aft1, g_aft2, g_aft3, g_aft9, Nat.reduceAdd, m_kill_0, m_kill_2, m_kill_3, m_kill_4, m_kill_9, true_or, or_true, q_lm1, q_l0, q_l1, q_l2, q_l3, q_l4, q_l5, q_l6, q_l8, q_l9, q_l10, q_l12, q_l17, q_l32, q_l35, q_l48, q_l50, q_l54, q_l57, q_l64, q_l73, q_l118, q_l119, q_l120, q_l122, q_l126, q_l160, q_l256, q_l365, q_l372, q_l438, q_l1000, q_l100000, q_l1000000, e0, d10, l00]
    rw [b_231_107]
  · obtain ⟨j, j1, j2⟩ := z_gsel (Z := Z) (e := e) (s := s) (kx := 2) (ix := (i : Int)) (gx := 0) (kk := 1) (left := A) (l5 := (9, 0)) (l6 := (9, 0)) hL hw hF hb (by clear hall wi; omega) (Or.inl rfl) (by decide)
    rw [if_pos rfl] at j2
    obtain ⟨s1, s2⟩ := sub A j f1 (by clear hall wi; omega) j2
    have start : m_cl Z 231 [(2, ((191 : Nat) : Int)), (0, ((2 : Nat) : Int)), (0, (i : Int))] (K, σ, 206, e, s) = m_run Z (231, 85, [(2, ((191 : Nat) : Int)), (0, 2), (0, (i : Int)), (0, (A : Int)), (0, 0), (0, (j : Int)), (0, ((A + 1 : Nat) : Int))], [], (K, σ, 206, e, s)) := by
      rw [k2]
      simp only [e_231, b_231_0, b_231_5, ↓reduceIte, Nat.reduceEqDiff, Nat.reduceMul, q_n10, q_n01, Option.bind_some, g_aft0, g_aft1, g_aft2, g_aft3, g_aft9, Nat.reduceAdd, m_kill_0, m_kill_2, m_kill_3, m_kill_4, m_kill_9, true_or, or_true, q_lm1, q_l0, q_l1, q_l2, q_l3, q_l4, q_l5, q_l6, q_l8, q_l9, q_l10, q_l12, q_l17, q_l32, q_l35, q_l48, q_l50, q_l54, q_l57, q_l64, q_l73, q_l118, q_l119, q_l120, q_l122, q_l126, q_l160, q_l256, q_l365, q_l372, q_l438, q_l1000, q_l100000, q_l1000000, q_modF hL.2.2.2.2.2.2.1, hmn, hall]
      conv => lhs; simp only [b_231_12, ↓reduceIte, Nat.reduceEqDiff, Nat.reduceMul, q_n10, q_n01, Option.bind_some, g_aft0, g_aft1, g_aft2, g_aft3, g_aft9, Nat.reduceAdd, m_kill_0, m_kill_2, m_kill_3, m_kill_4, m_kill_9, true_or, or_true, q_lm1, q_l0, q_l1, q_l2, q_l3, q_l4, q_l5, q_l6, q_l8, q_l9, q_l10, q_l12, q_l17, q_l32, q_l35, q_l48, q_l50, q_l54, q_l57, q_l64, q_l73, q_l118, q_l119, q_l120, q_l122, q_l126, q_l160, q_l256, q_l365, q_l372, q_l438, q_l1000, q_l100000, q_l1000000, e0, d21, l10]
      exact j1
    rw [start]
    by_cases c : i = 0
    · subst c
      refine ⟨j, ?_, Or.inr (Or.inl ⟨rfl, j, j2, by rw [if_pos rfl]⟩)⟩
      simp only [b_231_85, b_231_91, ↓reduceIte, Nat.reduceEqDiff, Nat.reduceMul, q_n10, q_n01, Option.bind_some, g_aft0, g_aft1, g_aft2, g_aft3, g_aft9, Nat.reduceAdd, m_kill_0, m_kill_2, m_kill_3, m_kill_4, m_kill_9, true_or, or_true, q_lm1, q_l0, q_l1, q_l2, q_l3, q_l4, q_l5, q_l6, q_l8, q_l9, q_l10, q_l12, q_l17, q_l32, q_l35, q_l48, q_l50, q_l54, q_l57, q_l64, q_l73, q_l118, q_l119, q_l120, q_l122, q_l126, q_l160, q_l256, q_l365, q_l372, q_l438, q_l1000, q_l100000, q_l1000000, e0]
      rfl
    · have ci : ¬ 0 = (i : Int) := by clear hall wi s2; omega
      refine ⟨A - j, ?_, Or.inr (Or.inl ⟨rfl, j, j2, by rw [if_neg c]⟩)⟩
      simp only [b_231_85, b_231_94, ↓reduceIte, Nat.reduceEqDiff, Nat.reduceMul, q_n10, q_n01, Option.bind_some, g_aft0, g_aft1, g_aft2, g_aft3, g_aft9, Nat.reduceAdd, m_kill_0, m_kill_2, m_kill_3, m_kill_4, m_kill_9, true_or, or_true, q_lm1, q_l0, q_l1, q_l2, q_l3, q_l4, q_l5, q_l6, q_l8, q_l9, q_l10, q_l12, q_l17, q_l32, q_l35, q_l48, q_l50, q_l54, q_l57, q_l64, q_l73, q_l118, q_l119, q_l120, q_l122, q_l126, q_l160, q_l256, q_l365, q_l372, q_l438, q_l1000, q_l100000, q_l1000000, e0, wi, ci, s2, a01]
      conv => lhs; simp only [b_231_12, ↓reduceIte, Nat.reduceEqDiff, Nat.reduceMul, q_n10, q_n01, Option.bind_some, g_aft0, g_aft1, g_aft2, g_aft3, g_aft9, Nat.reduceAdd, m_kill_0, m_kill_2, m_kill_3, m_kill_4, m_kill_9, true_or, or_true, q_lm1, q_l0, q_l1, q_l2, q_l3, q_l4, q_l5, q_l6, q_l8, q_l9, q_l10, q_l12, q_l17, q_l32, q_l35, q_l48, q_l50, q_l54, q_l57, q_l64, q_l73, q_l118, q_l119, q_l120, q_l122, q_l126, q_l160, q_l256, q_l365, q_l372, q_l438, q_l1000, q_l100000, q_l1000000, e1, d21, l11]
      rw [b_231_107]
  · obtain ⟨j, j1, j2⟩ := z_gsel (Z := Z) (e := e) (s := s) (kx := 3) (ix := (i : Int)) (gx := 0) (kk := 2) (left := A) (l5 := (9, 0)) (l6 := (9, 0)) hL hw hF hb (by clear hall wi; omega) (Or.inr rfl) (by decide)
    rw [if_neg (by decide)] at j2
    obtain ⟨s1, s2⟩ := sub A j f2 (by clear hall wi; omega) j2
    have start : m_cl Z 231 [(2, ((191 : Nat) : Int)), (0, ((3 : Nat) : Int)), (0, (i : Int))] (K, σ, 206, e, s) = m_run Z (231, 85, [(2, ((191 : Nat) : Int)), (0, 3), (0, (i : Int)), (0, (A : Int)), (0, 0), (0, (j : Int)), (0, ((A + 1 : Nat) : Int))], [], (K, σ, 206, e, s)) := by
      rw [k3]
      simp only [e_231, b_231_0, b_231_5, ↓reduceIte, Nat.reduceEqDiff, Nat.reduceMul, q_n10, q_n01, Option.bind_some, g_aft0, g_aft1, g_aft2, g_aft3, g_aft9, Nat.reduceAdd, m_kill_0, m_kill_2, m_kill_3, m_kill_4, m_kill_9, true_or, or_true, q_lm1, q_l0, q_l1, q_l2, q_l3, q_l4, q_l5, q_l6, q_l8, q_l9, q_l10, q_l12, q_l17, q_l32, q_l35, q_l48, q_l50, q_l54, q_l57, q_l64, q_l73, q_l118, q_l119, q_l120, q_l122, q_l126, q_l160, q_l256, q_l365, q_l372, q_l438, q_l1000, q_l100000, q_l1000000, q_modF hL.2.2.2.2.2.2.1, hmn, hall]
      conv => lhs; simp only [b_231_12, ↓reduceIte, Nat.reduceEqDiff, Nat.reduceMul, q_n10, q_n01, Option.bind_some, g_aft0, g_aft1, g_aft2, g_aft3, g_aft9, Nat.reduceAdd, m_kill_0, m_kill_2, m_kill_3, m_kill_4, m_kill_9, true_or, or_true, q_lm1, q_l0, q_l1, q_l2, q_l3, q_l4, q_l5, q_l6, q_l8, q_l9, q_l10, q_l12, q_l17, q_l32, q_l35, q_l48, q_l50, q_l54, q_l57, q_l64, q_l73, q_l118, q_l119, q_l120, q_l122, q_l126, q_l160, q_l256, q_l365, q_l372, q_l438, q_l1000, q_l100000, q_l1000000, e0, d31, l20]
      exact j1
    obtain ⟨j', j1', j2'⟩ := z_gsel (Z := Z) (e := e) (s := s) (kx := 3) (ix := (i : Int)) (gx := 1) (kk := 1) (left := A - j) (l5 := (0, (j : Int))) (l6 := (0, ((A + 1 : Nat) : Int))) hL hw hF hb (by clear hall wi s2; omega) (Or.inl rfl) (by decide)
    rw [if_pos rfl] at j2'
    obtain ⟨s1', s2'⟩ := sub (A - j) j' f1 (by clear hall wi s2; omega) j2'
    rw [start]
    by_cases c : i = 0
    · subst c
      refine ⟨j, ?_, Or.inr (Or.inr ⟨rfl, j, j', j2, j2', by rw [if_pos rfl]⟩)⟩
      simp only [b_231_85, b_231_91, ↓reduceIte, Nat.reduceEqDiff, Nat.reduceMul, q_n10, q_n01, Option.bind_some, g_aft0, g_aft1, g_aft2, g_aft3, g_aft9, Nat.reduceAdd, m_kill_0, m_kill_2, m_kill_3, m_kill_4, m_kill_9, true_or, or_true, q_lm1, q_l0, q_l1, q_l2, q_l3, q_l4, q_l5, q_l6, q_l8, q_l9, q_l10, q_l12, q_l17, q_l32, q_l35, q_l48, q_l50, q_l54, q_l57, q_l64, q_l73, q_l118, q_l119, q_l120, q_l122, q_l126, q_l160, q_l256, q_l365, q_l372, q_l438, q_l1000, q_l100000, q_l1000000, e0]
      rfl
    · have ci : ¬ 0 = (i : Int) := by clear hall wi s2 s2'; omega
      by_cases c1 : i = 1
      · subst c1
        refine ⟨j', ?_, Or.inr (Or.inr ⟨rfl, j, j', j2, j2', by rw [if_neg c, if_pos rfl]⟩)⟩
        conv => lhs; simp only [b_231_85, b_231_94, ↓reduceIte, Nat.reduceEqDiff, Nat.reduceMul, q_n10, q_n01, Option.bind_some, g_aft0, g_aft1, g_aft2, g_aft3, g_aft9, Nat.reduceAdd, m_kill_0, m_kill_2, m_kill_3, m_kill_4, m_kill_9, true_or, or_true, q_lm1, q_l0, q_l1, q_l2, q_l3, q_l4, q_l5, q_l6, q_l8, q_l9, q_l10, q_l12, q_l17, q_l32, q_l35, q_l48, q_l50, q_l54, q_l57, q_l64, q_l73, q_l118, q_l119, q_l120, q_l122, q_l126, q_l160, q_l256, q_l365, q_l372, q_l438, q_l1000, q_l100000, q_l1000000, e0, wi, ci, s2, a01]
        conv => lhs; simp only [b_231_12, ↓reduceIte, Nat.reduceEqDiff, Nat.reduceMul, q_n10, q_n01, Option.bind_some, g_aft0, g_aft1, g_aft2, g_aft3, g_aft9, Nat.reduceAdd, m_kill_0, m_kill_2, m_kill_3, m_kill_4, m_kill_9, true_or, or_true, q_lm1, q_l0, q_l1, q_l2, q_l3, q_l4, q_l5, q_l6, q_l8, q_l9, q_l10, q_l12, q_l17, q_l32, q_l35, q_l48, q_l50, q_l54, q_l57, q_l64, q_l73, q_l118, q_l119, q_l120, q_l122, q_l126, q_l160, q_l256, q_l365, q_l372, q_l438, q_l1000, q_l100000, q_l1000000, e1, d31, l21]
        refine Eq.trans j1' ?_
        simp only [b_231_85, b_231_91, ↓reduceIte, Nat.reduceEqDiff, Nat.reduceMul, q_n10, q_n01, Option.bind_some, g_aft0, g_aft1, g_aft2, g_aft3, g_aft9, Nat.reduceAdd, m_kill_0, m_kill_2, m_kill_3, m_kill_4, m_kill_9, true_or, or_true, q_lm1, q_l0, q_l1, q_l2, q_l3, q_l4, q_l5, q_l6, q_l8, q_l9, q_l10, q_l12, q_l17, q_l32, q_l35, q_l48, q_l50, q_l54, q_l57, q_l64, q_l73, q_l118, q_l119, q_l120, q_l122, q_l126, q_l160, q_l256, q_l365, q_l372, q_l438, q_l1000, q_l100000, q_l1000000, e1]
        rfl
      · have ci1 : ¬ 1 = (i : Int) := by clear hall wi s2 s2'; omega
        refine ⟨A - j - j', ?_, Or.inr (Or.inr ⟨rfl, j, j', j2, j2', by rw [if_neg c, if_neg c1]⟩)⟩
        conv => lhs; simp only [b_231_85, b_231_94, ↓reduceIte, Nat.reduceEqDiff, Nat.reduceMul, q_n10, q_n01, Option.bind_some, g_aft0, g_aft1, g_aft2, g_aft3, g_aft9, Nat.reduceAdd, m_kill_0, m_kill_2, m_kill_3, m_kill_4, m_kill_9, true_or, or_true, q_lm1, q_l0, q_l1, q_l2, q_l3, q_l4, q_l5, q_l6, q_l8, q_l9, q_l10, q_l12, q_l17, q_l32, q_l35, q_l48, q_l50, q_l54, q_l57, q_l64, q_l73, q_l118, q_l119, q_l120, q_l122, q_l126, q_l160, q_l256, q_l365, q_l372, q_l438, q_l1000, q_l100000, q_l1000000, e0, wi, ci, s2, a01]
        conv => lhs; simp only [b_231_12, ↓reduceIte, Nat.reduceEqDiff, Nat.reduceMul, q_n10, q_n01, Option.bind_some, g_aft0, g_aft1, g_aft2, g_aft3, g_aft9, Nat.reduceAdd, m_kill_0, m_kill_2, m_kill_3, m_kill_4, m_kill_9, true_or, or_true, q_lm1, q_l0, q_l1, q_l2, q_l3, q_l4, q_l5, q_l6, q_l8, q_l9, q_l10, q_l12, q_l17, q_l32, q_l35, q_l48, q_l50, q_l54, q_l57, q_l64, q_l73, q_l118, q_l119, q_l120, q_l122, q_l126, q_l160, q_l256, q_l365, q_l372, q_l438, q_l1000, q_l100000, q_l1000000, e1, d31, l21]
        refine Eq.trans j1' ?_
        conv => lhs; simp only [b_231_85, b_231_94, ↓reduceIte, Nat.reduceEqDiff, Nat.reduceMul, q_n10, q_n01, Option.bind_some, g_aft0, g_aft1, g_aft2, g_aft3, g_aft9, Nat.reduceAdd, m_kill_0, m_kill_2, m_kill_3, m_kill_4, m_kill_9, true_or, or_true, q_lm1, q_l0, q_l1, q_l2, q_l3, q_l4, q_l5, q_l6, q_l8, q_l9, q_l10, q_l12, q_l17, q_l32, q_l35, q_l48, q_l50, q_l54, q_l57, q_l64, q_l73, q_l118, q_l119, q_l120, q_l122, q_l126, q_l160, q_l256, q_l365, q_l372, q_l438, q_l1000, q_l100000, q_l1000000, e1, wi, ci1, s2', a11]
        conv => lhs; simp only [b_231_12, ↓reduceIte, Nat.reduceEqDiff, Nat.reduceMul, q_n10, q_n01, Option.bind_some, g_aft0, g_aft1, g_aft2, g_aft3, g_aft9, Nat.reduceAdd, m_kill_0, m_kill_2, m_kill_3, m_kill_4, m_kill_9, true_or, or_true, q_lm1, q_l0, q_l1, q_l2, q_l3, q_l4, q_l5, q_l6, q_l8, q_l9, q_l10, q_l12, q_l17, q_l32, q_l35, q_l48, q_l50, q_l54, q_l57, q_l64, q_l73, q_l118, q_l119, q_l120, q_l122, q_l126, q_l160, q_l256, q_l365, q_l372, q_l438, q_l1000, q_l100000, q_l1000000, e2, d31, l22]
        rw [b_231_107]
theorem w_gg_u {C : Nat → Prop} {S r r' : Nat} (h : w_gg C S r) (h' : w_gg C S r') : r = r' := by
  rcases h with ⟨h1, h2⟩ | ⟨h1, h2, h3, h4⟩ <;> rcases h' with ⟨g1, g2⟩ | ⟨g1, g2, g3, g4⟩
  · omega
  · exact absurd g3 (h2 r' g1 g2)
  · exact absurd h3 (g2 r h1 h2)
  · rcases Nat.lt_trichotomy r r' with q | q | q
    · exact absurd g3 (h4 r' q g2)
    · exact q
    · exact absurd h3 (g4 r q h2)
theorem w_chs_u {all k i r r' : Nat} (h : w_chs f1 f2 b all k i r) (h' : w_chs f1 f2 b all k i r') : r = r' := by
  rcases h with ⟨h1, h2⟩ | ⟨h1, g, h2, h3⟩ | ⟨h1, g, j, h2, h3, h4⟩ <;> rcases h' with ⟨k1, k2⟩ | ⟨k1, g', k2, k3⟩ | ⟨k1, g', j', k2, k3, k4⟩
  · omega
  · omega
  · omega
  · omega
  · have := w_gg_u h2 k2
    subst this
    omega
  · omega
  · omega
  · omega
  · have := w_gg_u h2 k2
    subst this
    have := w_gg_u h3 k3
    subst this
    omega
theorem z_radiusOf (hL : q_lay K) (h : z_inv σ N R c X L) (hx : w32 x = x) (hy : w32 y = y) :
    (¬ ((1 ≤ x ∧ x ≤ 3) ∧ (y = 0 ∨ y = 1)) → z_O (m_cl Z 229 [(2, ((191 : Nat) : Int)), (0, x), (0, y)] (K, σ, 206, e, s)) K e s σ N R c X L 1 0) ∧
    ((1 ≤ x ∧ x ≤ 3) ∧ (y = 0 ∨ y = 1) → (¬ y_cc N → z_O (m_cl Z 229 [(2, ((191 : Nat) : Int)), (0, x), (0, y)] (K, σ, 206, e, s)) K e s σ N R c X L 2 0) ∧ (y_cc N → ∀ f1 f2 f3 p q, y_gF N 0 f1 f2 f3 → 0 ≤ p → 1 ≤ q → fr p q = y_fk f1 f2 f3 (2 ^ w_nn N - 1) x.toNat → z_O (m_cl Z 229 [(2, ((191 : Nat) : Int)), (0, x), (0, y)] (K, σ, 206, e, s)) K e s σ N R c X L 0 (w_red p q y))) := by
  have h1 := z_within2 (Z := Z) (h := (K, σ, 206, e, s)) (x := x) (y := 1) (z := 3) hx (by decide) (by decide)
  have h2 := z_part (Z := Z) (h := (K, σ, 206, e, s)) hy
  have n10 : ¬ (1 : Int) = 0 := by decide
  refine ⟨fun hn => ?_, fun hm => ?_⟩
  · refine z_no h ?_
    by_cases c1 : 1 ≤ x ∧ x ≤ 3
    · rw [if_pos c1] at h1
      rw [if_neg (fun q => hn ⟨c1, q⟩)] at h2
      simp only [e_229, b_229_0, b_229_7, b_229_10, b_229_16, b_229_19, b_229_23, b_229_27, b_229_30, b_229_34, b_229_35, b_229_38, b_229_41, b_229_43, b_229_48, b_229_60, ↓reduceIte, Nat.reduceEqDiff, Nat.reduceMul, q_n10, q_n01, Option.bind_some, g_aft0, g_aft1, g_aft2, g_aft3, g_aft9, Nat.reduceAdd, m_kill_0, m_kill_2, m_kill_3, m_kill_4, m_kill_9, true_or, or_true, q_lm1, q_l0, q_l1, q_l2, q_l3, q_l4, q_l5, q_l6, q_l8, q_l9, q_l10, q_l12, q_l17, q_l32, q_l35, q_l48, q_l50, q_l54, q_l57, q_l64, q_l73, q_l118, q_l119, q_l120, q_l122, q_l126, q_l160, q_l256, q_l365, q_l372, q_l438, q_l1000, q_l100000, q_l1000000, q_modF hL.2.2.2.2.2.2.1, h1, h2, n10, z_ref1 hL (x := 1) (by decide) (by decide)]
    · rw [if_neg c1] at h1
      simp only [e_229, b_229_0, b_229_7, b_229_10, b_229_16, b_229_19, b_229_23, b_229_27, b_229_30, b_229_34, b_229_35, b_229_38, b_229_41, b_229_43, b_229_48, b_229_60, ↓reduceIte, Nat.reduceEqDiff, Nat.reduceMul, q_n10, q_n01, Option.bind_some, g_aft0, g_aft1, g_aft2, g_aft3, g_aft9, Nat.reduceAdd, m_kill_0, m_kill_2, m_kill_3, m_kill_4, m_kill_9, true_or, or_true, q_lm1, q_l0, q_l1, q_l2, q_l3, q_l4, q_l5, q_l6, q_l8, q_l9, q_l10, q_l12, q_l17, q_l32, q_l35, q_l48, q_l50, q_l54, q_l57, q_l64, q_l73, q_l118, q_l119, q_l120, q_l122, q_l126, q_l160, q_l256, q_l365, q_l372, q_l438, q_l1000, q_l100000, q_l1000000, q_modF hL.2.2.2.2.2.2.1, h1, z_ref1 hL (x := 1) (by decide) (by decide)]
  · rw [if_pos hm.1] at h1
    rw [if_pos hm.2] at h2
    obtain ⟨τ, t1, t2, t3, t4⟩ := z_can (Z := Z) (e := e) (s := s) hL h.1
    constructor
    · intro hd
      obtain ⟨τ', u1, u2⟩ := t4 hd
      refine z_no6 (τ := τ') h u1 ?_
      simp only [e_229, b_229_0, b_229_7, b_229_10, b_229_16, b_229_19, b_229_23, b_229_27, b_229_30, b_229_34, b_229_35, b_229_38, b_229_41, b_229_43, b_229_48, b_229_60, ↓reduceIte, Nat.reduceEqDiff, Nat.reduceMul, q_n10, q_n01, Option.bind_some, g_aft0, g_aft1, g_aft2, g_aft3, g_aft9, Nat.reduceAdd, m_kill_0, m_kill_2, m_kill_3, m_kill_4, m_kill_9, true_or, or_true, q_lm1, q_l0, q_l1, q_l2, q_l3, q_l4, q_l5, q_l6, q_l8, q_l9, q_l10, q_l12, q_l17, q_l32, q_l35, q_l48, q_l50, q_l54, q_l57, q_l64, q_l73, q_l118, q_l119, q_l120, q_l122, q_l126, q_l160, q_l256, q_l365, q_l372, q_l438, q_l1000, q_l100000, q_l1000000, q_modF hL.2.2.2.2.2.2.1, h1, h2, n10, u2, z_ref1 hL (x := 2) (by decide) (by decide)]
    · intro hd f1 f2 f3 p q hg hp hq he
      have u2 := t3 hd
      have ex : ((x.toNat : Nat) : Int) = x := by clear hx hy h1 h2; omega
      have hn4 : z_n (m_up2 τ 191 4 0) N := z_nF h.1 (by rw [m_up2_ne (by omega), t2 192 (by omega)])
      have hf4 : z_far (m_up2 τ 191 4 0) N := fun a b ha hb => by rw [m_up2_ne (by omega)]; exact t1 a b ha hb
      obtain ⟨ω, o1, o2, o3, o4, o5⟩ := z_laysB (Z := Z) (e := e) (s := s) (k := x.toNat) hL hn4 hf4 hd hg (by clear hx hy h1 h2; omega) (by clear hx hy h1 h2; omega)
      rw [ex] at o1
      obtain ⟨⟨b1, b2⟩, ⟨b3, b4⟩, b5⟩ := o2
      have hr := z_red (Z := Z) (h := (K, ω, 206, e, s)) (x := ω 191 21) (y := ω 191 22) (u := y) b3 (by clear hx hy h1 h2; omega) b1 (by clear hx hy h1 h2; omega) hy
      rw [w_redU (part := y) b3 (by clear hx hy h1 h2; omega) hp (by clear hx hy h1 h2; omega) (b5.trans he.symm)] at hr
      refine z_okz h (z_fz_t ⟨fun a ha => ?_, fun j hj => ?_⟩ o5) ?_
      · rw [m_up2_ne (by omega), m_up2_ne (by omega), t2 a (by omega)]
      · by_cases cj : j = 4
        · rw [cj, m_up2_at, m_up2_at]
        · rw [m_up2_nk cj, m_up2_nk cj, t2 191 (by omega)]
      · simp only [e_229, b_229_0, b_229_7, b_229_10, b_229_16, b_229_19, b_229_23, b_229_27, b_229_30, b_229_34, b_229_35, b_229_38, b_229_41, b_229_43, b_229_48, b_229_60, ↓reduceIte, Nat.reduceEqDiff, Nat.reduceMul, q_n10, q_n01, Option.bind_some, g_aft0, g_aft1, g_aft2, g_aft3, g_aft9, Nat.reduceAdd, m_kill_0, m_kill_2, m_kill_3, m_kill_4, m_kill_9, true_or, or_true, q_lm1, q_l0, q_l1, q_l2, q_l3, q_l4, q_l5, q_l6, q_l8, q_l9, q_l10, q_l12, q_l17, q_l32, q_l35, q_l48, q_l50, q_l54, q_l57, q_l64, q_l73, q_l118, q_l119, q_l120, q_l122, q_l126, q_l160, q_l256, q_l365, q_l372, q_l438, q_l1000, q_l100000, q_l1000000, q_modF hL.2.2.2.2.2.2.1, h1, h2, n10, u2, z_ref0 hL, o1, hr]
theorem z_group (hL : q_lay K) (h : z_inv σ N R c X L) (hx : w32 x = x) (hy : w32 y = y) :
    (¬ ((1 ≤ x ∧ x ≤ 3) ∧ 0 ≤ y ∧ y < x) → z_O (m_cl Z 232 [(2, ((191 : Nat) : Int)), (0, x), (0, y)] (K, σ, 206, e, s)) K e s σ N R c X L 1 0) ∧
    ((1 ≤ x ∧ x ≤ 3) ∧ (0 ≤ y ∧ y < x) → (¬ y_cc N → z_O (m_cl Z 232 [(2, ((191 : Nat) : Int)), (0, x), (0, y)] (K, σ, 206, e, s)) K e s σ N R c X L 2 0) ∧ (y_cc N → ∀ f1 f2 f3, ∀ r : Nat, y_gF N 0 f1 f2 f3 → w_chs f1 f2 (y_fk f1 f2 f3 (2 ^ w_nn N - 1) x.toNat) (2 ^ w_nn N - 1) x.toNat y.toNat r → z_O (m_cl Z 232 [(2, ((191 : Nat) : Int)), (0, x), (0, y)] (K, σ, 206, e, s)) K e s σ N R c X L 0 (r : Int))) := by
  have h1 := z_within2 (Z := Z) (h := (K, σ, 206, e, s)) (x := x) (y := 1) (z := 3) hx (by decide) (by decide)
  have n10 : ¬ (1 : Int) = 0 := by decide
  by_cases c1 : 1 ≤ x ∧ x ≤ 3
  · rw [if_pos c1] at h1
    have wx1 : w32 (x - 1) = x - 1 := by clear hx hy h1; exact q_wi (by omega) (by omega)
    have h2 := z_within2 (Z := Z) (h := (K, σ, 206, e, s)) (x := y) (y := 0) (z := x - 1) hy (by decide) wx1
    have eq2 : (if 0 ≤ y ∧ y ≤ x - 1 then (1 : Int) else 0) = if 0 ≤ y ∧ y < x then 1 else 0 := by
      clear hx hy h1 wx1 h2
      by_cases d : 0 ≤ y ∧ y < x
      · rw [if_pos d, if_pos (by omega)]
      · rw [if_neg d, if_neg (by omega)]
    rw [eq2] at h2
    refine ⟨fun hn => ?_, fun hm => ?_⟩
    · refine z_no h ?_
      rw [if_neg (fun q => hn ⟨c1, q⟩)] at h2
      simp only [e_232, b_232_0, b_232_7, b_232_10, b_232_18, b_232_21, b_232_25, b_232_29, b_232_32, b_232_36, b_232_37, b_232_40, b_232_43, b_232_45, b_232_50, b_232_56, ↓reduceIte, Nat.reduceEqDiff, Nat.reduceMul, q_n10, q_n01, Option.bind_some, g_aft0, g_aft1, g_aft2, g_aft3, g_aft9, Nat.reduceAdd, m_kill_0, m_kill_2, m_kill_3, m_kill_4, m_kill_9, true_or, or_true, q_lm1, q_l0, q_l1, q_l2, q_l3, q_l4, q_l5, q_l6, q_l8, q_l9, q_l10, q_l12, q_l17, q_l32, q_l35, q_l48, q_l50, q_l54, q_l57, q_l64, q_l73, q_l118, q_l119, q_l120, q_l122, q_l126, q_l160, q_l256, q_l365, q_l372, q_l438, q_l1000, q_l100000, q_l1000000, q_modF hL.2.2.2.2.2.2.1, h1, h2, n10, z_ref1 hL (x := 1) (by decide) (by decide)]
    · rw [if_pos hm.2] at h2
      obtain ⟨τ, t1, t2, t3, t4⟩ := z_can (Z := Z) (e := e) (s := s) hL h.1
      constructor
      · intro hd
        obtain ⟨τ', u1, u2⟩ := t4 hd
        refine z_no6 (τ := τ') h u1 ?_
        simp only [e_232, b_232_0, b_232_7, b_232_10, b_232_18, b_232_21, b_232_25, b_232_29, b_232_32, b_232_36, b_232_37, b_232_40, b_232_43, b_232_45, b_232_50, b_232_56, ↓reduceIte, Nat.reduceEqDiff, Nat.reduceMul, q_n10, q_n01, Option.bind_some, g_aft0, g_aft1, g_aft2, g_aft3, g_aft9, Nat.reduceAdd, m_kill_0, m_kill_2, m_kill_3, m_kill_4, m_kill_9, true_or, or_true, q_lm1, q_l0, q_l1, q_l2, q_l3, q_l4, q_l5, q_l6, q_l8, q_l9, q_l10, q_l12, q_l17, q_l32, q_l35, q_l48, q_l50, q_l54, q_l57, q_l64, q_l73, q_l118, q_l119, q_l120, q_l122, q_l126, q_l160, q_l256, q_l365, q_l372, q_l438, q_l1000, q_l100000, q_l1000000, q_modF hL.2.2.2.2.2.2.1, h1, h2, n10, u2, z_ref1 hL (x := 2) (by decide) (by decide)]
      · intro hd f1 f2 f3 r hg hr
        have u2 := t3 hd
        have ex : ((x.toNat : Nat) : Int) = x := by clear hx hy h1 h2 wx1; omega
        have ey : ((y.toNat : Nat) : Int) = y := by clear hx hy h1 h2 wx1; omega
        have hn4 : z_n (m_up2 τ 191 4 0) N := z_nF h.1 (by rw [m_up2_ne (by omega), t2 192 (by omega)])
        have hf4 : z_far (m_up2 τ 191 4 0) N := fun a b ha hb => by rw [m_up2_ne (by omega)]; exact t1 a b ha hb
        obtain ⟨ω, o1, o2, o3, o4, o5⟩ := z_laysB (Z := Z) (e := e) (s := s) (k := x.toNat) hL hn4 hf4 hd hg (by clear hx hy h1 h2 wx1; omega) (by clear hx hy h1 h2 wx1; omega)
        obtain ⟨r', r1, r2⟩ := z_groupT (Z := Z) (e := e) (s := s) (k := x.toNat) (i := y.toNat) hL o4.1 o3 o2 (by clear hx hy h1 h2 wx1; omega) (by clear hx hy h1 h2 wx1; omega) (by clear hx hy h1 h2 wx1; omega)
        rw [ex] at o1
        rw [ex, ey, w_chs_u r2 hr] at r1
        refine z_okz h (z_fz_t ⟨fun a ha => ?_, fun j hj => ?_⟩ o5) ?_
        · rw [m_up2_ne (by omega), m_up2_ne (by omega), t2 a (by omega)]
        · by_cases cj : j = 4
          · rw [cj, m_up2_at, m_up2_at]
          · rw [m_up2_nk cj, m_up2_nk cj, t2 191 (by omega)]
        · simp only [e_232, b_232_0, b_232_7, b_232_10, b_232_18, b_232_21, b_232_25, b_232_29, b_232_32, b_232_36, b_232_37, b_232_40, b_232_43, b_232_45, b_232_50, b_232_56, ↓reduceIte, Nat.reduceEqDiff, Nat.reduceMul, q_n10, q_n01, Option.bind_some, g_aft0, g_aft1, g_aft2, g_aft3, g_aft9, Nat.reduceAdd, m_kill_0, m_kill_2, m_kill_3, m_kill_4, m_kill_9, true_or, or_true, q_lm1, q_l0, q_l1, q_l2, q_l3, q_l4, q_l5, q_l6, q_l8, q_l9, q_l10, q_l12, q_l17, q_l32, q_l35, q_l48, q_l50, q_l54, q_l57, q_l64, q_l73, q_l118, q_l119, q_l120, q_l122, q_l126, q_l160, q_l256, q_l365, q_l372, q_l438, q_l1000, q_l100000, q_l1000000, q_modF hL.2.2.2.2.2.2.1, h1, h2, n10, u2, z_ref0 hL, o1, r1]
  · rw [if_neg c1] at h1
    refine ⟨fun hn => ?_, fun hm => absurd hm.1 c1⟩
    refine z_no h ?_
    simp only [e_232, b_232_0, b_232_7, b_232_10, b_232_18, b_232_21, b_232_25, b_232_29, b_232_32, b_232_36, b_232_37, b_232_40, b_232_43, b_232_45, b_232_50, b_232_56, ↓reduceIte, Nat.reduceEqDiff, Nat.reduceMul, q_n10, q_n01, Option.bind_some, g_aft0, g_aft1, g_aft2, g_aft3, g_aft9, Nat.reduceAdd, m_kill_0, m_kill_2, m_kill_3, m_kill_4, m_kill_9, true_or, or_true, q_lm1, q_l0, q_l1, q_l2, q_l3, q_l4, q_l5, q_l6, q_l8, q_l9, q_l10, q_l12, q_l17, q_l32, q_l35, q_l48, q_l50, q_l54, q_l57, q_l64, q_l73, q_l118, q_l119, q_l120, q_l122, q_l126, q_l160, q_l256, q_l365, q_l372, q_l438, q_l1000, q_l100000, q_l1000000, q_modF hL.2.2.2.2.2.2.1, h1, z_ref1 hL (x := 1) (by decide) (by decide)]
end
end
