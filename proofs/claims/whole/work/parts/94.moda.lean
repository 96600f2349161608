section
/-! The model: next. -/
/-- where an edge leads from a node; -1: it is not there -/
def z_nv (N : Nat → Nat → Int) (a g : Nat) : Int := if N 6 g = (a : Int) then N 8 g else if N 8 g = (a : Int) then N 6 g else -1
def z_nq (N : Nat → Nat → Int) (a b g : Nat) : Prop := z_nv N a g ≠ -1 ∧ N 10 g + d_cap (w_D N (z_nv N a g).toNat b) = w_D N a b
def z_nb (N : Nat → Nat → Int) (a b i : Nat) (y : Int) : Prop := (y = -1 ∧ ∀ g, g < i → ¬ z_nq N a b g) ∨ ∃ g, g < i ∧ z_nq N a b g ∧ y = z_nv N a g ∧ ∀ g', g' < i → z_nq N a b g' → z_nv N a g ≤ z_nv N a g'
section
variable {Z : mZ} {K : Nat → mK} {σ τ N M : Nat → Nat → Int} {e g i L n c k p s a b : Nat} {t q v x y z w u S : Int} {X : Nat → Int} {h : mH} {R : Nat → Nat → Nat → Int} {T : Nat → Int}
theorem z_nv_b (hw : q_wf N) (hg : g < w_ne N) : z_nv N a g = -1 ∨ 0 ≤ z_nv N a g ∧ z_nv N a g < N 0 0 := by
  have h7 := wf_ed hw hg
  have hn := wf_n hw
  unfold z_nv
  split
  · omega
  · split <;> omega
theorem w_eb_u (hw : q_wf N) (hg : g < w_ne N) (h : z_nv N a g = (i : Int)) : w_eb N a i = (g : Int) := by
  have h7 := wf_ed hw hg
  have hj : N 6 g = (a : Int) ∧ N 8 g = (i : Int) ∨ N 6 g = (i : Int) ∧ N 8 g = (a : Int) := by
    unfold z_nv at h
    by_cases c : N 6 g = (a : Int)
    · rw [if_pos c] at h; exact Or.inl ⟨c, h⟩
    · rw [if_neg c] at h
      by_cases c2 : N 8 g = (a : Int)
      · rw [if_pos c2] at h; exact Or.inr ⟨h, c2⟩
      · rw [if_neg c2] at h; omega
  unfold w_eb
  rcases q_fst_r (p := fun j => decide (N 6 j = (a : Int) ∧ N 8 j = (i : Int) ∨ N 6 j = (i : Int) ∧ N 8 j = (a : Int))) (w_ne N) 0 with ⟨-, h2⟩ | ⟨j, -, h2, h3, h4, -⟩
  · exact absurd (h2 g (Nat.zero_le _) (by omega)) (by simp only [decide_eq_false_iff_not]; exact fun q => q hj)
  · rw [h4]
    have hj2 := of_decide_eq_true h3
    have hu := hw.2.2.2.2.2.2.1
    by_cases c : j = g
    · rw [c]
    · exfalso
      rcases Nat.lt_or_gt_of_ne c with c | c
      · refine hu j g c hg ?_
        unfold w_jo
        omega
      · refine hu g j c (by omega) ?_
        unfold w_jo
        omega
theorem w_eb_x (h : w_eb N a i = (g : Int)) : z_nv N a g = (i : Int) ∧ g < w_ne N ∨ N 6 g = N 8 g := by
  unfold w_eb at h
  rcases q_fst_r (p := fun j => decide (N 6 j = (a : Int) ∧ N 8 j = (i : Int) ∨ N 6 j = (i : Int) ∧ N 8 j = (a : Int))) (w_ne N) 0 with ⟨h1, -⟩ | ⟨j, -, h2, h3, h4, -⟩
  · rw [h1] at h; omega
  · rw [h4] at h
    have hj : j = g := by omega
    subst hj
    have hj2 := of_decide_eq_true h3
    unfold z_nv
    by_cases c : N 6 j = (a : Int)
    · rw [if_pos c]
      rcases hj2 with q | q
      · exact Or.inl ⟨q.2, by omega⟩
      · exact Or.inr (by omega)
    · rw [if_neg c]
      rcases hj2 with q | q
      · exact absurd q.1 c
      · rw [if_pos q.2]
        exact Or.inl ⟨q.1, by omega⟩
theorem z_nb_fs (hw : q_wf N) (ha : a < w_nn N) (hb : b < w_nn N) (h1 : a ≠ b) (h2 : w_D N a b < 1000000) (h : z_nb N a b (w_ne N) y) : y = w_fs N a b := by
  have hn := wf_n hw
  have bD := w_D_b hw a b
  unfold w_fs
  rw [if_neg (by omega)]
  -- a node that does
  have toN : ∀ g, g < w_ne N → z_nq N a b g → ∃ i, i < w_nn N ∧ z_nv N a g = (i : Int) ∧ (w_eb N a i ≠ -1 ∧ N 10 (w_eb N a i).toNat + w_D N i b = w_D N a b) := by
    intro g hg hq
    obtain ⟨q1, q2⟩ := hq
    rcases z_nv_b hw hg (a := a) with hv | hv
    · exact absurd hv q1
    · have e1 : z_nv N a g = ((z_nv N a g).toNat : Int) := by omega
      have eu := w_eb_u hw hg e1
      have h7 := wf_ed hw hg
      have hc := d_cap_lt hw (a := (z_nv N a g).toNat) (b := b)
      refine ⟨(z_nv N a g).toNat, by omega, e1, by rw [eu]; omega, ?_⟩
      rw [eu, Int.toNat_natCast, ← hc.2.1 (hc.1.mp (by omega))]
      exact q2
  have toE : ∀ i, i < w_nn N → (w_eb N a i ≠ -1 ∧ N 10 (w_eb N a i).toNat + w_D N i b = w_D N a b) → ∃ g, g < w_ne N ∧ z_nv N a g = (i : Int) ∧ z_nq N a b g := by
    intro i hi hq
    obtain ⟨q1, q2⟩ := hq
    have hge : ∃ g : Nat, w_eb N a i = (g : Int) := by
      unfold w_eb at q1 ⊢
      rcases q_fst_r (p := fun j => decide (N 6 j = (a : Int) ∧ N 8 j = (i : Int) ∨ N 6 j = (i : Int) ∧ N 8 j = (a : Int))) (w_ne N) 0 with ⟨h1, -⟩ | ⟨j, -, h2, h3, h4, -⟩
      · exact absurd h1 q1
      · exact ⟨j, h4⟩
    obtain ⟨g, hg⟩ := hge
    have hgl : g < w_ne N := by
      unfold w_eb at hg
      rcases q_fst_r (p := fun j => decide (N 6 j = (a : Int) ∧ N 8 j = (i : Int) ∨ N 6 j = (i : Int) ∧ N 8 j = (a : Int))) (w_ne N) 0 with ⟨h1, -⟩ | ⟨j, -, h2, h3, h4, -⟩
      · rw [h1] at hg; omega
      · rw [h4] at hg; omega
    rcases w_eb_x hg with ⟨v1, v2⟩ | hx
    · rw [hg, Int.toNat_natCast] at q2
      have h7 := wf_ed hw v2
      have bi := w_D_b hw i b
      have hc := d_cap_lt hw (a := i) (b := b)
      refine ⟨g, v2, v1, by rw [v1]; omega, ?_⟩
      rw [v1, Int.toNat_natCast, hc.2.1 (by omega)]
      exact q2
    · exfalso
      have h7 := wf_ed hw hgl
      omega
  rcases q_fst_r (p := fun i => decide (w_eb N a i ≠ -1 ∧ N 10 (w_eb N a i).toNat + w_D N i b = w_D N a b)) (w_nn N) 0 with ⟨f1, f2⟩ | ⟨j, -, f2, f3, f4, f5⟩
  · rw [f1]
    rcases h with ⟨h, -⟩ | ⟨g, g1, g2, g3, -⟩
    · exact h
    · obtain ⟨i, i1, i2, i3⟩ := toN g g1 g2
      exact absurd (f2 i (Nat.zero_le _) (by omega)) (by simp only [decide_eq_false_iff_not]; exact fun q => q i3)
  · rw [f4]
    obtain ⟨g0, e1, e2, e3⟩ := toE j (by omega) (of_decide_eq_true f3)
    rcases h with ⟨-, h⟩ | ⟨g, g1, g2, g3, g4⟩
    · exact absurd e3 (h g0 e1)
    · have le := g4 g0 e1 e3
      obtain ⟨i, i1, i2, i3⟩ := toN g g1 g2
      rw [g3, i2]
      by_cases c : i < j
      · exact absurd (f5 i (Nat.zero_le _) c) (by simp only [decide_eq_false_iff_not]; exact fun q => q i3)
      · omega
theorem z_next (hL : q_lay K) (h : z_inv σ N R c X L) (hx : w32 x = x) (hy : w32 y = y) : (¬ ((0 ≤ x ∧ x < N 0 0) ∧ 0 ≤ y ∧ y < N 0 0) → z_O (m_cl Z 188 [(2, ((191 : Nat) : Int)), (0, x), (0, y)] (K, σ, 206, e, s)) K e s σ N R c X L 1 0) ∧ ((0 ≤ x ∧ x < N 0 0) ∧ (0 ≤ y ∧ y < N 0 0) → z_O (m_cl Z 188 [(2, ((191 : Nat) : Int)), (0, x), (0, y)] (K, σ, 206, e, s)) K e s σ N R c X L 0 (w_fs N x.toNat y.toNat)) := by
  have hA := z_areN (Z := Z) (e := e) (s := s) hL h.1 hx hy
  constructor
  · intro hn
    rw [if_neg hn] at hA
    refine z_no h ?_
    simp only [e_188, b_188_0, b_188_7, b_188_10, b_188_14, b_188_15, b_188_18, b_188_21, b_188_23, b_188_27, b_188_38, b_188_41, b_188_46, b_188_62, b_188_69, b_188_73, b_188_80, b_188_83, b_188_90, b_188_94, b_188_101, b_188_104, b_188_105, b_188_113, b_188_120, b_188_147, b_188_152, b_188_158, b_188_161, b_188_167, ↓reduceIte, Nat.reduceEqDiff, Nat.reduceMul, q_n10, q_n01, Option.bind_some, g_aft0, g_aft1, g_aft2, g_aft3, g_aft9, Nat.reduceAdd, m_kill_0, m_kill_2, m_kill_3, m_kill_4, m_kill_9, true_or, or_true, q_lm1, q_l0, q_l1, q_l2, q_l3, q_l4, q_l5, q_l6, q_l8, q_l9, q_l10, q_l12, q_l17, q_l32, q_l35, q_l48, q_l50, q_l54, q_l57, q_l64, q_l73, q_l118, q_l119, q_l120, q_l122, q_l126, q_l160, q_l256, q_l365, q_l372, q_l438, q_l1000, q_l100000, q_l1000000, q_modF hL.2.2.2.2.2.2.1, hA, z_ref1 hL (x := 1) (by decide) (by decide)]
  · intro hn
    rw [if_pos hn] at hA
    obtain ⟨τ, t1, t2, t3⟩ := z_lays (Z := Z) (e := e) (s := s) hL (z_inv4 (v := 0) h).1
    have hw := h.1.1
    have n0 := wf_n hw
    have m0 := wf_e hw
    have hn' : z_n τ N := z_nF h.1 (by rw [t3 192 (by omega), m_up2_ne (by omega)])
    have hm := z_emany (Z := Z) (e := e) (s := s) hL hn'
    obtain ⟨a, ha⟩ : ∃ a, a = x.toNat := ⟨_, rfl⟩
    obtain ⟨b, hb⟩ : ∃ b, b = y.toNat := ⟨_, rfl⟩
    have ea : x = (a : Int) := by clear hx hy hA; omega
    have eb : y = (b : Int) := by clear hx hy hA; omega
    have an : a < w_nn N := by clear hx hy hA; omega
    have bn : b < w_nn N := by clear hx hy hA; omega
    rw [← ha, ← hb]
    subst ea
    subst eb
    have w1 : w32 100000 = 100000 := by decide
    have wm1 : w32 (-1) = -1 := by decide
    have wm : w32 (N 0 1) = N 0 1 := by clear hx hy hA w1 wm1; exact q_wi (by omega) (by omega)
    obtain ⟨i1, i2, i3⟩ := z_fix (a := a) (b := b) (by clear hx hy hA w1 wm1 wm; omega) (by clear hx hy hA w1 wm1 wm; omega)
    have hf := t2 a b an bn
    have hc := d_cap_lt hw (a := a) (b := b)
    have wc : w32 (d_cap (w_D N a b)) = d_cap (w_D N a b) := by clear hx hy hA w1 wm1 wm i1 i2 i3; exact q_wi (by omega) (by omega)
    have fin : ∀ v, m_run Z (188, 32, [(2, ((191 : Nat) : Int)), (0, (a : Int)), (0, (b : Int)), (0, -1), (0, 0), (9, 0)], [], (K, τ, 206, e, s)) = some (.inl (0, v), (K, τ, 206, e, s)) → z_O (m_cl Z 188 [(2, ((191 : Nat) : Int)), (0, (a : Int)), (0, (b : Int))] (K, σ, 206, e, s)) K e s σ N R c X L 0 v := by
      intro v hv
      refine ⟨τ, ?_, by rw [t3 191 (by omega), m_up2_at], z_inv6 (z_inv4 h) t3, fun a ha => by rw [t3 a (by omega), m_up2_ne (by omega)]⟩
      rw [← hv]
      simp only [e_188, b_188_0, b_188_7, b_188_10, b_188_14, b_188_15, b_188_18, b_188_21, b_188_23, b_188_27, ↓reduceIte, Nat.reduceEqDiff, Nat.reduceMul, q_n10, q_n01, Option.bind_some, g_aft0, g_aft1, g_aft2, g_aft3, g_aft9, Nat.reduceAdd, m_kill_0, m_kill_2, m_kill_3, m_kill_4, m_kill_9, true_or, or_true, q_lm1, q_l0, q_l1, q_l2, q_l3, q_l4, q_l5, q_l6, q_l8, q_l9, q_l10, q_l12, q_l17, q_l32, q_l35, q_l48, q_l50, q_l54, q_l57, q_l64, q_l73, q_l118, q_l119, q_l120, q_l122, q_l126, q_l160, q_l256, q_l365, q_l372, q_l438, q_l1000, q_l100000, q_l1000000, q_modF hL.2.2.2.2.2.2.1, hA, z_ref0 hL, t1]
    refine fin _ ?_
    by_cases c1 : a = b
    · have efs : w_fs N a b = -1 := by unfold w_fs; rw [if_pos (Or.inl c1)]
      rw [efs]
      subst c1
      by_cases ce : N 0 1 ≤ 0
      · conv => lhs; simp only [b_188_32, ↓reduceIte, Nat.reduceEqDiff, Nat.reduceMul, q_n10, q_n01, Option.bind_some, g_aft0, g_aft1, g_aft2, g_aft3, g_aft9, Nat.reduceAdd, m_kill_0, m_kill_2, m_kill_3, m_kill_4, m_kill_9, true_or, or_true, q_lm1, q_l0, q_l1, q_l2, q_l3, q_l4, q_l5, q_l6, q_l8, q_l9, q_l10, q_l12, q_l17, q_l32, q_l35, q_l48, q_l50, q_l54, q_l57, q_l64, q_l73, q_l118, q_l119, q_l120, q_l122, q_l126, q_l160, q_l256, q_l365, q_l372, q_l438, q_l1000, q_l100000, q_l1000000, q_modF hL.2.2.2.2.2.2.1, hm]
        simp only [b_188_38, b_188_167, ↓reduceIte, Nat.reduceEqDiff, Nat.reduceMul, q_n10, q_n01, Option.bind_some, g_aft0, g_aft1, g_aft2, g_aft3, g_aft9, Nat.reduceAdd, m_kill_0, m_kill_2, m_kill_3, m_kill_4, m_kill_9, true_or, or_true, q_lm1, q_l0, q_l1, q_l2, q_l3, q_l4, q_l5, q_l6, q_l8, q_l9, q_l10, q_l12, q_l17, q_l32, q_l35, q_l48, q_l50, q_l54, q_l57, q_l64, q_l73, q_l118, q_l119, q_l120, q_l122, q_l126, q_l160, q_l256, q_l365, q_l372, q_l438, q_l1000, q_l100000, q_l1000000, wm, ce]
      · conv => lhs; simp only [b_188_32, ↓reduceIte, Nat.reduceEqDiff, Nat.reduceMul, q_n10, q_n01, Option.bind_some, g_aft0, g_aft1, g_aft2, g_aft3, g_aft9, Nat.reduceAdd, m_kill_0, m_kill_2, m_kill_3, m_kill_4, m_kill_9, true_or, or_true, q_lm1, q_l0, q_l1, q_l2, q_l3, q_l4, q_l5, q_l6, q_l8, q_l9, q_l10, q_l12, q_l17, q_l32, q_l35, q_l48, q_l50, q_l54, q_l57, q_l64, q_l73, q_l118, q_l119, q_l120, q_l122, q_l126, q_l160, q_l256, q_l365, q_l372, q_l438, q_l1000, q_l100000, q_l1000000, q_modF hL.2.2.2.2.2.2.1, hm]
        simp only [b_188_38, b_188_41, b_188_167, ↓reduceIte, Nat.reduceEqDiff, Nat.reduceMul, q_n10, q_n01, Option.bind_some, g_aft0, g_aft1, g_aft2, g_aft3, g_aft9, Nat.reduceAdd, m_kill_0, m_kill_2, m_kill_3, m_kill_4, m_kill_9, true_or, or_true, q_lm1, q_l0, q_l1, q_l2, q_l3, q_l4, q_l5, q_l6, q_l8, q_l9, q_l10, q_l12, q_l17, q_l32, q_l35, q_l48, q_l50, q_l54, q_l57, q_l64, q_l73, q_l118, q_l119, q_l120, q_l122, q_l126, q_l160, q_l256, q_l365, q_l372, q_l438, q_l1000, q_l100000, q_l1000000, wm, ce]
    · have c1' : ¬ (a : Int) = (b : Int) := by clear hx hy hA w1 wm1 wm i1 i2 i3 wc; omega
      by_cases c2 : w_D N a b < 1000000
      · have c3 : ¬ (100000 : Int) ≤ d_cap (w_D N a b) := by have := hc.1.mpr c2; clear hx hy hA w1 wm1 wm i1 i2 i3 wc; omega
        have bD := w_D_b hw a b
        have wD : w32 (w_D N a b) = w_D N a b := by clear hx hy hA w1 wm1 wm i1 i2 i3 wc; exact q_wi (by omega) (by omega)
        rw [hc.2.1 c2] at hf wc
        have c3' : ¬ (100000 : Int) ≤ w_D N a b := by clear hx hy hA w1 wm1 wm i1 i2 i3 wc wD hf; omega
        obtain ⟨Y, Y1, Y2⟩ := q_loop (Z := Z) (N := w_ne N) (α := Int × mV) (S := fun g x => (188, 32, [(2, ((191 : Nat) : Int)), (0, (a : Int)), (0, (b : Int)), (0, x.1), (0, (g : Int)), x.2], [], (K, τ, 206, e, s))) (P := fun g x => z_nb N a b g x.1) (by
          rintro g ⟨y, l5⟩ hg hP
          have hP : z_nb N a b g y := hP
          obtain ⟨o1, o2, o3⟩ := z_of (Z := Z) (e := e) (s := s) hL hn' hg
          have h7 := wf_ed hw hg
          have wg : w32 (g : Int) = (g : Int) := q_w (by clear hx hy hA w1 wm1 wm i1 i2 i3 wc wD hf; omega)
          have cg : ¬ N 0 1 ≤ (g : Int) := by clear hx hy hA w1 wm1 wm i1 i2 i3 wc wD hf wg; omega
          have w6 : w32 (N 6 g) = N 6 g := by clear hx hy hA w1 wm1 wm i1 i2 i3 wc wD hf wg; exact q_wi (by omega) (by omega)
          have w8 : w32 (N 8 g) = N 8 g := by clear hx hy hA w1 wm1 wm i1 i2 i3 wc wD hf wg w6; exact q_wi (by omega) (by omega)
          have vb := z_nv_b hw hg (a := a)
          have e1 : (((g + 1 : Nat)) : Int) = (g : Int) + 1 := rfl
          have hv : ∀ st, st = m_run Z (188, 62, [(2, ((191 : Nat) : Int)), (0, (a : Int)), (0, (b : Int)), (0, y), (0, (g : Int)), l5], [], (K, τ, 206, e, s)) → (z_nv N a g = -1 → st = m_run Z (188, 161, [(2, ((191 : Nat) : Int)), (0, (a : Int)), (0, (b : Int)), (0, y), (0, (g : Int)), (0, -1)], [], (K, τ, 206, e, s))) ∧ (z_nv N a g ≠ -1 → st = m_run Z (188, 113, [(2, ((191 : Nat) : Int)), (0, (a : Int)), (0, (b : Int)), (0, y), (0, (g : Int)), (0, z_nv N a g)], [], (K, τ, 206, e, s))) := by
            intro st hst
            rw [hst]
            unfold z_nv
            by_cases d1 : N 6 g = (a : Int)
            · have n8 : ¬ N 8 g = -1 := by clear hx hy hA w1 wm1 wm i1 i2 i3 wc wD hf wg w6 w8; omega
              rw [if_pos d1]
              refine ⟨fun q => absurd q n8, fun _ => ?_⟩
              simp only [b_188_62, b_188_69, b_188_73, b_188_80, ↓reduceIte, Nat.reduceEqDiff, Nat.reduceMul, q_n10, q_n01, Option.bind_some, g_aft0, g_aft1, g_aft2, g_aft3, g_aft9, Nat.reduceAdd, m_kill_0, m_kill_2, m_kill_3, m_kill_4, m_kill_9, true_or, or_true, q_lm1, q_l0, q_l1, q_l2, q_l3, q_l4, q_l5, q_l6, q_l8, q_l9, q_l10, q_l12, q_l17, q_l32, q_l35, q_l48, q_l50, q_l54, q_l57, q_l64, q_l73, q_l118, q_l119, q_l120, q_l122, q_l126, q_l160, q_l256, q_l365, q_l372, q_l438, q_l1000, q_l100000, q_l1000000, q_modF hL.2.2.2.2.2.2.1, o1, o2, d1, w8, wm1, n8]
            · by_cases d2 : N 8 g = (a : Int)
              · have n6 : ¬ N 6 g = -1 := by clear hx hy hA w1 wm1 wm i1 i2 i3 wc wD hf wg w6 w8; omega
                rw [if_neg d1, if_pos d2]
                refine ⟨fun q => absurd q n6, fun _ => ?_⟩
                simp only [b_188_62, b_188_69, b_188_83, b_188_90, b_188_94, b_188_101, ↓reduceIte, Nat.reduceEqDiff, Nat.reduceMul, q_n10, q_n01, Option.bind_some, g_aft0, g_aft1, g_aft2, g_aft3, g_aft9, Nat.reduceAdd, m_kill_0, m_kill_2, m_kill_3, m_kill_4, m_kill_9, true_or, or_true, q_lm1, q_l0, q_l1, q_l2, q_l3, q_l4, q_l5, q_l6, q_l8, q_l9, q_l10, q_l12, q_l17, q_l32, q_l35, q_l48, q_l50, q_l54, q_l57, q_l64, q_l73, q_l118, q_l119, q_l120, q_l122, q_l126, q_l160, q_l256, q_l365, q_l372, q_l438, q_l1000, q_l100000, q_l1000000, q_modF hL.2.2.2.2.2.2.1, o1, o2, w6, hx, d1, d2, wm1, n6]
              · rw [if_neg d1, if_neg d2]
                refine ⟨fun _ => ?_, fun q => absurd rfl q⟩
                simp only [b_188_62, b_188_69, b_188_83, b_188_90, b_188_104, b_188_105, ↓reduceIte, Nat.reduceEqDiff, Nat.reduceMul, q_n10, q_n01, Option.bind_some, g_aft0, g_aft1, g_aft2, g_aft3, g_aft9, Nat.reduceAdd, m_kill_0, m_kill_2, m_kill_3, m_kill_4, m_kill_9, true_or, or_true, q_lm1, q_l0, q_l1, q_l2, q_l3, q_l4, q_l5, q_l6, q_l8, q_l9, q_l10, q_l12, q_l17, q_l32, q_l35, q_l48, q_l50, q_l54, q_l57, q_l64, q_l73, q_l118, q_l119, q_l120, q_l122, q_l126, q_l160, q_l256, q_l365, q_l372, q_l438, q_l1000, q_l100000, q_l1000000, q_modF hL.2.2.2.2.2.2.1, o1, o2, w6, w8, hx, d1, d2, wm1]
          have head : m_run Z (188, 32, [(2, ((191 : Nat) : Int)), (0, (a : Int)), (0, (b : Int)), (0, y), (0, (g : Int)), l5], [], (K, τ, 206, e, s)) = m_run Z (188, 62, [(2, ((191 : Nat) : Int)), (0, (a : Int)), (0, (b : Int)), (0, y), (0, (g : Int)), l5], [], (K, τ, 206, e, s)) := by
            conv => lhs; simp only [b_188_32, ↓reduceIte, Nat.reduceEqDiff, Nat.reduceMul, q_n10, q_n01, Option.bind_some, g_aft0, g_aft1, g_aft2, g_aft3, g_aft9, Nat.reduceAdd, m_kill_0, m_kill_2, m_kill_3, m_kill_4, m_kill_9, true_or, or_true, q_lm1, q_l0, q_l1, q_l2, q_l3, q_l4, q_l5, q_l6, q_l8, q_l9, q_l10, q_l12, q_l17, q_l32, q_l35, q_l48, q_l50, q_l54, q_l57, q_l64, q_l73, q_l118, q_l119, q_l120, q_l122, q_l126, q_l160, q_l256, q_l365, q_l372, q_l438, q_l1000, q_l100000, q_l1000000, q_modF hL.2.2.2.2.2.2.1, hm]
            simp only [b_188_38, b_188_41, b_188_46, ↓reduceIte, Nat.reduceEqDiff, Nat.reduceMul, q_n10, q_n01, Option.bind_some, g_aft0, g_aft1, g_aft2, g_aft3, g_aft9, Nat.reduceAdd, m_kill_0, m_kill_2, m_kill_3, m_kill_4, m_kill_9, true_or, or_true, q_lm1, q_l0, q_l1, q_l2, q_l3, q_l4, q_l5, q_l6, q_l8, q_l9, q_l10, q_l12, q_l17, q_l32, q_l35, q_l48, q_l50, q_l54, q_l57, q_l64, q_l73, q_l118, q_l119, q_l120, q_l122, q_l126, q_l160, q_l256, q_l365, q_l372, q_l438, q_l1000, q_l100000, q_l1000000, q_modF hL.2.2.2.2.2.2.1, wg, wm, cg, hx, hy, c1', i1, i2, i3, hf, wD, w1, c3']
          obtain ⟨v1, v2⟩ := hv _ rfl
          by_cases d1 : z_nv N a g = -1
          · refine ⟨(y, (0, -1)), ?_, ?_⟩
            · show m_run Z (188, 32, [(2, ((191 : Nat) : Int)), (0, (a : Int)), (0, (b : Int)), (0, y), (0, (g : Int)), l5], [], (K, τ, 206, e, s)) = m_run Z (188, 32, [(2, ((191 : Nat) : Int)), (0, (a : Int)), (0, (b : Int)), (0, y), (0, (g : Int) + 1), (0, -1)], [], (K, τ, 206, e, s))
              rw [head, v1 d1, b_188_161]
            · show z_nb N a b (g + 1) y
              have nq : ¬ z_nq N a b g := fun q => q.1 d1
              rcases hP with ⟨p1, p2⟩ | ⟨g0, p1, p2, p3, p4⟩
              · exact Or.inl ⟨p1, fun j hj => by rcases Nat.lt_succ_iff_lt_or_eq.mp hj with c | c; exact p2 j c; rw [c]; exact nq⟩
              · exact Or.inr ⟨g0, Nat.lt_succ_of_lt p1, p2, p3, fun j hj hq => by rcases Nat.lt_succ_iff_lt_or_eq.mp hj with c | c; exact p4 j c hq; rw [c] at hq; exact absurd hq nq⟩
          · obtain ⟨V, hV⟩ : ∃ V, V = (z_nv N a g).toNat := ⟨_, rfl⟩
            have eV : z_nv N a g = (V : Int) := by clear hx hy hA w1 wm1 wm i1 i2 i3 wc wD hf wg w6 w8; omega
            have Vn : V < w_nn N := by clear hx hy hA w1 wm1 wm i1 i2 i3 wc wD hf wg w6 w8; omega
            obtain ⟨j1, j2, j3⟩ := z_fix (a := V) (b := b) (by clear hx hy hA w1 wm1 wm i1 i2 i3 wc wD hf wg w6 w8; omega) (by clear hx hy hA w1 wm1 wm i1 i2 i3 wc wD hf wg w6 w8; omega)
            have hfV := t2 V b Vn bn
            have hcV := d_cap_lt hw (a := V) (b := b)
            have wS : w32 (N 10 g + d_cap (w_D N V b)) = N 10 g + d_cap (w_D N V b) := by clear hx hy hA w1 wm1 wm i1 i2 i3 wc wD hf wg w6 w8 j1 j2 j3; exact q_wi (by omega) (by omega)
            have hnq : z_nq N a b g ↔ N 10 g + d_cap (w_D N V b) = w_D N a b := by
              unfold z_nq
              rw [eV, Int.toNat_natCast]
              exact ⟨fun q => q.2, fun q => ⟨by omega, q⟩⟩
            have wV : w32 (V : Int) = (V : Int) := q_w (by clear hx hy hA w1 wm1 wm i1 i2 i3 wc wD hf wg w6 w8 j1 j2 j3 wS; omega)
            have yb : w32 y = y ∧ (y = -1 ∨ 0 ≤ y) := by
              rcases hP with ⟨p1, -⟩ | ⟨g0, p1, -, p3, -⟩
              · rw [p1]; exact ⟨wm1, Or.inl rfl⟩
              · have := z_nv_b hw (a := a) (Nat.lt_trans p1 hg)
                rw [p3]
                clear hx hy hA w1 wm1 wm i1 i2 i3 wc wD hf wg w6 w8 j1 j2 j3 wS wV
                exact ⟨q_wi (by omega) (by omega), by omega⟩
            obtain ⟨wy, ym⟩ := yb
            have v2' := v2 d1
            rw [eV] at v2'
            by_cases d2 : N 10 g + d_cap (w_D N V b) = w_D N a b
            · by_cases d3 : y = -1 ∨ (V : Int) < y
              · refine ⟨((V : Int), (0, (V : Int))), ?_, ?_⟩
                · show m_run Z (188, 32, [(2, ((191 : Nat) : Int)), (0, (a : Int)), (0, (b : Int)), (0, y), (0, (g : Int)), l5], [], (K, τ, 206, e, s)) = m_run Z (188, 32, [(2, ((191 : Nat) : Int)), (0, (a : Int)), (0, (b : Int)), (0, (V : Int)), (0, (g : Int) + 1), (0, (V : Int))], [], (K, τ, 206, e, s))
                  rw [head, v2']
                  by_cases d4 : y = -1
                  · rw [d4]
                    simp only [b_188_113, b_188_120, b_188_147, b_188_158, b_188_161, ↓reduceIte, Nat.reduceEqDiff, Nat.reduceMul, q_n10, q_n01, Option.bind_some, g_aft0, g_aft1, g_aft2, g_aft3, g_aft9, Nat.reduceAdd, m_kill_0, m_kill_2, m_kill_3, m_kill_4, m_kill_9, true_or, or_true, q_lm1, q_l0, q_l1, q_l2, q_l3, q_l4, q_l5, q_l6, q_l8, q_l9, q_l10, q_l12, q_l17, q_l32, q_l35, q_l48, q_l50, q_l54, q_l57, q_l64, q_l73, q_l118, q_l119, q_l120, q_l122, q_l126, q_l160, q_l256, q_l365, q_l372, q_l438, q_l1000, q_l100000, q_l1000000, q_modF hL.2.2.2.2.2.2.1, o3, i1, i2, i3, j1, j2, j3, hf, hfV, d2, wm1]
                  · have d5 : ¬ y ≤ (V : Int) := by clear hx hy hA w1 wm1 wm i1 i2 i3 wc wD hf wg w6 w8 j1 j2 j3 wS wV wy; omega
                    simp only [b_188_113, b_188_120, b_188_147, b_188_152, b_188_158, b_188_161, ↓reduceIte, Nat.reduceEqDiff, Nat.reduceMul, q_n10, q_n01, Option.bind_some, g_aft0, g_aft1, g_aft2, g_aft3, g_aft9, Nat.reduceAdd, m_kill_0, m_kill_2, m_kill_3, m_kill_4, m_kill_9, true_or, or_true, q_lm1, q_l0, q_l1, q_l2, q_l3, q_l4, q_l5, q_l6, q_l8, q_l9, q_l10, q_l12, q_l17, q_l32, q_l35, q_l48, q_l50, q_l54, q_l57, q_l64, q_l73, q_l118, q_l119, q_l120, q_l122, q_l126, q_l160, q_l256, q_l365, q_l372, q_l438, q_l1000, q_l100000, q_l1000000, q_modF hL.2.2.2.2.2.2.1, o3, i1, i2, i3, j1, j2, j3, hf, hfV, d2, wm1, wy, d4, wV, d5]
                · show z_nb N a b (g + 1) (V : Int)
                  refine Or.inr ⟨g, by omega, hnq.mpr d2, eV.symm, fun g' hg' hq => ?_⟩
                  rcases Nat.lt_succ_iff_lt_or_eq.mp hg' with c | c
                  · rcases hP with ⟨p1, p2⟩ | ⟨g0, p1, p2, p3, p4⟩
                    · exact absurd hq (p2 g' c)
                    · have := p4 g' c hq
                      rcases d3 with d3 | d3
                      · rcases z_nv_b hw (a := a) (Nat.lt_trans p1 hg) with hv0 | hv0
                        · exact absurd hv0 p2.1
                        · clear hx hy hA w1 wm1 wm i1 i2 i3 wc wD hf wg w6 w8 j1 j2 j3 wS wV wy; omega
                      · clear hx hy hA w1 wm1 wm i1 i2 i3 wc wD hf wg w6 w8 j1 j2 j3 wS wV wy; omega
                  · rw [c]; exact Int.le_refl _
              · refine ⟨(y, (0, (V : Int))), ?_, ?_⟩
                · show m_run Z (188, 32, [(2, ((191 : Nat) : Int)), (0, (a : Int)), (0, (b : Int)), (0, y), (0, (g : Int)), l5], [], (K, τ, 206, e, s)) = m_run Z (188, 32, [(2, ((191 : Nat) : Int)), (0, (a : Int)), (0, (b : Int)), (0, y), (0, (g : Int) + 1), (0, (V : Int))], [], (K, τ, 206, e, s))
                  rw [head, v2']
                  have d4 : ¬ y = -1 := fun q => d3 (Or.inl q)
                  have d5 : y ≤ (V : Int) := by clear hx hy hA w1 wm1 wm i1 i2 i3 wc wD hf wg w6 w8 j1 j2 j3 wS wV wy; omega
                  simp only [b_188_113, b_188_120, b_188_147, b_188_152, b_188_161, ↓reduceIte, Nat.reduceEqDiff, Nat.reduceMul, q_n10, q_n01, Option.bind_some, g_aft0, g_aft1, g_aft2, g_aft3, g_aft9, Nat.reduceAdd, m_kill_0, m_kill_2, m_kill_3, m_kill_4, m_kill_9, true_or, or_true, q_lm1, q_l0, q_l1, q_l2, q_l3, q_l4, q_l5, q_l6, q_l8, q_l9, q_l10, q_l12, q_l17, q_l32, q_l35, q_l48, q_l50, q_l54, q_l57, q_l64, q_l73, q_l118, q_l119, q_l120, q_l122, q_l126, q_l160, q_l256, q_l365, q_l372, q_l438, q_l1000, q_l100000, q_l1000000, q_modF hL.2.2.2.2.2.2.1, o3, i1, i2, i3, j1, j2, j3, hf, hfV, d2, wm1, wy, d4, wV, d5]
                · show z_nb N a b (g + 1) y
                  rcases hP with ⟨p1, -⟩ | ⟨g0, p1, p2, p3, p4⟩
                  · exact absurd (Or.inl p1) d3
                  · refine Or.inr ⟨g0, Nat.lt_succ_of_lt p1, p2, p3, fun g' hg' hq => ?_⟩
                    rcases Nat.lt_succ_iff_lt_or_eq.mp hg' with c | c
                    · exact p4 g' c hq
                    · rw [c, eV, ← p3]
                      clear hx hy hA w1 wm1 wm i1 i2 i3 wc wD hf wg w6 w8 j1 j2 j3 wS wV wy; omega
            · refine ⟨(y, (0, (V : Int))), ?_, ?_⟩
              · show m_run Z (188, 32, [(2, ((191 : Nat) : Int)), (0, (a : Int)), (0, (b : Int)), (0, y), (0, (g : Int)), l5], [], (K, τ, 206, e, s)) = m_run Z (188, 32, [(2, ((191 : Nat) : Int)), (0, (a : Int)), (0, (b : Int)), (0, y), (0, (g : Int) + 1), (0, (V : Int))], [], (K, τ, 206, e, s))
                rw [head, v2']
                simp only [b_188_113, b_188_120, b_188_161, ↓reduceIte, Nat.reduceEqDiff, Nat.reduceMul, q_n10, q_n01, Option.bind_some, g_aft0, g_aft1, g_aft2, g_aft3, g_aft9, Nat.reduceAdd, m_kill_0, m_kill_2, m_kill_3, m_kill_4, m_kill_9, true_or, or_true, q_lm1, q_l0, q_l1, q_l2, q_l3, q_l4, q_l5, q_l6, q_l8, q_l9, q_l10, q_l12, q_l17, q_l32, q_l35, q_l48, q_l50, q_l54, q_l57, q_l64, q_l73, q_l118, q_l119, q_l120, q_l122, q_l126, q_l160, q_l256, q_l365, q_l372, q_l438, q_l1000, q_l100000, q_l1000000, q_modF hL.2.2.2.2.2.2.1, o3, i1, i2, i3, j1, j2, j3, hf, hfV, wS, wD, d2]
              · show z_nb N a b (g + 1) y
                have nq : ¬ z_nq N a b g := fun q => d2 (hnq.mp q)
                rcases hP with ⟨p1, p2⟩ | ⟨g0, p1, p2, p3, p4⟩
                · exact Or.inl ⟨p1, fun j hj => by rcases Nat.lt_succ_iff_lt_or_eq.mp hj with c | c; exact p2 j c; rw [c]; exact nq⟩
                · exact Or.inr ⟨g0, Nat.lt_succ_of_lt p1, p2, p3, fun j hj hq => by rcases Nat.lt_succ_iff_lt_or_eq.mp hj with c | c; exact p4 j c hq; rw [c] at hq; exact absurd hq nq⟩) (w_ne N) 0 (-1, (9, 0)) (by clear hx hy hA w1 wm1 wm i1 i2 i3 wc wD hf; omega) (Or.inl ⟨rfl, fun g hg => absurd hg (by omega)⟩)
        have efs := z_nb_fs hw an bn c1 c2 Y2
        rw [← efs]
        refine Eq.trans Y1 ?_
        rw [m0.1] at hm wm
        conv => lhs; simp only [b_188_32, ↓reduceIte, Nat.reduceEqDiff, Nat.reduceMul, q_n10, q_n01, Option.bind_some, g_aft0, g_aft1, g_aft2, g_aft3, g_aft9, Nat.reduceAdd, m_kill_0, m_kill_2, m_kill_3, m_kill_4, m_kill_9, true_or, or_true, q_lm1, q_l0, q_l1, q_l2, q_l3, q_l4, q_l5, q_l6, q_l8, q_l9, q_l10, q_l12, q_l17, q_l32, q_l35, q_l48, q_l50, q_l54, q_l57, q_l64, q_l73, q_l118, q_l119, q_l120, q_l122, q_l126, q_l160, q_l256, q_l365, q_l372, q_l438, q_l1000, q_l100000, q_l1000000, q_modF hL.2.2.2.2.2.2.1, hm]
        simp only [b_188_38, b_188_167, ↓reduceIte, Nat.reduceEqDiff, Nat.reduceMul, q_n10, q_n01, Option.bind_some, g_aft0, g_aft1, g_aft2, g_aft3, g_aft9, Nat.reduceAdd, m_kill_0, m_kill_2, m_kill_3, m_kill_4, m_kill_9, true_or, or_true, q_lm1, q_l0, q_l1, q_l2, q_l3, q_l4, q_l5, q_l6, q_l8, q_l9, q_l10, q_l12, q_l17, q_l32, q_l35, q_l48, q_l50, q_l54, q_l57, q_l64, q_l73, q_l118, q_l119, q_l120, q_l122, q_l126, q_l160, q_l256, q_l365, q_l372, q_l438, q_l1000, q_l100000, q_l1000000, wm, Int.le_refl]
      · have c3 : (100000 : Int) ≤ d_cap (w_D N a b) := by have := fun q => c2 (hc.1.mp q); clear hx hy hA w1 wm1 wm i1 i2 i3 wc; omega
        have efs : w_fs N a b = -1 := by unfold w_fs; rw [if_pos (Or.inr c2)]
        rw [efs]
        by_cases ce : N 0 1 ≤ 0
        · conv => lhs; simp only [b_188_32, ↓reduceIte, Nat.reduceEqDiff, Nat.reduceMul, q_n10, q_n01, Option.bind_some, g_aft0, g_aft1, g_aft2, g_aft3, g_aft9, Nat.reduceAdd, m_kill_0, m_kill_2, m_kill_3, m_kill_4, m_kill_9, true_or, or_true, q_lm1, q_l0, q_l1, q_l2, q_l3, q_l4, q_l5, q_l6, q_l8, q_l9, q_l10, q_l12, q_l17, q_l32, q_l35, q_l48, q_l50, q_l54, q_l57, q_l64, q_l73, q_l118, q_l119, q_l120, q_l122, q_l126, q_l160, q_l256, q_l365, q_l372, q_l438, q_l1000, q_l100000, q_l1000000, q_modF hL.2.2.2.2.2.2.1, hm]
          simp only [b_188_38, b_188_167, ↓reduceIte, Nat.reduceEqDiff, Nat.reduceMul, q_n10, q_n01, Option.bind_some, g_aft0, g_aft1, g_aft2, g_aft3, g_aft9, Nat.reduceAdd, m_kill_0, m_kill_2, m_kill_3, m_kill_4, m_kill_9, true_or, or_true, q_lm1, q_l0, q_l1, q_l2, q_l3, q_l4, q_l5, q_l6, q_l8, q_l9, q_l10, q_l12, q_l17, q_l32, q_l35, q_l48, q_l50, q_l54, q_l57, q_l64, q_l73, q_l118, q_l119, q_l120, q_l122, q_l126, q_l160, q_l256, q_l365, q_l372, q_l438, q_l1000, q_l100000, q_l1000000, wm, ce]
        · conv => lhs; simp only [b_188_32, ↓reduceIte, Nat.reduceEqDiff, Nat.reduceMul, q_n10, q_n01, Option.bind_some, g_aft0, g_aft1, g_aft2, g_aft3, g_aft9, Nat.reduceAdd, m_kill_0, m_kill_2, m_kill_3, m_kill_4, m_kill_9, true_or, or_true, q_lm1, q_l0, q_l1, q_l2, q_l3, q_l4, q_l5, q_l6, q_l8, q_l9, q_l10, q_l12, q_l17, q_l32, q_l35, q_l48, q_l50, q_l54, q_l57, q_l64, q_l73, q_l118, q_l119, q_l120, q_l122, q_l126, q_l160, q_l256, q_l365, q_l372, q_l438, q_l1000, q_l100000, q_l1000000, q_modF hL.2.2.2.2.2.2.1, hm]
          simp only [b_188_38, b_188_41, b_188_46, b_188_167, ↓reduceIte, Nat.reduceEqDiff, Nat.reduceMul, q_n10, q_n01, Option.bind_some, g_aft0, g_aft1, g_aft2, g_aft3, g_aft9, Nat.reduceAdd, m_kill_0, m_kill_2, m_kill_3, m_kill_4, m_kill_9, true_or, or_true, q_lm1, q_l0, q_l1, q_l2, q_l3, q_l4, q_l5, q_l6, q_l8, q_l9, q_l10, q_l12, q_l17, q_l32, q_l35, q_l48, q_l50, q_l54, q_l57, q_l64, q_l73, q_l118, q_l119, q_l120, q_l122, q_l126, q_l160, q_l256, q_l365, q_l372, q_l438, q_l1000, q_l100000, q_l1000000, q_modF hL.2.2.2.2.2.2.1, wm, ce, hx, hy, c1', i1, i2, i3, hf, wc, w1, c3]
end
end
