section
/-! The greatest distance, the first step. -/
theorem q_fst_r {p : Nat → Bool} : ∀ (k i : Nat), (q_fst p i k = -1 ∧ ∀ j, i ≤ j → j < i + k → p j = false) ∨ ∃ j, i ≤ j ∧ j < i + k ∧ p j = true ∧ q_fst p i k = (j : Int) ∧ ∀ j', i ≤ j' → j' < j → p j' = false
  | 0, i => Or.inl ⟨rfl, fun j h1 h2 => absurd h2 (by omega)⟩
  | k + 1, i => by
    unfold q_fst
    by_cases h : p i = true
    · rw [if_pos h]
      exact Or.inr ⟨i, Nat.le_refl _, by omega, h, rfl, fun j' h1 h2 => absurd h2 (by omega)⟩
    · rw [if_neg h]
      have hf : p i = false := by simpa using h
      rcases q_fst_r (p := p) k (i + 1) with ⟨h1, h2⟩ | ⟨j, h1, h2, h3, h4, h5⟩
      · refine Or.inl ⟨h1, fun j a b => ?_⟩
        rcases Nat.eq_or_lt_of_le a with c | c
        · rw [← c]; exact hf
        · exact h2 j c (by omega)
      · refine Or.inr ⟨j, by omega, by omega, h3, h4, fun j' a b => ?_⟩
        rcases Nat.eq_or_lt_of_le a with c | c
        · rw [← c]; exact hf
        · exact h5 j' c b
def w_eb (N : Nat → Nat → Int) (a b : Nat) : Int := q_fst (fun i => decide (N 6 i = (a : Int) ∧ N 8 i = (b : Int) ∨ N 6 i = (b : Int) ∧ N 8 i = (a : Int))) 0 (w_ne N)
def w_fs (N : Nat → Nat → Int) (a b : Nat) : Int := if a = b ∨ ¬ w_D N a b < 1000000 then -1 else q_fst (fun i => decide (w_eb N a i ≠ -1 ∧ N 10 (w_eb N a i).toNat + w_D N i b = w_D N a b)) 0 (w_nn N)
section
variable {Z : mZ} {K : Nat → mK} {σ N : Nat → Nat → Int} {e s g i a b : Nat} {t p q : Int}
theorem n_eb {c : Nat} (hA : q_net K 191 c) (hn : nAt σ c N) (hw : q_wf N) (ha : a < 1000) (hb : b < 1000) : m_cl Z 21 [(2, ((c : Nat) : Int)), (0, (a : Int)), (0, (b : Int))] (K, σ, 191, e, s) = some (.inl (0, w_eb N a b), (K, σ, 191, e, s)) := by
  have m12 := (wf_e hw).2
  have hE : w32 (σ c 1) = (w_ne N : Int) := by
    rw [nAt_0 hn (by omega), (wf_e hw).1, q_w (by omega)]
  rw [n_between hA hE m12]
  have h : q_fst (q_jn σ c (a : Int) (b : Int)) 0 (w_ne N) = w_eb N a b := by
    refine q_fst_congr _ _ (fun j _ hj => ?_)
    obtain ⟨f1, f2, f3, f4, f5⟩ := wf_ed hw (e := j) (by omega)
    have n8 := (wf_n hw).2.2
    unfold q_jn
    rw [hn 6 j (by rw [q_len2]; simp; omega), hn 8 j (by rw [q_len2]; simp; omega), f1, f2, q_w (by omega), q_w (by omega), q_w (by omega), q_w (by omega)]
  rw [h]
theorem w_gd_b (hw : q_wf N) (n : Nat) : ∀ k, 0 ≤ q_it (fun a x => q_it (fun b y => if y < w_D N a b then w_D N a b else y) n x) k 0 ∧ q_it (fun a x => q_it (fun b y => if y < w_D N a b then w_D N a b else y) n x) k 0 ≤ 1000000 := by
  intro k
  refine q_it_inv (P := fun _ x => 0 ≤ x ∧ x ≤ 1000000) (n := k) ⟨by omega, by omega⟩ (fun a x _ hx => ?_) k (Nat.le_refl _)
  refine q_it_inv (P := fun _ x => 0 ≤ x ∧ x ≤ 1000000) (n := n) hx (fun b y _ hy => ?_) n (Nat.le_refl _)
  have := w_D_b hw a b
  split <;> omega
theorem s_greatest (hL : q_lay K) (ht : nAt σ 139 N) (hv : v_d σ N) (hw : q_wf N) : m_cl Z 75 [(2, ((138 : Nat) : Int))] (K, σ, 191, e, s) = some (.inl (0, w_gd (w_D N) (w_nn N)), (K, σ, 191, e, s)) := by
  have n8 := (wf_n hw).2.2
  have hn := v_n ht hw
  have w9 : w32 (w_nn N : Int) = (w_nn N : Int) := q_w (by omega)
  have hl := q_loopf (Z := Z) (N := w_nn N) (S := fun a => (75, 4, [(2, ((138 : Nat) : Int)), (0, q_it (fun a x => q_it (fun b y => if y < w_D N a b then w_D N a b else y) (w_nn N) x) a 0), (0, (a : Int)), (if a = 0 then (9, 0) else (0, (w_nn N : Int)))], [], (K, σ, 191, e, s))) (by
    intro a ha
    have c0 : ¬ (w_nn N : Int) ≤ (a : Int) := by omega
    have e1 : (((a + 1 : Nat)) : Int) = (a : Int) + 1 := by omega
    have bx := w_gd_b hw (w_nn N) a
    generalize hx : q_it (fun a x => q_it (fun b y => if y < w_D N a b then w_D N a b else y) (w_nn N) x) a 0 = x at *
    have hl2 := q_loopf (Z := Z) (N := w_nn N) (S := fun b => (75, 17, [(2, ((138 : Nat) : Int)), (0, q_it (fun b y => if y < w_D N a b then w_D N a b else y) b x), (0, (a : Int)), (0, (b : Int))], [], (K, σ, 191, e, s))) (by
      intro b hb
      have c1 : ¬ (w_nn N : Int) ≤ (b : Int) := by omega
      have e2 : (((b + 1 : Nat)) : Int) = (b : Int) + 1 := by omega
      have by1 := q_it_inv (f := fun b y => if y < w_D N a b then w_D N a b else y) (P := fun _ y => 0 ≤ y ∧ y ≤ 1000000) (n := b) (x := x) bx (fun b y _ hy => by
        have := w_D_b hw a b
        split <;> omega) b (Nat.le_refl _)
      have hd := w_D_b hw a b
      have wd : w32 (w_D N a b) = w_D N a b := q_wB (by omega) (by omega)
      rw [q_it_s]
      generalize q_it (fun b y => if y < w_D N a b then w_D N a b else y) b x = y at *
      have wy : w32 y = y := by clear wd; exact q_wB (by omega) (by omega)
      have w0 : w32 (b : Int) = (b : Int) := by clear wd wy; exact q_w (by omega)
      conv => lhs; simp only [b_75_17, ↓reduceIte, Nat.reduceEqDiff, Nat.reduceMul, q_n10, q_n01, Option.bind_some, g_aft0, g_aft1, g_aft2, g_aft3, g_aft9, Nat.reduceAdd, m_kill_0, m_kill_2, m_kill_3, m_kill_4, m_kill_9, true_or, or_true, q_lm1, q_l0, q_l1, q_l2, q_l3, q_l4, q_l5, q_l6, q_l8, q_l9, q_l10, q_l12, q_l32, q_l50, q_l120, q_l122, q_l126, q_l372, q_l1000, q_l1000000, q_surF hL.2.2.1, q_tkF hL.2.1, hn, w0, c1]
      simp only [b_75_28, b_75_35, ↓reduceIte, Nat.reduceEqDiff, Nat.reduceMul, q_n10, q_n01, Option.bind_some, g_aft0, g_aft1, g_aft2, g_aft3, g_aft9, Nat.reduceAdd, m_kill_0, m_kill_2, m_kill_3, m_kill_4, m_kill_9, true_or, or_true, q_lm1, q_l0, q_l1, q_l2, q_l3, q_l4, q_l5, q_l6, q_l8, q_l9, q_l10, q_l12, q_l32, q_l50, q_l120, q_l122, q_l126, q_l372, q_l1000, q_l1000000, q_surF hL.2.2.1, q_tkF hL.2.1, s_between hL, v_bet hv hw ha hb, wd, wy, e2])
    have w0 : w32 (a : Int) = (a : Int) := q_w (by omega)
    conv => lhs; simp only [b_75_4, b_75_15, ↓reduceIte, Nat.reduceEqDiff, Nat.reduceMul, q_n10, q_n01, Option.bind_some, g_aft0, g_aft1, g_aft2, g_aft3, g_aft9, Nat.reduceAdd, m_kill_0, m_kill_2, m_kill_3, m_kill_4, m_kill_9, true_or, or_true, q_lm1, q_l0, q_l1, q_l2, q_l3, q_l4, q_l5, q_l6, q_l8, q_l9, q_l10, q_l12, q_l32, q_l50, q_l120, q_l122, q_l126, q_l372, q_l1000, q_l1000000, q_surF hL.2.2.1, q_tkF hL.2.1, hn, w0, c0]
    refine Eq.trans hl2 ?_
    rw [if_neg (show ¬ a + 1 = 0 by clear w0; omega), q_it_s, hx]
    simp only [b_75_17, b_75_45, ↓reduceIte, Nat.reduceEqDiff, Nat.reduceMul, q_n10, q_n01, Option.bind_some, g_aft0, g_aft1, g_aft2, g_aft3, g_aft9, Nat.reduceAdd, m_kill_0, m_kill_2, m_kill_3, m_kill_4, m_kill_9, true_or, or_true, q_lm1, q_l0, q_l1, q_l2, q_l3, q_l4, q_l5, q_l6, q_l8, q_l9, q_l10, q_l12, q_l32, q_l50, q_l120, q_l122, q_l126, q_l372, q_l1000, q_l1000000, q_surF hL.2.2.1, q_tkF hL.2.1, hn, w9, Int.le_refl, e1])
  rw [e_75, b_75_0]
  refine hl.trans ?_
  simp only [b_75_4, b_75_51, ↓reduceIte, Nat.reduceEqDiff, Nat.reduceMul, q_n10, q_n01, Option.bind_some, g_aft0, g_aft1, g_aft2, g_aft3, g_aft9, Nat.reduceAdd, m_kill_0, m_kill_2, m_kill_3, m_kill_4, m_kill_9, true_or, or_true, q_lm1, q_l0, q_l1, q_l2, q_l3, q_l4, q_l5, q_l6, q_l8, q_l9, q_l10, q_l12, q_l32, q_l50, q_l120, q_l122, q_l126, q_l372, q_l1000, q_l1000000, q_surF hL.2.2.1, q_tkF hL.2.1, hn, w9, Int.le_refl]
  rfl
theorem s_first (hL : q_lay K) (ht : nAt σ 139 N) (hv : v_d σ N) (hw : q_wf N) (ha : a < w_nn N) (hb : b < w_nn N) : m_cl Z 76 [(2, ((138 : Nat) : Int)), (0, (a : Int)), (0, (b : Int))] (K, σ, 191, e, s) = some (.inl (0, w_fs N a b), (K, σ, 191, e, s)) := by
  have n8 := (wf_n hw).2.2
  have m12 := (wf_e hw).2
  have dab := w_D_b hw a b
  have hn := v_n ht hw
  have wa : w32 (a : Int) = (a : Int) := q_w (by omega)
  have wb : w32 (b : Int) = (b : Int) := q_w (by omega)
  have wab : w32 (w_D N a b) = w_D N a b := q_wB (by omega) (by omega)
  by_cases c1 : a = b
  · unfold w_fs
    rw [if_pos (Or.inl c1)]
    subst c1
    simp only [e_76, b_76_0, b_76_16, ↓reduceIte, Nat.reduceEqDiff, Nat.reduceMul, q_n10, q_n01, Option.bind_some, g_aft0, g_aft1, g_aft2, g_aft3, g_aft9, Nat.reduceAdd, m_kill_0, m_kill_2, m_kill_3, m_kill_4, m_kill_9, true_or, or_true, q_lm1, q_l0, q_l1, q_l2, q_l3, q_l4, q_l5, q_l6, q_l8, q_l9, q_l10, q_l12, q_l32, q_l50, q_l120, q_l122, q_l126, q_l372, q_l1000, q_l1000000]
  · have c1' : ¬ (a : Int) = (b : Int) := by clear wa wb wab hn; omega
    by_cases c2 : w_D N a b < 1000000
    · have key : ∀ k i l4, i + k = w_nn N → m_run Z (76, 20, [(2, ((138 : Nat) : Int)), (0, (a : Int)), (0, (b : Int)), (0, (i : Int)), l4], [], (K, σ, 191, e, s)) = some (.inl (0, q_fst (fun i => decide (w_eb N a i ≠ -1 ∧ N 10 (w_eb N a i).toNat + w_D N i b = w_D N a b)) i k), (K, σ, 191, e, s)) := by
        intro k
        induction k with
        | zero =>
          intro i l4 hi
          have c3 : (w_nn N : Int) ≤ (i : Int) := by clear wa wb wab hn; omega
          have w0 : w32 (i : Int) = (i : Int) := q_w (by clear wa wb wab hn; omega)
          simp only [b_76_20, b_76_78, ↓reduceIte, Nat.reduceEqDiff, Nat.reduceMul, q_n10, q_n01, Option.bind_some, g_aft0, g_aft1, g_aft2, g_aft3, g_aft9, Nat.reduceAdd, m_kill_0, m_kill_2, m_kill_3, m_kill_4, m_kill_9, true_or, or_true, q_lm1, q_l0, q_l1, q_l2, q_l3, q_l4, q_l5, q_l6, q_l8, q_l9, q_l10, q_l12, q_l32, q_l50, q_l120, q_l122, q_l126, q_l372, q_l1000, q_l1000000, q_surF hL.2.2.1, q_tkF hL.2.1, hn, w0, c3]
          rfl
        | succ k ih =>
          intro i l4 hi
          have c3 : ¬ (w_nn N : Int) ≤ (i : Int) := by clear wa wb wab hn; omega
          have e1 : (((i + 1 : Nat)) : Int) = (i : Int) + 1 := by clear wa wb wab hn; omega
          have ih' := fun l4 => ih (i + 1) l4 (by clear wa wb wab hn; omega)
          rw [e1] at ih'
          have dib := w_D_b hw i b
          have hi2 : i < w_nn N := by clear wa wb wab hn; omega
          have heb := n_eb (Z := Z) (e := e) (s := s) (a := a) (b := i) (q_tkF hL.2.1).1 ht hw (by clear wa wb wab hn; omega) (by clear wa wb wab hn; omega)
          have w0 : w32 (i : Int) = (i : Int) := q_w (by clear wa wb wab hn; omega)
          rw [q_fst_s]
          conv => lhs; simp only [b_76_20, ↓reduceIte, Nat.reduceEqDiff, Nat.reduceMul, q_n10, q_n01, Option.bind_some, g_aft0, g_aft1, g_aft2, g_aft3, g_aft9, Nat.reduceAdd, m_kill_0, m_kill_2, m_kill_3, m_kill_4, m_kill_9, true_or, or_true, q_lm1, q_l0, q_l1, q_l2, q_l3, q_l4, q_l5, q_l6, q_l8, q_l9, q_l10, q_l12, q_l32, q_l50, q_l120, q_l122, q_l126, q_l372, q_l1000, q_l1000000, q_surF hL.2.2.1, q_tkF hL.2.1, hn, w0, c3]
          simp only [b_76_31, ↓reduceIte, Nat.reduceEqDiff, Nat.reduceMul, q_n10, q_n01, Option.bind_some, g_aft0, g_aft1, g_aft2, g_aft3, g_aft9, Nat.reduceAdd, m_kill_0, m_kill_2, m_kill_3, m_kill_4, m_kill_9, true_or, or_true, q_lm1, q_l0, q_l1, q_l2, q_l3, q_l4, q_l5, q_l6, q_l8, q_l9, q_l10, q_l12, q_l32, q_l50, q_l120, q_l122, q_l126, q_l372, q_l1000, q_l1000000, q_surF hL.2.2.1, q_tkF hL.2.1, heb]
          rcases q_fst_r (p := fun j => decide (N 6 j = (a : Int) ∧ N 8 j = (i : Int) ∨ N 6 j = (i : Int) ∧ N 8 j = (a : Int))) (w_ne N) 0 with ⟨r1, -⟩ | ⟨j, -, r2, -, r3, -⟩
          · have hE : w_eb N a i = -1 := r1
            simp only [b_76_40, b_76_72, ↓reduceIte, Nat.reduceEqDiff, Nat.reduceMul, q_n10, q_n01, Option.bind_some, g_aft0, g_aft1, g_aft2, g_aft3, g_aft9, Nat.reduceAdd, m_kill_0, m_kill_2, m_kill_3, m_kill_4, m_kill_9, true_or, or_true, q_lm1, q_l0, q_l1, q_l2, q_l3, q_l4, q_l5, q_l6, q_l8, q_l9, q_l10, q_l12, q_l32, q_l50, q_l120, q_l122, q_l126, q_l372, q_l1000, q_l1000000, hE, ih', ne_eq, not_true_eq_false, false_and, decide_false, Bool.false_eq_true, if_false]
          · have hE : w_eb N a i = (j : Int) := r3
            have hj : j < w_ne N := by clear wa wb wab hn w0 heb; omega
            have c4 : ¬ (j : Int) = -1 := by clear wa wb wab hn w0 heb; omega
            have fe := wf_ed hw hj
            have wj : w32 (j : Int) = (j : Int) := q_w (by clear wa wb wab hn w0 heb; omega)
            have ws : w32 (N 10 j + w_D N i b) = N 10 j + w_D N i b := by clear wa wb wab hn w0 heb wj; exact q_wB (by omega) (by omega)
            rw [hE]
            simp only [b_76_40, b_76_48, b_76_54, b_76_60, b_76_67, b_76_70, b_76_72, ↓reduceIte, Nat.reduceEqDiff, Nat.reduceMul, q_n10, q_n01, Option.bind_some, g_aft0, g_aft1, g_aft2, g_aft3, g_aft9, Nat.reduceAdd, m_kill_0, m_kill_2, m_kill_3, m_kill_4, m_kill_9, true_or, or_true, q_lm1, q_l0, q_l1, q_l2, q_l3, q_l4, q_l5, q_l6, q_l8, q_l9, q_l10, q_l12, q_l32, q_l50, q_l120, q_l122, q_l126, q_l372, q_l1000, q_l1000000, q_surF hL.2.2.1, q_tkF hL.2.1, wj, c4, s_lengthOf hL, v_len ht hw hj, s_between hL, v_bet hv hw hi2 hb, v_bet hv hw ha hb, ws, wab, ih', Int.toNat_natCast, ne_eq, not_false_eq_true, true_and, decide_eq_true_eq]
            by_cases c5 : N 10 j + w_D N i b = w_D N a b
            · rw [if_pos c5, if_pos c5]
            · rw [if_neg c5, if_neg c5]
      unfold w_fs
      rw [if_neg (by rintro (h | h); exact c1 h; exact h c2)]
      simp only [e_76, b_76_0, b_76_5, b_76_11, b_76_18, ↓reduceIte, Nat.reduceEqDiff, Nat.reduceMul, q_n10, q_n01, Option.bind_some, g_aft0, g_aft1, g_aft2, g_aft3, g_aft9, Nat.reduceAdd, m_kill_0, m_kill_2, m_kill_3, m_kill_4, m_kill_9, true_or, or_true, q_lm1, q_l0, q_l1, q_l2, q_l3, q_l4, q_l5, q_l6, q_l8, q_l9, q_l10, q_l12, q_l32, q_l50, q_l120, q_l122, q_l126, q_l372, q_l1000, q_l1000000, q_surF hL.2.2.1, q_tkF hL.2.1, wa, wb, c1', s_between hL, v_bet hv hw ha hb, wab, c2]
      exact key (w_nn N) 0 _ (by clear wa wb wab hn; omega)
    · unfold w_fs
      rw [if_pos (Or.inr c2)]
      simp only [e_76, b_76_0, b_76_5, b_76_11, b_76_16, ↓reduceIte, Nat.reduceEqDiff, Nat.reduceMul, q_n10, q_n01, Option.bind_some, g_aft0, g_aft1, g_aft2, g_aft3, g_aft9, Nat.reduceAdd, m_kill_0, m_kill_2, m_kill_3, m_kill_4, m_kill_9, true_or, or_true, q_lm1, q_l0, q_l1, q_l2, q_l3, q_l4, q_l5, q_l6, q_l8, q_l9, q_l10, q_l12, q_l32, q_l50, q_l120, q_l122, q_l126, q_l372, q_l1000, q_l1000000, q_surF hL.2.2.1, q_tkF hL.2.1, wa, wb, c1', s_between hL, v_bet hv hw ha hb, wab, c2]
end
end
