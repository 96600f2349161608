section
/-! Groups: divisions. -/
def r_mx (a b : Rat) : Rat := if a < b then b else a
def w_isR (N : Nat → Nat → Int) (t : Int) (S : Nat) (x : Rat) : Prop := (∃ y, y ∈ w_pts N t ∧ x = fr (w_Hv N t (S : Int) y) y.2.2) ∧ ∀ y, y ∈ w_pts N t → x ≤ fr (w_Hv N t (S : Int) y) y.2.2
def w_isD (f1 fk : Nat → Rat) (S : Nat) (x : Rat) : Prop := (∃ a, a < 256 ∧ w_sub a S = true ∧ x = r_mx (f1 a) (fk (S - a))) ∧ ∀ a, a < 256 → w_sub a S = true → x ≤ r_mx (f1 a) (fk (S - a))
theorem q_subE {a S : Nat} (ha : a < 256) (hS : S < 256) : (w32 (i_and (a : Int) (S : Int)) = w32 (a : Int)) = (w_sub a S = true) := by
  have h1 : a &&& S ≤ a := Nat.and_le_left
  rw [q_and ha hS, q_w (by omega), q_w (by omega)]
  unfold w_sub
  rw [decide_eq_true_eq]
  apply propext
  omega
section
variable {Z : mZ} {K : Nat → mK} {σ τ N : Nat → Nat → Int} {e s g i m : Nat} {t p q v : Int}
theorem w_F2_lt {j k : Nat} (hj : w_eo σ j) (hk : w_eo σ k) : (w_F2 σ j < w_F2 σ k) = (σ 179 j * σ 181 k < σ 179 k * σ 181 j) := fr_lt (by have := hj.1; omega) (by have := hk.1; omega)
theorem w_F2_0 {j k : Nat} (h0 : σ 179 j = 0) (hj : w_eo σ j) (hk : w_eo σ k) : w_F2 σ j ≤ w_F2 σ k := by
  rw [← Rat.not_lt, w_F2_lt hk hj, h0, Int.zero_mul]
  have := Int.mul_nonneg hk.2.2.1 (show 0 ≤ σ 181 j by have := hj.1; omega)
  omega
theorem p_less {j k : Nat} (hL : q_lay K) (hj : w_eo σ j) (hk : w_eo σ k) (h1 : j < 768) (h2 : k < 768) : m_cl Z 5 [(2, ((177 : Nat) : Int)), (0, (j : Int)), (0, (k : Int))] (K, σ, 191, e, s) = some (.inl (0, if w_F2 σ j < w_F2 σ k then 1 else 0), (K, σ, 191, e, s)) := by
  have hlt := w_F2_lt hj hk
  obtain ⟨a1, a2, a3, a4⟩ := hj
  obtain ⟨b1, b2, b3, b4⟩ := hk
  have m1 := q_mb a3 a4 (show 0 ≤ σ 181 k by omega) b2
  have m2 := q_mb b3 b4 (show 0 ≤ σ 181 j by omega) a2
  have z1 : w64 (σ 179 j * σ 181 k) = σ 179 j * σ 181 k := q_w64 (by omega) (by omega)
  have z2 : w64 (σ 179 k * σ 181 j) = σ 179 k * σ 181 j := by clear z1; exact q_w64 (by omega) (by omega)
  have y1 : w32 (σ 179 j) = σ 179 j := by clear z1 z2; exact q_wB (by omega) (by omega)
  have y2 : w32 (σ 181 j) = σ 181 j := by clear z1 z2 y1; exact q_wB (by omega) (by omega)
  have y3 : w32 (σ 179 k) = σ 179 k := by clear z1 z2 y1 y2; exact q_wB (by omega) (by omega)
  have y4 : w32 (σ 181 k) = σ 181 k := by clear z1 z2 y1 y2 y3; exact q_wB (by omega) (by omega)
  have r1 : q_get σ 179 768 (j : Int) = σ 179 j := q_get_nat h1 (by omega)
  have r2 : q_get σ 181 768 (j : Int) = σ 181 j := q_get_nat h1 (by omega)
  have r3 : q_get σ 179 768 (k : Int) = σ 179 k := q_get_nat h2 (by omega)
  have r4 : q_get σ 181 768 (k : Int) = σ 181 k := q_get_nat h2 (by omega)
  by_cases c : σ 179 j * σ 181 k < σ 179 k * σ 181 j
  · have c' := Int.not_le.mpr c
    rw [if_pos (by rw [hlt]; exact c)]
    simp only [e_5, b_5_0, b_5_8, b_5_17, b_5_27, b_5_36, b_5_42, b_5_46, b_5_47, ↓reduceIte, Nat.reduceEqDiff, Nat.reduceMul, q_n10, q_n01, Option.bind_some, g_aft0, g_aft1, g_aft2, g_aft3, g_aft9, Nat.reduceAdd, m_kill_0, m_kill_2, m_kill_3, m_kill_4, m_kill_9, true_or, or_true, q_lm1, q_l0, q_l1, q_l2, q_l3, q_l4, q_l5, q_l6, q_l8, q_l9, q_l10, q_l12, q_l32, q_l50, q_l120, q_l122, q_l126, q_l372, q_l1000, q_l1000000, q_grpF hL.2.2.2.2.1, r_get, r1, r2, r3, r4, y1, y2, y3, y4, l_cge z1 z2, c']
  · have c' := Int.not_lt.mp c
    rw [if_neg (by rw [hlt]; exact c)]
    simp only [e_5, b_5_0, b_5_8, b_5_17, b_5_27, b_5_36, b_5_42, b_5_46, b_5_47, ↓reduceIte, Nat.reduceEqDiff, Nat.reduceMul, q_n10, q_n01, Option.bind_some, g_aft0, g_aft1, g_aft2, g_aft3, g_aft9, Nat.reduceAdd, m_kill_0, m_kill_2, m_kill_3, m_kill_4, m_kill_9, true_or, or_true, q_lm1, q_l0, q_l1, q_l2, q_l3, q_l4, q_l5, q_l6, q_l8, q_l9, q_l10, q_l12, q_l32, q_l50, q_l120, q_l122, q_l126, q_l372, q_l1000, q_l1000000, q_grpF hL.2.2.2.2.1, r_get, r1, r2, r3, r4, y1, y2, y3, y4, l_cge z1 z2, c', true_or]
theorem p_divide {k : Int} {B S : Nat} (hL : q_lay K) (hk : (k = 2 ∧ B = 0) ∨ (k = 3 ∧ B = 256)) (hS : S < 256) (h0 : σ 179 0 = 0) (h1 : ∀ a, a < 256 → w_sub a S = true → w_eo σ a ∧ w_eo σ (B + a)) : ∃ b x, m_cl Z 6 [(2, ((177 : Nat) : Int)), (0, k), (0, (S : Int))] (K, σ, 191, e, s) = some (.inl (9, 0), (K, m_up2 (m_up2 σ 179 (B + 256 + S) (σ 179 b)) 181 (B + 256 + S) (σ 181 b), 191, e, s)) ∧ w_eo σ b ∧ x = w_F2 σ b ∧ w_isD (fun a => w_F2 σ a) (fun a => w_F2 σ (B + a)) S x := by
  have k1 : ∀ a : Nat, ((k - 1) - 1) * 256 + (a : Int) = ((B + a : Nat) : Int) := fun a => by rcases hk with ⟨rfl, rfl⟩ | ⟨rfl, rfl⟩ <;> omega
  have k2 : (k - 1) * 256 + (S : Int) = ((B + 256 + S : Nat) : Int) := by rcases hk with ⟨rfl, rfl⟩ | ⟨rfl, rfl⟩ <;> omega
  have hB : B ≤ 256 := by rcases hk with ⟨rfl, rfl⟩ | ⟨rfl, rfl⟩ <;> omega
  have e0 := (h1 0 (by omega) w_sub_0).1
  have eS := (h1 S hS w_sub_r).2
  obtain ⟨y, y1, y2, y3, y4⟩ := q_loop (Z := Z) (N := S) (S := fun i (x : Nat × mV × mV) => (6, 11, [(2, ((177 : Nat) : Int)), (0, k), (0, (S : Int)), (0, (x.1 : Int)), (0, ((i + 1 : Nat) : Int)), x.2.1, x.2.2], [], (K, σ, 191, e, s))) (P := fun i x => (x.1 < 768 ∧ w_eo σ x.1) ∧ (∃ a, a < i + 1 ∧ w_sub a S = true ∧ w_F2 σ x.1 = r_mx (w_F2 σ a) (w_F2 σ (B + (S - a)))) ∧ ∀ a, a < i + 1 → w_sub a S = true → w_F2 σ x.1 ≤ r_mx (w_F2 σ a) (w_F2 σ (B + (S - a)))) (by
    intro i x hi ⟨⟨b1, b2⟩, ⟨a0, b3, b4, b5⟩, b6⟩
    have e1 : (((i + 1 + 1 : Nat)) : Int) = ((i + 1 : Nat) : Int) + 1 := by omega
    have c0 : ¬ (S : Int) < ((i + 1 : Nat) : Int) := by omega
    have hse := q_subE (a := i + 1) (S := S) (by omega) hS
    have wS : w32 (S : Int) = (S : Int) := q_w (by clear hse; omega)
    have wi : w32 ((i + 1 : Nat) : Int) = ((i + 1 : Nat) : Int) := q_w (by clear hse wS; omega)
    by_cases c : w_sub (i + 1) S = true
    · obtain ⟨s1, s2, -⟩ := w_sub_le hS (show i + 1 < 256 by clear hse wS wi; omega) c
      have ea := (h1 (i + 1) (by clear hse wS wi; omega) c).1
      have er := (h1 (S - (i + 1)) (by clear hse wS wi; omega) s2).2
      have e3 : (S : Int) - ((i + 1 : Nat) : Int) = ((S - (i + 1) : Nat) : Int) := by clear hse wS wi; omega
      have L1 := p_less (Z := Z) (e := e) (s := s) hL ea er (by clear hse wS wi; omega) (by clear hse wS wi; omega)
      -- the worse one
      obtain ⟨w, w1, w2, w3, w4, w5⟩ : ∃ w m5, w < 768 ∧ w_eo σ w ∧ w_F2 σ w = r_mx (w_F2 σ (i + 1)) (w_F2 σ (B + (S - (i + 1)))) ∧ m_run Z (6, 11, [(2, ((177 : Nat) : Int)), (0, k), (0, (S : Int)), (0, (x.1 : Int)), (0, ((i + 1 : Nat) : Int)), x.2.1, x.2.2], [], (K, σ, 191, e, s)) = m_run Z (6, 65, [(2, ((177 : Nat) : Int)), (0, k), (0, (S : Int)), (0, (x.1 : Int)), (0, ((i + 1 : Nat) : Int)), (0, m5), (0, (w : Int))], [(0, if w_F2 σ w < w_F2 σ x.1 then 1 else 0)], (K, σ, 191, e, s)) := by
        by_cases d : w_F2 σ (i + 1) < w_F2 σ (B + (S - (i + 1)))
        · refine ⟨B + (S - (i + 1)), ((B + (S - (i + 1)) : Nat) : Int), by clear hse wS wi; omega, er, by unfold r_mx; rw [if_pos d], ?_⟩
          have L2 := p_less (Z := Z) (e := e) (s := s) hL er b2 (by clear hse wS wi; omega) b1
          rw [if_pos d] at L1
          conv => lhs; simp only [b_6_11, ↓reduceIte, Nat.reduceEqDiff, Nat.reduceMul, q_n10, q_n01, Option.bind_some, g_aft0, g_aft1, g_aft2, g_aft3, g_aft9, Nat.reduceAdd, m_kill_0, m_kill_2, m_kill_3, m_kill_4, m_kill_9, true_or, or_true, q_lm1, q_l0, q_l1, q_l2, q_l3, q_l4, q_l5, q_l6, q_l8, q_l9, q_l10, q_l12, q_l32, q_l50, q_l120, q_l122, q_l126, q_l372, q_l1000, q_l1000000, wS, wi, c0]
          simp only [b_6_17, hse, c, b_6_26, e_1, b_1_0, e3, k1, b_6_36, b_6_46, b_6_49, ↓reduceIte, Nat.reduceEqDiff, Nat.reduceMul, q_n10, q_n01, Option.bind_some, g_aft0, g_aft1, g_aft2, g_aft3, g_aft9, Nat.reduceAdd, m_kill_0, m_kill_2, m_kill_3, m_kill_4, m_kill_9, true_or, or_true, q_lm1, q_l0, q_l1, q_l2, q_l3, q_l4, q_l5, q_l6, q_l8, q_l9, q_l10, q_l12, q_l32, q_l50, q_l120, q_l122, q_l126, q_l372, q_l1000, q_l1000000, q_grpF hL.2.2.2.2.1, L1, L2]
        · refine ⟨i + 1, ((B + (S - (i + 1)) : Nat) : Int), by clear hse wS wi; omega, ea, by unfold r_mx; rw [if_neg d], ?_⟩
          have L2 := p_less (Z := Z) (e := e) (s := s) hL ea b2 (by clear hse wS wi; omega) b1
          rw [if_neg d] at L1
          conv => lhs; simp only [b_6_11, ↓reduceIte, Nat.reduceEqDiff, Nat.reduceMul, q_n10, q_n01, Option.bind_some, g_aft0, g_aft1, g_aft2, g_aft3, g_aft9, Nat.reduceAdd, m_kill_0, m_kill_2, m_kill_3, m_kill_4, m_kill_9, true_or, or_true, q_lm1, q_l0, q_l1, q_l2, q_l3, q_l4, q_l5, q_l6, q_l8, q_l9, q_l10, q_l12, q_l32, q_l50, q_l120, q_l122, q_l126, q_l372, q_l1000, q_l1000000, wS, wi, c0]
          simp only [b_6_17, hse, c, b_6_26, e_1, b_1_0, e3, k1, b_6_36, b_6_46, b_6_54, b_6_56, ↓reduceIte, Nat.reduceEqDiff, Nat.reduceMul, q_n10, q_n01, Option.bind_some, g_aft0, g_aft1, g_aft2, g_aft3, g_aft9, Nat.reduceAdd, m_kill_0, m_kill_2, m_kill_3, m_kill_4, m_kill_9, true_or, or_true, q_lm1, q_l0, q_l1, q_l2, q_l3, q_l4, q_l5, q_l6, q_l8, q_l9, q_l10, q_l12, q_l32, q_l50, q_l120, q_l122, q_l126, q_l372, q_l1000, q_l1000000, q_grpF hL.2.2.2.2.1, L1, L2]
      by_cases d : w_F2 σ w < w_F2 σ x.1
      · refine ⟨(w, (0, w1), (0, (w : Int))), ?_, ⟨w2, w3⟩, ⟨i + 1, by omega, c, w4⟩, fun a ha hs => ?_⟩
        · refine w5.trans ?_
          rw [if_pos d]
          simp only [b_6_65, b_6_68, b_6_75, ↓reduceIte, Nat.reduceEqDiff, Nat.reduceMul, q_n10, q_n01, Option.bind_some, g_aft0, g_aft1, g_aft2, g_aft3, g_aft9, Nat.reduceAdd, m_kill_0, m_kill_2, m_kill_3, m_kill_4, m_kill_9, true_or, or_true, q_lm1, q_l0, q_l1, q_l2, q_l3, q_l4, q_l5, q_l6, q_l8, q_l9, q_l10, q_l12, q_l32, q_l50, q_l120, q_l122, q_l126, q_l372, q_l1000, q_l1000000, e1]
        · rcases Nat.lt_succ_iff_lt_or_eq.mp ha with ha | ha
          · have := b6 a ha hs
            show w_F2 σ w ≤ _
            grind
          · subst ha
            show w_F2 σ w ≤ _
            rw [w4]
            exact Rat.le_refl
      · refine ⟨(x.1, (0, w1), (0, (w : Int))), ?_, ⟨b1, b2⟩, ⟨a0, by omega, b4, b5⟩, fun a ha hs => ?_⟩
        · refine w5.trans ?_
          rw [if_neg d]
          simp only [b_6_65, b_6_73, b_6_74, b_6_75, ↓reduceIte, Nat.reduceEqDiff, Nat.reduceMul, q_n10, q_n01, Option.bind_some, g_aft0, g_aft1, g_aft2, g_aft3, g_aft9, Nat.reduceAdd, m_kill_0, m_kill_2, m_kill_3, m_kill_4, m_kill_9, true_or, or_true, q_lm1, q_l0, q_l1, q_l2, q_l3, q_l4, q_l5, q_l6, q_l8, q_l9, q_l10, q_l12, q_l32, q_l50, q_l120, q_l122, q_l126, q_l372, q_l1000, q_l1000000, e1]
        · rcases Nat.lt_succ_iff_lt_or_eq.mp ha with ha | ha
          · exact b6 a ha hs
          · subst ha
            show w_F2 σ x.1 ≤ _
            rw [← w4]
            exact Rat.not_lt.mp d
    · refine ⟨x, ?_, ⟨b1, b2⟩, ⟨a0, by omega, b4, b5⟩, fun a ha hs => ?_⟩
      · conv => lhs; simp only [b_6_11, ↓reduceIte, Nat.reduceEqDiff, Nat.reduceMul, q_n10, q_n01, Option.bind_some, g_aft0, g_aft1, g_aft2, g_aft3, g_aft9, Nat.reduceAdd, m_kill_0, m_kill_2, m_kill_3, m_kill_4, m_kill_9, true_or, or_true, q_lm1, q_l0, q_l1, q_l2, q_l3, q_l4, q_l5, q_l6, q_l8, q_l9, q_l10, q_l12, q_l32, q_l50, q_l120, q_l122, q_l126, q_l372, q_l1000, q_l1000000, wS, wi, c0]
        simp only [b_6_17, hse, c, b_6_75, ↓reduceIte, Nat.reduceEqDiff, Nat.reduceMul, q_n10, q_n01, Option.bind_some, g_aft0, g_aft1, g_aft2, g_aft3, g_aft9, Nat.reduceAdd, m_kill_0, m_kill_2, m_kill_3, m_kill_4, m_kill_9, true_or, or_true, q_lm1, q_l0, q_l1, q_l2, q_l3, q_l4, q_l5, q_l6, q_l8, q_l9, q_l10, q_l12, q_l32, q_l50, q_l120, q_l122, q_l126, q_l372, q_l1000, q_l1000000, e1, Bool.false_eq_true]
      · rcases Nat.lt_succ_iff_lt_or_eq.mp ha with ha | ha
        · exact b6 a ha hs
        · subst ha
          exact absurd hs c) S 0 (B + S, (9, 0), (9, 0)) (by omega) (by
    have hr : r_mx (w_F2 σ 0) (w_F2 σ (B + (S - 0))) = w_F2 σ (B + S) := by
      unfold r_mx
      rw [Nat.sub_zero]
      have := w_F2_0 h0 e0 eS
      split
      · rfl
      · next h => exact Rat.le_antisymm this (Rat.not_lt.mp h)
    refine ⟨⟨by show B + S < 768; omega, eS⟩, ⟨0, by omega, w_sub_0, hr.symm⟩, fun a ha hs => ?_⟩
    have ha : a = 0 := by omega
    subst ha
    rw [hr]
    exact Rat.le_refl)
  refine ⟨y.1, _, ?_, y2.2, rfl, ?_, ?_⟩
  · have z0 : ((0 + 1 : Nat) : Int) = 1 := rfl
    rw [z0] at y1
    have wS : w32 (S : Int) = (S : Int) := q_w (by clear k2; omega)
    have wS1 : w32 ((S + 1 : Nat) : Int) = ((S + 1 : Nat) : Int) := q_w (by clear k2 wS; omega)
    have c1 : (S : Int) < ((S + 1 : Nat) : Int) := by clear wS wS1 k2; omega
    have r1 : ∀ z, q_get z 179 768 (y.1 : Int) = z 179 y.1 := fun z => q_get_nat y2.1 (by omega)
    have r2 : ∀ z, q_get z 181 768 (y.1 : Int) = z 181 y.1 := fun z => q_get_nat y2.1 (by omega)
    have r3 : ∀ z v, q_set z 179 768 ((B + 256 + S : Nat) : Int) v = m_up2 z 179 (B + 256 + S) v := fun z v => q_set_nat (by clear wS wS1 k2; omega) (by omega)
    have r4 : ∀ z v, q_set z 181 768 ((B + 256 + S : Nat) : Int) v = m_up2 z 181 (B + 256 + S) v := fun z v => q_set_nat (by clear wS wS1 k2; omega) (by omega)
    simp only [e_6, b_6_0, b_6_7, e_1, b_1_0, k1, ↓reduceIte, Nat.reduceEqDiff, Nat.reduceMul, q_n10, q_n01, Option.bind_some, g_aft0, g_aft1, g_aft2, g_aft3, g_aft9, Nat.reduceAdd, m_kill_0, m_kill_2, m_kill_3, m_kill_4, m_kill_9, true_or, or_true, q_lm1, q_l0, q_l1, q_l2, q_l3, q_l4, q_l5, q_l6, q_l8, q_l9, q_l10, q_l12, q_l32, q_l50, q_l120, q_l122, q_l126, q_l372, q_l1000, q_l1000000]
    refine Eq.trans y1 ?_
    simp only [b_6_11, b_6_81, b_6_90, b_6_98, b_6_101, b_6_110, b_6_118, b_6_121, ↓reduceIte, Nat.reduceEqDiff, Nat.reduceMul, q_n10, q_n01, Option.bind_some, g_aft0, g_aft1, g_aft2, g_aft3, g_aft9, Nat.reduceAdd, m_kill_0, m_kill_2, m_kill_3, m_kill_4, m_kill_9, true_or, or_true, q_lm1, q_l0, q_l1, q_l2, q_l3, q_l4, q_l5, q_l6, q_l8, q_l9, q_l10, q_l12, q_l32, q_l50, q_l120, q_l122, q_l126, q_l372, q_l1000, q_l1000000, q_grpF hL.2.2.2.2.1, wS, wS1, c1, e_1, b_1_0, k2, r_get, r_set, r1, r2, r3, r4, m_up2_ne, ne_eq, not_false_eq_true]
  · obtain ⟨a, a1, a2, a3⟩ := y3
    exact ⟨a, by omega, a2, a3⟩
  · intro a ha hs
    exact y4 a (by have := (w_sub_le hS ha hs).1; omega) hs
end
end
