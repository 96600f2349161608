section
/-! Coverings. -/
section
variable {Z : mZ} {K : Nat → mK} {σ τ N : Nat → Nat → Int} {e s g i m : Nat} {t p q v : Int}
theorem p_within {j : Nat} (hL : q_lay K) (hj : w_eo σ j) (h1 : j < 768) (hp : 0 ≤ p ∧ p ≤ 2147483647) (hq : 1 ≤ q ∧ q ≤ 1000) : m_cl Z 10 [(2, ((177 : Nat) : Int)), (0, (j : Int)), (0, p), (0, q)] (K, σ, 191, e, s) = some (.inl (0, if w_F2 σ j ≤ fr p q then 1 else 0), (K, σ, 191, e, s)) := by
  have hle : (w_F2 σ j ≤ fr p q) = (σ 179 j * q ≤ p * σ 181 j) := fr_le (by have := hj.1; omega) (by omega)
  obtain ⟨a1, a2, a3, a4⟩ := hj
  have m1 := q_mb a3 a4 (show 0 ≤ q by omega) hq.2
  have m2 := q_mb hp.1 hp.2 (show 0 ≤ σ 181 j by omega) a2
  have z1 : w64 (σ 179 j * q) = σ 179 j * q := q_w64 (by omega) (by omega)
  have z2 : w64 (p * σ 181 j) = p * σ 181 j := by clear z1; exact q_w64 (by omega) (by omega)
  have y1 : w32 (σ 179 j) = σ 179 j := by clear z1 z2; exact q_wB (by omega) (by omega)
  have y2 : w32 (σ 181 j) = σ 181 j := by clear z1 z2 y1; exact q_wB (by omega) (by omega)
  have y3 : w32 p = p := by clear z1 z2 y1 y2; exact q_wB (by omega) (by omega)
  have y4 : w32 q = q := by clear z1 z2 y1 y2 y3; exact q_wB (by omega) (by omega)
  have r1 : q_get σ 179 768 (j : Int) = σ 179 j := q_get_nat h1 (by omega)
  have r2 : q_get σ 181 768 (j : Int) = σ 181 j := q_get_nat h1 (by omega)
  by_cases c : σ 179 j * q ≤ p * σ 181 j
  · have c' := Int.not_lt.mpr c
    rw [if_pos (by rw [hle]; exact c)]
    simp only [e_10, b_10_0, b_10_8, b_10_22, b_10_28, b_10_32, b_10_33, ↓reduceIte, Nat.reduceEqDiff, Nat.reduceMul, q_n10, q_n01, Option.bind_some, g_aft0, g_aft1, g_aft2, g_aft3, g_aft9, Nat.reduceAdd, m_kill_0, m_kill_2, m_kill_3, m_kill_4, m_kill_9, true_or, or_true, q_lm1, q_l0, q_l1, q_l2, q_l3, q_l4, q_l5, q_l6, q_l8, q_l9, q_l10, q_l12, q_l32, q_l50, q_l120, q_l122, q_l126, q_l372, q_l1000, q_l1000000, q_grpF hL.2.2.2.2.1, r_get, r1, r2, y1, y2, y3, y4, l_cg z2 z1, l_cg z1 z2, c', true_or, or_true]
  · have c' := Int.not_le.mp c
    rw [if_neg (by rw [hle]; exact c)]
    simp only [e_10, b_10_0, b_10_8, b_10_22, b_10_28, b_10_32, b_10_33, ↓reduceIte, Nat.reduceEqDiff, Nat.reduceMul, q_n10, q_n01, Option.bind_some, g_aft0, g_aft1, g_aft2, g_aft3, g_aft9, Nat.reduceAdd, m_kill_0, m_kill_2, m_kill_3, m_kill_4, m_kill_9, true_or, or_true, q_lm1, q_l0, q_l1, q_l2, q_l3, q_l4, q_l5, q_l6, q_l8, q_l9, q_l10, q_l12, q_l32, q_l50, q_l120, q_l122, q_l126, q_l372, q_l1000, q_l1000000, q_grpF hL.2.2.2.2.1, r_get, r1, r2, y1, y2, y3, y4, l_cg z2 z1, l_cg z1 z2, c', true_or, or_true]
def w_fs1 (f1 : Nat → Rat) (x : Rat) (M : Int) (c : Nat → Int) (S : Nat) (v : Int) : Prop := v ≤ M ∧ (∀ a, 1 ≤ a → a ≤ S → w_sub a S = true → f1 a ≤ x → v ≤ c (S - a) + 1) ∧ (v = M ∨ ∃ a, 1 ≤ a ∧ a ≤ S ∧ w_sub a S = true ∧ f1 a ≤ x ∧ v = c (S - a) + 1)
theorem p_fewest (hL : q_lay K) (hw : q_wf N) (hv : w_gv σ N t) (hp : 0 ≤ p ∧ p ≤ 2147483647) (hq : 1 ≤ q ∧ q ≤ 1000) : ∃ c : Nat → Int, m_cl Z 9 [(2, ((177 : Nat) : Int)), (0, p), (0, q)] (K, σ, 191, e, s) = some (.inl (0, c (2 ^ w_nn N - 1)), (K, q_put σ 185 c, 191, e, s)) ∧ w_few (fun a => w_F2 σ a) (fr p q) 8 (2 ^ w_nn N - 1) c := by
  obtain ⟨v1, v2, -⟩ := hv
  have p8 := q_pow8 (wf_n hw).2.2
  generalize hA : 2 ^ w_nn N - 1 = A at *
  have inner : ∀ S, 1 ≤ S → S ≤ A → ∀ (c : Nat → Int), (∀ j, j < S → 0 ≤ c j ∧ c j ≤ 8) → ∃ (v : Int), m_run Z (9, 26, [(2, ((177 : Nat) : Int)), (0, p), (0, q), (0, (S : Int)), (0, 8), (0, ((1 : Nat) : Int))], [], (K, q_put σ 185 c, 191, e, s)) = m_run Z (9, 26, [(2, ((177 : Nat) : Int)), (0, p), (0, q), (0, (S : Int)), (0, v), (0, ((S + 1 : Nat) : Int))], [], (K, q_put σ 185 c, 191, e, s)) ∧ 0 ≤ v ∧ w_fs1 (fun a => w_F2 σ a) (fr p q) 8 c S v := by
    intro S hS hS2 c hc
    obtain ⟨v, h1, h2, h3, h4, h5⟩ := q_loop (Z := Z) (N := S) (S := fun i (v : Int) => (9, 26, [(2, ((177 : Nat) : Int)), (0, p), (0, q), (0, (S : Int)), (0, v), (0, ((i + 1 : Nat) : Int))], [], (K, q_put σ 185 c, 191, e, s))) (P := fun i v => 0 ≤ v ∧ v ≤ 8 ∧ (∀ a, 1 ≤ a → a < i + 1 → w_sub a S = true → w_F2 σ a ≤ fr p q → v ≤ c (S - a) + 1) ∧ (v = 8 ∨ ∃ a, 1 ≤ a ∧ a < i + 1 ∧ w_sub a S = true ∧ w_F2 σ a ≤ fr p q ∧ v = c (S - a) + 1)) (by
      intro i v hi ⟨x1, x2, x3, x4⟩
      have c0 : ¬ (S : Int) < ((i + 1 : Nat) : Int) := by omega
      have e1 : ((i + 1 + 1 : Nat) : Int) = ((i + 1 : Nat) : Int) + 1 := by omega
      have hse := q_subE (a := i + 1) (S := S) (by omega) (by omega)
      have wi : w32 ((i + 1 : Nat) : Int) = ((i + 1 : Nat) : Int) := q_w (by clear hse; omega)
      have wS : w32 (S : Int) = (S : Int) := q_w (by clear hse wi; omega)
      by_cases d : w_sub (i + 1) S = true
      · have ea : w_eo (q_put σ 185 c) (i + 1) := by
          have := (v2 (i + 1) (by clear hse wi wS; omega)).1
          unfold w_eo
          rw [q_put_ne (by omega), q_put_ne (by omega)]
          exact this
        have eF : w_F2 (q_put σ 185 c) (i + 1) = w_F2 σ (i + 1) := by
          unfold w_F2
          rw [q_put_ne (by omega), q_put_ne (by omega)]
        have L := p_within (Z := Z) (e := e) (s := s) (σ := q_put σ 185 c) hL ea (by clear hse wi wS; omega) hp hq
        rw [eF] at L
        have e3 : (S : Int) - ((i + 1 : Nat) : Int) = ((S - (i + 1) : Nat) : Int) := by clear hse wi wS; omega
        by_cases d2 : w_F2 σ (i + 1) ≤ fr p q
        · rw [if_pos d2] at L
          have hcj := hc (S - (i + 1)) (by clear hse wi wS; omega)
          have g1 : q_get (q_put σ 185 c) 185 256 ((S - (i + 1) : Nat) : Int) = c (S - (i + 1)) := by
            rw [q_get_nat (by clear hse wi wS; omega) (by omega), q_put_at]
          have wv : w32 v = v := q_wi (by clear hse wi wS g1; omega) (by clear hse wi wS g1; omega)
          have wc : w32 (c (S - (i + 1)) + 1) = c (S - (i + 1)) + 1 := q_wi (by clear hse wi wS g1 wv; omega) (by clear hse wi wS g1 wv; omega)
          refine ⟨if c (S - (i + 1)) + 1 < v then c (S - (i + 1)) + 1 else v, ?_, ?_, ?_, fun a a1 a2 a3 a4 => ?_, ?_⟩
          · conv => lhs; simp only [b_9_26, ↓reduceIte, Nat.reduceEqDiff, Nat.reduceMul, q_n10, q_n01, Option.bind_some, g_aft0, g_aft1, g_aft2, g_aft3, g_aft9, Nat.reduceAdd, m_kill_0, m_kill_2, m_kill_3, m_kill_4, m_kill_9, true_or, or_true, q_lm1, q_l0, q_l1, q_l2, q_l3, q_l4, q_l5, q_l6, q_l8, q_l9, q_l10, q_l12, q_l32, q_l50, q_l120, q_l122, q_l126, q_l372, q_l1000, q_l1000000, wi, wS, c0]
            simp only [b_9_32, hse, d, b_9_41, b_9_49, b_9_52, b_9_65, b_9_72, ↓reduceIte, Nat.reduceEqDiff, Nat.reduceMul, q_n10, q_n01, Option.bind_some, g_aft0, g_aft1, g_aft2, g_aft3, g_aft9, Nat.reduceAdd, m_kill_0, m_kill_2, m_kill_3, m_kill_4, m_kill_9, true_or, or_true, q_lm1, q_l0, q_l1, q_l2, q_l3, q_l4, q_l5, q_l6, q_l8, q_l9, q_l10, q_l12, q_l32, q_l50, q_l120, q_l122, q_l126, q_l372, q_l1000, q_l1000000, q_grpF hL.2.2.2.2.1, L, e3, r_get, g1, wv, wc, e1]
          · clear hse wi wS g1 wv wc
            split <;> omega
          · clear hse wi wS g1 wv wc
            split <;> omega
          · rcases Nat.lt_succ_iff_lt_or_eq.mp a2 with a2 | a2
            · have := x3 a a1 a2 a3 a4
              clear hse wi wS g1 wv wc
              split <;> omega
            · subst a2
              clear hse wi wS g1 wv wc
              split <;> omega
          · by_cases d3 : c (S - (i + 1)) + 1 < v
            · rw [if_pos d3]
              exact Or.inr ⟨i + 1, by clear hse wi wS g1 wv wc; omega, by clear hse wi wS g1 wv wc; omega, d, d2, rfl⟩
            · rw [if_neg d3]
              rcases x4 with x4 | ⟨a, a1, a2, a3⟩
              · exact Or.inl x4
              · exact Or.inr ⟨a, a1, by clear hse wi wS g1 wv wc; omega, a3⟩
        · rw [if_neg d2] at L
          refine ⟨v, ?_, x1, x2, fun a a1 a2 a3 a4 => ?_, ?_⟩
          · conv => lhs; simp only [b_9_26, ↓reduceIte, Nat.reduceEqDiff, Nat.reduceMul, q_n10, q_n01, Option.bind_some, g_aft0, g_aft1, g_aft2, g_aft3, g_aft9, Nat.reduceAdd, m_kill_0, m_kill_2, m_kill_3, m_kill_4, m_kill_9, true_or, or_true, q_lm1, q_l0, q_l1, q_l2, q_l3, q_l4, q_l5, q_l6, q_l8, q_l9, q_l10, q_l12, q_l32, q_l50, q_l120, q_l122, q_l126, q_l372, q_l1000, q_l1000000, wi, wS, c0]
            simp only [b_9_32, hse, d, b_9_41, b_9_49, b_9_72, ↓reduceIte, Nat.reduceEqDiff, Nat.reduceMul, q_n10, q_n01, Option.bind_some, g_aft0, g_aft1, g_aft2, g_aft3, g_aft9, Nat.reduceAdd, m_kill_0, m_kill_2, m_kill_3, m_kill_4, m_kill_9, true_or, or_true, q_lm1, q_l0, q_l1, q_l2, q_l3, q_l4, q_l5, q_l6, q_l8, q_l9, q_l10, q_l12, q_l32, q_l50, q_l120, q_l122, q_l126, q_l372, q_l1000, q_l1000000, q_grpF hL.2.2.2.2.1, L, e1]
          · rcases Nat.lt_succ_iff_lt_or_eq.mp a2 with a2 | a2
            · exact x3 a a1 a2 a3 a4
            · subst a2
              exact absurd a4 d2
          · rcases x4 with x4 | ⟨a, a1, a2, a3⟩
            · exact Or.inl x4
            · exact Or.inr ⟨a, a1, by clear hse wi wS; omega, a3⟩
      · refine ⟨v, ?_, x1, x2, fun a a1 a2 a3 a4 => ?_, ?_⟩
        · conv => lhs; simp only [b_9_26, ↓reduceIte, Nat.reduceEqDiff, Nat.reduceMul, q_n10, q_n01, Option.bind_some, g_aft0, g_aft1, g_aft2, g_aft3, g_aft9, Nat.reduceAdd, m_kill_0, m_kill_2, m_kill_3, m_kill_4, m_kill_9, true_or, or_true, q_lm1, q_l0, q_l1, q_l2, q_l3, q_l4, q_l5, q_l6, q_l8, q_l9, q_l10, q_l12, q_l32, q_l50, q_l120, q_l122, q_l126, q_l372, q_l1000, q_l1000000, wi, wS, c0]
          simp only [b_9_32, hse, d, b_9_72, ↓reduceIte, Nat.reduceEqDiff, Nat.reduceMul, q_n10, q_n01, Option.bind_some, g_aft0, g_aft1, g_aft2, g_aft3, g_aft9, Nat.reduceAdd, m_kill_0, m_kill_2, m_kill_3, m_kill_4, m_kill_9, true_or, or_true, q_lm1, q_l0, q_l1, q_l2, q_l3, q_l4, q_l5, q_l6, q_l8, q_l9, q_l10, q_l12, q_l32, q_l50, q_l120, q_l122, q_l126, q_l372, q_l1000, q_l1000000, e1, Bool.false_eq_true]
        · rcases Nat.lt_succ_iff_lt_or_eq.mp a2 with a2 | a2
          · exact x3 a a1 a2 a3 a4
          · subst a2
            exact absurd a3 d
        · rcases x4 with x4 | ⟨a, a1, a2, a3⟩
          · exact Or.inl x4
          · exact Or.inr ⟨a, a1, by clear hse wi wS; omega, a3⟩) S 0 8 (by omega) ⟨by omega, by omega, fun a a1 a2 => absurd a2 (by omega), Or.inl rfl⟩
    refine ⟨v, h1, h2, h3, fun a a1 a2 => h4 a a1 (by omega), ?_⟩
    rcases h5 with h5 | ⟨a, a1, a2, a3⟩
    · exact Or.inl h5
    · exact Or.inr ⟨a, a1, by omega, a3⟩
  obtain ⟨x, h1, h2, h3, h4⟩ := q_loop (Z := Z) (N := A) (S := fun k (x : (Nat → Int) × mV × mV) => (9, 11, [(2, ((177 : Nat) : Int)), (0, p), (0, q), (0, ((k + 1 : Nat) : Int)), x.2.1, x.2.2], [], (K, q_put σ 185 x.1, 191, e, s))) (P := fun k x => x.1 0 = 0 ∧ (∀ j, j < k + 1 → 0 ≤ x.1 j ∧ x.1 j ≤ 8) ∧ ∀ S, 1 ≤ S → S < k + 1 → w_fs1 (fun a => w_F2 σ a) (fr p q) 8 x.1 S (x.1 S)) (by
    intro k x hk ⟨x1, x2, x3⟩
    obtain ⟨v, i1, i2, i3⟩ := inner (k + 1) (by omega) hk x.1 (fun j hj => x2 j hj)
    have c0 : ¬ (A : Int) < ((k + 1 : Nat) : Int) := by omega
    have e1 : ((k + 1 + 1 : Nat) : Int) = ((k + 1 : Nat) : Int) + 1 := by omega
    have o1 : ((1 : Nat) : Int) = 1 := rfl
    rw [o1] at i1
    refine ⟨(m_up x.1 (k + 1) v, (0, v), (0, ((k + 1 + 1 : Nat) : Int))), ?_, ?_, fun j hj => ?_, fun S hS hS2 => ?_⟩
    · have hr : ∀ v, q_set (q_put σ 185 x.1) 185 256 ((k + 1 : Nat) : Int) v = q_put σ 185 (m_up x.1 (k + 1) v) := fun v => by
        rw [q_set_nat (by omega) (by omega), q_up_pt]
      have c1 : ((k + 1 : Nat) : Int) < ((k + 1 + 1 : Nat) : Int) := by omega
      have wA : w32 (A : Int) = (A : Int) := q_w (by omega)
      have wk : w32 ((k + 1 : Nat) : Int) = ((k + 1 : Nat) : Int) := q_w (by clear wA; omega)
      have wk2 : w32 ((k + 1 + 1 : Nat) : Int) = ((k + 1 + 1 : Nat) : Int) := q_w (by clear wA wk; omega)
      conv => lhs; simp only [b_9_11, ↓reduceIte, Nat.reduceEqDiff, Nat.reduceMul, q_n10, q_n01, Option.bind_some, g_aft0, g_aft1, g_aft2, g_aft3, g_aft9, Nat.reduceAdd, m_kill_0, m_kill_2, m_kill_3, m_kill_4, m_kill_9, true_or, or_true, q_lm1, q_l0, q_l1, q_l2, q_l3, q_l4, q_l5, q_l6, q_l8, q_l9, q_l10, q_l12, q_l32, q_l50, q_l120, q_l122, q_l126, q_l372, q_l1000, q_l1000000, q_grpF hL.2.2.2.2.1, q_put_ap, v1, wA, wk, c0]
      simp only [b_9_19, ↓reduceIte, Nat.reduceEqDiff, Nat.reduceMul, q_n10, q_n01, Option.bind_some, g_aft0, g_aft1, g_aft2, g_aft3, g_aft9, Nat.reduceAdd, m_kill_0, m_kill_2, m_kill_3, m_kill_4, m_kill_9, true_or, or_true, q_lm1, q_l0, q_l1, q_l2, q_l3, q_l4, q_l5, q_l6, q_l8, q_l9, q_l10, q_l12, q_l32, q_l50, q_l120, q_l122, q_l126, q_l372, q_l1000, q_l1000000]
      refine Eq.trans i1 ?_
      simp only [b_9_26, b_9_78, b_9_88, ↓reduceIte, Nat.reduceEqDiff, Nat.reduceMul, q_n10, q_n01, Option.bind_some, g_aft0, g_aft1, g_aft2, g_aft3, g_aft9, Nat.reduceAdd, m_kill_0, m_kill_2, m_kill_3, m_kill_4, m_kill_9, true_or, or_true, q_lm1, q_l0, q_l1, q_l2, q_l3, q_l4, q_l5, q_l6, q_l8, q_l9, q_l10, q_l12, q_l32, q_l50, q_l120, q_l122, q_l126, q_l372, q_l1000, q_l1000000, q_grpF hL.2.2.2.2.1, wk, wk2, c1, r_set, hr]
      rw [e1]
    · show m_up x.1 (k + 1) v 0 = 0
      rw [m_up_ne (by omega)]
      exact x1
    · show 0 ≤ m_up x.1 (k + 1) v j ∧ m_up x.1 (k + 1) v j ≤ 8
      by_cases d : j = k + 1
      · subst d
        rw [m_up_at]
        exact ⟨i2, i3.1⟩
      · rw [m_up_ne d]
        exact x2 j (by omega)
    · show w_fs1 _ _ 8 (m_up x.1 (k + 1) v) S (m_up x.1 (k + 1) v S)
      have hlow : ∀ j, j < k + 1 → m_up x.1 (k + 1) v j = x.1 j := fun j hj => m_up_ne (by omega)
      have gen : ∀ w, w_fs1 (fun a => w_F2 σ a) (fr p q) 8 x.1 S w → w_fs1 (fun a => w_F2 σ a) (fr p q) 8 (m_up x.1 (k + 1) v) S w := by
        intro w ⟨g1, g2, g3⟩
        refine ⟨g1, fun a a1 a2 a3 a4 => ?_, ?_⟩
        · rw [hlow _ (by omega)]
          exact g2 a a1 a2 a3 a4
        · rcases g3 with g3 | ⟨a, a1, a2, a3, a4, a5⟩
          · exact Or.inl g3
          · exact Or.inr ⟨a, a1, a2, a3, a4, by rw [hlow _ (by omega)]; exact a5⟩
      by_cases d : S = k + 1
      · subst d
        rw [m_up_at]
        exact gen v i3
      · rw [m_up_ne d]
        exact gen _ (x3 S hS (by omega))) A 0 (m_up (σ 185) 0 0, (9, 0), (9, 0)) (by omega) ⟨(m_up_at : m_up (σ 185) 0 0 0 = 0), fun j hj => by
    have hj : j = 0 := by omega
    subst hj
    show 0 ≤ m_up (σ 185) 0 0 0 ∧ m_up (σ 185) 0 0 0 ≤ 8
    rw [m_up_at]
    omega, fun S hS hS2 => absurd hS2 (by omega)⟩
  refine ⟨x.1, ?_, h2, fun S hS hS2 => h4 S hS (by omega)⟩
  have h0 : q_set σ 185 256 0 0 = q_put σ 185 (m_up (σ 185) 0 0) := by
    have := q_set_nat (σ := σ) (c := 185) (L := 256) (i := 0) (v := 0) (by omega) (by omega)
    rw [q_up_put] at this
    exact this
  have z1 : ((0 + 1 : Nat) : Int) = 1 := rfl
  rw [z1] at h1
  have c1 : (A : Int) < ((A + 1 : Nat) : Int) := by clear h0; omega
  have gA : q_get (q_put σ 185 x.1) 185 256 (A : Int) = x.1 A := by rw [q_get_nat (by clear h0; omega) (by omega), q_put_at]
  have wA : w32 (A : Int) = (A : Int) := q_w (by clear h0 gA; omega)
  have wk2 : w32 ((A + 1 : Nat) : Int) = ((A + 1 : Nat) : Int) := q_w (by clear h0 gA wA; omega)
  simp only [e_9, b_9_0, b_9_9, ↓reduceIte, Nat.reduceEqDiff, Nat.reduceMul, q_n10, q_n01, Option.bind_some, g_aft0, g_aft1, g_aft2, g_aft3, g_aft9, Nat.reduceAdd, m_kill_0, m_kill_2, m_kill_3, m_kill_4, m_kill_9, true_or, or_true, q_lm1, q_l0, q_l1, q_l2, q_l3, q_l4, q_l5, q_l6, q_l8, q_l9, q_l10, q_l12, q_l32, q_l50, q_l120, q_l122, q_l126, q_l372, q_l1000, q_l1000000, q_grpF hL.2.2.2.2.1, r_set, h0]
  refine Eq.trans h1 ?_
  simp only [b_9_11, b_9_94, b_9_105, ↓reduceIte, Nat.reduceEqDiff, Nat.reduceMul, q_n10, q_n01, Option.bind_some, g_aft0, g_aft1, g_aft2, g_aft3, g_aft9, Nat.reduceAdd, m_kill_0, m_kill_2, m_kill_3, m_kill_4, m_kill_9, true_or, or_true, q_lm1, q_l0, q_l1, q_l2, q_l3, q_l4, q_l5, q_l6, q_l8, q_l9, q_l10, q_l12, q_l32, q_l50, q_l120, q_l122, q_l126, q_l372, q_l1000, q_l1000000, q_grpF hL.2.2.2.2.1, q_put_ap, v1, wA, wk2, c1, r_get, gA]
end
end
