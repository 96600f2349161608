section
/-! The class's helpers: lowest terms, refusals. -/
def w_red (x y part : Int) : Int := (((if part = 0 then x.toNat else y.toNat) / Nat.gcd x.toNat y.toNat : Nat) : Int)
theorem w_redU {x y x' y' part : Int} (hx : 0 ≤ x) (hy : 0 < y) (hx' : 0 ≤ x') (hy' : 0 < y') (h : fr x y = fr x' y') : w_red x y part = w_red x' y' part := by
  rw [fr_eq hy hy'] at h
  unfold w_red
  obtain ⟨a, rfl⟩ := Int.eq_ofNat_of_zero_le hx
  obtain ⟨b, rfl⟩ := Int.eq_ofNat_of_zero_le (Int.le_of_lt hy)
  obtain ⟨c, rfl⟩ := Int.eq_ofNat_of_zero_le hx'
  obtain ⟨d, rfl⟩ := Int.eq_ofNat_of_zero_le (Int.le_of_lt hy')
  simp only [Int.toNat_natCast]
  have h2 : a * d = c * b := by exact_mod_cast h
  have g1 : a * Nat.gcd c d = c * Nat.gcd a b := by
    rw [← Nat.gcd_mul_left, ← Nat.gcd_mul_left, h2, Nat.mul_comm a c]
  have g2 : b * Nat.gcd c d = d * Nat.gcd a b := by
    rw [← Nat.gcd_mul_left, ← Nat.gcd_mul_left, Nat.mul_comm b c, ← h2, Nat.mul_comm a d, Nat.mul_comm b d]
  have p1 : 0 < Nat.gcd a b := Nat.gcd_pos_of_pos_right a (by omega)
  have p2 : 0 < Nat.gcd c d := Nat.gcd_pos_of_pos_right c (by omega)
  have key : ∀ u w, Nat.gcd a b ∣ u → Nat.gcd c d ∣ w → u * Nat.gcd c d = w * Nat.gcd a b → u / Nat.gcd a b = w / Nat.gcd c d := by
    rintro u w ⟨u', rfl⟩ ⟨w', rfl⟩ he
    rw [Nat.mul_div_cancel_left u' p1, Nat.mul_div_cancel_left w' p2]
    have he2 : (Nat.gcd a b * Nat.gcd c d) * u' = (Nat.gcd a b * Nat.gcd c d) * w' := by
      rw [Nat.mul_assoc, Nat.mul_comm (Nat.gcd c d) u', ← Nat.mul_assoc, he, Nat.mul_comm (Nat.gcd c d) w', Nat.mul_assoc, Nat.mul_comm (Nat.gcd c d) (Nat.gcd a b), Nat.mul_comm]
    exact Nat.eq_of_mul_eq_mul_left (Nat.mul_pos p1 p2) he2
  by_cases hp : part = 0
  · rw [if_pos hp, if_pos hp, key a c (Nat.gcd_dvd_left a b) (Nat.gcd_dvd_left c d) g1]
  · rw [if_neg hp, if_neg hp, key b d (Nat.gcd_dvd_right a b) (Nat.gcd_dvd_right c d) g2]
theorem m_hanN : ∀ m : Fin 241, m_han m.val = [] := by decide +kernel
section
variable {Z : mZ} {K : Nat → mK} {σ τ N : Nat → Nat → Int} {e s g i L n : Nat} {t p q v b : Int} {h : mH}
theorem g_aftE {m pc E : Nat} {ls rest : List mV} {h' : mH} (hm : m < 241) : m_aft (m_run Z) m pc ls rest (.inr E, h') = some (.inr E, h') := g_aftx (m_hanN ⟨m, hm⟩)
theorem rq_S : m_cl Z 1000 [(0, b)] h = if w32 b = 0 then some (.inr 0, m_thr h) else some (.inl (9, 0), h) := by
  rw [g_prm (by decide)]
  show some (if w32 b = 0 then _ else _) = _
  split <;> rfl
theorem rq_V : m_cl Z 1001 [(0, b)] h = if w32 b = 0 then some (.inr 1, m_thr h) else some (.inl (9, 0), h) := by
  rw [g_prm (by decide)]
  show some (if w32 b = 0 then _ else _) = _
  split <;> rfl
theorem rq_N : m_cl Z 1002 [(0, b)] h = if w32 b = 0 then some (.inr 2, m_thr h) else some (.inl (9, 0), h) := by
  rw [g_prm (by decide)]
  show some (if w32 b = 0 then _ else _) = _
  split <;> rfl
theorem rq_S0 : m_cl Z 1000 [(0, 0)] h = some (.inr 0, m_thr h) := by rw [rq_S, if_pos (by decide)]
theorem rq_S1 : m_cl Z 1000 [(0, 1)] h = some (.inl (9, 0), h) := by rw [rq_S, if_neg (by decide)]
theorem rq_V0 : m_cl Z 1001 [(0, 0)] h = some (.inr 1, m_thr h) := by rw [rq_V, if_pos (by decide)]
theorem rq_V1 : m_cl Z 1001 [(0, 1)] h = some (.inl (9, 0), h) := by rw [rq_V, if_neg (by decide)]
theorem rq_N0 : m_cl Z 1002 [(0, 0)] h = some (.inr 2, m_thr h) := by rw [rq_N, if_pos (by decide)]
theorem rq_N1 : m_cl Z 1002 [(0, 1)] h = some (.inl (9, 0), h) := by rw [rq_N, if_neg (by decide)]
theorem a_refuse {y : Int} (hy : y = 0 ∨ y = 1 ∨ y = 2 ∨ y = 3) : m_cl Z 133 [(0, y)] h = if y = 1 then some (.inr 0, m_thr h) else if y = 2 then some (.inr 1, m_thr h) else if y = 3 then some (.inr 2, m_thr h) else some (.inl (9, 0), h) := by
  have e0 : w32 0 = 0 := by decide
  have e1 : w32 1 = 1 := by decide
  have e2 : w32 2 = 2 := by decide
  have e3 : w32 3 = 3 := by decide
  rcases hy with rfl | rfl | rfl | rfl <;> simp [e_133, b_133_0, b_133_5, b_133_9, b_133_10, b_133_13, b_133_18, b_133_22, b_133_23, b_133_26, b_133_31, b_133_35, b_133_36, b_133_39, e0, e1, e2, e3, rq_S0, rq_S1, rq_V0, rq_V1, rq_N0, rq_N1, g_aft9, g_aftE]
theorem a_isPart {y : Int} (hy : w32 y = y) : m_cl Z 134 [(0, y)] h = some (.inl (0, if y = 0 ∨ y = 1 then 1 else 0), h) := by
  have e1 : w32 1 = 1 := by decide
  by_cases c0 : y = 0
  · rw [if_pos (Or.inl c0)]
    simp only [e_134, b_134_0, b_134_4, b_134_9, b_134_13, b_134_14, ↓reduceIte, Nat.reduceEqDiff, Nat.reduceMul, q_n10, q_n01, Option.bind_some, g_aft0, g_aft1, g_aft2, g_aft3, g_aft9, Nat.reduceAdd, m_kill_0, m_kill_2, m_kill_3, m_kill_4, m_kill_9, true_or, or_true, q_lm1, q_l0, q_l1, q_l2, q_l3, q_l4, q_l5, q_l6, q_l8, q_l9, q_l10, q_l12, q_l32, q_l50, q_l120, q_l122, q_l126, q_l372, q_l1000, q_l1000000, hy, c0]
  · by_cases c1 : y = 1
    · rw [if_pos (Or.inr c1)]
      subst c1
      simp only [e_134, b_134_0, b_134_4, b_134_9, b_134_13, b_134_14, ↓reduceIte, Nat.reduceEqDiff, Nat.reduceMul, q_n10, q_n01, Option.bind_some, g_aft0, g_aft1, g_aft2, g_aft3, g_aft9, Nat.reduceAdd, m_kill_0, m_kill_2, m_kill_3, m_kill_4, m_kill_9, true_or, or_true, q_lm1, q_l0, q_l1, q_l2, q_l3, q_l4, q_l5, q_l6, q_l8, q_l9, q_l10, q_l12, q_l32, q_l50, q_l120, q_l122, q_l126, q_l372, q_l1000, q_l1000000]
    · rw [if_neg (by rintro (q | q); exact c0 q; exact c1 q)]
      simp only [e_134, b_134_0, b_134_4, b_134_9, b_134_13, b_134_14, ↓reduceIte, Nat.reduceEqDiff, Nat.reduceMul, q_n10, q_n01, Option.bind_some, g_aft0, g_aft1, g_aft2, g_aft3, g_aft9, Nat.reduceAdd, m_kill_0, m_kill_2, m_kill_3, m_kill_4, m_kill_9, true_or, or_true, q_lm1, q_l0, q_l1, q_l2, q_l3, q_l4, q_l5, q_l6, q_l8, q_l9, q_l10, q_l12, q_l32, q_l50, q_l120, q_l122, q_l126, q_l372, q_l1000, q_l1000000, hy, c0, c1, true_or]
theorem a_gcd {x y : Nat} (hx : x < 2147483648) (hy : y ≤ 1000) : m_cl Z 136 [(0, (x : Int)), (0, (y : Int))] h = some (.inl (0, ((Nat.gcd x y : Nat) : Int)), h) := by
  have key : ∀ m u w k l5, w < 2 ^ m → k + 2 * m ≤ 49 → u < 2147483648 → m_run Z (136, 7, [(0, (x : Int)), (0, (y : Int)), (0, ((u : Nat) : Int)), (0, ((w : Nat) : Int)), (0, ((k : Nat) : Int)), l5], [], h) = some (.inl (0, ((Nat.gcd u w : Nat) : Int)), h) := by
    have one : ∀ u w k l5, 0 < w → k ≤ 49 → u < 2147483648 → w < 2147483648 → m_run Z (136, 7, [(0, (x : Int)), (0, (y : Int)), (0, ((u : Nat) : Int)), (0, ((w : Nat) : Int)), (0, ((k : Nat) : Int)), l5], [], h) = m_run Z (136, 7, [(0, (x : Int)), (0, (y : Int)), (0, ((w : Nat) : Int)), (0, ((u % w : Nat) : Int)), (0, ((k + 1 : Nat) : Int)), (0, ((u % w : Nat) : Int))], [], h) := by
      intro u w k l5 hw hk hu hw2
      have c0 : ¬ (50 : Int) ≤ (k : Int) := by omega
      have c1 : ¬ (w : Int) ≤ 0 := by omega
      have c2 : ¬ (w : Int) = 0 := by omega
      have e1 : ((k + 1 : Nat) : Int) = (k : Int) + 1 := rfl
      have e2 : ((u : Int)).tmod (w : Int) = ((u % w : Nat) : Int) := rfl
      have wk : w32 (k : Int) = (k : Int) := q_w (by omega)
      have ww : w32 (w : Int) = (w : Int) := by clear wk; exact q_wB (by omega) (by omega)
      have wu : w32 (u : Int) = (u : Int) := by clear wk ww; exact q_wB (by omega) (by omega)
      conv => lhs; simp only [b_136_7, ↓reduceIte, Nat.reduceEqDiff, Nat.reduceMul, q_n10, q_n01, Option.bind_some, g_aft0, g_aft1, g_aft2, g_aft3, g_aft9, Nat.reduceAdd, m_kill_0, m_kill_2, m_kill_3, m_kill_4, m_kill_9, true_or, or_true, q_lm1, q_l0, q_l1, q_l2, q_l3, q_l4, q_l5, q_l6, q_l8, q_l9, q_l10, q_l12, q_l32, q_l50, q_l120, q_l122, q_l126, q_l372, q_l1000, q_l1000000, wk, c0]
      simp only [b_136_14, b_136_18, ↓reduceIte, Nat.reduceEqDiff, Nat.reduceMul, q_n10, q_n01, Option.bind_some, g_aft0, g_aft1, g_aft2, g_aft3, g_aft9, Nat.reduceAdd, m_kill_0, m_kill_2, m_kill_3, m_kill_4, m_kill_9, true_or, or_true, q_lm1, q_l0, q_l1, q_l2, q_l3, q_l4, q_l5, q_l6, q_l8, q_l9, q_l10, q_l12, q_l32, q_l50, q_l120, q_l122, q_l126, q_l372, q_l1000, q_l1000000, ww, wu, c1, c2, not_false_eq_true, e2, e1]
    have fin : ∀ u k l5, k ≤ 50 → m_run Z (136, 7, [(0, (x : Int)), (0, (y : Int)), (0, ((u : Nat) : Int)), (0, ((0 : Nat) : Int)), (0, ((k : Nat) : Int)), l5], [], h) = some (.inl (0, ((u : Nat) : Int)), h) := by
      intro u k l5 hk
      have w0 : w32 ((0 : Nat) : Int) = 0 := by decide
      have wk : w32 (k : Int) = (k : Int) := q_w (by clear w0; omega)
      conv => lhs; simp only [b_136_7, ↓reduceIte, Nat.reduceEqDiff, Nat.reduceMul, q_n10, q_n01, Option.bind_some, g_aft0, g_aft1, g_aft2, g_aft3, g_aft9, Nat.reduceAdd, m_kill_0, m_kill_2, m_kill_3, m_kill_4, m_kill_9, true_or, or_true, q_lm1, q_l0, q_l1, q_l2, q_l3, q_l4, q_l5, q_l6, q_l8, q_l9, q_l10, q_l12, q_l32, q_l50, q_l120, q_l122, q_l126, q_l372, q_l1000, q_l1000000, wk]
      by_cases c : (50 : Int) ≤ (k : Int)
      · rw [if_pos c]
        simp only [b_136_34, ↓reduceIte, Nat.reduceEqDiff, Nat.reduceMul, q_n10, q_n01, Option.bind_some, g_aft0, g_aft1, g_aft2, g_aft3, g_aft9, Nat.reduceAdd, m_kill_0, m_kill_2, m_kill_3, m_kill_4, m_kill_9, true_or, or_true, q_lm1, q_l0, q_l1, q_l2, q_l3, q_l4, q_l5, q_l6, q_l8, q_l9, q_l10, q_l12, q_l32, q_l50, q_l120, q_l122, q_l126, q_l372, q_l1000, q_l1000000]
      · rw [if_neg c]
        simp only [b_136_14, b_136_34, ↓reduceIte, Nat.reduceEqDiff, Nat.reduceMul, q_n10, q_n01, Option.bind_some, g_aft0, g_aft1, g_aft2, g_aft3, g_aft9, Nat.reduceAdd, m_kill_0, m_kill_2, m_kill_3, m_kill_4, m_kill_9, true_or, or_true, q_lm1, q_l0, q_l1, q_l2, q_l3, q_l4, q_l5, q_l6, q_l8, q_l9, q_l10, q_l12, q_l32, q_l50, q_l120, q_l122, q_l126, q_l372, q_l1000, q_l1000000, w0, Int.le_refl]
    intro m
    induction m with
    | zero =>
      intro u w k l5 hw hk hu
      have hw : w = 0 := by simpa using hw
      subst hw
      rw [fin u k l5 (by omega), Nat.gcd_zero_right]
    | succ m ih =>
      intro u w k l5 hw hk hu
      rcases Nat.eq_zero_or_pos w with hw0 | hw0
      · subst hw0
        rw [fin u k l5 (by omega), Nat.gcd_zero_right]
      · have hm : 2 ^ (m + 1) ≤ 2 ^ 25 := Nat.pow_le_pow_right (by omega) (by omega)
        have e25 : 2 ^ 25 = 33554432 := by decide
        have r1 := Nat.mod_lt u hw0
        have hg1 : Nat.gcd u w = Nat.gcd w (u % w) := by rw [Nat.gcd_comm, Nat.gcd_rec, Nat.gcd_comm]
        rw [one u w k l5 hw0 (by omega) hu (by omega), hg1]
        rcases Nat.eq_zero_or_pos (u % w) with h0 | h0
        · rw [h0, fin w (k + 1) _ (by omega), Nat.gcd_zero_right]
        · have r2 := Nat.mod_lt w h0
          have r3 : w % (u % w) + (u % w) ≤ w := by
            have := Nat.mod_add_div w (u % w)
            have hd : 1 ≤ w / (u % w) := (Nat.le_div_iff_mul_le h0).mpr (by omega)
            have := Nat.mul_le_mul_left (u % w) hd
            omega
          have hg2 : Nat.gcd w (u % w) = Nat.gcd (u % w) (w % (u % w)) := by rw [Nat.gcd_comm, Nat.gcd_rec, Nat.gcd_comm]
          rw [one w (u % w) (k + 1) _ h0 (by omega) (by omega) (by omega), hg2]
          exact ih (u % w) (w % (u % w)) (k + 1 + 1) _ (by rw [Nat.pow_succ] at hw; omega) (by omega) (by omega)
  rw [e_136, b_136_0]
  exact key 10 x y 0 _ (by have : 2 ^ 10 = 1024 := by decide
                           omega) (by omega) hx
theorem a_lowest {x y part : Int} (hx : 0 ≤ x) (hx2 : x ≤ 2147483647) (hy : 1 ≤ y) (hy2 : y ≤ 1000) (hp : w32 part = part) : m_cl Z 135 [(0, x), (0, y), (0, part)] h = some (.inl (0, w_red x y part), h) := by
  obtain ⟨a, rfl⟩ := Int.eq_ofNat_of_zero_le hx
  obtain ⟨b, rfl⟩ := Int.eq_ofNat_of_zero_le (show 0 ≤ y by omega)
  have hg := a_gcd (Z := Z) (h := h) (x := a) (y := b) (by clear hp; omega) (by clear hp; omega)
  have gp : 0 < Nat.gcd a b := Nat.gcd_pos_of_pos_right a (by clear hp; omega)
  have gl : Nat.gcd a b ≤ b := Nat.le_of_dvd (by clear hp; omega) (Nat.gcd_dvd_right a b)
  have wa : w32 (a : Int) = (a : Int) := by clear hp; exact q_wB (by omega) (by omega)
  have wb : w32 (b : Int) = (b : Int) := by clear hp wa; exact q_wB (by omega) (by omega)
  have wg : w32 ((Nat.gcd a b : Nat) : Int) = ((Nat.gcd a b : Nat) : Int) := by clear hp wa wb; exact q_wB (by omega) (by omega)
  have c2 : ¬ ((Nat.gcd a b : Nat) : Int) = 0 := by clear hp wa wb wg; omega
  have td : ∀ u : Nat, ((u : Int)).tdiv ((Nat.gcd a b : Nat) : Int) = ((u / Nat.gcd a b : Nat) : Int) := fun u => rfl
  unfold w_red
  simp only [Int.toNat_natCast]
  by_cases c : part = 0
  · rw [if_pos c]
    by_cases d : ((Nat.gcd a b : Nat) : Int) ≤ 1
    · have h1 : Nat.gcd a b = 1 := by clear hp wa wb wg; omega
      rw [h1] at hg wg d ⊢
      rw [Nat.div_one]
      simp only [e_135, b_135_0, b_135_5, b_135_10, b_135_14, b_135_15, b_135_22, b_135_29, b_135_31, ↓reduceIte, Nat.reduceEqDiff, Nat.reduceMul, q_n10, q_n01, Option.bind_some, g_aft0, g_aft1, g_aft2, g_aft3, g_aft9, Nat.reduceAdd, m_kill_0, m_kill_2, m_kill_3, m_kill_4, m_kill_9, true_or, or_true, q_lm1, q_l0, q_l1, q_l2, q_l3, q_l4, q_l5, q_l6, q_l8, q_l9, q_l10, q_l12, q_l32, q_l50, q_l120, q_l122, q_l126, q_l372, q_l1000, q_l1000000, hg, hp, c, wg, d]
    · simp only [e_135, b_135_0, b_135_5, b_135_10, b_135_14, b_135_15, b_135_22, b_135_29, b_135_31, ↓reduceIte, Nat.reduceEqDiff, Nat.reduceMul, q_n10, q_n01, Option.bind_some, g_aft0, g_aft1, g_aft2, g_aft3, g_aft9, Nat.reduceAdd, m_kill_0, m_kill_2, m_kill_3, m_kill_4, m_kill_9, true_or, or_true, q_lm1, q_l0, q_l1, q_l2, q_l3, q_l4, q_l5, q_l6, q_l8, q_l9, q_l10, q_l12, q_l32, q_l50, q_l120, q_l122, q_l126, q_l372, q_l1000, q_l1000000, hg, hp, c, wg, d, c2, not_false_eq_true, wa, td]
  · rw [if_neg c]
    by_cases d : ((Nat.gcd a b : Nat) : Int) ≤ 1
    · have h1 : Nat.gcd a b = 1 := by clear hp wa wb wg; omega
      rw [h1] at hg wg d ⊢
      rw [Nat.div_one]
      simp only [e_135, b_135_0, b_135_5, b_135_10, b_135_14, b_135_15, b_135_22, b_135_29, b_135_31, ↓reduceIte, Nat.reduceEqDiff, Nat.reduceMul, q_n10, q_n01, Option.bind_some, g_aft0, g_aft1, g_aft2, g_aft3, g_aft9, Nat.reduceAdd, m_kill_0, m_kill_2, m_kill_3, m_kill_4, m_kill_9, true_or, or_true, q_lm1, q_l0, q_l1, q_l2, q_l3, q_l4, q_l5, q_l6, q_l8, q_l9, q_l10, q_l12, q_l32, q_l50, q_l120, q_l122, q_l126, q_l372, q_l1000, q_l1000000, hg, hp, c, wg, d]
    · simp only [e_135, b_135_0, b_135_5, b_135_10, b_135_14, b_135_15, b_135_22, b_135_29, b_135_31, ↓reduceIte, Nat.reduceEqDiff, Nat.reduceMul, q_n10, q_n01, Option.bind_some, g_aft0, g_aft1, g_aft2, g_aft3, g_aft9, Nat.reduceAdd, m_kill_0, m_kill_2, m_kill_3, m_kill_4, m_kill_9, true_or, or_true, q_lm1, q_l0, q_l1, q_l2, q_l3, q_l4, q_l5, q_l6, q_l8, q_l9, q_l10, q_l12, q_l32, q_l50, q_l120, q_l122, q_l126, q_l372, q_l1000, q_l1000000, hg, hp, c, wg, d, c2, not_false_eq_true, wb, td]
end
end
