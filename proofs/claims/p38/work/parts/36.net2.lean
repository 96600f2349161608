section
/-! A network's methods, going on. -/
theorem q_wi0 {p : Prop} [Decidable p] : (w32 (if p then 1 else 0) = 0) = (¬ p) := by
  by_cases h : p
  · rw [if_pos h]; simp [h, q_l1]
  · rw [if_neg h]; simp [h, q_l0]
theorem q_wi01 {p : Prop} [Decidable p] : (w32 (if p then 1 else 0) = 0 ∨ w32 (if p then 1 else 0) = 1) = True := by
  by_cases h : p
  · rw [if_pos h]; simp [q_l1]
  · rw [if_neg h]; simp [q_l0]
def q_jn (σ : Nat → Nat → Int) (a : Nat) (x y : Int) (i : Nat) : Bool := decide (w32 (σ (a + 6) i) = w32 x ∧ w32 (σ (a + 8) i) = w32 y ∨ w32 (σ (a + 6) i) = w32 y ∧ w32 (σ (a + 8) i) = w32 x)
/-- the first from i on, of k -/
def q_fst (p : Nat → Bool) : Nat → Nat → Int
  | _, 0 => -1
  | i, k + 1 => if p i = true then (i : Int) else q_fst p (i + 1) k
theorem q_fst_s {p : Nat → Bool} {i k : Nat} : q_fst p i (k + 1) = if p i = true then (i : Int) else q_fst p (i + 1) k := rfl
def q_cnt (p : Nat → Bool) : Nat → Int
  | 0 => 0
  | k + 1 => q_cnt p k + (if p k = true then 1 else 0)
section QN
variable {Z : mZ} {K : Nat → mK} {σ : Nat → Nat → Int} {n e s a c : Nat}
def q_nsB (σ : Nat → Nat → Int) (a c : Nat) : Prop := w32 (σ a 0) = w32 (σ c 0) ∧ w32 (σ a 1) = w32 (σ c 1) ∧ w32 (σ a 2) = w32 (σ c 2) ∧ q_sm (q_eq σ (a + 2) (c + 2) 8) 0 8 = true ∧ q_sm (q_eq σ (a + 4) (c + 4) 8) 0 8 = true ∧ q_sm (q_eq σ (a + 6) (c + 6) 12) 0 12 = true ∧ q_sm (q_eq σ (a + 8) (c + 8) 12) 0 12 = true ∧ q_sm (q_eq σ (a + 10) (c + 10) 12) 0 12 = true ∧ q_sm (q_eq σ (a + 12) (c + 12) 6) 0 6 = true ∧ q_sm (q_eq σ (a + 14) (c + 14) 6) 0 6 = true ∧ q_sm (q_eq σ (a + 16) (c + 16) 6) 0 6 = true
theorem n_same (hN : q_net K n a) (hM : q_net K n c) : (q_nsB σ a c → m_cl Z 14 [(2, ((a : Nat) : Int)), (2, ((c : Nat) : Int))] (K, σ, n, e, s) = some (.inl (0, 1), (K, σ, n, e, s))) ∧ (¬ q_nsB σ a c → m_cl Z 14 [(2, ((a : Nat) : Int)), (2, ((c : Nat) : Int))] (K, σ, n, e, s) = some (.inl (0, 0), (K, σ, n, e, s))) := by
  constructor
  · rintro ⟨h1, h2, h3, h4, h5, h6, h7, h8, h9, h10, h11⟩
    simp only [e_14, b_14_0, b_14_11, b_14_22, b_14_33, b_14_44, b_14_47, b_14_58, b_14_61, b_14_72, b_14_75, b_14_86, b_14_89, b_14_100, b_14_103, b_14_114, b_14_117, b_14_128, b_14_131, b_14_142, b_14_145, b_14_149, b_14_150, ↓reduceIte, Nat.reduceEqDiff, Nat.reduceMul, q_n10, q_n01, Option.bind_some, g_aft0, g_aft1, g_aft2, g_aft3, g_aft9, Nat.reduceAdd, m_kill_0, m_kill_2, m_kill_3, m_kill_4, m_kill_9, true_or, or_true, q_lm1, q_l0, q_l1, q_l2, q_l3, q_l4, q_l5, q_l6, q_l8, q_l9, q_l10, q_l12, q_l32, q_l50, q_l120, q_l122, q_l126, q_l372, q_l1000, q_l1000000, hN, q_netF hN, q_netF hM, r_same, Nat.add_assoc, q_wi0, ite_not, h1, h2, h3, h4, h5, h6, h7, h8, h9, h10, h11, if_true, if_pos, not_true_eq_false, if_false]
  · intro h
    simp only [e_14, b_14_0, b_14_11, b_14_22, b_14_33, b_14_44, b_14_47, b_14_58, b_14_61, b_14_72, b_14_75, b_14_86, b_14_89, b_14_100, b_14_103, b_14_114, b_14_117, b_14_128, b_14_131, b_14_142, b_14_145, b_14_149, b_14_150, ↓reduceIte, Nat.reduceEqDiff, Nat.reduceMul, q_n10, q_n01, Option.bind_some, g_aft0, g_aft1, g_aft2, g_aft3, g_aft9, Nat.reduceAdd, m_kill_0, m_kill_2, m_kill_3, m_kill_4, m_kill_9, true_or, or_true, q_lm1, q_l0, q_l1, q_l2, q_l3, q_l4, q_l5, q_l6, q_l8, q_l9, q_l10, q_l12, q_l32, q_l50, q_l120, q_l122, q_l126, q_l372, q_l1000, q_l1000000, hN, q_netF hN, q_netF hM, r_same, Nat.add_assoc, q_wi0, ite_not]
    by_cases c0 : w32 (σ a 0) = w32 (σ c 0)
    case neg => rw [if_neg c0]
    rw [if_pos c0]
    by_cases c1 : w32 (σ a 1) = w32 (σ c 1)
    case neg => rw [if_neg c1]
    rw [if_pos c1]
    by_cases c2 : w32 (σ a 2) = w32 (σ c 2)
    case neg => rw [if_neg c2]
    rw [if_pos c2]
    by_cases c3 : q_sm (q_eq σ (a + 2) (c + 2) 8) 0 8 = true
    case neg => rw [if_neg c3]
    rw [if_pos c3]
    by_cases c4 : q_sm (q_eq σ (a + 4) (c + 4) 8) 0 8 = true
    case neg => rw [if_neg c4]
    rw [if_pos c4]
    by_cases c5 : q_sm (q_eq σ (a + 6) (c + 6) 12) 0 12 = true
    case neg => rw [if_neg c5]
    rw [if_pos c5]
    by_cases c6 : q_sm (q_eq σ (a + 8) (c + 8) 12) 0 12 = true
    case neg => rw [if_neg c6]
    rw [if_pos c6]
    by_cases c7 : q_sm (q_eq σ (a + 10) (c + 10) 12) 0 12 = true
    case neg => rw [if_neg c7]
    rw [if_pos c7]
    by_cases c8 : q_sm (q_eq σ (a + 12) (c + 12) 6) 0 6 = true
    case neg => rw [if_neg c8]
    rw [if_pos c8]
    by_cases c9 : q_sm (q_eq σ (a + 14) (c + 14) 6) 0 6 = true
    case neg => rw [if_neg c9]
    rw [if_pos c9]
    by_cases c10 : q_sm (q_eq σ (a + 16) (c + 16) 6) 0 6 = true
    case neg => rw [if_neg c10]
    rw [if_pos c10]
    exact absurd ⟨c0, c1, c2, c3, c4, c5, c6, c7, c8, c9, c10⟩ h
theorem n_between {x y : Int} {E : Nat} (hN : q_net K n a) (hE : w32 (σ a 1) = (E : Int)) (hE2 : E ≤ 12) : m_cl Z 21 [(2, ((a : Nat) : Int)), (0, x), (0, y)] (K, σ, n, e, s) = some (.inl (0, q_fst (q_jn σ a x y) 0 E), (K, σ, n, e, s)) := by
  have key : ∀ (k i : Nat) (l4 l5 : mV), i + k = E → m_run Z (21, 2, [(2, ((a : Nat) : Int)), (0, x), (0, y), (0, (i : Int)), l4, l5], [], (K, σ, n, e, s)) = some (.inl (0, q_fst (q_jn σ a x y) i k), (K, σ, n, e, s)) := by
    intro k
    induction k with
    | zero =>
      intro i l4 l5 hi
      rw [b_21_2 hN.1, hE, q_w (by omega), if_pos (by omega), b_21_62]
      rfl
    | succ k ih =>
      intro i l4 l5 hi
      rw [b_21_2 hN.1, hE, q_w (by omega), if_neg (by omega)]
      have g1 : q_get σ (a + 6) 12 (i : Int) = σ (a + 6) i := q_get_nat (by omega) (by omega)
      have g2 : q_get σ (a + 8) 12 (i : Int) = σ (a + 8) i := q_get_nat (by omega) (by omega)
      have ih' := fun l4 l5 => ih (i + 1) l4 l5 (by omega)
      have e1 : (((i + 1 : Nat)) : Int) = (i : Int) + 1 := by omega
      rw [e1] at ih'
      simp only [b_21_0, b_21_10, b_21_18, b_21_28, b_21_36, b_21_42, b_21_48, b_21_54, b_21_56, b_21_62, ↓reduceIte, Nat.reduceEqDiff, Nat.reduceMul, q_n10, q_n01, Option.bind_some, g_aft0, g_aft1, g_aft2, g_aft3, g_aft9, Nat.reduceAdd, m_kill_0, m_kill_2, m_kill_3, m_kill_4, m_kill_9, true_or, or_true, q_lm1, q_l0, q_l1, q_l2, q_l3, q_l4, q_l5, q_l6, q_l8, q_l9, q_l10, q_l12, q_l32, q_l50, q_l120, q_l122, q_l126, q_l372, q_l1000, q_l1000000, hN, q_netF hN, r_get, Nat.add_assoc, g1, g2, ih']
      by_cases c1 : w32 (σ (a + 6) i) = w32 x <;> by_cases c2 : w32 (σ (a + 8) i) = w32 y <;> by_cases c3 : w32 (σ (a + 6) i) = w32 y <;> by_cases c4 : w32 (σ (a + 8) i) = w32 x <;> simp only [q_fst_s, q_jn, c1, c2, c3, c4, if_true, if_false, true_and, and_true, false_and, and_false, or_true, or_false, false_or, true_or, decide_true, decide_false, Bool.false_eq_true, ↓reduceIte, ite_self, or_self, decide_eq_true_eq]
      all_goals (repeat' split) <;> simp_all
  rw [e_21, b_21_0]
  exact key E 0 _ _ (by omega)
theorem n_whyEdge {x y l : Int} {E : Nat} (hN : q_net K n a) (hE : w32 (σ a 1) = (E : Int)) (hE2 : E ≤ 12) : m_cl Z 22 [(2, ((a : Nat) : Int)), (0, x), (0, y), (0, l)] (K, σ, n, e, s) = some (.inl (0, if ¬ (0 ≤ w32 x ∧ w32 x < w32 (σ a 0)) ∨ ¬ (0 ≤ w32 y ∧ w32 y < w32 (σ a 0)) then 1 else if w32 x = w32 y ∨ w32 l < 1 ∨ 50 < w32 l then 2 else if ¬ w32 (q_fst (q_jn σ a x y) 0 E) = -1 ∨ 12 ≤ E then 3 else 0), (K, σ, n, e, s)) := by
  simp only [e_22, b_22_0, b_22_5, b_22_8, b_22_13, b_22_16, b_22_18, b_22_23, b_22_28, b_22_34, b_22_36, b_22_42, b_22_46, b_22_55, b_22_59, b_22_60, ↓reduceIte, Nat.reduceEqDiff, Nat.reduceMul, q_n10, q_n01, Option.bind_some, g_aft0, g_aft1, g_aft2, g_aft3, g_aft9, Nat.reduceAdd, m_kill_0, m_kill_2, m_kill_3, m_kill_4, m_kill_9, true_or, or_true, q_lm1, q_l0, q_l1, q_l2, q_l3, q_l4, q_l5, q_l6, q_l8, q_l9, q_l10, q_l12, q_l32, q_l50, q_l120, q_l122, q_l126, q_l372, q_l1000, q_l1000000, hN, q_netF hN, n_hasNode, n_between hN hE hE2, q_wi0, hE]
  repeat' split
  all_goals first | rfl | (exfalso; omega)
theorem n_whyValue {x v : Int} (hN : q_net K n a) : m_cl Z 23 [(2, ((a : Nat) : Int)), (0, x), (0, v)] (K, σ, n, e, s) = some (.inl (0, if ¬ (0 ≤ w32 x ∧ w32 x < w32 (σ a 0)) then 1 else if w32 v < 0 ∨ 9 < w32 v then 2 else 0), (K, σ, n, e, s)) := by
  simp only [e_23, b_23_0, b_23_5, b_23_8, b_23_10, b_23_14, b_23_20, b_23_24, b_23_25, ↓reduceIte, Nat.reduceEqDiff, Nat.reduceMul, q_n10, q_n01, Option.bind_some, g_aft0, g_aft1, g_aft2, g_aft3, g_aft9, Nat.reduceAdd, m_kill_0, m_kill_2, m_kill_3, m_kill_4, m_kill_9, true_or, or_true, q_lm1, q_l0, q_l1, q_l2, q_l3, q_l4, q_l5, q_l6, q_l8, q_l9, q_l10, q_l12, q_l32, q_l50, q_l120, q_l122, q_l126, q_l372, q_l1000, q_l1000000, hN, q_netF hN, n_hasNode, q_wi0]
  repeat' split
  all_goals first | rfl | (exfalso; omega)
theorem n_whyStretch {x y z : Int} (hN : q_net K n a) : m_cl Z 24 [(2, ((a : Nat) : Int)), (0, x), (0, y), (0, z)] (K, σ, n, e, s) = some (.inl (0, if ¬ (0 ≤ w32 x ∧ w32 x < w32 (σ a 1)) then 1 else if w32 y < 0 ∨ w32 z ≤ w32 y ∨ w32 (q_get σ (a + 10) 12 x) < w32 z then 2 else if 6 ≤ w32 (σ a 2) then 3 else 0), (K, σ, n, e, s)) := by
  simp only [e_24, b_24_0, b_24_5, b_24_8, b_24_10, b_24_14, b_24_19, b_24_28, b_24_31, b_24_33, b_24_42, b_24_46, b_24_47, ↓reduceIte, Nat.reduceEqDiff, Nat.reduceMul, q_n10, q_n01, Option.bind_some, g_aft0, g_aft1, g_aft2, g_aft3, g_aft9, Nat.reduceAdd, m_kill_0, m_kill_2, m_kill_3, m_kill_4, m_kill_9, true_or, or_true, q_lm1, q_l0, q_l1, q_l2, q_l3, q_l4, q_l5, q_l6, q_l8, q_l9, q_l10, q_l12, q_l32, q_l50, q_l120, q_l122, q_l126, q_l372, q_l1000, q_l1000000, hN, q_netF hN, n_hasEdge, q_wi0, r_get, Nat.add_assoc]
  repeat' split
  all_goals first | rfl | (exfalso; omega)
theorem n_addEdge {x y l : Int} (hN : q_net K n a) : m_cl Z 25 [(2, ((a : Nat) : Int)), (0, x), (0, y), (0, l)] (K, σ, n, e, s) = some (.inl (0, σ a 1), (K, m_up2 (q_set (q_set (q_set σ (a + 6) 12 (σ a 1) x) (a + 8) 12 (σ a 1) y) (a + 10) 12 (σ a 1) l) a 1 (σ a 1 + 1), n, e, s)) := by
  have ns : ∀ (τ : Nat → Nat → Int) (c L : Nat) (i v : Int), c ≠ a → q_set τ c L i v a = τ a := by
    intro τ c L i v h
    unfold q_set
    split
    · exact m_up2_ne (by omega)
    · rfl
  have t6 : a + 6 ≠ a := by omega
  have t8 : a + 8 ≠ a := by omega
  have t10 : a + 10 ≠ a := by omega
  simp only [e_25, b_25_0, b_25_12, b_25_24, b_25_36, ↓reduceIte, Nat.reduceEqDiff, Nat.reduceMul, q_n10, q_n01, Option.bind_some, g_aft0, g_aft1, g_aft2, g_aft3, g_aft9, Nat.reduceAdd, m_kill_0, m_kill_2, m_kill_3, m_kill_4, m_kill_9, true_or, or_true, q_lm1, q_l0, q_l1, q_l2, q_l3, q_l4, q_l5, q_l6, q_l8, q_l9, q_l10, q_l12, q_l32, q_l50, q_l120, q_l122, q_l126, q_l372, q_l1000, q_l1000000, hN, q_netF hN, r_set, Nat.add_assoc, ns, ne_eq, t6, t8, t10, not_false_eq_true]
theorem n_addStretch {x y l : Int} (hN : q_net K n a) : m_cl Z 26 [(2, ((a : Nat) : Int)), (0, x), (0, y), (0, l)] (K, σ, n, e, s) = some (.inl (0, σ a 2), (K, m_up2 (q_set (q_set (q_set σ (a + 12) 6 (σ a 2) x) (a + 14) 6 (σ a 2) y) (a + 16) 6 (σ a 2) l) a 2 (σ a 2 + 1), n, e, s)) := by
  have ns : ∀ (τ : Nat → Nat → Int) (c L : Nat) (i v : Int), c ≠ a → q_set τ c L i v a = τ a := by
    intro τ c L i v h
    unfold q_set
    split
    · exact m_up2_ne (by omega)
    · rfl
  have t6 : a + 12 ≠ a := by omega
  have t8 : a + 14 ≠ a := by omega
  have t10 : a + 16 ≠ a := by omega
  simp only [e_26, b_26_0, b_26_12, b_26_24, b_26_36, ↓reduceIte, Nat.reduceEqDiff, Nat.reduceMul, q_n10, q_n01, Option.bind_some, g_aft0, g_aft1, g_aft2, g_aft3, g_aft9, Nat.reduceAdd, m_kill_0, m_kill_2, m_kill_3, m_kill_4, m_kill_9, true_or, or_true, q_lm1, q_l0, q_l1, q_l2, q_l3, q_l4, q_l5, q_l6, q_l8, q_l9, q_l10, q_l12, q_l32, q_l50, q_l120, q_l122, q_l126, q_l372, q_l1000, q_l1000000, hN, q_netF hN, r_set, Nat.add_assoc, ns, ne_eq, t6, t8, t10, not_false_eq_true]
theorem n_remStretch {p : Nat} (hN : q_net K n a) (hp : p ≤ 1000) : m_cl Z 28 [(2, ((a : Nat) : Int)), (0, (p : Int))] (K, σ, n, e, s) = some (.inl (9, 0), (K, m_up2 (q_rem (q_rem (q_rem σ (a + 12) 6 p) (a + 14) 6 p) (a + 16) 6 p) a 2 (σ a 2 - 1), n, e, s)) := by
  simp (disch := first | omega | simp only [q_netF hN]) only [e_28, b_28_0, b_28_8, b_28_16, b_28_24, ↓reduceIte, Nat.reduceEqDiff, Nat.reduceMul, q_n10, q_n01, Option.bind_some, g_aft0, g_aft1, g_aft2, g_aft3, g_aft9, Nat.reduceAdd, m_kill_0, m_kill_2, m_kill_3, m_kill_4, m_kill_9, true_or, or_true, q_lm1, q_l0, q_l1, q_l2, q_l3, q_l4, q_l5, q_l6, q_l8, q_l9, q_l10, q_l12, q_l32, q_l50, q_l120, q_l122, q_l126, q_l372, q_l1000, q_l1000000, hN, q_netF hN, r_rem, Nat.add_assoc, q_rem_ne]
theorem n_edgeFact {x w : Int} (hN : q_net K n a) : m_cl Z 29 [(2, ((a : Nat) : Int)), (0, x), (0, w)] (K, σ, n, e, s) = some (.inl (0, if w32 w = 0 then q_get σ (a + 6) 12 x else if w32 w = 1 then q_get σ (a + 8) 12 x else q_get σ (a + 10) 12 x), (K, σ, n, e, s)) := by
  simp only [e_29, b_29_0, b_29_28, b_29_36, b_29_37, b_29_45, b_29_46, b_29_54, ↓reduceIte, Nat.reduceEqDiff, Nat.reduceMul, q_n10, q_n01, Option.bind_some, g_aft0, g_aft1, g_aft2, g_aft3, g_aft9, Nat.reduceAdd, m_kill_0, m_kill_2, m_kill_3, m_kill_4, m_kill_9, true_or, or_true, q_lm1, q_l0, q_l1, q_l2, q_l3, q_l4, q_l5, q_l6, q_l8, q_l9, q_l10, q_l12, q_l32, q_l50, q_l120, q_l122, q_l126, q_l372, q_l1000, q_l1000000, hN, q_netF hN, r_get, Nat.add_assoc]
  repeat' split
  all_goals first | rfl | (exfalso; omega)
theorem n_stretchFact {x w : Int} (hN : q_net K n a) : m_cl Z 32 [(2, ((a : Nat) : Int)), (0, x), (0, w)] (K, σ, n, e, s) = some (.inl (0, if w32 w = 0 then q_get σ (a + 12) 6 x else if w32 w = 1 then q_get σ (a + 14) 6 x else q_get σ (a + 16) 6 x), (K, σ, n, e, s)) := by
  simp only [e_32, b_32_0, b_32_28, b_32_36, b_32_37, b_32_45, b_32_46, b_32_54, ↓reduceIte, Nat.reduceEqDiff, Nat.reduceMul, q_n10, q_n01, Option.bind_some, g_aft0, g_aft1, g_aft2, g_aft3, g_aft9, Nat.reduceAdd, m_kill_0, m_kill_2, m_kill_3, m_kill_4, m_kill_9, true_or, or_true, q_lm1, q_l0, q_l1, q_l2, q_l3, q_l4, q_l5, q_l6, q_l8, q_l9, q_l10, q_l12, q_l32, q_l50, q_l120, q_l122, q_l126, q_l372, q_l1000, q_l1000000, hN, q_netF hN, r_get, Nat.add_assoc]
  repeat' split
  all_goals first | rfl | (exfalso; omega)
end QN
end
