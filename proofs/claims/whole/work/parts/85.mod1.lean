section
/-! The model: the network. -/
def z_row (f : Nat → Int) (N : Nat → Nat → Int) : Prop := (f 0 = N 0 0 ∧ f 17 = N 0 1 ∧ f 54 = N 0 2) ∧ (∀ i, i < w_nn N → f (1 + i) = N 2 i ∧ f (9 + i) = N 4 i) ∧ (∀ g, g < w_ne N → f (18 + 3 * g) = N 6 g ∧ f (18 + 3 * g + 1) = N 8 g ∧ f (18 + 3 * g + 2) = N 10 g) ∧ ∀ k, k < w_ns N → f (55 + 3 * k) = N 12 k ∧ f (55 + 3 * k + 1) = N 14 k ∧ f (55 + 3 * k + 2) = N 16 k
def z_n (σ N : Nat → Nat → Int) : Prop := q_wf N ∧ z_row (σ 192) N
def z_fr (σ τ : Nat → Nat → Int) : Prop := ∀ a, a < 191 ∨ 205 ≤ a → τ a = σ a
theorem z_fr_r {σ : Nat → Nat → Int} : z_fr σ σ := fun _ _ => rfl
theorem z_fr_t {σ τ ρ : Nat → Nat → Int} (h : z_fr σ τ) (h2 : z_fr τ ρ) : z_fr σ ρ := fun a ha => (h2 a ha).trans (h a ha)
theorem z_fr_u {σ τ : Nat → Nat → Int} {a k : Nat} {v : Int} (h : z_fr σ τ) (h1 : 191 ≤ a) (h2 : a < 205) : z_fr σ (m_up2 τ a k v) := fun b hb => (m_up2_ne (by omega)).trans (h b hb)
def q_or (p : Nat → Bool) : Nat → Bool
  | 0 => false
  | k + 1 => q_or p k || p k
theorem q_or_s {p : Nat → Bool} {k : Nat} : q_or p (k + 1) = (q_or p k || p k) := rfl
theorem q_or_iff {p : Nat → Bool} : ∀ (k : Nat), q_or p k = true ↔ ∃ j, j < k ∧ p j = true
  | 0 => ⟨fun h => absurd h Bool.false_ne_true, fun ⟨j, h, _⟩ => absurd h (by omega)⟩
  | k + 1 => by
    rw [q_or_s, Bool.or_eq_true, q_or_iff k]
    constructor
    · rintro (⟨j, h1, h2⟩ | h)
      · exact ⟨j, by omega, h2⟩
      · exact ⟨k, by omega, h⟩
    · rintro ⟨j, h1, h2⟩
      rcases Nat.lt_succ_iff_lt_or_eq.mp h1 with c | c
      · exact Or.inl ⟨j, c, h2⟩
      · subst c; exact Or.inr h2
theorem z_p17 : (0 : Int) ≤ 17 := by decide
theorem z_p54 : (0 : Int) ≤ 54 := by decide
theorem z_c0 : (0 : Int) < ((73 : Nat) : Int) := by decide
theorem z_c17 : (17 : Int) < ((73 : Nat) : Int) := by decide
theorem z_c54 : (54 : Int) < ((73 : Nat) : Int) := by decide
theorem z_t0 : ((0 : Int)).toNat = 0 := rfl
theorem z_t17 : ((17 : Int)).toNat = 17 := rfl
theorem z_t54 : ((54 : Int)).toNat = 54 := rfl
theorem q_oi {p : Prop} [Decidable p] : (if p then (1 : Int) else 0) = 0 ∨ (if p then (1 : Int) else 0) = 1 := by split <;> simp
section
variable {Z : mZ} {K : Nat → mK} {σ τ N M : Nat → Nat → Int} {e s g i L n c k a : Nat} {t p q v b x y z w u S : Int} {X : Nat → Int} {h : mH}
theorem z_within : m_cl Z 152 [(0, x), (0, y), (0, z)] h = some (.inl (0, if w32 y ≤ w32 x ∧ w32 x ≤ w32 z then 1 else 0), h) := by
  by_cases c1 : w32 x < w32 y
  · rw [if_neg (by omega)]
    simp only [e_152, b_152_0, b_152_5, b_152_10, b_152_14, b_152_15, ↓reduceIte, Nat.reduceEqDiff, Nat.reduceMul, q_n10, q_n01, Option.bind_some, g_aft0, g_aft1, g_aft2, g_aft3, g_aft9, Nat.reduceAdd, m_kill_0, m_kill_2, m_kill_3, m_kill_4, m_kill_9, true_or, or_true, q_lm1, q_l0, q_l1, q_l2, q_l3, q_l4, q_l5, q_l6, q_l8, q_l9, q_l10, q_l12, q_l17, q_l32, q_l35, q_l48, q_l50, q_l54, q_l57, q_l64, q_l73, q_l118, q_l119, q_l120, q_l122, q_l126, q_l160, q_l256, q_l365, q_l372, q_l438, q_l1000, q_l100000, q_l1000000, c1, true_or]
  · by_cases c2 : w32 z < w32 x
    · rw [if_neg (by omega)]
      simp only [e_152, b_152_0, b_152_5, b_152_10, b_152_14, b_152_15, ↓reduceIte, Nat.reduceEqDiff, Nat.reduceMul, q_n10, q_n01, Option.bind_some, g_aft0, g_aft1, g_aft2, g_aft3, g_aft9, Nat.reduceAdd, m_kill_0, m_kill_2, m_kill_3, m_kill_4, m_kill_9, true_or, or_true, q_lm1, q_l0, q_l1, q_l2, q_l3, q_l4, q_l5, q_l6, q_l8, q_l9, q_l10, q_l12, q_l17, q_l32, q_l35, q_l48, q_l50, q_l54, q_l57, q_l64, q_l73, q_l118, q_l119, q_l120, q_l122, q_l126, q_l160, q_l256, q_l365, q_l372, q_l438, q_l1000, q_l100000, q_l1000000, c1, c2, true_or]
    · rw [if_pos ⟨by omega, by omega⟩]
      simp only [e_152, b_152_0, b_152_5, b_152_10, b_152_14, b_152_15, ↓reduceIte, Nat.reduceEqDiff, Nat.reduceMul, q_n10, q_n01, Option.bind_some, g_aft0, g_aft1, g_aft2, g_aft3, g_aft9, Nat.reduceAdd, m_kill_0, m_kill_2, m_kill_3, m_kill_4, m_kill_9, true_or, or_true, q_lm1, q_l0, q_l1, q_l2, q_l3, q_l4, q_l5, q_l6, q_l8, q_l9, q_l10, q_l12, q_l17, q_l32, q_l35, q_l48, q_l50, q_l54, q_l57, q_l64, q_l73, q_l118, q_l119, q_l120, q_l122, q_l126, q_l160, q_l256, q_l365, q_l372, q_l438, q_l1000, q_l100000, q_l1000000, c1, c2]
theorem z_within2 (hx : w32 x = x) (hy : w32 y = y) (hz : w32 z = z) : m_cl Z 152 [(0, x), (0, y), (0, z)] h = some (.inl (0, if y ≤ x ∧ x ≤ z then 1 else 0), h) := by
  rw [z_within, hx, hy, hz]
theorem z_has : m_cl Z 153 [(0, S), (0, (i : Int))] h = some (.inl (0, if q_bt S i = true then 1 else 0), h) := by
  by_cases c : q_bt S i = true
  · rw [if_pos c]
    simp only [e_153, b_153_0, b_153_9, b_153_13, b_153_14, ↓reduceIte, Nat.reduceEqDiff, Nat.reduceMul, q_n10, q_n01, Option.bind_some, g_aft0, g_aft1, g_aft2, g_aft3, g_aft9, Nat.reduceAdd, m_kill_0, m_kill_2, m_kill_3, m_kill_4, m_kill_9, true_or, or_true, q_lm1, q_l0, q_l1, q_l2, q_l3, q_l4, q_l5, q_l6, q_l8, q_l9, q_l10, q_l12, q_l17, q_l32, q_l35, q_l48, q_l50, q_l54, q_l57, q_l64, q_l73, q_l118, q_l119, q_l120, q_l122, q_l126, q_l160, q_l256, q_l365, q_l372, q_l438, q_l1000, q_l100000, q_l1000000, q_btE, c]
  · rw [if_neg c]
    simp only [e_153, b_153_0, b_153_9, b_153_13, b_153_14, ↓reduceIte, Nat.reduceEqDiff, Nat.reduceMul, q_n10, q_n01, Option.bind_some, g_aft0, g_aft1, g_aft2, g_aft3, g_aft9, Nat.reduceAdd, m_kill_0, m_kill_2, m_kill_3, m_kill_4, m_kill_9, true_or, or_true, q_lm1, q_l0, q_l1, q_l2, q_l3, q_l4, q_l5, q_l6, q_l8, q_l9, q_l10, q_l12, q_l17, q_l32, q_l35, q_l48, q_l50, q_l54, q_l57, q_l64, q_l73, q_l118, q_l119, q_l120, q_l122, q_l126, q_l160, q_l256, q_l365, q_l372, q_l438, q_l1000, q_l100000, q_l1000000, q_btE, c, true_or, Bool.false_eq_true]
theorem z_refused (hL : q_lay K) (hx : w32 x = x) : m_cl Z 151 [(2, ((191 : Nat) : Int)), (0, x)] (K, σ, 206, e, s) = some (.inl (0, if x ≤ 0 then 0 else 1), (K, m_up2 σ 191 4 x, 206, e, s)) := by
  by_cases c : x ≤ 0
  · rw [if_pos c]
    simp only [e_151, b_151_0, b_151_9, b_151_13, b_151_14, ↓reduceIte, Nat.reduceEqDiff, Nat.reduceMul, q_n10, q_n01, Option.bind_some, g_aft0, g_aft1, g_aft2, g_aft3, g_aft9, Nat.reduceAdd, m_kill_0, m_kill_2, m_kill_3, m_kill_4, m_kill_9, true_or, or_true, q_lm1, q_l0, q_l1, q_l2, q_l3, q_l4, q_l5, q_l6, q_l8, q_l9, q_l10, q_l12, q_l17, q_l32, q_l35, q_l48, q_l50, q_l54, q_l57, q_l64, q_l73, q_l118, q_l119, q_l120, q_l122, q_l126, q_l160, q_l256, q_l365, q_l372, q_l438, q_l1000, q_l100000, q_l1000000, q_modF hL.2.2.2.2.2.2.1, hx, c, true_or]
  · rw [if_neg c]
    simp only [e_151, b_151_0, b_151_9, b_151_13, b_151_14, ↓reduceIte, Nat.reduceEqDiff, Nat.reduceMul, q_n10, q_n01, Option.bind_some, g_aft0, g_aft1, g_aft2, g_aft3, g_aft9, Nat.reduceAdd, m_kill_0, m_kill_2, m_kill_3, m_kill_4, m_kill_9, true_or, or_true, q_lm1, q_l0, q_l1, q_l2, q_l3, q_l4, q_l5, q_l6, q_l8, q_l9, q_l10, q_l12, q_l17, q_l32, q_l35, q_l48, q_l50, q_l54, q_l57, q_l64, q_l73, q_l118, q_l119, q_l120, q_l122, q_l126, q_l160, q_l256, q_l365, q_l372, q_l438, q_l1000, q_l100000, q_l1000000, q_modF hL.2.2.2.2.2.2.1, hx, c]
theorem z_thrown (hL : q_lay K) : m_cl Z 150 [(2, ((191 : Nat) : Int))] (K, σ, 206, e, s) = some (.inl (0, σ 191 4), (K, σ, 206, e, s)) := by
  simp only [e_150, b_150_0, ↓reduceIte, Nat.reduceEqDiff, Nat.reduceMul, q_n10, q_n01, Option.bind_some, g_aft0, g_aft1, g_aft2, g_aft3, g_aft9, Nat.reduceAdd, m_kill_0, m_kill_2, m_kill_3, m_kill_4, m_kill_9, true_or, or_true, q_lm1, q_l0, q_l1, q_l2, q_l3, q_l4, q_l5, q_l6, q_l8, q_l9, q_l10, q_l12, q_l17, q_l32, q_l35, q_l48, q_l50, q_l54, q_l57, q_l64, q_l73, q_l118, q_l119, q_l120, q_l122, q_l126, q_l160, q_l256, q_l365, q_l372, q_l438, q_l1000, q_l100000, q_l1000000, q_modF hL.2.2.2.2.2.2.1]
theorem z_many (hL : q_lay K) (h : z_n σ N) : m_cl Z 156 [(2, ((191 : Nat) : Int))] (K, σ, 206, e, s) = some (.inl (0, N 0 0), (K, σ, 206, e, s)) := by
  have h0 := h.2.1.1
  simp only [e_156, b_156_0, ↓reduceIte, Nat.reduceEqDiff, Nat.reduceMul, q_n10, q_n01, Option.bind_some, g_aft0, g_aft1, g_aft2, g_aft3, g_aft9, Nat.reduceAdd, m_kill_0, m_kill_2, m_kill_3, m_kill_4, m_kill_9, true_or, or_true, q_lm1, q_l0, q_l1, q_l2, q_l3, q_l4, q_l5, q_l6, q_l8, q_l9, q_l10, q_l12, q_l17, q_l32, q_l35, q_l48, q_l50, q_l54, q_l57, q_l64, q_l73, q_l118, q_l119, q_l120, q_l122, q_l126, q_l160, q_l256, q_l365, q_l372, q_l438, q_l1000, q_l100000, q_l1000000, q_modF hL.2.2.2.2.2.2.1, Int.le_refl, z_c0, z_t0, h0]
theorem z_emany (hL : q_lay K) (h : z_n σ N) : m_cl Z 158 [(2, ((191 : Nat) : Int))] (K, σ, 206, e, s) = some (.inl (0, N 0 1), (K, σ, 206, e, s)) := by
  have h0 := h.2.1.2.1
  simp only [e_158, b_158_0, ↓reduceIte, Nat.reduceEqDiff, Nat.reduceMul, q_n10, q_n01, Option.bind_some, g_aft0, g_aft1, g_aft2, g_aft3, g_aft9, Nat.reduceAdd, m_kill_0, m_kill_2, m_kill_3, m_kill_4, m_kill_9, true_or, or_true, q_lm1, q_l0, q_l1, q_l2, q_l3, q_l4, q_l5, q_l6, q_l8, q_l9, q_l10, q_l12, q_l17, q_l32, q_l35, q_l48, q_l50, q_l54, q_l57, q_l64, q_l73, q_l118, q_l119, q_l120, q_l122, q_l126, q_l160, q_l256, q_l365, q_l372, q_l438, q_l1000, q_l100000, q_l1000000, q_modF hL.2.2.2.2.2.2.1, z_p17, z_c17, z_t17, h0]
theorem z_smany (hL : q_lay K) (h : z_n σ N) : m_cl Z 161 [(2, ((191 : Nat) : Int))] (K, σ, 206, e, s) = some (.inl (0, N 0 2), (K, σ, 206, e, s)) := by
  have h0 := h.2.1.2.2
  simp only [e_161, b_161_0, ↓reduceIte, Nat.reduceEqDiff, Nat.reduceMul, q_n10, q_n01, Option.bind_some, g_aft0, g_aft1, g_aft2, g_aft3, g_aft9, Nat.reduceAdd, m_kill_0, m_kill_2, m_kill_3, m_kill_4, m_kill_9, true_or, or_true, q_lm1, q_l0, q_l1, q_l2, q_l3, q_l4, q_l5, q_l6, q_l8, q_l9, q_l10, q_l12, q_l17, q_l32, q_l35, q_l48, q_l50, q_l54, q_l57, q_l64, q_l73, q_l118, q_l119, q_l120, q_l122, q_l126, q_l160, q_l256, q_l365, q_l372, q_l438, q_l1000, q_l100000, q_l1000000, q_modF hL.2.2.2.2.2.2.1, z_p54, z_c54, z_t54, h0]
theorem z_ix {m : Nat} {L' : Nat} (hx : x = (m : Int)) (hm : m < L') (hL : L' ≤ 1000000) : 0 ≤ w32 x ∧ w32 x < ((L' : Nat) : Int) ∧ (w32 x).toNat = m := by
  rw [hx, q_w (by omega)]
  exact ⟨by omega, by omega, rfl⟩
theorem z_of' {m : Nat} (hL : q_lay K) (hx : 18 + 3 * x + w = (m : Int)) (hm : m < 73) : m_cl Z 160 [(2, ((191 : Nat) : Int)), (0, x), (0, w)] (K, σ, 206, e, s) = some (.inl (0, σ 192 m), (K, σ, 206, e, s)) := by
  obtain ⟨i1, i2, i3⟩ := z_ix hx hm (by omega)
  simp only [e_160, b_160_0, ↓reduceIte, Nat.reduceEqDiff, Nat.reduceMul, q_n10, q_n01, Option.bind_some, g_aft0, g_aft1, g_aft2, g_aft3, g_aft9, Nat.reduceAdd, m_kill_0, m_kill_2, m_kill_3, m_kill_4, m_kill_9, true_or, or_true, q_lm1, q_l0, q_l1, q_l2, q_l3, q_l4, q_l5, q_l6, q_l8, q_l9, q_l10, q_l12, q_l17, q_l32, q_l35, q_l48, q_l50, q_l54, q_l57, q_l64, q_l73, q_l118, q_l119, q_l120, q_l122, q_l126, q_l160, q_l256, q_l365, q_l372, q_l438, q_l1000, q_l100000, q_l1000000, q_modF hL.2.2.2.2.2.2.1, i1, i2, i3]
theorem z_at' {m : Nat} (hL : q_lay K) (hx : 55 + 3 * x + w = (m : Int)) (hm : m < 73) : m_cl Z 162 [(2, ((191 : Nat) : Int)), (0, x), (0, w)] (K, σ, 206, e, s) = some (.inl (0, σ 192 m), (K, σ, 206, e, s)) := by
  obtain ⟨i1, i2, i3⟩ := z_ix hx hm (by omega)
  simp only [e_162, b_162_0, ↓reduceIte, Nat.reduceEqDiff, Nat.reduceMul, q_n10, q_n01, Option.bind_some, g_aft0, g_aft1, g_aft2, g_aft3, g_aft9, Nat.reduceAdd, m_kill_0, m_kill_2, m_kill_3, m_kill_4, m_kill_9, true_or, or_true, q_lm1, q_l0, q_l1, q_l2, q_l3, q_l4, q_l5, q_l6, q_l8, q_l9, q_l10, q_l12, q_l17, q_l32, q_l35, q_l48, q_l50, q_l54, q_l57, q_l64, q_l73, q_l118, q_l119, q_l120, q_l122, q_l126, q_l160, q_l256, q_l365, q_l372, q_l438, q_l1000, q_l100000, q_l1000000, q_modF hL.2.2.2.2.2.2.1, i1, i2, i3]
theorem z_of (hL : q_lay K) (h : z_n σ N) (hg : g < w_ne N) : m_cl Z 160 [(2, ((191 : Nat) : Int)), (0, (g : Int)), (0, 0)] (K, σ, 206, e, s) = some (.inl (0, N 6 g), (K, σ, 206, e, s)) ∧ m_cl Z 160 [(2, ((191 : Nat) : Int)), (0, (g : Int)), (0, 1)] (K, σ, 206, e, s) = some (.inl (0, N 8 g), (K, σ, 206, e, s)) ∧ m_cl Z 160 [(2, ((191 : Nat) : Int)), (0, (g : Int)), (0, 2)] (K, σ, 206, e, s) = some (.inl (0, N 10 g), (K, σ, 206, e, s)) := by
  have h1 := wf_e h.1
  obtain ⟨a1, a2, a3⟩ := h.2.2.2.1 g hg
  refine ⟨?_, ?_, ?_⟩
  · rw [z_of' hL (m := 18 + 3 * g) (by omega) (by omega), a1]
  · rw [z_of' hL (m := 18 + 3 * g + 1) (by omega) (by omega), a2]
  · rw [z_of' hL (m := 18 + 3 * g + 2) (by omega) (by omega), a3]
theorem z_at (hL : q_lay K) (h : z_n σ N) (hk : k < w_ns N) : m_cl Z 162 [(2, ((191 : Nat) : Int)), (0, (k : Int)), (0, 0)] (K, σ, 206, e, s) = some (.inl (0, N 12 k), (K, σ, 206, e, s)) ∧ m_cl Z 162 [(2, ((191 : Nat) : Int)), (0, (k : Int)), (0, 1)] (K, σ, 206, e, s) = some (.inl (0, N 14 k), (K, σ, 206, e, s)) ∧ m_cl Z 162 [(2, ((191 : Nat) : Int)), (0, (k : Int)), (0, 2)] (K, σ, 206, e, s) = some (.inl (0, N 16 k), (K, σ, 206, e, s)) := by
  have h1 := wf_s h.1
  obtain ⟨a1, a2, a3⟩ := h.2.2.2.2 k hk
  refine ⟨?_, ?_, ?_⟩
  · rw [z_at' hL (m := 55 + 3 * k) (by omega) (by omega), a1]
  · rw [z_at' hL (m := 55 + 3 * k + 1) (by omega) (by omega), a2]
  · rw [z_at' hL (m := 55 + 3 * k + 2) (by omega) (by omega), a3]
theorem z_isNode (hL : q_lay K) (h : z_n σ N) (hx : w32 x = x) : m_cl Z 157 [(2, ((191 : Nat) : Int)), (0, x)] (K, σ, 206, e, s) = some (.inl (0, if 0 ≤ x ∧ x < N 0 0 then 1 else 0), (K, σ, 206, e, s)) := by
  have hm := z_many (Z := Z) (e := e) (s := s) hL h
  have h8 := h.1.1
  have w1 : w32 (N 0 0 - 1) = N 0 0 - 1 := by clear hx; exact q_wi (by omega) (by omega)
  have hw := z_within2 (Z := Z) (h := (K, σ, 206, e, s)) (x := x) (y := 0) (z := N 0 0 - 1) hx (by decide) w1
  have e1 : (if 0 ≤ x ∧ x ≤ N 0 0 - 1 then (1 : Int) else 0) = if 0 ≤ x ∧ x < N 0 0 then 1 else 0 := by
    clear hx w1 hw
    by_cases c : 0 ≤ x ∧ x < N 0 0
    · rw [if_pos c, if_pos (by omega)]
    · rw [if_neg c, if_neg (by omega)]
  rw [e1] at hw
  have hz : (w32 (if 0 ≤ x ∧ x < N 0 0 then 1 else 0) = 0 ∨ w32 (if 0 ≤ x ∧ x < N 0 0 then 1 else 0) = 1) = True := q_wi01
  simp only [e_157, b_157_0, b_157_6, b_157_11, ↓reduceIte, Nat.reduceEqDiff, Nat.reduceMul, q_n10, q_n01, Option.bind_some, g_aft0, g_aft1, g_aft2, g_aft3, g_aft9, Nat.reduceAdd, m_kill_0, m_kill_2, m_kill_3, m_kill_4, m_kill_9, true_or, or_true, q_lm1, q_l0, q_l1, q_l2, q_l3, q_l4, q_l5, q_l6, q_l8, q_l9, q_l10, q_l12, q_l17, q_l32, q_l35, q_l48, q_l50, q_l54, q_l57, q_l64, q_l73, q_l118, q_l119, q_l120, q_l122, q_l126, q_l160, q_l256, q_l365, q_l372, q_l438, q_l1000, q_l100000, q_l1000000, q_modF hL.2.2.2.2.2.2.1, hm, hw, hz]
theorem z_isEdge (hL : q_lay K) (h : z_n σ N) (hx : w32 x = x) : m_cl Z 159 [(2, ((191 : Nat) : Int)), (0, x)] (K, σ, 206, e, s) = some (.inl (0, if 0 ≤ x ∧ x < N 0 1 then 1 else 0), (K, σ, 206, e, s)) := by
  have hm := z_emany (Z := Z) (e := e) (s := s) hL h
  have h8 := h.1.2.1
  have w1 : w32 (N 0 1 - 1) = N 0 1 - 1 := by clear hx; exact q_wi (by omega) (by omega)
  have hw := z_within2 (Z := Z) (h := (K, σ, 206, e, s)) (x := x) (y := 0) (z := N 0 1 - 1) hx (by decide) w1
  have e1 : (if 0 ≤ x ∧ x ≤ N 0 1 - 1 then (1 : Int) else 0) = if 0 ≤ x ∧ x < N 0 1 then 1 else 0 := by
    clear hx w1 hw
    by_cases c : 0 ≤ x ∧ x < N 0 1
    · rw [if_pos c, if_pos (by omega)]
    · rw [if_neg c, if_neg (by omega)]
  rw [e1] at hw
  have hz : (w32 (if 0 ≤ x ∧ x < N 0 1 then 1 else 0) = 0 ∨ w32 (if 0 ≤ x ∧ x < N 0 1 then 1 else 0) = 1) = True := q_wi01
  simp only [e_159, b_159_0, b_159_6, b_159_11, ↓reduceIte, Nat.reduceEqDiff, Nat.reduceMul, q_n10, q_n01, Option.bind_some, g_aft0, g_aft1, g_aft2, g_aft3, g_aft9, Nat.reduceAdd, m_kill_0, m_kill_2, m_kill_3, m_kill_4, m_kill_9, true_or, or_true, q_lm1, q_l0, q_l1, q_l2, q_l3, q_l4, q_l5, q_l6, q_l8, q_l9, q_l10, q_l12, q_l17, q_l32, q_l35, q_l48, q_l50, q_l54, q_l57, q_l64, q_l73, q_l118, q_l119, q_l120, q_l122, q_l126, q_l160, q_l256, q_l365, q_l372, q_l438, q_l1000, q_l100000, q_l1000000, q_modF hL.2.2.2.2.2.2.1, hm, hw, hz]
theorem z_isStr (h : z_n σ N) (hx : w32 x = x) : m_cl Z 152 [(0, x), (0, 0), (0, N 0 2 - 1)] (K, σ, 206, e, s) = some (.inl (0, if 0 ≤ x ∧ x < N 0 2 then 1 else 0), (K, σ, 206, e, s)) := by
  have h8 := h.1.2.2.1
  have w1 : w32 (N 0 2 - 1) = N 0 2 - 1 := by clear hx; exact q_wi (by omega) (by omega)
  have hw := z_within2 (Z := Z) (h := (K, σ, 206, e, s)) (x := x) (y := 0) (z := N 0 2 - 1) hx (by decide) w1
  rw [hw]
  clear hx w1 hw
  by_cases c : 0 ≤ x ∧ x < N 0 2
  · rw [if_pos c, if_pos (by omega)]
  · rw [if_neg c, if_neg (by omega)]
theorem w_ebI_r2 (hw : q_wf N) : w_ebI N x y = -1 ∨ ∃ j, j < w_ne N ∧ (N 6 j = x ∧ N 8 j = y ∨ N 6 j = y ∧ N 8 j = x) := by
  rcases q_fst_r (p := fun i => decide (N 6 i = x ∧ N 8 i = y ∨ N 6 i = y ∧ N 8 i = x)) (w_ne N) 0 with ⟨h1, -⟩ | ⟨j, -, h2, h3, -, -⟩
  · exact Or.inl h1
  · exact Or.inr ⟨j, by omega, of_decide_eq_true h3⟩
theorem z_joined (hL : q_lay K) (h : z_n σ N) (hx : w32 x = x) (hy : w32 y = y) : m_cl Z 164 [(2, ((191 : Nat) : Int)), (0, x), (0, y)] (K, σ, 206, e, s) = some (.inl (0, if w_ebI N x y = -1 then 0 else 1), (K, σ, 206, e, s)) := by
  have hne := wf_e h.1
  have hm := z_emany (Z := Z) (e := e) (s := s) hL h
  obtain ⟨p, hp⟩ : ∃ p : Nat → Bool, p = fun j => decide (N 6 j = x ∧ N 8 j = y ∨ N 6 j = y ∧ N 8 j = x) := ⟨_, rfl⟩
  have lp := q_loopf (Z := Z) (N := w_ne N) (S := fun i => (164, 5, [(2, ((191 : Nat) : Int)), (0, x), (0, y), (0, if q_or p i = true then 1 else 0), (0, (i : Int))], [], (K, σ, 206, e, s))) (by
    intro i hi
    obtain ⟨o1, o2, o3⟩ := z_of (Z := Z) (e := e) (s := s) hL h hi
    have h7 := wf_ed h.1 hi
    have hnn := wf_n h.1
    have wi : w32 (i : Int) = (i : Int) := q_w (by clear hx hy; omega)
    have wm : w32 (N 0 1) = N 0 1 := by clear hx hy wi; exact q_wi (by omega) (by omega)
    have c0 : ¬ N 0 1 ≤ (i : Int) := by clear hx hy wi wm; omega
    have w6 : w32 (N 6 i) = N 6 i := by clear hx hy wi wm; exact q_wi (by omega) (by omega)
    have w8 : w32 (N 8 i) = N 8 i := by clear hx hy wi wm w6; exact q_wi (by omega) (by omega)
    conv => lhs; simp only [b_164_5, ↓reduceIte, Nat.reduceEqDiff, Nat.reduceMul, q_n10, q_n01, Option.bind_some, g_aft0, g_aft1, g_aft2, g_aft3, g_aft9, Nat.reduceAdd, m_kill_0, m_kill_2, m_kill_3, m_kill_4, m_kill_9, true_or, or_true, q_lm1, q_l0, q_l1, q_l2, q_l3, q_l4, q_l5, q_l6, q_l8, q_l9, q_l10, q_l12, q_l17, q_l32, q_l35, q_l48, q_l50, q_l54, q_l57, q_l64, q_l73, q_l118, q_l119, q_l120, q_l122, q_l126, q_l160, q_l256, q_l365, q_l372, q_l438, q_l1000, q_l100000, q_l1000000, q_modF hL.2.2.2.2.2.2.1, hm]
    conv => lhs; simp only [b_164_11, ↓reduceIte, Nat.reduceEqDiff, Nat.reduceMul, q_n10, q_n01, Option.bind_some, g_aft0, g_aft1, g_aft2, g_aft3, g_aft9, Nat.reduceAdd, m_kill_0, m_kill_2, m_kill_3, m_kill_4, m_kill_9, true_or, or_true, q_lm1, q_l0, q_l1, q_l2, q_l3, q_l4, q_l5, q_l6, q_l8, q_l9, q_l10, q_l12, q_l17, q_l32, q_l35, q_l48, q_l50, q_l54, q_l57, q_l64, q_l73, q_l118, q_l119, q_l120, q_l122, q_l126, q_l160, q_l256, q_l365, q_l372, q_l438, q_l1000, q_l100000, q_l1000000, wi, wm, c0]
    have pi : p i = decide (N 6 i = x ∧ N 8 i = y ∨ N 6 i = y ∧ N 8 i = x) := by rw [hp]
    rw [q_or_s]
    by_cases d : q_or p i = true
    · rw [if_pos d, if_pos (by rw [d]; rfl)]
      conv => lhs; simp only [b_164_14, b_164_62, ↓reduceIte, Nat.reduceEqDiff, Nat.reduceMul, q_n10, q_n01, Option.bind_some, g_aft0, g_aft1, g_aft2, g_aft3, g_aft9, Nat.reduceAdd, m_kill_0, m_kill_2, m_kill_3, m_kill_4, m_kill_9, true_or, or_true, q_lm1, q_l0, q_l1, q_l2, q_l3, q_l4, q_l5, q_l6, q_l8, q_l9, q_l10, q_l12, q_l17, q_l32, q_l35, q_l48, q_l50, q_l54, q_l57, q_l64, q_l73, q_l118, q_l119, q_l120, q_l122, q_l126, q_l160, q_l256, q_l365, q_l372, q_l438, q_l1000, q_l100000, q_l1000000]
      rfl
    · rw [if_neg d]
      have d' : q_or p i = false := by simpa using d
      have e1 : (if (q_or p i || p i) = true then (1 : Int) else 0) = if N 6 i = x ∧ N 8 i = y ∨ N 6 i = y ∧ N 8 i = x then 1 else 0 := by
        rw [d', Bool.false_or, pi]
        simp only [decide_eq_true_eq]
      rw [e1]
      have ej : ((i + 1 : Nat) : Int) = (i : Int) + 1 := rfl
      rw [ej]
      conv => lhs; simp only [b_164_14, b_164_18, ↓reduceIte, Nat.reduceEqDiff, Nat.reduceMul, q_n10, q_n01, Option.bind_some, g_aft0, g_aft1, g_aft2, g_aft3, g_aft9, Nat.reduceAdd, m_kill_0, m_kill_2, m_kill_3, m_kill_4, m_kill_9, true_or, or_true, q_lm1, q_l0, q_l1, q_l2, q_l3, q_l4, q_l5, q_l6, q_l8, q_l9, q_l10, q_l12, q_l17, q_l32, q_l35, q_l48, q_l50, q_l54, q_l57, q_l64, q_l73, q_l118, q_l119, q_l120, q_l122, q_l126, q_l160, q_l256, q_l365, q_l372, q_l438, q_l1000, q_l100000, q_l1000000, q_modF hL.2.2.2.2.2.2.1, o1]
      simp only [b_164_25, b_164_29, b_164_36, b_164_40, b_164_47, b_164_51, b_164_58, b_164_62, b_164_66, b_164_67, ↓reduceIte, Nat.reduceEqDiff, Nat.reduceMul, q_n10, q_n01, Option.bind_some, g_aft0, g_aft1, g_aft2, g_aft3, g_aft9, Nat.reduceAdd, m_kill_0, m_kill_2, m_kill_3, m_kill_4, m_kill_9, true_or, or_true, q_lm1, q_l0, q_l1, q_l2, q_l3, q_l4, q_l5, q_l6, q_l8, q_l9, q_l10, q_l12, q_l17, q_l32, q_l35, q_l48, q_l50, q_l54, q_l57, q_l64, q_l73, q_l118, q_l119, q_l120, q_l122, q_l126, q_l160, q_l256, q_l365, q_l372, q_l438, q_l1000, q_l100000, q_l1000000, q_modF hL.2.2.2.2.2.2.1, o1, o2, hx, hy, w6, w8]
      repeat' split
      all_goals first | rfl | (exfalso; clear hx hy wi wm w6 w8 hm o1 o2; omega))
  have e0 : (if q_or p 0 = true then (1 : Int) else 0) = 0 := by rw [if_neg (by rw [show q_or p 0 = false from rfl]; exact Bool.false_ne_true)]
  rw [e0] at lp
  have hz : (w32 (if q_or p (w_ne N) = true then 1 else 0) = 0 ∨ w32 (if q_or p (w_ne N) = true then 1 else 0) = 1) = True := q_wi01
  have wm : w32 (N 0 1) = N 0 1 := by clear hx hy; exact q_wi (by omega) (by omega)
  have fin : (if q_or p (w_ne N) = true then (1 : Int) else 0) = if w_ebI N x y = -1 then 0 else 1 := by
    rcases w_ebI_r h.1 (x := x) (y := y) with ⟨h1, h2⟩ | ⟨j, hj, h1⟩
    · rw [if_pos h1, if_neg (fun q => ?_)]
      obtain ⟨j, hj, hpj⟩ := (q_or_iff _).mp q
      rw [hp] at hpj
      exact h2 j hj (of_decide_eq_true hpj)
    · have hq : q_or p (w_ne N) = true := by
        rcases w_ebI_r2 h.1 (x := x) (y := y) with h2 | ⟨j, hj, h2⟩
        · rw [h2] at h1; omega
        · exact (q_or_iff _).mpr ⟨j, hj, by rw [hp]; exact decide_eq_true h2⟩
      rw [hq, if_pos rfl, if_neg (by rw [h1]; omega)]
  rw [e_164, b_164_0]
  refine Eq.trans lp ?_
  rw [fin] at hz ⊢
  rw [← hne.1]
  conv => lhs; simp only [b_164_5, ↓reduceIte, Nat.reduceEqDiff, Nat.reduceMul, q_n10, q_n01, Option.bind_some, g_aft0, g_aft1, g_aft2, g_aft3, g_aft9, Nat.reduceAdd, m_kill_0, m_kill_2, m_kill_3, m_kill_4, m_kill_9, true_or, or_true, q_lm1, q_l0, q_l1, q_l2, q_l3, q_l4, q_l5, q_l6, q_l8, q_l9, q_l10, q_l12, q_l17, q_l32, q_l35, q_l48, q_l50, q_l54, q_l57, q_l64, q_l73, q_l118, q_l119, q_l120, q_l122, q_l126, q_l160, q_l256, q_l365, q_l372, q_l438, q_l1000, q_l100000, q_l1000000, q_modF hL.2.2.2.2.2.2.1, hm]
  simp only [b_164_11, b_164_74, ↓reduceIte, Nat.reduceEqDiff, Nat.reduceMul, q_n10, q_n01, Option.bind_some, g_aft0, g_aft1, g_aft2, g_aft3, g_aft9, Nat.reduceAdd, m_kill_0, m_kill_2, m_kill_3, m_kill_4, m_kill_9, true_or, or_true, q_lm1, q_l0, q_l1, q_l2, q_l3, q_l4, q_l5, q_l6, q_l8, q_l9, q_l10, q_l12, q_l17, q_l32, q_l35, q_l48, q_l50, q_l54, q_l57, q_l64, q_l73, q_l118, q_l119, q_l120, q_l122, q_l126, q_l160, q_l256, q_l365, q_l372, q_l438, q_l1000, q_l100000, q_l1000000, wm, Int.le_refl, hz]
end
end
