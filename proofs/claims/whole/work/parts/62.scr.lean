section
/-! Scripts: reading. -/
def w_sg (X : Nat → Int) (L i : Nat) : Int := if i < L then X i else 0
def w_dg (X : Nat → Int) (L i : Nat) : Bool := decide (48 ≤ w_sg X L i ∧ w_sg X L i ≤ 57)
def w_skf (X : Nat → Int) (L : Nat) : Nat → Nat → Nat
  | 0, i => i
  | k + 1, i => if w_sg X L i = 32 then w_skf X L k (i + 1) else i
def w_sk (X : Nat → Int) (L i : Nat) : Nat := w_skf X L (L - i) i
/-- a number: whether there is one, the place behind it, its value -/
def w_nm (X : Nat → Int) (L i : Nat) : Bool × Nat × Int := if w_dg X L (w_sk X L i) = true then (if w_dg X L (w_sk X L i + 1) = true then (true, w_sk X L i + 2, (w_sg X L (w_sk X L i) - 48) * 10 + (w_sg X L (w_sk X L i + 1) - 48)) else (true, w_sk X L i + 1, w_sg X L (w_sk X L i) - 48)) else (false, w_sk X L i, 0)
def w_pt (X : Nat → Int) (L : Nat) : List Nat → Nat → List Int → Bool × Nat × List Int
  | [], i, a => (true, i, a)
  | c :: r, i, a => if c = 35 then (if (w_nm X L i).1 = true then w_pt X L r (w_nm X L i).2.1 (a ++ [(w_nm X L i).2.2]) else (false, (w_nm X L i).2.1, a)) else if w_sg X L (w_sk X L i) = (c : Int) then w_pt X L r (w_sk X L i + 1) a else (false, w_sk X L i, a)
def w_kd (X : Nat → Int) (L i : Nat) : Nat := if w_sg X L i = 119 then 0 else if w_sg X L i = 118 then 1 else if w_sg X L i = 120 then 2 else if w_dg X L i = true then 3 else 4
def w_tx (σ : Nat → Nat → Int) (X : Nat → Int) (L : Nat) : Prop := σ 186 0 = (L : Int) ∧ L ≤ 120 ∧ ∀ i, i < L → σ 188 i = X i ∧ 32 ≤ X i ∧ X i ≤ 126
def q_fs (σ τ : Nat → Nat → Int) : Prop := (∀ a, a ≠ 186 → a ≠ 190 → τ a = σ a) ∧ ∀ j, j ≠ 2 → j ≠ 3 → j ≠ 4 → τ 186 j = σ 186 j
theorem q_fs_r {σ : Nat → Nat → Int} : q_fs σ σ := ⟨fun _ _ _ => rfl, fun _ _ _ _ => rfl⟩
theorem q_fs_t {σ τ ρ : Nat → Nat → Int} (h : q_fs σ τ) (h2 : q_fs τ ρ) : q_fs σ ρ := ⟨fun a h3 h4 => (h2.1 a h3 h4).trans (h.1 a h3 h4), fun j h3 h4 h5 => (h2.2 j h3 h4 h5).trans (h.2 j h3 h4 h5)⟩
theorem w_tx_f {σ τ : Nat → Nat → Int} {X : Nat → Int} {L : Nat} (h : w_tx σ X L) (hf : q_fs σ τ) : w_tx τ X L := ⟨(hf.2 0 (by omega) (by omega) (by omega)).trans h.1, h.2.1, fun i hi => by rw [hf.1 188 (by omega) (by omega)]; exact h.2.2 i hi⟩
theorem q_fs_2 {σ : Nat → Nat → Int} {v : Int} : q_fs σ (m_up2 σ 186 2 v) := ⟨fun a h _ => m_up2_ne h, fun j h _ _ => m_up2_nk h⟩
theorem m_up2_self {σ : Nat → Nat → Int} {a k : Nat} {v : Int} (h : σ a k = v) : m_up2 σ a k v = σ := by
  funext b j
  unfold m_up2
  split
  · next c => obtain ⟨rfl, rfl⟩ := c; exact h.symm
  · rfl
theorem m_up2_2 {σ : Nat → Nat → Int} {a k : Nat} {v w : Int} : m_up2 (m_up2 σ a k v) a k w = m_up2 σ a k w := by
  funext b j
  unfold m_up2
  split
  · rfl
  · rfl
section
variable {Z : mZ} {K : Nat → mK} {σ τ N : Nat → Nat → Int} {e s g i L : Nat} {t p q v : Int} {X : Nat → Int}
theorem w_sgb (h : w_tx σ X L) (i : Nat) : 0 ≤ w_sg X L i ∧ w_sg X L i ≤ 126 := by
  unfold w_sg
  split
  · next c => have := h.2.2 i c; omega
  · omega
theorem w_skf_le : ∀ k i, i ≤ w_skf X L k i ∧ w_skf X L k i ≤ i + k
  | 0, i => ⟨Nat.le_refl _, Nat.le_refl _⟩
  | k + 1, i => by
    unfold w_skf
    have := w_skf_le k (i + 1)
    split <;> omega
theorem w_sk_le (hi : i ≤ L) : i ≤ w_sk X L i ∧ w_sk X L i ≤ L := by
  have := w_skf_le (X := X) (L := L) (L - i) i
  unfold w_sk
  omega
theorem c_sign (hL : q_lay K) (h : w_tx σ X L) (hp : σ 186 2 = (i : Int)) (hi : i ≤ 200) : m_cl Z 58 [(2, ((186 : Nat) : Int))] (K, σ, 206, e, s) = some (.inl (0, w_sg X L i), (K, σ, 206, e, s)) := by
  obtain ⟨h1, h2, h3⟩ := h
  unfold w_sg
  by_cases c : i < L
  · have c0 : ¬ (L : Int) ≤ (i : Int) := by omega
    have g1 : q_get σ 188 120 (i : Int) = X i := by rw [q_get_nat (by omega) (by omega)]; exact (h3 i c).1
    have w1 : w32 (L : Int) = (L : Int) := q_w (by clear g1; omega)
    have w2 : w32 (i : Int) = (i : Int) := q_w (by clear g1 w1; omega)
    rw [if_pos c]
    simp only [e_58, b_58_0, b_58_11, b_58_22, b_58_25, b_58_26, ↓reduceIte, Nat.reduceEqDiff, Nat.reduceMul, q_n10, q_n01, Option.bind_some, g_aft0, g_aft1, g_aft2, g_aft3, g_aft9, Nat.reduceAdd, m_kill_0, m_kill_2, m_kill_3, m_kill_4, m_kill_9, true_or, or_true, q_lm1, q_l0, q_l1, q_l2, q_l3, q_l4, q_l5, q_l6, q_l8, q_l9, q_l10, q_l12, q_l17, q_l32, q_l35, q_l48, q_l50, q_l54, q_l57, q_l64, q_l73, q_l118, q_l119, q_l120, q_l122, q_l126, q_l160, q_l256, q_l365, q_l372, q_l438, q_l1000, q_l100000, q_l1000000, q_scrF hL.2.2.2.2.2.1, h1, hp, w1, w2, c0, r_get, g1]
  · have c0 : (L : Int) ≤ (i : Int) := by omega
    have w1 : w32 (L : Int) = (L : Int) := q_w (by omega)
    have w2 : w32 (i : Int) = (i : Int) := q_w (by clear w1; omega)
    rw [if_neg c]
    simp only [e_58, b_58_0, b_58_11, b_58_22, b_58_25, b_58_26, ↓reduceIte, Nat.reduceEqDiff, Nat.reduceMul, q_n10, q_n01, Option.bind_some, g_aft0, g_aft1, g_aft2, g_aft3, g_aft9, Nat.reduceAdd, m_kill_0, m_kill_2, m_kill_3, m_kill_4, m_kill_9, true_or, or_true, q_lm1, q_l0, q_l1, q_l2, q_l3, q_l4, q_l5, q_l6, q_l8, q_l9, q_l10, q_l12, q_l17, q_l32, q_l35, q_l48, q_l50, q_l54, q_l57, q_l64, q_l73, q_l118, q_l119, q_l120, q_l122, q_l126, q_l160, q_l256, q_l365, q_l372, q_l438, q_l1000, q_l100000, q_l1000000, q_scrF hL.2.2.2.2.2.1, h1, hp, w1, w2, c0]
theorem c_digit (hL : q_lay K) (h : w_tx σ X L) (hp : σ 186 2 = (i : Int)) (hi : i ≤ 200) : m_cl Z 59 [(2, ((186 : Nat) : Int))] (K, σ, 206, e, s) = some (.inl (0, if w_dg X L i = true then 1 else 0), (K, σ, 206, e, s)) := by
  have hb := w_sgb h i
  have hs := c_sign (Z := Z) (e := e) (s := s) hL h hp hi
  have w1 : w32 (w_sg X L i) = w_sg X L i := q_wi (by omega) (by omega)
  unfold w_dg
  by_cases c1 : w_sg X L i < 48
  · rw [if_neg (by rw [decide_eq_true_eq]; clear w1; omega)]
    simp only [e_59, b_59_0, b_59_4, b_59_9, b_59_13, b_59_18, b_59_22, b_59_23, ↓reduceIte, Nat.reduceEqDiff, Nat.reduceMul, q_n10, q_n01, Option.bind_some, g_aft0, g_aft1, g_aft2, g_aft3, g_aft9, Nat.reduceAdd, m_kill_0, m_kill_2, m_kill_3, m_kill_4, m_kill_9, true_or, or_true, q_lm1, q_l0, q_l1, q_l2, q_l3, q_l4, q_l5, q_l6, q_l8, q_l9, q_l10, q_l12, q_l17, q_l32, q_l35, q_l48, q_l50, q_l54, q_l57, q_l64, q_l73, q_l118, q_l119, q_l120, q_l122, q_l126, q_l160, q_l256, q_l365, q_l372, q_l438, q_l1000, q_l100000, q_l1000000, q_scrF hL.2.2.2.2.2.1, hs, w1, c1, true_or]
  · by_cases c2 : 57 < w_sg X L i
    · rw [if_neg (by rw [decide_eq_true_eq]; clear w1; omega)]
      simp only [e_59, b_59_0, b_59_4, b_59_9, b_59_13, b_59_18, b_59_22, b_59_23, ↓reduceIte, Nat.reduceEqDiff, Nat.reduceMul, q_n10, q_n01, Option.bind_some, g_aft0, g_aft1, g_aft2, g_aft3, g_aft9, Nat.reduceAdd, m_kill_0, m_kill_2, m_kill_3, m_kill_4, m_kill_9, true_or, or_true, q_lm1, q_l0, q_l1, q_l2, q_l3, q_l4, q_l5, q_l6, q_l8, q_l9, q_l10, q_l12, q_l17, q_l32, q_l35, q_l48, q_l50, q_l54, q_l57, q_l64, q_l73, q_l118, q_l119, q_l120, q_l122, q_l126, q_l160, q_l256, q_l365, q_l372, q_l438, q_l1000, q_l100000, q_l1000000, q_scrF hL.2.2.2.2.2.1, hs, w1, c1, c2, true_or]
    · rw [if_pos (by rw [decide_eq_true_eq]; clear w1; omega)]
      simp only [e_59, b_59_0, b_59_4, b_59_9, b_59_13, b_59_18, b_59_22, b_59_23, ↓reduceIte, Nat.reduceEqDiff, Nat.reduceMul, q_n10, q_n01, Option.bind_some, g_aft0, g_aft1, g_aft2, g_aft3, g_aft9, Nat.reduceAdd, m_kill_0, m_kill_2, m_kill_3, m_kill_4, m_kill_9, true_or, or_true, q_lm1, q_l0, q_l1, q_l2, q_l3, q_l4, q_l5, q_l6, q_l8, q_l9, q_l10, q_l12, q_l17, q_l32, q_l35, q_l48, q_l50, q_l54, q_l57, q_l64, q_l73, q_l118, q_l119, q_l120, q_l122, q_l126, q_l160, q_l256, q_l365, q_l372, q_l438, q_l1000, q_l100000, q_l1000000, q_scrF hL.2.2.2.2.2.1, hs, w1, c1, c2]
theorem c_skip (hL : q_lay K) (h : w_tx σ X L) (hp : σ 186 2 = (i : Int)) (hi : i ≤ L) : m_cl Z 57 [(2, ((186 : Nat) : Int))] (K, σ, 206, e, s) = some (.inl (9, 0), (K, m_up2 σ 186 2 (w_sk X L i : Int), 206, e, s)) := by
  have L120 := h.2.1
  have key : ∀ (k i : Nat) σ, w_tx σ X L → σ 186 2 = (i : Int) → i + k = L → m_run Z (57, 0, [(2, ((186 : Nat) : Int))], [], (K, σ, 206, e, s)) = some (.inl (9, 0), (K, m_up2 σ 186 2 (w_skf X L k i : Int), 206, e, s)) := by
    intro k
    induction k with
    | zero =>
      intro i σ h hp hi
      have c0 : (L : Int) ≤ (i : Int) := by omega
      have w1 : w32 (L : Int) = (L : Int) := q_w (by omega)
      have w2 : w32 (i : Int) = (i : Int) := q_w (by clear w1; omega)
      simp only [b_57_0, b_57_33, ↓reduceIte, Nat.reduceEqDiff, Nat.reduceMul, q_n10, q_n01, Option.bind_some, g_aft0, g_aft1, g_aft2, g_aft3, g_aft9, Nat.reduceAdd, m_kill_0, m_kill_2, m_kill_3, m_kill_4, m_kill_9, true_or, or_true, q_lm1, q_l0, q_l1, q_l2, q_l3, q_l4, q_l5, q_l6, q_l8, q_l9, q_l10, q_l12, q_l17, q_l32, q_l35, q_l48, q_l50, q_l54, q_l57, q_l64, q_l73, q_l118, q_l119, q_l120, q_l122, q_l126, q_l160, q_l256, q_l365, q_l372, q_l438, q_l1000, q_l100000, q_l1000000, q_scrF hL.2.2.2.2.2.1, h.1, hp, w1, w2, c0]
      rw [show w_skf X L 0 i = i from rfl, m_up2_self hp]
    | succ k ih =>
      intro i σ h hp hi
      have c0 : ¬ (L : Int) ≤ (i : Int) := by omega
      have hs := c_sign (Z := Z) (e := e) (s := s) hL h hp (by omega)
      have hb := w_sgb h i
      have w1 : w32 (L : Int) = (L : Int) := q_w (by omega)
      have w2 : w32 (i : Int) = (i : Int) := q_w (by clear w1; omega)
      have w3 : w32 (w_sg X L i) = w_sg X L i := q_wi (by clear w1 w2; omega) (by clear w1 w2; omega)
      unfold w_skf
      conv => lhs; simp only [b_57_0, ↓reduceIte, Nat.reduceEqDiff, Nat.reduceMul, q_n10, q_n01, Option.bind_some, g_aft0, g_aft1, g_aft2, g_aft3, g_aft9, Nat.reduceAdd, m_kill_0, m_kill_2, m_kill_3, m_kill_4, m_kill_9, true_or, or_true, q_lm1, q_l0, q_l1, q_l2, q_l3, q_l4, q_l5, q_l6, q_l8, q_l9, q_l10, q_l12, q_l17, q_l32, q_l35, q_l48, q_l50, q_l54, q_l57, q_l64, q_l73, q_l118, q_l119, q_l120, q_l122, q_l126, q_l160, q_l256, q_l365, q_l372, q_l438, q_l1000, q_l100000, q_l1000000, q_scrF hL.2.2.2.2.2.1, h.1, hp, w1, w2, c0]
      by_cases c : w_sg X L i = 32
      · rw [if_pos c]
        have e1 : (i : Int) + 1 = ((i + 1 : Nat) : Int) := by clear w1 w2 w3; omega
        have hr := ih (i + 1) (m_up2 σ 186 2 ((i + 1 : Nat) : Int)) (w_tx_f h q_fs_2) m_up2_at (by clear w1 w2 w3; omega)
        rw [m_up2_2] at hr
        simp only [b_57_11, b_57_15, b_57_20, ↓reduceIte, Nat.reduceEqDiff, Nat.reduceMul, q_n10, q_n01, Option.bind_some, g_aft0, g_aft1, g_aft2, g_aft3, g_aft9, Nat.reduceAdd, m_kill_0, m_kill_2, m_kill_3, m_kill_4, m_kill_9, true_or, or_true, q_lm1, q_l0, q_l1, q_l2, q_l3, q_l4, q_l5, q_l6, q_l8, q_l9, q_l10, q_l12, q_l17, q_l32, q_l35, q_l48, q_l50, q_l54, q_l57, q_l64, q_l73, q_l118, q_l119, q_l120, q_l122, q_l126, q_l160, q_l256, q_l365, q_l372, q_l438, q_l1000, q_l100000, q_l1000000, q_scrF hL.2.2.2.2.2.1, hs, w3, c, hp, e1]
        exact hr
      · rw [if_neg c]
        simp only [b_57_11, b_57_15, b_57_33, ↓reduceIte, Nat.reduceEqDiff, Nat.reduceMul, q_n10, q_n01, Option.bind_some, g_aft0, g_aft1, g_aft2, g_aft3, g_aft9, Nat.reduceAdd, m_kill_0, m_kill_2, m_kill_3, m_kill_4, m_kill_9, true_or, or_true, q_lm1, q_l0, q_l1, q_l2, q_l3, q_l4, q_l5, q_l6, q_l8, q_l9, q_l10, q_l12, q_l17, q_l32, q_l35, q_l48, q_l50, q_l54, q_l57, q_l64, q_l73, q_l118, q_l119, q_l120, q_l122, q_l126, q_l160, q_l256, q_l365, q_l372, q_l438, q_l1000, q_l100000, q_l1000000, q_scrF hL.2.2.2.2.2.1, hs, w3, c]
        rw [m_up2_self hp]
  rw [e_57]
  exact key (L - i) i σ h hp (by omega)
theorem c_readSign {c : Nat} (hL : q_lay K) (h : w_tx σ X L) (hp : σ 186 2 = (i : Int)) (hi : i ≤ 200) (hc : c ≤ 126) : m_cl Z 62 [(2, ((186 : Nat) : Int)), (0, (c : Int))] (K, σ, 206, e, s) = some (.inl (0, if w_sg X L i = (c : Int) then 1 else 0), (K, m_up2 σ 186 2 (if w_sg X L i = (c : Int) then ((i + 1 : Nat) : Int) else (i : Int)), 206, e, s)) := by
  have hb := w_sgb h i
  have hs := c_sign (Z := Z) (e := e) (s := s) hL h hp hi
  have w1 : w32 (w_sg X L i) = w_sg X L i := q_wi (by omega) (by omega)
  have w2 : w32 (c : Int) = (c : Int) := q_w (by clear w1; omega)
  by_cases d : w_sg X L i = (c : Int)
  · have e1 : (i : Int) + 1 = ((i + 1 : Nat) : Int) := by clear w1 w2; omega
    rw [if_pos d, if_pos d]
    simp only [e_62, b_62_0, b_62_4, b_62_8, b_62_12, b_62_13, b_62_23, b_62_27, b_62_28, ↓reduceIte, Nat.reduceEqDiff, Nat.reduceMul, q_n10, q_n01, Option.bind_some, g_aft0, g_aft1, g_aft2, g_aft3, g_aft9, Nat.reduceAdd, m_kill_0, m_kill_2, m_kill_3, m_kill_4, m_kill_9, true_or, or_true, q_lm1, q_l0, q_l1, q_l2, q_l3, q_l4, q_l5, q_l6, q_l8, q_l9, q_l10, q_l12, q_l17, q_l32, q_l35, q_l48, q_l50, q_l54, q_l57, q_l64, q_l73, q_l118, q_l119, q_l120, q_l122, q_l126, q_l160, q_l256, q_l365, q_l372, q_l438, q_l1000, q_l100000, q_l1000000, q_scrF hL.2.2.2.2.2.1, hs, w1, w2, d, or_true, hp, e1]
  · rw [if_neg d, if_neg d]
    have e1 : (i : Int) + 0 = (i : Int) := Int.add_zero _
    simp only [e_62, b_62_0, b_62_4, b_62_8, b_62_12, b_62_13, b_62_23, b_62_27, b_62_28, ↓reduceIte, Nat.reduceEqDiff, Nat.reduceMul, q_n10, q_n01, Option.bind_some, g_aft0, g_aft1, g_aft2, g_aft3, g_aft9, Nat.reduceAdd, m_kill_0, m_kill_2, m_kill_3, m_kill_4, m_kill_9, true_or, or_true, q_lm1, q_l0, q_l1, q_l2, q_l3, q_l4, q_l5, q_l6, q_l8, q_l9, q_l10, q_l12, q_l17, q_l32, q_l35, q_l48, q_l50, q_l54, q_l57, q_l64, q_l73, q_l118, q_l119, q_l120, q_l122, q_l126, q_l160, q_l256, q_l365, q_l372, q_l438, q_l1000, q_l100000, q_l1000000, q_scrF hL.2.2.2.2.2.1, hs, w1, w2, d, true_or, hp, e1]
end
end
