section
/-! Groups: chosen; coverings. -/
def w_cd (f1 fk : Nat → Rat) (b : Rat) (S a : Nat) : Prop := w_sub a S = true ∧ f1 a ≤ b ∧ fk (S - a) ≤ b
def w_gg (C : Nat → Prop) (S r : Nat) : Prop := (r = 0 ∧ ∀ a, 1 ≤ a → a ≤ S → ¬ C a) ∨ (1 ≤ r ∧ r ≤ S ∧ C r ∧ ∀ a, r < a → a ≤ S → ¬ C a)
def w_chs (f1 f2 : Nat → Rat) (b : Rat) (all k i r : Nat) : Prop := (k = 1 ∧ r = all) ∨ (k = 2 ∧ ∃ g, w_gg (w_cd f1 f1 b all) all g ∧ r = if i = 0 then g else all - g) ∨ (k = 3 ∧ ∃ g h, w_gg (w_cd f1 f2 b all) all g ∧ w_gg (w_cd f1 f1 b (all - g)) (all - g) h ∧ r = if i = 0 then g else if i = 1 then h else all - g - h)
/-- the least numbers of groups, M where there are too many -/
def w_few (f1 : Nat → Rat) (x : Rat) (M : Int) (all : Nat) (c : Nat → Int) : Prop := c 0 = 0 ∧ ∀ S, 1 ≤ S → S ≤ all → c S ≤ M ∧ (∀ a, 1 ≤ a → a ≤ S → w_sub a S = true → f1 a ≤ x → c S ≤ c (S - a) + 1) ∧ (c S = M ∨ ∃ a, 1 ≤ a ∧ a ≤ S ∧ w_sub a S = true ∧ f1 a ≤ x ∧ c S = c (S - a) + 1)
section
variable {Z : mZ} {K : Nat → mK} {σ τ N : Nat → Nat → Int} {e s g i m : Nat} {t p q v : Int}
theorem p_greatest {k : Int} {B S b : Nat} (hL : q_lay K) (hk : (k = 2 ∧ B = 0) ∨ (k = 3 ∧ B = 256)) (hS : S < 256) (hb : w_eo σ b) (hb2 : b < 768) (h1 : ∀ a, a < 256 → w_sub a S = true → w_eo σ a ∧ w_eo σ (B + a)) : ∃ r : Nat, m_cl Z 8 [(2, ((177 : Nat) : Int)), (0, k), (0, (S : Int)), (0, (b : Int))] (K, σ, 191, e, s) = some (.inl (0, (r : Int)), (K, σ, 191, e, s)) ∧ w_gg (w_cd (fun a => w_F2 σ a) (fun a => w_F2 σ (B + a)) (w_F2 σ b) S) S r := by
  have k1 : ∀ a : Nat, ((k - 1) - 1) * 256 + (a : Int) = ((B + a : Nat) : Int) := fun a => by rcases hk with ⟨rfl, rfl⟩ | ⟨rfl, rfl⟩ <;> omega
  have hB : B ≤ 256 := by rcases hk with ⟨rfl, rfl⟩ | ⟨rfl, rfl⟩ <;> omega
  have key : ∀ i, i ≤ S → (∀ a, i < a → a ≤ S → ¬ w_cd (fun a => w_F2 σ a) (fun a => w_F2 σ (B + a)) (w_F2 σ b) S a) → ∃ r : Nat, m_run Z (8, 3, [(2, ((177 : Nat) : Int)), (0, k), (0, (S : Int)), (0, (b : Int)), (0, (i : Int))], [], (K, σ, 191, e, s)) = some (.inl (0, (r : Int)), (K, σ, 191, e, s)) ∧ w_gg (w_cd (fun a => w_F2 σ a) (fun a => w_F2 σ (B + a)) (w_F2 σ b) S) S r := by
    intro i
    induction i with
    | zero =>
      intro _ h
      refine ⟨0, ?_, Or.inl ⟨rfl, fun a ha => h a (by omega)⟩⟩
      have w0 : w32 ((0 : Nat) : Int) = 0 := by decide
      simp only [b_8_3, b_8_54, ↓reduceIte, Nat.reduceEqDiff, Nat.reduceMul, q_n10, q_n01, Option.bind_some, g_aft0, g_aft1, g_aft2, g_aft3, g_aft9, Nat.reduceAdd, m_kill_0, m_kill_2, m_kill_3, m_kill_4, m_kill_9, true_or, or_true, q_lm1, q_l0, q_l1, q_l2, q_l3, q_l4, q_l5, q_l6, q_l8, q_l9, q_l10, q_l12, q_l32, q_l50, q_l120, q_l122, q_l126, q_l372, q_l1000, q_l1000000, w0, Int.le_refl]
      rfl
    | succ i ih =>
      intro hi h
      have c0 : ¬ ((i + 1 : Nat) : Int) ≤ 0 := by omega
      have e1 : ((i + 1 : Nat) : Int) + (-1) = (i : Int) := by omega
      have hse := q_subE (a := i + 1) (S := S) (by omega) hS
      have wi : w32 ((i + 1 : Nat) : Int) = ((i + 1 : Nat) : Int) := q_w (by clear hse; omega)
      have nx : ¬ w_cd (fun a => w_F2 σ a) (fun a => w_F2 σ (B + a)) (w_F2 σ b) S (i + 1) → ∀ a, i < a → a ≤ S → ¬ w_cd (fun a => w_F2 σ a) (fun a => w_F2 σ (B + a)) (w_F2 σ b) S a := by
        intro hn a ha hle
        by_cases hh : a = i + 1
        · rw [hh]; exact hn
        · exact h a (by clear hse wi; omega) hle
      by_cases c : w_sub (i + 1) S = true
      · obtain ⟨s1, s2, -⟩ := w_sub_le hS (show i + 1 < 256 by clear hse wi; omega) c
        have ea := (h1 (i + 1) (by clear hse wi; omega) c).1
        have er := (h1 (S - (i + 1)) (by clear hse wi; omega) s2).2
        have e3 : (S : Int) - ((i + 1 : Nat) : Int) = ((S - (i + 1) : Nat) : Int) := by clear hse wi; omega
        have L1 := p_less (Z := Z) (e := e) (s := s) hL hb ea hb2 (by clear hse wi; omega)
        have L2 := p_less (Z := Z) (e := e) (s := s) hL hb er hb2 (by clear hse wi; omega)
        by_cases d : w_F2 σ b < w_F2 σ (i + 1)
        · rw [if_pos d] at L1
          obtain ⟨r, r1, r2⟩ := ih (by clear hse wi; omega) (nx (fun q => absurd d (Rat.not_lt.mpr q.2.1)))
          refine ⟨r, ?_, r2⟩
          conv => lhs; simp only [b_8_3, ↓reduceIte, Nat.reduceEqDiff, Nat.reduceMul, q_n10, q_n01, Option.bind_some, g_aft0, g_aft1, g_aft2, g_aft3, g_aft9, Nat.reduceAdd, m_kill_0, m_kill_2, m_kill_3, m_kill_4, m_kill_9, true_or, or_true, q_lm1, q_l0, q_l1, q_l2, q_l3, q_l4, q_l5, q_l6, q_l8, q_l9, q_l10, q_l12, q_l32, q_l50, q_l120, q_l122, q_l126, q_l372, q_l1000, q_l1000000, wi, c0]
          simp only [b_8_8, hse, c, b_8_17, b_8_24, b_8_48, ↓reduceIte, Nat.reduceEqDiff, Nat.reduceMul, q_n10, q_n01, Option.bind_some, g_aft0, g_aft1, g_aft2, g_aft3, g_aft9, Nat.reduceAdd, m_kill_0, m_kill_2, m_kill_3, m_kill_4, m_kill_9, true_or, or_true, q_lm1, q_l0, q_l1, q_l2, q_l3, q_l4, q_l5, q_l6, q_l8, q_l9, q_l10, q_l12, q_l32, q_l50, q_l120, q_l122, q_l126, q_l372, q_l1000, q_l1000000, q_grpF hL.2.2.2.2.1, L1, e1]
          exact r1
        · rw [if_neg d] at L1
          by_cases d2 : w_F2 σ b < w_F2 σ (B + (S - (i + 1)))
          · rw [if_pos d2] at L2
            obtain ⟨r, r1, r2⟩ := ih (by clear hse wi; omega) (nx (fun q => absurd d2 (Rat.not_lt.mpr q.2.2)))
            refine ⟨r, ?_, r2⟩
            conv => lhs; simp only [b_8_3, ↓reduceIte, Nat.reduceEqDiff, Nat.reduceMul, q_n10, q_n01, Option.bind_some, g_aft0, g_aft1, g_aft2, g_aft3, g_aft9, Nat.reduceAdd, m_kill_0, m_kill_2, m_kill_3, m_kill_4, m_kill_9, true_or, or_true, q_lm1, q_l0, q_l1, q_l2, q_l3, q_l4, q_l5, q_l6, q_l8, q_l9, q_l10, q_l12, q_l32, q_l50, q_l120, q_l122, q_l126, q_l372, q_l1000, q_l1000000, wi, c0]
            simp only [b_8_8, hse, c, b_8_17, b_8_24, b_8_27, b_8_39, b_8_42, b_8_48, e_1, b_1_0, e3, k1, ↓reduceIte, Nat.reduceEqDiff, Nat.reduceMul, q_n10, q_n01, Option.bind_some, g_aft0, g_aft1, g_aft2, g_aft3, g_aft9, Nat.reduceAdd, m_kill_0, m_kill_2, m_kill_3, m_kill_4, m_kill_9, true_or, or_true, q_lm1, q_l0, q_l1, q_l2, q_l3, q_l4, q_l5, q_l6, q_l8, q_l9, q_l10, q_l12, q_l32, q_l50, q_l120, q_l122, q_l126, q_l372, q_l1000, q_l1000000, q_grpF hL.2.2.2.2.1, L1, L2, e1]
            exact r1
          · rw [if_neg d2] at L2
            refine ⟨i + 1, ?_, Or.inr ⟨by clear hse wi; omega, hi, ⟨c, Rat.not_lt.mp d, Rat.not_lt.mp d2⟩, h⟩⟩
            conv => lhs; simp only [b_8_3, ↓reduceIte, Nat.reduceEqDiff, Nat.reduceMul, q_n10, q_n01, Option.bind_some, g_aft0, g_aft1, g_aft2, g_aft3, g_aft9, Nat.reduceAdd, m_kill_0, m_kill_2, m_kill_3, m_kill_4, m_kill_9, true_or, or_true, q_lm1, q_l0, q_l1, q_l2, q_l3, q_l4, q_l5, q_l6, q_l8, q_l9, q_l10, q_l12, q_l32, q_l50, q_l120, q_l122, q_l126, q_l372, q_l1000, q_l1000000, wi, c0]
            simp only [b_8_8, hse, c, b_8_17, b_8_24, b_8_27, b_8_39, b_8_42, b_8_45, e_1, b_1_0, e3, k1, ↓reduceIte, Nat.reduceEqDiff, Nat.reduceMul, q_n10, q_n01, Option.bind_some, g_aft0, g_aft1, g_aft2, g_aft3, g_aft9, Nat.reduceAdd, m_kill_0, m_kill_2, m_kill_3, m_kill_4, m_kill_9, true_or, or_true, q_lm1, q_l0, q_l1, q_l2, q_l3, q_l4, q_l5, q_l6, q_l8, q_l9, q_l10, q_l12, q_l32, q_l50, q_l120, q_l122, q_l126, q_l372, q_l1000, q_l1000000, q_grpF hL.2.2.2.2.1, L1, L2]
      · obtain ⟨r, r1, r2⟩ := ih (by clear hse wi; omega) (nx (fun q => c q.1))
        refine ⟨r, ?_, r2⟩
        conv => lhs; simp only [b_8_3, ↓reduceIte, Nat.reduceEqDiff, Nat.reduceMul, q_n10, q_n01, Option.bind_some, g_aft0, g_aft1, g_aft2, g_aft3, g_aft9, Nat.reduceAdd, m_kill_0, m_kill_2, m_kill_3, m_kill_4, m_kill_9, true_or, or_true, q_lm1, q_l0, q_l1, q_l2, q_l3, q_l4, q_l5, q_l6, q_l8, q_l9, q_l10, q_l12, q_l32, q_l50, q_l120, q_l122, q_l126, q_l372, q_l1000, q_l1000000, wi, c0]
        simp only [b_8_8, hse, c, b_8_48, ↓reduceIte, Nat.reduceEqDiff, Nat.reduceMul, q_n10, q_n01, Option.bind_some, g_aft0, g_aft1, g_aft2, g_aft3, g_aft9, Nat.reduceAdd, m_kill_0, m_kill_2, m_kill_3, m_kill_4, m_kill_9, true_or, or_true, q_lm1, q_l0, q_l1, q_l2, q_l3, q_l4, q_l5, q_l6, q_l8, q_l9, q_l10, q_l12, q_l32, q_l50, q_l120, q_l122, q_l126, q_l372, q_l1000, q_l1000000, e1, Bool.false_eq_true]
        exact r1
  obtain ⟨r, r1, r2⟩ := key S (Nat.le_refl _) (fun a h1 h2 => absurd h2 (by omega))
  refine ⟨r, ?_, r2⟩
  rw [e_8, b_8_0]
  exact r1
theorem w_gg_le {C : Nat → Prop} {S r : Nat} (h : w_gg C S r) : r ≤ S := by
  rcases h with ⟨h, -⟩ | ⟨-, h, -⟩ <;> omega
theorem p_chosen {k i : Nat} (hL : q_lay K) (hw : q_wf N) (hv : w_gv σ N t) (hk : 1 ≤ k) (hk3 : k ≤ 3) (hi : i < k) : ∃ r : Nat, m_cl Z 7 [(2, ((177 : Nat) : Int)), (0, (k : Int)), (0, (i : Int))] (K, σ, 191, e, s) = some (.inl (0, (r : Int)), (K, σ, 191, e, s)) ∧ w_chs (fun a => w_F2 σ a) (fun a => w_F2 σ (256 + a)) (w_F2 σ ((k - 1) * 256 + (2 ^ w_nn N - 1))) (2 ^ w_nn N - 1) k i r := by
  obtain ⟨v1, v2, v3, v4, v5⟩ := hv
  have p8 := q_pow8 (wf_n hw).2.2
  generalize hA : 2 ^ w_nn N - 1 = A at *
  have g2 : ∀ S b, S ≤ A → w_eo σ b → b < 768 → ∃ r : Nat, m_cl Z 8 [(2, ((177 : Nat) : Int)), (0, 2), (0, (S : Int)), (0, (b : Int))] (K, σ, 191, e, s) = some (.inl (0, (r : Int)), (K, σ, 191, e, s)) ∧ w_gg (w_cd (fun a => w_F2 σ a) (fun a => w_F2 σ a) (w_F2 σ b) S) S r := by
    intro S b hS hb hb2
    obtain ⟨r, r1, r2⟩ := p_greatest (Z := Z) (e := e) (s := s) (k := 2) (B := 0) (S := S) hL (Or.inl ⟨rfl, rfl⟩) (by omega) hb hb2 (fun a ha hs => by
      have := (w_sub_le (show S < 256 by omega) ha hs).1
      rw [Nat.zero_add]
      exact ⟨(v2 a (by omega)).1, (v2 a (by omega)).1⟩)
    simp only [Nat.zero_add] at r2
    exact ⟨r, r1, r2⟩
  have w0 : w32 ((0 : Nat) : Int) = 0 := by decide
  have w1 : w32 ((1 : Nat) : Int) = 1 := by decide
  have w2 : w32 ((2 : Nat) : Int) = 2 := by decide
  rcases (show k = 1 ∨ k = 2 ∨ k = 3 by omega) with rfl | rfl | rfl
  · have hi : i = 0 := by omega
    subst hi
    refine ⟨A, ?_, Or.inl ⟨rfl, rfl⟩⟩
    simp only [e_7, b_7_0, b_7_8, ↓reduceIte, Nat.reduceEqDiff, Nat.reduceMul, q_n10, q_n01, Option.bind_some, g_aft0, g_aft1, g_aft2, g_aft3, g_aft9, Nat.reduceAdd, m_kill_0, m_kill_2, m_kill_3, m_kill_4, m_kill_9, true_or, or_true, q_lm1, q_l0, q_l1, q_l2, q_l3, q_l4, q_l5, q_l6, q_l8, q_l9, q_l10, q_l12, q_l32, q_l50, q_l120, q_l122, q_l126, q_l372, q_l1000, q_l1000000, q_grpF hL.2.2.2.2.1, v1, e_1, b_1_0]
    simp only [b_7_18, b_7_46, b_7_53, ↓reduceIte, Nat.reduceEqDiff, Nat.reduceMul, q_n10, q_n01, Option.bind_some, g_aft0, g_aft1, g_aft2, g_aft3, g_aft9, Nat.reduceAdd, m_kill_0, m_kill_2, m_kill_3, m_kill_4, m_kill_9, true_or, or_true, q_lm1, q_l0, q_l1, q_l2, q_l3, q_l4, q_l5, q_l6, q_l8, q_l9, q_l10, q_l12, q_l32, q_l50, q_l120, q_l122, q_l126, q_l372, q_l1000, q_l1000000, w0]
    rfl
  · have eb : (((2 : Nat) : Int) - 1) * 256 + (A : Int) = ((256 + A : Nat) : Int) := by clear w0 w1 w2; omega
    have eo := (v3 A (by omega)).1
    obtain ⟨r, r1, r2⟩ := g2 A (256 + A) (Nat.le_refl _) eo (by clear w0 w1 w2; omega)
    have hr := w_gg_le r2
    have z1 : ((0 : Int) < 1) = True := by simp
    rcases (show i = 0 ∨ i = 1 by omega) with rfl | rfl
    · refine ⟨r, ?_, Or.inr (Or.inl ⟨rfl, r, r2, rfl⟩)⟩
      have n1 : ((2 : Nat) : Int) - ((0 : Nat) : Int) = 2 := rfl
      have n2 : w32 (((2 : Nat) : Int) - 1) = 1 := by decide
      simp only [e_7, b_7_0, b_7_8, ↓reduceIte, Nat.reduceEqDiff, Nat.reduceMul, q_n10, q_n01, Option.bind_some, g_aft0, g_aft1, g_aft2, g_aft3, g_aft9, Nat.reduceAdd, m_kill_0, m_kill_2, m_kill_3, m_kill_4, m_kill_9, true_or, or_true, q_lm1, q_l0, q_l1, q_l2, q_l3, q_l4, q_l5, q_l6, q_l8, q_l9, q_l10, q_l12, q_l32, q_l50, q_l120, q_l122, q_l126, q_l372, q_l1000, q_l1000000, q_grpF hL.2.2.2.2.1, v1, e_1, b_1_0, eb]
      simp only [b_7_18, b_7_46, b_7_58, b_7_68, ↓reduceIte, Nat.reduceEqDiff, Nat.reduceMul, q_n10, q_n01, Option.bind_some, g_aft0, g_aft1, g_aft2, g_aft3, g_aft9, Nat.reduceAdd, m_kill_0, m_kill_2, m_kill_3, m_kill_4, m_kill_9, true_or, or_true, q_lm1, q_l0, q_l1, q_l2, q_l3, q_l4, q_l5, q_l6, q_l8, q_l9, q_l10, q_l12, q_l32, q_l50, q_l120, q_l122, q_l126, q_l372, q_l1000, q_l1000000, q_grpF hL.2.2.2.2.1, w0, Int.le_refl, n1, n2, r1]
    · refine ⟨A - r, ?_, Or.inr (Or.inl ⟨rfl, r, r2, rfl⟩)⟩
      have n1 : ((2 : Nat) : Int) - 0 = 2 := rfl
      have n2 : w32 (((2 : Nat) : Int) - 1) = 1 := by decide
      have n3 : (A : Int) - (r : Int) = ((A - r : Nat) : Int) := by clear w0 w1 w2 n2; omega
      have n4 : ¬ (1 : Int) ≤ 0 := by decide
      have n5 : (0 : Int) + 1 = 1 := rfl
      simp only [e_7, b_7_0, b_7_8, ↓reduceIte, Nat.reduceEqDiff, Nat.reduceMul, q_n10, q_n01, Option.bind_some, g_aft0, g_aft1, g_aft2, g_aft3, g_aft9, Nat.reduceAdd, m_kill_0, m_kill_2, m_kill_3, m_kill_4, m_kill_9, true_or, or_true, q_lm1, q_l0, q_l1, q_l2, q_l3, q_l4, q_l5, q_l6, q_l8, q_l9, q_l10, q_l12, q_l32, q_l50, q_l120, q_l122, q_l126, q_l372, q_l1000, q_l1000000, q_grpF hL.2.2.2.2.1, v1, e_1, b_1_0, eb]
      conv => lhs; simp only [b_7_18, ↓reduceIte, Nat.reduceEqDiff, Nat.reduceMul, q_n10, q_n01, Option.bind_some, g_aft0, g_aft1, g_aft2, g_aft3, g_aft9, Nat.reduceAdd, m_kill_0, m_kill_2, m_kill_3, m_kill_4, m_kill_9, true_or, or_true, q_lm1, q_l0, q_l1, q_l2, q_l3, q_l4, q_l5, q_l6, q_l8, q_l9, q_l10, q_l12, q_l32, q_l50, q_l120, q_l122, q_l126, q_l372, q_l1000, q_l1000000, w1, n4]
      simp only [b_7_24, b_7_37, ↓reduceIte, Nat.reduceEqDiff, Nat.reduceMul, q_n10, q_n01, Option.bind_some, g_aft0, g_aft1, g_aft2, g_aft3, g_aft9, Nat.reduceAdd, m_kill_0, m_kill_2, m_kill_3, m_kill_4, m_kill_9, true_or, or_true, q_lm1, q_l0, q_l1, q_l2, q_l3, q_l4, q_l5, q_l6, q_l8, q_l9, q_l10, q_l12, q_l32, q_l50, q_l120, q_l122, q_l126, q_l372, q_l1000, q_l1000000, q_grpF hL.2.2.2.2.1, n1, r1, n3, n5]
      simp only [b_7_18, b_7_46, b_7_53, ↓reduceIte, Nat.reduceEqDiff, Nat.reduceMul, q_n10, q_n01, Option.bind_some, g_aft0, g_aft1, g_aft2, g_aft3, g_aft9, Nat.reduceAdd, m_kill_0, m_kill_2, m_kill_3, m_kill_4, m_kill_9, true_or, or_true, q_lm1, q_l0, q_l1, q_l2, q_l3, q_l4, q_l5, q_l6, q_l8, q_l9, q_l10, q_l12, q_l32, q_l50, q_l120, q_l122, q_l126, q_l372, q_l1000, q_l1000000, w1, n2, Int.le_refl]
  · have eb : (((3 : Nat) : Int) - 1) * 256 + (A : Int) = ((512 + A : Nat) : Int) := by clear w0 w1 w2; omega
    obtain ⟨r, r1, r2⟩ := p_greatest (Z := Z) (e := e) (s := s) (k := 3) (B := 256) (S := A) hL (Or.inr ⟨rfl, rfl⟩) (by omega) v4 (by clear w0 w1 w2; omega) (fun a ha hs => by
      have := (w_sub_le (show A < 256 by omega) ha hs).1
      exact ⟨(v2 a (by omega)).1, (v3 a (by omega)).1⟩)
    have hr := w_gg_le r2
    obtain ⟨h, h1, h2⟩ := g2 (A - r) (512 + A) (Nat.sub_le _ _) v4 (by clear w0 w1 w2; omega)
    have hh := w_gg_le h2
    have n1 : ((3 : Nat) : Int) - 0 = 3 := rfl
    have n2 : w32 (((3 : Nat) : Int) - 1) = 2 := by decide
    have n3 : (A : Int) - (r : Int) = ((A - r : Nat) : Int) := by clear w0 w1 w2 n2; omega
    have n6 : ((A - r : Nat) : Int) - (h : Int) = ((A - r - h : Nat) : Int) := by clear w0 w1 w2 n2; omega
    have n4 : ¬ (1 : Int) ≤ 0 := by decide
    have n5 : (0 : Int) + 1 = 1 := rfl
    have n7 : ¬ (2 : Int) ≤ 0 := by decide
    have n8 : ¬ (2 : Int) ≤ 1 := by decide
    have n9 : ((3 : Nat) : Int) - 1 = 2 := rfl
    have n10 : (1 : Int) + 1 = 2 := rfl
    have n11 : ((3 : Nat) : Int) - ((1 : Nat) : Int) = 2 := rfl
    have n12 : ((3 : Nat) : Int) - ((0 : Nat) : Int) = 3 := rfl
    have n13 : ¬ (0 : Int) = 2 := by decide
    have n14 : ¬ (1 : Int) = 2 := by decide
    rcases (show i = 0 ∨ i = 1 ∨ i = 2 by omega) with rfl | rfl | rfl
    · refine ⟨r, ?_, Or.inr (Or.inr ⟨rfl, r, h, r2, h2, rfl⟩)⟩
      simp only [e_7, b_7_0, b_7_8, ↓reduceIte, Nat.reduceEqDiff, Nat.reduceMul, q_n10, q_n01, Option.bind_some, g_aft0, g_aft1, g_aft2, g_aft3, g_aft9, Nat.reduceAdd, m_kill_0, m_kill_2, m_kill_3, m_kill_4, m_kill_9, true_or, or_true, q_lm1, q_l0, q_l1, q_l2, q_l3, q_l4, q_l5, q_l6, q_l8, q_l9, q_l10, q_l12, q_l32, q_l50, q_l120, q_l122, q_l126, q_l372, q_l1000, q_l1000000, q_grpF hL.2.2.2.2.1, v1, e_1, b_1_0, eb]
      simp only [b_7_18, b_7_46, b_7_58, b_7_68, ↓reduceIte, Nat.reduceEqDiff, Nat.reduceMul, q_n10, q_n01, Option.bind_some, g_aft0, g_aft1, g_aft2, g_aft3, g_aft9, Nat.reduceAdd, m_kill_0, m_kill_2, m_kill_3, m_kill_4, m_kill_9, true_or, or_true, q_lm1, q_l0, q_l1, q_l2, q_l3, q_l4, q_l5, q_l6, q_l8, q_l9, q_l10, q_l12, q_l32, q_l50, q_l120, q_l122, q_l126, q_l372, q_l1000, q_l1000000, q_grpF hL.2.2.2.2.1, w0, Int.le_refl, n12, n2, n13, r1]
    · refine ⟨h, ?_, Or.inr (Or.inr ⟨rfl, r, h, r2, h2, rfl⟩)⟩
      simp only [e_7, b_7_0, b_7_8, ↓reduceIte, Nat.reduceEqDiff, Nat.reduceMul, q_n10, q_n01, Option.bind_some, g_aft0, g_aft1, g_aft2, g_aft3, g_aft9, Nat.reduceAdd, m_kill_0, m_kill_2, m_kill_3, m_kill_4, m_kill_9, true_or, or_true, q_lm1, q_l0, q_l1, q_l2, q_l3, q_l4, q_l5, q_l6, q_l8, q_l9, q_l10, q_l12, q_l32, q_l50, q_l120, q_l122, q_l126, q_l372, q_l1000, q_l1000000, q_grpF hL.2.2.2.2.1, v1, e_1, b_1_0, eb]
      conv => lhs; simp only [b_7_18, ↓reduceIte, Nat.reduceEqDiff, Nat.reduceMul, q_n10, q_n01, Option.bind_some, g_aft0, g_aft1, g_aft2, g_aft3, g_aft9, Nat.reduceAdd, m_kill_0, m_kill_2, m_kill_3, m_kill_4, m_kill_9, true_or, or_true, q_lm1, q_l0, q_l1, q_l2, q_l3, q_l4, q_l5, q_l6, q_l8, q_l9, q_l10, q_l12, q_l32, q_l50, q_l120, q_l122, q_l126, q_l372, q_l1000, q_l1000000, w1, n4]
      simp only [b_7_24, b_7_37, ↓reduceIte, Nat.reduceEqDiff, Nat.reduceMul, q_n10, q_n01, Option.bind_some, g_aft0, g_aft1, g_aft2, g_aft3, g_aft9, Nat.reduceAdd, m_kill_0, m_kill_2, m_kill_3, m_kill_4, m_kill_9, true_or, or_true, q_lm1, q_l0, q_l1, q_l2, q_l3, q_l4, q_l5, q_l6, q_l8, q_l9, q_l10, q_l12, q_l32, q_l50, q_l120, q_l122, q_l126, q_l372, q_l1000, q_l1000000, q_grpF hL.2.2.2.2.1, n1, r1, n3, n5]
      simp only [b_7_18, b_7_46, b_7_58, b_7_68, ↓reduceIte, Nat.reduceEqDiff, Nat.reduceMul, q_n10, q_n01, Option.bind_some, g_aft0, g_aft1, g_aft2, g_aft3, g_aft9, Nat.reduceAdd, m_kill_0, m_kill_2, m_kill_3, m_kill_4, m_kill_9, true_or, or_true, q_lm1, q_l0, q_l1, q_l2, q_l3, q_l4, q_l5, q_l6, q_l8, q_l9, q_l10, q_l12, q_l32, q_l50, q_l120, q_l122, q_l126, q_l372, q_l1000, q_l1000000, q_grpF hL.2.2.2.2.1, w1, n2, n11, n14, Int.le_refl, h1]
    · refine ⟨A - r - h, ?_, Or.inr (Or.inr ⟨rfl, r, h, r2, h2, rfl⟩)⟩
      simp only [e_7, b_7_0, b_7_8, ↓reduceIte, Nat.reduceEqDiff, Nat.reduceMul, q_n10, q_n01, Option.bind_some, g_aft0, g_aft1, g_aft2, g_aft3, g_aft9, Nat.reduceAdd, m_kill_0, m_kill_2, m_kill_3, m_kill_4, m_kill_9, true_or, or_true, q_lm1, q_l0, q_l1, q_l2, q_l3, q_l4, q_l5, q_l6, q_l8, q_l9, q_l10, q_l12, q_l32, q_l50, q_l120, q_l122, q_l126, q_l372, q_l1000, q_l1000000, q_grpF hL.2.2.2.2.1, v1, e_1, b_1_0, eb]
      conv => lhs; simp only [b_7_18, ↓reduceIte, Nat.reduceEqDiff, Nat.reduceMul, q_n10, q_n01, Option.bind_some, g_aft0, g_aft1, g_aft2, g_aft3, g_aft9, Nat.reduceAdd, m_kill_0, m_kill_2, m_kill_3, m_kill_4, m_kill_9, true_or, or_true, q_lm1, q_l0, q_l1, q_l2, q_l3, q_l4, q_l5, q_l6, q_l8, q_l9, q_l10, q_l12, q_l32, q_l50, q_l120, q_l122, q_l126, q_l372, q_l1000, q_l1000000, w2, n7]
      simp only [b_7_24, b_7_37, ↓reduceIte, Nat.reduceEqDiff, Nat.reduceMul, q_n10, q_n01, Option.bind_some, g_aft0, g_aft1, g_aft2, g_aft3, g_aft9, Nat.reduceAdd, m_kill_0, m_kill_2, m_kill_3, m_kill_4, m_kill_9, true_or, or_true, q_lm1, q_l0, q_l1, q_l2, q_l3, q_l4, q_l5, q_l6, q_l8, q_l9, q_l10, q_l12, q_l32, q_l50, q_l120, q_l122, q_l126, q_l372, q_l1000, q_l1000000, q_grpF hL.2.2.2.2.1, n1, r1, n3, n5]
      conv => lhs; simp only [b_7_18, ↓reduceIte, Nat.reduceEqDiff, Nat.reduceMul, q_n10, q_n01, Option.bind_some, g_aft0, g_aft1, g_aft2, g_aft3, g_aft9, Nat.reduceAdd, m_kill_0, m_kill_2, m_kill_3, m_kill_4, m_kill_9, true_or, or_true, q_lm1, q_l0, q_l1, q_l2, q_l3, q_l4, q_l5, q_l6, q_l8, q_l9, q_l10, q_l12, q_l32, q_l50, q_l120, q_l122, q_l126, q_l372, q_l1000, q_l1000000, w2, n8]
      simp only [b_7_24, b_7_37, ↓reduceIte, Nat.reduceEqDiff, Nat.reduceMul, q_n10, q_n01, Option.bind_some, g_aft0, g_aft1, g_aft2, g_aft3, g_aft9, Nat.reduceAdd, m_kill_0, m_kill_2, m_kill_3, m_kill_4, m_kill_9, true_or, or_true, q_lm1, q_l0, q_l1, q_l2, q_l3, q_l4, q_l5, q_l6, q_l8, q_l9, q_l10, q_l12, q_l32, q_l50, q_l120, q_l122, q_l126, q_l372, q_l1000, q_l1000000, q_grpF hL.2.2.2.2.1, n9, h1, n6, n10]
      simp only [b_7_18, b_7_46, b_7_53, ↓reduceIte, Nat.reduceEqDiff, Nat.reduceMul, q_n10, q_n01, Option.bind_some, g_aft0, g_aft1, g_aft2, g_aft3, g_aft9, Nat.reduceAdd, m_kill_0, m_kill_2, m_kill_3, m_kill_4, m_kill_9, true_or, or_true, q_lm1, q_l0, q_l1, q_l2, q_l3, q_l4, q_l5, q_l6, q_l8, q_l9, q_l10, q_l12, q_l32, q_l50, q_l120, q_l122, q_l126, q_l372, q_l1000, q_l1000000, w2, n2, Int.le_refl]
end
end
