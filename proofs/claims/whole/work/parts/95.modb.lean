section
/-! The model: lowest terms, points, weights. -/
section
variable {Z : mZ} {K : Nat → mK} {σ τ N M : Nat → Nat → Int} {e g i L n c k s a b : Nat} {t p q v x y z w u S : Int} {X : Nat → Int} {h : mH} {R : Nat → Nat → Nat → Int} {T : Nat → Int}
theorem z_divisor : ∀ (y x : Nat) (a b : Int) (l8 l9 : mV), x < 2 ^ 62 → y < 2 ^ 62 → m_run Z (190, 6, [(1, a), (9, 0), (1, b), (9, 0), (1, (x : Int)), (9, 0), (1, (y : Int)), (9, 0), l8, l9], [], h) = some (.inl (1, ((Nat.gcd x y : Nat) : Int)), h) := by
  intro y
  induction y using Nat.strongRecOn with
  | ind y ih =>
    intro x a b l8 l9 hx hy
    have e62 : 2 ^ 62 = 4611686018427387904 := by decide
    have wx : w64 (x : Int) = (x : Int) := q_w64 (by omega) (by omega)
    have wy : w64 (y : Int) = (y : Int) := by clear wx; exact q_w64 (by omega) (by omega)
    have w0 : w64 0 = 0 := by decide
    by_cases c : y = 0
    · subst c
      have hc : w32 (l_cmp ((0 : Nat) : Int) 0) = 0 := by rw [l_ce (by decide) (by decide)]; rfl
      conv => lhs; rw [b_190_6, if_pos hc]
      rw [b_190_31, Nat.gcd_zero_right]
    · have hc : ¬ w32 (l_cmp (y : Int) 0) = 0 := by rw [l_ce wy w0]; clear wx wy w0; omega
      have hn : ¬ w64 (y : Int) = 0 := by rw [wy]; clear wx wy w0; omega
      have r1 := Nat.mod_lt x (show 0 < y by clear wx wy w0; omega)
      have hg : Nat.gcd x y = Nat.gcd y (x % y) := by rw [Nat.gcd_comm, Nat.gcd_rec, Nat.gcd_comm]
      have tm : ((x : Int)).tmod (y : Int) = ((x % y : Nat) : Int) := rfl
      conv => lhs; rw [b_190_6, if_neg hc]
      rw [b_190_13 hn, wx, wy, tm, m_kill_9, hg]
      exact ih (x % y) r1 y a b _ _ hy (by clear wx wy w0 hc; omega)
theorem z_red (hx : 0 ≤ x) (hx2 : x ≤ 1000000000000000000) (hy : 1 ≤ y) (hy2 : y ≤ 1000000000000000000) (hu : w32 u = u) : m_cl Z 191 [(1, x), (1, y), (0, u)] h = some (.inl (0, w_red x y u), h) := by
  obtain ⟨a, rfl⟩ := Int.eq_ofNat_of_zero_le hx
  obtain ⟨b, rfl⟩ := Int.eq_ofNat_of_zero_le (show 0 ≤ y by omega)
  have e62 : 2 ^ 62 = 4611686018427387904 := by decide
  have hd : m_cl Z 190 [(1, (a : Int)), (1, (b : Int))] h = some (.inl (1, ((Nat.gcd a b : Nat) : Int)), h) := by
    rw [e_190, b_190_0, m_kill_9]
    exact z_divisor b a _ _ _ _ (by clear hu; omega) (by clear hu; omega)
  have gp : 0 < Nat.gcd a b := Nat.gcd_pos_of_pos_right a (by clear hu; omega)
  have gl : Nat.gcd a b ≤ b := Nat.le_of_dvd (by clear hu; omega) (Nat.gcd_dvd_right a b)
  have wa : w64 (a : Int) = (a : Int) := by clear hu; exact q_w64 (by omega) (by omega)
  have wb : w64 (b : Int) = (b : Int) := by clear hu wa; exact q_w64 (by omega) (by omega)
  have wg : w64 ((Nat.gcd a b : Nat) : Int) = ((Nat.gcd a b : Nat) : Int) := by clear hu wa wb; exact q_w64 (by omega) (by omega)
  have c2 : ¬ ((Nat.gcd a b : Nat) : Int) = 0 := by clear hu wa wb wg; omega
  have td : ∀ u : Nat, ((u : Int)).tdiv ((Nat.gcd a b : Nat) : Int) = ((u / Nat.gcd a b : Nat) : Int) := fun u => rfl
  unfold w_red
  simp only [Int.toNat_natCast]
  by_cases c : u = 0
  · rw [if_pos c]
    simp only [e_191, b_191_0, b_191_5, b_191_12, b_191_16, b_191_17, ↓reduceIte, Nat.reduceEqDiff, Nat.reduceMul, q_n10, q_n01, Option.bind_some, g_aft0, g_aft1, g_aft2, g_aft3, g_aft9, Nat.reduceAdd, m_kill_0, m_kill_2, m_kill_3, m_kill_4, m_kill_9, true_or, or_true, q_lm1, q_l0, q_l1, q_l2, q_l3, q_l4, q_l5, q_l6, q_l8, q_l9, q_l10, q_l12, q_l17, q_l32, q_l35, q_l48, q_l50, q_l54, q_l57, q_l64, q_l73, q_l118, q_l119, q_l120, q_l122, q_l126, q_l160, q_l256, q_l365, q_l372, q_l438, q_l1000, q_l100000, q_l1000000, hd, hu, c, wg, c2, not_false_eq_true, wa, td]
  · rw [if_neg c]
    simp only [e_191, b_191_0, b_191_5, b_191_12, b_191_16, b_191_17, ↓reduceIte, Nat.reduceEqDiff, Nat.reduceMul, q_n10, q_n01, Option.bind_some, g_aft0, g_aft1, g_aft2, g_aft3, g_aft9, Nat.reduceAdd, m_kill_0, m_kill_2, m_kill_3, m_kill_4, m_kill_9, true_or, or_true, q_lm1, q_l0, q_l1, q_l2, q_l3, q_l4, q_l5, q_l6, q_l8, q_l9, q_l10, q_l12, q_l17, q_l32, q_l35, q_l48, q_l50, q_l54, q_l57, q_l64, q_l73, q_l118, q_l119, q_l120, q_l122, q_l126, q_l160, q_l256, q_l365, q_l372, q_l438, q_l1000, q_l100000, q_l1000000, hd, hu, c, wg, c2, not_false_eq_true, wb, td]
theorem z_isPoint (hL : q_lay K) (hn : z_n σ N) (hg : g < w_ne N) (hp : w32 p = p) (hq : w32 q = q) : (y_pt N g p q → m_cl Z 192 [(2, ((191 : Nat) : Int)), (0, (g : Int)), (0, p), (0, q)] (K, σ, 206, e, s) = some (.inl (0, 1), (K, σ, 206, e, s))) ∧ (¬ y_pt N g p q → m_cl Z 192 [(2, ((191 : Nat) : Int)), (0, (g : Int)), (0, p), (0, q)] (K, σ, 206, e, s) = some (.inl (0, 0), (K, σ, 206, e, s))) := by
  have h1 := z_within2 (Z := Z) (h := (K, σ, 206, e, s)) (x := q) (y := 1) (z := 1000) hq (by decide) (by decide)
  have ho := (z_of (Z := Z) (e := e) (s := s) hL hn hg).2.2
  have h7 := wf_ed hn.1 hg
  have pb : p ≤ 2147483647 := by
    have h2 : w32 p < 2147483648 := Int.bmod_lt (by decide)
    rw [hp] at h2
    clear hp hq; omega
  by_cases c1 : 1 ≤ q ∧ q ≤ 1000
  · rw [if_pos c1] at h1
    by_cases c2 : p < 0
    · refine ⟨fun q => absurd q.2.2.1 (by clear hp hq; omega), fun _ => ?_⟩
      simp only [e_192, b_192_0, b_192_8, b_192_11, b_192_15, b_192_25, b_192_31, b_192_35, b_192_36, ↓reduceIte, Nat.reduceEqDiff, Nat.reduceMul, q_n10, q_n01, Option.bind_some, g_aft0, g_aft1, g_aft2, g_aft3, g_aft9, Nat.reduceAdd, m_kill_0, m_kill_2, m_kill_3, m_kill_4, m_kill_9, true_or, or_true, q_lm1, q_l0, q_l1, q_l2, q_l3, q_l4, q_l5, q_l6, q_l8, q_l9, q_l10, q_l12, q_l17, q_l32, q_l35, q_l48, q_l50, q_l54, q_l57, q_l64, q_l73, q_l118, q_l119, q_l120, q_l122, q_l126, q_l160, q_l256, q_l365, q_l372, q_l438, q_l1000, q_l100000, q_l1000000, h1, hp, c2, true_or]
    · have m := q_mb (show 0 ≤ N 10 g by clear hp hq; omega) h7.2.2.2.2.2.2 (show 0 ≤ q by clear hp hq; omega) c1.2
      rw [Int.mul_comm] at m
      have wl : w32 (N 10 g) = N 10 g := by clear hp hq m; exact q_wi (by omega) (by omega)
      have wp : w64 p = p := by clear hp hq wl m; exact q_w64 (by omega) (by omega)
      have wm : w64 (q * N 10 g) = q * N 10 g := by clear hp hq wl wp; exact q_w64 (by omega) (by omega)
      have hc : (0 < w32 (l_cmp p (q * N 10 g))) = (q * N 10 g < p) := l_cg wp wm
      have em : N 10 g * q = q * N 10 g := Int.mul_comm _ _
      by_cases c3 : q * N 10 g < p
      · refine ⟨fun d => absurd d.2.2.2 (by rw [em]; clear hp hq wl wp wm hc; omega), fun _ => ?_⟩
        simp only [e_192, b_192_0, b_192_8, b_192_11, b_192_15, b_192_25, b_192_31, b_192_35, b_192_36, ↓reduceIte, Nat.reduceEqDiff, Nat.reduceMul, q_n10, q_n01, Option.bind_some, g_aft0, g_aft1, g_aft2, g_aft3, g_aft9, Nat.reduceAdd, m_kill_0, m_kill_2, m_kill_3, m_kill_4, m_kill_9, true_or, or_true, q_lm1, q_l0, q_l1, q_l2, q_l3, q_l4, q_l5, q_l6, q_l8, q_l9, q_l10, q_l12, q_l17, q_l32, q_l35, q_l48, q_l50, q_l54, q_l57, q_l64, q_l73, q_l118, q_l119, q_l120, q_l122, q_l126, q_l160, q_l256, q_l365, q_l372, q_l438, q_l1000, q_l100000, q_l1000000, q_modF hL.2.2.2.2.2.2.1, h1, hp, hq, c2, ho, wl, hc, c3, true_or]
      · refine ⟨fun _ => ?_, fun d => absurd ⟨c1.1, c1.2, by clear hp hq wl wp wm hc; omega, by rw [em]; clear hp hq wl wp wm hc; omega⟩ d⟩
        simp only [e_192, b_192_0, b_192_8, b_192_11, b_192_15, b_192_25, b_192_31, b_192_35, b_192_36, ↓reduceIte, Nat.reduceEqDiff, Nat.reduceMul, q_n10, q_n01, Option.bind_some, g_aft0, g_aft1, g_aft2, g_aft3, g_aft9, Nat.reduceAdd, m_kill_0, m_kill_2, m_kill_3, m_kill_4, m_kill_9, true_or, or_true, q_lm1, q_l0, q_l1, q_l2, q_l3, q_l4, q_l5, q_l6, q_l8, q_l9, q_l10, q_l12, q_l17, q_l32, q_l35, q_l48, q_l50, q_l54, q_l57, q_l64, q_l73, q_l118, q_l119, q_l120, q_l122, q_l126, q_l160, q_l256, q_l365, q_l372, q_l438, q_l1000, q_l100000, q_l1000000, q_modF hL.2.2.2.2.2.2.1, h1, hp, hq, c2, ho, wl, hc, c3]
  · rw [if_neg c1] at h1
    refine ⟨fun d => absurd ⟨d.1, d.2.1⟩ c1, fun _ => ?_⟩
    simp only [e_192, b_192_0, b_192_8, b_192_11, b_192_15, b_192_25, b_192_31, b_192_35, b_192_36, ↓reduceIte, Nat.reduceEqDiff, Nat.reduceMul, q_n10, q_n01, Option.bind_some, g_aft0, g_aft1, g_aft2, g_aft3, g_aft9, Nat.reduceAdd, m_kill_0, m_kill_2, m_kill_3, m_kill_4, m_kill_9, true_or, or_true, q_lm1, q_l0, q_l1, q_l2, q_l3, q_l4, q_l5, q_l6, q_l8, q_l9, q_l10, q_l12, q_l17, q_l32, q_l35, q_l48, q_l50, q_l54, q_l57, q_l64, q_l73, q_l118, q_l119, q_l120, q_l122, q_l126, q_l160, q_l256, q_l365, q_l372, q_l438, q_l1000, q_l100000, q_l1000000, h1, true_or]
theorem z_away (hL : q_lay K) (hn : z_n σ N) (hf : z_far σ N) (hg : g < w_ne N) (hi : i < w_nn N) (hd : w_D N i (w_f N g) < 1000000) (h1 : 0 ≤ p) (h2 : p ≤ 50000) (h3 : 0 ≤ q) (h4 : q ≤ 1000) : m_cl Z 193 [(2, ((191 : Nat) : Int)), (0, (i : Int)), (0, (g : Int)), (1, p), (1, q)] (K, σ, 206, e, s) = some (.inl (1, w_o N g i * q + p), (K, σ, 206, e, s)) ∧ m_cl Z 194 [(2, ((191 : Nat) : Int)), (0, (i : Int)), (0, (g : Int)), (1, p), (1, q)] (K, σ, 206, e, s) = some (.inl (1, w_b N g i * q - p), (K, σ, 206, e, s)) ∧ m_cl Z 195 [(2, ((191 : Nat) : Int)), (0, (i : Int)), (0, (g : Int)), (1, p), (1, q)] (K, σ, 206, e, s) = some (.inl (1, w_R N g i p q), (K, σ, 206, e, s)) := by
  have hw := hn.1
  have h7 := wf_ed hw hg
  have n0 := wf_n hw
  have ho := w_ob2 hw hg hd
  obtain ⟨o1, o2, o3⟩ := z_of (Z := Z) (e := e) (s := s) hL hn hg
  rw [h7.1] at o1
  rw [h7.2.1] at o2
  have hd2 : w_D N i (w_s N g) < 1000000 := by
    have hu : w_b N g i = w_D N i (w_s N g) + N 10 g := rfl
    omega
  have f1 := hf i (w_f N g) hi h7.2.2.1
  rw [(d_cap_lt hw).2.1 hd] at f1
  have f2 := hf i (w_s N g) hi h7.2.2.2.1
  rw [(d_cap_lt hw).2.1 hd2] at f2
  have b1 := w_D_b hw i (w_f N g)
  have b2 := w_D_b hw i (w_s N g)
  obtain ⟨i1, i2, i3⟩ := z_fix (a := i) (b := w_f N g) (by omega) (by omega)
  obtain ⟨j1, j2, j3⟩ := z_fix (a := i) (b := w_s N g) (by clear i1 i2 i3; omega) (by clear i1 i2 i3; omega)
  have w1 : w32 (w_D N i (w_f N g)) = w_D N i (w_f N g) := by clear i1 i2 i3 j1 j2 j3 f1 f2; exact q_wi (by omega) (by omega)
  have w2 : w32 (w_D N i (w_s N g) + N 10 g) = w_D N i (w_s N g) + N 10 g := by clear i1 i2 i3 j1 j2 j3 f1 f2 w1; exact q_wi (by omega) (by omega)
  have m1 := q_mb ho.1 ho.2.1 h3 h4
  have m2 := q_mb (show 0 ≤ w_b N g i by clear i1 i2 i3 j1 j2 j3 f1 f2 w1 w2; omega) ho.2.2.2.1 h3 h4
  have r1 : m_cl Z 193 [(2, ((191 : Nat) : Int)), (0, (i : Int)), (0, (g : Int)), (1, p), (1, q)] (K, σ, 206, e, s) = some (.inl (1, w_o N g i * q + p), (K, σ, 206, e, s)) := by
    have em : q * w_D N i (w_f N g) = w_o N g i * q := Int.mul_comm _ _
    simp only [e_193, b_193_0, b_193_16, ↓reduceIte, Nat.reduceEqDiff, Nat.reduceMul, q_n10, q_n01, Option.bind_some, g_aft0, g_aft1, g_aft2, g_aft3, g_aft9, Nat.reduceAdd, m_kill_0, m_kill_2, m_kill_3, m_kill_4, m_kill_9, true_or, or_true, q_lm1, q_l0, q_l1, q_l2, q_l3, q_l4, q_l5, q_l6, q_l8, q_l9, q_l10, q_l12, q_l17, q_l32, q_l35, q_l48, q_l50, q_l54, q_l57, q_l64, q_l73, q_l118, q_l119, q_l120, q_l122, q_l126, q_l160, q_l256, q_l365, q_l372, q_l438, q_l1000, q_l100000, q_l1000000, q_modF hL.2.2.2.2.2.2.1, o1, i1, i2, i3, f1, w1, em]
  have r2 : m_cl Z 194 [(2, ((191 : Nat) : Int)), (0, (i : Int)), (0, (g : Int)), (1, p), (1, q)] (K, σ, 206, e, s) = some (.inl (1, w_b N g i * q - p), (K, σ, 206, e, s)) := by
    have em : q * (w_D N i (w_s N g) + N 10 g) = w_b N g i * q := Int.mul_comm _ _
    simp only [e_194, b_194_0, b_194_16, b_194_24, ↓reduceIte, Nat.reduceEqDiff, Nat.reduceMul, q_n10, q_n01, Option.bind_some, g_aft0, g_aft1, g_aft2, g_aft3, g_aft9, Nat.reduceAdd, m_kill_0, m_kill_2, m_kill_3, m_kill_4, m_kill_9, true_or, or_true, q_lm1, q_l0, q_l1, q_l2, q_l3, q_l4, q_l5, q_l6, q_l8, q_l9, q_l10, q_l12, q_l17, q_l32, q_l35, q_l48, q_l50, q_l54, q_l57, q_l64, q_l73, q_l118, q_l119, q_l120, q_l122, q_l126, q_l160, q_l256, q_l365, q_l372, q_l438, q_l1000, q_l100000, q_l1000000, q_modF hL.2.2.2.2.2.2.1, o2, o3, j1, j2, j3, f2, w2, em]
  refine ⟨r1, r2, ?_⟩
  have wA : w64 (w_o N g i * q + p) = w_o N g i * q + p := by clear i1 i2 i3 j1 j2 j3 f1 f2 w1 w2; exact q_w64 (by omega) (by omega)
  have wB : w64 (w_b N g i * q - p) = w_b N g i * q - p := by clear i1 i2 i3 j1 j2 j3 f1 f2 w1 w2 wA; exact q_w64 (by omega) (by omega)
  have hc : (0 ≤ w32 (l_cmp (w_o N g i * q + p) (w_b N g i * q - p))) = (w_b N g i * q - p ≤ w_o N g i * q + p) := l_cge wA wB
  unfold w_R
  clear i1 i2 i3 j1 j2 j3 f1 f2 w1 w2 wA wB
  by_cases c1 : w_b N g i * q - p ≤ w_o N g i * q + p
  · have e1 : (if w_b N g i * q - p < w_o N g i * q + p then w_b N g i * q - p else w_o N g i * q + p) = w_b N g i * q - p := by split <;> omega
    rw [e1]
    simp only [e_195, b_195_0, b_195_9, b_195_20, b_195_30, b_195_35, b_195_37, ↓reduceIte, Nat.reduceEqDiff, Nat.reduceMul, q_n10, q_n01, Option.bind_some, g_aft0, g_aft1, g_aft2, g_aft3, g_aft9, Nat.reduceAdd, m_kill_0, m_kill_2, m_kill_3, m_kill_4, m_kill_9, true_or, or_true, q_lm1, q_l0, q_l1, q_l2, q_l3, q_l4, q_l5, q_l6, q_l8, q_l9, q_l10, q_l12, q_l17, q_l32, q_l35, q_l48, q_l50, q_l54, q_l57, q_l64, q_l73, q_l118, q_l119, q_l120, q_l122, q_l126, q_l160, q_l256, q_l365, q_l372, q_l438, q_l1000, q_l100000, q_l1000000, q_modF hL.2.2.2.2.2.2.1, r1, r2, hc, c1]
  · have e1 : (if w_b N g i * q - p < w_o N g i * q + p then w_b N g i * q - p else w_o N g i * q + p) = w_o N g i * q + p := by split <;> omega
    rw [e1]
    simp only [e_195, b_195_0, b_195_9, b_195_20, b_195_30, b_195_35, b_195_37, ↓reduceIte, Nat.reduceEqDiff, Nat.reduceMul, q_n10, q_n01, Option.bind_some, g_aft0, g_aft1, g_aft2, g_aft3, g_aft9, Nat.reduceAdd, m_kill_0, m_kill_2, m_kill_3, m_kill_4, m_kill_9, true_or, or_true, q_lm1, q_l0, q_l1, q_l2, q_l3, q_l4, q_l5, q_l6, q_l8, q_l9, q_l10, q_l12, q_l17, q_l32, q_l35, q_l48, q_l50, q_l54, q_l57, q_l64, q_l73, q_l118, q_l119, q_l120, q_l122, q_l126, q_l160, q_l256, q_l365, q_l372, q_l438, q_l1000, q_l100000, q_l1000000, q_modF hL.2.2.2.2.2.2.1, r1, r2, hc, c1]
theorem z_mayLie (hL : q_lay K) (hn : z_n σ N) (hg : g < w_ne N) (h1 : 0 ≤ p) (h2 : p ≤ 50000) (h3 : 0 ≤ q) (h4 : q ≤ 1000) : m_cl Z 197 [(2, ((191 : Nat) : Int)), (0, (g : Int)), (1, p), (1, q)] (K, σ, 206, e, s) = some (.inl (0, if w_al N g p q = true then 1 else 0), (K, σ, 206, e, s)) := by
  have hw := hn.1
  have hs := wf_s hw
  have hm := z_smany (Z := Z) (e := e) (s := s) hL hn
  obtain ⟨r, hr⟩ : ∃ r : Nat → Bool, r = fun j => decide (N 12 j = (g : Int) ∧ N 14 j * q < p ∧ p < N 16 j * q) := ⟨_, rfl⟩
  have wS : w32 (N 0 2) = N 0 2 := q_wi (by omega) (by omega)
  have wg : w32 (g : Int) = (g : Int) := by have := (wf_e hw).2; exact q_w (by clear wS; omega)
  have lp := q_loopf (Z := Z) (N := w_ns N) (S := fun j => (197, 6, [(2, ((191 : Nat) : Int)), (0, (g : Int)), (1, p), (9, 0), (1, q), (9, 0), (0, if q_or r j = true then 0 else 1), (0, (j : Int))], [], (K, σ, 206, e, s))) (by
    intro j hj
    obtain ⟨o1, o2, o3⟩ := z_at (Z := Z) (e := e) (s := s) hL hn hj
    obtain ⟨e', e1, e2, e3, e4, e5, e6⟩ := wf_st hw hj
    have hne := wf_e hw
    have wj : w32 (j : Int) = (j : Int) := q_w (by clear wS wg; omega)
    have c0 : ¬ N 0 2 ≤ (j : Int) := by clear wS wg wj; omega
    have w12 : w32 (N 12 j) = N 12 j := by clear wS wg wj; exact q_wi (by omega) (by omega)
    have w14 : w32 (N 14 j) = N 14 j := by clear wS wg wj w12; exact q_wi (by omega) (by omega)
    have w16 : w32 (N 16 j) = N 16 j := by clear wS wg wj w12 w14; exact q_wi (by omega) (by omega)
    have m1 := q_mb e3 (show N 14 j ≤ 50 by clear wS wg wj w12 w14 w16; omega) h3 h4
    have m2 := q_mb (show 0 ≤ N 16 j by clear wS wg wj w12 w14 w16; omega) e6 h3 h4
    have em1 : q * N 14 j = N 14 j * q := Int.mul_comm _ _
    have em2 : q * N 16 j = N 16 j * q := Int.mul_comm _ _
    have wp : w64 p = p := by clear wS wg wj w12 w14 w16; exact q_w64 (by omega) (by omega)
    have wa : w64 (N 14 j * q) = N 14 j * q := by clear wS wg wj w12 w14 w16 wp; exact q_w64 (by omega) (by omega)
    have wb : w64 (N 16 j * q) = N 16 j * q := by clear wS wg wj w12 w14 w16 wp wa; exact q_w64 (by omega) (by omega)
    have hc1 : (w32 (l_cmp p (N 14 j * q)) ≤ 0) = (p ≤ N 14 j * q) := l_cle wp wa
    have hc2 : (w32 (l_cmp p (N 16 j * q)) < 0) = (p < N 16 j * q) := l_cl wp wb
    have ej : (((j + 1 : Nat)) : Int) = (j : Int) + 1 := rfl
    clear wp wa wb
    rw [ej, q_or_s]
    conv => lhs; simp only [b_197_6, ↓reduceIte, Nat.reduceEqDiff, Nat.reduceMul, q_n10, q_n01, Option.bind_some, g_aft0, g_aft1, g_aft2, g_aft3, g_aft9, Nat.reduceAdd, m_kill_0, m_kill_2, m_kill_3, m_kill_4, m_kill_9, true_or, or_true, q_lm1, q_l0, q_l1, q_l2, q_l3, q_l4, q_l5, q_l6, q_l8, q_l9, q_l10, q_l12, q_l17, q_l32, q_l35, q_l48, q_l50, q_l54, q_l57, q_l64, q_l73, q_l118, q_l119, q_l120, q_l122, q_l126, q_l160, q_l256, q_l365, q_l372, q_l438, q_l1000, q_l100000, q_l1000000, q_modF hL.2.2.2.2.2.2.1, hm]
    conv => lhs; simp only [b_197_12, ↓reduceIte, Nat.reduceEqDiff, Nat.reduceMul, q_n10, q_n01, Option.bind_some, g_aft0, g_aft1, g_aft2, g_aft3, g_aft9, Nat.reduceAdd, m_kill_0, m_kill_2, m_kill_3, m_kill_4, m_kill_9, true_or, or_true, q_lm1, q_l0, q_l1, q_l2, q_l3, q_l4, q_l5, q_l6, q_l8, q_l9, q_l10, q_l12, q_l17, q_l32, q_l35, q_l48, q_l50, q_l54, q_l57, q_l64, q_l73, q_l118, q_l119, q_l120, q_l122, q_l126, q_l160, q_l256, q_l365, q_l372, q_l438, q_l1000, q_l100000, q_l1000000, wj, wS, c0]
    by_cases d : q_or r j = true
    · rw [if_pos d, if_pos (by rw [d]; rfl)]
      simp only [b_197_15, b_197_67, b_197_68, ↓reduceIte, Nat.reduceEqDiff, Nat.reduceMul, q_n10, q_n01, Option.bind_some, g_aft0, g_aft1, g_aft2, g_aft3, g_aft9, Nat.reduceAdd, m_kill_0, m_kill_2, m_kill_3, m_kill_4, m_kill_9, true_or, or_true, q_lm1, q_l0, q_l1, q_l2, q_l3, q_l4, q_l5, q_l6, q_l8, q_l9, q_l10, q_l12, q_l17, q_l32, q_l35, q_l48, q_l50, q_l54, q_l57, q_l64, q_l73, q_l118, q_l119, q_l120, q_l122, q_l126, q_l160, q_l256, q_l365, q_l372, q_l438, q_l1000, q_l100000, q_l1000000]
    · have d' : q_or r j = false := by simpa using d
      rw [d', Bool.false_or, if_neg Bool.false_ne_true]
      by_cases c1 : N 12 j = (g : Int)
      · by_cases c2 : p ≤ N 14 j * q
        · have rj : r j = false := by rw [hr]; exact decide_eq_false (by clear wS wg wj w12 w14 w16 hc1 hc2; omega)
          rw [rj, if_neg Bool.false_ne_true]
          simp only [b_197_15, b_197_20, b_197_27, b_197_31, b_197_41, b_197_63, ↓reduceIte, Nat.reduceEqDiff, Nat.reduceMul, q_n10, q_n01, Option.bind_some, g_aft0, g_aft1, g_aft2, g_aft3, g_aft9, Nat.reduceAdd, m_kill_0, m_kill_2, m_kill_3, m_kill_4, m_kill_9, true_or, or_true, q_lm1, q_l0, q_l1, q_l2, q_l3, q_l4, q_l5, q_l6, q_l8, q_l9, q_l10, q_l12, q_l17, q_l32, q_l35, q_l48, q_l50, q_l54, q_l57, q_l64, q_l73, q_l118, q_l119, q_l120, q_l122, q_l126, q_l160, q_l256, q_l365, q_l372, q_l438, q_l1000, q_l100000, q_l1000000, q_modF hL.2.2.2.2.2.2.1, o1, o2, c1, w14, em1, hc1, c2]
        · by_cases c3 : p < N 16 j * q
          · have rj : r j = true := by rw [hr]; exact decide_eq_true (by clear wS wg wj w12 w14 w16 hc1 hc2; omega)
            rw [rj, if_pos rfl]
            simp only [b_197_15, b_197_20, b_197_27, b_197_31, b_197_41, b_197_47, b_197_57, b_197_67, b_197_68, ↓reduceIte, Nat.reduceEqDiff, Nat.reduceMul, q_n10, q_n01, Option.bind_some, g_aft0, g_aft1, g_aft2, g_aft3, g_aft9, Nat.reduceAdd, m_kill_0, m_kill_2, m_kill_3, m_kill_4, m_kill_9, true_or, or_true, q_lm1, q_l0, q_l1, q_l2, q_l3, q_l4, q_l5, q_l6, q_l8, q_l9, q_l10, q_l12, q_l17, q_l32, q_l35, q_l48, q_l50, q_l54, q_l57, q_l64, q_l73, q_l118, q_l119, q_l120, q_l122, q_l126, q_l160, q_l256, q_l365, q_l372, q_l438, q_l1000, q_l100000, q_l1000000, q_modF hL.2.2.2.2.2.2.1, o1, o2, o3, c1, w14, w16, em1, em2, hc1, hc2, c2, c3]
          · have rj : r j = false := by rw [hr]; exact decide_eq_false (by clear wS wg wj w12 w14 w16 hc1 hc2; omega)
            rw [rj, if_neg Bool.false_ne_true]
            simp only [b_197_15, b_197_20, b_197_27, b_197_31, b_197_41, b_197_47, b_197_57, b_197_63, ↓reduceIte, Nat.reduceEqDiff, Nat.reduceMul, q_n10, q_n01, Option.bind_some, g_aft0, g_aft1, g_aft2, g_aft3, g_aft9, Nat.reduceAdd, m_kill_0, m_kill_2, m_kill_3, m_kill_4, m_kill_9, true_or, or_true, q_lm1, q_l0, q_l1, q_l2, q_l3, q_l4, q_l5, q_l6, q_l8, q_l9, q_l10, q_l12, q_l17, q_l32, q_l35, q_l48, q_l50, q_l54, q_l57, q_l64, q_l73, q_l118, q_l119, q_l120, q_l122, q_l126, q_l160, q_l256, q_l365, q_l372, q_l438, q_l1000, q_l100000, q_l1000000, q_modF hL.2.2.2.2.2.2.1, o1, o2, o3, c1, w14, w16, em1, em2, hc1, hc2, c2, c3]
      · have rj : r j = false := by rw [hr]; exact decide_eq_false (fun q => c1 q.1)
        rw [rj, if_neg Bool.false_ne_true]
        simp only [b_197_15, b_197_20, b_197_27, b_197_63, ↓reduceIte, Nat.reduceEqDiff, Nat.reduceMul, q_n10, q_n01, Option.bind_some, g_aft0, g_aft1, g_aft2, g_aft3, g_aft9, Nat.reduceAdd, m_kill_0, m_kill_2, m_kill_3, m_kill_4, m_kill_9, true_or, or_true, q_lm1, q_l0, q_l1, q_l2, q_l3, q_l4, q_l5, q_l6, q_l8, q_l9, q_l10, q_l12, q_l17, q_l32, q_l35, q_l48, q_l50, q_l54, q_l57, q_l64, q_l73, q_l118, q_l119, q_l120, q_l122, q_l126, q_l160, q_l256, q_l365, q_l372, q_l438, q_l1000, q_l100000, q_l1000000, q_modF hL.2.2.2.2.2.2.1, o1, w12, wg, c1])
  have hz : (w32 (if q_or r (w_ns N) = true then 0 else 1) = 0 ∨ w32 (if q_or r (w_ns N) = true then 0 else 1) = 1) = True := by
    have e0 : w32 0 = 0 := by decide
    have e1 : w32 1 = 1 := by decide
    split
    · rw [e0]; simp
    · rw [e1]; simp
  have z0 : (if q_or r 0 = true then (0 : Int) else 1) = 1 := by rw [show q_or r 0 = false from rfl, if_neg Bool.false_ne_true]
  rw [z0] at lp
  have fin : (if q_or r (w_ns N) = true then (0 : Int) else 1) = if w_al N g p q = true then 1 else 0 := by
    by_cases d : w_al N g p q = true
    · rw [if_pos d, if_neg (fun q => ?_)]
      obtain ⟨j, hj, hpj⟩ := (q_or_iff _).mp q
      rw [hr] at hpj
      exact w_al_iff.mp d j hj (of_decide_eq_true hpj)
    · rw [if_neg d, if_pos]
      rw [q_or_iff]
      apply Classical.byContradiction
      intro hne
      refine d (w_al_iff.mpr (fun j hj hq => hne ⟨j, hj, by rw [hr]; exact decide_eq_true hq⟩))
  rw [e_197, b_197_0, m_kill_9]
  refine Eq.trans lp ?_
  rw [fin] at hz ⊢
  rw [hs.1] at hm wS
  conv => lhs; simp only [b_197_6, ↓reduceIte, Nat.reduceEqDiff, Nat.reduceMul, q_n10, q_n01, Option.bind_some, g_aft0, g_aft1, g_aft2, g_aft3, g_aft9, Nat.reduceAdd, m_kill_0, m_kill_2, m_kill_3, m_kill_4, m_kill_9, true_or, or_true, q_lm1, q_l0, q_l1, q_l2, q_l3, q_l4, q_l5, q_l6, q_l8, q_l9, q_l10, q_l12, q_l17, q_l32, q_l35, q_l48, q_l50, q_l54, q_l57, q_l64, q_l73, q_l118, q_l119, q_l120, q_l122, q_l126, q_l160, q_l256, q_l365, q_l372, q_l438, q_l1000, q_l100000, q_l1000000, q_modF hL.2.2.2.2.2.2.1, hm]
  simp only [b_197_12, b_197_76, ↓reduceIte, Nat.reduceEqDiff, Nat.reduceMul, q_n10, q_n01, Option.bind_some, g_aft0, g_aft1, g_aft2, g_aft3, g_aft9, Nat.reduceAdd, m_kill_0, m_kill_2, m_kill_3, m_kill_4, m_kill_9, true_or, or_true, q_lm1, q_l0, q_l1, q_l2, q_l3, q_l4, q_l5, q_l6, q_l8, q_l9, q_l10, q_l12, q_l17, q_l32, q_l35, q_l48, q_l50, q_l54, q_l57, q_l64, q_l73, q_l118, q_l119, q_l120, q_l122, q_l126, q_l160, q_l256, q_l365, q_l372, q_l438, q_l1000, q_l100000, q_l1000000, wS, Int.le_refl, hz]
end
end
