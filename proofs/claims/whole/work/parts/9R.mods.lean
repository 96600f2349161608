section
/-! The model's calls: covering, covered, going on. -/
section
variable {Z : mZ} {K : Nat → mK} {σ τ N M : Nat → Nat → Int} {e g i L n c k s a : Nat} {t p q v x y z w u S : Int} {X : Nat → Int} {h : mH} {R : Nat → Nat → Nat → Int} {T : Nat → Int} {f1 f2 : Nat → Rat} {f3 b : Rat}
theorem z_covers {l4 : mV} (hL : q_lay K) (hn : z_n σ N) (hr : ∀ S, S < 2 ^ w_nn N → z_eo σ 200 201 S ∧ z_gr σ 200 201 S = f1 S) (hp : 0 ≤ p ∧ p ≤ 2147483647) (hq : 1 ≤ q ∧ q ≤ 1000) (hpw : w32 p = p) (hqw : w32 q = q) : ∃ τ, m_run Z (233, 44, [(2, ((191 : Nat) : Int)), (0, p), (0, q), (9, 0), l4], [], (K, σ, 206, e, s)) = some (.inl (0, τ 204 (2 ^ w_nn N - 1)), (K, τ, 206, e, s)) ∧ (∀ a, a ≠ 204 → τ a = σ a) ∧ w_few f1 (fr p q) 9 (2 ^ w_nn N - 1) (τ 204) := by
  have hw := hn.1
  have n0 := wf_n hw
  have p8 := q_pow8 n0.2.2
  have hsh := q_shl n0.2.2
  have hall := w_all1 n0.2.2
  obtain ⟨P, hP⟩ : ∃ P, P = 2 ^ w_nn N := ⟨_, rfl⟩
  rw [← hP] at p8 hsh hall
  have wP : w32 (P : Int) = (P : Int) := by clear hpw hqw hsh hall; exact q_w (by omega)
  obtain ⟨y, y1, -, y2, y3, y4, y5⟩ := q_loop (Z := Z) (N := P) (α := (Nat → Nat → Int) × mV) (S := fun S x => (233, 53, [(2, ((191 : Nat) : Int)), (0, p), (0, q), (0, (S : Int)), x.2], [], (K, x.1, 206, e, s))) (P := fun S x => 1 ≤ S ∧ (∀ a, a ≠ 204 → x.1 a = σ a) ∧ x.1 204 0 = 0 ∧ (∀ j, j < S → 0 ≤ x.1 204 j ∧ x.1 204 j ≤ 9) ∧ ∀ j, 1 ≤ j → j < S → w_fs1 f1 (fr p q) 9 (x.1 204) j (x.1 204 j)) (by
    rintro S ⟨τ, l4⟩ hS ⟨hS1, x1, x2, x3, x4⟩
    have x1 : ∀ a, a ≠ 204 → τ a = σ a := x1
    have x2 : τ 204 0 = 0 := x2
    have x3 : ∀ j, j < S → 0 ≤ τ 204 j ∧ τ 204 j ≤ 9 := x3
    have x4 : ∀ j, 1 ≤ j → j < S → w_fs1 f1 (fr p q) 9 (τ 204) j (τ 204 j) := x4
    have hS0 : S ≠ 0 := by clear hpw hqw hsh hall wP; omega
    have hmn := z_many (Z := Z) (e := e) (s := s) hL (z_nF hn (x1 192 (by omega)))
    rw [n0.1] at hmn
    have wS : w32 (S : Int) = (S : Int) := by clear hpw hqw hsh hall wP; exact q_w (by omega)
    have c0 : ¬ (P : Int) ≤ (S : Int) := by clear hpw hqw hsh hall wP wS; omega
    have p0 : 0 ≤ (S : Int) := by clear hpw hqw hsh hall wP wS; omega
    have p1 : (S : Int) < ((256 : Nat) : Int) := by clear hpw hqw hsh hall wP wS; omega
    have tn : ((S : Int)).toNat = S := rfl
    have u0 : ∀ a, a ≠ 204 → m_up2 τ 204 S 9 a = σ a := fun a ha => by rw [m_up2_ne ha]; exact x1 a ha
    obtain ⟨ω, o1, o2, o3, o4, o5⟩ := z_cov1 (Z := Z) (e := e) (s := s) (σ := m_up2 τ 204 S 9) (f1 := f1) (S := S) (C := τ 204) hL hw (fun S' hS' => by
      have := hr S' hS'
      unfold z_eo z_gr at this ⊢
      rw [u0 200 (by omega), u0 201 (by omega)]
      exact this) (by clear hpw hqw hsh hall wP wS; omega) (by rw [← hP]; exact hS) (fun j hj => ⟨m_up2_nk (by clear hpw hqw hsh hall wP wS; omega), x3 j hj⟩) m_up2_at hp hq hpw hqw
    have es : ((S + 1 : Nat) : Int) = (S : Int) + 1 := rfl
    have eo : ∀ j, j ≠ S → ω 204 j = τ 204 j := fun j hj => by rw [o3 j hj, m_up2_nk hj]
    refine ⟨(ω, (0, ((S + 1 : Nat) : Int))), ?_, by clear hpw hqw hsh hall wP wS; omega, fun a ha => by show ω a = σ a; rw [o2 a ha]; exact u0 a ha, by show ω 204 0 = 0; rw [eo 0 (fun q => hS0 q.symm)]; exact x2, fun j hj => ?_, fun j j1 j2 => ?_⟩
    · show m_run Z (233, 53, [(2, ((191 : Nat) : Int)), (0, p), (0, q), (0, (S : Int)), l4], [], (K, τ, 206, e, s)) = m_run Z (233, 53, [(2, ((191 : Nat) : Int)), (0, p), (0, q), (0, ((S + 1 : Nat) : Int)), (0, ((S + 1 : Nat) : Int))], [], (K, ω, 206, e, s))
      conv => lhs; simp only [b_233_53, ↓reduceIte, Nat.reduceEqDiff, Nat.reduceMul, q_n10, q_n01, Option.bind_some, g_aft0, g_aft1, g_aft2, g_aft3, g_aft9, Nat.reduceAdd, m_kill_0, m_kill_2, m_kill_3, m_kill_4, m_kill_9, true_or, or_true, q_lm1, q_l0, q_l1, q_l2, q_l3, q_l4, q_l5, q_l6, q_l8, q_l9, q_l10, q_l12, q_l17, q_l32, q_l35, q_l48, q_l50, q_l54, q_l57, q_l64, q_l73, q_l118, q_l119, q_l120, q_l122, q_l126, q_l160, q_l256, q_l365, q_l372, q_l438, q_l1000, q_l100000, q_l1000000, q_modF hL.2.2.2.2.2.2.1, hmn]
      conv => lhs; simp only [b_233_59, b_233_63, ↓reduceIte, Nat.reduceEqDiff, Nat.reduceMul, q_n10, q_n01, Option.bind_some, g_aft0, g_aft1, g_aft2, g_aft3, g_aft9, Nat.reduceAdd, m_kill_0, m_kill_2, m_kill_3, m_kill_4, m_kill_9, true_or, or_true, q_lm1, q_l0, q_l1, q_l2, q_l3, q_l4, q_l5, q_l6, q_l8, q_l9, q_l10, q_l12, q_l17, q_l32, q_l35, q_l48, q_l50, q_l54, q_l57, q_l64, q_l73, q_l118, q_l119, q_l120, q_l122, q_l126, q_l160, q_l256, q_l365, q_l372, q_l438, q_l1000, q_l100000, q_l1000000, q_modF hL.2.2.2.2.2.2.1, hsh, wP, wS, c0, p0, p1, tn]
      refine Eq.trans o1 ?_
      simp only [b_233_160]
      rfl
    · show 0 ≤ ω 204 j ∧ ω 204 j ≤ 9
      by_cases c : j = S
      · rw [c]; exact ⟨o4, o5.1⟩
      · rw [eo j c]; exact x3 j (by clear hpw hqw hsh hall wP wS; omega)
    · show w_fs1 f1 (fr p q) 9 (ω 204) j (ω 204 j)
      have cong : ∀ v, w_fs1 f1 (fr p q) 9 (τ 204) j v → w_fs1 f1 (fr p q) 9 (ω 204) j v := by
        rintro v ⟨d1, d2, d3⟩
        have ej : ∀ a, 1 ≤ a → ω 204 (j - a) = τ 204 (j - a) := fun a ha => eo _ (by clear hpw hqw hsh hall wP wS; omega)
        refine ⟨d1, fun a a1 a2 a3 a4 => by rw [ej a a1]; exact d2 a a1 a2 a3 a4, ?_⟩
        rcases d3 with d3 | ⟨a, a1, a2, a3, a4, a5⟩
        · exact Or.inl d3
        · exact Or.inr ⟨a, a1, a2, a3, a4, by rw [ej a a1]; exact a5⟩
      by_cases c : j = S
      · subst c; exact cong _ o5
      · rw [eo j c]; exact cong _ (x4 j j1 (by clear hpw hqw hsh hall wP wS; omega))) (P - 1) 1 (m_up2 σ 204 0 0, l4) (by clear hpw hqw hsh hall wP; omega) ⟨Nat.le_refl 1, fun a ha => m_up2_ne ha, by show m_up2 σ 204 0 0 204 0 = 0; exact m_up2_at, fun j hj => by
    have : j = 0 := by clear hpw hqw hsh hall wP; omega
    subst this
    show 0 ≤ m_up2 σ 204 0 0 204 0 ∧ m_up2 σ 204 0 0 204 0 ≤ 9
    rw [m_up2_at]
    decide, fun j j1 j2 => by clear hpw hqw hsh hall wP; omega⟩
  have hmn := z_many (Z := Z) (e := e) (s := s) hL (z_nF hn (y2 192 (by omega)))
  rw [n0.1] at hmn
  rw [← hP]
  obtain ⟨A, hA⟩ : ∃ A, A = P - 1 := ⟨_, rfl⟩
  rw [← hA] at hall ⊢
  have wA : w32 (A : Int) = (A : Int) := by clear hpw hqw hsh hall wP; exact q_w (by omega)
  have tn : ((A : Int)).toNat = A := rfl
  have a0 : 0 ≤ (A : Int) := by clear hpw hqw hsh hall wP wA; omega
  have a1 : (A : Int) < ((256 : Nat) : Int) := by clear hpw hqw hsh hall wP wA; omega
  have w00 : (w32 0).toNat = 0 := by decide
  have e0 : w32 0 = 0 := by decide
  have z0 : (0 : Int).toNat = 0 := rfl
  have i0 : (0 : Int) ≤ 0 := by decide
  have i1 : (0 : Int) < ((256 : Nat) : Int) := by decide
  refine ⟨y.1, ?_, y2, ⟨y3, fun S s1 s2 => y5 S s1 (by clear hpw hqw hsh hall wP wA; omega)⟩⟩
  simp only [b_233_44, ↓reduceIte, Nat.reduceEqDiff, Nat.reduceMul, q_n10, q_n01, Option.bind_some, g_aft0, g_aft1, g_aft2, g_aft3, g_aft9, Nat.reduceAdd, m_kill_0, m_kill_2, m_kill_3, m_kill_4, m_kill_9, true_or, or_true, q_lm1, q_l0, q_l1, q_l2, q_l3, q_l4, q_l5, q_l6, q_l8, q_l9, q_l10, q_l12, q_l17, q_l32, q_l35, q_l48, q_l50, q_l54, q_l57, q_l64, q_l73, q_l118, q_l119, q_l120, q_l122, q_l126, q_l160, q_l256, q_l365, q_l372, q_l438, q_l1000, q_l100000, q_l1000000, q_modF hL.2.2.2.2.2.2.1, e0, z0, i0, i1]
  refine Eq.trans y1 ?_
  conv => lhs; simp only [b_233_53, ↓reduceIte, Nat.reduceEqDiff, Nat.reduceMul, q_n10, q_n01, Option.bind_some, g_aft0, g_aft1, g_aft2, g_aft3, g_aft9, Nat.reduceAdd, m_kill_0, m_kill_2, m_kill_3, m_kill_4, m_kill_9, true_or, or_true, q_lm1, q_l0, q_l1, q_l2, q_l3, q_l4, q_l5, q_l6, q_l8, q_l9, q_l10, q_l12, q_l17, q_l32, q_l35, q_l48, q_l50, q_l54, q_l57, q_l64, q_l73, q_l118, q_l119, q_l120, q_l122, q_l126, q_l160, q_l256, q_l365, q_l372, q_l438, q_l1000, q_l100000, q_l1000000, q_modF hL.2.2.2.2.2.2.1, hmn]
  conv => lhs; simp only [b_233_59, ↓reduceIte, Nat.reduceEqDiff, Nat.reduceMul, q_n10, q_n01, Option.bind_some, g_aft0, g_aft1, g_aft2, g_aft3, g_aft9, Nat.reduceAdd, m_kill_0, m_kill_2, m_kill_3, m_kill_4, m_kill_9, true_or, or_true, q_lm1, q_l0, q_l1, q_l2, q_l3, q_l4, q_l5, q_l6, q_l8, q_l9, q_l10, q_l12, q_l17, q_l32, q_l35, q_l48, q_l50, q_l54, q_l57, q_l64, q_l73, q_l118, q_l119, q_l120, q_l122, q_l126, q_l160, q_l256, q_l365, q_l372, q_l438, q_l1000, q_l100000, q_l1000000, hsh, wP, Int.le_refl]
  simp only [b_233_166, b_233_175, ↓reduceIte, Nat.reduceEqDiff, Nat.reduceMul, q_n10, q_n01, Option.bind_some, g_aft0, g_aft1, g_aft2, g_aft3, g_aft9, Nat.reduceAdd, m_kill_0, m_kill_2, m_kill_3, m_kill_4, m_kill_9, true_or, or_true, q_lm1, q_l0, q_l1, q_l2, q_l3, q_l4, q_l5, q_l6, q_l8, q_l9, q_l10, q_l12, q_l17, q_l32, q_l35, q_l48, q_l50, q_l54, q_l57, q_l64, q_l73, q_l118, q_l119, q_l120, q_l122, q_l126, q_l160, q_l256, q_l365, q_l372, q_l438, q_l1000, q_l100000, q_l1000000, q_modF hL.2.2.2.2.2.2.1, hmn, hall, wA, a0, a1, tn]
theorem z_covering (hL : q_lay K) (h : z_inv σ N R c X L) (hx : w32 x = x) (hy : w32 y = y) :
    (¬ (0 ≤ x ∧ 1 ≤ y ∧ y ≤ 1000) → z_O (m_cl Z 233 [(2, ((191 : Nat) : Int)), (0, x), (0, y)] (K, σ, 206, e, s)) K e s σ N R c X L 1 0) ∧
    (0 ≤ x ∧ (1 ≤ y ∧ y ≤ 1000) → (¬ y_cc N → z_O (m_cl Z 233 [(2, ((191 : Nat) : Int)), (0, x), (0, y)] (K, σ, 206, e, s)) K e s σ N R c X L 2 0) ∧ (y_cc N → ∀ f1 f2 f3, ∀ m : Nat → Int, y_gF N 0 f1 f2 f3 → w_few f1 (fr x y) 8 (2 ^ w_nn N - 1) m → z_O (m_cl Z 233 [(2, ((191 : Nat) : Int)), (0, x), (0, y)] (K, σ, 206, e, s)) K e s σ N R c X L 0 (m (2 ^ w_nn N - 1)))) := by
  have h2 := z_within2 (Z := Z) (h := (K, σ, 206, e, s)) (x := y) (y := 1) (z := 1000) hy (by decide) (by decide)
  have n10 : ¬ (1 : Int) = 0 := by decide
  have xb : x ≤ 2147483647 := by
    have h3 : w32 x < 2147483648 := Int.bmod_lt (by decide)
    rw [hx] at h3
    clear hx hy h2; omega
  refine ⟨fun hn => ?_, fun hm => ?_⟩
  · refine z_no h ?_
    by_cases c1 : x < 0
    · simp only [e_233, b_233_0, b_233_5, b_233_13, b_233_16, b_233_20, b_233_24, b_233_27, b_233_31, b_233_32, b_233_35, b_233_38, b_233_40, b_233_44, b_233_59, b_233_63, b_233_80, b_233_89, b_233_113, b_233_135, b_233_154, b_233_160, b_233_166, b_233_175, ↓reduceIte, Nat.reduceEqDiff, Nat.reduceMul, q_n10, q_n01, Option.bind_some, g_aft0, g_aft1, g_aft2, g_aft3, g_aft9, Nat.reduceAdd, m_kill_0, m_kill_2, m_kill_3, m_kill_4, m_kill_9, true_or, or_true, q_lm1, q_l0, q_l1, q_l2, q_l3, q_l4, q_l5, q_l6, q_l8, q_l9, q_l10, q_l12, q_l17, q_l32, q_l35, q_l48, q_l50, q_l54, q_l57, q_l64, q_l73, q_l118, q_l119, q_l120, q_l122, q_l126, q_l160, q_l256, q_l365, q_l372, q_l438, q_l1000, q_l100000, q_l1000000, q_modF hL.2.2.2.2.2.2.1, hx, c1, z_ref1 hL (x := 1) (by decide) (by decide)]
    · rw [if_neg (fun q => hn ⟨by clear hx hy h2; omega, q⟩)] at h2
      simp only [e_233, b_233_0, b_233_5, b_233_13, b_233_16, b_233_20, b_233_24, b_233_27, b_233_31, b_233_32, b_233_35, b_233_38, b_233_40, b_233_44, b_233_59, b_233_63, b_233_80, b_233_89, b_233_113, b_233_135, b_233_154, b_233_160, b_233_166, b_233_175, ↓reduceIte, Nat.reduceEqDiff, Nat.reduceMul, q_n10, q_n01, Option.bind_some, g_aft0, g_aft1, g_aft2, g_aft3, g_aft9, Nat.reduceAdd, m_kill_0, m_kill_2, m_kill_3, m_kill_4, m_kill_9, true_or, or_true, q_lm1, q_l0, q_l1, q_l2, q_l3, q_l4, q_l5, q_l6, q_l8, q_l9, q_l10, q_l12, q_l17, q_l32, q_l35, q_l48, q_l50, q_l54, q_l57, q_l64, q_l73, q_l118, q_l119, q_l120, q_l122, q_l126, q_l160, q_l256, q_l365, q_l372, q_l438, q_l1000, q_l100000, q_l1000000, q_modF hL.2.2.2.2.2.2.1, hx, c1, h2, z_ref1 hL (x := 1) (by decide) (by decide)]
  · have c1 : ¬ x < 0 := by clear hx hy h2; omega
    rw [if_pos hm.2] at h2
    obtain ⟨τ, t1, t2, t3, t4⟩ := z_can (Z := Z) (e := e) (s := s) hL h.1
    constructor
    · intro hd
      obtain ⟨τ', u1, u2⟩ := t4 hd
      refine z_no6 (τ := τ') h u1 ?_
      simp only [e_233, b_233_0, b_233_5, b_233_13, b_233_16, b_233_20, b_233_24, b_233_27, b_233_31, b_233_32, b_233_35, b_233_38, b_233_40, b_233_44, b_233_59, b_233_63, b_233_80, b_233_89, b_233_113, b_233_135, b_233_154, b_233_160, b_233_166, b_233_175, ↓reduceIte, Nat.reduceEqDiff, Nat.reduceMul, q_n10, q_n01, Option.bind_some, g_aft0, g_aft1, g_aft2, g_aft3, g_aft9, Nat.reduceAdd, m_kill_0, m_kill_2, m_kill_3, m_kill_4, m_kill_9, true_or, or_true, q_lm1, q_l0, q_l1, q_l2, q_l3, q_l4, q_l5, q_l6, q_l8, q_l9, q_l10, q_l12, q_l17, q_l32, q_l35, q_l48, q_l50, q_l54, q_l57, q_l64, q_l73, q_l118, q_l119, q_l120, q_l122, q_l126, q_l160, q_l256, q_l365, q_l372, q_l438, q_l1000, q_l100000, q_l1000000, q_modF hL.2.2.2.2.2.2.1, hx, c1, h2, n10, u2, z_ref1 hL (x := 2) (by decide) (by decide)]
    · intro hd f1 f2 f3 m hg hm8
      have u2 := t3 hd
      have hn4 : z_n (m_up2 τ 191 4 0) N := z_nF h.1 (by rw [m_up2_ne (by omega), t2 192 (by omega)])
      have hf4 : z_far (m_up2 τ 191 4 0) N := fun a b ha hb => by rw [m_up2_ne (by omega)]; exact t1 a b ha hb
      obtain ⟨ω, o1, o2, o3, o4⟩ := z_laysR (Z := Z) (e := e) (s := s) hL hn4 hf4 hd
      obtain ⟨ρ, r1, r2, r3⟩ := z_covers (Z := Z) (e := e) (s := s) (p := x) (q := y) (f1 := f1) (l4 := (9, 0)) hL o3.1 (fun S hS => ⟨(o2 S hS).1, w_isR_u (o2 S hS).2 (hg.1 S hS)⟩) ⟨hm.1, xb⟩ hm.2 hx hy
      have n0 := wf_n h.1.1
      have hsing : ∀ i, i < w_nn N → f1 (2 ^ i) ≤ fr x y := by
        intro i hi
        refine Rat.le_trans (w_single h.1.1 hd hi (hg.1 _ (Nat.pow_lt_pow_right (by omega) hi))) (fr_nn (by clear hx hy h2; omega) hm.1)
      rw [← w_few_u n0.2.2 hm8 r3 hsing] at r1
      refine z_okz (τ := ρ) h (z_fz_t (z_fz_t ⟨fun a ha => ?_, fun j hj => ?_⟩ o4) ⟨fun a ha => r2 a (by omega), fun j _ => by rw [r2 191 (by omega)]⟩) ?_
      · rw [m_up2_ne (by omega), m_up2_ne (by omega), t2 a (by omega)]
      · by_cases cj : j = 4
        · rw [cj, m_up2_at, m_up2_at]
        · rw [m_up2_nk cj, m_up2_nk cj, t2 191 (by omega)]
      · rw [← r1]
        simp only [e_233, b_233_0, b_233_5, b_233_13, b_233_20, b_233_24, b_233_31, b_233_32, b_233_35, b_233_40, ↓reduceIte, Nat.reduceEqDiff, Nat.reduceMul, q_n10, q_n01, Option.bind_some, g_aft0, g_aft1, g_aft2, g_aft3, g_aft9, Nat.reduceAdd, m_kill_0, m_kill_2, m_kill_3, m_kill_4, m_kill_9, true_or, or_true, q_lm1, q_l0, q_l1, q_l2, q_l3, q_l4, q_l5, q_l6, q_l8, q_l9, q_l10, q_l12, q_l17, q_l32, q_l35, q_l48, q_l50, q_l54, q_l57, q_l64, q_l73, q_l118, q_l119, q_l120, q_l122, q_l126, q_l160, q_l256, q_l365, q_l372, q_l438, q_l1000, q_l100000, q_l1000000, q_modF hL.2.2.2.2.2.2.1, hx, c1, h2, n10, u2, z_ref0 hL, o1]
theorem z_covered (hL : q_lay K) (h : z_inv σ N R c X L) (hx : w32 x = x) (hy : w32 y = y) (hz : w32 z = z) :
    (¬ (0 ≤ x ∧ x < N 0 1) → z_O (m_cl Z 234 [(2, ((191 : Nat) : Int)), (0, x), (0, y), (0, z)] (K, σ, 206, e, s)) K e s σ N R c X L 1 0) ∧
    ((0 ≤ x ∧ x < N 0 1) → ¬ (0 ≤ y ∧ y ≤ N 10 x.toNat ∧ 0 ≤ z) → z_O (m_cl Z 234 [(2, ((191 : Nat) : Int)), (0, x), (0, y), (0, z)] (K, σ, 206, e, s)) K e s σ N R c X L 2 0) ∧
    ((0 ≤ x ∧ x < N 0 1) → (0 ≤ y ∧ y ≤ N 10 x.toNat ∧ 0 ≤ z) → (¬ w_cn N → z_O (m_cl Z 234 [(2, ((191 : Nat) : Int)), (0, x), (0, y), (0, z)] (K, σ, 206, e, s)) K e s σ N R c X L 3 0) ∧ (w_cn N → z_O (m_cl Z 234 [(2, ((191 : Nat) : Int)), (0, x), (0, y), (0, z)] (K, σ, 206, e, s)) K e s σ N R c X L 0 (w_or (fun i => decide (w_F N 0 x.toNat i y 1 ≤ z)) (w_nn N)))) := by
  have h1 := z_isEdge (Z := Z) (e := e) (s := s) hL h.1 hx
  have hne := wf_e h.1.1
  have n10 : ¬ (1 : Int) = 0 := by decide
  refine ⟨fun hn => ?_, fun hn hm => ?_, fun hn hm => ?_⟩
  · rw [if_neg hn] at h1
    refine z_no h ?_
    simp only [e_234, b_234_0, b_234_5, b_234_8, b_234_16, b_234_19, b_234_22, b_234_26, b_234_30, b_234_31, b_234_39, b_234_42, b_234_46, b_234_51, b_234_55, b_234_59, b_234_62, b_234_66, b_234_67, b_234_70, b_234_73, b_234_75, b_234_80, b_234_92, b_234_95, b_234_115, b_234_122, b_234_129, b_234_130, b_234_139, ↓reduceIte, Nat.reduceEqDiff, Nat.reduceMul, q_n10, q_n01, Option.bind_some, g_aft0, g_aft1, g_aft2, g_aft3, g_aft9, Nat.reduceAdd, m_kill_0, m_kill_2, m_kill_3, m_kill_4, m_kill_9, true_or, or_true, q_lm1, q_l0, q_l1, q_l2, q_l3, q_l4, q_l5, q_l6, q_l8, q_l9, q_l10, q_l12, q_l17, q_l32, q_l35, q_l48, q_l50, q_l54, q_l57, q_l64, q_l73, q_l118, q_l119, q_l120, q_l122, q_l126, q_l160, q_l256, q_l365, q_l372, q_l438, q_l1000, q_l100000, q_l1000000, q_modF hL.2.2.2.2.2.2.1, h1, z_ref1 hL (x := 1) (by decide) (by decide)]
  all_goals
    rw [if_pos hn] at h1
    have ex : ((x.toNat : Nat) : Int) = x := by clear hx hy hz h1; omega
    have hg : x.toNat < w_ne N := by clear hx hy hz h1; omega
    have h7 := wf_ed h.1.1 hg
    have ho := (z_of (Z := Z) (e := e) (s := s) hL h.1 hg).2.2
    rw [ex] at ho
    have wl : w32 (N 10 x.toNat) = N 10 x.toNat := by clear hx hy hz h1 ho; exact q_wi (by omega) (by omega)
    have h2 := z_within2 (Z := Z) (h := (K, σ, 206, e, s)) (x := y) (y := 0) (z := N 10 x.toNat) hy (by decide) wl
  · refine z_no h ?_
    by_cases c1 : 0 ≤ y ∧ y ≤ N 10 x.toNat
    · rw [if_pos c1] at h2
      have c2 : z < 0 := by
        refine Int.not_le.mp (fun q => hm ⟨c1.1, c1.2, q⟩)
      simp only [e_234, b_234_0, b_234_5, b_234_8, b_234_16, b_234_19, b_234_22, b_234_26, b_234_30, b_234_31, b_234_39, b_234_42, b_234_46, b_234_51, b_234_55, b_234_59, b_234_62, b_234_66, b_234_67, b_234_70, b_234_73, b_234_75, b_234_80, b_234_92, b_234_95, b_234_115, b_234_122, b_234_129, b_234_130, b_234_139, ↓reduceIte, Nat.reduceEqDiff, Nat.reduceMul, q_n10, q_n01, Option.bind_some, g_aft0, g_aft1, g_aft2, g_aft3, g_aft9, Nat.reduceAdd, m_kill_0, m_kill_2, m_kill_3, m_kill_4, m_kill_9, true_or, or_true, q_lm1, q_l0, q_l1, q_l2, q_l3, q_l4, q_l5, q_l6, q_l8, q_l9, q_l10, q_l12, q_l17, q_l32, q_l35, q_l48, q_l50, q_l54, q_l57, q_l64, q_l73, q_l118, q_l119, q_l120, q_l122, q_l126, q_l160, q_l256, q_l365, q_l372, q_l438, q_l1000, q_l100000, q_l1000000, q_modF hL.2.2.2.2.2.2.1, h1, ho, h2, n10, hz, c2, z_ref1 hL (x := 2) (by decide) (by decide)]
    · rw [if_neg c1] at h2
      simp only [e_234, b_234_0, b_234_5, b_234_8, b_234_16, b_234_19, b_234_22, b_234_26, b_234_30, b_234_31, b_234_39, b_234_42, b_234_46, b_234_51, b_234_55, b_234_59, b_234_62, b_234_66, b_234_67, b_234_70, b_234_73, b_234_75, b_234_80, b_234_92, b_234_95, b_234_115, b_234_122, b_234_129, b_234_130, b_234_139, ↓reduceIte, Nat.reduceEqDiff, Nat.reduceMul, q_n10, q_n01, Option.bind_some, g_aft0, g_aft1, g_aft2, g_aft3, g_aft9, Nat.reduceAdd, m_kill_0, m_kill_2, m_kill_3, m_kill_4, m_kill_9, true_or, or_true, q_lm1, q_l0, q_l1, q_l2, q_l3, q_l4, q_l5, q_l6, q_l8, q_l9, q_l10, q_l12, q_l17, q_l32, q_l35, q_l48, q_l50, q_l54, q_l57, q_l64, q_l73, q_l118, q_l119, q_l120, q_l122, q_l126, q_l160, q_l256, q_l365, q_l372, q_l438, q_l1000, q_l100000, q_l1000000, q_modF hL.2.2.2.2.2.2.1, h1, ho, h2, n10, z_ref1 hL (x := 2) (by decide) (by decide)]
  · rw [if_pos ⟨hm.1, hm.2.1⟩] at h2
    have c2 : ¬ z < 0 := by have := hm.2.2; clear hx hy hz h1 ho wl h2; omega
    obtain ⟨τ, v, t1, t2, t3, t4, t5⟩ := z_conn (Z := Z) (e := e) (s := s) hL h.1
    constructor
    · intro hd
      rw [t5 hd] at t1
      refine z_no6 (τ := τ) h t3 ?_
      simp only [e_234, b_234_0, b_234_5, b_234_8, b_234_16, b_234_19, b_234_22, b_234_26, b_234_30, b_234_31, b_234_39, b_234_42, b_234_46, b_234_51, b_234_55, b_234_59, b_234_62, b_234_66, b_234_67, b_234_70, b_234_73, b_234_75, b_234_80, b_234_92, b_234_95, b_234_115, b_234_122, b_234_129, b_234_130, b_234_139, ↓reduceIte, Nat.reduceEqDiff, Nat.reduceMul, q_n10, q_n01, Option.bind_some, g_aft0, g_aft1, g_aft2, g_aft3, g_aft9, Nat.reduceAdd, m_kill_0, m_kill_2, m_kill_3, m_kill_4, m_kill_9, true_or, or_true, q_lm1, q_l0, q_l1, q_l2, q_l3, q_l4, q_l5, q_l6, q_l8, q_l9, q_l10, q_l12, q_l17, q_l32, q_l35, q_l48, q_l50, q_l54, q_l57, q_l64, q_l73, q_l118, q_l119, q_l120, q_l122, q_l126, q_l160, q_l256, q_l365, q_l372, q_l438, q_l1000, q_l100000, q_l1000000, q_modF hL.2.2.2.2.2.2.1, h1, ho, h2, n10, hz, c2, t1, z_ref1 hL (x := 3) (by decide) (by decide)]
    · intro hd
      rw [t4 hd] at t1
      have hw := h.1.1
      have n0 := wf_n hw
      obtain ⟨ω, o1, o2, o3⟩ := z_prep (Z := Z) (e := e) (s := s) (t := 0) hL h.1 hd t2 t3
      have hp := w_pq1 (N := N) (t := 0) (g := x.toNat) (Int.le_refl 0) (by decide) hm.1 hm.2.1
      have hmn := z_many (Z := Z) (e := e) (s := s) hL o2.1
      rw [n0.1] at hmn
      have wn : w32 (w_nn N : Int) = (w_nn N : Int) := by clear hx hy hz h1 ho wl h2; exact q_w (by omega)
      have zb : z ≤ 2147483647 := by
        have h3 : w32 z < 2147483648 := Int.bmod_lt (by decide)
        rw [hz] at h3
        clear hx hy hz h1 ho wl h2 wn; omega
      have wz : w64 z = z := by have := hm.2.2; clear hx hy hz h1 ho wl h2 wn; exact q_w64 (by omega) (by omega)
      have lp := q_loopf (Z := Z) (N := w_nn N) (S := fun i => (234, 86, [(2, ((191 : Nat) : Int)), (0, x), (0, y), (0, z), (0, 1), (0, w_or (fun i => decide (w_F N 0 x.toNat i y 1 ≤ z)) i), (0, (i : Int))], [], (K, ω, 206, e, s))) (by
        intro i hi
        have ha := (z_aw (Z := Z) (e := e) (s := s) hL o2 hg hi hp).2.2
        rw [ex] at ha
        have wi : w32 (i : Int) = (i : Int) := by clear hx hy hz h1 ho wl h2 wn wz; exact q_w (by omega)
        have c0 : ¬ (w_nn N : Int) ≤ (i : Int) := by clear hx hy hz h1 ho wl h2 wn wz wi; omega
        have p0 : 0 ≤ (i : Int) := by clear hx hy hz h1 ho wl h2 wn wz wi; omega
        have p1 : (i : Int) < ((8 : Nat) : Int) := by clear hx hy hz h1 ho wl h2 wn wz wi; omega
        have tn : ((i : Int)).toNat = i := rfl
        have hwt := o2.2.2.1 i hi
        have bw := w_Wb hw (show i < 8 by clear hx hy hz h1 ho wl h2 wn wz wi; omega) (Int.le_refl 0)
        have ww : w32 (w_W N 0 i) = w_W N 0 i := by clear hx hy hz h1 ho wl h2 wn wz wi; exact q_wi (by omega) (by omega)
        have hF := w_Fb hw hd hg hi hp
        have eF : w_W N 0 i * w_R N x.toNat i y 1 = w_F N 0 x.toNat i y 1 := rfl
        have wF : w64 (w_F N 0 x.toNat i y 1) = w_F N 0 x.toNat i y 1 := by clear hx hy hz h1 ho wl h2 wn wz wi ww; exact q_w64 (by omega) (by omega)
        have hc0 : (0 < w32 (l_cmp (w_F N 0 x.toNat i y 1) z)) = (z < w_F N 0 x.toNat i y 1) := l_cg wF wz
        have ei : ((i + 1 : Nat) : Int) = (i : Int) + 1 := rfl
        have eor : w_or (fun i => decide (w_F N 0 x.toNat i y 1 ≤ z)) (i + 1) = if w_F N 0 x.toNat i y 1 ≤ z then i_or (w_or (fun i => decide (w_F N 0 x.toNat i y 1 ≤ z)) i) (i_shl 1 (i : Int)) else w_or (fun i => decide (w_F N 0 x.toNat i y 1 ≤ z)) i := by
          show (if decide (w_F N 0 x.toNat i y 1 ≤ z) = true then _ else _) = _
          simp only [decide_eq_true_eq]
        rw [ei, eor]
        have ho0 := i_or_0 (w_or_w (P := fun i => decide (w_F N 0 x.toNat i y 1 ≤ z)) i)
        generalize w_or (fun i => decide (w_F N 0 x.toNat i y 1 ≤ z)) i = O at *
        clear wF
        by_cases d : w_F N 0 x.toNat i y 1 ≤ z
        · rw [if_pos d]
          have d' : ¬ z < w_F N 0 x.toNat i y 1 := Int.not_lt.mpr d
          conv => lhs; simp only [b_234_86, ↓reduceIte, Nat.reduceEqDiff, Nat.reduceMul, q_n10, q_n01, Option.bind_some, g_aft0, g_aft1, g_aft2, g_aft3, g_aft9, Nat.reduceAdd, m_kill_0, m_kill_2, m_kill_3, m_kill_4, m_kill_9, true_or, or_true, q_lm1, q_l0, q_l1, q_l2, q_l3, q_l4, q_l5, q_l6, q_l8, q_l9, q_l10, q_l12, q_l17, q_l32, q_l35, q_l48, q_l50, q_l54, q_l57, q_l64, q_l73, q_l118, q_l119, q_l120, q_l122, q_l126, q_l160, q_l256, q_l365, q_l372, q_l438, q_l1000, q_l100000, q_l1000000, q_modF hL.2.2.2.2.2.2.1, hmn]
          conv => lhs; simp only [b_234_92, b_234_95, b_234_115, b_234_122, ↓reduceIte, Nat.reduceEqDiff, Nat.reduceMul, q_n10, q_n01, Option.bind_some, g_aft0, g_aft1, g_aft2, g_aft3, g_aft9, Nat.reduceAdd, m_kill_0, m_kill_2, m_kill_3, m_kill_4, m_kill_9, true_or, or_true, q_lm1, q_l0, q_l1, q_l2, q_l3, q_l4, q_l5, q_l6, q_l8, q_l9, q_l10, q_l12, q_l17, q_l32, q_l35, q_l48, q_l50, q_l54, q_l57, q_l64, q_l73, q_l118, q_l119, q_l120, q_l122, q_l126, q_l160, q_l256, q_l365, q_l372, q_l438, q_l1000, q_l100000, q_l1000000, q_modF hL.2.2.2.2.2.2.1, wi, wn, c0, p0, p1, tn, hwt, ww, hy, ha, eF, hz, hc0.trans (eq_false d')]
        · rw [if_neg d]
          have d' : z < w_F N 0 x.toNat i y 1 := Int.not_le.mp d
          conv => lhs; simp only [b_234_86, ↓reduceIte, Nat.reduceEqDiff, Nat.reduceMul, q_n10, q_n01, Option.bind_some, g_aft0, g_aft1, g_aft2, g_aft3, g_aft9, Nat.reduceAdd, m_kill_0, m_kill_2, m_kill_3, m_kill_4, m_kill_9, true_or, or_true, q_lm1, q_l0, q_l1, q_l2, q_l3, q_l4, q_l5, q_l6, q_l8, q_l9, q_l10, q_l12, q_l17, q_l32, q_l35, q_l48, q_l50, q_l54, q_l57, q_l64, q_l73, q_l118, q_l119, q_l120, q_l122, q_l126, q_l160, q_l256, q_l365, q_l372, q_l438, q_l1000, q_l100000, q_l1000000, q_modF hL.2.2.2.2.2.2.1, hmn]
          conv => lhs; simp only [b_234_92, b_234_95, b_234_115, b_234_129, b_234_130, ↓reduceIte, Nat.reduceEqDiff, Nat.reduceMul, q_n10, q_n01, Option.bind_some, g_aft0, g_aft1, g_aft2, g_aft3, g_aft9, Nat.reduceAdd, m_kill_0, m_kill_2, m_kill_3, m_kill_4, m_kill_9, true_or, or_true, q_lm1, q_l0, q_l1, q_l2, q_l3, q_l4, q_l5, q_l6, q_l8, q_l9, q_l10, q_l12, q_l17, q_l32, q_l35, q_l48, q_l50, q_l54, q_l57, q_l64, q_l73, q_l118, q_l119, q_l120, q_l122, q_l126, q_l160, q_l256, q_l365, q_l372, q_l438, q_l1000, q_l100000, q_l1000000, q_modF hL.2.2.2.2.2.2.1, wi, wn, c0, p0, p1, tn, hwt, ww, hy, ha, eF, hz, hc0.trans (eq_true d'), ho0])
      refine z_okz h o3 ?_
      simp only [e_234, b_234_0, b_234_5, b_234_8, b_234_16, b_234_19, b_234_22, b_234_26, b_234_31, b_234_39, b_234_46, b_234_55, b_234_59, b_234_66, b_234_67, b_234_70, b_234_75, b_234_80, ↓reduceIte, Nat.reduceEqDiff, Nat.reduceMul, q_n10, q_n01, Option.bind_some, g_aft0, g_aft1, g_aft2, g_aft3, g_aft9, Nat.reduceAdd, m_kill_0, m_kill_2, m_kill_3, m_kill_4, m_kill_9, true_or, or_true, q_lm1, q_l0, q_l1, q_l2, q_l3, q_l4, q_l5, q_l6, q_l8, q_l9, q_l10, q_l12, q_l17, q_l32, q_l35, q_l48, q_l50, q_l54, q_l57, q_l64, q_l73, q_l118, q_l119, q_l120, q_l122, q_l126, q_l160, q_l256, q_l365, q_l372, q_l438, q_l1000, q_l100000, q_l1000000, q_modF hL.2.2.2.2.2.2.1, h1, ho, h2, n10, hz, c2, t1, z_ref0 hL, o1]
      refine Eq.trans lp ?_
      conv => lhs; simp only [b_234_86, ↓reduceIte, Nat.reduceEqDiff, Nat.reduceMul, q_n10, q_n01, Option.bind_some, g_aft0, g_aft1, g_aft2, g_aft3, g_aft9, Nat.reduceAdd, m_kill_0, m_kill_2, m_kill_3, m_kill_4, m_kill_9, true_or, or_true, q_lm1, q_l0, q_l1, q_l2, q_l3, q_l4, q_l5, q_l6, q_l8, q_l9, q_l10, q_l12, q_l17, q_l32, q_l35, q_l48, q_l50, q_l54, q_l57, q_l64, q_l73, q_l118, q_l119, q_l120, q_l122, q_l126, q_l160, q_l256, q_l365, q_l372, q_l438, q_l1000, q_l100000, q_l1000000, q_modF hL.2.2.2.2.2.2.1, hmn]
      simp only [b_234_92, b_234_139, ↓reduceIte, Nat.reduceEqDiff, Nat.reduceMul, q_n10, q_n01, Option.bind_some, g_aft0, g_aft1, g_aft2, g_aft3, g_aft9, Nat.reduceAdd, m_kill_0, m_kill_2, m_kill_3, m_kill_4, m_kill_9, true_or, or_true, q_lm1, q_l0, q_l1, q_l2, q_l3, q_l4, q_l5, q_l6, q_l8, q_l9, q_l10, q_l12, q_l17, q_l32, q_l35, q_l48, q_l50, q_l54, q_l57, q_l64, q_l73, q_l118, q_l119, q_l120, q_l122, q_l126, q_l160, q_l256, q_l365, q_l372, q_l438, q_l1000, q_l100000, q_l1000000, wn, Int.le_refl]
end
end
