section
/-! The model's calls: centers, medians. -/
theorem i_or_0 {x : Int} (h : w32 x = x) : i_or x 0 = x := by
  unfold i_or
  have e : Int32.ofInt 0 = 0 := by decide
  rw [e, Int32.or_zero, Int32.toInt_ofInt]
  exact h
theorem i_or_w {x y : Int} : w32 (i_or x y) = i_or x y := by
  unfold i_or
  generalize Int32.ofInt x ||| Int32.ofInt y = z
  have h1 := z.toInt_lt
  have h2 := z.le_toInt
  exact w32_of (by omega) (by omega)
theorem w_or_w {P : Nat → Bool} : ∀ k, w32 (w_or P k) = w_or P k
  | 0 => by show w32 0 = 0; decide
  | k + 1 => by
    show w32 (if P k = true then i_or (w_or P k) (i_shl 1 (k : Int)) else w_or P k) = if P k = true then i_or (w_or P k) (i_shl 1 (k : Int)) else w_or P k
    split
    · exact i_or_w
    · exact w_or_w k
theorem w_or_congr {P P' : Nat → Bool} : ∀ k, (∀ i, i < k → P i = P' i) → w_or P k = w_or P' k
  | 0, _ => rfl
  | k + 1, h => by
    show (if P k = true then i_or (w_or P k) (i_shl 1 (k : Int)) else w_or P k) = if P' k = true then i_or (w_or P' k) (i_shl 1 (k : Int)) else w_or P' k
    rw [w_or_congr k (fun i hi => h i (by omega)), h k (by omega)]
section
variable {Z : mZ} {K : Nat → mK} {σ τ N M : Nat → Nat → Int} {e g i L n c k s a : Nat} {t p q v x y z w u S : Int} {X : Nat → Int} {h : mH} {R : Nat → Nat → Nat → Int} {T : Nat → Int} {b b' : wP}
theorem z_ps_ne (hw : q_wf N) (hc : y_cc N) (ht : 0 ≤ t) (ht2 : t ≤ 10) : z_ps N t S ≠ [] := by
  have h7 := wf_ed hw (e := 0) hc.2
  have hv : h_v N 0 0 := by
    refine ⟨hc.2, Rat.le_refl, Rat.intCast_nonneg.mpr (by omega), ?_⟩
    rintro k hk ⟨h1, h2, -⟩
    obtain ⟨e', e1, e2, e3, -⟩ := wf_st hw hk
    have : (0 : Rat) ≤ (N 14 k : Rat) := Rat.intCast_nonneg.mpr e3
    grind
  obtain ⟨y, -, y1, -⟩ := mo_domH (S := S) hw hc.1 ht ht2 hv
  intro q
  rw [q] at y1
  exact absurd y1 List.not_mem_nil
theorem z_bs_b {V : wP → Int} {L : List wP} (h : z_bs τ V L) (hne : L ≠ []) : ∃ b, w_best V L b ∧ τ 191 12 = (b.1 : Int) ∧ τ 191 13 = b.2.1 ∧ τ 191 14 = b.2.2 ∧ τ 191 15 = V b := by
  rcases h with ⟨h, -⟩ | ⟨b, b1, b2, b3, b4, b5, b6⟩
  · exact absurd h hne
  · exact ⟨b, ⟨b1, b6⟩, b2, b3, b4, b5⟩
/-- the same best point on both sides -/
def z_eqb (V : wP → Int) (b b' : wP) : Prop := b'.1 = b.1 ∧ fr b'.2.1 b'.2.2 = fr b.2.1 b.2.2 ∧ fr (V b') b'.2.2 = fr (V b) b.2.2 ∧ (0 ≤ b.2.1 ∧ 1 ≤ b.2.2 ∧ 0 ≤ V b) ∧ (0 ≤ b'.2.1 ∧ b'.2.1 ≤ 50000) ∧ (1 ≤ b'.2.2 ∧ b'.2.2 ≤ 1000) ∧ 0 ≤ V b' ∧ V b' ≤ 2147483647
theorem z_eqbH (hw : q_wf N) (hc : w_cn N) (ht : 0 ≤ t) (ht2 : t ≤ 10) (hb : w_best (w_Hv N t S) (w_pts N t) b) (hb' : w_best (w_Hv N t S) (z_ps N t S) b') : z_eqb (w_Hv N t S) b b' ∧ b'.1 < w_ne N ∧ w_pq N t b'.1 b'.2.1 b'.2.2 ∧ w_pq N t b.1 b.2.1 b.2.2 := by
  obtain ⟨e1, e2, e3⟩ := h_optU (mo_optH hw hc ht ht2 hb') (cl_optH hw hc ht ht2 hb)
  have q1 := (z_ps_v hw hc ht ht2 hb'.1).2
  have q2 := (w_pts_v hw hc ht ht2 hb.1).2
  rw [← h_fHq q1, ← h_fHq q2] at e1
  obtain ⟨m1, m2, m3⟩ := z_ps_mem.mp hb'.1
  have p1 := z_xs_ok hw hc m1 ht ht2 m2
  have p2 := w_pts_ok hw hc ht ht2 hb.1
  have v1 := (z_val hw hc m1 p1 (S := S)).1
  have v2 := (z_val hw hc p2.1 p2.2.1 (S := S)).1
  obtain ⟨-, -, a3, a4, a5, a6, a7, a8⟩ := v1
  obtain ⟨-, -, c3, c4, c5, c6, c7, c8⟩ := v2
  exact ⟨⟨e2, e3, e1, ⟨c3, c5, c7⟩, ⟨a3, a4⟩, ⟨a5, a6⟩, a7, a8⟩, m1, p1, p2.2.1⟩
theorem z_eqbC (hw : q_wf N) (hc : w_cn N) (ht : 0 ≤ t) (ht2 : t ≤ 10) (hb : w_best (w_Cv N t) (w_pts N t) b) (hb' : w_best (w_Cv N t) (z_ps N t S) b') : z_eqb (w_Cv N t) b b' := by
  obtain ⟨e1, e2, e3⟩ := h_optU (mo_optC hw hc ht ht2 hb') (cl_optC hw hc ht ht2 hb)
  have q1 := (z_ps_v hw hc ht ht2 hb'.1).2
  have q2 := (w_pts_v hw hc ht ht2 hb.1).2
  rw [← h_fCq q1, ← h_fCq q2] at e1
  obtain ⟨m1, m2, m3⟩ := z_ps_mem.mp hb'.1
  have p1 := z_xs_ok hw hc m1 ht ht2 m2
  have p2 := w_pts_ok hw hc ht ht2 hb.1
  have v1 := (z_val hw hc m1 p1 (S := S)).2
  have v2 := (z_val hw hc p2.1 p2.2.1 (S := S)).2
  obtain ⟨-, -, a3, a4, a5, a6, a7, a8⟩ := v1
  obtain ⟨-, -, c3, c4, c5, c6, c7, c8⟩ := v2
  exact ⟨e2, e3, e1, ⟨c3, c5, c7⟩, ⟨a3, a4⟩, ⟨a5, a6⟩, a7, a8⟩
/-- the best point as the model keeps it -/
def z_bk (τ : Nat → Nat → Int) (V : wP → Int) (b' : wP) : Prop := τ 191 12 = (b'.1 : Int) ∧ τ 191 13 = b'.2.1 ∧ τ 191 14 = b'.2.2 ∧ τ 191 15 = V b'
theorem z_redV {V : wP → Int} (hq : z_eqb V b b') (hk : z_bk τ V b') (hu : w32 u = u) : m_cl Z 191 [(1, τ 191 15), (1, τ 191 14), (0, u)] h = some (.inl (0, w_red (V b) b.2.2 u), h) := by
  obtain ⟨-, -, e3, ⟨a1, a2, a3⟩, ⟨a4, a5⟩, ⟨a6, a7⟩, a8, a9⟩ := hq
  obtain ⟨-, -, k14, k15⟩ := hk
  rw [k14, k15, ← w_redU (part := u) a8 (by clear hu; omega) a3 (by clear hu; omega) e3]
  exact z_red a8 (by clear hu; omega) a6 (by clear hu; omega) hu
theorem z_redP {V : wP → Int} (hq : z_eqb V b b') (hk : z_bk τ V b') (hu : w32 u = u) : m_cl Z 191 [(1, τ 191 13), (1, τ 191 14), (0, u)] h = some (.inl (0, w_red b.2.1 b.2.2 u), h) := by
  obtain ⟨-, e2, -, ⟨a1, a2, a3⟩, ⟨a4, a5⟩, ⟨a6, a7⟩, a8, a9⟩ := hq
  obtain ⟨-, k13, k14, -⟩ := hk
  rw [k13, k14, ← w_redU (part := u) a4 (by clear hu; omega) a1 (by clear hu; omega) e2]
  exact z_red a4 (by clear hu; omega) a6 (by clear hu; omega) hu
theorem z_cT {V : wP → Int} (hL : q_lay K) (hq : z_eqb V b b') (hk : z_bk τ V b') (hx : 0 ≤ x) (hx2 : x ≤ 2) : m_cl Z 219 [(2, ((191 : Nat) : Int)), (0, x)] (K, τ, 206, e, s) = some (.inl (0, y_bf V b x), (K, τ, 206, e, s)) := by
  have h12 : τ 191 12 = (b.1 : Int) := by rw [hk.1, hq.1]
  have r0 := z_redP (Z := Z) (h := (K, τ, 206, e, s)) (u := 0) hq hk (by decide)
  have r1 := z_redP (Z := Z) (h := (K, τ, 206, e, s)) (u := 1) hq hk (by decide)
  have e0 : w32 0 = 0 := by decide
  have e1 : w32 1 = 1 := by decide
  have e2 : w32 2 = 2 := by decide
  have n1 : ¬ (1 : Int) = 0 := by decide
  have n2 : ¬ (2 : Int) = 0 := by decide
  have d1 : (1 : Int) - 1 = 0 := rfl
  have d2 : (2 : Int) - 1 = 1 := rfl
  rcases (show x = 0 ∨ x = 1 ∨ x = 2 by clear e0 e1 e2; omega) with rfl | rfl | rfl
  · simp only [e_219, b_219_0, b_219_4, b_219_11, b_219_25, ↓reduceIte, Nat.reduceEqDiff, Nat.reduceMul, q_n10, q_n01, Option.bind_some, g_aft0, g_aft1, g_aft2, g_aft3, g_aft9, Nat.reduceAdd, m_kill_0, m_kill_2, m_kill_3, m_kill_4, m_kill_9, true_or, or_true, q_lm1, q_l0, q_l1, q_l2, q_l3, q_l4, q_l5, q_l6, q_l8, q_l9, q_l10, q_l12, q_l17, q_l32, q_l35, q_l48, q_l50, q_l54, q_l57, q_l64, q_l73, q_l118, q_l119, q_l120, q_l122, q_l126, q_l160, q_l256, q_l365, q_l372, q_l438, q_l1000, q_l100000, q_l1000000, q_modF hL.2.2.2.2.2.2.1, e0, h12]
    rfl
  · simp only [e_219, b_219_0, b_219_4, b_219_11, b_219_25, ↓reduceIte, Nat.reduceEqDiff, Nat.reduceMul, q_n10, q_n01, Option.bind_some, g_aft0, g_aft1, g_aft2, g_aft3, g_aft9, Nat.reduceAdd, m_kill_0, m_kill_2, m_kill_3, m_kill_4, m_kill_9, true_or, or_true, q_lm1, q_l0, q_l1, q_l2, q_l3, q_l4, q_l5, q_l6, q_l8, q_l9, q_l10, q_l12, q_l17, q_l32, q_l35, q_l48, q_l50, q_l54, q_l57, q_l64, q_l73, q_l118, q_l119, q_l120, q_l122, q_l126, q_l160, q_l256, q_l365, q_l372, q_l438, q_l1000, q_l100000, q_l1000000, q_modF hL.2.2.2.2.2.2.1, e1, n1, d1, r0]
    rfl
  · simp only [e_219, b_219_0, b_219_4, b_219_11, b_219_25, ↓reduceIte, Nat.reduceEqDiff, Nat.reduceMul, q_n10, q_n01, Option.bind_some, g_aft0, g_aft1, g_aft2, g_aft3, g_aft9, Nat.reduceAdd, m_kill_0, m_kill_2, m_kill_3, m_kill_4, m_kill_9, true_or, or_true, q_lm1, q_l0, q_l1, q_l2, q_l3, q_l4, q_l5, q_l6, q_l8, q_l9, q_l10, q_l12, q_l17, q_l32, q_l35, q_l48, q_l50, q_l54, q_l57, q_l64, q_l73, q_l118, q_l119, q_l120, q_l122, q_l126, q_l160, q_l256, q_l365, q_l372, q_l438, q_l1000, q_l100000, q_l1000000, q_modF hL.2.2.2.2.2.2.1, e2, n2, d2, r1]
    rfl
theorem z_mT {V : wP → Int} (hL : q_lay K) (hq : z_eqb V b b') (hk : z_bk τ V b') (hx : 0 ≤ x) (hx2 : x ≤ 4) : m_cl Z 224 [(2, ((191 : Nat) : Int)), (0, x)] (K, τ, 206, e, s) = some (.inl (0, y_bf V b x), (K, τ, 206, e, s)) := by
  have e3 : w32 3 = 3 := by decide
  have wx : w32 x = x := by clear e3; exact q_wi (by omega) (by omega)
  by_cases c : 3 ≤ x
  · have r0 := z_redV (Z := Z) (h := (K, τ, 206, e, s)) (u := 0) hq hk (by decide)
    have r1 := z_redV (Z := Z) (h := (K, τ, 206, e, s)) (u := 1) hq hk (by decide)
    have d1 : (3 : Int) - 3 = 0 := rfl
    have d2 : (4 : Int) - 3 = 1 := rfl
    have l3 : (3 : Int) ≤ 3 := by decide
    have l4 : (3 : Int) ≤ 4 := by decide
    have e4 : w32 4 = 4 := by decide
    rcases (show x = 3 ∨ x = 4 by clear e3 wx e4; omega) with rfl | rfl
    · simp only [e_224, b_224_0, b_224_5, b_224_10, b_224_13, b_224_27, ↓reduceIte, Nat.reduceEqDiff, Nat.reduceMul, q_n10, q_n01, Option.bind_some, g_aft0, g_aft1, g_aft2, g_aft3, g_aft9, Nat.reduceAdd, m_kill_0, m_kill_2, m_kill_3, m_kill_4, m_kill_9, true_or, or_true, q_lm1, q_l0, q_l1, q_l2, q_l3, q_l4, q_l5, q_l6, q_l8, q_l9, q_l10, q_l12, q_l17, q_l32, q_l35, q_l48, q_l50, q_l54, q_l57, q_l64, q_l73, q_l118, q_l119, q_l120, q_l122, q_l126, q_l160, q_l256, q_l365, q_l372, q_l438, q_l1000, q_l100000, q_l1000000, q_modF hL.2.2.2.2.2.2.1, e3, l3, d1, r0]
      rfl
    · simp only [e_224, b_224_0, b_224_5, b_224_10, b_224_13, b_224_27, ↓reduceIte, Nat.reduceEqDiff, Nat.reduceMul, q_n10, q_n01, Option.bind_some, g_aft0, g_aft1, g_aft2, g_aft3, g_aft9, Nat.reduceAdd, m_kill_0, m_kill_2, m_kill_3, m_kill_4, m_kill_9, true_or, or_true, q_lm1, q_l0, q_l1, q_l2, q_l3, q_l4, q_l5, q_l6, q_l8, q_l9, q_l10, q_l12, q_l17, q_l32, q_l35, q_l48, q_l50, q_l54, q_l57, q_l64, q_l73, q_l118, q_l119, q_l120, q_l122, q_l126, q_l160, q_l256, q_l365, q_l372, q_l438, q_l1000, q_l100000, q_l1000000, q_modF hL.2.2.2.2.2.2.1, e3, e4, l4, d2, r1]
      rfl
  · have hc := z_cT (Z := Z) (e := e) (s := s) (x := x) hL hq hk hx (by clear e3 wx; omega)
    simp only [e_224, b_224_0, b_224_5, b_224_10, b_224_13, b_224_27, ↓reduceIte, Nat.reduceEqDiff, Nat.reduceMul, q_n10, q_n01, Option.bind_some, g_aft0, g_aft1, g_aft2, g_aft3, g_aft9, Nat.reduceAdd, m_kill_0, m_kill_2, m_kill_3, m_kill_4, m_kill_9, true_or, or_true, q_lm1, q_l0, q_l1, q_l2, q_l3, q_l4, q_l5, q_l6, q_l8, q_l9, q_l10, q_l12, q_l17, q_l32, q_l35, q_l48, q_l50, q_l54, q_l57, q_l64, q_l73, q_l118, q_l119, q_l120, q_l122, q_l126, q_l160, q_l256, q_l365, q_l372, q_l438, q_l1000, q_l100000, q_l1000000, q_modF hL.2.2.2.2.2.2.1, e3, wx, c, hc]
theorem z_critN (hL : q_lay K) (h : z_sur τ N t) (ht : 0 ≤ t) (ht2 : t ≤ 10) (hg : b'.1 < w_ne N) (hp : w_pq N t b'.1 b'.2.1 b'.2.2) (hp0 : w_pq N t b.1 b.2.1 b.2.2) (hq : z_eqb (w_Hv N t S) b b') (hk : z_bk τ (w_Hv N t S) b') : m_cl Z 221 [(2, ((191 : Nat) : Int)), (0, S)] (K, τ, 206, e, s) = some (.inl (0, w_or (fun i => decide (q_bt S i = true ∧ w_F N t b.1 i b.2.1 b.2.2 = w_Hv N t S b)) (w_nn N)), (K, τ, 206, e, s)) := by
  have hw := h.1.1
  have hc := h.2.2.2
  have n0 := wf_n hw
  obtain ⟨k12, k13, k14, k15⟩ := hk
  have eqP : ∀ i, (w_F N t b'.1 i b'.2.1 b'.2.2 = w_Hv N t S b') = (w_F N t b.1 i b.2.1 b.2.2 = w_Hv N t S b) := by
    intro i
    have q1 : 0 < b'.2.2 := by have := hp.1; omega
    have q2 : 0 < b.2.2 := by have := hp0.1; omega
    have a1 : (w_F N t b'.1 i b'.2.1 b'.2.2 = w_Hv N t S b') ↔ fr (w_F N t b'.1 i b'.2.1 b'.2.2) b'.2.2 = fr (w_Hv N t S b') b'.2.2 := by
      rw [fr_eq q1 q1]
      exact ⟨fun h => by rw [h], fun h => Int.eq_of_mul_eq_mul_right (by omega) h⟩
    have a2 : (w_F N t b.1 i b.2.1 b.2.2 = w_Hv N t S b) ↔ fr (w_F N t b.1 i b.2.1 b.2.2) b.2.2 = fr (w_Hv N t S b) b.2.2 := by
      rw [fr_eq q2 q2]
      exact ⟨fun h => by rw [h], fun h => Int.eq_of_mul_eq_mul_right (by omega) h⟩
    apply propext
    rw [a1, a2, h_Ffr q1, h_Ffr q2, hq.1, hq.2.1, hq.2.2.1]
  have hmn := z_many (Z := Z) (e := e) (s := s) hL h.1
  rw [n0.1] at hmn
  have wn : w32 (w_nn N : Int) = (w_nn N : Int) := q_w (by omega)
  obtain ⟨V, hV⟩ : ∃ V, V = w_Hv N t S b' := ⟨_, rfl⟩
  have bV : 0 ≤ V ∧ V ≤ 2147483647 := by rw [hV]; exact hq.2.2.2.2.2.2
  have wV : w64 V = V := by clear wn; exact q_w64 (by omega) (by omega)
  rw [← hV] at k15 eqP
  have lp := q_loopf (Z := Z) (N := w_nn N) (S := fun i => (221, 4, [(2, ((191 : Nat) : Int)), (0, S), (0, w_or (fun i => decide (q_bt S i = true ∧ w_F N t b.1 i b.2.1 b.2.2 = w_Hv N t S b)) i), (0, (i : Int))], [], (K, τ, 206, e, s))) (by
    intro i hi
    have ha := (z_aw (Z := Z) (e := e) (s := s) hL h hg hi hp).2.2
    have hh := z_has (Z := Z) (S := S) (i := i) (h := (K, τ, 206, e, s))
    have wi : w32 (i : Int) = (i : Int) := q_w (by clear wn wV; omega)
    have c0 : ¬ (w_nn N : Int) ≤ (i : Int) := by clear wn wV wi; omega
    have p0 : 0 ≤ (i : Int) := by clear wn wV wi; omega
    have p1 : (i : Int) < ((8 : Nat) : Int) := by clear wn wV wi; omega
    have tn : ((i : Int)).toNat = i := rfl
    have hwt := h.2.2.1 i hi
    have bw := w_Wb hw (show i < 8 by clear wn wV wi; omega) ht
    have ww : w32 (w_W N t i) = w_W N t i := by clear wn wV wi; exact q_wi (by omega) (by omega)
    have hF := w_Fb hw hc hg hi hp
    have eF : w_W N t i * w_R N b'.1 i b'.2.1 b'.2.2 = w_F N t b'.1 i b'.2.1 b'.2.2 := rfl
    have wF : w64 (w_F N t b'.1 i b'.2.1 b'.2.2) = w_F N t b'.1 i b'.2.1 b'.2.2 := by clear wn wV wi ww; exact q_w64 (by omega) (by omega)
    have hc0 : (w32 (l_cmp (w_F N t b'.1 i b'.2.1 b'.2.2) V) = 0) = (w_F N t b.1 i b.2.1 b.2.2 = w_Hv N t S b) := (l_ce wF wV).trans (eqP i)
    have ei : ((i + 1 : Nat) : Int) = (i : Int) + 1 := rfl
    have n10 : ¬ (1 : Int) = 0 := by decide
    have eor : w_or (fun i => decide (q_bt S i = true ∧ w_F N t b.1 i b.2.1 b.2.2 = w_Hv N t S b)) (i + 1) = if q_bt S i = true ∧ w_F N t b.1 i b.2.1 b.2.2 = w_Hv N t S b then i_or (w_or (fun i => decide (q_bt S i = true ∧ w_F N t b.1 i b.2.1 b.2.2 = w_Hv N t S b)) i) (i_shl 1 (i : Int)) else w_or (fun i => decide (q_bt S i = true ∧ w_F N t b.1 i b.2.1 b.2.2 = w_Hv N t S b)) i := by
      show (if decide (q_bt S i = true ∧ w_F N t b.1 i b.2.1 b.2.2 = w_Hv N t S b) = true then _ else _) = _
      simp only [decide_eq_true_eq]
    rw [ei, eor]
    have ho0 := i_or_0 (w_or_w (P := fun i => decide (q_bt S i = true ∧ w_F N t b.1 i b.2.1 b.2.2 = w_Hv N t S b)) i)
    generalize w_or (fun i => decide (q_bt S i = true ∧ w_F N t b.1 i b.2.1 b.2.2 = w_Hv N t S b)) i = O at *
    clear wF
    by_cases d : q_bt S i = true
    · rw [if_pos d] at hh
      by_cases d2 : w_F N t b.1 i b.2.1 b.2.2 = w_Hv N t S b
      · rw [if_pos ⟨d, d2⟩]
        conv => lhs; simp only [b_221_4, ↓reduceIte, Nat.reduceEqDiff, Nat.reduceMul, q_n10, q_n01, Option.bind_some, g_aft0, g_aft1, g_aft2, g_aft3, g_aft9, Nat.reduceAdd, m_kill_0, m_kill_2, m_kill_3, m_kill_4, m_kill_9, true_or, or_true, q_lm1, q_l0, q_l1, q_l2, q_l3, q_l4, q_l5, q_l6, q_l8, q_l9, q_l10, q_l12, q_l17, q_l32, q_l35, q_l48, q_l50, q_l54, q_l57, q_l64, q_l73, q_l118, q_l119, q_l120, q_l122, q_l126, q_l160, q_l256, q_l365, q_l372, q_l438, q_l1000, q_l100000, q_l1000000, q_modF hL.2.2.2.2.2.2.1, hmn]
        conv => lhs; simp only [b_221_9, b_221_12, b_221_18, b_221_21, b_221_45, b_221_54, ↓reduceIte, Nat.reduceEqDiff, Nat.reduceMul, q_n10, q_n01, Option.bind_some, g_aft0, g_aft1, g_aft2, g_aft3, g_aft9, Nat.reduceAdd, m_kill_0, m_kill_2, m_kill_3, m_kill_4, m_kill_9, true_or, or_true, q_lm1, q_l0, q_l1, q_l2, q_l3, q_l4, q_l5, q_l6, q_l8, q_l9, q_l10, q_l12, q_l17, q_l32, q_l35, q_l48, q_l50, q_l54, q_l57, q_l64, q_l73, q_l118, q_l119, q_l120, q_l122, q_l126, q_l160, q_l256, q_l365, q_l372, q_l438, q_l1000, q_l100000, q_l1000000, q_modF hL.2.2.2.2.2.2.1, wi, wn, c0, hh, n10, p0, p1, tn, hwt, ww, k12, k13, k14, k15, ha, eF, hc0.trans (eq_true d2)]
      · rw [if_neg (fun q => d2 q.2)]
        conv => lhs; simp only [b_221_4, ↓reduceIte, Nat.reduceEqDiff, Nat.reduceMul, q_n10, q_n01, Option.bind_some, g_aft0, g_aft1, g_aft2, g_aft3, g_aft9, Nat.reduceAdd, m_kill_0, m_kill_2, m_kill_3, m_kill_4, m_kill_9, true_or, or_true, q_lm1, q_l0, q_l1, q_l2, q_l3, q_l4, q_l5, q_l6, q_l8, q_l9, q_l10, q_l12, q_l17, q_l32, q_l35, q_l48, q_l50, q_l54, q_l57, q_l64, q_l73, q_l118, q_l119, q_l120, q_l122, q_l126, q_l160, q_l256, q_l365, q_l372, q_l438, q_l1000, q_l100000, q_l1000000, q_modF hL.2.2.2.2.2.2.1, hmn]
        conv => lhs; simp only [b_221_9, b_221_12, b_221_18, b_221_21, b_221_45, b_221_60, b_221_61, ↓reduceIte, Nat.reduceEqDiff, Nat.reduceMul, q_n10, q_n01, Option.bind_some, g_aft0, g_aft1, g_aft2, g_aft3, g_aft9, Nat.reduceAdd, m_kill_0, m_kill_2, m_kill_3, m_kill_4, m_kill_9, true_or, or_true, q_lm1, q_l0, q_l1, q_l2, q_l3, q_l4, q_l5, q_l6, q_l8, q_l9, q_l10, q_l12, q_l17, q_l32, q_l35, q_l48, q_l50, q_l54, q_l57, q_l64, q_l73, q_l118, q_l119, q_l120, q_l122, q_l126, q_l160, q_l256, q_l365, q_l372, q_l438, q_l1000, q_l100000, q_l1000000, q_modF hL.2.2.2.2.2.2.1, wi, wn, c0, hh, n10, p0, p1, tn, hwt, ww, k12, k13, k14, k15, ha, eF, hc0.trans (eq_false d2), ho0]
    · rw [if_neg d] at hh
      rw [if_neg (fun q => d q.1)]
      conv => lhs; simp only [b_221_4, ↓reduceIte, Nat.reduceEqDiff, Nat.reduceMul, q_n10, q_n01, Option.bind_some, g_aft0, g_aft1, g_aft2, g_aft3, g_aft9, Nat.reduceAdd, m_kill_0, m_kill_2, m_kill_3, m_kill_4, m_kill_9, true_or, or_true, q_lm1, q_l0, q_l1, q_l2, q_l3, q_l4, q_l5, q_l6, q_l8, q_l9, q_l10, q_l12, q_l17, q_l32, q_l35, q_l48, q_l50, q_l54, q_l57, q_l64, q_l73, q_l118, q_l119, q_l120, q_l122, q_l126, q_l160, q_l256, q_l365, q_l372, q_l438, q_l1000, q_l100000, q_l1000000, q_modF hL.2.2.2.2.2.2.1, hmn]
      conv => lhs; simp only [b_221_9, b_221_12, b_221_18, b_221_60, b_221_61, ↓reduceIte, Nat.reduceEqDiff, Nat.reduceMul, q_n10, q_n01, Option.bind_some, g_aft0, g_aft1, g_aft2, g_aft3, g_aft9, Nat.reduceAdd, m_kill_0, m_kill_2, m_kill_3, m_kill_4, m_kill_9, true_or, or_true, q_lm1, q_l0, q_l1, q_l2, q_l3, q_l4, q_l5, q_l6, q_l8, q_l9, q_l10, q_l12, q_l17, q_l32, q_l35, q_l48, q_l50, q_l54, q_l57, q_l64, q_l73, q_l118, q_l119, q_l120, q_l122, q_l126, q_l160, q_l256, q_l365, q_l372, q_l438, q_l1000, q_l100000, q_l1000000, q_modF hL.2.2.2.2.2.2.1, wi, wn, c0, hh, ho0])
  rw [e_221, b_221_0]
  refine Eq.trans lp ?_
  conv => lhs; simp only [b_221_4, ↓reduceIte, Nat.reduceEqDiff, Nat.reduceMul, q_n10, q_n01, Option.bind_some, g_aft0, g_aft1, g_aft2, g_aft3, g_aft9, Nat.reduceAdd, m_kill_0, m_kill_2, m_kill_3, m_kill_4, m_kill_9, true_or, or_true, q_lm1, q_l0, q_l1, q_l2, q_l3, q_l4, q_l5, q_l6, q_l8, q_l9, q_l10, q_l12, q_l17, q_l32, q_l35, q_l48, q_l50, q_l54, q_l57, q_l64, q_l73, q_l118, q_l119, q_l120, q_l122, q_l126, q_l160, q_l256, q_l365, q_l372, q_l438, q_l1000, q_l100000, q_l1000000, q_modF hL.2.2.2.2.2.2.1, hmn]
  simp only [b_221_9, b_221_69, ↓reduceIte, Nat.reduceEqDiff, Nat.reduceMul, q_n10, q_n01, Option.bind_some, g_aft0, g_aft1, g_aft2, g_aft3, g_aft9, Nat.reduceAdd, m_kill_0, m_kill_2, m_kill_3, m_kill_4, m_kill_9, true_or, or_true, q_lm1, q_l0, q_l1, q_l2, q_l3, q_l4, q_l5, q_l6, q_l8, q_l9, q_l10, q_l12, q_l17, q_l32, q_l35, q_l48, q_l50, q_l54, q_l57, q_l64, q_l73, q_l118, q_l119, q_l120, q_l122, q_l126, q_l160, q_l256, q_l365, q_l372, q_l438, q_l1000, q_l100000, q_l1000000, wn, Int.le_refl]
end
end
