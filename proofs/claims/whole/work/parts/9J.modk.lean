section
/-! The model: corners. -/
def z_xf (L : List (Int × Int)) (i : Nat) : Rat := fr (L.getD i (0, 0)).1 (L.getD i (0, 0)).2
def z_gt (L : List (Int × Int)) (k : Int) (i : Nat) : Prop := k = -1 ∨ z_xf L k.toNat < z_xf L i
def z_nx (N : Nat → Nat → Int) (t : Int) (g : Nat) (L : List (Int × Int)) (k : Int) (m : Nat) (r : Int) : Prop := (r = -1 ∧ ∀ i, i < m → z_ic N t g (L.getD i (0, 0)) → ¬ z_gt L k i) ∨ ∃ j, j < m ∧ r = (j : Int) ∧ z_ic N t g (L.getD j (0, 0)) ∧ z_gt L k j ∧ ∀ i, i < m → z_ic N t g (L.getD i (0, 0)) → z_gt L k i → ¬ z_xf L i < z_xf L j
theorem z_nx_s {N : Nat → Nat → Int} {t : Int} {g m : Nat} {L : List (Int × Int)} {k r : Int} (h : z_nx N t g L k m r) (hn : z_ic N t g (L.getD m (0, 0)) → z_gt L k m → r ≠ -1 ∧ ¬ z_xf L m < z_xf L r.toNat) : z_nx N t g L k (m + 1) r := by
  rcases h with ⟨h1, h2⟩ | ⟨j, j1, j2, j3, j4, j5⟩
  · refine Or.inl ⟨h1, fun i hi hc hg => ?_⟩
    rcases Nat.lt_succ_iff_lt_or_eq.mp hi with q | q
    · exact h2 i q hc hg
    · subst q; exact (hn hc hg).1 h1
  · refine Or.inr ⟨j, by omega, j2, j3, j4, fun i hi hc hg => ?_⟩
    rcases Nat.lt_succ_iff_lt_or_eq.mp hi with q | q
    · exact j5 i q hc hg
    · subst q
      have := (hn hc hg).2
      rw [j2] at this
      exact this
theorem z_nx_n {N : Nat → Nat → Int} {t : Int} {g m : Nat} {L : List (Int × Int)} {k r : Int} (h : z_nx N t g L k m r) (hc : z_ic N t g (L.getD m (0, 0))) (hg : z_gt L k m) (hb : r = -1 ∨ z_xf L m < z_xf L r.toNat) : z_nx N t g L k (m + 1) (m : Int) := by
  refine Or.inr ⟨m, by omega, rfl, hc, hg, fun i hi hc' hg' => ?_⟩
  rcases Nat.lt_succ_iff_lt_or_eq.mp hi with q | q
  · rcases h with ⟨h1, h2⟩ | ⟨j, j1, j2, j3, j4, j5⟩
    · exact absurd hg' (h2 i q hc')
    · have := j5 i q hc' hg'
      rcases hb with hb | hb
      · omega
      · rw [j2] at hb
        exact fun q => this (r_tr q hb)
  · subst q
    exact Rat.lt_irrefl
section
variable {Z : mZ} {K : Nat → mK} {σ τ N M : Nat → Nat → Int} {e g i L n c k s a b : Nat} {t p q v x y z w u S : Int} {X : Nat → Int} {h : mH} {R : Nat → Nat → Nat → Int} {T : Nat → Int}
theorem z_isRight (hL : q_lay K) (h : z_n σ N) (hg : g < w_ne N) (hk : k < 160) (r1 : σ 198 k = p) (r2 : σ 199 k = q) (hp : w_pq N t g p q) : m_cl Z 210 [(2, ((191 : Nat) : Int)), (0, (g : Int)), (0, (k : Int)), (0, 1)] (K, σ, 206, e, s) = some (.inl (0, if N 10 g * q ≤ p then 0 else 1), (K, σ, 206, e, s)) ∧ m_cl Z 210 [(2, ((191 : Nat) : Int)), (0, (g : Int)), (0, (k : Int)), (0, 0)] (K, σ, 206, e, s) = some (.inl (0, if p ≤ 0 then 0 else 1), (K, σ, 206, e, s)) := by
  have ho := (z_of (Z := Z) (e := e) (s := s) hL h hg).2.2
  have h7 := wf_ed h.1 hg
  obtain ⟨b1, b2, b3, b4⟩ := z_pqb h.1 hg hp
  have m := q_mb (show 0 ≤ N 10 g by omega) h7.2.2.2.2.2.2 b3 b4
  have wl : w32 (N 10 g) = N 10 g := q_wi (by omega) (by omega)
  have wk : w32 (k : Int) = (k : Int) := q_w (by clear wl; omega)
  have p0 : 0 ≤ (k : Int) := by clear wl wk; omega
  have p1 : (k : Int) < ((160 : Nat) : Int) := by clear wl wk; omega
  have tn : ((k : Int)).toNat = k := rfl
  have wp : w64 p = p := by clear wl wk; exact q_w64 (by omega) (by omega)
  have em : q * N 10 g = N 10 g * q := Int.mul_comm _ _
  have wm : w64 (N 10 g * q) = N 10 g * q := by clear wl wk wp; exact q_w64 (by omega) (by omega)
  have w0 : w64 0 = 0 := by decide
  have hc1 : (0 ≤ w32 (l_cmp p (N 10 g * q))) = (N 10 g * q ≤ p) := l_cge wp wm
  have hc2 : (w32 (l_cmp p 0) ≤ 0) = (p ≤ 0) := l_cle wp w0
  have n10 : ¬ (1 : Int) = 0 := by decide
  constructor
  · by_cases c : N 10 g * q ≤ p
    · rw [if_pos c]
      simp only [e_210, b_210_0, b_210_20, b_210_30, b_210_36, b_210_40, b_210_44, b_210_51, b_210_55, b_210_56, ↓reduceIte, Nat.reduceEqDiff, Nat.reduceMul, q_n10, q_n01, Option.bind_some, g_aft0, g_aft1, g_aft2, g_aft3, g_aft9, Nat.reduceAdd, m_kill_0, m_kill_2, m_kill_3, m_kill_4, m_kill_9, true_or, or_true, q_lm1, q_l0, q_l1, q_l2, q_l3, q_l4, q_l5, q_l6, q_l8, q_l9, q_l10, q_l12, q_l17, q_l32, q_l35, q_l48, q_l50, q_l54, q_l57, q_l64, q_l73, q_l118, q_l119, q_l120, q_l122, q_l126, q_l160, q_l256, q_l365, q_l372, q_l438, q_l1000, q_l100000, q_l1000000, q_modF hL.2.2.2.2.2.2.1, wk, p0, p1, tn, r1, r2, n10, ho, wl, em, hc1.trans (eq_true c), or_true, true_or]
    · rw [if_neg c]
      simp only [e_210, b_210_0, b_210_20, b_210_30, b_210_36, b_210_40, b_210_44, b_210_51, b_210_55, b_210_56, ↓reduceIte, Nat.reduceEqDiff, Nat.reduceMul, q_n10, q_n01, Option.bind_some, g_aft0, g_aft1, g_aft2, g_aft3, g_aft9, Nat.reduceAdd, m_kill_0, m_kill_2, m_kill_3, m_kill_4, m_kill_9, true_or, or_true, q_lm1, q_l0, q_l1, q_l2, q_l3, q_l4, q_l5, q_l6, q_l8, q_l9, q_l10, q_l12, q_l17, q_l32, q_l35, q_l48, q_l50, q_l54, q_l57, q_l64, q_l73, q_l118, q_l119, q_l120, q_l122, q_l126, q_l160, q_l256, q_l365, q_l372, q_l438, q_l1000, q_l100000, q_l1000000, q_modF hL.2.2.2.2.2.2.1, wk, p0, p1, tn, r1, r2, n10, ho, wl, em, hc1.trans (eq_false c), or_true, true_or]
  · by_cases c : p ≤ 0
    · rw [if_pos c]
      simp only [e_210, b_210_0, b_210_20, b_210_30, b_210_36, b_210_40, b_210_44, b_210_51, b_210_55, b_210_56, ↓reduceIte, Nat.reduceEqDiff, Nat.reduceMul, q_n10, q_n01, Option.bind_some, g_aft0, g_aft1, g_aft2, g_aft3, g_aft9, Nat.reduceAdd, m_kill_0, m_kill_2, m_kill_3, m_kill_4, m_kill_9, true_or, or_true, q_lm1, q_l0, q_l1, q_l2, q_l3, q_l4, q_l5, q_l6, q_l8, q_l9, q_l10, q_l12, q_l17, q_l32, q_l35, q_l48, q_l50, q_l54, q_l57, q_l64, q_l73, q_l118, q_l119, q_l120, q_l122, q_l126, q_l160, q_l256, q_l365, q_l372, q_l438, q_l1000, q_l100000, q_l1000000, q_modF hL.2.2.2.2.2.2.1, wk, p0, p1, tn, r1, r2, hc2.trans (eq_true c), or_true, true_or]
    · rw [if_neg c]
      simp only [e_210, b_210_0, b_210_20, b_210_30, b_210_36, b_210_40, b_210_44, b_210_51, b_210_55, b_210_56, ↓reduceIte, Nat.reduceEqDiff, Nat.reduceMul, q_n10, q_n01, Option.bind_some, g_aft0, g_aft1, g_aft2, g_aft3, g_aft9, Nat.reduceAdd, m_kill_0, m_kill_2, m_kill_3, m_kill_4, m_kill_9, true_or, or_true, q_lm1, q_l0, q_l1, q_l2, q_l3, q_l4, q_l5, q_l6, q_l8, q_l9, q_l10, q_l12, q_l17, q_l32, q_l35, q_l48, q_l50, q_l54, q_l57, q_l64, q_l73, q_l118, q_l119, q_l120, q_l122, q_l126, q_l160, q_l256, q_l365, q_l372, q_l438, q_l1000, q_l100000, q_l1000000, q_modF hL.2.2.2.2.2.2.1, wk, p0, p1, tn, r1, r2, hc2.trans (eq_false c), or_true, true_or]
theorem z_isCorner (hL : q_lay K) (h : z_sur σ N t) (ht : 0 ≤ t) (ht2 : t ≤ 10) (hg : g < w_ne N) (hk : k < 160) (r1 : σ 198 k = p) (r2 : σ 199 k = q) (hp : w_pq N t g p q) : (z_ic N t g (p, q) → m_cl Z 212 [(2, ((191 : Nat) : Int)), (0, (g : Int)), (0, (k : Int))] (K, σ, 206, e, s) = some (.inl (0, 1), (K, σ, 206, e, s))) ∧ (¬ z_ic N t g (p, q) → m_cl Z 212 [(2, ((191 : Nat) : Int)), (0, (g : Int)), (0, (k : Int))] (K, σ, 206, e, s) = some (.inl (0, 0), (K, σ, 206, e, s))) := by
  have hw := h.1.1
  have hc := h.2.2.2
  have n0 := wf_n hw
  obtain ⟨i1, i2⟩ := z_isRight (Z := Z) (e := e) (s := s) hL h.1 hg hk r1 r2 hp
  have hp5 := hp.2.2.2.2
  obtain ⟨v2, u1, u2, u3⟩ := z_slope2 (Z := Z) (e := e) (s := s) hL h ht ht2 hg hp rfl
  obtain ⟨v1, t1, t2, t3⟩ := z_slope1 (Z := Z) (e := e) (s := s) hL h ht ht2 hg hp rfl
  have hT := w_H_top hw hc hg hp
  generalize w_H N t ((2 ^ w_nn N - 1 : Nat) : Int) g p q (w_nn N) = top at *
  have bv2 : -99 ≤ v2 ∧ v2 ≤ 99 := by
    obtain ⟨j, j1, -, j3⟩ := u2
    have := w_s12b hw ht ht2 (g := g) (p := p) (q := q) (i := j) (by omega)
    omega
  have bv1 : -99 ≤ v1 ∧ v1 ≤ 99 := by
    obtain ⟨j, j1, -, j3⟩ := t2
    have := w_s12b hw ht ht2 (g := g) (p := p) (q := q) (i := j) (by omega)
    omega
  have htk : w_tk N t g p q (w_nn N) (top, v1, v2) := Or.inr ⟨by omega, hT.1, hT.2, t2, t3, u2, u3⟩
  have wk : w32 (k : Int) = (k : Int) := q_w (by omega)
  have p0 : 0 ≤ (k : Int) := by clear wk; omega
  have p1 : (k : Int) < ((160 : Nat) : Int) := by clear wk; omega
  have tn : ((k : Int)).toNat = k := rfl
  have w2 : w64 v2 = v2 := by clear wk; exact q_w64 (by omega) (by omega)
  have w1 : w64 v1 = v1 := by clear wk w2; exact q_w64 (by omega) (by omega)
  have hc1 : (w32 (l_cmp v2 v1) = 0) = (v2 = v1) := l_ce w2 w1
  have n10 : ¬ (1 : Int) = 0 := by decide
  clear w1 w2
  by_cases c1 : N 10 g * q ≤ p
  · rw [if_pos c1] at i1
    refine ⟨fun _ => ?_, fun d => absurd (Or.inr (Or.inl (by show p = N 10 g * q; clear wk hc1; omega))) d⟩
    simp only [e_212, b_212_0, b_212_7, b_212_10, b_212_17, b_212_20, b_212_22, b_212_40, b_212_58, b_212_62, b_212_66, b_212_67, ↓reduceIte, Nat.reduceEqDiff, Nat.reduceMul, q_n10, q_n01, Option.bind_some, g_aft0, g_aft1, g_aft2, g_aft3, g_aft9, Nat.reduceAdd, m_kill_0, m_kill_2, m_kill_3, m_kill_4, m_kill_9, true_or, or_true, q_lm1, q_l0, q_l1, q_l2, q_l3, q_l4, q_l5, q_l6, q_l8, q_l9, q_l10, q_l12, q_l17, q_l32, q_l35, q_l48, q_l50, q_l54, q_l57, q_l64, q_l73, q_l118, q_l119, q_l120, q_l122, q_l126, q_l160, q_l256, q_l365, q_l372, q_l438, q_l1000, q_l100000, q_l1000000, q_modF hL.2.2.2.2.2.2.1, i1]
  · rw [if_neg c1] at i1
    by_cases c2 : p ≤ 0
    · rw [if_pos c2] at i2
      refine ⟨fun _ => ?_, fun d => absurd (Or.inl (by show p = 0; clear wk hc1; omega)) d⟩
      simp only [e_212, b_212_0, b_212_7, b_212_10, b_212_17, b_212_20, b_212_22, b_212_40, b_212_58, b_212_62, b_212_66, b_212_67, ↓reduceIte, Nat.reduceEqDiff, Nat.reduceMul, q_n10, q_n01, Option.bind_some, g_aft0, g_aft1, g_aft2, g_aft3, g_aft9, Nat.reduceAdd, m_kill_0, m_kill_2, m_kill_3, m_kill_4, m_kill_9, true_or, or_true, q_lm1, q_l0, q_l1, q_l2, q_l3, q_l4, q_l5, q_l6, q_l8, q_l9, q_l10, q_l12, q_l17, q_l32, q_l35, q_l48, q_l50, q_l54, q_l57, q_l64, q_l73, q_l118, q_l119, q_l120, q_l122, q_l126, q_l160, q_l256, q_l365, q_l372, q_l438, q_l1000, q_l100000, q_l1000000, q_modF hL.2.2.2.2.2.2.1, i1, i2, n10]
    · rw [if_neg c2] at i2
      by_cases c3 : v2 = v1
      · refine ⟨fun hi => ?_, fun _ => ?_⟩
        · exfalso
          rcases hi with hi | hi | ⟨x, hx, hne⟩
          · have hi : p = 0 := hi
            clear wk hc1; omega
          · have hi : p = N 10 g * q := hi
            clear wk hc1; omega
          · have hx : w_tk N t g p q (w_nn N) x := hx
            rw [w_tk_u (by clear wk hc1; omega) hx htk] at hne
            exact hne c3.symm
        · simp only [e_212, b_212_0, b_212_7, b_212_10, b_212_17, b_212_20, b_212_22, b_212_40, b_212_58, b_212_62, b_212_66, b_212_67, ↓reduceIte, Nat.reduceEqDiff, Nat.reduceMul, q_n10, q_n01, Option.bind_some, g_aft0, g_aft1, g_aft2, g_aft3, g_aft9, Nat.reduceAdd, m_kill_0, m_kill_2, m_kill_3, m_kill_4, m_kill_9, true_or, or_true, q_lm1, q_l0, q_l1, q_l2, q_l3, q_l4, q_l5, q_l6, q_l8, q_l9, q_l10, q_l12, q_l17, q_l32, q_l35, q_l48, q_l50, q_l54, q_l57, q_l64, q_l73, q_l118, q_l119, q_l120, q_l122, q_l126, q_l160, q_l256, q_l365, q_l372, q_l438, q_l1000, q_l100000, q_l1000000, q_modF hL.2.2.2.2.2.2.1, i1, i2, n10, wk, p0, p1, tn, r1, r2, u1, t1, hc1.trans (eq_true c3), true_or]
      · refine ⟨fun _ => ?_, fun hi => absurd (Or.inr (Or.inr ⟨(top, v1, v2), htk, fun q => c3 q.symm⟩)) hi⟩
        simp only [e_212, b_212_0, b_212_7, b_212_10, b_212_17, b_212_20, b_212_22, b_212_40, b_212_58, b_212_62, b_212_66, b_212_67, ↓reduceIte, Nat.reduceEqDiff, Nat.reduceMul, q_n10, q_n01, Option.bind_some, g_aft0, g_aft1, g_aft2, g_aft3, g_aft9, Nat.reduceAdd, m_kill_0, m_kill_2, m_kill_3, m_kill_4, m_kill_9, true_or, or_true, q_lm1, q_l0, q_l1, q_l2, q_l3, q_l4, q_l5, q_l6, q_l8, q_l9, q_l10, q_l12, q_l17, q_l32, q_l35, q_l48, q_l50, q_l54, q_l57, q_l64, q_l73, q_l118, q_l119, q_l120, q_l122, q_l126, q_l160, q_l256, q_l365, q_l372, q_l438, q_l1000, q_l100000, q_l1000000, q_modF hL.2.2.2.2.2.2.1, i1, i2, n10, wk, p0, p1, tn, r1, r2, u1, t1, hc1.trans (eq_false c3)]
theorem z_next213 {xs : List (Int × Int)} {kk : Int} (hL : q_lay K) (h : z_sur σ N t) (ht : 0 ≤ t) (ht2 : t ≤ 10) (hg : g < w_ne N) (hx : z_xl σ xs) (hok : ∀ y, y ∈ xs → w_pq N t g y.1 y.2) (hl : xs.length ≤ 134) (hk : kk = -1 ∨ ∃ m, m < xs.length ∧ kk = ((m : Nat) : Int)) : ∃ r, m_cl Z 213 [(2, ((191 : Nat) : Int)), (0, (g : Int)), (0, kk)] (K, σ, 206, e, s) = some (.inl (0, r), (K, σ, 206, e, s)) ∧ z_nx N t g xs kk xs.length r := by
  have hw := h.1.1
  have wl : w32 (σ 191 9) = (xs.length : Int) := by rw [hx.1, q_w (by omega)]
  have wm1 : w32 (-1) = -1 := by decide
  have n10 : ¬ (1 : Int) = 0 := by decide
  obtain ⟨y, y1, y2⟩ := q_loop (Z := Z) (N := xs.length) (α := Int × mV) (S := fun i x => (213, 5, [(2, ((191 : Nat) : Int)), (0, (g : Int)), (0, kk), (0, x.1), (0, (i : Int)), x.2], [], (K, σ, 206, e, s))) (P := fun i x => z_nx N t g xs kk i x.1) (by
    rintro i ⟨r, l5⟩ hi hr
    have hr : z_nx N t g xs kk i r := hr
    have wi : w32 (i : Int) = (i : Int) := q_w (by clear wl; omega)
    have c0 : ¬ (xs.length : Int) ≤ (i : Int) := by clear wl wi; omega
    have p0 : 0 ≤ (i : Int) := by clear wl wi; omega
    have p1 : (i : Int) < ((160 : Nat) : Int) := by clear wl wi; omega
    have tn : ((i : Int)).toNat = i := rfl
    obtain ⟨a1, a2⟩ := hx.2 i hi
    have hpi := hok _ (getD_mem (d := ((0, 0) : Int × Int)) hi)
    have hcor := z_isCorner (Z := Z) (e := e) (s := s) hL h ht ht2 hg (k := i) (by clear wl wi; omega) a1 a2 hpi
    have hpb := z_pqb hw hg hpi
    have ei : ((i + 1 : Nat) : Int) = (i : Int) + 1 := rfl
    have hqi : 0 < (xs.getD i (0, 0)).2 := by have := hpi.1; clear wl wi; omega
    -- is it behind the point?
    have head : ∃ (GT : Prop) (_ : Decidable GT), m_run Z (213, 14, [(2, ((191 : Nat) : Int)), (0, (g : Int)), (0, kk), (0, r), (0, (i : Int)), l5], [], (K, σ, 206, e, s)) = (if GT then m_run Z (213, 63, [(2, ((191 : Nat) : Int)), (0, (g : Int)), (0, kk), (0, r), (0, (i : Int)), (0, 1)], [], (K, σ, 206, e, s)) else m_run Z (213, 5, [(2, ((191 : Nat) : Int)), (0, (g : Int)), (0, kk), (0, r), (0, (i : Int) + 1), (0, 0)], [], (K, σ, 206, e, s))) ∧ (GT ↔ z_gt xs kk i) := by
      rcases hk with rfl | ⟨m, m1, rfl⟩
      · refine ⟨True, inferInstance, ?_, ⟨fun _ => Or.inl rfl, fun _ => trivial⟩⟩
        rw [if_pos trivial]
        simp only [b_213_14, b_213_51, ↓reduceIte, Nat.reduceEqDiff, Nat.reduceMul, q_n10, q_n01, Option.bind_some, g_aft0, g_aft1, g_aft2, g_aft3, g_aft9, Nat.reduceAdd, m_kill_0, m_kill_2, m_kill_3, m_kill_4, m_kill_9, true_or, or_true, q_lm1, q_l0, q_l1, q_l2, q_l3, q_l4, q_l5, q_l6, q_l8, q_l9, q_l10, q_l12, q_l17, q_l32, q_l35, q_l48, q_l50, q_l54, q_l57, q_l64, q_l73, q_l118, q_l119, q_l120, q_l122, q_l126, q_l160, q_l256, q_l365, q_l372, q_l438, q_l1000, q_l100000, q_l1000000, wm1, n10]
      · have wm : w32 (m : Int) = (m : Int) := q_w (by clear wl wi; omega)
        have m0 : 0 ≤ (m : Int) := by clear wl wi wm; omega
        have m160 : (m : Int) < ((160 : Nat) : Int) := by clear wl wi wm; omega
        have mn : ((m : Int)).toNat = m := rfl
        have cm : ¬ (m : Int) = -1 := by clear wl wi wm; omega
        obtain ⟨d1, d2⟩ := hx.2 m m1
        have hpm := hok _ (getD_mem (d := ((0, 0) : Int × Int)) m1)
        have hmb := z_pqb hw hg hpm
        have hqm : 0 < (xs.getD m (0, 0)).2 := by have := hpm.1; clear wl wi wm; omega
        have eg : z_gt xs (m : Int) i = ((xs.getD m (0, 0)).1 * (xs.getD i (0, 0)).2 < (xs.getD i (0, 0)).1 * (xs.getD m (0, 0)).2) := by
          have : z_gt xs (m : Int) i = (z_xf xs m < z_xf xs i) := by
            unfold z_gt
            exact propext ⟨fun q => q.resolve_left cm, fun q => Or.inr q⟩
          rw [this]
          unfold z_xf
          rw [fr_lt hqm hqi]
        refine ⟨(xs.getD m (0, 0)).1 * (xs.getD i (0, 0)).2 < (xs.getD i (0, 0)).1 * (xs.getD m (0, 0)).2, inferInstance, ?_, by rw [eg]⟩
        clear eg
        generalize xs.getD m (0, 0) = A at *
        generalize xs.getD i (0, 0) = B at *
        have n1 := q_mb hmb.1 hmb.2.1 hpb.2.2.1 hpb.2.2.2
        have n2 := q_mb hpb.1 hpb.2.1 hmb.2.2.1 hmb.2.2.2
        have w1 : w64 (A.1 * B.2) = A.1 * B.2 := by clear wl wi wm; exact q_w64 (by omega) (by omega)
        have w2 : w64 (B.1 * A.2) = B.1 * A.2 := by clear wl wi wm w1; exact q_w64 (by omega) (by omega)
        have hc1 : (w32 (l_cmp (B.1 * A.2) (A.1 * B.2)) ≤ 0) = (B.1 * A.2 ≤ A.1 * B.2) := l_cle w2 w1
        clear w1 w2
        by_cases c : A.1 * B.2 < B.1 * A.2
        · rw [if_pos c]
          have c' : ¬ B.1 * A.2 ≤ A.1 * B.2 := Int.not_le.mpr c
          simp only [b_213_14, b_213_19, b_213_51, ↓reduceIte, Nat.reduceEqDiff, Nat.reduceMul, q_n10, q_n01, Option.bind_some, g_aft0, g_aft1, g_aft2, g_aft3, g_aft9, Nat.reduceAdd, m_kill_0, m_kill_2, m_kill_3, m_kill_4, m_kill_9, true_or, or_true, q_lm1, q_l0, q_l1, q_l2, q_l3, q_l4, q_l5, q_l6, q_l8, q_l9, q_l10, q_l12, q_l17, q_l32, q_l35, q_l48, q_l50, q_l54, q_l57, q_l64, q_l73, q_l118, q_l119, q_l120, q_l122, q_l126, q_l160, q_l256, q_l365, q_l372, q_l438, q_l1000, q_l100000, q_l1000000, q_modF hL.2.2.2.2.2.2.1, wm1, wm, cm, wi, p0, p1, tn, m0, m160, mn, a1, a2, d1, d2, hc1.trans (eq_false c'), n10]
        · rw [if_neg c]
          have c' : B.1 * A.2 ≤ A.1 * B.2 := Int.not_lt.mp c
          simp only [b_213_14, b_213_19, b_213_55, b_213_56, b_213_104, b_213_105, b_213_127, b_213_128, ↓reduceIte, Nat.reduceEqDiff, Nat.reduceMul, q_n10, q_n01, Option.bind_some, g_aft0, g_aft1, g_aft2, g_aft3, g_aft9, Nat.reduceAdd, m_kill_0, m_kill_2, m_kill_3, m_kill_4, m_kill_9, true_or, or_true, q_lm1, q_l0, q_l1, q_l2, q_l3, q_l4, q_l5, q_l6, q_l8, q_l9, q_l10, q_l12, q_l17, q_l32, q_l35, q_l48, q_l50, q_l54, q_l57, q_l64, q_l73, q_l118, q_l119, q_l120, q_l122, q_l126, q_l160, q_l256, q_l365, q_l372, q_l438, q_l1000, q_l100000, q_l1000000, q_modF hL.2.2.2.2.2.2.1, wm1, wm, cm, wi, p0, p1, tn, m0, m160, mn, a1, a2, d1, d2, hc1.trans (eq_true c')]
    have two : ∃ (GT : Prop) (_ : Decidable GT), m_run Z (213, 63, [(2, ((191 : Nat) : Int)), (0, (g : Int)), (0, kk), (0, r), (0, (i : Int)), (0, 1)], [], (K, σ, 206, e, s)) = (if GT then m_run Z (213, 112, [(2, ((191 : Nat) : Int)), (0, (g : Int)), (0, kk), (0, r), (0, (i : Int)), (0, 1)], [], (K, σ, 206, e, s)) else m_run Z (213, 5, [(2, ((191 : Nat) : Int)), (0, (g : Int)), (0, kk), (0, r), (0, (i : Int) + 1), (0, 0)], [], (K, σ, 206, e, s))) ∧ (GT ↔ (r = -1 ∨ z_xf xs i < z_xf xs r.toNat)) := by
      have hrc : r = -1 ∨ ∃ m, m < xs.length ∧ r = ((m : Nat) : Int) := by
        rcases hr with ⟨q, -⟩ | ⟨j, j1, j2, -⟩
        · exact Or.inl q
        · exact Or.inr ⟨j, by clear wl wi; omega, j2⟩
      rcases hrc with rfl | ⟨m, m1, rfl⟩
      · refine ⟨True, inferInstance, ?_, ⟨fun _ => Or.inl rfl, fun _ => trivial⟩⟩
        rw [if_pos trivial]
        simp only [b_213_63, b_213_100, ↓reduceIte, Nat.reduceEqDiff, Nat.reduceMul, q_n10, q_n01, Option.bind_some, g_aft0, g_aft1, g_aft2, g_aft3, g_aft9, Nat.reduceAdd, m_kill_0, m_kill_2, m_kill_3, m_kill_4, m_kill_9, true_or, or_true, q_lm1, q_l0, q_l1, q_l2, q_l3, q_l4, q_l5, q_l6, q_l8, q_l9, q_l10, q_l12, q_l17, q_l32, q_l35, q_l48, q_l50, q_l54, q_l57, q_l64, q_l73, q_l118, q_l119, q_l120, q_l122, q_l126, q_l160, q_l256, q_l365, q_l372, q_l438, q_l1000, q_l100000, q_l1000000, wm1, n10]
      · have wm : w32 (m : Int) = (m : Int) := q_w (by clear wl wi; omega)
        have m0 : 0 ≤ (m : Int) := by clear wl wi wm; omega
        have m160 : (m : Int) < ((160 : Nat) : Int) := by clear wl wi wm; omega
        have mn : ((m : Int)).toNat = m := rfl
        have cm : ¬ (m : Int) = -1 := by clear wl wi wm; omega
        obtain ⟨d1, d2⟩ := hx.2 m m1
        have hpm := hok _ (getD_mem (d := ((0, 0) : Int × Int)) m1)
        have hmb := z_pqb hw hg hpm
        have hqm : 0 < (xs.getD m (0, 0)).2 := by have := hpm.1; clear wl wi wm; omega
        have eg : ((m : Int) = -1 ∨ z_xf xs i < z_xf xs ((m : Int)).toNat) = ((xs.getD i (0, 0)).1 * (xs.getD m (0, 0)).2 < (xs.getD m (0, 0)).1 * (xs.getD i (0, 0)).2) := by
          have : ((m : Int) = -1 ∨ z_xf xs i < z_xf xs ((m : Int)).toNat) = (z_xf xs i < z_xf xs m) := propext ⟨fun q => q.resolve_left cm, fun q => Or.inr q⟩
          rw [this]
          unfold z_xf
          rw [fr_lt hqi hqm]
        refine ⟨(xs.getD i (0, 0)).1 * (xs.getD m (0, 0)).2 < (xs.getD m (0, 0)).1 * (xs.getD i (0, 0)).2, inferInstance, ?_, by rw [eg]⟩
        clear eg
        generalize xs.getD m (0, 0) = A at *
        generalize xs.getD i (0, 0) = B at *
        have n1 := q_mb hmb.1 hmb.2.1 hpb.2.2.1 hpb.2.2.2
        have n2 := q_mb hpb.1 hpb.2.1 hmb.2.2.1 hmb.2.2.2
        have w1 : w64 (A.1 * B.2) = A.1 * B.2 := by clear wl wi wm; exact q_w64 (by omega) (by omega)
        have w2 : w64 (B.1 * A.2) = B.1 * A.2 := by clear wl wi wm w1; exact q_w64 (by omega) (by omega)
        have hc1 : (0 ≤ w32 (l_cmp (B.1 * A.2) (A.1 * B.2))) = (A.1 * B.2 ≤ B.1 * A.2) := l_cge w2 w1
        clear w1 w2
        by_cases c : B.1 * A.2 < A.1 * B.2
        · rw [if_pos c]
          have c' : ¬ A.1 * B.2 ≤ B.1 * A.2 := Int.not_le.mpr c
          simp only [b_213_63, b_213_68, b_213_100, ↓reduceIte, Nat.reduceEqDiff, Nat.reduceMul, q_n10, q_n01, Option.bind_some, g_aft0, g_aft1, g_aft2, g_aft3, g_aft9, Nat.reduceAdd, m_kill_0, m_kill_2, m_kill_3, m_kill_4, m_kill_9, true_or, or_true, q_lm1, q_l0, q_l1, q_l2, q_l3, q_l4, q_l5, q_l6, q_l8, q_l9, q_l10, q_l12, q_l17, q_l32, q_l35, q_l48, q_l50, q_l54, q_l57, q_l64, q_l73, q_l118, q_l119, q_l120, q_l122, q_l126, q_l160, q_l256, q_l365, q_l372, q_l438, q_l1000, q_l100000, q_l1000000, q_modF hL.2.2.2.2.2.2.1, wm1, wm, cm, wi, p0, p1, tn, m0, m160, mn, a1, a2, d1, d2, hc1.trans (eq_false c'), n10]
        · rw [if_neg c]
          have c' : A.1 * B.2 ≤ B.1 * A.2 := Int.not_lt.mp c
          simp only [b_213_63, b_213_68, b_213_104, b_213_105, b_213_127, b_213_128, ↓reduceIte, Nat.reduceEqDiff, Nat.reduceMul, q_n10, q_n01, Option.bind_some, g_aft0, g_aft1, g_aft2, g_aft3, g_aft9, Nat.reduceAdd, m_kill_0, m_kill_2, m_kill_3, m_kill_4, m_kill_9, true_or, or_true, q_lm1, q_l0, q_l1, q_l2, q_l3, q_l4, q_l5, q_l6, q_l8, q_l9, q_l10, q_l12, q_l17, q_l32, q_l35, q_l48, q_l50, q_l54, q_l57, q_l64, q_l73, q_l118, q_l119, q_l120, q_l122, q_l126, q_l160, q_l256, q_l365, q_l372, q_l438, q_l1000, q_l100000, q_l1000000, q_modF hL.2.2.2.2.2.2.1, wm1, wm, cm, wi, p0, p1, tn, m0, m160, mn, a1, a2, d1, d2, hc1.trans (eq_true c')]
    obtain ⟨G1, D1, head, E1⟩ := head
    obtain ⟨G2, D2, two, E2⟩ := two
    by_cases cg : z_gt xs kk i
    · rw [if_pos (E1.mpr cg)] at head
      by_cases cb : r = -1 ∨ z_xf xs i < z_xf xs r.toNat
      · rw [if_pos (E2.mpr cb)] at two
        by_cases cc : z_ic N t g (xs.getD i (0, 0))
        · have hcc := hcor.1 cc
          refine ⟨((i : Int), (0, 1)), ?_, z_nx_n hr cc cg cb⟩
          rw [ei]
          conv => lhs; simp only [b_213_5, ↓reduceIte, Nat.reduceEqDiff, Nat.reduceMul, q_n10, q_n01, Option.bind_some, g_aft0, g_aft1, g_aft2, g_aft3, g_aft9, Nat.reduceAdd, m_kill_0, m_kill_2, m_kill_3, m_kill_4, m_kill_9, true_or, or_true, q_lm1, q_l0, q_l1, q_l2, q_l3, q_l4, q_l5, q_l6, q_l8, q_l9, q_l10, q_l12, q_l17, q_l32, q_l35, q_l48, q_l50, q_l54, q_l57, q_l64, q_l73, q_l118, q_l119, q_l120, q_l122, q_l126, q_l160, q_l256, q_l365, q_l372, q_l438, q_l1000, q_l100000, q_l1000000, q_modF hL.2.2.2.2.2.2.1, wl, wi, c0]
          rw [head, two]
          simp only [b_213_112, b_213_119, b_213_122, ↓reduceIte, Nat.reduceEqDiff, Nat.reduceMul, q_n10, q_n01, Option.bind_some, g_aft0, g_aft1, g_aft2, g_aft3, g_aft9, Nat.reduceAdd, m_kill_0, m_kill_2, m_kill_3, m_kill_4, m_kill_9, true_or, or_true, q_lm1, q_l0, q_l1, q_l2, q_l3, q_l4, q_l5, q_l6, q_l8, q_l9, q_l10, q_l12, q_l17, q_l32, q_l35, q_l48, q_l50, q_l54, q_l57, q_l64, q_l73, q_l118, q_l119, q_l120, q_l122, q_l126, q_l160, q_l256, q_l365, q_l372, q_l438, q_l1000, q_l100000, q_l1000000, q_modF hL.2.2.2.2.2.2.1, hcc, n10]
        · have hcc := hcor.2 cc
          refine ⟨(r, (0, 1)), ?_, z_nx_s hr (fun q => absurd q cc)⟩
          rw [ei]
          conv => lhs; simp only [b_213_5, ↓reduceIte, Nat.reduceEqDiff, Nat.reduceMul, q_n10, q_n01, Option.bind_some, g_aft0, g_aft1, g_aft2, g_aft3, g_aft9, Nat.reduceAdd, m_kill_0, m_kill_2, m_kill_3, m_kill_4, m_kill_9, true_or, or_true, q_lm1, q_l0, q_l1, q_l2, q_l3, q_l4, q_l5, q_l6, q_l8, q_l9, q_l10, q_l12, q_l17, q_l32, q_l35, q_l48, q_l50, q_l54, q_l57, q_l64, q_l73, q_l118, q_l119, q_l120, q_l122, q_l126, q_l160, q_l256, q_l365, q_l372, q_l438, q_l1000, q_l100000, q_l1000000, q_modF hL.2.2.2.2.2.2.1, wl, wi, c0]
          rw [head, two]
          simp only [b_213_112, b_213_119, b_213_127, b_213_128, ↓reduceIte, Nat.reduceEqDiff, Nat.reduceMul, q_n10, q_n01, Option.bind_some, g_aft0, g_aft1, g_aft2, g_aft3, g_aft9, Nat.reduceAdd, m_kill_0, m_kill_2, m_kill_3, m_kill_4, m_kill_9, true_or, or_true, q_lm1, q_l0, q_l1, q_l2, q_l3, q_l4, q_l5, q_l6, q_l8, q_l9, q_l10, q_l12, q_l17, q_l32, q_l35, q_l48, q_l50, q_l54, q_l57, q_l64, q_l73, q_l118, q_l119, q_l120, q_l122, q_l126, q_l160, q_l256, q_l365, q_l372, q_l438, q_l1000, q_l100000, q_l1000000, q_modF hL.2.2.2.2.2.2.1, hcc]
      · rw [if_neg (fun q => cb (E2.mp q))] at two
        refine ⟨(r, (0, 0)), ?_, z_nx_s hr (fun _ _ => ⟨fun q => cb (Or.inl q), fun q => cb (Or.inr q)⟩)⟩
        rw [ei]
        conv => lhs; simp only [b_213_5, ↓reduceIte, Nat.reduceEqDiff, Nat.reduceMul, q_n10, q_n01, Option.bind_some, g_aft0, g_aft1, g_aft2, g_aft3, g_aft9, Nat.reduceAdd, m_kill_0, m_kill_2, m_kill_3, m_kill_4, m_kill_9, true_or, or_true, q_lm1, q_l0, q_l1, q_l2, q_l3, q_l4, q_l5, q_l6, q_l8, q_l9, q_l10, q_l12, q_l17, q_l32, q_l35, q_l48, q_l50, q_l54, q_l57, q_l64, q_l73, q_l118, q_l119, q_l120, q_l122, q_l126, q_l160, q_l256, q_l365, q_l372, q_l438, q_l1000, q_l100000, q_l1000000, q_modF hL.2.2.2.2.2.2.1, wl, wi, c0]
        rw [head, two]
    · rw [if_neg (fun q => cg (E1.mp q))] at head
      refine ⟨(r, (0, 0)), ?_, z_nx_s hr (fun _ q => absurd q cg)⟩
      rw [ei]
      conv => lhs; simp only [b_213_5, ↓reduceIte, Nat.reduceEqDiff, Nat.reduceMul, q_n10, q_n01, Option.bind_some, g_aft0, g_aft1, g_aft2, g_aft3, g_aft9, Nat.reduceAdd, m_kill_0, m_kill_2, m_kill_3, m_kill_4, m_kill_9, true_or, or_true, q_lm1, q_l0, q_l1, q_l2, q_l3, q_l4, q_l5, q_l6, q_l8, q_l9, q_l10, q_l12, q_l17, q_l32, q_l35, q_l48, q_l50, q_l54, q_l57, q_l64, q_l73, q_l118, q_l119, q_l120, q_l122, q_l126, q_l160, q_l256, q_l365, q_l372, q_l438, q_l1000, q_l100000, q_l1000000, q_modF hL.2.2.2.2.2.2.1, wl, wi, c0]
      rw [head]) xs.length 0 (-1, (9, 0)) (by clear wl; omega) (Or.inl ⟨rfl, fun i hi => absurd hi (by omega)⟩)
  have wn : w32 (xs.length : Int) = (xs.length : Int) := q_w (by clear wl; omega)
  refine ⟨y.1, ?_, y2⟩
  simp only [e_213, b_213_0, ↓reduceIte, Nat.reduceEqDiff, Nat.reduceMul, q_n10, q_n01, Option.bind_some, g_aft0, g_aft1, g_aft2, g_aft3, g_aft9, Nat.reduceAdd, m_kill_0, m_kill_2, m_kill_3, m_kill_4, m_kill_9, true_or, or_true, q_lm1, q_l0, q_l1, q_l2, q_l3, q_l4, q_l5, q_l6, q_l8, q_l9, q_l10, q_l12, q_l17, q_l32, q_l35, q_l48, q_l50, q_l54, q_l57, q_l64, q_l73, q_l118, q_l119, q_l120, q_l122, q_l126, q_l160, q_l256, q_l365, q_l372, q_l438, q_l1000, q_l100000, q_l1000000]
  refine Eq.trans y1 ?_
  conv => lhs; simp only [b_213_5, ↓reduceIte, Nat.reduceEqDiff, Nat.reduceMul, q_n10, q_n01, Option.bind_some, g_aft0, g_aft1, g_aft2, g_aft3, g_aft9, Nat.reduceAdd, m_kill_0, m_kill_2, m_kill_3, m_kill_4, m_kill_9, true_or, or_true, q_lm1, q_l0, q_l1, q_l2, q_l3, q_l4, q_l5, q_l6, q_l8, q_l9, q_l10, q_l12, q_l17, q_l32, q_l35, q_l48, q_l50, q_l54, q_l57, q_l64, q_l73, q_l118, q_l119, q_l120, q_l122, q_l126, q_l160, q_l256, q_l365, q_l372, q_l438, q_l1000, q_l100000, q_l1000000, q_modF hL.2.2.2.2.2.2.1, wl, wn, Int.le_refl]
  rw [b_213_135]
end
end
