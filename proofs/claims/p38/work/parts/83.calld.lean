section
/-! The class's calls: checksum. -/
def y_hk (f : Nat → Int) (k : Nat) (h : Int) : Int := q_it (fun i h => 31 * h + w32 (f i)) k h
theorem y_hk_s {f : Nat → Int} {k : Nat} {h : Int} : y_hk f (k + 1) h = 31 * y_hk f k h + w32 (f k) := rfl
theorem y_hk_0 {f : Nat → Int} {h : Int} : y_hk f 0 h = h := rfl
theorem y_hk_congr {f f' : Nat → Int} {h : Int} : ∀ (k : Nat), (∀ j, j < k → f j = f' j) → y_hk f k h = y_hk f' k h
  | 0, _ => rfl
  | k + 1, hf => by rw [y_hk_s, y_hk_s, y_hk_congr k (fun j hj => hf j (by omega)), hf k (by omega)]
def y_f4 (N : Nat → Nat → Int) (ν : Int) (i : Nat) : Int := if i = 0 then N 0 0 else if i = 1 then N 0 1 else if i = 2 then N 0 2 else ν
def y_f3 (a b d : Nat → Int) (i : Nat) : Int := if i % 3 = 0 then a (i / 3) else if i % 3 = 1 then b (i / 3) else d (i / 3)
/-- the network's part -/
def y_m1 (N : Nat → Nat → Int) (ν h : Int) : Int := y_hk (y_f3 (N 12) (N 14) (N 16)) (3 * w_ns N) (y_hk (y_f3 (N 6) (N 8) (N 10)) (3 * w_ne N) (y_hk (y_f3 (N 2) (N 4) (fun i => w_deg N (i : Int))) (3 * w_nn N) (y_hk (y_f4 N ν) 4 h)))
section
variable {Z : mZ} {K : Nat → mK} {σ τ N M : Nat → Nat → Int} {R : Nat → Nat → Nat → Int} {e s g i L n c k a : Nat} {t p q v b x y z w u S ν h0 : Int} {X : Nat → Int}
theorem a_mix {h : mH} : m_cl Z 145 [(1, x), (0, v)] h = some (.inl (1, 31 * x + w32 v), h) := by rw [e_145, b_145_0]
theorem a_nfact (hL : q_lay K) (h : w_in0 σ N) (hν : σ 138 3 = ν) (hν1 : ν = 0 ∨ ν = 1) (hi : i < 4) : m_cl Z 141 [(2, ((0 : Nat) : Int)), (0, (i : Int))] (K, σ, 191, e, s) = some (.inl (0, y_f4 N ν i), (K, σ, 191, e, s)) := by
  have z0 : σ 1 0 = N 0 0 := nAt_0 h.2.2 (by omega)
  have z1 : σ 1 1 = N 0 1 := nAt_0 h.2.2 (by omega)
  have z2 : σ 1 2 = N 0 2 := nAt_0 h.2.2 (by omega)
  have i0 : ((0 : Nat) : Int) = 0 := rfl
  have i1 : ((1 : Nat) : Int) = 1 := rfl
  have i2 : ((2 : Nat) : Int) = 2 := rfl
  have i3 : ((3 : Nat) : Int) = 3 := rfl
  rcases (show i = 0 ∨ i = 1 ∨ i = 2 ∨ i = 3 by omega) with rfl | rfl | rfl | rfl
  · show m_cl Z 141 [(2, ((0 : Nat) : Int)), (0, 0)] (K, σ, 191, e, s) = _
    simp only [e_141, b_141_0, b_141_28, b_141_36, b_141_44, b_141_52, b_141_62, b_141_66, b_141_67, ↓reduceIte, Nat.reduceEqDiff, Nat.reduceMul, q_n10, q_n01, Option.bind_some, g_aft0, g_aft1, g_aft2, g_aft3, g_aft9, Nat.reduceAdd, m_kill_0, m_kill_2, m_kill_3, m_kill_4, m_kill_9, true_or, or_true, q_lm1, q_l0, q_l1, q_l2, q_l3, q_l4, q_l5, q_l6, q_l8, q_l9, q_l10, q_l12, q_l32, q_l50, q_l120, q_l122, q_l126, q_l372, q_l1000, q_l1000000, q_clsF hL.1, q_n1F hL, q_obF hL, z0]
    rfl
  · show m_cl Z 141 [(2, ((0 : Nat) : Int)), (0, 1)] (K, σ, 191, e, s) = _
    simp only [e_141, b_141_0, b_141_28, b_141_36, b_141_44, b_141_52, b_141_62, b_141_66, b_141_67, ↓reduceIte, Nat.reduceEqDiff, Nat.reduceMul, q_n10, q_n01, Option.bind_some, g_aft0, g_aft1, g_aft2, g_aft3, g_aft9, Nat.reduceAdd, m_kill_0, m_kill_2, m_kill_3, m_kill_4, m_kill_9, true_or, or_true, q_lm1, q_l0, q_l1, q_l2, q_l3, q_l4, q_l5, q_l6, q_l8, q_l9, q_l10, q_l12, q_l32, q_l50, q_l120, q_l122, q_l126, q_l372, q_l1000, q_l1000000, q_clsF hL.1, q_n1F hL, q_obF hL, z1]
    rfl
  · show m_cl Z 141 [(2, ((0 : Nat) : Int)), (0, 2)] (K, σ, 191, e, s) = _
    have q1 : ¬ (2 : Int) = 0 := by decide
    have q2 : ¬ (2 : Int) = 1 := by decide
    simp only [e_141, b_141_0, b_141_28, b_141_36, b_141_44, b_141_52, b_141_62, b_141_66, b_141_67, ↓reduceIte, Nat.reduceEqDiff, Nat.reduceMul, q_n10, q_n01, Option.bind_some, g_aft0, g_aft1, g_aft2, g_aft3, g_aft9, Nat.reduceAdd, m_kill_0, m_kill_2, m_kill_3, m_kill_4, m_kill_9, true_or, or_true, q_lm1, q_l0, q_l1, q_l2, q_l3, q_l4, q_l5, q_l6, q_l8, q_l9, q_l10, q_l12, q_l32, q_l50, q_l120, q_l122, q_l126, q_l372, q_l1000, q_l1000000, q_clsF hL.1, q_n1F hL, q_obF hL, z2, q1, q2]
    rfl
  · show m_cl Z 141 [(2, ((0 : Nat) : Int)), (0, 3)] (K, σ, 191, e, s) = _
    have q1 : ¬ (3 : Int) = 0 := by decide
    have q2 : ¬ (3 : Int) = 1 := by decide
    have q3 : ¬ (3 : Int) = 2 := by decide
    rcases hν1 with rfl | rfl
    · simp only [e_141, b_141_0, b_141_28, b_141_36, b_141_44, b_141_52, b_141_62, b_141_66, b_141_67, ↓reduceIte, Nat.reduceEqDiff, Nat.reduceMul, q_n10, q_n01, Option.bind_some, g_aft0, g_aft1, g_aft2, g_aft3, g_aft9, Nat.reduceAdd, m_kill_0, m_kill_2, m_kill_3, m_kill_4, m_kill_9, true_or, or_true, q_lm1, q_l0, q_l1, q_l2, q_l3, q_l4, q_l5, q_l6, q_l8, q_l9, q_l10, q_l12, q_l32, q_l50, q_l120, q_l122, q_l126, q_l372, q_l1000, q_l1000000, q_clsF hL.1, q_n1F hL, q_obF hL, hν, q1, q2, q3]
      rfl
    · simp only [e_141, b_141_0, b_141_28, b_141_36, b_141_44, b_141_52, b_141_62, b_141_66, b_141_67, ↓reduceIte, Nat.reduceEqDiff, Nat.reduceMul, q_n10, q_n01, Option.bind_some, g_aft0, g_aft1, g_aft2, g_aft3, g_aft9, Nat.reduceAdd, m_kill_0, m_kill_2, m_kill_3, m_kill_4, m_kill_9, true_or, or_true, q_lm1, q_l0, q_l1, q_l2, q_l3, q_l4, q_l5, q_l6, q_l8, q_l9, q_l10, q_l12, q_l32, q_l50, q_l120, q_l122, q_l126, q_l372, q_l1000, q_l1000000, q_clsF hL.1, q_n1F hL, q_obF hL, hν, q1, q2, q3]
      rfl
theorem q_d3 (h : i < 100) : (w32 (i : Int)).tdiv 3 = ((i / 3 : Nat) : Int) ∧ (w32 (i : Int)).tmod 3 = ((i % 3 : Nat) : Int) ∧ w32 ((i % 3 : Nat) : Int) = ((i % 3 : Nat) : Int) ∧ w32 ((i / 3 : Nat) : Int) = ((i / 3 : Nat) : Int) := by
  have w1 : w32 (i : Int) = (i : Int) := q_w (by omega)
  have w4 : w32 ((i % 3 : Nat) : Int) = ((i % 3 : Nat) : Int) := q_w (by clear w1; omega)
  have w5 : w32 ((i / 3 : Nat) : Int) = ((i / 3 : Nat) : Int) := q_w (by clear w1 w4; omega)
  rw [w1]
  exact ⟨rfl, rfl, w4, w5⟩
theorem q_m3 : (((i % 3 : Nat) : Int) = 0) = (i % 3 = 0) ∧ (((i % 3 : Nat) : Int) = 1) = (i % 3 = 1) := ⟨propext (by omega), propext (by omega)⟩
theorem a_mixN (hL : q_lay K) (h : w_in0 σ N) (hν : σ 138 3 = ν) (hν1 : ν = 0 ∨ ν = 1) : m_cl Z 146 [(2, ((0 : Nat) : Int)), (1, h0)] (K, σ, 191, e, s) = some (.inl (1, y_m1 N ν h0), (K, σ, 191, e, s)) := by
  have hn := wf_n h.1
  have he := wf_e h.1
  have hs := wf_s h.1
  obtain ⟨n1, n2, n3, n4, n5⟩ := w_in0_n h
  have e4 : w32 4 = 4 := by decide
  have e3 : ¬ (3 : Int) = 0 := by decide
  have z0 : σ 1 0 = (w_nn N : Int) := by rw [nAt_0 h.2.2 (by omega)]; exact hn.1
  have z1 : σ 1 1 = (w_ne N : Int) := by rw [nAt_0 h.2.2 (by omega)]; exact he.1
  have z2 : σ 1 2 = (w_ns N : Int) := by rw [nAt_0 h.2.2 (by omega)]; exact hs.1
  have l1 := q_loopf (Z := Z) (N := 4) (S := fun i => (146, 5, [(2, ((0 : Nat) : Int)), (1, h0), (9, 0), (1, y_hk (y_f4 N ν) i h0), (9, 0), (0, (i : Int))], [], (K, σ, 191, e, s))) (by
    intro i hi
    have hf := a_nfact (Z := Z) (e := e) (s := s) hL h hν hν1 hi
    have wi : w32 (i : Int) = (i : Int) := q_w (by clear n1 n2 n3 n4 n5 e4 e3; omega)
    have c0 : ¬ (4 : Int) ≤ (i : Int) := by clear n1 n2 n3 n4 n5 e4 e3 wi; omega
    conv => lhs; simp only [b_146_5, ↓reduceIte, Nat.reduceEqDiff, Nat.reduceMul, q_n10, q_n01, Option.bind_some, g_aft0, g_aft1, g_aft2, g_aft3, g_aft9, Nat.reduceAdd, m_kill_0, m_kill_2, m_kill_3, m_kill_4, m_kill_9, true_or, or_true, q_lm1, q_l0, q_l1, q_l2, q_l3, q_l4, q_l5, q_l6, q_l8, q_l9, q_l10, q_l12, q_l32, q_l50, q_l120, q_l122, q_l126, q_l372, q_l1000, q_l1000000, wi, e4, c0]
    simp only [b_146_11, b_146_18, b_146_21, ↓reduceIte, Nat.reduceEqDiff, Nat.reduceMul, q_n10, q_n01, Option.bind_some, g_aft0, g_aft1, g_aft2, g_aft3, g_aft9, Nat.reduceAdd, m_kill_0, m_kill_2, m_kill_3, m_kill_4, m_kill_9, true_or, or_true, q_lm1, q_l0, q_l1, q_l2, q_l3, q_l4, q_l5, q_l6, q_l8, q_l9, q_l10, q_l12, q_l32, q_l50, q_l120, q_l122, q_l126, q_l372, q_l1000, q_l1000000, q_clsF hL.1, hf, a_mix]
    rfl)
  have hrow : ∀ (r j L : Nat), j < q_len r → L = q_len r → q_get σ (1 + r) L (j : Int) = N r j := by
    intro r j L hj hl
    have hl12 : q_len r ≤ 12 := by rw [q_len2]; repeat' split
                                   all_goals omega
    rw [q_get_nat (by omega) (by omega)]
    exact h.2.2 r j hj
  have l2 := q_loopf (Z := Z) (N := 3 * w_nn N) (S := fun i => (146, 31, [(2, ((0 : Nat) : Int)), (1, h0), (9, 0), (1, y_hk (y_f3 (N 2) (N 4) (fun i => w_deg N (i : Int))) i (y_hk (y_f4 N ν) 4 h0)), (9, 0), (0, (i : Int))], [], (K, σ, 191, e, s))) (by
    intro i hi
    have hi24 : i < 24 := by clear n1 n2 n3 n4 n5 e4 e3; omega
    obtain ⟨d1, d2, d3, d4⟩ := q_d3 (i := i) (by clear n1 n2 n3 n4 n5 e4 e3; omega)
    have hi8 : i / 3 < 8 := by clear n1 n2 n3 n4 n5 e4 e3 d1 d2 d3 d4; omega
    have wi : w32 (i : Int) = (i : Int) := q_w (by clear n1 n2 n3 n4 n5 e4 e3 d1 d2 d3 d4; omega)
    have wn : w32 ((w_nn N : Int) * 3) = (w_nn N : Int) * 3 := q_wi (by clear n1 n2 n3 n4 n5 e4 e3 d1 d2 d3 d4 wi; omega) (by clear n1 n2 n3 n4 n5 e4 e3 d1 d2 d3 d4 wi; omega)
    have c0 : ¬ (w_nn N : Int) * 3 ≤ (i : Int) := by clear n1 n2 n3 n4 n5 e4 e3 d1 d2 d3 d4 wi wn; omega
    have hf := n_nodeFact (Z := Z) (n := 191) (e := e) (s := s) (σ := σ) (x := ((i / 3 : Nat) : Int)) (w := ((i % 3 : Nat) : Int)) (E := w_ne N) (q_ntN hL).1 n2 he.2
    have g3 : q_cnt (q_et σ 1 ((i / 3 : Nat) : Int)) (w_ne N) = w_deg N ((i / 3 : Nat) : Int) := by
      refine q_cnt_congr _ (fun j hj => ?_)
      have b6 := w_sml h.1 (r := 6) (j := j) (by rw [q_len2]; simp; clear n1 n2 n3 n4 n5 e4 e3 d1 d2 d3 d4 wi wn hf; omega)
      have b8 := w_sml h.1 (r := 8) (j := j) (by rw [q_len2]; simp; clear n1 n2 n3 n4 n5 e4 e3 d1 d2 d3 d4 wi wn hf; omega)
      unfold q_et
      rw [h.2.2 6 j (by rw [q_len2]; simp; clear n1 n2 n3 n4 n5 e4 e3 d1 d2 d3 d4 wi wn hf; omega), h.2.2 8 j (by rw [q_len2]; simp; clear n1 n2 n3 n4 n5 e4 e3 d1 d2 d3 d4 wi wn hf; omega), d4, q_wi (by clear n1 n2 n3 n4 n5 e4 e3 d1 d2 d3 d4 wi wn hf; omega) (by clear n1 n2 n3 n4 n5 e4 e3 d1 d2 d3 d4 wi wn hf; omega), q_wi (by clear n1 n2 n3 n4 n5 e4 e3 d1 d2 d3 d4 wi wn hf; omega) (by clear n1 n2 n3 n4 n5 e4 e3 d1 d2 d3 d4 wi wn hf; omega)]
    rw [hrow 2 (i / 3) 8 (by rw [q_len2]; simpa using hi8) rfl, hrow 4 (i / 3) 8 (by rw [q_len2]; simpa using hi8) rfl, g3, d3] at hf
    simp only [q_m3] at hf
    conv => lhs; simp only [b_146_31, ↓reduceIte, Nat.reduceEqDiff, Nat.reduceMul, q_n10, q_n01, Option.bind_some, g_aft0, g_aft1, g_aft2, g_aft3, g_aft9, Nat.reduceAdd, m_kill_0, m_kill_2, m_kill_3, m_kill_4, m_kill_9, true_or, or_true, q_lm1, q_l0, q_l1, q_l2, q_l3, q_l4, q_l5, q_l6, q_l8, q_l9, q_l10, q_l12, q_l32, q_l50, q_l120, q_l122, q_l126, q_l372, q_l1000, q_l1000000, q_clsF hL.1, q_n1F hL, q_obF hL, z0, wi, wn, c0]
    simp only [b_146_45, b_146_61, b_146_64, ↓reduceIte, Nat.reduceEqDiff, Nat.reduceMul, q_n10, q_n01, Option.bind_some, g_aft0, g_aft1, g_aft2, g_aft3, g_aft9, Nat.reduceAdd, m_kill_0, m_kill_2, m_kill_3, m_kill_4, m_kill_9, true_or, or_true, q_lm1, q_l0, q_l1, q_l2, q_l3, q_l4, q_l5, q_l6, q_l8, q_l9, q_l10, q_l12, q_l32, q_l50, q_l120, q_l122, q_l126, q_l372, q_l1000, q_l1000000, q_clsF hL.1, q_n1F hL, q_obF hL, e3, not_false_eq_true, d1, d2, hf, a_mix]
    rfl)
  have l3 := q_loopf (Z := Z) (N := 3 * w_ne N) (S := fun i => (146, 74, [(2, ((0 : Nat) : Int)), (1, h0), (9, 0), (1, y_hk (y_f3 (N 6) (N 8) (N 10)) i (y_hk (y_f3 (N 2) (N 4) (fun i => w_deg N (i : Int))) (3 * w_nn N) (y_hk (y_f4 N ν) 4 h0))), (9, 0), (0, (i : Int))], [], (K, σ, 191, e, s))) (by
    intro i hi
    obtain ⟨d1, d2, d3, d4⟩ := q_d3 (i := i) (by clear n1 n2 n3 n4 n5 e4 e3; omega)
    have hi8 : i / 3 < 12 := by clear n1 n2 n3 n4 n5 e4 e3 d1 d2 d3 d4; omega
    have wi : w32 (i : Int) = (i : Int) := q_w (by clear n1 n2 n3 n4 n5 e4 e3 d1 d2 d3 d4; omega)
    have wn : w32 ((w_ne N : Int) * 3) = (w_ne N : Int) * 3 := q_wi (by clear n1 n2 n3 n4 n5 e4 e3 d1 d2 d3 d4 wi; omega) (by clear n1 n2 n3 n4 n5 e4 e3 d1 d2 d3 d4 wi; omega)
    have c0 : ¬ (w_ne N : Int) * 3 ≤ (i : Int) := by clear n1 n2 n3 n4 n5 e4 e3 d1 d2 d3 d4 wi wn; omega
    have hf := n_edgeFact (Z := Z) (n := 191) (e := e) (s := s) (σ := σ) (x := ((i / 3 : Nat) : Int)) (w := ((i % 3 : Nat) : Int)) (q_ntN hL).1
    rw [hrow 6 (i / 3) 12 (by rw [q_len2]; simpa using hi8) rfl, hrow 8 (i / 3) 12 (by rw [q_len2]; simpa using hi8) rfl, hrow 10 (i / 3) 12 (by rw [q_len2]; simpa using hi8) rfl, d3] at hf
    simp only [q_m3] at hf
    conv => lhs; simp only [b_146_74, ↓reduceIte, Nat.reduceEqDiff, Nat.reduceMul, q_n10, q_n01, Option.bind_some, g_aft0, g_aft1, g_aft2, g_aft3, g_aft9, Nat.reduceAdd, m_kill_0, m_kill_2, m_kill_3, m_kill_4, m_kill_9, true_or, or_true, q_lm1, q_l0, q_l1, q_l2, q_l3, q_l4, q_l5, q_l6, q_l8, q_l9, q_l10, q_l12, q_l32, q_l50, q_l120, q_l122, q_l126, q_l372, q_l1000, q_l1000000, q_clsF hL.1, q_n1F hL, q_obF hL, z1, wi, wn, c0]
    simp only [b_146_88, b_146_104, b_146_107, ↓reduceIte, Nat.reduceEqDiff, Nat.reduceMul, q_n10, q_n01, Option.bind_some, g_aft0, g_aft1, g_aft2, g_aft3, g_aft9, Nat.reduceAdd, m_kill_0, m_kill_2, m_kill_3, m_kill_4, m_kill_9, true_or, or_true, q_lm1, q_l0, q_l1, q_l2, q_l3, q_l4, q_l5, q_l6, q_l8, q_l9, q_l10, q_l12, q_l32, q_l50, q_l120, q_l122, q_l126, q_l372, q_l1000, q_l1000000, q_clsF hL.1, q_n1F hL, q_obF hL, e3, not_false_eq_true, d1, d2, hf, a_mix]
    rfl)
  have l4 := q_loopf (Z := Z) (N := 3 * w_ns N) (S := fun i => (146, 117, [(2, ((0 : Nat) : Int)), (1, h0), (9, 0), (1, y_hk (y_f3 (N 12) (N 14) (N 16)) i (y_hk (y_f3 (N 6) (N 8) (N 10)) (3 * w_ne N) (y_hk (y_f3 (N 2) (N 4) (fun i => w_deg N (i : Int))) (3 * w_nn N) (y_hk (y_f4 N ν) 4 h0)))), (9, 0), (0, (i : Int))], [], (K, σ, 191, e, s))) (by
    intro i hi
    obtain ⟨d1, d2, d3, d4⟩ := q_d3 (i := i) (by clear n1 n2 n3 n4 n5 e4 e3; omega)
    have hi8 : i / 3 < 6 := by clear n1 n2 n3 n4 n5 e4 e3 d1 d2 d3 d4; omega
    have wi : w32 (i : Int) = (i : Int) := q_w (by clear n1 n2 n3 n4 n5 e4 e3 d1 d2 d3 d4; omega)
    have wn : w32 ((w_ns N : Int) * 3) = (w_ns N : Int) * 3 := q_wi (by clear n1 n2 n3 n4 n5 e4 e3 d1 d2 d3 d4 wi; omega) (by clear n1 n2 n3 n4 n5 e4 e3 d1 d2 d3 d4 wi; omega)
    have c0 : ¬ (w_ns N : Int) * 3 ≤ (i : Int) := by clear n1 n2 n3 n4 n5 e4 e3 d1 d2 d3 d4 wi wn; omega
    have hf := n_stretchFact (Z := Z) (n := 191) (e := e) (s := s) (σ := σ) (x := ((i / 3 : Nat) : Int)) (w := ((i % 3 : Nat) : Int)) (q_ntN hL).1
    rw [hrow 12 (i / 3) 6 (by rw [q_len2]; simpa using hi8) rfl, hrow 14 (i / 3) 6 (by rw [q_len2]; simpa using hi8) rfl, hrow 16 (i / 3) 6 (by rw [q_len2]; simpa using hi8) rfl, d3] at hf
    simp only [q_m3] at hf
    conv => lhs; simp only [b_146_117, ↓reduceIte, Nat.reduceEqDiff, Nat.reduceMul, q_n10, q_n01, Option.bind_some, g_aft0, g_aft1, g_aft2, g_aft3, g_aft9, Nat.reduceAdd, m_kill_0, m_kill_2, m_kill_3, m_kill_4, m_kill_9, true_or, or_true, q_lm1, q_l0, q_l1, q_l2, q_l3, q_l4, q_l5, q_l6, q_l8, q_l9, q_l10, q_l12, q_l32, q_l50, q_l120, q_l122, q_l126, q_l372, q_l1000, q_l1000000, q_clsF hL.1, q_n1F hL, q_obF hL, z2, wi, wn, c0]
    simp only [b_146_131, b_146_147, b_146_150, ↓reduceIte, Nat.reduceEqDiff, Nat.reduceMul, q_n10, q_n01, Option.bind_some, g_aft0, g_aft1, g_aft2, g_aft3, g_aft9, Nat.reduceAdd, m_kill_0, m_kill_2, m_kill_3, m_kill_4, m_kill_9, true_or, or_true, q_lm1, q_l0, q_l1, q_l2, q_l3, q_l4, q_l5, q_l6, q_l8, q_l9, q_l10, q_l12, q_l32, q_l50, q_l120, q_l122, q_l126, q_l372, q_l1000, q_l1000000, q_clsF hL.1, q_n1F hL, q_obF hL, e3, not_false_eq_true, d1, d2, hf, a_mix]
    rfl)
  have e44 : ((3 * w_nn N : Nat) : Int) = (w_nn N : Int) * 3 := by clear n1 n2 n3 n4 n5 e4 e3; omega
  have e45 : ((3 * w_ne N : Nat) : Int) = (w_ne N : Int) * 3 := by clear n1 n2 n3 n4 n5 e4 e3; omega
  have e46 : ((3 * w_ns N : Nat) : Int) = (w_ns N : Int) * 3 := by clear n1 n2 n3 n4 n5 e4 e3; omega
  simp only [e44, e45, e46] at l2 l3 l4
  rw [e_146, b_146_0, m_kill_9]
  refine Eq.trans l1 ?_
  have i4 : w32 ((4 : Nat) : Int) = 4 := e4
  conv => lhs; simp only [b_146_5, ↓reduceIte, Nat.reduceEqDiff, Nat.reduceMul, q_n10, q_n01, Option.bind_some, g_aft0, g_aft1, g_aft2, g_aft3, g_aft9, Nat.reduceAdd, m_kill_0, m_kill_2, m_kill_3, m_kill_4, m_kill_9, true_or, or_true, q_lm1, q_l0, q_l1, q_l2, q_l3, q_l4, q_l5, q_l6, q_l8, q_l9, q_l10, q_l12, q_l32, q_l50, q_l120, q_l122, q_l126, q_l372, q_l1000, q_l1000000, e4, i4, Int.le_refl]
  simp only [b_146_28, ↓reduceIte, Nat.reduceEqDiff, Nat.reduceMul, q_n10, q_n01, Option.bind_some, g_aft0, g_aft1, g_aft2, g_aft3, g_aft9, Nat.reduceAdd, m_kill_0, m_kill_2, m_kill_3, m_kill_4, m_kill_9, true_or, or_true, q_lm1, q_l0, q_l1, q_l2, q_l3, q_l4, q_l5, q_l6, q_l8, q_l9, q_l10, q_l12, q_l32, q_l50, q_l120, q_l122, q_l126, q_l372, q_l1000, q_l1000000]
  refine Eq.trans l2 ?_
  conv => lhs; simp only [b_146_31, ↓reduceIte, Nat.reduceEqDiff, Nat.reduceMul, q_n10, q_n01, Option.bind_some, g_aft0, g_aft1, g_aft2, g_aft3, g_aft9, Nat.reduceAdd, m_kill_0, m_kill_2, m_kill_3, m_kill_4, m_kill_9, true_or, or_true, q_lm1, q_l0, q_l1, q_l2, q_l3, q_l4, q_l5, q_l6, q_l8, q_l9, q_l10, q_l12, q_l32, q_l50, q_l120, q_l122, q_l126, q_l372, q_l1000, q_l1000000, q_clsF hL.1, q_n1F hL, q_obF hL, z0, Int.le_refl]
  simp only [b_146_71, ↓reduceIte, Nat.reduceEqDiff, Nat.reduceMul, q_n10, q_n01, Option.bind_some, g_aft0, g_aft1, g_aft2, g_aft3, g_aft9, Nat.reduceAdd, m_kill_0, m_kill_2, m_kill_3, m_kill_4, m_kill_9, true_or, or_true, q_lm1, q_l0, q_l1, q_l2, q_l3, q_l4, q_l5, q_l6, q_l8, q_l9, q_l10, q_l12, q_l32, q_l50, q_l120, q_l122, q_l126, q_l372, q_l1000, q_l1000000]
  refine Eq.trans l3 ?_
  conv => lhs; simp only [b_146_74, ↓reduceIte, Nat.reduceEqDiff, Nat.reduceMul, q_n10, q_n01, Option.bind_some, g_aft0, g_aft1, g_aft2, g_aft3, g_aft9, Nat.reduceAdd, m_kill_0, m_kill_2, m_kill_3, m_kill_4, m_kill_9, true_or, or_true, q_lm1, q_l0, q_l1, q_l2, q_l3, q_l4, q_l5, q_l6, q_l8, q_l9, q_l10, q_l12, q_l32, q_l50, q_l120, q_l122, q_l126, q_l372, q_l1000, q_l1000000, q_clsF hL.1, q_n1F hL, q_obF hL, z1, Int.le_refl]
  simp only [b_146_114, ↓reduceIte, Nat.reduceEqDiff, Nat.reduceMul, q_n10, q_n01, Option.bind_some, g_aft0, g_aft1, g_aft2, g_aft3, g_aft9, Nat.reduceAdd, m_kill_0, m_kill_2, m_kill_3, m_kill_4, m_kill_9, true_or, or_true, q_lm1, q_l0, q_l1, q_l2, q_l3, q_l4, q_l5, q_l6, q_l8, q_l9, q_l10, q_l12, q_l32, q_l50, q_l120, q_l122, q_l126, q_l372, q_l1000, q_l1000000]
  refine Eq.trans l4 ?_
  conv => lhs; simp only [b_146_117, ↓reduceIte, Nat.reduceEqDiff, Nat.reduceMul, q_n10, q_n01, Option.bind_some, g_aft0, g_aft1, g_aft2, g_aft3, g_aft9, Nat.reduceAdd, m_kill_0, m_kill_2, m_kill_3, m_kill_4, m_kill_9, true_or, or_true, q_lm1, q_l0, q_l1, q_l2, q_l3, q_l4, q_l5, q_l6, q_l8, q_l9, q_l10, q_l12, q_l32, q_l50, q_l120, q_l122, q_l126, q_l372, q_l1000, q_l1000000, q_clsF hL.1, q_n1F hL, q_obF hL, z2, Int.le_refl]
  simp only [b_146_157, ↓reduceIte, Nat.reduceEqDiff, Nat.reduceMul, q_n10, q_n01, Option.bind_some, g_aft0, g_aft1, g_aft2, g_aft3, g_aft9, Nat.reduceAdd, m_kill_0, m_kill_2, m_kill_3, m_kill_4, m_kill_9, true_or, or_true, q_lm1, q_l0, q_l1, q_l2, q_l3, q_l4, q_l5, q_l6, q_l8, q_l9, q_l10, q_l12, q_l32, q_l50, q_l120, q_l122, q_l126, q_l372, q_l1000, q_l1000000]
  rfl
end
end
