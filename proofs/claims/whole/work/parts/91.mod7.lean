section
/-! The model: distances. -/
def z_far (σ N : Nat → Nat → Int) : Prop := ∀ a b, a < w_nn N → b < w_nn N → σ 196 (8 * a + b) = d_cap (w_D N a b)
section
variable {Z : mZ} {K : Nat → mK} {σ τ N M : Nat → Nat → Int} {e g i L n c k p s : Nat} {t q v b x y z w u S : Int} {X : Nat → Int} {h : mH} {R : Nat → Nat → Nat → Int} {T : Nat → Int}
theorem z_nP (h : z_n σ N) {a : Nat} (ha : a ≠ 192) : z_n (q_put σ a T) N := z_nF h (q_put_ne (by omega))
theorem z_inner {k : Nat} (hL : q_lay K) (hn : z_n σ N) (hk : k < w_nn N) {a : Nat} (ha : a < w_nn N) (x : (Nat → Int) × mV) (hx : ∀ c d, c < w_nn N → d < w_nn N → x.1 (8 * c + d) = if c < a then d_fw 100000 N (k + 1) c d else d_fw 100000 N k c d) : ∃ y : (Nat → Int) × mV, m_run Z (184, 125, [(2, ((191 : Nat) : Int)), (0, (k : Int)), (0, (a : Int)), (0, ((0 : Nat) : Int)), x.2], [], (K, q_put σ 196 x.1, 206, e, s)) = m_run Z (184, 125, [(2, ((191 : Nat) : Int)), (0, (k : Int)), (0, (a : Int)), (0, (w_nn N : Int)), y.2], [], (K, q_put σ 196 y.1, 206, e, s)) ∧ ∀ c d, c < w_nn N → d < w_nn N → y.1 (8 * c + d) = if c < a ∨ c = a ∧ d < w_nn N then d_fw 100000 N (k + 1) c d else d_fw 100000 N k c d := by
  have hw := hn.1
  have n8 := (wf_n hw).2.2
  have n0 := (wf_n hw).1
  refine q_loop (Z := Z) (N := w_nn N) (S := fun b (x : (Nat → Int) × mV) => (184, 125, [(2, ((191 : Nat) : Int)), (0, (k : Int)), (0, (a : Int)), (0, (b : Int)), x.2], [], (K, q_put σ 196 x.1, 206, e, s))) (P := fun b x => ∀ c d, c < w_nn N → d < w_nn N → x.1 (8 * c + d) = if c < a ∨ c = a ∧ d < b then d_fw 100000 N (k + 1) c d else d_fw 100000 N k c d) ?_ (w_nn N) 0 x (by omega) ?_
  · intro b x hb hx
    have hm := z_many (Z := Z) (e := e) (s := s) hL (z_nP (T := x.1) (a := 196) hn (by omega))
    have w0 : w32 (b : Int) = (b : Int) := q_w (by omega)
    have wn : w32 (N 0 0) = N 0 0 := by clear w0; exact q_wi (by omega) (by omega)
    have e1 : (((b + 1 : Nat)) : Int) = (b : Int) + 1 := rfl
    have c0 : ¬ N 0 0 ≤ (b : Int) := by clear w0 wn; omega
    obtain ⟨i1, i2, i3⟩ := z_ix (x := 8 * (a : Int) + (k : Int)) (m := 8 * a + k) (L' := 64) (by clear w0 wn; omega) (by clear w0 wn; omega) (by omega)
    obtain ⟨j1, j2, j3⟩ := z_ix (x := 8 * (k : Int) + (b : Int)) (m := 8 * k + b) (L' := 64) (by clear w0 wn; omega) (by clear w0 wn; omega) (by omega)
    obtain ⟨k1, k2, k3⟩ := z_ix (x := 8 * (a : Int) + (b : Int)) (m := 8 * a + b) (L' := 64) (by clear w0 wn; omega) (by clear w0 wn; omega) (by omega)
    have r1 : x.1 (8 * a + k) = d_fw 100000 N k a k := by
      rw [hx a k ha hk, (d_fw_same hw (by omega) (by omega) a).1]
      exact ite_self _
    have r2 : x.1 (8 * k + b) = d_fw 100000 N k k b := by
      rw [hx k b hk hb, (d_fw_same hw (by omega) (by omega) b).2]
      exact ite_self _
    have r3 : x.1 (8 * a + b) = d_fw 100000 N k a b := by
      rw [hx a b ha hb, if_neg (by omega)]
    have f1 := d_fw_b hw (F := 100000) (by omega) (k := k) (by omega) a k
    have f2 := d_fw_b hw (F := 100000) (by omega) (k := k) (by omega) k b
    have f3 := d_fw_b hw (F := 100000) (by omega) (k := k) (by omega) a b
    have w1 : w32 (d_fw 100000 N k a k + d_fw 100000 N k k b) = d_fw 100000 N k a k + d_fw 100000 N k k b := by clear w0 wn i1 i2 i3 j1 j2 j3 k1 k2 k3; exact q_wB (by omega) (by omega)
    have w2 : w32 (d_fw 100000 N k a b) = d_fw 100000 N k a b := by clear w0 wn i1 i2 i3 j1 j2 j3 k1 k2 k3 w1; exact q_wB (by omega) (by omega)
    have hnew : d_fw 100000 N (k + 1) a b = if d_fw 100000 N k a k + d_fw 100000 N k k b < d_fw 100000 N k a b then d_fw 100000 N k a k + d_fw 100000 N k k b else d_fw 100000 N k a b := rfl
    refine ⟨(m_up x.1 (8 * a + b) (d_fw 100000 N (k + 1) a b), (0, d_fw 100000 N k a k + d_fw 100000 N k k b)), ?_, ?_⟩
    · conv => lhs; simp only [b_184_125, ↓reduceIte, Nat.reduceEqDiff, Nat.reduceMul, q_n10, q_n01, Option.bind_some, g_aft0, g_aft1, g_aft2, g_aft3, g_aft9, Nat.reduceAdd, m_kill_0, m_kill_2, m_kill_3, m_kill_4, m_kill_9, true_or, or_true, q_lm1, q_l0, q_l1, q_l2, q_l3, q_l4, q_l5, q_l6, q_l8, q_l9, q_l10, q_l12, q_l17, q_l32, q_l35, q_l48, q_l50, q_l54, q_l57, q_l64, q_l73, q_l118, q_l119, q_l120, q_l122, q_l126, q_l160, q_l256, q_l365, q_l372, q_l438, q_l1000, q_l100000, q_l1000000, q_modF hL.2.2.2.2.2.2.1, hm]
      conv => lhs; simp only [b_184_130, ↓reduceIte, Nat.reduceEqDiff, Nat.reduceMul, q_n10, q_n01, Option.bind_some, g_aft0, g_aft1, g_aft2, g_aft3, g_aft9, Nat.reduceAdd, m_kill_0, m_kill_2, m_kill_3, m_kill_4, m_kill_9, true_or, or_true, q_lm1, q_l0, q_l1, q_l2, q_l3, q_l4, q_l5, q_l6, q_l8, q_l9, q_l10, q_l12, q_l17, q_l32, q_l35, q_l48, q_l50, q_l54, q_l57, q_l64, q_l73, q_l118, q_l119, q_l120, q_l122, q_l126, q_l160, q_l256, q_l365, q_l372, q_l438, q_l1000, q_l100000, q_l1000000, w0, wn, c0]
      by_cases c1 : d_fw 100000 N k a k + d_fw 100000 N k k b < d_fw 100000 N k a b
      · rw [hnew, if_pos c1, e1, ← q_up_pt]
        simp only [b_184_133, b_184_184, ↓reduceIte, Nat.reduceEqDiff, Nat.reduceMul, q_n10, q_n01, Option.bind_some, g_aft0, g_aft1, g_aft2, g_aft3, g_aft9, Nat.reduceAdd, m_kill_0, m_kill_2, m_kill_3, m_kill_4, m_kill_9, true_or, or_true, q_lm1, q_l0, q_l1, q_l2, q_l3, q_l4, q_l5, q_l6, q_l8, q_l9, q_l10, q_l12, q_l17, q_l32, q_l35, q_l48, q_l50, q_l54, q_l57, q_l64, q_l73, q_l118, q_l119, q_l120, q_l122, q_l126, q_l160, q_l256, q_l365, q_l372, q_l438, q_l1000, q_l100000, q_l1000000, q_modF hL.2.2.2.2.2.2.1, i1, i2, i3, j1, j2, j3, k1, k2, k3, q_put_at, r1, r2, r3, w1, w2, Int.not_le.mpr c1]
      · rw [hnew, if_neg c1, e1, ← q_up_pt]
        simp only [b_184_133, b_184_189, b_184_200, ↓reduceIte, Nat.reduceEqDiff, Nat.reduceMul, q_n10, q_n01, Option.bind_some, g_aft0, g_aft1, g_aft2, g_aft3, g_aft9, Nat.reduceAdd, m_kill_0, m_kill_2, m_kill_3, m_kill_4, m_kill_9, true_or, or_true, q_lm1, q_l0, q_l1, q_l2, q_l3, q_l4, q_l5, q_l6, q_l8, q_l9, q_l10, q_l12, q_l17, q_l32, q_l35, q_l48, q_l50, q_l54, q_l57, q_l64, q_l73, q_l118, q_l119, q_l120, q_l122, q_l126, q_l160, q_l256, q_l365, q_l372, q_l438, q_l1000, q_l100000, q_l1000000, q_modF hL.2.2.2.2.2.2.1, i1, i2, i3, j1, j2, j3, k1, k2, k3, q_put_at, r1, r2, r3, w1, w2, Int.not_lt.mp c1]
    · clear w0 wn i1 i2 i3 j1 j2 j3 k1 k2 k3 w1 w2 r1 r2 r3 hm f1 f2 f3 hnew
      intro c d hc hd
      try dsimp only
      by_cases c2 : c = a ∧ d = b
      · obtain ⟨rfl, rfl⟩ := c2
        rw [m_up_at, if_pos (by omega)]
      · rw [m_up_ne (by omega), hx c d hc hd]
        by_cases c3 : c < a ∨ c = a ∧ d < b
        · rw [if_pos c3, if_pos (by omega)]
        · rw [if_neg c3, if_neg (by omega)]
  · intro c d hc hd
    rw [hx c d hc hd]
    by_cases c3 : c < a
    · rw [if_pos c3, if_pos (by omega)]
    · rw [if_neg c3, if_neg (by omega)]
theorem z_lays (hL : q_lay K) (hn : z_n σ N) : ∃ τ, m_cl Z 184 [(2, ((191 : Nat) : Int))] (K, σ, 206, e, s) = some (.inl (9, 0), (K, τ, 206, e, s)) ∧ z_far τ N ∧ ∀ a, a ≠ 196 → τ a = σ a := by
  have hw := hn.1
  have n8 := (wf_n hw).2.2
  have n0 := (wf_n hw).1
  have m12 := (wf_e hw).2
  have m0 := (wf_e hw).1
  -- the table at first
  obtain ⟨f, hf⟩ : ∃ f : Nat → Int, f = fun j : Nat => if j % 9 = 0 then (0 : Int) else 100000 := ⟨fun j : Nat => if j % 9 = 0 then (0 : Int) else 100000, rfl⟩
  have e9 : ¬ (9 : Int) = 0 := by decide
  have lp := q_loopf (Z := Z) (N := 64) (S := fun i => (184, 2, [(2, ((191 : Nat) : Int)), (0, (i : Int)), (9, 0), (9, 0), (9, 0)], [], (K, q_fill σ 196 i f, 206, e, s))) (by
    intro i hi
    have wi : w32 (i : Int) = (i : Int) := q_w (by omega)
    have w64 : w32 64 = 64 := by decide
    have tm : ((i : Int)).tmod 9 = ((i % 9 : Nat) : Int) := rfl
    have wm : w32 ((i % 9 : Nat) : Int) = ((i % 9 : Nat) : Int) := q_w (by clear wi w64; omega)
    have c0 : ¬ (64 : Int) ≤ (i : Int) := by clear wi w64 wm; omega
    have p0 : 0 ≤ (i : Int) := by clear wi w64 wm; omega
    have p1 : (i : Int) < ((64 : Nat) : Int) := by clear wi w64 wm; omega
    have tn : ((i : Int)).toNat = i := rfl
    have e1 : ((i + 1 : Nat) : Int) = (i : Int) + 1 := rfl
    rw [e1, ← q_fill_s σ 196 i f]
    conv => lhs; simp only [b_184_2, ↓reduceIte, Nat.reduceEqDiff, Nat.reduceMul, q_n10, q_n01, Option.bind_some, g_aft0, g_aft1, g_aft2, g_aft3, g_aft9, Nat.reduceAdd, m_kill_0, m_kill_2, m_kill_3, m_kill_4, m_kill_9, true_or, or_true, q_lm1, q_l0, q_l1, q_l2, q_l3, q_l4, q_l5, q_l6, q_l8, q_l9, q_l10, q_l12, q_l17, q_l32, q_l35, q_l48, q_l50, q_l54, q_l57, q_l64, q_l73, q_l118, q_l119, q_l120, q_l122, q_l126, q_l160, q_l256, q_l365, q_l372, q_l438, q_l1000, q_l100000, q_l1000000, wi, w64, c0]
    by_cases c1 : i % 9 = 0
    · have fi : f i = 0 := by rw [hf]; show (if i % 9 = 0 then (0 : Int) else 100000) = 0; rw [if_pos c1]
      have c2 : ((i % 9 : Nat) : Int) = 0 := by rw [c1]; rfl
      rw [fi]
      simp only [b_184_8, b_184_20, ↓reduceIte, Nat.reduceEqDiff, Nat.reduceMul, q_n10, q_n01, Option.bind_some, g_aft0, g_aft1, g_aft2, g_aft3, g_aft9, Nat.reduceAdd, m_kill_0, m_kill_2, m_kill_3, m_kill_4, m_kill_9, true_or, or_true, q_lm1, q_l0, q_l1, q_l2, q_l3, q_l4, q_l5, q_l6, q_l8, q_l9, q_l10, q_l12, q_l17, q_l32, q_l35, q_l48, q_l50, q_l54, q_l57, q_l64, q_l73, q_l118, q_l119, q_l120, q_l122, q_l126, q_l160, q_l256, q_l365, q_l372, q_l438, q_l1000, q_l100000, q_l1000000, q_modF hL.2.2.2.2.2.2.1, e9, not_false_eq_true, wi, tm, c2, p0, p1, tn]
    · have fi : f i = 100000 := by rw [hf]; show (if i % 9 = 0 then (0 : Int) else 100000) = 100000; rw [if_neg c1]
      have c2 : ¬ ((i % 9 : Nat) : Int) = 0 := by clear wi w64 wm; omega
      rw [fi]
      simp only [b_184_8, b_184_24, b_184_26, ↓reduceIte, Nat.reduceEqDiff, Nat.reduceMul, q_n10, q_n01, Option.bind_some, g_aft0, g_aft1, g_aft2, g_aft3, g_aft9, Nat.reduceAdd, m_kill_0, m_kill_2, m_kill_3, m_kill_4, m_kill_9, true_or, or_true, q_lm1, q_l0, q_l1, q_l2, q_l3, q_l4, q_l5, q_l6, q_l8, q_l9, q_l10, q_l12, q_l17, q_l32, q_l35, q_l48, q_l50, q_l54, q_l57, q_l64, q_l73, q_l118, q_l119, q_l120, q_l122, q_l126, q_l160, q_l256, q_l365, q_l372, q_l438, q_l1000, q_l100000, q_l1000000, q_modF hL.2.2.2.2.2.2.1, e9, not_false_eq_true, wi, tm, wm, c2, p0, p1, tn])
  have e0 : q_fill σ 196 0 f = σ := q_fill_0 _ _ _
  rw [e0] at lp
  obtain ⟨T0, hT0⟩ : ∃ T0, T0 = (q_fill σ 196 64 f) 196 := ⟨_, rfl⟩
  have hp0 : q_fill σ 196 64 f = q_put σ 196 T0 := by
    rw [hT0, q_fill_put, q_put_at]
  have hT : ∀ a b, a < 8 → b < 8 → T0 (8 * a + b) = d_in 100000 N 0 a b := by
    intro a b ha hb
    rw [hT0, q_fill_at (by omega), hf]
    show (if (8 * a + b) % 9 = 0 then (0 : Int) else 100000) = if a = b then 0 else 100000
    by_cases c : a = b
    · rw [if_pos c, if_pos (by omega)]
    · rw [if_neg c, if_neg (by omega)]
  -- the edges
  obtain ⟨y, y1, y2⟩ := q_loop (Z := Z) (N := w_ne N) (S := fun i (x : Nat → Int) => (184, 35, [(2, ((191 : Nat) : Int)), (0, (i : Int)), (9, 0), (9, 0), (9, 0)], [], (K, q_put σ 196 x, 206, e, s))) (P := fun i x => ∀ a b, a < 8 → b < 8 → x (8 * a + b) = d_in 100000 N i a b) (by
    intro i x hi hx
    obtain ⟨f1, f2, f3, f4, f5, f6, f7⟩ := wf_ed hw hi
    have hm := z_emany (Z := Z) (e := e) (s := s) hL (z_nP (T := x) (a := 196) hn (by omega))
    have ho := fun T => z_of (Z := Z) (e := e) (s := s) hL (z_nP (T := T) (a := 196) hn (by omega)) hi
    rw [f1, f2] at ho
    have w0 : w32 (i : Int) = (i : Int) := q_w (by omega)
    have wm : w32 (N 0 1) = N 0 1 := by clear w0; exact q_wi (by omega) (by omega)
    have e1 : (((i + 1 : Nat)) : Int) = (i : Int) + 1 := rfl
    have c0 : ¬ N 0 1 ≤ (i : Int) := by clear w0 wm; omega
    obtain ⟨i1, i2, i3⟩ := z_ix (x := 8 * (w_f N i : Int) + (w_s N i : Int)) (m := 8 * w_f N i + w_s N i) (L' := 64) (by clear w0 wm; omega) (by clear w0 wm; omega) (by omega)
    obtain ⟨j1, j2, j3⟩ := z_ix (x := 8 * (w_s N i : Int) + (w_f N i : Int)) (m := 8 * w_s N i + w_f N i) (L' := 64) (by clear w0 wm i1 i2 i3; omega) (by clear w0 wm i1 i2 i3; omega) (by omega)
    refine ⟨m_up (m_up x (8 * w_f N i + w_s N i) (N 10 i)) (8 * w_s N i + w_f N i) (N 10 i), ?_, ?_⟩
    · conv => lhs; simp only [b_184_35, ↓reduceIte, Nat.reduceEqDiff, Nat.reduceMul, q_n10, q_n01, Option.bind_some, g_aft0, g_aft1, g_aft2, g_aft3, g_aft9, Nat.reduceAdd, m_kill_0, m_kill_2, m_kill_3, m_kill_4, m_kill_9, true_or, or_true, q_lm1, q_l0, q_l1, q_l2, q_l3, q_l4, q_l5, q_l6, q_l8, q_l9, q_l10, q_l12, q_l17, q_l32, q_l35, q_l48, q_l50, q_l54, q_l57, q_l64, q_l73, q_l118, q_l119, q_l120, q_l122, q_l126, q_l160, q_l256, q_l365, q_l372, q_l438, q_l1000, q_l100000, q_l1000000, q_modF hL.2.2.2.2.2.2.1, hm]
      conv => lhs; simp only [b_184_40, ↓reduceIte, Nat.reduceEqDiff, Nat.reduceMul, q_n10, q_n01, Option.bind_some, g_aft0, g_aft1, g_aft2, g_aft3, g_aft9, Nat.reduceAdd, m_kill_0, m_kill_2, m_kill_3, m_kill_4, m_kill_9, true_or, or_true, q_lm1, q_l0, q_l1, q_l2, q_l3, q_l4, q_l5, q_l6, q_l8, q_l9, q_l10, q_l12, q_l17, q_l32, q_l35, q_l48, q_l50, q_l54, q_l57, q_l64, q_l73, q_l118, q_l119, q_l120, q_l122, q_l126, q_l160, q_l256, q_l365, q_l372, q_l438, q_l1000, q_l100000, q_l1000000, w0, wm, c0]
      rw [e1]
      simp only [b_184_43, b_184_55, b_184_62, b_184_69, b_184_82, b_184_89, b_184_96, ↓reduceIte, Nat.reduceEqDiff, Nat.reduceMul, q_n10, q_n01, Option.bind_some, g_aft0, g_aft1, g_aft2, g_aft3, g_aft9, Nat.reduceAdd, m_kill_0, m_kill_2, m_kill_3, m_kill_4, m_kill_9, true_or, or_true, q_lm1, q_l0, q_l1, q_l2, q_l3, q_l4, q_l5, q_l6, q_l8, q_l9, q_l10, q_l12, q_l17, q_l32, q_l35, q_l48, q_l50, q_l54, q_l57, q_l64, q_l73, q_l118, q_l119, q_l120, q_l122, q_l126, q_l160, q_l256, q_l365, q_l372, q_l438, q_l1000, q_l100000, q_l1000000, q_modF hL.2.2.2.2.2.2.1, (ho _).1, (ho _).2.1, (ho _).2.2, i1, i2, i3, j1, j2, j3, q_up_pt]
    · clear w0 wm i1 i2 i3 j1 j2 j3 hm ho
      intro a b ha hb
      try dsimp only
      unfold d_in
      by_cases c1 : a = w_s N i ∧ b = w_f N i
      · rw [c1.1, c1.2, m_up_at, if_pos (Or.inr ⟨rfl, rfl⟩)]
      · by_cases c2 : a = w_f N i ∧ b = w_s N i
        · rw [c2.1, c2.2, m_up_ne (by omega), m_up_at, if_pos (Or.inl ⟨rfl, rfl⟩)]
        · rw [m_up_ne (by omega), m_up_ne (by omega), if_neg (by omega)]
          exact hx a b ha hb) (w_ne N) 0 T0 (by omega) hT
  -- shortened
  obtain ⟨u, u1, u2⟩ := q_loop (Z := Z) (N := w_nn N) (S := fun k (x : (Nat → Int) × mV × mV × mV) => (184, 105, [(2, ((191 : Nat) : Int)), (0, (k : Int)), x.2.1, x.2.2.1, x.2.2.2], [], (K, q_put σ 196 x.1, 206, e, s))) (P := fun k x => ∀ a b, a < w_nn N → b < w_nn N → x.1 (8 * a + b) = d_fw 100000 N k a b) (by
    intro k x hk hx
    have hm := fun T => z_many (Z := Z) (e := e) (s := s) hL (z_nP (T := T) (a := 196) hn (by omega))
    have wk : w32 (k : Int) = (k : Int) := q_w (by omega)
    have wn : w32 (N 0 0) = N 0 0 := by clear wk; exact q_wi (by omega) (by omega)
    have ck : ¬ N 0 0 ≤ (k : Int) := by clear wk wn; omega
    obtain ⟨v, v1, v2⟩ := q_loop (Z := Z) (N := w_nn N) (S := fun a (x : (Nat → Int) × mV × mV) => (184, 115, [(2, ((191 : Nat) : Int)), (0, (k : Int)), (0, (a : Int)), x.2.1, x.2.2], [], (K, q_put σ 196 x.1, 206, e, s))) (P := fun a x => ∀ c d, c < w_nn N → d < w_nn N → x.1 (8 * c + d) = if c < a then d_fw 100000 N (k + 1) c d else d_fw 100000 N k c d) (by
      intro a x ha hx
      have wa : w32 (a : Int) = (a : Int) := q_w (by clear wk wn; omega)
      have ca : ¬ N 0 0 ≤ (a : Int) := by clear wk wn wa; omega
      have e1 : (((a + 1 : Nat)) : Int) = (a : Int) + 1 := rfl
      obtain ⟨z, h1, h2⟩ := z_inner (Z := Z) (e := e) (s := s) hL hn hk ha (x.1, x.2.2) hx
      refine ⟨(z.1, (0, (w_nn N : Int)), z.2), ?_, ?_⟩
      · conv => lhs; simp only [b_184_115, ↓reduceIte, Nat.reduceEqDiff, Nat.reduceMul, q_n10, q_n01, Option.bind_some, g_aft0, g_aft1, g_aft2, g_aft3, g_aft9, Nat.reduceAdd, m_kill_0, m_kill_2, m_kill_3, m_kill_4, m_kill_9, true_or, or_true, q_lm1, q_l0, q_l1, q_l2, q_l3, q_l4, q_l5, q_l6, q_l8, q_l9, q_l10, q_l12, q_l17, q_l32, q_l35, q_l48, q_l50, q_l54, q_l57, q_l64, q_l73, q_l118, q_l119, q_l120, q_l122, q_l126, q_l160, q_l256, q_l365, q_l372, q_l438, q_l1000, q_l100000, q_l1000000, q_modF hL.2.2.2.2.2.2.1, hm]
        conv => lhs; simp only [b_184_120, b_184_123, ↓reduceIte, Nat.reduceEqDiff, Nat.reduceMul, q_n10, q_n01, Option.bind_some, g_aft0, g_aft1, g_aft2, g_aft3, g_aft9, Nat.reduceAdd, m_kill_0, m_kill_2, m_kill_3, m_kill_4, m_kill_9, true_or, or_true, q_lm1, q_l0, q_l1, q_l2, q_l3, q_l4, q_l5, q_l6, q_l8, q_l9, q_l10, q_l12, q_l17, q_l32, q_l35, q_l48, q_l50, q_l54, q_l57, q_l64, q_l73, q_l118, q_l119, q_l120, q_l122, q_l126, q_l160, q_l256, q_l365, q_l372, q_l438, q_l1000, q_l100000, q_l1000000, wa, wn, ca]
        refine Eq.trans h1 ?_
        conv => lhs; simp only [b_184_125, ↓reduceIte, Nat.reduceEqDiff, Nat.reduceMul, q_n10, q_n01, Option.bind_some, g_aft0, g_aft1, g_aft2, g_aft3, g_aft9, Nat.reduceAdd, m_kill_0, m_kill_2, m_kill_3, m_kill_4, m_kill_9, true_or, or_true, q_lm1, q_l0, q_l1, q_l2, q_l3, q_l4, q_l5, q_l6, q_l8, q_l9, q_l10, q_l12, q_l17, q_l32, q_l35, q_l48, q_l50, q_l54, q_l57, q_l64, q_l73, q_l118, q_l119, q_l120, q_l122, q_l126, q_l160, q_l256, q_l365, q_l372, q_l438, q_l1000, q_l100000, q_l1000000, q_modF hL.2.2.2.2.2.2.1, hm]
        rw [n0]
        rw [n0] at wn
        conv => lhs; simp only [b_184_130, b_184_207, ↓reduceIte, Nat.reduceEqDiff, Nat.reduceMul, q_n10, q_n01, Option.bind_some, g_aft0, g_aft1, g_aft2, g_aft3, g_aft9, Nat.reduceAdd, m_kill_0, m_kill_2, m_kill_3, m_kill_4, m_kill_9, true_or, or_true, q_lm1, q_l0, q_l1, q_l2, q_l3, q_l4, q_l5, q_l6, q_l8, q_l9, q_l10, q_l12, q_l17, q_l32, q_l35, q_l48, q_l50, q_l54, q_l57, q_l64, q_l73, q_l118, q_l119, q_l120, q_l122, q_l126, q_l160, q_l256, q_l365, q_l372, q_l438, q_l1000, q_l100000, q_l1000000, wn, Int.le_refl]
        rfl
      · clear wk wn wa
        intro c d hc hd
        try dsimp only
        rw [h2 c d hc hd]
        by_cases c3 : c < a + 1
        · rw [if_pos (by omega), if_pos c3]
        · rw [if_neg (by omega), if_neg c3]) (w_nn N) 0 (x.1, x.2.2.1, x.2.2.2) (by clear wk wn; omega) (by
      intro c d hc hd
      rw [if_neg (by omega)]
      exact hx c d hc hd)
    refine ⟨(v.1, (0, (w_nn N : Int)), v.2.1, v.2.2), ?_, fun a b ha hb => by show v.1 (8 * a + b) = _; rw [v2 a b ha hb, if_pos ha]⟩
    conv => lhs; simp only [b_184_105, ↓reduceIte, Nat.reduceEqDiff, Nat.reduceMul, q_n10, q_n01, Option.bind_some, g_aft0, g_aft1, g_aft2, g_aft3, g_aft9, Nat.reduceAdd, m_kill_0, m_kill_2, m_kill_3, m_kill_4, m_kill_9, true_or, or_true, q_lm1, q_l0, q_l1, q_l2, q_l3, q_l4, q_l5, q_l6, q_l8, q_l9, q_l10, q_l12, q_l17, q_l32, q_l35, q_l48, q_l50, q_l54, q_l57, q_l64, q_l73, q_l118, q_l119, q_l120, q_l122, q_l126, q_l160, q_l256, q_l365, q_l372, q_l438, q_l1000, q_l100000, q_l1000000, q_modF hL.2.2.2.2.2.2.1, hm]
    conv => lhs; simp only [b_184_110, b_184_113, ↓reduceIte, Nat.reduceEqDiff, Nat.reduceMul, q_n10, q_n01, Option.bind_some, g_aft0, g_aft1, g_aft2, g_aft3, g_aft9, Nat.reduceAdd, m_kill_0, m_kill_2, m_kill_3, m_kill_4, m_kill_9, true_or, or_true, q_lm1, q_l0, q_l1, q_l2, q_l3, q_l4, q_l5, q_l6, q_l8, q_l9, q_l10, q_l12, q_l17, q_l32, q_l35, q_l48, q_l50, q_l54, q_l57, q_l64, q_l73, q_l118, q_l119, q_l120, q_l122, q_l126, q_l160, q_l256, q_l365, q_l372, q_l438, q_l1000, q_l100000, q_l1000000, wk, wn, ck]
    refine Eq.trans v1 ?_
    conv => lhs; simp only [b_184_115, ↓reduceIte, Nat.reduceEqDiff, Nat.reduceMul, q_n10, q_n01, Option.bind_some, g_aft0, g_aft1, g_aft2, g_aft3, g_aft9, Nat.reduceAdd, m_kill_0, m_kill_2, m_kill_3, m_kill_4, m_kill_9, true_or, or_true, q_lm1, q_l0, q_l1, q_l2, q_l3, q_l4, q_l5, q_l6, q_l8, q_l9, q_l10, q_l12, q_l17, q_l32, q_l35, q_l48, q_l50, q_l54, q_l57, q_l64, q_l73, q_l118, q_l119, q_l120, q_l122, q_l126, q_l160, q_l256, q_l365, q_l372, q_l438, q_l1000, q_l100000, q_l1000000, q_modF hL.2.2.2.2.2.2.1, hm]
    rw [n0]
    rw [n0] at wn
    conv => lhs; simp only [b_184_120, b_184_213, ↓reduceIte, Nat.reduceEqDiff, Nat.reduceMul, q_n10, q_n01, Option.bind_some, g_aft0, g_aft1, g_aft2, g_aft3, g_aft9, Nat.reduceAdd, m_kill_0, m_kill_2, m_kill_3, m_kill_4, m_kill_9, true_or, or_true, q_lm1, q_l0, q_l1, q_l2, q_l3, q_l4, q_l5, q_l6, q_l8, q_l9, q_l10, q_l12, q_l17, q_l32, q_l35, q_l48, q_l50, q_l54, q_l57, q_l64, q_l73, q_l118, q_l119, q_l120, q_l122, q_l126, q_l160, q_l256, q_l365, q_l372, q_l438, q_l1000, q_l100000, q_l1000000, wn, Int.le_refl]
    rfl) (w_nn N) 0 (y, (9, 0), (9, 0), (9, 0)) (by omega) (fun a b ha hb => y2 a b (by omega) (by omega))
  have hm := fun T => z_many (Z := Z) (e := e) (s := s) hL (z_nP (T := T) (a := 196) hn (by omega))
  have hme := fun T => z_emany (Z := Z) (e := e) (s := s) hL (z_nP (T := T) (a := 196) hn (by omega))
  have wn : w32 (w_nn N : Int) = (w_nn N : Int) := q_w (by omega)
  have we : w32 (w_ne N : Int) = (w_ne N : Int) := q_w (by omega)
  have w64 : w32 ((64 : Nat) : Int) = 64 := by decide
  have w64' : w32 64 = 64 := by decide
  refine ⟨q_put σ 196 u.1, ?_, fun a b ha hb => ?_, fun a ha => q_put_ne ha⟩
  · rw [e_184, b_184_0]
    refine Eq.trans lp ?_
    conv => lhs; simp only [b_184_2, b_184_33, ↓reduceIte, Nat.reduceEqDiff, Nat.reduceMul, q_n10, q_n01, Option.bind_some, g_aft0, g_aft1, g_aft2, g_aft3, g_aft9, Nat.reduceAdd, m_kill_0, m_kill_2, m_kill_3, m_kill_4, m_kill_9, true_or, or_true, q_lm1, q_l0, q_l1, q_l2, q_l3, q_l4, q_l5, q_l6, q_l8, q_l9, q_l10, q_l12, q_l17, q_l32, q_l35, q_l48, q_l50, q_l54, q_l57, q_l64, q_l73, q_l118, q_l119, q_l120, q_l122, q_l126, q_l160, q_l256, q_l365, q_l372, q_l438, q_l1000, q_l100000, q_l1000000, w64, w64', Int.le_refl]
    rw [hp0]
    refine Eq.trans y1 ?_
    rw [m0] at hme
    rw [n0] at hm
    conv => lhs; simp only [b_184_35, ↓reduceIte, Nat.reduceEqDiff, Nat.reduceMul, q_n10, q_n01, Option.bind_some, g_aft0, g_aft1, g_aft2, g_aft3, g_aft9, Nat.reduceAdd, m_kill_0, m_kill_2, m_kill_3, m_kill_4, m_kill_9, true_or, or_true, q_lm1, q_l0, q_l1, q_l2, q_l3, q_l4, q_l5, q_l6, q_l8, q_l9, q_l10, q_l12, q_l17, q_l32, q_l35, q_l48, q_l50, q_l54, q_l57, q_l64, q_l73, q_l118, q_l119, q_l120, q_l122, q_l126, q_l160, q_l256, q_l365, q_l372, q_l438, q_l1000, q_l100000, q_l1000000, q_modF hL.2.2.2.2.2.2.1, hme]
    conv => lhs; simp only [b_184_40, b_184_103, ↓reduceIte, Nat.reduceEqDiff, Nat.reduceMul, q_n10, q_n01, Option.bind_some, g_aft0, g_aft1, g_aft2, g_aft3, g_aft9, Nat.reduceAdd, m_kill_0, m_kill_2, m_kill_3, m_kill_4, m_kill_9, true_or, or_true, q_lm1, q_l0, q_l1, q_l2, q_l3, q_l4, q_l5, q_l6, q_l8, q_l9, q_l10, q_l12, q_l17, q_l32, q_l35, q_l48, q_l50, q_l54, q_l57, q_l64, q_l73, q_l118, q_l119, q_l120, q_l122, q_l126, q_l160, q_l256, q_l365, q_l372, q_l438, q_l1000, q_l100000, q_l1000000, we, Int.le_refl]
    refine Eq.trans u1 ?_
    conv => lhs; simp only [b_184_105, ↓reduceIte, Nat.reduceEqDiff, Nat.reduceMul, q_n10, q_n01, Option.bind_some, g_aft0, g_aft1, g_aft2, g_aft3, g_aft9, Nat.reduceAdd, m_kill_0, m_kill_2, m_kill_3, m_kill_4, m_kill_9, true_or, or_true, q_lm1, q_l0, q_l1, q_l2, q_l3, q_l4, q_l5, q_l6, q_l8, q_l9, q_l10, q_l12, q_l17, q_l32, q_l35, q_l48, q_l50, q_l54, q_l57, q_l64, q_l73, q_l118, q_l119, q_l120, q_l122, q_l126, q_l160, q_l256, q_l365, q_l372, q_l438, q_l1000, q_l100000, q_l1000000, q_modF hL.2.2.2.2.2.2.1, hm]
    simp only [b_184_110, b_184_219, ↓reduceIte, Nat.reduceEqDiff, Nat.reduceMul, q_n10, q_n01, Option.bind_some, g_aft0, g_aft1, g_aft2, g_aft3, g_aft9, Nat.reduceAdd, m_kill_0, m_kill_2, m_kill_3, m_kill_4, m_kill_9, true_or, or_true, q_lm1, q_l0, q_l1, q_l2, q_l3, q_l4, q_l5, q_l6, q_l8, q_l9, q_l10, q_l12, q_l17, q_l32, q_l35, q_l48, q_l50, q_l54, q_l57, q_l64, q_l73, q_l118, q_l119, q_l120, q_l122, q_l126, q_l160, q_l256, q_l365, q_l372, q_l438, q_l1000, q_l100000, q_l1000000, wn, Int.le_refl]
  · rw [q_put_at, u2 a b ha hb, w_D_m hw]
end
end
