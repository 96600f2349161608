section
/-! Where the height's slope changes. -/
def w_s1 (N : Nat → Nat → Int) (t : Int) (g i : Nat) (p q : Int) : Int := if w_b N g i * q - p < w_o N g i * q + p then -w_W N t i else w_W N t i
def w_s2 (N : Nat → Nat → Int) (t : Int) (g i : Nat) (p q : Int) : Int := if w_b N g i * q - p ≤ w_o N g i * q + p then -w_W N t i else w_W N t i
def w_tk (N : Nat → Nat → Int) (t : Int) (g : Nat) (p q : Int) (k : Nat) (x : Int × Int × Int) : Prop := (k = 0 ∧ x = (-1, 0, 0)) ∨ (0 < k ∧ (∃ i, i < k ∧ w_F N t g i p q = x.1) ∧ (∀ i, i < k → w_F N t g i p q ≤ x.1) ∧ (∃ i, i < k ∧ w_F N t g i p q = x.1 ∧ x.2.1 = w_s1 N t g i p q) ∧ (∀ i, i < k → w_F N t g i p q = x.1 → x.2.1 ≤ w_s1 N t g i p q) ∧ (∃ i, i < k ∧ w_F N t g i p q = x.1 ∧ x.2.2 = w_s2 N t g i p q) ∧ (∀ i, i < k → w_F N t g i p q = x.1 → w_s2 N t g i p q ≤ x.2.2))
def w_ts (N : Nat → Nat → Int) (t : Int) (g : Nat) (p q : Int) (k : Nat) (x : Int × Int × Int) : Int × Int × Int := if x.1 < w_F N t g k p q then (w_F N t g k p q, w_s1 N t g k p q, w_s2 N t g k p q) else if w_F N t g k p q = x.1 then (x.1, (if w_s1 N t g k p q < x.2.1 then w_s1 N t g k p q else x.2.1), (if x.2.2 < w_s2 N t g k p q then w_s2 N t g k p q else x.2.2)) else x
section
variable {N : Nat → Nat → Int} {t p q : Int} {g k : Nat} {x y : Int × Int × Int}
theorem w_tk_u (hk : 0 < k) (h : w_tk N t g p q k x) (h2 : w_tk N t g p q k y) : x = y := by
  rcases h with ⟨c, -⟩ | ⟨-, ⟨i1, a1, a2⟩, a3, ⟨i2, b1, b2, b3⟩, b4, ⟨i3, c1, c2, c3⟩, c4⟩
  · omega
  rcases h2 with ⟨c, -⟩ | ⟨-, ⟨j1, d1, d2⟩, d3, ⟨j2, e1, e2, e3⟩, e4, ⟨j3, f1, f2, f3⟩, f4⟩
  · omega
  obtain ⟨x1, x2, x3⟩ := x
  obtain ⟨y1, y2, y3⟩ := y
  dsimp only at *
  have m1 := a3 j1 d1
  have m2 := d3 i1 a1
  have e0 : x1 = y1 := by omega
  subst e0
  have m3 := b4 j2 e1 e2
  have m4 := e4 i2 b1 b2
  have m5 := c4 j3 f1 f2
  have m6 := f4 i3 c1 c2
  have e5 : x2 = y2 := by omega
  have e6 : x3 = y3 := by omega
  rw [e5, e6]
theorem w_tk_s (hv : 0 ≤ w_F N t g k p q) (h : w_tk N t g p q k x) : w_tk N t g p q (k + 1) (w_ts N t g p q k x) := by
  right
  refine ⟨by omega, ?_⟩
  rcases h with ⟨c, rfl⟩ | ⟨hk, ⟨i1, a1, a2⟩, a3, ⟨i2, b1, b2, b3⟩, b4, ⟨i3, c1, c2, c3⟩, c4⟩
  · subst c
    have e : w_ts N t g p q 0 (-1, 0, 0) = (w_F N t g 0 p q, w_s1 N t g 0 p q, w_s2 N t g 0 p q) := by
      unfold w_ts
      rw [if_pos (by show (-1 : Int) < _; omega)]
    rw [e]
    have z : ∀ i, i < 0 + 1 → i = 0 := fun i hi => by omega
    exact ⟨⟨0, by omega, rfl⟩, fun i hi => by rw [z i hi]; exact Int.le_refl _, ⟨0, by omega, rfl, rfl⟩, fun i hi _ => by rw [z i hi]; exact Int.le_refl _, ⟨0, by omega, rfl, rfl⟩, fun i hi _ => by rw [z i hi]; exact Int.le_refl _⟩
  · have sp : ∀ i, i < k + 1 → i < k ∨ i = k := fun i hi => by omega
    by_cases g1 : x.1 < w_F N t g k p q
    · have e : w_ts N t g p q k x = (w_F N t g k p q, w_s1 N t g k p q, w_s2 N t g k p q) := by
        unfold w_ts
        rw [if_pos g1]
      rw [e]
      have no : ∀ i, i < k → w_F N t g i p q = w_F N t g k p q → False := fun i hi he => by have := a3 i hi; omega
      refine ⟨⟨k, by omega, rfl⟩, fun i hi => ?_, ⟨k, by omega, rfl, rfl⟩, fun i hi he => ?_, ⟨k, by omega, rfl, rfl⟩, fun i hi he => ?_⟩
      · rcases sp i hi with c | c
        · have := a3 i c
          show _ ≤ w_F N t g k p q
          omega
        · rw [c]; exact Int.le_refl _
      · rcases sp i hi with c | c
        · exact absurd (no i c he) id
        · rw [c]; exact Int.le_refl _
      · rcases sp i hi with c | c
        · exact absurd (no i c he) id
        · rw [c]; exact Int.le_refl _
    · by_cases g2 : w_F N t g k p q = x.1
      · have e : w_ts N t g p q k x = (x.1, (if w_s1 N t g k p q < x.2.1 then w_s1 N t g k p q else x.2.1), (if x.2.2 < w_s2 N t g k p q then w_s2 N t g k p q else x.2.2)) := by
          unfold w_ts
          rw [if_neg g1, if_pos g2]
        rw [e]
        refine ⟨⟨k, by omega, g2⟩, fun i hi => ?_, ?_, fun i hi he => ?_, ?_, fun i hi he => ?_⟩
        · rcases sp i hi with c | c
          · exact a3 i c
          · rw [c, g2]; exact Int.le_refl _
        · by_cases g3 : w_s1 N t g k p q < x.2.1
          · refine ⟨k, by omega, g2, ?_⟩
            show (if _ then _ else _) = _
            rw [if_pos g3]
          · refine ⟨i2, by omega, b2, ?_⟩
            show (if _ then _ else _) = _
            rw [if_neg g3, b3]
        · show (if _ then _ else _) ≤ _
          rcases sp i hi with c | c
          · have := b4 i c he
            split <;> omega
          · rw [c]
            split <;> omega
        · by_cases g3 : x.2.2 < w_s2 N t g k p q
          · refine ⟨k, by omega, g2, ?_⟩
            show (if _ then _ else _) = _
            rw [if_pos g3]
          · refine ⟨i3, by omega, c2, ?_⟩
            show (if _ then _ else _) = _
            rw [if_neg g3, c3]
        · show _ ≤ (if _ then _ else _)
          rcases sp i hi with c | c
          · have := c4 i c he
            split <;> omega
          · rw [c]
            split <;> omega
      · have e : w_ts N t g p q k x = x := by
          unfold w_ts
          rw [if_neg g1, if_neg g2]
        rw [e]
        refine ⟨⟨i1, by omega, a2⟩, fun i hi => ?_, ⟨i2, by omega, b2, b3⟩, fun i hi he => ?_, ⟨i3, by omega, c2, c3⟩, fun i hi he => ?_⟩
        · rcases sp i hi with c | c
          · exact a3 i c
          · rw [c]; omega
        · rcases sp i hi with c | c
          · exact b4 i c he
          · rw [c] at he; exact absurd he g2
        · rcases sp i hi with c | c
          · exact c4 i c he
          · rw [c] at he; exact absurd he g2
theorem w_tk_b (hw : q_wf N) (hc : w_cn N) (hg : g < w_ne N) (hk : k ≤ w_nn N) (hp : w_pq N t g p q) (ht2 : t ≤ 10) (h : w_tk N t g p q k x) : -1 ≤ x.1 ∧ x.1 ≤ 251885700 ∧ -99 ≤ x.2.1 ∧ x.2.1 ≤ 99 ∧ -99 ≤ x.2.2 ∧ x.2.2 ≤ 99 := by
  have n8 := (wf_n hw).2.2
  rcases h with ⟨c, rfl⟩ | ⟨hk, ⟨i1, a1, a2⟩, a3, ⟨i2, b1, b2, b3⟩, b4, ⟨i3, c1, c2, c3⟩, c4⟩
  · exact ⟨by decide, by decide, by decide, by decide, by decide, by decide⟩
  · have f1 := w_Fb hw hc hg (i := i1) (by omega) hp
    have f2 := w_Wb hw (i := i2) (by omega) hp.2.2.2.1
    have f3 := w_Wb hw (i := i3) (by omega) hp.2.2.2.1
    unfold w_s1 at b3
    unfold w_s2 at c3
    split at b3 <;> split at c3 <;> omega
end
section
variable {Z : mZ} {K : Nat → mK} {σ N : Nat → Nat → Int} {e s g i : Nat} {t p q : Int}
theorem s_turns (hL : q_lay K) (hv : v_a σ N t) (hw : q_wf N) (hc : w_cn N) (hg : g < w_ne N) (hp : w_pq N t g p q) (ht2 : t ≤ 10) (h1 : σ 170 1 = (g : Int)) : ∃ x, m_cl Z 40 [(2, ((170 : Nat) : Int)), (0, p), (0, q)] (K, σ, 191, e, s) = some (.inl (0, if x.2.1 = x.2.2 then 0 else 1), (K, m_up2 σ 170 2 x.1, 191, e, s)) ∧ w_tk N t g p q (w_nn N) x := by
  have n8 := (wf_n hw).2.2
  have hn := v_n hv.1 hw
  obtain ⟨y, l1, l2⟩ := q_loop (Z := Z) (N := w_nn N) (S := fun i (x : (Int × Int × Int) × mV × mV × mV × mV × mV × mV) => (40, 11, [(2, ((170 : Nat) : Int)), (0, p), (0, q), (0, x.1.1), (0, x.1.2.1), (0, x.1.2.2), (0, (i : Int)), x.2.1, x.2.2.1, x.2.2.2.1, x.2.2.2.2.1, x.2.2.2.2.2.1, x.2.2.2.2.2.2], [], (K, σ, 191, e, s))) (P := fun i x => w_tk N t g p q i x.1) (by
    intro i x hi hx
    have c0 : ¬ (w_nn N : Int) ≤ (i : Int) := by omega
    have e1 : (((i + 1 : Nat)) : Int) = (i : Int) + 1 := by omega
    have bx := w_tk_b hw hc hg (k := i) (by omega) hp ht2 hx
    have bF := w_Fb hw hc hg hi hp
    have bR := w_Rb hw hc hg hi hp
    have bW := w_Wb hw (i := i) (by omega) hp.2.2.2.1
    have hs := w_tk_s bF.1 hx
    obtain ⟨⟨h, bf, bh⟩, m1, m2, m3, m4, m5, m6⟩ := x
    dsimp only at *
    refine ⟨(w_ts N t g p q i (h, bf, bh), (0, w_W N t i), (0, w_o N g i * q + p), (0, w_b N g i * q - p), (0, w_F N t g i p q), (0, w_s1 N t g i p q), (0, w_s2 N t g i p q)), ?_, hs⟩
    have i8 : i < 8 := by omega
    have o1 := (v_out hv.2.2.2 hw hg hi).1
    have o2 := (v_out hv.2.2.2 hw hg hi).2
    have wh : w32 h = h := by clear o1 o2 hn; exact q_wB (by omega) (by omega)
    have wbf : w32 bf = bf := by clear o1 o2 hn wh; exact q_wB (by omega) (by omega)
    have wbh : w32 bh = bh := by clear o1 o2 hn wh wbf; exact q_wB (by omega) (by omega)
    have wF : w32 (w_F N t g i p q) = w_F N t g i p q := by clear o1 o2 hn wh wbf wbh; exact q_wB (by omega) (by omega)
    have wO : w32 (w_o N g i * q + p) = w_o N g i * q + p := by clear o1 o2 hn wh wbf wbh wF; exact q_wB (by omega) (by omega)
    have wB : w32 (w_b N g i * q - p) = w_b N g i * q - p := by clear o1 o2 hn wh wbf wbh wF wO; exact q_wB (by omega) (by omega)
    have wW : w32 (w_W N t i) = w_W N t i := by clear o1 o2 hn wh wbf wbh wF wO wB; exact q_wB (by omega) (by omega)
    have wV : w32 (-w_W N t i) = -w_W N t i := by clear o1 o2 hn wh wbf wbh wF wO wB wW; exact q_wB (by omega) (by omega)
    have w0 : w32 (i : Int) = (i : Int) := q_w (by clear o1 o2 hn wh wbf wbh wF wO wB wW wV; omega)
    have fF : w_W N t i * (if w_b N g i * q - p < w_o N g i * q + p then w_b N g i * q - p else w_o N g i * q + p) = w_F N t g i p q := rfl
    conv => lhs; simp only [b_40_11, ↓reduceIte, Nat.reduceEqDiff, Nat.reduceMul, q_n10, q_n01, Option.bind_some, g_aft0, g_aft1, g_aft2, g_aft3, g_aft9, Nat.reduceAdd, m_kill_0, m_kill_2, m_kill_3, m_kill_4, m_kill_9, true_or, or_true, q_lm1, q_l0, q_l1, q_l2, q_l3, q_l4, q_l5, q_l6, q_l8, q_l9, q_l10, q_l12, q_l32, q_l50, q_l120, q_l122, q_l126, q_l372, q_l1000, q_l1000000, q_outF hL.2.2.2.1, q_surF hL.2.2.1, q_tkF hL.2.1, s_nodes hL]
    simp only [b_40_0, b_40_20, b_40_23, b_40_32, b_40_47, b_40_66, b_40_91, b_40_96, b_40_99, b_40_108, b_40_113, b_40_116, b_40_124, b_40_138, b_40_144, b_40_162, b_40_168, b_40_180, b_40_184, b_40_185, ↓reduceIte, Nat.reduceEqDiff, Nat.reduceMul, q_n10, q_n01, Option.bind_some, g_aft0, g_aft1, g_aft2, g_aft3, g_aft9, Nat.reduceAdd, m_kill_0, m_kill_2, m_kill_3, m_kill_4, m_kill_9, true_or, or_true, q_lm1, q_l0, q_l1, q_l2, q_l3, q_l4, q_l5, q_l6, q_l8, q_l9, q_l10, q_l12, q_l32, q_l50, q_l120, q_l122, q_l126, q_l372, q_l1000, q_l1000000, q_outF hL.2.2.2.1, q_surF hL.2.2.1, q_tkF hL.2.1, hn, w0, c0, s_weightOf hL, v_wgt hv.2.1 i8, s_wayOut hL, s_wayBack hL, h1, o1, o2, wO, wB, fF, wh, wF]
    clear o1 o2 hn w0
    unfold w_ts w_s1 w_s2
    by_cases g1 : w_b N g i * q - p < w_o N g i * q + p
    · have g2 : w_b N g i * q - p ≤ w_o N g i * q + p := Int.le_of_lt g1
      by_cases g3 : h < w_F N t g i p q
      · simp [g1, g2, g3, Int.not_le.mpr g3]
      · by_cases g4 : w_F N t g i p q = h
        · simp [g1, g2, g4, wbf, wbh, wV]
        · simp [g1, g2, g3, g4, Int.not_lt.mp g3]
    · by_cases g2 : w_b N g i * q - p ≤ w_o N g i * q + p
      · by_cases g3 : h < w_F N t g i p q
        · simp [g1, g2, g3, Int.not_le.mpr g3]
        · by_cases g4 : w_F N t g i p q = h
          · simp [g1, g2, g4, wbf, wbh, wV, wW]
          · simp [g1, g2, g3, g4, Int.not_lt.mp g3]
      · by_cases g3 : h < w_F N t g i p q
        · simp [g1, g2, g3, Int.not_le.mpr g3]
        · by_cases g4 : w_F N t g i p q = h
          · simp [g1, g2, g4, wbf, wbh, wW]
          · simp [g1, g2, g3, g4, Int.not_lt.mp g3]) (w_nn N) 0 ((-1, 0, 0), (9, 0), (9, 0), (9, 0), (9, 0), (9, 0), (9, 0)) (by omega) (Or.inl ⟨rfl, rfl⟩)
  refine ⟨y.1, ?_, l2⟩
  have bx := w_tk_b hw hc hg (Nat.le_refl _) hp ht2 l2
  have wbf : w32 y.1.2.1 = y.1.2.1 := by clear hn; exact q_wB (by omega) (by omega)
  have wbh : w32 y.1.2.2 = y.1.2.2 := by clear hn wbf; exact q_wB (by omega) (by omega)
  have w9 : w32 (w_nn N : Int) = (w_nn N : Int) := by clear hn wbf wbh; exact q_w (by omega)
  rw [e_40, b_40_0]
  refine l1.trans ?_
  simp only [b_40_11, b_40_20, b_40_168, b_40_180, b_40_184, b_40_185, ↓reduceIte, Nat.reduceEqDiff, Nat.reduceMul, q_n10, q_n01, Option.bind_some, g_aft0, g_aft1, g_aft2, g_aft3, g_aft9, Nat.reduceAdd, m_kill_0, m_kill_2, m_kill_3, m_kill_4, m_kill_9, true_or, or_true, q_lm1, q_l0, q_l1, q_l2, q_l3, q_l4, q_l5, q_l6, q_l8, q_l9, q_l10, q_l12, q_l32, q_l50, q_l120, q_l122, q_l126, q_l372, q_l1000, q_l1000000, q_outF hL.2.2.2.1, q_surF hL.2.2.1, q_tkF hL.2.1, s_nodes hL, hn, w9, Int.le_refl, wbf, wbh, true_or, or_true]
  by_cases c : y.1.2.1 = y.1.2.2
  · rw [if_pos c, if_pos c]
  · rw [if_neg c, if_neg c]
end
end
