section
/-! The model: slopes. -/
section
variable {Z : mZ} {K : Nat → mK} {σ τ N M : Nat → Nat → Int} {e g i L n c k s a b : Nat} {t p q v x y z w u S : Int} {X : Nat → Int} {h : mH} {R : Nat → Nat → Nat → Int} {T : Nat → Int}
theorem w_H_ge {n : Nat} : ∀ i, i < n → q_bt S i = true → w_F N t g i p q ≤ w_H N t S g p q n := by
  induction n with
  | zero => intro i hi; omega
  | succ n ih =>
    intro i hi hb
    show _ ≤ if q_bt S n = true ∧ w_H N t S g p q n < w_F N t g n p q then w_F N t g n p q else w_H N t S g p q n
    by_cases c : i = n
    · subst c
      split
      · exact Int.le_refl _
      · next h => exact Int.not_lt.mp (fun q => h ⟨hb, q⟩)
    · have := ih i (by omega) hb
      split <;> omega
theorem w_H_at {n : Nat} : (w_H N t S g p q n = 0) ∨ ∃ i, i < n ∧ q_bt S i = true ∧ w_F N t g i p q = w_H N t S g p q n := by
  induction n with
  | zero => exact Or.inl rfl
  | succ n ih =>
    show ((if q_bt S n = true ∧ w_H N t S g p q n < w_F N t g n p q then w_F N t g n p q else w_H N t S g p q n) = 0) ∨ ∃ i, i < n + 1 ∧ q_bt S i = true ∧ w_F N t g i p q = (if q_bt S n = true ∧ w_H N t S g p q n < w_F N t g n p q then w_F N t g n p q else w_H N t S g p q n)
    by_cases c : q_bt S n = true ∧ w_H N t S g p q n < w_F N t g n p q
    · rw [if_pos c]
      exact Or.inr ⟨n, by omega, c.1, rfl⟩
    · rw [if_neg c]
      rcases ih with ih | ⟨i, h1, h2, h3⟩
      · exact Or.inl ih
      · exact Or.inr ⟨i, by omega, h2, h3⟩
theorem w_all_bt (hw : q_wf N) {i : Nat} (hi : i < w_nn N) : q_bt ((2 ^ w_nn N - 1 : Nat) : Int) i = true := by
  have n8 := (wf_n hw).2.2
  exact q_allN ⟨w_nn N, by omega⟩ ⟨i, by omega⟩ hi
theorem w_H_top (hw : q_wf N) (hc : w_cn N) (hg : g < w_ne N) (hp : w_pq N t g p q) : w_top N t g p q (w_H N t ((2 ^ w_nn N - 1 : Nat) : Int) g p q (w_nn N)) := by
  have n0 := wf_n hw
  refine ⟨?_, fun i hi => w_H_ge i hi (w_all_bt hw hi)⟩
  rcases w_H_at (N := N) (t := t) (g := g) (p := p) (q := q) (S := ((2 ^ w_nn N - 1 : Nat) : Int)) (n := w_nn N) with h0 | ⟨i, h1, -, h3⟩
  · have h1 := w_H_ge (N := N) (t := t) (g := g) (p := p) (q := q) (n := w_nn N) 0 (by omega) (w_all_bt hw (i := 0) (by omega))
    have h2 := w_Fb hw hc hg (i := 0) (by omega) hp
    exact ⟨0, by omega, by omega⟩
  · exact ⟨i, h1, h3⟩
/-- slopes of the highest lines so far -/
def z_sl (N : Nat → Nat → Int) (t : Int) (g : Nat) (p q top : Int) (sl : Nat → Int) (le : Int → Int → Prop) (k : Nat) (f s : Int) : Prop := (f = 1 ∧ s = 0 ∧ ∀ i, i < k → w_F N t g i p q ≠ top) ∨ (f = 0 ∧ (∃ i, i < k ∧ w_F N t g i p q = top ∧ s = sl i) ∧ ∀ i, i < k → w_F N t g i p q = top → le (sl i) s)
theorem z_sl_n {sl : Nat → Int} {le : Int → Int → Prop} {f : Int} {k : Nat} {v : Int} {top : Int} (h : z_sl N t g p q top sl le k f v) (hn : w_F N t g k p q ≠ top) : z_sl N t g p q top sl le (k + 1) f v := by
  rcases h with ⟨h1, h2, h3⟩ | ⟨h1, ⟨i, h2, h3, h4⟩, h5⟩
  · refine Or.inl ⟨h1, h2, fun i hi => ?_⟩
    rcases Nat.lt_succ_iff_lt_or_eq.mp hi with c | c
    · exact h3 i c
    · subst c; exact hn
  · refine Or.inr ⟨h1, ⟨i, by omega, h3, h4⟩, fun i hi h => ?_⟩
    rcases Nat.lt_succ_iff_lt_or_eq.mp hi with c | c
    · exact h5 i c h
    · subst c; exact absurd h hn
theorem z_sl_new {sl : Nat → Int} {le : Int → Int → Prop} {f : Int} {k : Nat} {v : Int} {top : Int} (h : z_sl N t g p q top sl le k f v) (hn : w_F N t g k p q = top) (hr : le (sl k) (sl k)) (ht : f = 0 → ∀ i, i < k → le (sl i) v → le (sl i) (sl k)) : z_sl N t g p q top sl le (k + 1) 0 (sl k) := by
  refine Or.inr ⟨rfl, ⟨k, by omega, hn, rfl⟩, fun i hi h' => ?_⟩
  rcases Nat.lt_succ_iff_lt_or_eq.mp hi with c | c
  · rcases h with ⟨h1, h2, h3⟩ | ⟨h1, -, h5⟩
    · exact absurd h' (h3 i c)
    · exact ht h1 i c (h5 i c h')
  · subst c; exact hr
theorem z_sl_old {sl : Nat → Int} {le : Int → Int → Prop} {k : Nat} {v : Int} {top : Int} (h : z_sl N t g p q top sl le k 0 v) (hl : le (sl k) v) : z_sl N t g p q top sl le (k + 1) 0 v := by
  rcases h with ⟨h1, -⟩ | ⟨h1, ⟨i, h2, h3, h4⟩, h5⟩
  · exact absurd h1 (by decide)
  · refine Or.inr ⟨h1, ⟨i, by omega, h3, h4⟩, fun i hi h => ?_⟩
    rcases Nat.lt_succ_iff_lt_or_eq.mp hi with c | c
    · exact h5 i c h
    · subst c; exact hl
theorem w_s12b (hw : q_wf N) (ht : 0 ≤ t) (ht2 : t ≤ 10) (hi : i < 8) : -99 ≤ w_s1 N t g i p q ∧ w_s1 N t g i p q ≤ 99 ∧ -99 ≤ w_s2 N t g i p q ∧ w_s2 N t g i p q ≤ 99 := by
  have h := w_Wb hw hi ht
  unfold w_s1 w_s2
  split <;> split <;> omega
theorem z_sl_f {sl : Nat → Int} {le : Int → Int → Prop} {f : Int} {k : Nat} {v : Int} {top : Int} (h : z_sl N t g p q top sl le k f v) : f = 0 ∨ f = 1 := by
  rcases h with h | h
  · exact Or.inr h.1
  · exact Or.inl h.1
theorem z_sl_b {sl : Nat → Int} {le : Int → Int → Prop} {f : Int} {k : Nat} {v : Int} {top : Int} (h : z_sl N t g p q top sl le k f v) (hb : ∀ i, i < k → -99 ≤ sl i ∧ sl i ≤ 99) : -99 ≤ v ∧ v ≤ 99 := by
  rcases h with ⟨-, h, -⟩ | ⟨-, ⟨i, h1, -, h3⟩, -⟩
  · omega
  · have := hb i h1; omega
theorem z_slope2 (hL : q_lay K) (h : z_sur σ N t) (ht : 0 ≤ t) (ht2 : t ≤ 10) (hg : g < w_ne N) (hp : w_pq N t g p q) {top : Int} (htop : top = w_H N t ((2 ^ w_nn N - 1 : Nat) : Int) g p q (w_nn N)) : ∃ v, m_cl Z 211 [(2, ((191 : Nat) : Int)), (0, (g : Int)), (1, p), (1, q), (0, 1)] (K, σ, 206, e, s) = some (.inl (1, v), (K, σ, 206, e, s)) ∧ (∃ i, i < w_nn N ∧ w_F N t g i p q = top ∧ v = w_s2 N t g i p q) ∧ ∀ i, i < w_nn N → w_F N t g i p q = top → w_s2 N t g i p q ≤ v := by
  have hw := h.1.1
  have hc := h.2.2.2
  have n0 := wf_n hw
  have hall := w_all1 n0.2.2
  have hH := z_height (Z := Z) (e := e) (s := s) (S := ((2 ^ w_nn N - 1 : Nat) : Int)) hL h ht ht2 hg hp
  have hT := w_H_top hw hc hg hp
  have hb := w_Hb hw hc hg hp (S := ((2 ^ w_nn N - 1 : Nat) : Int)) (w_nn N) (Nat.le_refl _)
  rw [← htop] at hH hT hb
  clear htop
  have hmn := z_many (Z := Z) (e := e) (s := s) hL h.1
  rw [n0.1] at hmn
  have wn : w32 (w_nn N : Int) = (w_nn N : Int) := q_w (by clear hall; omega)
  have n10 : ¬ (1 : Int) = 0 := by decide
  obtain ⟨y, y1, y2⟩ := q_loop (Z := Z) (N := w_nn N) (α := Int × Int × mV × mV × mV × mV × mV × mV × mV) (S := fun i x => (211, 27, [(2, ((191 : Nat) : Int)), (0, (g : Int)), (1, p), (9, 0), (1, q), (9, 0), (0, 1), (1, top), (9, 0), (1, x.1), (9, 0), (0, x.2.1), (0, (i : Int)), x.2.2.1, x.2.2.2.1, x.2.2.2.2.1, x.2.2.2.2.2.1, x.2.2.2.2.2.2.1, x.2.2.2.2.2.2.2.1, x.2.2.2.2.2.2.2.2], [], (K, σ, 206, e, s))) (P := fun i x => z_sl N t g p q top (fun i => w_s2 N t g i p q) (fun a b => a ≤ b) i x.2.1 x.1) (by
    rintro i ⟨v, f, l13, l14, l15, l16, l17, l18, l19⟩ hi hx
    have hx : z_sl N t g p q top (fun i => w_s2 N t g i p q) (fun a b => a ≤ b) i f v := hx
    have hf := z_sl_f hx
    have hv := z_sl_b hx (fun j hj => by have := w_s12b hw ht ht2 (g := g) (p := p) (q := q) (i := j) (by clear hall wn; omega); show -99 ≤ w_s2 N t g j p q ∧ w_s2 N t g j p q ≤ 99; omega)
    obtain ⟨a1, a2, a3⟩ := z_aw (Z := Z) (e := e) (s := s) hL h hg hi hp
    have wi : w32 (i : Int) = (i : Int) := q_w (by clear hall wn; omega)
    have c0 : ¬ (w_nn N : Int) ≤ (i : Int) := by clear hall wn wi; omega
    have p0 : 0 ≤ (i : Int) := by clear hall wn wi; omega
    have p1 : (i : Int) < ((8 : Nat) : Int) := by clear hall wn wi; omega
    have tn : ((i : Int)).toNat = i := rfl
    have hwt := h.2.2.1 i hi
    have bw := w_Wb hw (show i < 8 by clear hall wn wi; omega) ht
    have ww : w32 (w_W N t i) = w_W N t i := by clear hall wn wi; exact q_wi (by omega) (by omega)
    have wnw : w32 (-w_W N t i) = -w_W N t i := by clear hall wn wi ww; exact q_wi (by omega) (by omega)
    have hF := w_Fb hw hc hg hi hp
    have eF : w_W N t i * w_R N g i p q = w_F N t g i p q := rfl
    have wF : w64 (w_F N t g i p q) = w_F N t g i p q := by clear hall wn wi ww wnw; exact q_w64 (by omega) (by omega)
    have wT : w64 top = top := by clear hall wn wi ww wnw wF; exact q_w64 (by omega) (by omega)
    have hc0 : (w32 (l_cmp (w_F N t g i p q) top) = 0) = (w_F N t g i p q = top) := l_ce wF wT
    have hR := w_Rb hw hc hg hi hp
    have wA : w64 (w_o N g i * q + p) = w_o N g i * q + p := by clear hall wn wi ww wnw wF wT hc0; exact q_w64 (by omega) (by omega)
    have wB : w64 (w_b N g i * q - p) = w_b N g i * q - p := by clear hall wn wi ww wnw wF wT hc0 wA; exact q_w64 (by omega) (by omega)
    have wv : w64 v = v := by clear hall wn wi ww wnw wF wT hc0 wA wB; exact q_w64 (by omega) (by omega)
    have hc1 : (0 ≤ w32 (l_cmp (w_o N g i * q + p) (w_b N g i * q - p))) = (w_b N g i * q - p ≤ w_o N g i * q + p) := l_cge wA wB
    have hc2 : ∀ m, -99 ≤ m → m ≤ 99 → (w32 (l_cmp m v) ≤ 0) = (m ≤ v) := fun m m1 m2 => l_cle (q_w64 (by omega) (by omega)) wv
    have wf : w32 f = f := by rcases hf with d | d <;> rw [d] <;> decide
    have ei : ((i + 1 : Nat) : Int) = (i : Int) + 1 := rfl
    have esl : w_s2 N t g i p q = if w_b N g i * q - p ≤ w_o N g i * q + p then -w_W N t i else w_W N t i := rfl
    clear wF wT wA wB wv
    by_cases d0 : w_F N t g i p q = top
    · have hc0t := hc0.trans (eq_true d0)
      by_cases d1 : w_b N g i * q - p ≤ w_o N g i * q + p
      · rw [if_pos d1] at esl
        have hc2' := hc2 (-w_W N t i) (by clear hall wn wi ww wnw hc0 hc1; omega) (by clear hall wn wi ww wnw hc0 hc1; omega)
        by_cases d2 : f = 0
        · subst d2
          by_cases d3 : -w_W N t i ≤ v
          · refine ⟨(v, 0, (1, w_o N g i * q + p), (9, 0), (1, w_b N g i * q - p), (9, 0), (0, 0), (1, -w_W N t i), (9, 0)), ?_, z_sl_old hx (by show w_s2 N t g i p q ≤ v; rw [esl]; exact d3)⟩
            rw [ei]
            conv => lhs; simp only [b_211_27, ↓reduceIte, Nat.reduceEqDiff, Nat.reduceMul, q_n10, q_n01, Option.bind_some, g_aft0, g_aft1, g_aft2, g_aft3, g_aft9, Nat.reduceAdd, m_kill_0, m_kill_2, m_kill_3, m_kill_4, m_kill_9, true_or, or_true, q_lm1, q_l0, q_l1, q_l2, q_l3, q_l4, q_l5, q_l6, q_l8, q_l9, q_l10, q_l12, q_l17, q_l32, q_l35, q_l48, q_l50, q_l54, q_l57, q_l64, q_l73, q_l118, q_l119, q_l120, q_l122, q_l126, q_l160, q_l256, q_l365, q_l372, q_l438, q_l1000, q_l100000, q_l1000000, q_modF hL.2.2.2.2.2.2.1, hmn]
            conv => lhs; simp only [b_211_33, b_211_0, b_211_6, b_211_16, b_211_33, b_211_36, b_211_54, b_211_61, b_211_71, b_211_83, b_211_90, b_211_98, b_211_102, b_211_106, b_211_114, b_211_118, b_211_119, b_211_126, b_211_137, b_211_146, b_211_153, b_211_158, b_211_166, b_211_169, b_211_177, b_211_182, b_211_184, b_211_189, b_211_195, ↓reduceIte, Nat.reduceEqDiff, Nat.reduceMul, q_n10, q_n01, Option.bind_some, g_aft0, g_aft1, g_aft2, g_aft3, g_aft9, Nat.reduceAdd, m_kill_0, m_kill_2, m_kill_3, m_kill_4, m_kill_9, true_or, or_true, q_lm1, q_l0, q_l1, q_l2, q_l3, q_l4, q_l5, q_l6, q_l8, q_l9, q_l10, q_l12, q_l17, q_l32, q_l35, q_l48, q_l50, q_l54, q_l57, q_l64, q_l73, q_l118, q_l119, q_l120, q_l122, q_l126, q_l160, q_l256, q_l365, q_l372, q_l438, q_l1000, q_l100000, q_l1000000, q_modF hL.2.2.2.2.2.2.1, wi, wn, c0, p0, p1, tn, hwt, ww, wnw, a1, a2, a3, eF, hc0t, hc1, d1, hc2', d3, n10]
          · refine ⟨(w_s2 N t g i p q, 0, (1, w_o N g i * q + p), (9, 0), (1, w_b N g i * q - p), (9, 0), (0, 0), (1, -w_W N t i), (9, 0)), ?_, z_sl_new hx d0 (Int.le_refl _) (fun _ j hj hl => by show w_s2 N t g j p q ≤ w_s2 N t g i p q; have hl : w_s2 N t g j p q ≤ v := hl; rw [esl]; clear hall wn wi ww wnw hc0 hc1 hc2'; omega)⟩
            rw [ei, esl]
            conv => lhs; simp only [b_211_27, ↓reduceIte, Nat.reduceEqDiff, Nat.reduceMul, q_n10, q_n01, Option.bind_some, g_aft0, g_aft1, g_aft2, g_aft3, g_aft9, Nat.reduceAdd, m_kill_0, m_kill_2, m_kill_3, m_kill_4, m_kill_9, true_or, or_true, q_lm1, q_l0, q_l1, q_l2, q_l3, q_l4, q_l5, q_l6, q_l8, q_l9, q_l10, q_l12, q_l17, q_l32, q_l35, q_l48, q_l50, q_l54, q_l57, q_l64, q_l73, q_l118, q_l119, q_l120, q_l122, q_l126, q_l160, q_l256, q_l365, q_l372, q_l438, q_l1000, q_l100000, q_l1000000, q_modF hL.2.2.2.2.2.2.1, hmn]
            conv => lhs; simp only [b_211_33, b_211_0, b_211_6, b_211_16, b_211_33, b_211_36, b_211_54, b_211_61, b_211_71, b_211_83, b_211_90, b_211_98, b_211_102, b_211_106, b_211_114, b_211_118, b_211_119, b_211_126, b_211_137, b_211_146, b_211_153, b_211_158, b_211_166, b_211_169, b_211_177, b_211_182, b_211_184, b_211_189, b_211_195, ↓reduceIte, Nat.reduceEqDiff, Nat.reduceMul, q_n10, q_n01, Option.bind_some, g_aft0, g_aft1, g_aft2, g_aft3, g_aft9, Nat.reduceAdd, m_kill_0, m_kill_2, m_kill_3, m_kill_4, m_kill_9, true_or, or_true, q_lm1, q_l0, q_l1, q_l2, q_l3, q_l4, q_l5, q_l6, q_l8, q_l9, q_l10, q_l12, q_l17, q_l32, q_l35, q_l48, q_l50, q_l54, q_l57, q_l64, q_l73, q_l118, q_l119, q_l120, q_l122, q_l126, q_l160, q_l256, q_l365, q_l372, q_l438, q_l1000, q_l100000, q_l1000000, q_modF hL.2.2.2.2.2.2.1, wi, wn, c0, p0, p1, tn, hwt, ww, wnw, a1, a2, a3, eF, hc0t, hc1, d1, hc2', d3, n10]
        · have d2' : f = 1 := by clear hall wn wi ww wnw hc0 hc1 hc2' wf; omega
          subst d2'
          refine ⟨(w_s2 N t g i p q, 0, (1, w_o N g i * q + p), (9, 0), (1, w_b N g i * q - p), (9, 0), (0, 0), (1, -w_W N t i), (9, 0)), ?_, z_sl_new hx d0 (Int.le_refl _) (fun q => absurd q (by decide))⟩
          rw [ei, esl]
          conv => lhs; simp only [b_211_27, ↓reduceIte, Nat.reduceEqDiff, Nat.reduceMul, q_n10, q_n01, Option.bind_some, g_aft0, g_aft1, g_aft2, g_aft3, g_aft9, Nat.reduceAdd, m_kill_0, m_kill_2, m_kill_3, m_kill_4, m_kill_9, true_or, or_true, q_lm1, q_l0, q_l1, q_l2, q_l3, q_l4, q_l5, q_l6, q_l8, q_l9, q_l10, q_l12, q_l17, q_l32, q_l35, q_l48, q_l50, q_l54, q_l57, q_l64, q_l73, q_l118, q_l119, q_l120, q_l122, q_l126, q_l160, q_l256, q_l365, q_l372, q_l438, q_l1000, q_l100000, q_l1000000, q_modF hL.2.2.2.2.2.2.1, hmn]
          conv => lhs; simp only [b_211_33, b_211_0, b_211_6, b_211_16, b_211_33, b_211_36, b_211_54, b_211_61, b_211_71, b_211_83, b_211_90, b_211_98, b_211_102, b_211_106, b_211_114, b_211_118, b_211_119, b_211_126, b_211_137, b_211_146, b_211_153, b_211_158, b_211_166, b_211_169, b_211_177, b_211_182, b_211_184, b_211_189, b_211_195, ↓reduceIte, Nat.reduceEqDiff, Nat.reduceMul, q_n10, q_n01, Option.bind_some, g_aft0, g_aft1, g_aft2, g_aft3, g_aft9, Nat.reduceAdd, m_kill_0, m_kill_2, m_kill_3, m_kill_4, m_kill_9, true_or, or_true, q_lm1, q_l0, q_l1, q_l2, q_l3, q_l4, q_l5, q_l6, q_l8, q_l9, q_l10, q_l12, q_l17, q_l32, q_l35, q_l48, q_l50, q_l54, q_l57, q_l64, q_l73, q_l118, q_l119, q_l120, q_l122, q_l126, q_l160, q_l256, q_l365, q_l372, q_l438, q_l1000, q_l100000, q_l1000000, q_modF hL.2.2.2.2.2.2.1, wi, wn, c0, p0, p1, tn, hwt, ww, wnw, a1, a2, a3, eF, hc0t, hc1, d1, n10]
      · rw [if_neg d1] at esl
        have hc2' := hc2 (w_W N t i) (by clear hall wn wi ww wnw hc0 hc1; omega) (by clear hall wn wi ww wnw hc0 hc1; omega)
        by_cases d2 : f = 0
        · subst d2
          by_cases d3 : w_W N t i ≤ v
          · refine ⟨(v, 0, (1, w_o N g i * q + p), (9, 0), (1, w_b N g i * q - p), (9, 0), (0, 1), (1, w_W N t i), (9, 0)), ?_, z_sl_old hx (by show w_s2 N t g i p q ≤ v; rw [esl]; exact d3)⟩
            rw [ei]
            conv => lhs; simp only [b_211_27, ↓reduceIte, Nat.reduceEqDiff, Nat.reduceMul, q_n10, q_n01, Option.bind_some, g_aft0, g_aft1, g_aft2, g_aft3, g_aft9, Nat.reduceAdd, m_kill_0, m_kill_2, m_kill_3, m_kill_4, m_kill_9, true_or, or_true, q_lm1, q_l0, q_l1, q_l2, q_l3, q_l4, q_l5, q_l6, q_l8, q_l9, q_l10, q_l12, q_l17, q_l32, q_l35, q_l48, q_l50, q_l54, q_l57, q_l64, q_l73, q_l118, q_l119, q_l120, q_l122, q_l126, q_l160, q_l256, q_l365, q_l372, q_l438, q_l1000, q_l100000, q_l1000000, q_modF hL.2.2.2.2.2.2.1, hmn]
            conv => lhs; simp only [b_211_33, b_211_0, b_211_6, b_211_16, b_211_33, b_211_36, b_211_54, b_211_61, b_211_71, b_211_83, b_211_90, b_211_98, b_211_102, b_211_106, b_211_114, b_211_118, b_211_119, b_211_126, b_211_137, b_211_146, b_211_153, b_211_158, b_211_166, b_211_169, b_211_177, b_211_182, b_211_184, b_211_189, b_211_195, ↓reduceIte, Nat.reduceEqDiff, Nat.reduceMul, q_n10, q_n01, Option.bind_some, g_aft0, g_aft1, g_aft2, g_aft3, g_aft9, Nat.reduceAdd, m_kill_0, m_kill_2, m_kill_3, m_kill_4, m_kill_9, true_or, or_true, q_lm1, q_l0, q_l1, q_l2, q_l3, q_l4, q_l5, q_l6, q_l8, q_l9, q_l10, q_l12, q_l17, q_l32, q_l35, q_l48, q_l50, q_l54, q_l57, q_l64, q_l73, q_l118, q_l119, q_l120, q_l122, q_l126, q_l160, q_l256, q_l365, q_l372, q_l438, q_l1000, q_l100000, q_l1000000, q_modF hL.2.2.2.2.2.2.1, wi, wn, c0, p0, p1, tn, hwt, ww, wnw, a1, a2, a3, eF, hc0t, hc1, d1, hc2', d3, n10]
          · refine ⟨(w_s2 N t g i p q, 0, (1, w_o N g i * q + p), (9, 0), (1, w_b N g i * q - p), (9, 0), (0, 1), (1, w_W N t i), (9, 0)), ?_, z_sl_new hx d0 (Int.le_refl _) (fun _ j hj hl => by show w_s2 N t g j p q ≤ w_s2 N t g i p q; have hl : w_s2 N t g j p q ≤ v := hl; rw [esl]; clear hall wn wi ww wnw hc0 hc1 hc2'; omega)⟩
            rw [ei, esl]
            conv => lhs; simp only [b_211_27, ↓reduceIte, Nat.reduceEqDiff, Nat.reduceMul, q_n10, q_n01, Option.bind_some, g_aft0, g_aft1, g_aft2, g_aft3, g_aft9, Nat.reduceAdd, m_kill_0, m_kill_2, m_kill_3, m_kill_4, m_kill_9, true_or, or_true, q_lm1, q_l0, q_l1, q_l2, q_l3, q_l4, q_l5, q_l6, q_l8, q_l9, q_l10, q_l12, q_l17, q_l32, q_l35, q_l48, q_l50, q_l54, q_l57, q_l64, q_l73, q_l118, q_l119, q_l120, q_l122, q_l126, q_l160, q_l256, q_l365, q_l372, q_l438, q_l1000, q_l100000, q_l1000000, q_modF hL.2.2.2.2.2.2.1, hmn]
            conv => lhs; simp only [b_211_33, b_211_0, b_211_6, b_211_16, b_211_33, b_211_36, b_211_54, b_211_61, b_211_71, b_211_83, b_211_90, b_211_98, b_211_102, b_211_106, b_211_114, b_211_118, b_211_119, b_211_126, b_211_137, b_211_146, b_211_153, b_211_158, b_211_166, b_211_169, b_211_177, b_211_182, b_211_184, b_211_189, b_211_195, ↓reduceIte, Nat.reduceEqDiff, Nat.reduceMul, q_n10, q_n01, Option.bind_some, g_aft0, g_aft1, g_aft2, g_aft3, g_aft9, Nat.reduceAdd, m_kill_0, m_kill_2, m_kill_3, m_kill_4, m_kill_9, true_or, or_true, q_lm1, q_l0, q_l1, q_l2, q_l3, q_l4, q_l5, q_l6, q_l8, q_l9, q_l10, q_l12, q_l17, q_l32, q_l35, q_l48, q_l50, q_l54, q_l57, q_l64, q_l73, q_l118, q_l119, q_l120, q_l122, q_l126, q_l160, q_l256, q_l365, q_l372, q_l438, q_l1000, q_l100000, q_l1000000, q_modF hL.2.2.2.2.2.2.1, wi, wn, c0, p0, p1, tn, hwt, ww, wnw, a1, a2, a3, eF, hc0t, hc1, d1, hc2', d3, n10]
        · have d2' : f = 1 := by clear hall wn wi ww wnw hc0 hc1 hc2' wf; omega
          subst d2'
          refine ⟨(w_s2 N t g i p q, 0, (1, w_o N g i * q + p), (9, 0), (1, w_b N g i * q - p), (9, 0), (0, 1), (1, w_W N t i), (9, 0)), ?_, z_sl_new hx d0 (Int.le_refl _) (fun q => absurd q (by decide))⟩
          rw [ei, esl]
          conv => lhs; simp only [b_211_27, ↓reduceIte, Nat.reduceEqDiff, Nat.reduceMul, q_n10, q_n01, Option.bind_some, g_aft0, g_aft1, g_aft2, g_aft3, g_aft9, Nat.reduceAdd, m_kill_0, m_kill_2, m_kill_3, m_kill_4, m_kill_9, true_or, or_true, q_lm1, q_l0, q_l1, q_l2, q_l3, q_l4, q_l5, q_l6, q_l8, q_l9, q_l10, q_l12, q_l17, q_l32, q_l35, q_l48, q_l50, q_l54, q_l57, q_l64, q_l73, q_l118, q_l119, q_l120, q_l122, q_l126, q_l160, q_l256, q_l365, q_l372, q_l438, q_l1000, q_l100000, q_l1000000, q_modF hL.2.2.2.2.2.2.1, hmn]
          conv => lhs; simp only [b_211_33, b_211_0, b_211_6, b_211_16, b_211_33, b_211_36, b_211_54, b_211_61, b_211_71, b_211_83, b_211_90, b_211_98, b_211_102, b_211_106, b_211_114, b_211_118, b_211_119, b_211_126, b_211_137, b_211_146, b_211_153, b_211_158, b_211_166, b_211_169, b_211_177, b_211_182, b_211_184, b_211_189, b_211_195, ↓reduceIte, Nat.reduceEqDiff, Nat.reduceMul, q_n10, q_n01, Option.bind_some, g_aft0, g_aft1, g_aft2, g_aft3, g_aft9, Nat.reduceAdd, m_kill_0, m_kill_2, m_kill_3, m_kill_4, m_kill_9, true_or, or_true, q_lm1, q_l0, q_l1, q_l2, q_l3, q_l4, q_l5, q_l6, q_l8, q_l9, q_l10, q_l12, q_l17, q_l32, q_l35, q_l48, q_l50, q_l54, q_l57, q_l64, q_l73, q_l118, q_l119, q_l120, q_l122, q_l126, q_l160, q_l256, q_l365, q_l372, q_l438, q_l1000, q_l100000, q_l1000000, q_modF hL.2.2.2.2.2.2.1, wi, wn, c0, p0, p1, tn, hwt, ww, wnw, a1, a2, a3, eF, hc0t, hc1, d1, n10]
    · refine ⟨(v, f, l13, l14, l15, l16, l17, l18, l19), ?_, z_sl_n hx d0⟩
      show m_run Z (211, 27, [(2, ((191 : Nat) : Int)), (0, (g : Int)), (1, p), (9, 0), (1, q), (9, 0), (0, 1), (1, top), (9, 0), (1, v), (9, 0), (0, f), (0, (i : Int)), l13, l14, l15, l16, l17, l18, l19], [], (K, σ, 206, e, s)) = m_run Z (211, 27, [(2, ((191 : Nat) : Int)), (0, (g : Int)), (1, p), (9, 0), (1, q), (9, 0), (0, 1), (1, top), (9, 0), (1, v), (9, 0), (0, f), (0, ((i + 1 : Nat) : Int)), l13, l14, l15, l16, l17, l18, l19], [], (K, σ, 206, e, s))
      rw [ei]
      conv => lhs; simp only [b_211_27, ↓reduceIte, Nat.reduceEqDiff, Nat.reduceMul, q_n10, q_n01, Option.bind_some, g_aft0, g_aft1, g_aft2, g_aft3, g_aft9, Nat.reduceAdd, m_kill_0, m_kill_2, m_kill_3, m_kill_4, m_kill_9, true_or, or_true, q_lm1, q_l0, q_l1, q_l2, q_l3, q_l4, q_l5, q_l6, q_l8, q_l9, q_l10, q_l12, q_l17, q_l32, q_l35, q_l48, q_l50, q_l54, q_l57, q_l64, q_l73, q_l118, q_l119, q_l120, q_l122, q_l126, q_l160, q_l256, q_l365, q_l372, q_l438, q_l1000, q_l100000, q_l1000000, q_modF hL.2.2.2.2.2.2.1, hmn]
      conv => lhs; simp only [b_211_33, b_211_36, b_211_54, b_211_189, ↓reduceIte, Nat.reduceEqDiff, Nat.reduceMul, q_n10, q_n01, Option.bind_some, g_aft0, g_aft1, g_aft2, g_aft3, g_aft9, Nat.reduceAdd, m_kill_0, m_kill_2, m_kill_3, m_kill_4, m_kill_9, true_or, or_true, q_lm1, q_l0, q_l1, q_l2, q_l3, q_l4, q_l5, q_l6, q_l8, q_l9, q_l10, q_l12, q_l17, q_l32, q_l35, q_l48, q_l50, q_l54, q_l57, q_l64, q_l73, q_l118, q_l119, q_l120, q_l122, q_l126, q_l160, q_l256, q_l365, q_l372, q_l438, q_l1000, q_l100000, q_l1000000, q_modF hL.2.2.2.2.2.2.1, wi, wn, c0, p0, p1, tn, hwt, ww, a3, eF, hc0, d0]) (w_nn N) 0 (0, 1, (9, 0), (9, 0), (9, 0), (9, 0), (9, 0), (9, 0), (9, 0)) (by clear hall wn; omega) (Or.inl ⟨rfl, rfl, fun j hj => absurd hj (by omega)⟩)
  refine ⟨y.1, ?_, ?_⟩
  · simp only [e_211, b_211_0, b_211_6, b_211_16, ↓reduceIte, Nat.reduceEqDiff, Nat.reduceMul, q_n10, q_n01, Option.bind_some, g_aft0, g_aft1, g_aft2, g_aft3, g_aft9, Nat.reduceAdd, m_kill_0, m_kill_2, m_kill_3, m_kill_4, m_kill_9, true_or, or_true, q_lm1, q_l0, q_l1, q_l2, q_l3, q_l4, q_l5, q_l6, q_l8, q_l9, q_l10, q_l12, q_l17, q_l32, q_l35, q_l48, q_l50, q_l54, q_l57, q_l64, q_l73, q_l118, q_l119, q_l120, q_l122, q_l126, q_l160, q_l256, q_l365, q_l372, q_l438, q_l1000, q_l100000, q_l1000000, q_modF hL.2.2.2.2.2.2.1, hmn, hall, hH]
    refine Eq.trans y1 ?_
    conv => lhs; simp only [b_211_27, ↓reduceIte, Nat.reduceEqDiff, Nat.reduceMul, q_n10, q_n01, Option.bind_some, g_aft0, g_aft1, g_aft2, g_aft3, g_aft9, Nat.reduceAdd, m_kill_0, m_kill_2, m_kill_3, m_kill_4, m_kill_9, true_or, or_true, q_lm1, q_l0, q_l1, q_l2, q_l3, q_l4, q_l5, q_l6, q_l8, q_l9, q_l10, q_l12, q_l17, q_l32, q_l35, q_l48, q_l50, q_l54, q_l57, q_l64, q_l73, q_l118, q_l119, q_l120, q_l122, q_l126, q_l160, q_l256, q_l365, q_l372, q_l438, q_l1000, q_l100000, q_l1000000, q_modF hL.2.2.2.2.2.2.1, hmn]
    simp only [b_211_33, b_211_195, ↓reduceIte, Nat.reduceEqDiff, Nat.reduceMul, q_n10, q_n01, Option.bind_some, g_aft0, g_aft1, g_aft2, g_aft3, g_aft9, Nat.reduceAdd, m_kill_0, m_kill_2, m_kill_3, m_kill_4, m_kill_9, true_or, or_true, q_lm1, q_l0, q_l1, q_l2, q_l3, q_l4, q_l5, q_l6, q_l8, q_l9, q_l10, q_l12, q_l17, q_l32, q_l35, q_l48, q_l50, q_l54, q_l57, q_l64, q_l73, q_l118, q_l119, q_l120, q_l122, q_l126, q_l160, q_l256, q_l365, q_l372, q_l438, q_l1000, q_l100000, q_l1000000, wn, Int.le_refl]
  · rcases y2 with ⟨-, -, y3⟩ | ⟨-, y3⟩
    · obtain ⟨⟨i, h1, h2⟩, -⟩ := hT
      exact absurd h2 (y3 i h1)
    · exact y3
theorem z_slope1 (hL : q_lay K) (h : z_sur σ N t) (ht : 0 ≤ t) (ht2 : t ≤ 10) (hg : g < w_ne N) (hp : w_pq N t g p q) {top : Int} (htop : top = w_H N t ((2 ^ w_nn N - 1 : Nat) : Int) g p q (w_nn N)) : ∃ v, m_cl Z 211 [(2, ((191 : Nat) : Int)), (0, (g : Int)), (1, p), (1, q), (0, 0)] (K, σ, 206, e, s) = some (.inl (1, v), (K, σ, 206, e, s)) ∧ (∃ i, i < w_nn N ∧ w_F N t g i p q = top ∧ v = w_s1 N t g i p q) ∧ ∀ i, i < w_nn N → w_F N t g i p q = top → v ≤ w_s1 N t g i p q := by
  have hw := h.1.1
  have hc := h.2.2.2
  have n0 := wf_n hw
  have hall := w_all1 n0.2.2
  have hH := z_height (Z := Z) (e := e) (s := s) (S := ((2 ^ w_nn N - 1 : Nat) : Int)) hL h ht ht2 hg hp
  have hT := w_H_top hw hc hg hp
  have hb := w_Hb hw hc hg hp (S := ((2 ^ w_nn N - 1 : Nat) : Int)) (w_nn N) (Nat.le_refl _)
  rw [← htop] at hH hT hb
  clear htop
  have hmn := z_many (Z := Z) (e := e) (s := s) hL h.1
  rw [n0.1] at hmn
  have wn : w32 (w_nn N : Int) = (w_nn N : Int) := q_w (by clear hall; omega)
  have n10 : ¬ (1 : Int) = 0 := by decide
  obtain ⟨y, y1, y2⟩ := q_loop (Z := Z) (N := w_nn N) (α := Int × Int × mV × mV × mV × mV × mV × mV × mV) (S := fun i x => (211, 27, [(2, ((191 : Nat) : Int)), (0, (g : Int)), (1, p), (9, 0), (1, q), (9, 0), (0, 0), (1, top), (9, 0), (1, x.1), (9, 0), (0, x.2.1), (0, (i : Int)), x.2.2.1, x.2.2.2.1, x.2.2.2.2.1, x.2.2.2.2.2.1, x.2.2.2.2.2.2.1, x.2.2.2.2.2.2.2.1, x.2.2.2.2.2.2.2.2], [], (K, σ, 206, e, s))) (P := fun i x => z_sl N t g p q top (fun i => w_s1 N t g i p q) (fun a b => b ≤ a) i x.2.1 x.1) (by
    rintro i ⟨v, f, l13, l14, l15, l16, l17, l18, l19⟩ hi hx
    have hx : z_sl N t g p q top (fun i => w_s1 N t g i p q) (fun a b => b ≤ a) i f v := hx
    have hf := z_sl_f hx
    have hv := z_sl_b hx (fun j hj => by have := w_s12b hw ht ht2 (g := g) (p := p) (q := q) (i := j) (by clear hall wn; omega); show -99 ≤ w_s1 N t g j p q ∧ w_s1 N t g j p q ≤ 99; omega)
    obtain ⟨a1, a2, a3⟩ := z_aw (Z := Z) (e := e) (s := s) hL h hg hi hp
    have wi : w32 (i : Int) = (i : Int) := q_w (by clear hall wn; omega)
    have c0 : ¬ (w_nn N : Int) ≤ (i : Int) := by clear hall wn wi; omega
    have p0 : 0 ≤ (i : Int) := by clear hall wn wi; omega
    have p1 : (i : Int) < ((8 : Nat) : Int) := by clear hall wn wi; omega
    have tn : ((i : Int)).toNat = i := rfl
    have hwt := h.2.2.1 i hi
    have bw := w_Wb hw (show i < 8 by clear hall wn wi; omega) ht
    have ww : w32 (w_W N t i) = w_W N t i := by clear hall wn wi; exact q_wi (by omega) (by omega)
    have wnw : w32 (-w_W N t i) = -w_W N t i := by clear hall wn wi ww; exact q_wi (by omega) (by omega)
    have hF := w_Fb hw hc hg hi hp
    have eF : w_W N t i * w_R N g i p q = w_F N t g i p q := rfl
    have wF : w64 (w_F N t g i p q) = w_F N t g i p q := by clear hall wn wi ww wnw; exact q_w64 (by omega) (by omega)
    have wT : w64 top = top := by clear hall wn wi ww wnw wF; exact q_w64 (by omega) (by omega)
    have hc0 : (w32 (l_cmp (w_F N t g i p q) top) = 0) = (w_F N t g i p q = top) := l_ce wF wT
    have hR := w_Rb hw hc hg hi hp
    have wA : w64 (w_o N g i * q + p) = w_o N g i * q + p := by clear hall wn wi ww wnw wF wT hc0; exact q_w64 (by omega) (by omega)
    have wB : w64 (w_b N g i * q - p) = w_b N g i * q - p := by clear hall wn wi ww wnw wF wT hc0 wA; exact q_w64 (by omega) (by omega)
    have wv : w64 v = v := by clear hall wn wi ww wnw wF wT hc0 wA wB; exact q_w64 (by omega) (by omega)
    have hc1 : (0 < w32 (l_cmp (w_o N g i * q + p) (w_b N g i * q - p))) = (w_b N g i * q - p < w_o N g i * q + p) := l_cg wA wB
    have hc2 : ∀ m, -99 ≤ m → m ≤ 99 → (0 ≤ w32 (l_cmp m v)) = (v ≤ m) := fun m m1 m2 => l_cge (q_w64 (by omega) (by omega)) wv
    have wf : w32 f = f := by rcases hf with d | d <;> rw [d] <;> decide
    have ei : ((i + 1 : Nat) : Int) = (i : Int) + 1 := rfl
    have esl : w_s1 N t g i p q = if w_b N g i * q - p < w_o N g i * q + p then -w_W N t i else w_W N t i := rfl
    clear wF wT wA wB wv
    by_cases d0 : w_F N t g i p q = top
    · have hc0t := hc0.trans (eq_true d0)
      by_cases d1 : w_b N g i * q - p < w_o N g i * q + p
      · rw [if_pos d1] at esl
        have hc2' := hc2 (-w_W N t i) (by clear hall wn wi ww wnw hc0 hc1; omega) (by clear hall wn wi ww wnw hc0 hc1; omega)
        by_cases d2 : f = 0
        · subst d2
          by_cases d3 : v ≤ -w_W N t i
          · refine ⟨(v, 0, (1, w_o N g i * q + p), (9, 0), (1, w_b N g i * q - p), (9, 0), (0, 0), (1, -w_W N t i), (9, 0)), ?_, z_sl_old hx (by show v ≤ w_s1 N t g i p q; rw [esl]; exact d3)⟩
            rw [ei]
            conv => lhs; simp only [b_211_27, ↓reduceIte, Nat.reduceEqDiff, Nat.reduceMul, q_n10, q_n01, Option.bind_some, g_aft0, g_aft1, g_aft2, g_aft3, g_aft9, Nat.reduceAdd, m_kill_0, m_kill_2, m_kill_3, m_kill_4, m_kill_9, true_or, or_true, q_lm1, q_l0, q_l1, q_l2, q_l3, q_l4, q_l5, q_l6, q_l8, q_l9, q_l10, q_l12, q_l17, q_l32, q_l35, q_l48, q_l50, q_l54, q_l57, q_l64, q_l73, q_l118, q_l119, q_l120, q_l122, q_l126, q_l160, q_l256, q_l365, q_l372, q_l438, q_l1000, q_l100000, q_l1000000, q_modF hL.2.2.2.2.2.2.1, hmn]
            conv => lhs; simp only [b_211_33, b_211_0, b_211_6, b_211_16, b_211_33, b_211_36, b_211_54, b_211_61, b_211_71, b_211_83, b_211_90, b_211_98, b_211_102, b_211_106, b_211_114, b_211_118, b_211_119, b_211_126, b_211_137, b_211_146, b_211_153, b_211_158, b_211_166, b_211_169, b_211_177, b_211_182, b_211_184, b_211_189, b_211_195, ↓reduceIte, Nat.reduceEqDiff, Nat.reduceMul, q_n10, q_n01, Option.bind_some, g_aft0, g_aft1, g_aft2, g_aft3, g_aft9, Nat.reduceAdd, m_kill_0, m_kill_2, m_kill_3, m_kill_4, m_kill_9, true_or, or_true, q_lm1, q_l0, q_l1, q_l2, q_l3, q_l4, q_l5, q_l6, q_l8, q_l9, q_l10, q_l12, q_l17, q_l32, q_l35, q_l48, q_l50, q_l54, q_l57, q_l64, q_l73, q_l118, q_l119, q_l120, q_l122, q_l126, q_l160, q_l256, q_l365, q_l372, q_l438, q_l1000, q_l100000, q_l1000000, q_modF hL.2.2.2.2.2.2.1, wi, wn, c0, p0, p1, tn, hwt, ww, wnw, a1, a2, a3, eF, hc0t, hc1, d1, hc2', d3, n10]
          · refine ⟨(w_s1 N t g i p q, 0, (1, w_o N g i * q + p), (9, 0), (1, w_b N g i * q - p), (9, 0), (0, 0), (1, -w_W N t i), (9, 0)), ?_, z_sl_new hx d0 (Int.le_refl _) (fun _ j hj hl => by show w_s1 N t g i p q ≤ w_s1 N t g j p q; have hl : v ≤ w_s1 N t g j p q := hl; rw [esl]; clear hall wn wi ww wnw hc0 hc1 hc2'; omega)⟩
            rw [ei, esl]
            conv => lhs; simp only [b_211_27, ↓reduceIte, Nat.reduceEqDiff, Nat.reduceMul, q_n10, q_n01, Option.bind_some, g_aft0, g_aft1, g_aft2, g_aft3, g_aft9, Nat.reduceAdd, m_kill_0, m_kill_2, m_kill_3, m_kill_4, m_kill_9, true_or, or_true, q_lm1, q_l0, q_l1, q_l2, q_l3, q_l4, q_l5, q_l6, q_l8, q_l9, q_l10, q_l12, q_l17, q_l32, q_l35, q_l48, q_l50, q_l54, q_l57, q_l64, q_l73, q_l118, q_l119, q_l120, q_l122, q_l126, q_l160, q_l256, q_l365, q_l372, q_l438, q_l1000, q_l100000, q_l1000000, q_modF hL.2.2.2.2.2.2.1, hmn]
            conv => lhs; simp only [b_211_33, b_211_0, b_211_6, b_211_16, b_211_33, b_211_36, b_211_54, b_211_61, b_211_71, b_211_83, b_211_90, b_211_98, b_211_102, b_211_106, b_211_114, b_211_118, b_211_119, b_211_126, b_211_137, b_211_146, b_211_153, b_211_158, b_211_166, b_211_169, b_211_177, b_211_182, b_211_184, b_211_189, b_211_195, ↓reduceIte, Nat.reduceEqDiff, Nat.reduceMul, q_n10, q_n01, Option.bind_some, g_aft0, g_aft1, g_aft2, g_aft3, g_aft9, Nat.reduceAdd, m_kill_0, m_kill_2, m_kill_3, m_kill_4, m_kill_9, true_or, or_true, q_lm1, q_l0, q_l1, q_l2, q_l3, q_l4, q_l5, q_l6, q_l8, q_l9, q_l10, q_l12, q_l17, q_l32, q_l35, q_l48, q_l50, q_l54, q_l57, q_l64, q_l73, q_l118, q_l119, q_l120, q_l122, q_l126, q_l160, q_l256, q_l365, q_l372, q_l438, q_l1000, q_l100000, q_l1000000, q_modF hL.2.2.2.2.2.2.1, wi, wn, c0, p0, p1, tn, hwt, ww, wnw, a1, a2, a3, eF, hc0t, hc1, d1, hc2', d3, n10]
        · have d2' : f = 1 := by clear hall wn wi ww wnw hc0 hc1 hc2' wf; omega
          subst d2'
          refine ⟨(w_s1 N t g i p q, 0, (1, w_o N g i * q + p), (9, 0), (1, w_b N g i * q - p), (9, 0), (0, 0), (1, -w_W N t i), (9, 0)), ?_, z_sl_new hx d0 (Int.le_refl _) (fun q => absurd q (by decide))⟩
          rw [ei, esl]
          conv => lhs; simp only [b_211_27, ↓reduceIte, Nat.reduceEqDiff, Nat.reduceMul, q_n10, q_n01, Option.bind_some, g_aft0, g_aft1, g_aft2, g_aft3, g_aft9, Nat.reduceAdd, m_kill_0, m_kill_2, m_kill_3, m_kill_4, m_kill_9, true_or, or_true, q_lm1, q_l0, q_l1, q_l2, q_l3, q_l4, q_l5, q_l6, q_l8, q_l9, q_l10, q_l12, q_l17, q_l32, q_l35, q_l48, q_l50, q_l54, q_l57, q_l64, q_l73, q_l118, q_l119, q_l120, q_l122, q_l126, q_l160, q_l256, q_l365, q_l372, q_l438, q_l1000, q_l100000, q_l1000000, q_modF hL.2.2.2.2.2.2.1, hmn]
          conv => lhs; simp only [b_211_33, b_211_0, b_211_6, b_211_16, b_211_33, b_211_36, b_211_54, b_211_61, b_211_71, b_211_83, b_211_90, b_211_98, b_211_102, b_211_106, b_211_114, b_211_118, b_211_119, b_211_126, b_211_137, b_211_146, b_211_153, b_211_158, b_211_166, b_211_169, b_211_177, b_211_182, b_211_184, b_211_189, b_211_195, ↓reduceIte, Nat.reduceEqDiff, Nat.reduceMul, q_n10, q_n01, Option.bind_some, g_aft0, g_aft1, g_aft2, g_aft3, g_aft9, Nat.reduceAdd, m_kill_0, m_kill_2, m_kill_3, m_kill_4, m_kill_9, true_or, or_true, q_lm1, q_l0, q_l1, q_l2, q_l3, q_l4, q_l5, q_l6, q_l8, q_l9, q_l10, q_l12, q_l17, q_l32, q_l35, q_l48, q_l50, q_l54, q_l57, q_l64, q_l73, q_l118, q_l119, q_l120, q_l122, q_l126, q_l160, q_l256, q_l365, q_l372, q_l438, q_l1000, q_l100000, q_l1000000, q_modF hL.2.2.2.2.2.2.1, wi, wn, c0, p0, p1, tn, hwt, ww, wnw, a1, a2, a3, eF, hc0t, hc1, d1, n10]
      · rw [if_neg d1] at esl
        have hc2' := hc2 (w_W N t i) (by clear hall wn wi ww wnw hc0 hc1; omega) (by clear hall wn wi ww wnw hc0 hc1; omega)
        by_cases d2 : f = 0
        · subst d2
          by_cases d3 : v ≤ w_W N t i
          · refine ⟨(v, 0, (1, w_o N g i * q + p), (9, 0), (1, w_b N g i * q - p), (9, 0), (0, 1), (1, w_W N t i), (9, 0)), ?_, z_sl_old hx (by show v ≤ w_s1 N t g i p q; rw [esl]; exact d3)⟩
            rw [ei]
            conv => lhs; simp only [b_211_27, ↓reduceIte, Nat.reduceEqDiff, Nat.reduceMul, q_n10, q_n01, Option.bind_some, g_aft0, g_aft1, g_aft2, g_aft3, g_aft9, Nat.reduceAdd, m_kill_0, m_kill_2, m_kill_3, m_kill_4, m_kill_9, true_or, or_true, q_lm1, q_l0, q_l1, q_l2, q_l3, q_l4, q_l5, q_l6, q_l8, q_l9, q_l10, q_l12, q_l17, q_l32, q_l35, q_l48, q_l50, q_l54, q_l57, q_l64, q_l73, q_l118, q_l119, q_l120, q_l122, q_l126, q_l160, q_l256, q_l365, q_l372, q_l438, q_l1000, q_l100000, q_l1000000, q_modF hL.2.2.2.2.2.2.1, hmn]
            conv => lhs; simp only [b_211_33, b_211_0, b_211_6, b_211_16, b_211_33, b_211_36, b_211_54, b_211_61, b_211_71, b_211_83, b_211_90, b_211_98, b_211_102, b_211_106, b_211_114, b_211_118, b_211_119, b_211_126, b_211_137, b_211_146, b_211_153, b_211_158, b_211_166, b_211_169, b_211_177, b_211_182, b_211_184, b_211_189, b_211_195, ↓reduceIte, Nat.reduceEqDiff, Nat.reduceMul, q_n10, q_n01, Option.bind_some, g_aft0, g_aft1, g_aft2, g_aft3, g_aft9, Nat.reduceAdd, m_kill_0, m_kill_2, m_kill_3, m_kill_4, m_kill_9, true_or, or_true, q_lm1, q_l0, q_l1, q_l2, q_l3, q_l4, q_l5, q_l6, q_l8, q_l9, q_l10, q_l12, q_l17, q_l32, q_l35, q_l48, q_l50, q_l54, q_l57, q_l64, q_l73, q_l118, q_l119, q_l120, q_l122, q_l126, q_l160, q_l256, q_l365, q_l372, q_l438, q_l1000, q_l100000, q_l1000000, q_modF hL.2.2.2.2.2.2.1, wi, wn, c0, p0, p1, tn, hwt, ww, wnw, a1, a2, a3, eF, hc0t, hc1, d1, hc2', d3, n10]
          · refine ⟨(w_s1 N t g i p q, 0, (1, w_o N g i * q + p), (9, 0), (1, w_b N g i * q - p), (9, 0), (0, 1), (1, w_W N t i), (9, 0)), ?_, z_sl_new hx d0 (Int.le_refl _) (fun _ j hj hl => by show w_s1 N t g i p q ≤ w_s1 N t g j p q; have hl : v ≤ w_s1 N t g j p q := hl; rw [esl]; clear hall wn wi ww wnw hc0 hc1 hc2'; omega)⟩
            rw [ei, esl]
            conv => lhs; simp only [b_211_27, ↓reduceIte, Nat.reduceEqDiff, Nat.reduceMul, q_n10, q_n01, Option.bind_some, g_aft0, g_aft1, g_aft2, g_aft3, g_aft9, Nat.reduceAdd, m_kill_0, m_kill_2, m_kill_3, m_kill_4, m_kill_9, true_or, or_true, q_lm1, q_l0, q_l1, q_l2, q_l3, q_l4, q_l5, q_l6, q_l8, q_l9, q_l10, q_l12, q_l17, q_l32, q_l35, q_l48, q_l50, q_l54, q_l57, q_l64, q_l73, q_l118, q_l119, q_l120, q_l122, q_l126, q_l160, q_l256, q_l365, q_l372, q_l438, q_l1000, q_l100000, q_l1000000, q_modF hL.2.2.2.2.2.2.1, hmn]
            conv => lhs; simp only [b_211_33, b_211_0, b_211_6, b_211_16, b_211_33, b_211_36, b_211_54, b_211_61, b_211_71, b_211_83, b_211_90, b_211_98, b_211_102, b_211_106, b_211_114, b_211_118, b_211_119, b_211_126, b_211_137, b_211_146, b_211_153, b_211_158, b_211_166, b_211_169, b_211_177, b_211_182, b_211_184, b_211_189, b_211_195, ↓reduceIte, Nat.reduceEqDiff, Nat.reduceMul, q_n10, q_n01, Option.bind_some, g_aft0, g_aft1, g_aft2, g_aft3, g_aft9, Nat.reduceAdd, m_kill_0, m_kill_2, m_kill_3, m_kill_4, m_kill_9, true_or, or_true, q_lm1, q_l0, q_l1, q_l2, q_l3, q_l4, q_l5, q_l6, q_l8, q_l9, q_l10, q_l12, q_l17, q_l32, q_l35, q_l48, q_l50, q_l54, q_l57, q_l64, q_l73, q_l118, q_l119, q_l120, q_l122, q_l126, q_l160, q_l256, q_l365, q_l372, q_l438, q_l1000, q_l100000, q_l1000000, q_modF hL.2.2.2.2.2.2.1, wi, wn, c0, p0, p1, tn, hwt, ww, wnw, a1, a2, a3, eF, hc0t, hc1, d1, hc2', d3, n10]
        · have d2' : f = 1 := by clear hall wn wi ww wnw hc0 hc1 hc2' wf; omega
          subst d2'
          refine ⟨(w_s1 N t g i p q, 0, (1, w_o N g i * q + p), (9, 0), (1, w_b N g i * q - p), (9, 0), (0, 1), (1, w_W N t i), (9, 0)), ?_, z_sl_new hx d0 (Int.le_refl _) (fun q => absurd q (by decide))⟩
          rw [ei, esl]
          conv => lhs; simp only [b_211_27, ↓reduceIte, Nat.reduceEqDiff, Nat.reduceMul, q_n10, q_n01, Option.bind_some, g_aft0, g_aft1, g_aft2, g_aft3, g_aft9, Nat.reduceAdd, m_kill_0, m_kill_2, m_kill_3, m_kill_4, m_kill_9, true_or, or_true, q_lm1, q_l0, q_l1, q_l2, q_l3, q_l4, q_l5, q_l6, q_l8, q_l9, q_l10, q_l12, q_l17, q_l32, q_l35, q_l48, q_l50, q_l54, q_l57, q_l64, q_l73, q_l118, q_l119, q_l120, q_l122, q_l126, q_l160, q_l256, q_l365, q_l372, q_l438, q_l1000, q_l100000, q_l1000000, q_modF hL.2.2.2.2.2.2.1, hmn]
          conv => lhs; simp only [b_211_33, b_211_0, b_211_6, b_211_16, b_211_33, b_211_36, b_211_54, b_211_61, b_211_71, b_211_83, b_211_90, b_211_98, b_211_102, b_211_106, b_211_114, b_211_118, b_211_119, b_211_126, b_211_137, b_211_146, b_211_153, b_211_158, b_211_166, b_211_169, b_211_177, b_211_182, b_211_184, b_211_189, b_211_195, ↓reduceIte, Nat.reduceEqDiff, Nat.reduceMul, q_n10, q_n01, Option.bind_some, g_aft0, g_aft1, g_aft2, g_aft3, g_aft9, Nat.reduceAdd, m_kill_0, m_kill_2, m_kill_3, m_kill_4, m_kill_9, true_or, or_true, q_lm1, q_l0, q_l1, q_l2, q_l3, q_l4, q_l5, q_l6, q_l8, q_l9, q_l10, q_l12, q_l17, q_l32, q_l35, q_l48, q_l50, q_l54, q_l57, q_l64, q_l73, q_l118, q_l119, q_l120, q_l122, q_l126, q_l160, q_l256, q_l365, q_l372, q_l438, q_l1000, q_l100000, q_l1000000, q_modF hL.2.2.2.2.2.2.1, wi, wn, c0, p0, p1, tn, hwt, ww, wnw, a1, a2, a3, eF, hc0t, hc1, d1, n10]
    · refine ⟨(v, f, l13, l14, l15, l16, l17, l18, l19), ?_, z_sl_n hx d0⟩
      show m_run Z (211, 27, [(2, ((191 : Nat) : Int)), (0, (g : Int)), (1, p), (9, 0), (1, q), (9, 0), (0, 0), (1, top), (9, 0), (1, v), (9, 0), (0, f), (0, (i : Int)), l13, l14, l15, l16, l17, l18, l19], [], (K, σ, 206, e, s)) = m_run Z (211, 27, [(2, ((191 : Nat) : Int)), (0, (g : Int)), (1, p), (9, 0), (1, q), (9, 0), (0, 0), (1, top), (9, 0), (1, v), (9, 0), (0, f), (0, ((i + 1 : Nat) : Int)), l13, l14, l15, l16, l17, l18, l19], [], (K, σ, 206, e, s))
      rw [ei]
      conv => lhs; simp only [b_211_27, ↓reduceIte, Nat.reduceEqDiff, Nat.reduceMul, q_n10, q_n01, Option.bind_some, g_aft0, g_aft1, g_aft2, g_aft3, g_aft9, Nat.reduceAdd, m_kill_0, m_kill_2, m_kill_3, m_kill_4, m_kill_9, true_or, or_true, q_lm1, q_l0, q_l1, q_l2, q_l3, q_l4, q_l5, q_l6, q_l8, q_l9, q_l10, q_l12, q_l17, q_l32, q_l35, q_l48, q_l50, q_l54, q_l57, q_l64, q_l73, q_l118, q_l119, q_l120, q_l122, q_l126, q_l160, q_l256, q_l365, q_l372, q_l438, q_l1000, q_l100000, q_l1000000, q_modF hL.2.2.2.2.2.2.1, hmn]
      conv => lhs; simp only [b_211_33, b_211_36, b_211_54, b_211_189, ↓reduceIte, Nat.reduceEqDiff, Nat.reduceMul, q_n10, q_n01, Option.bind_some, g_aft0, g_aft1, g_aft2, g_aft3, g_aft9, Nat.reduceAdd, m_kill_0, m_kill_2, m_kill_3, m_kill_4, m_kill_9, true_or, or_true, q_lm1, q_l0, q_l1, q_l2, q_l3, q_l4, q_l5, q_l6, q_l8, q_l9, q_l10, q_l12, q_l17, q_l32, q_l35, q_l48, q_l50, q_l54, q_l57, q_l64, q_l73, q_l118, q_l119, q_l120, q_l122, q_l126, q_l160, q_l256, q_l365, q_l372, q_l438, q_l1000, q_l100000, q_l1000000, q_modF hL.2.2.2.2.2.2.1, wi, wn, c0, p0, p1, tn, hwt, ww, a3, eF, hc0, d0]) (w_nn N) 0 (0, 1, (9, 0), (9, 0), (9, 0), (9, 0), (9, 0), (9, 0), (9, 0)) (by clear hall wn; omega) (Or.inl ⟨rfl, rfl, fun j hj => absurd hj (by omega)⟩)
  refine ⟨y.1, ?_, ?_⟩
  · simp only [e_211, b_211_0, b_211_6, b_211_16, ↓reduceIte, Nat.reduceEqDiff, Nat.reduceMul, q_n10, q_n01, Option.bind_some, g_aft0, g_aft1, g_aft2, g_aft3, g_aft9, Nat.reduceAdd, m_kill_0, m_kill_2, m_kill_3, m_kill_4, m_kill_9, true_or, or_true, q_lm1, q_l0, q_l1, q_l2, q_l3, q_l4, q_l5, q_l6, q_l8, q_l9, q_l10, q_l12, q_l17, q_l32, q_l35, q_l48, q_l50, q_l54, q_l57, q_l64, q_l73, q_l118, q_l119, q_l120, q_l122, q_l126, q_l160, q_l256, q_l365, q_l372, q_l438, q_l1000, q_l100000, q_l1000000, q_modF hL.2.2.2.2.2.2.1, hmn, hall, hH]
    refine Eq.trans y1 ?_
    conv => lhs; simp only [b_211_27, ↓reduceIte, Nat.reduceEqDiff, Nat.reduceMul, q_n10, q_n01, Option.bind_some, g_aft0, g_aft1, g_aft2, g_aft3, g_aft9, Nat.reduceAdd, m_kill_0, m_kill_2, m_kill_3, m_kill_4, m_kill_9, true_or, or_true, q_lm1, q_l0, q_l1, q_l2, q_l3, q_l4, q_l5, q_l6, q_l8, q_l9, q_l10, q_l12, q_l17, q_l32, q_l35, q_l48, q_l50, q_l54, q_l57, q_l64, q_l73, q_l118, q_l119, q_l120, q_l122, q_l126, q_l160, q_l256, q_l365, q_l372, q_l438, q_l1000, q_l100000, q_l1000000, q_modF hL.2.2.2.2.2.2.1, hmn]
    simp only [b_211_33, b_211_195, ↓reduceIte, Nat.reduceEqDiff, Nat.reduceMul, q_n10, q_n01, Option.bind_some, g_aft0, g_aft1, g_aft2, g_aft3, g_aft9, Nat.reduceAdd, m_kill_0, m_kill_2, m_kill_3, m_kill_4, m_kill_9, true_or, or_true, q_lm1, q_l0, q_l1, q_l2, q_l3, q_l4, q_l5, q_l6, q_l8, q_l9, q_l10, q_l12, q_l17, q_l32, q_l35, q_l48, q_l50, q_l54, q_l57, q_l64, q_l73, q_l118, q_l119, q_l120, q_l122, q_l126, q_l160, q_l256, q_l365, q_l372, q_l438, q_l1000, q_l100000, q_l1000000, wn, Int.le_refl]
  · rcases y2 with ⟨-, -, y3⟩ | ⟨-, y3⟩
    · obtain ⟨⟨i, h1, h2⟩, -⟩ := hT
      exact absurd h2 (y3 i h1)
    · exact y3
end
end
