section
/-! The model's calls: fault, run. -/
/-- place, fault, done alone change -/
def z_fd (σ τ : Nat → Nat → Int) : Prop := (∀ a, a ≠ 191 → τ a = σ a) ∧ ∀ j, j ≠ 23 → j ≠ 24 → j ≠ 25 → τ 191 j = σ 191 j
theorem z_fd_p {σ τ : Nat → Nat → Int} (h : z_fp σ τ) : z_fd σ τ := ⟨h.1, fun j h1 h2 _ => h.2 j h1 h2⟩
theorem z_fd_t {σ τ ρ : Nat → Nat → Int} (h : z_fd σ τ) (h2 : z_fd τ ρ) : z_fd σ ρ := ⟨fun a h3 => (h2.1 a h3).trans (h.1 a h3), fun j h3 h4 h5 => (h2.2 j h3 h4 h5).trans (h.2 j h3 h4 h5)⟩
theorem z_txt_d {σ τ : Nat → Nat → Int} {X : Nat → Int} {L : Nat} (h : z_txt σ X L) (h6 : τ 191 6 = σ 191 6) (h5 : τ 195 = σ 195) : z_txt τ X L := ⟨h6.trans h.1, h.2.1, fun i hi => by rw [h5]; exact h.2.2 i hi⟩
section
variable {Z : mZ} {K : Nat → mK} {σ τ N M : Nat → Nat → Int} {e g i j L n c k s a : Nat} {t p q v x y z w u S : Int} {X : Nat → Int} {h : mH} {R : Nat → Nat → Nat → Int} {T : Nat → Int}
theorem z_goF (hL : q_lay K) : ∀ (k i : Nat) (σ : Nat → Nat → Int) (l3 l4 l5 l6 : mV), z_txt σ X L → i ≤ L → L < i + k → σ 191 23 = (w_sk X L i : Int) → σ 191 24 = -1 → ∃ τ, m_run Z (244, 20, [(2, ((191 : Nat) : Int)), (0, 0), (0, w_sg X L (w_sk X L i)), l3, l4, l5, l6], [], (K, σ, 206, e, s)) = some (.inl (0, w_flf X L k i), (K, τ, 206, e, s)) ∧ z_fp σ τ := by
  intro k
  induction k with
  | zero => intro i σ l3 l4 l5 l6 h hi hk; omega
  | succ k ih =>
    intro i σ l3 l4 l5 l6 h hi hk hp h24
    have hsl := w_sk_le (X := X) hi
    have hid := w_sk_idem (X := X) hi
    obtain ⟨a1, a2, -⟩ := z_pl h hp hsl.2
    have wm : w32 (-1) = -1 := by decide
    have e0 : w32 0 = 0 := by decide
    have efl : w_flf X L (k + 1) i = if w_sk X L i < L then (if (w_cm X L (w_sk X L i)).1 = true then w_flf X L k (w_cm X L (w_sk X L i)).2.1 else ((w_cm X L (w_sk X L i)).2.1 : Int)) else -1 := rfl
    rw [efl]
    clear efl
    generalize w_sk X L i = I at *
    by_cases hI : I < L
    · rw [if_pos hI]
      have c0 : ¬ (L : Int) ≤ (I : Int) := by clear a1 a2 wm e0; omega
      obtain ⟨isL, a, b, th, σ1, r1, r2, r3, -⟩ := z_cmd (Z := Z) (e := e) (s := s) (B := (0, 0)) (l3 := l3) (l4 := l4) (l5 := l5) (l6 := l6) hL h hp h24 hI hid
      have hcl := w_cm_le (X := X) (i := I) (Nat.le_of_lt hI)
      obtain ⟨b1, b24, i', i1, i2, i3⟩ := r3
      have hlk := z_looking (Z := Z) (e := e) (s := s) hL (z_txt_p h r2) i2 i1
      have hsl' := w_sk_le (X := X) i1
      have f2 : z_fp σ (m_up2 σ1 191 23 (w_sk X L i' : Int)) := z_fp_t r2 z_fp_23
      have step : m_run Z (244, 20, [(2, ((191 : Nat) : Int)), (0, 0), (0, w_sg X L I), l3, l4, l5, l6], [], (K, σ, 206, e, s)) = m_run Z (244, 20, [(2, ((191 : Nat) : Int)), (0, 0), (0, w_sg X L (w_sk X L i')), (0, isL), (0, a), (0, b), (0, th)], [], (K, m_up2 σ1 191 23 (w_sk X L i' : Int), 206, e, s)) := by
        conv => lhs; simp only [b_244_20, b_244_31, ↓reduceIte, Nat.reduceEqDiff, Nat.reduceMul, q_n10, q_n01, Option.bind_some, g_aft0, g_aft1, g_aft2, g_aft3, g_aft9, Nat.reduceAdd, m_kill_0, m_kill_2, m_kill_3, m_kill_4, m_kill_9, true_or, or_true, q_lm1, q_l0, q_l1, q_l2, q_l3, q_l4, q_l5, q_l6, q_l8, q_l9, q_l10, q_l12, q_l17, q_l32, q_l35, q_l48, q_l50, q_l54, q_l57, q_l64, q_l73, q_l118, q_l119, q_l120, q_l122, q_l126, q_l160, q_l256, q_l365, q_l372, q_l438, q_l1000, q_l100000, q_l1000000, q_modF hL.2.2.2.2.2.2.1, a1, a2, c0, h24, wm]
        refine Eq.trans r1 ?_
        simp only [b_244_161, b_244_201, b_244_205, ↓reduceIte, Nat.reduceEqDiff, Nat.reduceMul, q_n10, q_n01, Option.bind_some, g_aft0, g_aft1, g_aft2, g_aft3, g_aft9, Nat.reduceAdd, m_kill_0, m_kill_2, m_kill_3, m_kill_4, m_kill_9, true_or, or_true, q_lm1, q_l0, q_l1, q_l2, q_l3, q_l4, q_l5, q_l6, q_l8, q_l9, q_l10, q_l12, q_l17, q_l32, q_l35, q_l48, q_l50, q_l54, q_l57, q_l64, q_l73, q_l118, q_l119, q_l120, q_l122, q_l126, q_l160, q_l256, q_l365, q_l372, q_l438, q_l1000, q_l100000, q_l1000000, q_modF hL.2.2.2.2.2.2.1, e0, hlk]
      rw [step]
      have u23 : m_up2 σ1 191 23 (w_sk X L i' : Int) 191 23 = (w_sk X L i' : Int) := m_up2_at
      have u24 : m_up2 σ1 191 23 (w_sk X L i' : Int) 191 24 = σ1 191 24 := m_up2_nk (by omega)
      by_cases hc : (w_cm X L I).1 = true
      · rw [if_pos hc]
        rw [if_pos hc] at b24
        have e' := i3 hc
        have hadv := w_cm_adv (X := X) (Nat.le_of_lt hI) hc
        rw [e'] at u23 u24 ⊢
        obtain ⟨τ, t1, t2⟩ := ih (w_cm X L I).2.1 (m_up2 σ1 191 23 (w_sk X L (w_cm X L I).2.1 : Int)) (0, isL) (0, a) (0, b) (0, th) (z_txt_p h (by rw [e'] at f2; exact f2)) hcl.2 (by clear a1 a2 wm e0; omega) u23 (by rw [u24]; exact b24)
        exact ⟨τ, t1, z_fp_t (by rw [e'] at f2; exact f2) t2⟩
      · rw [if_neg hc]
        rw [if_neg hc] at b24
        refine ⟨m_up2 σ1 191 23 (w_sk X L i' : Int), ?_, f2⟩
        obtain ⟨d1, d2, -⟩ := z_pl (z_txt_p h f2) u23 hsl'.2
        have hL120 := h.2.1
        have wj : w32 ((w_cm X L I).2.1 : Int) = ((w_cm X L I).2.1 : Int) := q_w (by clear a1 a2 wm e0 d1 d2; omega)
        have cj : ¬ ((w_cm X L I).2.1 : Int) = -1 := by clear a1 a2 wm e0 d1 d2 wj; omega
        by_cases c1 : (L : Int) ≤ (w_sk X L i' : Int)
        · conv => lhs; simp only [b_244_20, b_244_209, ↓reduceIte, Nat.reduceEqDiff, Nat.reduceMul, q_n10, q_n01, Option.bind_some, g_aft0, g_aft1, g_aft2, g_aft3, g_aft9, Nat.reduceAdd, m_kill_0, m_kill_2, m_kill_3, m_kill_4, m_kill_9, true_or, or_true, q_lm1, q_l0, q_l1, q_l2, q_l3, q_l4, q_l5, q_l6, q_l8, q_l9, q_l10, q_l12, q_l17, q_l32, q_l35, q_l48, q_l50, q_l54, q_l57, q_l64, q_l73, q_l118, q_l119, q_l120, q_l122, q_l126, q_l160, q_l256, q_l365, q_l372, q_l438, q_l1000, q_l100000, q_l1000000, q_modF hL.2.2.2.2.2.2.1, d1, d2, c1, u24, b24]
        · conv => lhs; simp only [b_244_20, b_244_31, b_244_209, ↓reduceIte, Nat.reduceEqDiff, Nat.reduceMul, q_n10, q_n01, Option.bind_some, g_aft0, g_aft1, g_aft2, g_aft3, g_aft9, Nat.reduceAdd, m_kill_0, m_kill_2, m_kill_3, m_kill_4, m_kill_9, true_or, or_true, q_lm1, q_l0, q_l1, q_l2, q_l3, q_l4, q_l5, q_l6, q_l8, q_l9, q_l10, q_l12, q_l17, q_l32, q_l35, q_l48, q_l50, q_l54, q_l57, q_l64, q_l73, q_l118, q_l119, q_l120, q_l122, q_l126, q_l160, q_l256, q_l365, q_l372, q_l438, q_l1000, q_l100000, q_l1000000, q_modF hL.2.2.2.2.2.2.1, d1, d2, c1, u24, b24, wm, wj, cj]
    · rw [if_neg hI]
      have c0 : (L : Int) ≤ (I : Int) := by clear a1 a2 wm e0; omega
      refine ⟨σ, ?_, z_fp_r⟩
      conv => lhs; simp only [b_244_20, b_244_209, ↓reduceIte, Nat.reduceEqDiff, Nat.reduceMul, q_n10, q_n01, Option.bind_some, g_aft0, g_aft1, g_aft2, g_aft3, g_aft9, Nat.reduceAdd, m_kill_0, m_kill_2, m_kill_3, m_kill_4, m_kill_9, true_or, or_true, q_lm1, q_l0, q_l1, q_l2, q_l3, q_l4, q_l5, q_l6, q_l8, q_l9, q_l10, q_l12, q_l17, q_l32, q_l35, q_l48, q_l50, q_l54, q_l57, q_l64, q_l73, q_l118, q_l119, q_l120, q_l122, q_l126, q_l160, q_l256, q_l365, q_l372, q_l438, q_l1000, q_l100000, q_l1000000, q_modF hL.2.2.2.2.2.2.1, a1, a2, c0, h24]
theorem z_start (hL : q_lay K) (h : z_txt σ X L) {B : Int} : m_cl Z 244 [(2, ((191 : Nat) : Int)), (0, B)] (K, σ, 206, e, s) = m_run Z (244, 20, [(2, ((191 : Nat) : Int)), (0, B), (0, w_sg X L (w_sk X L 0)), (9, 0), (9, 0), (9, 0), (9, 0)], [], (K, m_up2 (m_up2 (m_up2 (m_up2 σ 191 23 0) 191 24 (-1)) 191 25 0) 191 23 (w_sk X L 0 : Int), 206, e, s)) := by
  have hf : z_fd σ (m_up2 (m_up2 (m_up2 σ 191 23 0) 191 24 (-1)) 191 25 0) := ⟨fun a h1 => by rw [m_up2_ne h1, m_up2_ne h1, m_up2_ne h1], fun j h1 h2 h3 => by rw [m_up2_nk h3, m_up2_nk h2, m_up2_nk h1]⟩
  have ht := z_txt_d h (hf.2 6 (by omega) (by omega) (by omega)) (hf.1 195 (by omega))
  have hp : m_up2 (m_up2 (m_up2 σ 191 23 0) 191 24 (-1)) 191 25 0 191 23 = ((0 : Nat) : Int) := by rw [m_up2_nk (by omega), m_up2_nk (by omega), m_up2_at]; rfl
  have hlk := z_looking (Z := Z) (e := e) (s := s) hL ht hp (Nat.zero_le L)
  simp only [e_244, b_244_0, b_244_19, ↓reduceIte, Nat.reduceEqDiff, Nat.reduceMul, q_n10, q_n01, Option.bind_some, g_aft0, g_aft1, g_aft2, g_aft3, g_aft9, Nat.reduceAdd, m_kill_0, m_kill_2, m_kill_3, m_kill_4, m_kill_9, true_or, or_true, q_lm1, q_l0, q_l1, q_l2, q_l3, q_l4, q_l5, q_l6, q_l8, q_l9, q_l10, q_l12, q_l17, q_l32, q_l35, q_l48, q_l50, q_l54, q_l57, q_l64, q_l73, q_l118, q_l119, q_l120, q_l122, q_l126, q_l160, q_l256, q_l365, q_l372, q_l438, q_l1000, q_l100000, q_l1000000, q_modF hL.2.2.2.2.2.2.1, hlk]
theorem z_goes0 (hL : q_lay K) (h : z_txt σ X L) : ∃ τ, m_cl Z 244 [(2, ((191 : Nat) : Int)), (0, 0)] (K, σ, 206, e, s) = some (.inl (0, w_fl X L), (K, τ, 206, e, s)) ∧ z_fd σ τ := by
  have hf : z_fd σ (m_up2 (m_up2 (m_up2 (m_up2 σ 191 23 0) 191 24 (-1)) 191 25 0) 191 23 (w_sk X L 0 : Int)) := ⟨fun a h1 => by rw [m_up2_ne h1, m_up2_ne h1, m_up2_ne h1, m_up2_ne h1], fun j h1 h2 h3 => by rw [m_up2_nk h1, m_up2_nk h3, m_up2_nk h2, m_up2_nk h1]⟩
  have ht := z_txt_d h (hf.2 6 (by omega) (by omega) (by omega)) (hf.1 195 (by omega))
  obtain ⟨τ, t1, t2⟩ := z_goF (Z := Z) (e := e) (s := s) hL (L + 1) 0 _ (9, 0) (9, 0) (9, 0) (9, 0) ht (Nat.zero_le L) (by omega) m_up2_at (by rw [m_up2_nk (by omega), m_up2_nk (by omega), m_up2_at])
  refine ⟨τ, ?_, z_fd_t hf (z_fd_p t2)⟩
  rw [z_start hL h]
  exact t1
theorem z_goT (hL : q_lay K) : ∀ (f k i : Nat) (σ N : Nat → Nat → Int) (d : Int) (l3 l4 l5 l6 : mV), z_txt σ X L → z_n σ N → i ≤ L → L ≤ i + f → L < i + k → w_flf X L k i = -1 → σ 191 23 = (w_sk X L i : Int) → σ 191 24 = -1 → σ 191 25 = d → ∃ τ, m_run Z (244, 20, [(2, ((191 : Nat) : Int)), (0, 1), (0, w_sg X L (w_sk X L i)), l3, l4, l5, l6], [], (K, σ, 206, e, s)) = some (.inl (0, -1), (K, τ, 206, e, s)) ∧ z_n τ (y_rn X L f i (N, d)).1 ∧ τ 191 25 = (y_rn X L f i (N, d)).2 ∧ (∀ a, a ≠ 191 → a ≠ 192 → τ a = σ a) ∧ ∀ j, j ≠ 23 → j ≠ 24 → j ≠ 25 → τ 191 j = σ 191 j := by
  have stop : ∀ (i : Nat) (σ : Nat → Nat → Int) (l3 l4 l5 l6 : mV), z_txt σ X L → i ≤ L → ¬ w_sk X L i < L → σ 191 23 = (w_sk X L i : Int) → σ 191 24 = -1 → m_run Z (244, 20, [(2, ((191 : Nat) : Int)), (0, 1), (0, w_sg X L (w_sk X L i)), l3, l4, l5, l6], [], (K, σ, 206, e, s)) = some (.inl (0, -1), (K, σ, 206, e, s)) := by
    intro i σ l3 l4 l5 l6 h hi hI hp h24
    have hsl := w_sk_le (X := X) hi
    obtain ⟨a1, a2, -⟩ := z_pl h hp hsl.2
    have c0 : (L : Int) ≤ (w_sk X L i : Int) := by clear a1 a2; omega
    conv => lhs; simp only [b_244_20, b_244_209, ↓reduceIte, Nat.reduceEqDiff, Nat.reduceMul, q_n10, q_n01, Option.bind_some, g_aft0, g_aft1, g_aft2, g_aft3, g_aft9, Nat.reduceAdd, m_kill_0, m_kill_2, m_kill_3, m_kill_4, m_kill_9, true_or, or_true, q_lm1, q_l0, q_l1, q_l2, q_l3, q_l4, q_l5, q_l6, q_l8, q_l9, q_l10, q_l12, q_l17, q_l32, q_l35, q_l48, q_l50, q_l54, q_l57, q_l64, q_l73, q_l118, q_l119, q_l120, q_l122, q_l126, q_l160, q_l256, q_l365, q_l372, q_l438, q_l1000, q_l100000, q_l1000000, q_modF hL.2.2.2.2.2.2.1, a1, a2, c0, h24]
  intro f
  induction f with
  | zero =>
    intro k i σ N d l3 l4 l5 l6 h hn hi hf hk hfl hp h24 h25
    have hsl := w_sk_le (X := X) hi
    exact ⟨σ, stop i σ l3 l4 l5 l6 h hi (by omega) hp h24, hn, h25, fun _ _ _ => rfl, fun _ _ _ _ => rfl⟩
  | succ f ih =>
    intro k i σ N d l3 l4 l5 l6 h hn hi hf hk hfl hp h24 h25
    have hsl := w_sk_le (X := X) hi
    have hid := w_sk_idem (X := X) hi
    by_cases hI : w_sk X L i < L
    · obtain ⟨k', rfl⟩ : ∃ k', k = k' + 1 := ⟨k - 1, by omega⟩
      obtain ⟨hc, hfl'⟩ := w_flf_s hi hI hfl
      have eqr : y_rn X L (f + 1) i (N, d) = y_rn X L f (w_cm X L (w_sk X L i)).2.1 ((y_d1 X L (w_sk X L i) N).1, d + (y_d1 X L (w_sk X L i) N).2) := by
        show (if w_sk X L i < L then _ else _) = _
        rw [if_pos hI]
      rw [eqr]
      obtain ⟨a1, a2, -⟩ := z_pl h hp hsl.2
      have wm : w32 (-1) = -1 := by decide
      have e1 : w32 1 = 1 := by decide
      have n10 : ¬ (1 : Int) = 0 := by decide
      have c0 : ¬ (L : Int) ≤ (w_sk X L i : Int) := by clear a1 a2 wm e1; omega
      obtain ⟨isL, a, b, th, σ1, r1, r2, r3, r4⟩ := z_cmd (Z := Z) (e := e) (s := s) (B := (0, 1)) (l3 := l3) (l4 := l4) (l5 := l5) (l6 := l6) hL h hp h24 hI hid
      obtain ⟨b1, b24, i', i1, i2, i3⟩ := r3
      rw [if_pos hc] at b24
      have e' := i3 hc
      subst e'
      have hadv := w_cm_adv (X := X) (Nat.le_of_lt hI) hc
      obtain ⟨n1, n2, n3⟩ := w_cm_num (X := X) (Nat.le_of_lt hI) hc
      obtain ⟨g0, g1, g2, g3⟩ := r4 hc
      have hn1 : z_n σ1 N := z_nF hn (r2.1 192 (by omega))
      -- the command is carried out
      obtain ⟨cc, hcc, hkind, hlet⟩ : ∃ cc : Int, (w_kc X L (w_sk X L i) = 119 ∧ cc = 119 ∨ w_kc X L (w_sk X L i) = 118 ∧ cc = 118 ∨ w_kc X L (w_sk X L i) = 120 ∧ cc = 120 ∨ w_kc X L (w_sk X L i) = 35 ∧ cc = 0) ∧ (isL = 1 ∧ cc = w_sg X L (w_sk X L i) ∨ isL = 0 ∧ cc = 0) ∧ True := by
        rcases g3 with ⟨q1, q2, q3⟩ | ⟨q1, q2, q3⟩ | ⟨q1, q2, q3⟩ | ⟨q1, q3⟩
        · exact ⟨119, Or.inl ⟨q1, rfl⟩, Or.inl ⟨q3, q2.symm⟩, trivial⟩
        · exact ⟨118, Or.inr (Or.inl ⟨q1, rfl⟩), Or.inl ⟨q3, q2.symm⟩, trivial⟩
        · exact ⟨120, Or.inr (Or.inr (Or.inl ⟨q1, rfl⟩)), Or.inl ⟨q3, q2.symm⟩, trivial⟩
        · exact ⟨0, Or.inr (Or.inr (Or.inr ⟨q1, rfl⟩)), Or.inr ⟨q3, rfl⟩, trivial⟩
      obtain ⟨ω, o1, o2, o3⟩ := z_isDone (Z := Z) (e := e) (s := s) (x := a) (y := b) (z := th) hL hn1 hcc (by rw [← g0]; exact n1 0) (by rw [← g1]; exact n1 1) (by rw [← g2]; exact n1 2)
      have ed1 : y_do (w_kc X L (w_sk X L i)) a b th N = y_d1 X L (w_sk X L i) N := by unfold y_d1; rw [g0, g1, g2]
      rw [ed1] at o1 o2
      have h25' : ω 191 25 = d := by rw [o3 191 (by omega), r2.2 25 (by omega) (by omega)]; exact h25
      have s25 : σ1 191 25 = d := by rw [r2.2 25 (by omega) (by omega)]; exact h25
      obtain ⟨ρ, hρ⟩ : ∃ ρ, ρ = m_up2 ω 191 25 (d + (y_d1 X L (w_sk X L i) N).2) := ⟨_, rfl⟩
      have ρ23 : ρ 191 23 = ((w_cm X L (w_sk X L i)).2.1 : Int) := by rw [hρ, m_up2_nk (by omega), o3 191 (by omega)]; exact i2
      have ρt : z_txt ρ X L := by
        refine z_txt_d h ?_ ?_
        · rw [hρ, m_up2_nk (by omega), o3 191 (by omega), r2.2 6 (by omega) (by omega)]
        · rw [hρ, m_up2_ne (by omega), o3 195 (by omega), r2.1 195 (by omega)]
      have hlk := z_looking (Z := Z) (e := e) (s := s) hL ρt ρ23 i1
      have hdo : (y_d1 X L (w_sk X L i) N).2 = 0 ∨ (y_d1 X L (w_sk X L i) N).2 = 1 := y_do_01
      have e0 : w32 0 = 0 := by decide
      have step : m_run Z (244, 20, [(2, ((191 : Nat) : Int)), (0, 1), (0, w_sg X L (w_sk X L i)), l3, l4, l5, l6], [], (K, σ, 206, e, s)) = m_run Z (244, 20, [(2, ((191 : Nat) : Int)), (0, 1), (0, w_sg X L (w_sk X L (w_cm X L (w_sk X L i)).2.1)), (0, isL), (0, a), (0, b), (0, th)], [], (K, m_up2 ρ 191 23 (w_sk X L (w_cm X L (w_sk X L i)).2.1 : Int), 206, e, s)) := by
        conv => lhs; simp only [b_244_20, b_244_31, ↓reduceIte, Nat.reduceEqDiff, Nat.reduceMul, q_n10, q_n01, Option.bind_some, g_aft0, g_aft1, g_aft2, g_aft3, g_aft9, Nat.reduceAdd, m_kill_0, m_kill_2, m_kill_3, m_kill_4, m_kill_9, true_or, or_true, q_lm1, q_l0, q_l1, q_l2, q_l3, q_l4, q_l5, q_l6, q_l8, q_l9, q_l10, q_l12, q_l17, q_l32, q_l35, q_l48, q_l50, q_l54, q_l57, q_l64, q_l73, q_l118, q_l119, q_l120, q_l122, q_l126, q_l160, q_l256, q_l365, q_l372, q_l438, q_l1000, q_l100000, q_l1000000, q_modF hL.2.2.2.2.2.2.1, a1, a2, c0, h24, wm]
        refine Eq.trans r1 ?_
        have call : m_run Z (244, 161, [(2, ((191 : Nat) : Int)), (0, 1), (0, w_sg X L (w_sk X L i)), (0, isL), (0, a), (0, b), (0, th)], [], (K, σ1, 206, e, s)) = m_run Z (244, 189, [(2, ((191 : Nat) : Int)), (0, 1), (0, w_sg X L (w_sk X L i)), (0, isL), (0, a), (0, b), (0, th)], [(0, (y_d1 X L (w_sk X L i) N).2), (0, d), (2, ((191 : Nat) : Int))], (K, ω, 206, e, s)) := by
          rcases hkind with ⟨q1, q2⟩ | ⟨q1, q2⟩
          · rw [q2] at o1
            rw [q1]
            simp only [b_244_161, b_244_165, b_244_175, ↓reduceIte, Nat.reduceEqDiff, Nat.reduceMul, q_n10, q_n01, Option.bind_some, g_aft0, g_aft1, g_aft2, g_aft3, g_aft9, Nat.reduceAdd, m_kill_0, m_kill_2, m_kill_3, m_kill_4, m_kill_9, true_or, or_true, q_lm1, q_l0, q_l1, q_l2, q_l3, q_l4, q_l5, q_l6, q_l8, q_l9, q_l10, q_l12, q_l17, q_l32, q_l35, q_l48, q_l50, q_l54, q_l57, q_l64, q_l73, q_l118, q_l119, q_l120, q_l122, q_l126, q_l160, q_l256, q_l365, q_l372, q_l438, q_l1000, q_l100000, q_l1000000, q_modF hL.2.2.2.2.2.2.1, e1, n10, s25, o1]
          · rw [q2] at o1
            rw [q1]
            simp only [b_244_161, b_244_165, b_244_179, b_244_180, ↓reduceIte, Nat.reduceEqDiff, Nat.reduceMul, q_n10, q_n01, Option.bind_some, g_aft0, g_aft1, g_aft2, g_aft3, g_aft9, Nat.reduceAdd, m_kill_0, m_kill_2, m_kill_3, m_kill_4, m_kill_9, true_or, or_true, q_lm1, q_l0, q_l1, q_l2, q_l3, q_l4, q_l5, q_l6, q_l8, q_l9, q_l10, q_l12, q_l17, q_l32, q_l35, q_l48, q_l50, q_l54, q_l57, q_l64, q_l73, q_l118, q_l119, q_l120, q_l122, q_l126, q_l160, q_l256, q_l365, q_l372, q_l438, q_l1000, q_l100000, q_l1000000, q_modF hL.2.2.2.2.2.2.1, e1, e0, n10, s25, o1]
        rw [call]
        rcases hdo with q | q
        · rw [q] at hρ ⊢
          rw [Int.add_zero] at hρ
          have hρ' : m_up2 ω 191 25 (d + 0) = ρ := by rw [Int.add_zero]; exact hρ.symm
          simp only [b_244_189, b_244_196, b_244_197, b_244_201, b_244_205, ↓reduceIte, Nat.reduceEqDiff, Nat.reduceMul, q_n10, q_n01, Option.bind_some, g_aft0, g_aft1, g_aft2, g_aft3, g_aft9, Nat.reduceAdd, m_kill_0, m_kill_2, m_kill_3, m_kill_4, m_kill_9, true_or, or_true, q_lm1, q_l0, q_l1, q_l2, q_l3, q_l4, q_l5, q_l6, q_l8, q_l9, q_l10, q_l12, q_l17, q_l32, q_l35, q_l48, q_l50, q_l54, q_l57, q_l64, q_l73, q_l118, q_l119, q_l120, q_l122, q_l126, q_l160, q_l256, q_l365, q_l372, q_l438, q_l1000, q_l100000, q_l1000000, q_modF hL.2.2.2.2.2.2.1, e0, hρ', hlk]
        · rw [q] at hρ ⊢
          simp only [b_244_189, b_244_192, b_244_201, b_244_205, ↓reduceIte, Nat.reduceEqDiff, Nat.reduceMul, q_n10, q_n01, Option.bind_some, g_aft0, g_aft1, g_aft2, g_aft3, g_aft9, Nat.reduceAdd, m_kill_0, m_kill_2, m_kill_3, m_kill_4, m_kill_9, true_or, or_true, q_lm1, q_l0, q_l1, q_l2, q_l3, q_l4, q_l5, q_l6, q_l8, q_l9, q_l10, q_l12, q_l17, q_l32, q_l35, q_l48, q_l50, q_l54, q_l57, q_l64, q_l73, q_l118, q_l119, q_l120, q_l122, q_l126, q_l160, q_l256, q_l365, q_l372, q_l438, q_l1000, q_l100000, q_l1000000, q_modF hL.2.2.2.2.2.2.1, e1, n10, ← hρ, hlk]
      rw [step]
      have hcl := w_cm_le (X := X) (i := w_sk X L i) (Nat.le_of_lt hI)
      have ρn : z_n ρ (y_d1 X L (w_sk X L i) N).1 := z_nF o2 (by rw [hρ, m_up2_ne (by omega)])
      obtain ⟨τ, t1, t2, t3, t4, t5⟩ := ih k' (w_cm X L (w_sk X L i)).2.1 (m_up2 ρ 191 23 (w_sk X L (w_cm X L (w_sk X L i)).2.1 : Int)) (y_d1 X L (w_sk X L i) N).1 (d + (y_d1 X L (w_sk X L i) N).2) (0, isL) (0, a) (0, b) (0, th) (z_txt_p ρt z_fp_23) (z_nF ρn (m_up2_ne (by omega))) hcl.2 (by clear a1 a2 wm e1 e0; omega) (by clear a1 a2 wm e1 e0; omega) hfl' m_up2_at (by rw [m_up2_nk (by omega), hρ, m_up2_nk (by omega), o3 191 (by omega)]; exact b24) (by rw [m_up2_nk (by omega), hρ, m_up2_at])
      refine ⟨τ, t1, t2, t3, fun a h1 h2 => ?_, fun j h1 h2 h3 => ?_⟩
      · rw [t4 a h1 h2, m_up2_ne h1, hρ, m_up2_ne h1, o3 a h2, r2.1 a h1]
      · rw [t5 j h1 h2 h3, m_up2_nk h1, hρ, m_up2_nk h3, o3 191 (by omega), r2.2 j h1 h2]
    · have eqr : y_rn X L (f + 1) i (N, d) = (N, d) := by
        show (if w_sk X L i < L then _ else _) = _
        rw [if_neg hI]
      rw [eqr]
      exact ⟨σ, stop i σ l3 l4 l5 l6 h hi hI hp h24, hn, h25, fun _ _ _ => rfl, fun _ _ _ _ => rfl⟩
theorem z_faultC (hL : q_lay K) (h : z_inv σ N R c X L) : z_O (m_cl Z 246 [(2, ((191 : Nat) : Int))] (K, σ, 206, e, s)) K e s σ N R c X L 0 (w_fl X L) := by
  have h4 := z_inv4 (v := 0) h
  obtain ⟨τ, t1, t2⟩ := z_goes0 (Z := Z) (e := e) (s := s) hL h4.2.2
  refine z_okz (τ := τ) h ⟨fun a ha => t2.1 a (by omega), fun j hj => t2.2 j (by omega) (by omega) (by omega)⟩ ?_
  simp only [e_246, b_246_0, b_246_10, ↓reduceIte, Nat.reduceEqDiff, Nat.reduceMul, q_n10, q_n01, Option.bind_some, g_aft0, g_aft1, g_aft2, g_aft3, g_aft9, Nat.reduceAdd, m_kill_0, m_kill_2, m_kill_3, m_kill_4, m_kill_9, true_or, or_true, q_lm1, q_l0, q_l1, q_l2, q_l3, q_l4, q_l5, q_l6, q_l8, q_l9, q_l10, q_l12, q_l17, q_l32, q_l35, q_l48, q_l50, q_l54, q_l57, q_l64, q_l73, q_l118, q_l119, q_l120, q_l122, q_l126, q_l160, q_l256, q_l365, q_l372, q_l438, q_l1000, q_l100000, q_l1000000, q_modF hL.2.2.2.2.2.2.1, t1]
theorem z_runC (hL : q_lay K) (h : z_inv σ N R c X L) : (w_fl X L ≠ -1 → z_O (m_cl Z 247 [(2, ((191 : Nat) : Int))] (K, σ, 206, e, s)) K e s σ N R c X L 1 0) ∧ (w_fl X L = -1 → z_O (m_cl Z 247 [(2, ((191 : Nat) : Int))] (K, σ, 206, e, s)) K e s σ (y_rn X L 120 0 (N, 0)).1 (w_pR R c N) (w_pc c) X L 0 (y_rn X L 120 0 (N, 0)).2) := by
  obtain ⟨τ, t1, t2⟩ := z_goes0 (Z := Z) (e := e) (s := s) hL h.2.2
  have wm : w32 (-1) = -1 := by decide
  have n10 : ¬ (1 : Int) = 0 := by decide
  have hb := w_fl_b (X := X) h.2.2.2.1
  have wf : w32 (w_fl X L) = w_fl X L := by clear wm; exact q_wi (by omega) (by omega)
  have hτ : z_inv τ N R c X L := z_invF h (t2.1 192 (by omega)) (t2.1 193 (by omega)) (t2.1 195 (by omega)) (t2.2 3 (by omega) (by omega) (by omega)) (t2.2 6 (by omega) (by omega) (by omega))
  constructor
  · intro hne
    refine ⟨m_up2 τ 191 4 1, ?_, m_up2_at, z_inv4 hτ, fun a ha => by rw [m_up2_ne (by omega), t2.1 a (by omega)]⟩
    simp only [e_247, b_247_0, b_247_6, b_247_14, b_247_15, b_247_18, b_247_21, ↓reduceIte, Nat.reduceEqDiff, Nat.reduceMul, q_n10, q_n01, Option.bind_some, g_aft0, g_aft1, g_aft2, g_aft3, g_aft9, Nat.reduceAdd, m_kill_0, m_kill_2, m_kill_3, m_kill_4, m_kill_9, true_or, or_true, q_lm1, q_l0, q_l1, q_l2, q_l3, q_l4, q_l5, q_l6, q_l8, q_l9, q_l10, q_l12, q_l17, q_l32, q_l35, q_l48, q_l50, q_l54, q_l57, q_l64, q_l73, q_l118, q_l119, q_l120, q_l122, q_l126, q_l160, q_l256, q_l365, q_l372, q_l438, q_l1000, q_l100000, q_l1000000, q_modF hL.2.2.2.2.2.2.1, t1, wf, wm, hne, z_ref1 hL (x := 1) (by decide) (by decide), n10]
  · intro heq
    obtain ⟨ω, o1, o2, o3⟩ := z_chg (Z := Z) (e := e) (s := s) hL hτ
    obtain ⟨ρ, hρ⟩ : ∃ ρ, ρ = m_up2 (m_up2 (m_up2 (m_up2 ω 191 23 0) 191 24 (-1)) 191 25 0) 191 23 (w_sk X L 0 : Int) := ⟨_, rfl⟩
    have o4 := o3 ω N hτ.1.1 o2.2 (fun _ _ => rfl)
    have hf : z_fd ω ρ := by
      rw [hρ]
      exact ⟨fun a h1 => by rw [m_up2_ne h1, m_up2_ne h1, m_up2_ne h1, m_up2_ne h1], fun j h1 h2 h3 => by rw [m_up2_nk h1, m_up2_nk h3, m_up2_nk h2, m_up2_nk h1]⟩
    have ht := z_txt_d o4.2.1.2.2 (hf.2 6 (by omega) (by omega) (by omega)) (hf.1 195 (by omega))
    have hL120 := h.2.2.2.1
    obtain ⟨φ, p1, p2, p3, p4, p5⟩ := z_goT (Z := Z) (e := e) (s := s) hL 120 (L + 1) 0 ρ N 0 (9, 0) (9, 0) (9, 0) (9, 0) ht (z_nF o2 (hf.1 192 (by omega))) (Nat.zero_le L) (by clear wm wf; omega) (by clear wm wf; omega) heq (by rw [hρ, m_up2_at]) (by rw [hρ, m_up2_nk (by omega), m_up2_nk (by omega), m_up2_at]) (by rw [hρ, m_up2_nk (by omega), m_up2_at])
    have hst := z_start (Z := Z) (e := e) (s := s) (B := 1) hL o4.2.1.2.2
    rw [← hρ, p1] at hst
    have f191 : ∀ j, j < 7 → φ 191 j = ω 191 j := fun j hj => by rw [p5 j (by omega) (by omega) (by omega), hf.2 j (by omega) (by omega) (by omega)]
    obtain ⟨r1, r2, r3⟩ := o4.2.1.2.1
    obtain ⟨x1, x2, x3⟩ := o4.2.1.2.2
    refine ⟨φ, ?_, ?_, ⟨p2, ⟨?_, r2, ?_⟩, ?_, x2, ?_⟩, fun a ha => ?_⟩
    · simp only [e_247, b_247_0, b_247_6, b_247_10, b_247_18, b_247_23, b_247_27, b_247_32, ↓reduceIte, Nat.reduceEqDiff, Nat.reduceMul, q_n10, q_n01, Option.bind_some, g_aft0, g_aft1, g_aft2, g_aft3, g_aft9, Nat.reduceAdd, m_kill_0, m_kill_2, m_kill_3, m_kill_4, m_kill_9, true_or, or_true, q_lm1, q_l0, q_l1, q_l2, q_l3, q_l4, q_l5, q_l6, q_l8, q_l9, q_l10, q_l12, q_l17, q_l32, q_l35, q_l48, q_l50, q_l54, q_l57, q_l64, q_l73, q_l118, q_l119, q_l120, q_l122, q_l126, q_l160, q_l256, q_l365, q_l372, q_l438, q_l1000, q_l100000, q_l1000000, q_modF hL.2.2.2.2.2.2.1, t1, wf, wm, heq, z_ref0 hL, o1, hst, p3]
    · rw [f191 4 (by omega)]; exact o4.1
    · rw [f191 3 (by omega)]; exact r1
    · rw [p4 193 (by omega) (by omega), hf.1 193 (by omega)]; exact r3
    · rw [f191 6 (by omega)]; exact x1
    · rw [p4 195 (by omega) (by omega), hf.1 195 (by omega)]; exact x3
    · rw [p4 a (by omega) (by omega), hf.1 a (by omega), o4.2.2 a ha]
      exact t2.1 a (by omega)
end
end
