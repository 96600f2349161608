section
/-! The model: the bound of a division, groups. -/
theorem q_suballN : ∀ n : Fin 9, ∀ a : Fin 256, a.val < 2 ^ n.val → w_sub a.val (2 ^ n.val - 1) = true := by decide +kernel
theorem w_suball {n a : Nat} (hn : n ≤ 8) (ha : a < 2 ^ n) : w_sub a (2 ^ n - 1) = true := q_suballN ⟨n, by omega⟩ ⟨a, by have := q_pow8 hn; omega⟩ ha
/-- the radii as the model has laid them -/
def z_gF (σ N : Nat → Nat → Int) (f1 f2 : Nat → Rat) : Prop := ∀ S, S < 2 ^ w_nn N → (z_eo σ 200 201 S ∧ z_gr σ 200 201 S = f1 S) ∧ z_eo σ 202 203 S ∧ z_gr σ 202 203 S = f2 S
def z_bd (σ : Nat → Nat → Int) (b : Rat) : Prop := (1 ≤ σ 191 22 ∧ σ 191 22 ≤ 1000) ∧ (0 ≤ σ 191 21 ∧ σ 191 21 ≤ 251885700) ∧ fr (σ 191 21) (σ 191 22) = b
section
variable {Z : mZ} {K : Nat → mK} {σ τ N M : Nat → Nat → Int} {e g i L n c k s a : Nat} {t p q v x y z w u S : Int} {X : Nat → Int} {h : mH} {R : Nat → Nat → Nat → Int} {T : Nat → Int} {b b' : wP}
theorem z_laysT (hL : q_lay K) (hn : z_n σ N) (hr : z_rr σ N) : ∃ τ, m_cl Z 227 [(2, ((191 : Nat) : Int))] (K, σ, 206, e, s) = some (.inl (9, 0), (K, τ, 206, e, s)) ∧ z_tt τ N ∧ ∀ a, a ≠ 202 → a ≠ 203 → τ a = σ a := by
  have hw := hn.1
  have n0 := wf_n hw
  have p8 := q_pow8 n0.2.2
  have hsh := q_shl n0.2.2
  obtain ⟨P, hP⟩ : ∃ P, P = 2 ^ w_nn N := ⟨_, rfl⟩
  rw [← hP] at p8 hsh
  have wP : w32 (P : Int) = (P : Int) := q_w (by clear hsh; omega)
  obtain ⟨y, y1, y2, y3⟩ := q_loop (Z := Z) (N := P) (α := (Nat → Nat → Int) × mV × mV) (S := fun S x => (227, 2, [(2, ((191 : Nat) : Int)), (0, (S : Int)), x.2.1, x.2.2], [], (K, x.1, 206, e, s))) (P := fun m x => (∀ a, a ≠ 202 → a ≠ 203 → x.1 a = σ a) ∧ ∀ S, S < m → z_eo x.1 202 203 S ∧ w_isD (z_gr σ 200 201) (z_gr σ 200 201) S (z_gr x.1 202 203 S)) (by
    rintro S ⟨τ, l2, l3⟩ hS ⟨x1, x2⟩
    have x1 : ∀ a, a ≠ 202 → a ≠ 203 → τ a = σ a := x1
    have x2 : ∀ S', S' < S → z_eo τ 202 203 S' ∧ w_isD (z_gr σ 200 201) (z_gr σ 200 201) S' (z_gr τ 202 203 S') := x2
    have hmn := z_many (Z := Z) (e := e) (s := s) hL (z_nF hn (x1 192 (by omega) (by omega)))
    rw [n0.1] at hmn
    have wS : w32 (S : Int) = (S : Int) := q_w (by clear hsh wP; omega)
    have c0 : ¬ (P : Int) ≤ (S : Int) := by clear hsh wP wS; omega
    have p0 : 0 ≤ (S : Int) := by clear hsh wP wS; omega
    have p1 : (S : Int) < ((256 : Nat) : Int) := by clear hsh wP wS; omega
    have tn : ((S : Int)).toNat = S := rfl
    have u200 : m_up2 τ 203 S 0 200 = σ 200 := by rw [m_up2_ne (by omega), x1 200 (by omega) (by omega)]
    have u201 : m_up2 τ 203 S 0 201 = σ 201 := by rw [m_up2_ne (by omega), x1 201 (by omega) (by omega)]
    have hr' : z_rr (m_up2 τ 203 S 0) N := by
      intro S' hS'
      unfold z_eo z_gr
      rw [u200, u201]
      exact hr S' hS'
    have eg : z_gr (m_up2 τ 203 S 0) 200 201 = z_gr σ 200 201 := by
      funext S'
      unfold z_gr
      rw [u200, u201]
    obtain ⟨ω, l3', o1, o2, o3, o4⟩ := z_two (Z := Z) (e := e) (s := s) (σ := m_up2 τ 203 S 0) (l3 := l3) hL hw hr' (by rw [← hP]; exact hS) m_up2_at
    rw [eg] at o2
    have es : ((S + 1 : Nat) : Int) = (S : Int) + 1 := rfl
    refine ⟨(ω, (0, ((S + 1 : Nat) : Int)), l3'), ?_, fun a h1 h2 => by show ω a = σ a; rw [o3 a h1 h2, m_up2_ne h2]; exact x1 a h1 h2, fun S' hS' => ?_⟩
    · show m_run Z (227, 2, [(2, ((191 : Nat) : Int)), (0, (S : Int)), l2, l3], [], (K, τ, 206, e, s)) = m_run Z (227, 2, [(2, ((191 : Nat) : Int)), (0, ((S + 1 : Nat) : Int)), (0, ((S + 1 : Nat) : Int)), l3'], [], (K, ω, 206, e, s))
      conv => lhs; simp only [b_227_2, ↓reduceIte, Nat.reduceEqDiff, Nat.reduceMul, q_n10, q_n01, Option.bind_some, g_aft0, g_aft1, g_aft2, g_aft3, g_aft9, Nat.reduceAdd, m_kill_0, m_kill_2, m_kill_3, m_kill_4, m_kill_9, true_or, or_true, q_lm1, q_l0, q_l1, q_l2, q_l3, q_l4, q_l5, q_l6, q_l8, q_l9, q_l10, q_l12, q_l17, q_l32, q_l35, q_l48, q_l50, q_l54, q_l57, q_l64, q_l73, q_l118, q_l119, q_l120, q_l122, q_l126, q_l160, q_l256, q_l365, q_l372, q_l438, q_l1000, q_l100000, q_l1000000, q_modF hL.2.2.2.2.2.2.1, hmn]
      conv => lhs; simp only [b_227_8, b_227_12, ↓reduceIte, Nat.reduceEqDiff, Nat.reduceMul, q_n10, q_n01, Option.bind_some, g_aft0, g_aft1, g_aft2, g_aft3, g_aft9, Nat.reduceAdd, m_kill_0, m_kill_2, m_kill_3, m_kill_4, m_kill_9, true_or, or_true, q_lm1, q_l0, q_l1, q_l2, q_l3, q_l4, q_l5, q_l6, q_l8, q_l9, q_l10, q_l12, q_l17, q_l32, q_l35, q_l48, q_l50, q_l54, q_l57, q_l64, q_l73, q_l118, q_l119, q_l120, q_l122, q_l126, q_l160, q_l256, q_l365, q_l372, q_l438, q_l1000, q_l100000, q_l1000000, q_modF hL.2.2.2.2.2.2.1, hsh, wP, wS, c0, p0, p1, tn]
      refine Eq.trans o1 ?_
      simp only [b_227_153]
      rfl
    · show z_eo ω 202 203 S' ∧ w_isD (z_gr σ 200 201) (z_gr σ 200 201) S' (z_gr ω 202 203 S')
      by_cases c : S' = S
      · rw [c]; exact o2
      · have h4 := o4 S' c
        have e2 : ω 202 S' = τ 202 S' := by rw [h4.1, m_up2_ne (by omega)]
        have e3 : ω 203 S' = τ 203 S' := by rw [h4.2, m_up2_nk c]
        have := x2 S' (by clear hsh wP wS; omega)
        unfold z_eo z_gr at this ⊢
        rw [e2, e3]
        exact this) P 0 (σ, (9, 0), (9, 0)) (by clear hsh wP; omega) ⟨fun _ _ _ => rfl, fun S hS => absurd hS (by omega)⟩
  have hmn := z_many (Z := Z) (e := e) (s := s) hL (z_nF hn (y2 192 (by omega) (by omega)))
  rw [n0.1] at hmn
  refine ⟨y.1, ?_, fun S hS => ?_, y2⟩
  · simp only [e_227, b_227_0]
    refine Eq.trans y1 ?_
    conv => lhs; simp only [b_227_2, ↓reduceIte, Nat.reduceEqDiff, Nat.reduceMul, q_n10, q_n01, Option.bind_some, g_aft0, g_aft1, g_aft2, g_aft3, g_aft9, Nat.reduceAdd, m_kill_0, m_kill_2, m_kill_3, m_kill_4, m_kill_9, true_or, or_true, q_lm1, q_l0, q_l1, q_l2, q_l3, q_l4, q_l5, q_l6, q_l8, q_l9, q_l10, q_l12, q_l17, q_l32, q_l35, q_l48, q_l50, q_l54, q_l57, q_l64, q_l73, q_l118, q_l119, q_l120, q_l122, q_l126, q_l160, q_l256, q_l365, q_l372, q_l438, q_l1000, q_l100000, q_l1000000, q_modF hL.2.2.2.2.2.2.1, hmn]
    simp only [b_227_8, b_227_159, ↓reduceIte, Nat.reduceEqDiff, Nat.reduceMul, q_n10, q_n01, Option.bind_some, g_aft0, g_aft1, g_aft2, g_aft3, g_aft9, Nat.reduceAdd, m_kill_0, m_kill_2, m_kill_3, m_kill_4, m_kill_9, true_or, or_true, q_lm1, q_l0, q_l1, q_l2, q_l3, q_l4, q_l5, q_l6, q_l8, q_l9, q_l10, q_l12, q_l17, q_l32, q_l35, q_l48, q_l50, q_l54, q_l57, q_l64, q_l73, q_l118, q_l119, q_l120, q_l122, q_l126, q_l160, q_l256, q_l365, q_l372, q_l438, q_l1000, q_l100000, q_l1000000, hsh, wP, Int.le_refl]
  · have := y3 S (by rw [hP]; exact hS)
    have e200 : z_gr y.1 200 201 = z_gr σ 200 201 := by
      funext S'
      unfold z_gr
      rw [y2 200 (by omega) (by omega), y2 201 (by omega) (by omega)]
    rw [e200]
    exact this
theorem w_isR_0 {f : Rat} (hw : q_wf N) (h : w_isR N t 0 f) : f = 0 := by
  obtain ⟨⟨y, y1, y2⟩, -⟩ := h
  rw [y2]
  have : w_Hv N t ((0 : Nat) : Int) y = 0 := w_H_0 (wf_n hw).2.2
  rw [this, fr_0]
theorem z_gFof {f1 f2 : Nat → Rat} {f3 : Rat} (hw : q_wf N) (hr : z_rr σ N) (ht : z_tt σ N) (hy : y_gF N 0 f1 f2 f3) : z_gF σ N f1 f2 := by
  have p8 := q_pow8 (wf_n hw).2.2
  have h1 : ∀ S, S < 2 ^ w_nn N → z_gr σ 200 201 S = f1 S := fun S hS => w_isR_u (hr S hS).2 (hy.1 S hS)
  intro S hS
  refine ⟨⟨(hr S hS).1, h1 S hS⟩, (ht S hS).1, ?_⟩
  have h2 := w_isD_congr (S := S) (by omega) (fun a ha => h1 a (by omega)) (fun a ha => h1 a (by omega)) (ht S hS).2
  exact w_isD_u h2 (hy.2.1 S hS)
theorem z_bdF {b : Rat} (h : z_bd σ b) (h1 : τ 191 21 = σ 191 21) (h2 : τ 191 22 = σ 191 22) : z_bd τ b := by
  unfold z_bd at *
  rw [h1, h2]
  exact h
theorem z_gFF {f1 f2 : Nat → Rat} (h : z_gF σ N f1 f2) (hf : ∀ a, a = 200 ∨ a = 201 ∨ a = 202 ∨ a = 203 → τ a = σ a) : z_gF τ N f1 f2 := by
  intro S hS
  have := h S hS
  unfold z_eo z_gr at this ⊢
  rw [hf 200 (by omega), hf 201 (by omega), hf 202 (by omega), hf 203 (by omega)]
  exact this
/-- the third bound -/
theorem z_bound3 {f1 f2 : Nat → Rat} {f3 : Rat} {l4 l5 l6 l7 l8 : mV} (hL : q_lay K) (hw : q_wf N) (hy : y_gF N 0 f1 f2 f3) (hF : z_gF σ N f1 f2) (hb : z_bd σ (f2 (2 ^ w_nn N - 1))) : ∃ τ, m_run Z (228, 67, [(2, ((191 : Nat) : Int)), (0, 3), (0, ((2 ^ w_nn N - 1 : Nat) : Int)), (0, ((0 : Nat) : Int)), l4, l5, l6, l7, l8], [], (K, σ, 206, e, s)) = some (.inl (9, 0), (K, τ, 206, e, s)) ∧ z_bd τ f3 ∧ (∀ a, a ≠ 191 → τ a = σ a) ∧ ∀ j, j ≠ 21 → j ≠ 22 → τ 191 j = σ 191 j := by
  have n0 := wf_n hw
  have p8 := q_pow8 n0.2.2
  have f10 := w_isR_0 hw (hy.1 0 (by omega))
  have hsa := fun a ha => w_suball (n := w_nn N) (a := a) n0.2.2 ha
  obtain ⟨A, hA⟩ : ∃ A, A = 2 ^ w_nn N - 1 := ⟨_, rfl⟩
  have hP : 2 ^ w_nn N = A + 1 := by omega
  have hD := hy.2.2
  rw [← hA] at hb hD ⊢
  unfold z_gF at hF
  rw [hP] at hF p8
  rw [← hA, hP] at hsa
  have wA : w32 (A : Int) = (A : Int) := q_w (by omega)
  have e3 : w32 3 = 3 := by decide
  have n10 : ¬ (1 : Int) = 0 := by decide
  obtain ⟨y, y1, y2, y3, y4⟩ := q_loop (Z := Z) (N := A + 1) (α := (Nat → Nat → Int) × mV × mV × mV × mV × mV) (S := fun a x => (228, 67, [(2, ((191 : Nat) : Int)), (0, 3), (0, (A : Int)), (0, (a : Int)), x.2.1, x.2.2.1, x.2.2.2.1, x.2.2.2.2.1, x.2.2.2.2.2], [], (K, x.1, 206, e, s))) (P := fun a x => (∀ b, b ≠ 191 → x.1 b = σ b) ∧ (∀ j, j ≠ 21 → j ≠ 22 → x.1 191 j = σ 191 j) ∧ ∃ v, z_bd x.1 v ∧ (∃ b, b < 256 ∧ w_sub b A = true ∧ v = r_mx (f1 b) (f2 (A - b))) ∧ ∀ b, b < a → w_sub b A = true → v ≤ r_mx (f1 b) (f2 (A - b))) (by
    rintro a ⟨τ, l4, l5, l6, l7, l8⟩ ha ⟨x1, x2, v, x3, x4, x5⟩
    have x1 : ∀ b, b ≠ 191 → τ b = σ b := x1
    have x2 : ∀ j, j ≠ 21 → j ≠ 22 → τ 191 j = σ 191 j := x2
    obtain ⟨⟨b1, b2⟩, ⟨b3, b4⟩, b5⟩ : z_bd τ v := x3
    have wa : w32 (a : Int) = (a : Int) := q_w (by clear wA e3; omega)
    have c0 : ¬ (A : Int) < (a : Int) := by clear wA e3 wa; omega
    have a0 : 0 ≤ (a : Int) := by clear wA e3 wa; omega
    have a1 : (a : Int) < ((256 : Nat) : Int) := by clear wA e3 wa; omega
    have an : ((a : Int)).toNat = a := rfl
    have es : ((a + 1 : Nat) : Int) = (a : Int) + 1 := rfl
    have hsub := hsa a (by clear wA e3 wa; omega)
    obtain ⟨rl, -, er⟩ := w_sub_le (a := a) (S := A) (by clear wA e3 wa; omega) (by clear wA e3 wa; omega) hsub
    obtain ⟨r, hr'⟩ : ∃ r, r = A - a := ⟨_, rfl⟩
    rw [← hr'] at er
    have wr : w32 (r : Int) = (r : Int) := q_w (by clear wA e3 wa er; omega)
    have r0 : 0 ≤ (r : Int) := by clear wA e3 wa er wr; omega
    have r1 : (r : Int) < ((256 : Nat) : Int) := by clear wA e3 wa er wr; omega
    have rn : ((r : Int)).toNat = r := rfl
    obtain ⟨⟨oa, ga⟩, -⟩ := hF a (by clear wA e3 wa er wr; omega)
    obtain ⟨-, oT, gT⟩ := hF r (by clear wA e3 wa er wr; omega)
    have v200 : τ 200 = σ 200 := x1 200 (by omega)
    have v201 : τ 201 = σ 201 := x1 201 (by omega)
    have v202 : τ 202 = σ 202 := x1 202 (by omega)
    have v203 : τ 203 = σ 203 := x1 203 (by omega)
    have g1 := z_gr_lt oa oT
    rw [ga, gT] at g1
    have hc1 : (w32 (l_cmp (σ 200 a * σ 203 r) (σ 202 r * σ 201 a)) < 0) = (f1 a < f2 r) := by rw [l_cl (z_eo_w oa oT) (z_eo_w oT oa), g1]
    have w0 : w32 0 = 0 := by decide
    -- the worse one
    obtain ⟨p, q, d, pq, gv, head⟩ : ∃ (p q d : Int), ((1 ≤ q ∧ q ≤ 1000) ∧ 0 ≤ p ∧ p ≤ 251885700) ∧ fr p q = r_mx (f1 a) (f2 (A - a)) ∧ m_run Z (228, 67, [(2, ((191 : Nat) : Int)), (0, 3), (0, (A : Int)), (0, (a : Int)), l4, l5, l6, l7, l8], [], (K, τ, 206, e, s)) = if 0 ≤ w32 (l_cmp (p * τ 191 22) (τ 191 21 * q)) then m_run Z (228, 67, [(2, ((191 : Nat) : Int)), (0, 3), (0, (A : Int)), (0, (a : Int) + 1), (0, d), (1, p), (9, 0), (1, q), (9, 0)], [], (K, τ, 206, e, s)) else m_run Z (228, 67, [(2, ((191 : Nat) : Int)), (0, 3), (0, (A : Int)), (0, (a : Int) + 1), (0, d), (1, p), (9, 0), (1, q), (9, 0)], [], (K, m_up2 (m_up2 τ 191 21 p) 191 22 q, 206, e, s)) := by
      rw [← hr']
      by_cases c1 : f1 a < f2 r
      · refine ⟨σ 202 r, σ 203 r, 0, oT, by rw [r_mx_eq.1 c1, ← gT]; rfl, ?_⟩
        conv => lhs; simp only [b_228_67, ↓reduceIte, Nat.reduceEqDiff, Nat.reduceMul, q_n10, q_n01, Option.bind_some, g_aft0, g_aft1, g_aft2, g_aft3, g_aft9, Nat.reduceAdd, m_kill_0, m_kill_2, m_kill_3, m_kill_4, m_kill_9, true_or, or_true, q_lm1, q_l0, q_l1, q_l2, q_l3, q_l4, q_l5, q_l6, q_l8, q_l9, q_l10, q_l12, q_l17, q_l32, q_l35, q_l48, q_l50, q_l54, q_l57, q_l64, q_l73, q_l118, q_l119, q_l120, q_l122, q_l126, q_l160, q_l256, q_l365, q_l372, q_l438, q_l1000, q_l100000, q_l1000000, wA, wa, c0]
        simp only [b_228_72, b_228_77, b_228_119, b_228_120, b_228_136, b_228_146, b_228_162, b_228_172, b_228_192, b_228_204, ↓reduceIte, Nat.reduceEqDiff, Nat.reduceMul, q_n10, q_n01, Option.bind_some, g_aft0, g_aft1, g_aft2, g_aft3, g_aft9, Nat.reduceAdd, m_kill_0, m_kill_2, m_kill_3, m_kill_4, m_kill_9, true_or, or_true, q_lm1, q_l0, q_l1, q_l2, q_l3, q_l4, q_l5, q_l6, q_l8, q_l9, q_l10, q_l12, q_l17, q_l32, q_l35, q_l48, q_l50, q_l54, q_l57, q_l64, q_l73, q_l118, q_l119, q_l120, q_l122, q_l126, q_l160, q_l256, q_l365, q_l372, q_l438, q_l1000, q_l100000, q_l1000000, q_modF hL.2.2.2.2.2.2.1, e3, wa, a0, a1, an, wA, er, wr, r0, r1, rn, v200, v201, v202, v203, hc1.trans (eq_true c1), w0]
      · refine ⟨σ 200 a, σ 201 a, 1, oa, by rw [r_mx_eq.2 c1, ← ga]; rfl, ?_⟩
        conv => lhs; simp only [b_228_67, ↓reduceIte, Nat.reduceEqDiff, Nat.reduceMul, q_n10, q_n01, Option.bind_some, g_aft0, g_aft1, g_aft2, g_aft3, g_aft9, Nat.reduceAdd, m_kill_0, m_kill_2, m_kill_3, m_kill_4, m_kill_9, true_or, or_true, q_lm1, q_l0, q_l1, q_l2, q_l3, q_l4, q_l5, q_l6, q_l8, q_l9, q_l10, q_l12, q_l17, q_l32, q_l35, q_l48, q_l50, q_l54, q_l57, q_l64, q_l73, q_l118, q_l119, q_l120, q_l122, q_l126, q_l160, q_l256, q_l365, q_l372, q_l438, q_l1000, q_l100000, q_l1000000, wA, wa, c0]
        simp only [b_228_72, b_228_77, b_228_115, b_228_127, b_228_153, b_228_192, b_228_204, ↓reduceIte, Nat.reduceEqDiff, Nat.reduceMul, q_n10, q_n01, Option.bind_some, g_aft0, g_aft1, g_aft2, g_aft3, g_aft9, Nat.reduceAdd, m_kill_0, m_kill_2, m_kill_3, m_kill_4, m_kill_9, true_or, or_true, q_lm1, q_l0, q_l1, q_l2, q_l3, q_l4, q_l5, q_l6, q_l8, q_l9, q_l10, q_l12, q_l17, q_l32, q_l35, q_l48, q_l50, q_l54, q_l57, q_l64, q_l73, q_l118, q_l119, q_l120, q_l122, q_l126, q_l160, q_l256, q_l365, q_l372, q_l438, q_l1000, q_l100000, q_l1000000, q_modF hL.2.2.2.2.2.2.1, e3, wa, a0, a1, an, wA, er, wr, r0, r1, rn, v200, v201, v202, v203, hc1.trans (eq_false c1), n10]
    have m1 := q_mb pq.2.1 pq.2.2 (show 0 ≤ τ 191 22 by clear wA e3 wa er wr hc1 w0 head; omega) b2
    have m2 := q_mb b3 b4 (show 0 ≤ q by clear wA e3 wa er wr hc1 w0 head; omega) pq.1.2
    have w1 : w64 (p * τ 191 22) = p * τ 191 22 := by clear wA e3 wa er wr hc1 w0 head; exact q_w64 (by omega) (by omega)
    have w2 : w64 (τ 191 21 * q) = τ 191 21 * q := by clear wA e3 wa er wr hc1 w0 head w1; exact q_w64 (by omega) (by omega)
    have hlt : (fr p q < v) = (p * τ 191 22 < τ 191 21 * q) := by
      rw [← b5]
      exact fr_lt (by clear wA e3 wa er wr hc1 w0 head w1 w2; omega) (by clear wA e3 wa er wr hc1 w0 head w1 w2; omega)
    have hc2 : (0 ≤ w32 (l_cmp (p * τ 191 22) (τ 191 21 * q))) = ¬ (fr p q < v) := by rw [l_cge w1 w2, hlt, Int.not_lt]
    by_cases c2 : fr p q < v
    · rw [if_neg (by rw [hc2]; exact fun q => q c2)] at head
      refine ⟨(m_up2 (m_up2 τ 191 21 p) 191 22 q, (0, d), (1, p), (9, 0), (1, q), (9, 0)), ?_, fun b hb => by show m_up2 (m_up2 τ 191 21 p) 191 22 q b = σ b; rw [m_up2_ne hb, m_up2_ne hb]; exact x1 b hb, fun j h1 h2 => by show m_up2 (m_up2 τ 191 21 p) 191 22 q 191 j = σ 191 j; rw [m_up2_nk h2, m_up2_nk h1]; exact x2 j h1 h2, fr p q, ?_, ⟨a, by clear wA e3 wa er wr hc1 w0 head w1 w2 hc2; omega, hsub, gv⟩, fun b hb hs => ?_⟩
      · exact head
      · show z_bd (m_up2 (m_up2 τ 191 21 p) 191 22 q) (fr p q)
        unfold z_bd
        have k1 : m_up2 (m_up2 τ 191 21 p) 191 22 q 191 21 = p := by rw [m_up2_nk (by omega), m_up2_at]
        have k2 : m_up2 (m_up2 τ 191 21 p) 191 22 q 191 22 = q := m_up2_at
        rw [k1, k2]
        exact ⟨pq.1, pq.2, rfl⟩
      · rcases Nat.lt_succ_iff_lt_or_eq.mp hb with h | h
        · exact Rat.le_trans (Rat.le_of_lt c2) (x5 b h hs)
        · subst h; rw [gv]; exact Rat.le_refl
    · rw [if_pos (by rw [hc2]; exact c2)] at head
      refine ⟨(τ, (0, d), (1, p), (9, 0), (1, q), (9, 0)), ?_, x1, x2, v, ⟨⟨b1, b2⟩, ⟨b3, b4⟩, b5⟩, x4, fun b hb hs => ?_⟩
      · exact head
      · rcases Nat.lt_succ_iff_lt_or_eq.mp hb with h | h
        · exact x5 b h hs
        · subst h; rw [← gv]; exact Rat.not_lt.mp c2) (A + 1) 0 (σ, l4, l5, l6, l7, l8) (by clear wA e3; omega) ⟨fun _ _ => rfl, fun _ _ _ => rfl, f2 A, hb, ⟨0, by omega, w_sub_0, by
    rw [f10, Nat.sub_zero]
    have hnn : 0 ≤ f2 A := by
      rw [← hb.2.2]
      exact fr_nn (by have := hb.1; omega) hb.2.1.1
    unfold r_mx
    by_cases d : 0 < f2 A
    · rw [if_pos d]
    · rw [if_neg d]
      exact Rat.le_antisymm (Rat.not_lt.mp d) hnn⟩, fun b hb => absurd hb (by omega)⟩
  obtain ⟨v, v1, v2, v3⟩ := y4
  have hv : v = f3 := by
    refine w_isD_u (f1 := f1) (fk := f2) (S := A) ⟨v2, fun a ha hs => v3 a ?_ hs⟩ hD
    have := (w_sub_le (by clear wA e3; omega) ha hs).1
    clear wA e3; omega
  rw [hv] at v1
  refine ⟨y.1, ?_, v1, y2, y3⟩
  refine Eq.trans y1 ?_
  have wA1 : w32 ((A + 1 : Nat) : Int) = ((A + 1 : Nat) : Int) := q_w (by clear wA e3; omega)
  have c1 : (A : Int) < ((A + 1 : Nat) : Int) := by clear wA wA1 e3; omega
  conv => lhs; simp only [b_228_67, b_228_210, ↓reduceIte, Nat.reduceEqDiff, Nat.reduceMul, q_n10, q_n01, Option.bind_some, g_aft0, g_aft1, g_aft2, g_aft3, g_aft9, Nat.reduceAdd, m_kill_0, m_kill_2, m_kill_3, m_kill_4, m_kill_9, true_or, or_true, q_lm1, q_l0, q_l1, q_l2, q_l3, q_l4, q_l5, q_l6, q_l8, q_l9, q_l10, q_l12, q_l17, q_l32, q_l35, q_l48, q_l50, q_l54, q_l57, q_l64, q_l73, q_l118, q_l119, q_l120, q_l122, q_l126, q_l160, q_l256, q_l365, q_l372, q_l438, q_l1000, q_l100000, q_l1000000, wA, wA1, c1]
theorem z_laysB {f1 f2 : Nat → Rat} {f3 : Rat} (hL : q_lay K) (hn : z_n σ N) (hf : z_far σ N) (hd : y_cc N) (hy : y_gF N 0 f1 f2 f3) (hk : 1 ≤ k) (hk3 : k ≤ 3) : ∃ τ, m_cl Z 228 [(2, ((191 : Nat) : Int)), (0, (k : Int))] (K, σ, 206, e, s) = some (.inl (9, 0), (K, τ, 206, e, s)) ∧ z_bd τ (y_fk f1 f2 f3 (2 ^ w_nn N - 1) k) ∧ z_gF τ N f1 f2 ∧ z_sur τ N 0 ∧ z_fz σ τ := by
  have hw := hn.1
  have n0 := wf_n hw
  have p8 := q_pow8 n0.2.2
  have hall := w_all1 n0.2.2
  obtain ⟨τ, t1, t2, t3, t4⟩ := z_laysR (Z := Z) (e := e) (s := s) hL hn hf hd
  obtain ⟨ω, o1, o2, o3⟩ := z_laysT (Z := Z) (e := e) (s := s) hL t3.1 t2
  have hs : z_sur ω N 0 := z_surF t3 (fun a ha => o3 a (by omega) (by omega))
  have hrr : z_rr ω N := by
    intro S hS
    unfold z_eo z_gr
    rw [o3 200 (by omega) (by omega), o3 201 (by omega) (by omega)]
    exact t2 S hS
  have hF := z_gFof hw hrr o2 hy
  have hfz : z_fz σ ω := z_fz_t t4 ⟨fun a ha => o3 a (by omega) (by omega), fun j _ => by rw [o3 191 (by omega) (by omega)]⟩
  have hmn := z_many (Z := Z) (e := e) (s := s) hL hs.1
  rw [n0.1] at hmn
  obtain ⟨A, hA⟩ : ∃ A, A = 2 ^ w_nn N - 1 := ⟨_, rfl⟩
  obtain ⟨⟨oR, gR⟩, oT, gT⟩ := hF A (by omega)
  have wA : w32 (A : Int) = (A : Int) := q_w (by clear hall; omega)
  have a0 : 0 ≤ (A : Int) := by clear hall wA; omega
  have a1 : (A : Int) < ((256 : Nat) : Int) := by clear hall wA; omega
  have an : ((A : Int)).toNat = A := rfl
  rw [← hA] at hall
  have e1 : w32 1 = 1 := by decide
  have e2 : w32 2 = 2 := by decide
  have e3 : w32 3 = 3 := by decide
  have e0 : w32 0 = 0 := by decide
  have cA : ¬ (A : Int) < 0 := by clear hall wA e1 e2 e3 e0; omega
  have n21 : ¬ (2 : Int) = 1 := by decide
  have n23 : ¬ (2 : Int) = 3 := by decide
  have n31 : ¬ (3 : Int) = 1 := by decide
  have n13 : ¬ (1 : Int) = 3 := by decide
  have up : ∀ p q j, j ≠ 21 → j ≠ 22 → m_up2 (m_up2 ω 191 21 p) 191 22 q 191 j = ω 191 j := fun p q j h1 h2 => by rw [m_up2_nk h2, m_up2_nk h1]
  have upn : ∀ p q a, a ≠ 191 → m_up2 (m_up2 ω 191 21 p) 191 22 q a = ω a := fun p q a h => by rw [m_up2_ne h, m_up2_ne h]
  have fin : ∀ (ρ : Nat → Nat → Int), (∀ a, a ≠ 191 → ρ a = ω a) → (∀ j, j ≠ 21 → j ≠ 22 → ρ 191 j = ω 191 j) → z_gF ρ N f1 f2 ∧ z_sur ρ N 0 ∧ z_fz σ ρ := by
    intro ρ h1 h2
    exact ⟨z_gFF hF (fun a ha => h1 a (by omega)), z_surF hs (fun a ha => h1 a (by omega)), z_fz_t hfz ⟨fun a ha => h1 a (by omega), fun j hj => h2 j (by omega) (by omega)⟩⟩
  have bd : ∀ p q v, (1 ≤ q ∧ q ≤ 1000) → (0 ≤ p ∧ p ≤ 251885700) → fr p q = v → z_bd (m_up2 (m_up2 ω 191 21 p) 191 22 q) v := by
    intro p q v h1 h2 h3
    unfold z_bd
    have k1 : m_up2 (m_up2 ω 191 21 p) 191 22 q 191 21 = p := by rw [m_up2_nk (by omega), m_up2_at]
    have k2 : m_up2 (m_up2 ω 191 21 p) 191 22 q 191 22 = q := m_up2_at
    rw [k1, k2]
    exact ⟨h1, h2, h3⟩
  have u201 : m_up2 ω 191 21 (ω 200 A) 201 A = ω 201 A := by rw [m_up2_ne (by omega)]
  have u203 : m_up2 ω 191 21 (ω 202 A) 203 A = ω 203 A := by rw [m_up2_ne (by omega)]
  rw [← hA]
  rcases (show k = 1 ∨ k = 2 ∨ k = 3 by clear hall wA e1 e2 e3 e0; omega) with rfl | rfl | rfl
  · have ek : ((1 : Nat) : Int) = 1 := rfl
    refine ⟨m_up2 (m_up2 ω 191 21 (ω 200 A)) 191 22 (ω 201 A), ?_, bd _ _ _ oR.1 oR.2 (by rw [show y_fk f1 f2 f3 A 1 = f1 A from if_pos rfl, ← gR]; rfl), fin _ (upn _ _) (up _ _)⟩
    rw [ek]
    simp only [e_228, b_228_0, b_228_4, b_228_8, b_228_13, b_228_23, b_228_47, ↓reduceIte, Nat.reduceEqDiff, Nat.reduceMul, q_n10, q_n01, Option.bind_some, g_aft0, g_aft1, g_aft2, g_aft3, g_aft9, Nat.reduceAdd, m_kill_0, m_kill_2, m_kill_3, m_kill_4, m_kill_9, true_or, or_true, q_lm1, q_l0, q_l1, q_l2, q_l3, q_l4, q_l5, q_l6, q_l8, q_l9, q_l10, q_l12, q_l17, q_l32, q_l35, q_l48, q_l50, q_l54, q_l57, q_l64, q_l73, q_l118, q_l119, q_l120, q_l122, q_l126, q_l160, q_l256, q_l365, q_l372, q_l438, q_l1000, q_l100000, q_l1000000, q_modF hL.2.2.2.2.2.2.1, t1, o1, hmn, hall, e1, wA, a0, a1, an, u201]
    conv => lhs; simp only [b_228_67, ↓reduceIte, Nat.reduceEqDiff, Nat.reduceMul, q_n10, q_n01, Option.bind_some, g_aft0, g_aft1, g_aft2, g_aft3, g_aft9, Nat.reduceAdd, m_kill_0, m_kill_2, m_kill_3, m_kill_4, m_kill_9, true_or, or_true, q_lm1, q_l0, q_l1, q_l2, q_l3, q_l4, q_l5, q_l6, q_l8, q_l9, q_l10, q_l12, q_l17, q_l32, q_l35, q_l48, q_l50, q_l54, q_l57, q_l64, q_l73, q_l118, q_l119, q_l120, q_l122, q_l126, q_l160, q_l256, q_l365, q_l372, q_l438, q_l1000, q_l100000, q_l1000000, wA, e0, cA]
    simp only [b_228_72, b_228_210, ↓reduceIte, Nat.reduceEqDiff, Nat.reduceMul, q_n10, q_n01, Option.bind_some, g_aft0, g_aft1, g_aft2, g_aft3, g_aft9, Nat.reduceAdd, m_kill_0, m_kill_2, m_kill_3, m_kill_4, m_kill_9, true_or, or_true, q_lm1, q_l0, q_l1, q_l2, q_l3, q_l4, q_l5, q_l6, q_l8, q_l9, q_l10, q_l12, q_l17, q_l32, q_l35, q_l48, q_l50, q_l54, q_l57, q_l64, q_l73, q_l118, q_l119, q_l120, q_l122, q_l126, q_l160, q_l256, q_l365, q_l372, q_l438, q_l1000, q_l100000, q_l1000000, e1, e3, n13]
  · have ek : ((2 : Nat) : Int) = 2 := rfl
    refine ⟨m_up2 (m_up2 ω 191 21 (ω 202 A)) 191 22 (ω 203 A), ?_, bd _ _ _ oT.1 oT.2 (by rw [show y_fk f1 f2 f3 A 2 = f2 A from by unfold y_fk; rw [if_neg (by omega), if_pos rfl], ← gT]; rfl), fin _ (upn _ _) (up _ _)⟩
    rw [ek]
    simp only [e_228, b_228_0, b_228_4, b_228_8, b_228_13, b_228_32, b_228_38, b_228_56, b_228_62, ↓reduceIte, Nat.reduceEqDiff, Nat.reduceMul, q_n10, q_n01, Option.bind_some, g_aft0, g_aft1, g_aft2, g_aft3, g_aft9, Nat.reduceAdd, m_kill_0, m_kill_2, m_kill_3, m_kill_4, m_kill_9, true_or, or_true, q_lm1, q_l0, q_l1, q_l2, q_l3, q_l4, q_l5, q_l6, q_l8, q_l9, q_l10, q_l12, q_l17, q_l32, q_l35, q_l48, q_l50, q_l54, q_l57, q_l64, q_l73, q_l118, q_l119, q_l120, q_l122, q_l126, q_l160, q_l256, q_l365, q_l372, q_l438, q_l1000, q_l100000, q_l1000000, q_modF hL.2.2.2.2.2.2.1, t1, o1, hmn, hall, e1, e2, n21, wA, a0, a1, an, u203]
    conv => lhs; simp only [b_228_67, ↓reduceIte, Nat.reduceEqDiff, Nat.reduceMul, q_n10, q_n01, Option.bind_some, g_aft0, g_aft1, g_aft2, g_aft3, g_aft9, Nat.reduceAdd, m_kill_0, m_kill_2, m_kill_3, m_kill_4, m_kill_9, true_or, or_true, q_lm1, q_l0, q_l1, q_l2, q_l3, q_l4, q_l5, q_l6, q_l8, q_l9, q_l10, q_l12, q_l17, q_l32, q_l35, q_l48, q_l50, q_l54, q_l57, q_l64, q_l73, q_l118, q_l119, q_l120, q_l122, q_l126, q_l160, q_l256, q_l365, q_l372, q_l438, q_l1000, q_l100000, q_l1000000, wA, e0, cA]
    simp only [b_228_72, b_228_210, ↓reduceIte, Nat.reduceEqDiff, Nat.reduceMul, q_n10, q_n01, Option.bind_some, g_aft0, g_aft1, g_aft2, g_aft3, g_aft9, Nat.reduceAdd, m_kill_0, m_kill_2, m_kill_3, m_kill_4, m_kill_9, true_or, or_true, q_lm1, q_l0, q_l1, q_l2, q_l3, q_l4, q_l5, q_l6, q_l8, q_l9, q_l10, q_l12, q_l17, q_l32, q_l35, q_l48, q_l50, q_l54, q_l57, q_l64, q_l73, q_l118, q_l119, q_l120, q_l122, q_l126, q_l160, q_l256, q_l365, q_l372, q_l438, q_l1000, q_l100000, q_l1000000, e2, e3, n23]
  · have ek : ((3 : Nat) : Int) = 3 := rfl
    have hF2 := (fin _ (upn (ω 202 A) (ω 203 A)) (up (ω 202 A) (ω 203 A)))
    have hb2 := bd (ω 202 A) (ω 203 A) (f2 A) oT.1 oT.2 (by rw [← gT]; rfl)
    obtain ⟨ρ, r1, r2, r3, r4⟩ := z_bound3 (Z := Z) (e := e) (s := s) (l4 := (9, 0)) (l5 := (9, 0)) (l6 := (9, 0)) (l7 := (9, 0)) (l8 := (9, 0)) hL hw hy hF2.1 (by rw [← hA]; exact hb2)
    rw [← hA] at r1
    refine ⟨ρ, ?_, by rw [show y_fk f1 f2 f3 A 3 = f3 from by unfold y_fk; rw [if_neg (by omega), if_neg (by omega)]]; exact r2, fin ρ (fun a h => by rw [r3 a h, upn _ _ a h]) (fun j h1 h2 => by rw [r4 j h1 h2, up _ _ j h1 h2])⟩
    rw [ek]
    simp only [e_228, b_228_0, b_228_4, b_228_8, b_228_13, b_228_32, b_228_38, b_228_56, b_228_62, ↓reduceIte, Nat.reduceEqDiff, Nat.reduceMul, q_n10, q_n01, Option.bind_some, g_aft0, g_aft1, g_aft2, g_aft3, g_aft9, Nat.reduceAdd, m_kill_0, m_kill_2, m_kill_3, m_kill_4, m_kill_9, true_or, or_true, q_lm1, q_l0, q_l1, q_l2, q_l3, q_l4, q_l5, q_l6, q_l8, q_l9, q_l10, q_l12, q_l17, q_l32, q_l35, q_l48, q_l50, q_l54, q_l57, q_l64, q_l73, q_l118, q_l119, q_l120, q_l122, q_l126, q_l160, q_l256, q_l365, q_l372, q_l438, q_l1000, q_l100000, q_l1000000, q_modF hL.2.2.2.2.2.2.1, t1, o1, hmn, hall, e1, e3, n31, wA, a0, a1, an, u203]
    exact r1
end
end
