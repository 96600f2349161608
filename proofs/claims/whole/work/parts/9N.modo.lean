section
/-! The model: radii of all sets, and of two centers. -/
def z_eo (σ : Nat → Nat → Int) (a b S : Nat) : Prop := (1 ≤ σ b S ∧ σ b S ≤ 1000) ∧ 0 ≤ σ a S ∧ σ a S ≤ 251885700
theorem i_and_w {x y : Int} : w32 (i_and x y) = i_and x y := by
  unfold i_and
  generalize Int32.ofInt x &&& Int32.ofInt y = z
  have h1 := z.toInt_lt
  have h2 := z.le_toInt
  exact w32_of (by omega) (by omega)
def z_gr (σ : Nat → Nat → Int) (a b S : Nat) : Rat := fr (σ a S) (σ b S)
def z_rr (σ N : Nat → Nat → Int) : Prop := ∀ S, S < 2 ^ w_nn N → z_eo σ 200 201 S ∧ w_isR N 0 S (z_gr σ 200 201 S)
def z_tt (σ N : Nat → Nat → Int) : Prop := ∀ S, S < 2 ^ w_nn N → z_eo σ 202 203 S ∧ w_isD (z_gr σ 200 201) (z_gr σ 200 201) S (z_gr σ 202 203 S)
/-- the least of the first m parts -/
def w_isDm (f1 fk : Nat → Rat) (S m : Nat) (x : Rat) : Prop := (∃ a, a < m ∧ w_sub a S = true ∧ x = r_mx (f1 a) (fk (S - a))) ∧ ∀ a, a < m → w_sub a S = true → x ≤ r_mx (f1 a) (fk (S - a))
theorem w_isDm_all {f1 fk : Nat → Rat} {S : Nat} {x : Rat} (hS : S < 256) (h : w_isDm f1 fk S (S + 1) x) : w_isD f1 fk S x := by
  obtain ⟨⟨a, a1, a2, a3⟩, h2⟩ := h
  refine ⟨⟨a, by omega, a2, a3⟩, fun b hb hs => h2 b ?_ hs⟩
  have := (w_sub_le hS hb hs).1
  omega
theorem w_isDm_n {f1 fk : Nat → Rat} {S m : Nat} {x : Rat} (h : w_isDm f1 fk S m x) (hn : w_sub m S = true → x ≤ r_mx (f1 m) (fk (S - m))) : w_isDm f1 fk S (m + 1) x := by
  obtain ⟨⟨a, a1, a2, a3⟩, h2⟩ := h
  refine ⟨⟨a, by omega, a2, a3⟩, fun b hb hs => ?_⟩
  rcases Nat.lt_succ_iff_lt_or_eq.mp hb with q | q
  · exact h2 b q hs
  · subst q; exact hn hs
theorem w_isDm_y {f1 fk : Nat → Rat} {S m : Nat} {x : Rat} (hm : w_sub m S = true) (hx : x = r_mx (f1 m) (fk (S - m))) (h : (∀ a, a < m → w_sub a S = true → False) ∨ ∃ y, w_isDm f1 fk S m y ∧ x ≤ y) : w_isDm f1 fk S (m + 1) x := by
  refine ⟨⟨m, by omega, hm, hx⟩, fun b hb hs => ?_⟩
  rcases Nat.lt_succ_iff_lt_or_eq.mp hb with q | q
  · rcases h with h | ⟨y, h1, h2⟩
    · exact absurd (h b q hs) id
    · exact Rat.le_trans h2 (h1.2 b q hs)
  · subst q; rw [hx]; exact Rat.le_refl
section
variable {Z : mZ} {K : Nat → mK} {σ τ N M : Nat → Nat → Int} {e g i L n c k s a : Nat} {t p q v x y z w u S : Int} {X : Nat → Int} {h : mH} {R : Nat → Nat → Nat → Int} {T : Nat → Int} {b b' : wP}
theorem w_isR_of {S : Nat} (hw : q_wf N) (hc : y_cc N) (ht : 0 ≤ t) (ht2 : t ≤ 10) (hb' : w_best (w_Hv N t (S : Int)) (z_ps N t (S : Int)) b') : w_isR N t S (fr (w_Hv N t (S : Int) b') b'.2.2) := by
  obtain ⟨b, hb⟩ := best_ex (w_Hv N t (S : Int)) (w_pts N t) (w_pts_ne hw hc.2)
  obtain ⟨hq, -⟩ := z_eqbH hw hc.1 ht ht2 hb hb'
  rw [hq.2.2.1]
  refine ⟨⟨b, hb.1, rfl⟩, fun y hy => ?_⟩
  rw [← Rat.not_lt]
  intro q
  exact hb.2 y hy (Or.inl q)
theorem w_isR_u {S : Nat} {f f' : Rat} (h : w_isR N t S f) (h' : w_isR N t S f') : f = f' := by
  obtain ⟨⟨y, y1, y2⟩, h2⟩ := h
  obtain ⟨⟨z, z1, z2⟩, h4⟩ := h'
  have a1 := h2 z z1
  have a2 := h4 y y1
  rw [← z2] at a1
  rw [← y2] at a2
  exact Rat.le_antisymm a1 a2
theorem w_isD_u {f1 fk : Nat → Rat} {S : Nat} {f f' : Rat} (h : w_isD f1 fk S f) (h' : w_isD f1 fk S f') : f = f' := by
  obtain ⟨⟨y, y0, y1, y2⟩, h2⟩ := h
  obtain ⟨⟨z, z0, z1, z2⟩, h4⟩ := h'
  have a1 := h2 z z0 z1
  have a2 := h4 y y0 y1
  rw [← z2] at a1
  rw [← y2] at a2
  exact Rat.le_antisymm a1 a2
theorem z_laysR (hL : q_lay K) (hn : z_n σ N) (hf : z_far σ N) (hd : y_cc N) : ∃ τ, m_cl Z 226 [(2, ((191 : Nat) : Int))] (K, σ, 206, e, s) = some (.inl (9, 0), (K, τ, 206, e, s)) ∧ z_rr τ N ∧ z_sur τ N 0 ∧ z_fz σ τ := by
  have hw := hn.1
  have n0 := wf_n hw
  have p8 := q_pow8 n0.2.2
  have hsh := q_shl n0.2.2
  obtain ⟨ω, o1, o2, o3⟩ := z_weighs (Z := Z) (e := e) (s := s) (t := 0) hL hn
  have hs0 : z_sur ω N 0 := ⟨z_nF hn (o3 192 (by omega)), fun a b ha hb => by rw [o3 196 (by omega)]; exact hf a b ha hb, o2, hd.1⟩
  have hf0 : z_fz σ ω := ⟨fun a ha => o3 a (by omega), fun j _ => by rw [o3 191 (by omega)]⟩
  generalize hP : 2 ^ w_nn N = P at *
  have wP : w32 (P : Int) = (P : Int) := q_w (by clear hsh; omega)
  obtain ⟨y, y1, y2, y3, y4⟩ := q_loop (Z := Z) (N := P) (S := fun S (x : Nat → Nat → Int) => (226, 7, [(2, ((191 : Nat) : Int)), (0, (S : Int))], [], (K, x, 206, e, s))) (P := fun m x => z_sur x N 0 ∧ z_fz σ x ∧ ∀ S, S < m → z_eo x 200 201 S ∧ w_isR N 0 S (z_gr x 200 201 S)) (by
    rintro S τ hS ⟨x1, x2, x3⟩
    have hmn := z_many (Z := Z) (e := e) (s := s) hL x1.1
    rw [n0.1] at hmn
    have wS : w32 (S : Int) = (S : Int) := q_w (by clear hsh wP; omega)
    have c0 : ¬ (P : Int) ≤ (S : Int) := by clear hsh wP wS; omega
    have p0 : 0 ≤ (S : Int) := by clear hsh wP wS; omega
    have p1 : (S : Int) < ((256 : Nat) : Int) := by clear hsh wP wS; omega
    have tn : ((S : Int)).toNat = S := rfl
    obtain ⟨ρ, r1, r2, r3⟩ := z_centers (Z := Z) (S := (S : Int)) (e := e) (s := s) hL x1 (Int.le_refl 0) (by decide)
    obtain ⟨b', b1, b2, b3, b4, b5⟩ := z_bs_b r2 (z_ps_ne hw hd (Int.le_refl 0) (by decide))
    have hR := w_isR_of hw hd (Int.le_refl 0) (by decide) b1
    obtain ⟨m1, m2, -⟩ := z_ps_mem.mp b1.1
    have hp := z_xs_ok hw hd.1 m1 (Int.le_refl 0) (by decide) m2
    have hH := w_Hb hw hd.1 m1 hp (S := (S : Int)) (w_nn N) (Nat.le_refl _)
    have eH : w_Hv N 0 (S : Int) b' = w_H N 0 (S : Int) b'.1 b'.2.1 b'.2.2 (w_nn N) := rfl
    have hq1 := hp.1
    have hq2 := hp.2.1
    have es : ((S + 1 : Nat) : Int) = (S : Int) + 1 := rfl
    have k15 : m_up2 ρ 200 S (w_Hv N 0 (S : Int) b') 191 14 = b'.2.2 := by rw [m_up2_ne (by omega)]; exact b4
    have ne : ∀ a, a ≠ 200 → a ≠ 201 → m_up2 (m_up2 ρ 200 S (w_Hv N 0 (S : Int) b')) 201 S b'.2.2 a = ρ a := fun a h1 h2 => by rw [m_up2_ne h2, m_up2_ne h1]
    have at0 : ∀ j, m_up2 (m_up2 ρ 200 S (w_Hv N 0 (S : Int) b')) 201 S b'.2.2 200 j = if j = S then w_Hv N 0 (S : Int) b' else ρ 200 j := by
      intro j
      rw [m_up2_ne (by omega)]
      by_cases c : j = S
      · rw [if_pos c, c, m_up2_at]
      · rw [if_neg c, m_up2_nk c]
    have at1 : ∀ j, m_up2 (m_up2 ρ 200 S (w_Hv N 0 (S : Int) b')) 201 S b'.2.2 201 j = if j = S then b'.2.2 else ρ 201 j := by
      intro j
      by_cases c : j = S
      · rw [if_pos c, c, m_up2_at]
      · rw [if_neg c, m_up2_nk c, m_up2_ne (by omega)]
    refine ⟨m_up2 (m_up2 ρ 200 S (w_Hv N 0 (S : Int) b')) 201 S b'.2.2, ?_, z_surF (z_surB x1 r3) (fun a ha => ne a (by omega) (by omega)), z_fz_t x2 (z_fz_t (z_fz_b r3) ⟨fun a ha => ne a (by omega) (by omega), fun j _ => by rw [ne 191 (by omega) (by omega)]⟩), fun S' hS' => ?_⟩
    · rw [es]
      conv => lhs; simp only [b_226_7, ↓reduceIte, Nat.reduceEqDiff, Nat.reduceMul, q_n10, q_n01, Option.bind_some, g_aft0, g_aft1, g_aft2, g_aft3, g_aft9, Nat.reduceAdd, m_kill_0, m_kill_2, m_kill_3, m_kill_4, m_kill_9, true_or, or_true, q_lm1, q_l0, q_l1, q_l2, q_l3, q_l4, q_l5, q_l6, q_l8, q_l9, q_l10, q_l12, q_l17, q_l32, q_l35, q_l48, q_l50, q_l54, q_l57, q_l64, q_l73, q_l118, q_l119, q_l120, q_l122, q_l126, q_l160, q_l256, q_l365, q_l372, q_l438, q_l1000, q_l100000, q_l1000000, q_modF hL.2.2.2.2.2.2.1, hmn, hsh]
      simp only [b_226_13, b_226_17, b_226_22, ↓reduceIte, Nat.reduceEqDiff, Nat.reduceMul, q_n10, q_n01, Option.bind_some, g_aft0, g_aft1, g_aft2, g_aft3, g_aft9, Nat.reduceAdd, m_kill_0, m_kill_2, m_kill_3, m_kill_4, m_kill_9, true_or, or_true, q_lm1, q_l0, q_l1, q_l2, q_l3, q_l4, q_l5, q_l6, q_l8, q_l9, q_l10, q_l12, q_l17, q_l32, q_l35, q_l48, q_l50, q_l54, q_l57, q_l64, q_l73, q_l118, q_l119, q_l120, q_l122, q_l126, q_l160, q_l256, q_l365, q_l372, q_l438, q_l1000, q_l100000, q_l1000000, q_modF hL.2.2.2.2.2.2.1, hsh, wP, wS, c0, r1, p0, p1, tn, b4, b5, k15]
    · unfold z_eo z_gr
      rw [at0, at1]
      by_cases c : S' = S
      · rw [if_pos c, if_pos c, c]
        exact ⟨⟨⟨hq1, hq2⟩, by rw [eH]; exact hH⟩, hR⟩
      · rw [if_neg c, if_neg c, r3.1 200 (by omega) (by omega) (by omega), r3.1 201 (by omega) (by omega) (by omega)]
        exact x3 S' (by clear hsh wP wS; omega)) P 0 ω (by clear hsh wP; omega) ⟨hs0, hf0, fun S hS => absurd hS (by omega)⟩
  refine ⟨y, ?_, fun S hS => y4 S (by rw [hP] at hS; exact hS), y2, y3⟩
  have hmn := z_many (Z := Z) (e := e) (s := s) hL y2.1
  rw [n0.1] at hmn
  simp only [e_226, b_226_0, b_226_5, ↓reduceIte, Nat.reduceEqDiff, Nat.reduceMul, q_n10, q_n01, Option.bind_some, g_aft0, g_aft1, g_aft2, g_aft3, g_aft9, Nat.reduceAdd, m_kill_0, m_kill_2, m_kill_3, m_kill_4, m_kill_9, true_or, or_true, q_lm1, q_l0, q_l1, q_l2, q_l3, q_l4, q_l5, q_l6, q_l8, q_l9, q_l10, q_l12, q_l17, q_l32, q_l35, q_l48, q_l50, q_l54, q_l57, q_l64, q_l73, q_l118, q_l119, q_l120, q_l122, q_l126, q_l160, q_l256, q_l365, q_l372, q_l438, q_l1000, q_l100000, q_l1000000, q_modF hL.2.2.2.2.2.2.1, o1]
  refine Eq.trans y1 ?_
  conv => lhs; simp only [b_226_7, ↓reduceIte, Nat.reduceEqDiff, Nat.reduceMul, q_n10, q_n01, Option.bind_some, g_aft0, g_aft1, g_aft2, g_aft3, g_aft9, Nat.reduceAdd, m_kill_0, m_kill_2, m_kill_3, m_kill_4, m_kill_9, true_or, or_true, q_lm1, q_l0, q_l1, q_l2, q_l3, q_l4, q_l5, q_l6, q_l8, q_l9, q_l10, q_l12, q_l17, q_l32, q_l35, q_l48, q_l50, q_l54, q_l57, q_l64, q_l73, q_l118, q_l119, q_l120, q_l122, q_l126, q_l160, q_l256, q_l365, q_l372, q_l438, q_l1000, q_l100000, q_l1000000, q_modF hL.2.2.2.2.2.2.1, hmn, hsh]
  simp only [b_226_13, b_226_48, ↓reduceIte, Nat.reduceEqDiff, Nat.reduceMul, q_n10, q_n01, Option.bind_some, g_aft0, g_aft1, g_aft2, g_aft3, g_aft9, Nat.reduceAdd, m_kill_0, m_kill_2, m_kill_3, m_kill_4, m_kill_9, true_or, or_true, q_lm1, q_l0, q_l1, q_l2, q_l3, q_l4, q_l5, q_l6, q_l8, q_l9, q_l10, q_l12, q_l17, q_l32, q_l35, q_l48, q_l50, q_l54, q_l57, q_l64, q_l73, q_l118, q_l119, q_l120, q_l122, q_l126, q_l160, q_l256, q_l365, q_l372, q_l438, q_l1000, q_l100000, q_l1000000, hsh, wP, Int.le_refl]
theorem z_gr_lt {a b c d i j : Nat} (hi : z_eo σ a b i) (hj : z_eo σ c d j) : (z_gr σ a b i < z_gr σ c d j) = (σ a i * σ d j < σ c j * σ b i) := fr_lt (by have := hi.1.1; omega) (by have := hj.1.1; omega)
theorem z_eo_w {a b c d i j : Nat} (hi : z_eo σ a b i) (hj : z_eo τ c d j) : w64 (σ a i * τ d j) = σ a i * τ d j := by
  have m := q_mb hi.2.1 hi.2.2 (show 0 ≤ τ d j by have := hj.1.1; omega) hj.1.2
  exact q_w64 (by omega) (by omega)
theorem r_mx_eq {f g : Rat} : (f < g → r_mx f g = g) ∧ (¬ f < g → r_mx f g = f) := by
  unfold r_mx
  exact ⟨fun h => if_pos h, fun h => if_neg h⟩
/-- two centers for one set -/
theorem z_two {S : Nat} {l3 : mV} (hL : q_lay K) (hw : q_wf N) (hr : z_rr σ N) (hS : S < 2 ^ w_nn N) (h0 : σ 203 S = 0) : ∃ (τ : Nat → Nat → Int) (l3' : mV), m_run Z (227, 21, [(2, ((191 : Nat) : Int)), (0, (S : Int)), (0, ((0 : Nat) : Int)), l3], [], (K, σ, 206, e, s)) = m_run Z (227, 153, [(2, ((191 : Nat) : Int)), (0, (S : Int)), (0, ((S + 1 : Nat) : Int)), l3'], [], (K, τ, 206, e, s)) ∧ (z_eo τ 202 203 S ∧ w_isD (z_gr σ 200 201) (z_gr σ 200 201) S (z_gr τ 202 203 S)) ∧ (∀ a, a ≠ 202 → a ≠ 203 → τ a = σ a) ∧ ∀ j, j ≠ S → τ 202 j = σ 202 j ∧ τ 203 j = σ 203 j := by
  have n0 := wf_n hw
  have p8 := q_pow8 n0.2.2
  generalize hP : 2 ^ w_nn N = P at *
  have hr : ∀ S, S < P → z_eo σ 200 201 S := fun S hS => (hr S (by rw [hP]; exact hS)).1
  have wS : w32 (S : Int) = (S : Int) := q_w (by omega)
  have w0 : w64 0 = 0 := by decide
  have p0 : 0 ≤ (S : Int) := by clear wS; omega
  have p1 : (S : Int) < ((256 : Nat) : Int) := by clear wS; omega
  have tn : ((S : Int)).toNat = S := rfl
  obtain ⟨y, y1, y2, y3, y4⟩ := q_loop (Z := Z) (N := S + 1) (α := (Nat → Nat → Int) × mV) (S := fun a x => (227, 21, [(2, ((191 : Nat) : Int)), (0, (S : Int)), (0, (a : Int)), x.2], [], (K, x.1, 206, e, s))) (P := fun a x => (∀ b, b ≠ 202 → b ≠ 203 → x.1 b = σ b) ∧ (∀ j, j ≠ S → x.1 202 j = σ 202 j ∧ x.1 203 j = σ 203 j) ∧ ((x.1 203 S = 0 ∧ ∀ b, b < a → w_sub b S = true → False) ∨ (z_eo x.1 202 203 S ∧ w_isDm (z_gr σ 200 201) (z_gr σ 200 201) S a (z_gr x.1 202 203 S)))) (by
    rintro a ⟨τ, l3⟩ ha ⟨x1, x2, x3⟩
    have x1 : ∀ b, b ≠ 202 → b ≠ 203 → τ b = σ b := x1
    have x2 : ∀ j, j ≠ S → τ 202 j = σ 202 j ∧ τ 203 j = σ 203 j := x2
    have x3 : (τ 203 S = 0 ∧ ∀ b, b < a → w_sub b S = true → False) ∨ (z_eo τ 202 203 S ∧ w_isDm (z_gr σ 200 201) (z_gr σ 200 201) S a (z_gr τ 202 203 S)) := x3
    have wa : w32 (a : Int) = (a : Int) := q_w (by clear wS; omega)
    have c0 : ¬ (S : Int) < (a : Int) := by clear wS wa; omega
    have a0 : 0 ≤ (a : Int) := by clear wS wa; omega
    have a1 : (a : Int) < ((256 : Nat) : Int) := by clear wS wa; omega
    have an : ((a : Int)).toNat = a := rfl
    have es : ((a + 1 : Nat) : Int) = (a : Int) + 1 := rfl
    have hm := w_sub_m (a := a) (S := S) (by clear wS wa; omega) (by clear wS wa; omega)
    by_cases hsub : w_sub a S = true
    · have hle := w_sub_le (a := a) (S := S) (by clear wS wa hm; omega) (by clear wS wa hm; omega) hsub
      obtain ⟨rl, -, er⟩ := hle
      have hm0 : i_and (a : Int) (i_xor (S : Int) (-1)) = 0 := by rw [hm]; exact hsub
      obtain ⟨r, hr'⟩ : ∃ r, r = S - a := ⟨_, rfl⟩
      rw [← hr'] at er
      have wr : w32 (r : Int) = (r : Int) := q_w (by clear wS wa hm hm0 er; omega)
      have r0 : 0 ≤ (r : Int) := by clear wS wa hm hm0 er wr; omega
      have r1 : (r : Int) < ((256 : Nat) : Int) := by clear wS wa hm hm0 er wr; omega
      have rn : ((r : Int)).toNat = r := rfl
      have oa := hr a (by clear wS wa hm hm0 er wr; omega)
      have or' := hr r (by clear wS wa hm hm0 er wr; omega)
      have v200 : τ 200 = σ 200 := x1 200 (by omega) (by omega)
      have v201 : τ 201 = σ 201 := x1 201 (by omega) (by omega)
      have g1 := z_gr_lt oa or'
      have hc1 : (w32 (l_cmp (σ 200 a * σ 201 r) (σ 200 r * σ 201 a)) < 0) = (z_gr σ 200 201 a < z_gr σ 200 201 r) := by rw [l_cl (z_eo_w oa or') (z_eo_w or' oa), g1]
      -- the worse one
      obtain ⟨w, ww, ow, gw, head⟩ : ∃ w : Nat, w < 256 ∧ z_eo σ 200 201 w ∧ z_gr σ 200 201 w = r_mx (z_gr σ 200 201 a) (z_gr σ 200 201 (S - a)) ∧ m_run Z (227, 34, [(2, ((191 : Nat) : Int)), (0, (S : Int)), (0, (a : Int)), l3], [], (K, τ, 206, e, s)) = if w32 (l_cmp (τ 203 S) 0) = 0 then m_run Z (227, 123, [(2, ((191 : Nat) : Int)), (0, (S : Int)), (0, (a : Int)), (0, (w : Int))], [], (K, τ, 206, e, s)) else m_run Z (227, 93, [(2, ((191 : Nat) : Int)), (0, (S : Int)), (0, (a : Int)), (0, (w : Int))], [], (K, τ, 206, e, s)) := by
        rw [← hr']
        by_cases c1 : z_gr σ 200 201 a < z_gr σ 200 201 r
        · refine ⟨r, by clear wS wa hm hm0 er wr hc1; omega, or', (r_mx_eq.1 c1).symm, ?_⟩
          simp only [b_227_34, b_227_76, b_227_81, ↓reduceIte, Nat.reduceEqDiff, Nat.reduceMul, q_n10, q_n01, Option.bind_some, g_aft0, g_aft1, g_aft2, g_aft3, g_aft9, Nat.reduceAdd, m_kill_0, m_kill_2, m_kill_3, m_kill_4, m_kill_9, true_or, or_true, q_lm1, q_l0, q_l1, q_l2, q_l3, q_l4, q_l5, q_l6, q_l8, q_l9, q_l10, q_l12, q_l17, q_l32, q_l35, q_l48, q_l50, q_l54, q_l57, q_l64, q_l73, q_l118, q_l119, q_l120, q_l122, q_l126, q_l160, q_l256, q_l365, q_l372, q_l438, q_l1000, q_l100000, q_l1000000, q_modF hL.2.2.2.2.2.2.1, wa, a0, a1, an, wS, p0, p1, tn, er, wr, r0, r1, rn, v200, v201, hc1.trans (eq_true c1)]
        · refine ⟨a, by clear wS wa hm hm0 er wr hc1; omega, oa, (r_mx_eq.2 c1).symm, ?_⟩
          simp only [b_227_34, b_227_72, ↓reduceIte, Nat.reduceEqDiff, Nat.reduceMul, q_n10, q_n01, Option.bind_some, g_aft0, g_aft1, g_aft2, g_aft3, g_aft9, Nat.reduceAdd, m_kill_0, m_kill_2, m_kill_3, m_kill_4, m_kill_9, true_or, or_true, q_lm1, q_l0, q_l1, q_l2, q_l3, q_l4, q_l5, q_l6, q_l8, q_l9, q_l10, q_l12, q_l17, q_l32, q_l35, q_l48, q_l50, q_l54, q_l57, q_l64, q_l73, q_l118, q_l119, q_l120, q_l122, q_l126, q_l160, q_l256, q_l365, q_l372, q_l438, q_l1000, q_l100000, q_l1000000, q_modF hL.2.2.2.2.2.2.1, wa, a0, a1, an, wS, p0, p1, tn, er, wr, r0, r1, rn, v200, v201, hc1.trans (eq_false c1)]
      have w9 : w32 (w : Int) = (w : Int) := q_w (by clear wS wa hm hm0 er wr hc1; omega)
      have q0 : 0 ≤ (w : Int) := by clear wS wa hm hm0 er wr hc1 w9; omega
      have q1 : (w : Int) < ((256 : Nat) : Int) := by clear wS wa hm hm0 er wr hc1 w9; omega
      have wn : ((w : Int)).toNat = w := rfl
      have y201 : m_up2 τ 202 S (σ 200 w) 201 w = σ 201 w := by rw [m_up2_ne (by omega), v201]
      have put : (τ 203 S = 0 ∧ (∀ b, b < a → w_sub b S = true → False)) ∨ (∃ y, w_isDm (z_gr σ 200 201) (z_gr σ 200 201) S a y ∧ z_gr σ 200 201 w ≤ y) → (∀ b, b ≠ 202 → b ≠ 203 → m_up2 (m_up2 τ 202 S (σ 200 w)) 203 S (σ 201 w) b = σ b) ∧ (∀ j, j ≠ S → m_up2 (m_up2 τ 202 S (σ 200 w)) 203 S (σ 201 w) 202 j = σ 202 j ∧ m_up2 (m_up2 τ 202 S (σ 200 w)) 203 S (σ 201 w) 203 j = σ 203 j) ∧ ((m_up2 (m_up2 τ 202 S (σ 200 w)) 203 S (σ 201 w) 203 S = 0 ∧ ∀ b, b < a + 1 → w_sub b S = true → False) ∨ (z_eo (m_up2 (m_up2 τ 202 S (σ 200 w)) 203 S (σ 201 w)) 202 203 S ∧ w_isDm (z_gr σ 200 201) (z_gr σ 200 201) S (a + 1) (z_gr (m_up2 (m_up2 τ 202 S (σ 200 w)) 203 S (σ 201 w)) 202 203 S))) := by
        intro hor
        have e202 : m_up2 (m_up2 τ 202 S (σ 200 w)) 203 S (σ 201 w) 202 S = σ 200 w := by rw [m_up2_ne (by omega), m_up2_at]
        have e203 : m_up2 (m_up2 τ 202 S (σ 200 w)) 203 S (σ 201 w) 203 S = σ 201 w := by rw [m_up2_at]
        refine ⟨fun b h1 h2 => by rw [m_up2_ne h2, m_up2_ne h1]; exact x1 b h1 h2, fun j hj => ⟨by rw [m_up2_ne (by omega), m_up2_nk hj]; exact (x2 j hj).1, by rw [m_up2_nk hj, m_up2_ne (by omega)]; exact (x2 j hj).2⟩, Or.inr ⟨?_, ?_⟩⟩
        · unfold z_eo
          rw [e202, e203]
          exact ow
        · have eg : z_gr (m_up2 (m_up2 τ 202 S (σ 200 w)) 203 S (σ 201 w)) 202 203 S = z_gr σ 200 201 w := by
            unfold z_gr
            rw [e202, e203]
          rw [eg]
          refine w_isDm_y hsub gw ?_
          rcases hor with h | h
          · exact Or.inl h.2
          · exact Or.inr h
      rcases x3 with ⟨x3, x4⟩ | ⟨x3, x4⟩
      · refine ⟨(m_up2 (m_up2 τ 202 S (σ 200 w)) 203 S (σ 201 w), (0, (w : Int))), ?_, put (Or.inl ⟨x3, x4⟩)⟩
        rw [if_pos (by rw [x3, l_ce w0 w0])] at head
        rw [es]
        conv => lhs; simp only [b_227_21, ↓reduceIte, Nat.reduceEqDiff, Nat.reduceMul, q_n10, q_n01, Option.bind_some, g_aft0, g_aft1, g_aft2, g_aft3, g_aft9, Nat.reduceAdd, m_kill_0, m_kill_2, m_kill_3, m_kill_4, m_kill_9, true_or, or_true, q_lm1, q_l0, q_l1, q_l2, q_l3, q_l4, q_l5, q_l6, q_l8, q_l9, q_l10, q_l12, q_l17, q_l32, q_l35, q_l48, q_l50, q_l54, q_l57, q_l64, q_l73, q_l118, q_l119, q_l120, q_l122, q_l126, q_l160, q_l256, q_l365, q_l372, q_l438, q_l1000, q_l100000, q_l1000000, wS, wa, c0]
        conv => lhs; simp only [b_227_26, hm0, ↓reduceIte, Nat.reduceEqDiff, Nat.reduceMul, q_n10, q_n01, Option.bind_some, g_aft0, g_aft1, g_aft2, g_aft3, g_aft9, Nat.reduceAdd, m_kill_0, m_kill_2, m_kill_3, m_kill_4, m_kill_9, true_or, or_true, q_lm1, q_l0, q_l1, q_l2, q_l3, q_l4, q_l5, q_l6, q_l8, q_l9, q_l10, q_l12, q_l17, q_l32, q_l35, q_l48, q_l50, q_l54, q_l57, q_l64, q_l73, q_l118, q_l119, q_l120, q_l122, q_l126, q_l160, q_l256, q_l365, q_l372, q_l438, q_l1000, q_l100000, q_l1000000]
        rw [head]
        simp only [b_227_123, b_227_147, ↓reduceIte, Nat.reduceEqDiff, Nat.reduceMul, q_n10, q_n01, Option.bind_some, g_aft0, g_aft1, g_aft2, g_aft3, g_aft9, Nat.reduceAdd, m_kill_0, m_kill_2, m_kill_3, m_kill_4, m_kill_9, true_or, or_true, q_lm1, q_l0, q_l1, q_l2, q_l3, q_l4, q_l5, q_l6, q_l8, q_l9, q_l10, q_l12, q_l17, q_l32, q_l35, q_l48, q_l50, q_l54, q_l57, q_l64, q_l73, q_l118, q_l119, q_l120, q_l122, q_l126, q_l160, q_l256, q_l365, q_l372, q_l438, q_l1000, q_l100000, q_l1000000, q_modF hL.2.2.2.2.2.2.1, wS, p0, p1, tn, w9, q0, q1, wn, v200, y201]
      · have w2 : w64 (τ 203 S) = τ 203 S := by have := x3.1; clear wS wa hm hm0 er wr hc1 w9 head; exact q_w64 (by omega) (by omega)
        rw [if_neg (by rw [l_ce w2 w0]; have := x3.1; clear wS wa hm hm0 er wr hc1 w9 w2; omega)] at head
        have ow' : z_eo τ 200 201 w := by unfold z_eo; rw [v200, v201]; exact ow
        have gw' : z_gr τ 200 201 w = z_gr σ 200 201 w := by unfold z_gr; rw [v200, v201]
        have g2 := z_gr_lt ow' x3
        rw [gw', v200, v201] at g2
        have m1 : w64 (σ 200 w * τ 203 S) = σ 200 w * τ 203 S := z_eo_w ow x3
        have m2 : w64 (τ 202 S * σ 201 w) = τ 202 S * σ 201 w := z_eo_w x3 ow
        have hc2 : (0 ≤ w32 (l_cmp (σ 200 w * τ 203 S) (τ 202 S * σ 201 w))) = ¬ (z_gr σ 200 201 w < z_gr τ 202 203 S) := by rw [l_cge m1 m2, g2, Int.not_lt]
        by_cases c2 : z_gr σ 200 201 w < z_gr τ 202 203 S
        · refine ⟨(m_up2 (m_up2 τ 202 S (σ 200 w)) 203 S (σ 201 w), (0, (w : Int))), ?_, put (Or.inr ⟨_, x4, Rat.le_of_lt c2⟩)⟩
          rw [es]
          conv => lhs; simp only [b_227_21, ↓reduceIte, Nat.reduceEqDiff, Nat.reduceMul, q_n10, q_n01, Option.bind_some, g_aft0, g_aft1, g_aft2, g_aft3, g_aft9, Nat.reduceAdd, m_kill_0, m_kill_2, m_kill_3, m_kill_4, m_kill_9, true_or, or_true, q_lm1, q_l0, q_l1, q_l2, q_l3, q_l4, q_l5, q_l6, q_l8, q_l9, q_l10, q_l12, q_l17, q_l32, q_l35, q_l48, q_l50, q_l54, q_l57, q_l64, q_l73, q_l118, q_l119, q_l120, q_l122, q_l126, q_l160, q_l256, q_l365, q_l372, q_l438, q_l1000, q_l100000, q_l1000000, wS, wa, c0]
          conv => lhs; simp only [b_227_26, hm0, ↓reduceIte, Nat.reduceEqDiff, Nat.reduceMul, q_n10, q_n01, Option.bind_some, g_aft0, g_aft1, g_aft2, g_aft3, g_aft9, Nat.reduceAdd, m_kill_0, m_kill_2, m_kill_3, m_kill_4, m_kill_9, true_or, or_true, q_lm1, q_l0, q_l1, q_l2, q_l3, q_l4, q_l5, q_l6, q_l8, q_l9, q_l10, q_l12, q_l17, q_l32, q_l35, q_l48, q_l50, q_l54, q_l57, q_l64, q_l73, q_l118, q_l119, q_l120, q_l122, q_l126, q_l160, q_l256, q_l365, q_l372, q_l438, q_l1000, q_l100000, q_l1000000]
          rw [head]
          simp only [b_227_93, b_227_123, b_227_147, ↓reduceIte, Nat.reduceEqDiff, Nat.reduceMul, q_n10, q_n01, Option.bind_some, g_aft0, g_aft1, g_aft2, g_aft3, g_aft9, Nat.reduceAdd, m_kill_0, m_kill_2, m_kill_3, m_kill_4, m_kill_9, true_or, or_true, q_lm1, q_l0, q_l1, q_l2, q_l3, q_l4, q_l5, q_l6, q_l8, q_l9, q_l10, q_l12, q_l17, q_l32, q_l35, q_l48, q_l50, q_l54, q_l57, q_l64, q_l73, q_l118, q_l119, q_l120, q_l122, q_l126, q_l160, q_l256, q_l365, q_l372, q_l438, q_l1000, q_l100000, q_l1000000, q_modF hL.2.2.2.2.2.2.1, wS, p0, p1, tn, w9, q0, q1, wn, v200, v201, y201, hc2.trans (eq_false (fun q => q c2))]
        · refine ⟨(τ, (0, (w : Int))), ?_, x1, x2, Or.inr ⟨x3, w_isDm_n x4 (fun _ => ?_)⟩⟩
          · rw [es]
            conv => lhs; simp only [b_227_21, ↓reduceIte, Nat.reduceEqDiff, Nat.reduceMul, q_n10, q_n01, Option.bind_some, g_aft0, g_aft1, g_aft2, g_aft3, g_aft9, Nat.reduceAdd, m_kill_0, m_kill_2, m_kill_3, m_kill_4, m_kill_9, true_or, or_true, q_lm1, q_l0, q_l1, q_l2, q_l3, q_l4, q_l5, q_l6, q_l8, q_l9, q_l10, q_l12, q_l17, q_l32, q_l35, q_l48, q_l50, q_l54, q_l57, q_l64, q_l73, q_l118, q_l119, q_l120, q_l122, q_l126, q_l160, q_l256, q_l365, q_l372, q_l438, q_l1000, q_l100000, q_l1000000, wS, wa, c0]
            conv => lhs; simp only [b_227_26, hm0, ↓reduceIte, Nat.reduceEqDiff, Nat.reduceMul, q_n10, q_n01, Option.bind_some, g_aft0, g_aft1, g_aft2, g_aft3, g_aft9, Nat.reduceAdd, m_kill_0, m_kill_2, m_kill_3, m_kill_4, m_kill_9, true_or, or_true, q_lm1, q_l0, q_l1, q_l2, q_l3, q_l4, q_l5, q_l6, q_l8, q_l9, q_l10, q_l12, q_l17, q_l32, q_l35, q_l48, q_l50, q_l54, q_l57, q_l64, q_l73, q_l118, q_l119, q_l120, q_l122, q_l126, q_l160, q_l256, q_l365, q_l372, q_l438, q_l1000, q_l100000, q_l1000000]
            rw [head]
            simp only [b_227_93, b_227_147, ↓reduceIte, Nat.reduceEqDiff, Nat.reduceMul, q_n10, q_n01, Option.bind_some, g_aft0, g_aft1, g_aft2, g_aft3, g_aft9, Nat.reduceAdd, m_kill_0, m_kill_2, m_kill_3, m_kill_4, m_kill_9, true_or, or_true, q_lm1, q_l0, q_l1, q_l2, q_l3, q_l4, q_l5, q_l6, q_l8, q_l9, q_l10, q_l12, q_l17, q_l32, q_l35, q_l48, q_l50, q_l54, q_l57, q_l64, q_l73, q_l118, q_l119, q_l120, q_l122, q_l126, q_l160, q_l256, q_l365, q_l372, q_l438, q_l1000, q_l100000, q_l1000000, q_modF hL.2.2.2.2.2.2.1, wS, p0, p1, tn, w9, q0, q1, wn, v200, v201, hc2.trans (eq_true c2)]
          · rw [← gw]
            exact Rat.not_lt.mp c2
    · have hmn : ¬ i_and (a : Int) (i_xor (S : Int) (-1)) = 0 := by rw [hm]; exact hsub
      have wmn : w32 (i_and (a : Int) (i_xor (S : Int) (-1))) = i_and (a : Int) (i_xor (S : Int) (-1)) := i_and_w
      refine ⟨(τ, l3), ?_, x1, x2, ?_⟩
      · show m_run Z (227, 21, [(2, ((191 : Nat) : Int)), (0, (S : Int)), (0, (a : Int)), l3], [], (K, τ, 206, e, s)) = m_run Z (227, 21, [(2, ((191 : Nat) : Int)), (0, (S : Int)), (0, ((a + 1 : Nat) : Int)), l3], [], (K, τ, 206, e, s))
        rw [es]
        conv => lhs; simp only [b_227_21, ↓reduceIte, Nat.reduceEqDiff, Nat.reduceMul, q_n10, q_n01, Option.bind_some, g_aft0, g_aft1, g_aft2, g_aft3, g_aft9, Nat.reduceAdd, m_kill_0, m_kill_2, m_kill_3, m_kill_4, m_kill_9, true_or, or_true, q_lm1, q_l0, q_l1, q_l2, q_l3, q_l4, q_l5, q_l6, q_l8, q_l9, q_l10, q_l12, q_l17, q_l32, q_l35, q_l48, q_l50, q_l54, q_l57, q_l64, q_l73, q_l118, q_l119, q_l120, q_l122, q_l126, q_l160, q_l256, q_l365, q_l372, q_l438, q_l1000, q_l100000, q_l1000000, wS, wa, c0]
        simp only [b_227_26, b_227_147, wmn, hmn, ↓reduceIte, Nat.reduceEqDiff, Nat.reduceMul, q_n10, q_n01, Option.bind_some, g_aft0, g_aft1, g_aft2, g_aft3, g_aft9, Nat.reduceAdd, m_kill_0, m_kill_2, m_kill_3, m_kill_4, m_kill_9, true_or, or_true, q_lm1, q_l0, q_l1, q_l2, q_l3, q_l4, q_l5, q_l6, q_l8, q_l9, q_l10, q_l12, q_l17, q_l32, q_l35, q_l48, q_l50, q_l54, q_l57, q_l64, q_l73, q_l118, q_l119, q_l120, q_l122, q_l126, q_l160, q_l256, q_l365, q_l372, q_l438, q_l1000, q_l100000, q_l1000000]
      · rcases x3 with ⟨x3, x4⟩ | ⟨x3, x4⟩
        · refine Or.inl ⟨x3, fun b hb hs => ?_⟩
          rcases Nat.lt_succ_iff_lt_or_eq.mp hb with q | q
          · exact x4 b q hs
          · subst q; exact hsub hs
        · exact Or.inr ⟨x3, w_isDm_n x4 (fun q => absurd q hsub)⟩) (S + 1) 0 (σ, l3) (by clear wS; omega) ⟨fun _ _ _ => rfl, fun _ _ => ⟨rfl, rfl⟩, Or.inl ⟨h0, fun b hb => absurd hb (by omega)⟩⟩
  refine ⟨y.1, y.2, ?_, ?_, y2, y3⟩
  · refine Eq.trans y1 ?_
    have wS1 : w32 ((S + 1 : Nat) : Int) = ((S + 1 : Nat) : Int) := q_w (by clear wS; omega)
    have c1 : (S : Int) < ((S + 1 : Nat) : Int) := by clear wS wS1; omega
    conv => lhs; simp only [b_227_21, ↓reduceIte, Nat.reduceEqDiff, Nat.reduceMul, q_n10, q_n01, Option.bind_some, g_aft0, g_aft1, g_aft2, g_aft3, g_aft9, Nat.reduceAdd, m_kill_0, m_kill_2, m_kill_3, m_kill_4, m_kill_9, true_or, or_true, q_lm1, q_l0, q_l1, q_l2, q_l3, q_l4, q_l5, q_l6, q_l8, q_l9, q_l10, q_l12, q_l17, q_l32, q_l35, q_l48, q_l50, q_l54, q_l57, q_l64, q_l73, q_l118, q_l119, q_l120, q_l122, q_l126, q_l160, q_l256, q_l365, q_l372, q_l438, q_l1000, q_l100000, q_l1000000, wS, wS1, c1]
  · rcases y4 with ⟨-, y4⟩ | ⟨y4, y5⟩
    · exact absurd (y4 0 (by clear wS; omega) w_sub_0) id
    · exact ⟨y4, w_isDm_all (by clear wS; omega) y5⟩
end
end
