section
/-! The model's checksum. -/
/-- only the field of the sum has changed -/
def z_f26 (σ τ : Nat → Nat → Int) : Prop := (∀ a, a ≠ 191 → τ a = σ a) ∧ ∀ j, j ≠ 26 → τ 191 j = σ 191 j
/-- the sum so far -/
def z_hs (σ : Nat → Nat → Int) (v : Int) : Prop := σ 191 26 = v
/-- what the sum needs kept -/
def z_fy (σ τ : Nat → Nat → Int) : Prop := (∀ a, a < 191 ∨ a = 192 ∨ a = 193 ∨ a = 195 ∨ 205 ≤ a → τ a = σ a) ∧ ∀ j, j < 7 → τ 191 j = σ 191 j
theorem z_f26_r {σ : Nat → Nat → Int} : z_f26 σ σ := ⟨fun _ _ => rfl, fun _ _ => rfl⟩
theorem z_f26_t {σ τ ρ : Nat → Nat → Int} (h : z_f26 σ τ) (h2 : z_f26 τ ρ) : z_f26 σ ρ := ⟨fun a h3 => (h2.1 a h3).trans (h.1 a h3), fun j h3 => (h2.2 j h3).trans (h.2 j h3)⟩
theorem z_fy_r {σ : Nat → Nat → Int} : z_fy σ σ := ⟨fun _ _ => rfl, fun _ _ => rfl⟩
theorem z_fy_t {σ τ ρ : Nat → Nat → Int} (h : z_fy σ τ) (h2 : z_fy τ ρ) : z_fy σ ρ := ⟨fun a h3 => (h2.1 a h3).trans (h.1 a h3), fun j h3 => (h2.2 j h3).trans (h.2 j h3)⟩
theorem z_fy_26 {σ τ : Nat → Nat → Int} (h : z_f26 σ τ) : z_fy σ τ := ⟨fun a ha => h.1 a (by omega), fun j hj => h.2 j (by omega)⟩
theorem z_fy_z {σ τ : Nat → Nat → Int} (h : z_fz σ τ) : z_fy σ τ := ⟨fun a ha => h.1 a ha, fun j hj => h.2 j (by omega)⟩
theorem z_fy_6 {σ τ : Nat → Nat → Int} (h : ∀ a, a ≠ 196 → τ a = σ a) : z_fy σ τ := ⟨fun a ha => h a (by omega), fun j hj => by rw [h 191 (by omega)]⟩
section
variable {Z : mZ} {K : Nat → mK} {σ τ N M : Nat → Nat → Int} {e g i L n c k s a : Nat} {t p q v x y z w u S ν h0 : Int} {X : Nat → Int} {h : mH} {R : Nat → Nat → Nat → Int} {T : Nat → Int} {b b' : wP}
theorem z_mix (hL : q_lay K) (hh : z_hs σ h0) : ∃ τ, m_cl Z 248 [(2, ((191 : Nat) : Int)), (1, x)] (K, σ, 206, e, s) = some (.inl (9, 0), (K, τ, 206, e, s)) ∧ z_hs τ (31 * h0 + x) ∧ z_f26 σ τ := by
  refine ⟨m_up2 σ 191 26 (31 * σ 191 26 + x), ?_, ?_, fun a ha => m_up2_ne ha, fun j hj => m_up2_nk hj⟩
  · simp only [e_248, b_248_0, ↓reduceIte, Nat.reduceEqDiff, Nat.reduceMul, q_n10, q_n01, Option.bind_some, g_aft0, g_aft1, g_aft2, g_aft3, g_aft9, Nat.reduceAdd, m_kill_0, m_kill_2, m_kill_3, m_kill_4, m_kill_9, true_or, or_true, q_lm1, q_l0, q_l1, q_l2, q_l3, q_l4, q_l5, q_l6, q_l8, q_l9, q_l10, q_l12, q_l17, q_l32, q_l35, q_l48, q_l50, q_l54, q_l57, q_l64, q_l73, q_l118, q_l119, q_l120, q_l122, q_l126, q_l160, q_l256, q_l365, q_l372, q_l438, q_l1000, q_l100000, q_l1000000, q_modF hL.2.2.2.2.2.2.1]
  · unfold z_hs at *
    rw [m_up2_at, hh]
/-- one more number in the sum -/
theorem z_mixs {f : Nat → Int} (hL : q_lay K) (hh : z_hs σ (y_hk f i h0)) (hv : v = f i) : ∃ τ, m_cl Z 248 [(2, ((191 : Nat) : Int)), (1, w32 v)] (K, σ, 206, e, s) = some (.inl (9, 0), (K, τ, 206, e, s)) ∧ z_hs τ (y_hk f (i + 1) h0) ∧ z_f26 σ τ := by
  rw [y_hk_s, ← hv]
  exact z_mix hL hh
theorem z_hsF (h : z_hs σ v) (hf : z_fz σ τ) : z_hs τ v := (hf.2 26 (Or.inr rfl)).trans h
theorem z_nF26 (h : z_n σ N) (hf : z_f26 σ τ) : z_n τ N := z_nF h (hf.1 192 (by omega))
theorem z_surF26 (h : z_sur σ N t) (hf : z_f26 σ τ) : z_sur τ N t := z_surF h (fun a ha => hf.1 a (by omega))
theorem z_bkF26 {V : wP → Int} (h : z_bk σ V b) (hf : z_f26 σ τ) : z_bk τ V b := ⟨(hf.2 12 (by omega)).trans h.1, (hf.2 13 (by omega)).trans h.2.1, (hf.2 14 (by omega)).trans h.2.2.1, (hf.2 15 (by omega)).trans h.2.2.2⟩
/-- the centers' part -/
theorem z_mixC {f1 f2 : Nat → Rat} {f3 : Rat} {cr : Int} {f : Nat → Int} (hL : q_lay K) (hn : z_n σ N) (hf : z_far σ N) (hd : y_cc N) (hb : w_best (w_Hv N 0 ((2 ^ w_nn N - 1 : Nat) : Int)) (w_pts N 0) b) (hb' : w_best (w_Cv N 0) (w_pts N 0) b') (hcr : cr = w_or (fun i => decide (q_bt ((2 ^ w_nn N - 1 : Nat) : Int) i = true ∧ w_F N 0 b.1 i b.2.1 b.2.2 = w_Hv N 0 ((2 ^ w_nn N - 1 : Nat) : Int) b)) (w_nn N)) (hg : y_gF N 0 f1 f2 f3) (hp : 0 ≤ p) (hq : 1 ≤ q) (hpq : fr p q = f2 (2 ^ w_nn N - 1)) (hcv : ∀ j, j < 4 * w_ne N → y_cv N (j / 4) 1 ((j % 4 : Nat) : Int) (f j)) (hh : z_hs σ h0) : ∃ τ, m_cl Z 249 [(2, ((191 : Nat) : Int))] (K, σ, 206, e, s) = some (.inl (9, 0), (K, τ, 206, e, s)) ∧ z_fy σ τ ∧ z_hs τ (y_m2 (w_ne N) b b' (w_Hv N 0 ((2 ^ w_nn N - 1 : Nat) : Int)) (w_Cv N 0) cr p q f h0) := by
  have hw := hn.1
  have n0 := wf_n hw
  have e0 := wf_e hw
  have hmn := z_many (Z := Z) (e := e) (s := s) hL hn
  rw [n0.1] at hmn
  obtain ⟨S, hS⟩ : ∃ S : Int, S = ((2 ^ w_nn N - 1 : Nat) : Int) := ⟨_, rfl⟩
  rw [← hS] at hb hcr ⊢
  obtain ⟨ω, o1, o2, o3⟩ := z_weighs (Z := Z) (e := e) (s := s) (t := 0) hL hn
  have s1 : z_sur ω N 0 := ⟨z_nF hn (o3 192 (by omega)), fun a b ha hb => by rw [o3 196 (by omega)]; exact hf a b ha hb, o2, hd.1⟩
  have fy1 : z_fy σ ω := ⟨fun a ha => o3 a (by omega), fun j hj => by rw [o3 191 (by omega)]⟩
  have hh1 : z_hs ω h0 := (congrFun (o3 191 (by omega)) 26).trans hh
  obtain ⟨σ1, r1, r2, r3⟩ := z_centers (Z := Z) (S := S) (e := e) (s := s) hL s1 (Int.le_refl 0) (by decide)
  obtain ⟨c', c1, c2⟩ := z_bs_b r2 (z_ps_ne hw hd (Int.le_refl 0) (by decide))
  have c2 : z_bk σ1 (w_Hv N 0 S) c' := c2
  obtain ⟨hqH, hq1, hq2, hq3⟩ := z_eqbH hw hd.1 (Int.le_refl 0) (by decide) hb c1
  have s2 : z_sur σ1 N 0 := z_surB s1 r3
  have fy2 : z_fy σ σ1 := z_fy_t fy1 (z_fy_z (z_fz_b r3))
  have hh2 : z_hs σ1 h0 := z_hsF hh1 (z_fz_b r3)
  have red0 := z_redV (Z := Z) (h := (K, σ1, 206, e, s)) (u := 0) hqH c2 (by decide)
  obtain ⟨σ2, a1, a2, a3⟩ := z_mix (Z := Z) (e := e) (s := s) (x := w32 (w_red (w_Hv N 0 S b) b.2.2 0)) hL hh2
  have c3 := z_bkF26 c2 a3
  have red1 := z_redV (Z := Z) (h := (K, σ2, 206, e, s)) (u := 1) hqH c3 (by decide)
  obtain ⟨σ3, a4, a5, a6⟩ := z_mix (Z := Z) (e := e) (s := s) (x := w32 (w_red (w_Hv N 0 S b) b.2.2 1)) hL a2
  have c4 := z_bkF26 c3 a6
  obtain ⟨H1, hH1⟩ : ∃ H1 : Int, H1 = 31 * (31 * h0 + w32 (y_bf (w_Hv N 0 S) b 3)) + w32 (y_bf (w_Hv N 0 S) b 4) := ⟨_, rfl⟩
  have hh3 : z_hs σ3 (y_hk (fun i => y_bf (w_Hv N 0 S) b (i : Int)) 0 H1) := by rw [y_hk_0, hH1]; exact a5
  have f13 : z_f26 σ1 σ3 := z_f26_t a3 a6
  obtain ⟨σ4, b1, b2, b3⟩ := q_loop (Z := Z) (N := 3) (α := Nat → Nat → Int) (S := fun i x => (249, 55, [(2, ((191 : Nat) : Int)), (0, S), (0, (i : Int)), (9, 0)], [], (K, x, 206, e, s))) (P := fun i x => z_hs x (y_hk (fun i => y_bf (w_Hv N 0 S) b (i : Int)) i H1) ∧ z_f26 σ1 x) (by
    rintro i x hi ⟨h1, h2⟩
    have hb := z_cT (Z := Z) (e := e) (s := s) (x := (i : Int)) hL hqH (z_bkF26 c2 h2) (by omega) (by omega)
    obtain ⟨y, y1, y2, y3⟩ := z_mixs (Z := Z) (e := e) (s := s) (v := y_bf (w_Hv N 0 S) b (i : Int)) hL h1 rfl
    have wi : w32 (i : Int) = (i : Int) := q_w (by omega)
    have l0 : ¬ (3 : Int) ≤ (i : Int) := by clear wi; omega
    refine ⟨y, ?_, y2, z_f26_t h2 y3⟩
    conv => lhs; simp only [b_249_55, ↓reduceIte, Nat.reduceEqDiff, Nat.reduceMul, q_n10, q_n01, Option.bind_some, g_aft0, g_aft1, g_aft2, g_aft3, g_aft9, Nat.reduceAdd, m_kill_0, m_kill_2, m_kill_3, m_kill_4, m_kill_9, true_or, or_true, q_lm1, q_l0, q_l1, q_l2, q_l3, q_l4, q_l5, q_l6, q_l8, q_l9, q_l10, q_l12, q_l17, q_l32, q_l35, q_l48, q_l50, q_l54, q_l57, q_l64, q_l73, q_l118, q_l119, q_l120, q_l122, q_l126, q_l160, q_l256, q_l365, q_l372, q_l438, q_l1000, q_l100000, q_l1000000, wi, l0]
    simp only [b_249_60, b_249_66, b_249_70, ↓reduceIte, Nat.reduceEqDiff, Nat.reduceMul, q_n10, q_n01, Option.bind_some, g_aft0, g_aft1, g_aft2, g_aft3, g_aft9, Nat.reduceAdd, m_kill_0, m_kill_2, m_kill_3, m_kill_4, m_kill_9, true_or, or_true, q_lm1, q_l0, q_l1, q_l2, q_l3, q_l4, q_l5, q_l6, q_l8, q_l9, q_l10, q_l12, q_l17, q_l32, q_l35, q_l48, q_l50, q_l54, q_l57, q_l64, q_l73, q_l118, q_l119, q_l120, q_l122, q_l126, q_l160, q_l256, q_l365, q_l372, q_l438, q_l1000, q_l100000, q_l1000000, q_modF hL.2.2.2.2.2.2.1, hb, y1]
    rfl) 3 0 σ3 rfl ⟨hh3, f13⟩
  obtain ⟨b2, b3⟩ : z_hs σ4 (y_hk (fun i => y_bf (w_Hv N 0 S) b (i : Int)) 3 H1) ∧ z_f26 σ1 σ4 := ⟨b2, b3⟩
  have s4 := z_surF26 s2 b3
  have hcN := z_critN (Z := Z) (e := e) (s := s) hL s4 (Int.le_refl 0) (by decide) hq1 hq2 hq3 hqH (z_bkF26 c2 b3)
  rw [← hcr] at hcN
  obtain ⟨σ5, d1, d2, d3⟩ := z_mix (Z := Z) (e := e) (s := s) (x := w32 cr) hL b2
  have s5 := z_surF26 s4 d3
  obtain ⟨σ6, m1, m2, m3⟩ := z_medians (Z := Z) (e := e) (s := s) hL s5 (Int.le_refl 0) (by decide)
  obtain ⟨k', k1, k2⟩ := z_bs_b m2 (z_ps_ne hw hd (Int.le_refl 0) (by decide))
  have k2 : z_bk σ6 (w_Cv N 0) k' := k2
  have hqC := z_eqbC hw hd.1 (Int.le_refl 0) (by decide) hb' k1
  have s6 : z_sur σ6 N 0 := z_surB s5 m3
  obtain ⟨H2, hH2⟩ : ∃ H2 : Int, H2 = 31 * y_hk (fun i => y_bf (w_Hv N 0 S) b (i : Int)) 3 H1 + w32 cr := ⟨_, rfl⟩
  have hh6 : z_hs σ6 (y_hk (fun i => y_bf (w_Cv N 0) b' (i : Int)) 0 H2) := by rw [y_hk_0, hH2]; exact z_hsF d2 (z_fz_b m3)
  have fy6 : z_fy σ σ6 := z_fy_t (z_fy_t fy2 (z_fy_26 (z_f26_t b3 d3))) (z_fy_z (z_fz_b m3))
  obtain ⟨σ7, g1, g2, g3⟩ := q_loop (Z := Z) (N := 5) (α := Nat → Nat → Int) (S := fun i x => (249, 92, [(2, ((191 : Nat) : Int)), (0, S), (0, (i : Int)), (9, 0)], [], (K, x, 206, e, s))) (P := fun i x => z_hs x (y_hk (fun i => y_bf (w_Cv N 0) b' (i : Int)) i H2) ∧ z_f26 σ6 x) (by
    rintro i x hi ⟨h1, h2⟩
    have hb := z_mT (Z := Z) (e := e) (s := s) (x := (i : Int)) hL hqC (z_bkF26 k2 h2) (by omega) (by omega)
    obtain ⟨y, y1, y2, y3⟩ := z_mixs (Z := Z) (e := e) (s := s) (v := y_bf (w_Cv N 0) b' (i : Int)) hL h1 rfl
    have wi : w32 (i : Int) = (i : Int) := q_w (by omega)
    have l0 : ¬ (5 : Int) ≤ (i : Int) := by clear wi; omega
    refine ⟨y, ?_, y2, z_f26_t h2 y3⟩
    conv => lhs; simp only [b_249_92, ↓reduceIte, Nat.reduceEqDiff, Nat.reduceMul, q_n10, q_n01, Option.bind_some, g_aft0, g_aft1, g_aft2, g_aft3, g_aft9, Nat.reduceAdd, m_kill_0, m_kill_2, m_kill_3, m_kill_4, m_kill_9, true_or, or_true, q_lm1, q_l0, q_l1, q_l2, q_l3, q_l4, q_l5, q_l6, q_l8, q_l9, q_l10, q_l12, q_l17, q_l32, q_l35, q_l48, q_l50, q_l54, q_l57, q_l64, q_l73, q_l118, q_l119, q_l120, q_l122, q_l126, q_l160, q_l256, q_l365, q_l372, q_l438, q_l1000, q_l100000, q_l1000000, wi, l0]
    simp only [b_249_97, b_249_103, b_249_107, ↓reduceIte, Nat.reduceEqDiff, Nat.reduceMul, q_n10, q_n01, Option.bind_some, g_aft0, g_aft1, g_aft2, g_aft3, g_aft9, Nat.reduceAdd, m_kill_0, m_kill_2, m_kill_3, m_kill_4, m_kill_9, true_or, or_true, q_lm1, q_l0, q_l1, q_l2, q_l3, q_l4, q_l5, q_l6, q_l8, q_l9, q_l10, q_l12, q_l17, q_l32, q_l35, q_l48, q_l50, q_l54, q_l57, q_l64, q_l73, q_l118, q_l119, q_l120, q_l122, q_l126, q_l160, q_l256, q_l365, q_l372, q_l438, q_l1000, q_l100000, q_l1000000, q_modF hL.2.2.2.2.2.2.1, hb, y1]
    rfl) 5 0 σ6 rfl ⟨hh6, z_f26_r⟩
  obtain ⟨g2, g3⟩ : z_hs σ7 (y_hk (fun i => y_bf (w_Cv N 0) b' (i : Int)) 5 H2) ∧ z_f26 σ6 σ7 := ⟨g2, g3⟩
  have s7 := z_surF26 s6 g3
  obtain ⟨σ8, l1, l2, -, l4, l5⟩ := z_laysB (Z := Z) (e := e) (s := s) (k := 2) hL s7.1 s7.2.1 hd hg (by decide) (by decide)
  have hh8 : z_hs σ8 (y_hk (fun i => y_bf (w_Cv N 0) b' (i : Int)) 5 H2) := z_hsF g2 l5
  have fy8 : z_fy σ σ8 := z_fy_t (z_fy_t fy6 (z_fy_26 g3)) (z_fy_z l5)
  obtain ⟨⟨b1', b2'⟩, ⟨b3', b4'⟩, b5'⟩ := l2
  have b5 : fr (σ8 191 21) (σ8 191 22) = fr p q := b5'.trans hpq.symm
  have hr0 := z_red (Z := Z) (h := (K, σ8, 206, e, s)) (x := σ8 191 21) (y := σ8 191 22) (u := 0) b3' (by omega) b1' (by omega) (by decide)
  rw [w_redU (part := 0) b3' (by omega) hp (by omega) b5] at hr0
  obtain ⟨σ9, n1, n2, n3⟩ := z_mix (Z := Z) (e := e) (s := s) (x := w32 (w_red p q 0)) hL hh8
  have n21 : σ9 191 21 = σ8 191 21 := n3.2 21 (by decide)
  have n22 : σ9 191 22 = σ8 191 22 := n3.2 22 (by decide)
  have hr1 := z_red (Z := Z) (h := (K, σ9, 206, e, s)) (x := σ8 191 21) (y := σ8 191 22) (u := 1) b3' (by clear n21 n22; omega) b1' (by clear n21 n22; omega) (by decide)
  rw [w_redU (part := 1) b3' (by clear n21 n22; omega) hp (by clear n21 n22; omega) b5] at hr1
  obtain ⟨σA, p1, p2, p3⟩ := z_mix (Z := Z) (e := e) (s := s) (x := w32 (w_red p q 1)) hL n2
  have sA := z_surF26 (z_surF26 l4 n3) p3
  obtain ⟨H3, hH3⟩ : ∃ H3 : Int, H3 = 31 * (31 * y_hk (fun i => y_bf (w_Cv N 0) b' (i : Int)) 5 H2 + w32 (w_red p q 0)) + w32 (w_red p q 1) := ⟨_, rfl⟩
  have hhA : z_hs σA (y_hk f 0 H3) := by rw [y_hk_0, hH3]; exact p2
  have fyA : z_fy σ σA := z_fy_t fy8 (z_fy_26 (z_f26_t n3 p3))
  obtain ⟨y, y1, y2, y3, y4⟩ := q_loop (Z := Z) (N := w_ne N) (α := (Nat → Nat → Int) × mV) (S := fun i x => (249, 154, [(2, ((191 : Nat) : Int)), (0, S), (0, (i : Int)), x.2], [], (K, x.1, 206, e, s))) (P := fun i x => z_hs x.1 (y_hk f (4 * i) H3) ∧ z_sur x.1 N 0 ∧ z_fy σ x.1) (by
    rintro i ⟨x, l3⟩ hi ⟨h1, h2, h3⟩
    have h1 : z_hs x (y_hk f (4 * i) H3) := h1
    have h2 : z_sur x N 0 := h2
    have h3 : z_fy σ x := h3
    have hem := z_emany (Z := Z) (e := e) (s := s) hL h2.1
    rw [e0.1] at hem
    have wi : w32 (i : Int) = (i : Int) := q_w (by omega)
    have wm : w32 (w_ne N : Int) = (w_ne N : Int) := q_w (by clear wi; omega)
    have c0 : ¬ (w_ne N : Int) ≤ (i : Int) := by clear wi wm; omega
    obtain ⟨x', x1, x2, x3, x4⟩ := q_loop (Z := Z) (N := 4) (α := Nat → Nat → Int) (S := fun w x => (249, 164, [(2, ((191 : Nat) : Int)), (0, S), (0, (i : Int)), (0, (w : Int))], [], (K, x, 206, e, s))) (P := fun w x => z_hs x (y_hk f (4 * i + w) H3) ∧ z_sur x N 0 ∧ z_fy σ x) (by
      rintro w ρ hw4 ⟨q1, q2, q3⟩
      obtain ⟨c', P, Q, V, v1, v2⟩ := hcv (4 * i + w) (by clear wi wm; omega)
      have hd4 : (4 * i + w) / 4 = i := by clear wi wm; omega
      have hm4 : (4 * i + w) % 4 = w := by clear wi wm; omega
      rw [hd4] at v1
      rw [hm4] at v2
      obtain ⟨ρ', w1, w2⟩ := z_cornerTold (Z := Z) (e := e) (s := s) (y := 1) (z := (w : Int)) hL q2 (Int.le_refl 0) (by decide) hi v1 (by clear wi wm; omega) (by clear wi wm; omega) (by decide)
      rw [← v2] at w1
      have q4 : z_hs ρ' (y_hk f (4 * i + w) H3) := z_hsF q1 (z_fz_9 w2)
      obtain ⟨ρ2, u1, u2, u3⟩ := z_mixs (Z := Z) (e := e) (s := s) (v := f (4 * i + w)) hL q4 rfl
      have ww : w32 (w : Int) = (w : Int) := q_w (by clear wi wm; omega)
      have l0 : ¬ (4 : Int) ≤ (w : Int) := by clear wi wm ww; omega
      refine ⟨ρ2, ?_, u2, z_surF26 (z_sur9 q2 w2) u3, z_fy_t (z_fy_t q3 (z_fy_z (z_fz_9 w2))) (z_fy_26 u3)⟩
      conv => lhs; simp only [b_249_164, ↓reduceIte, Nat.reduceEqDiff, Nat.reduceMul, q_n10, q_n01, Option.bind_some, g_aft0, g_aft1, g_aft2, g_aft3, g_aft9, Nat.reduceAdd, m_kill_0, m_kill_2, m_kill_3, m_kill_4, m_kill_9, true_or, or_true, q_lm1, q_l0, q_l1, q_l2, q_l3, q_l4, q_l5, q_l6, q_l8, q_l9, q_l10, q_l12, q_l17, q_l32, q_l35, q_l48, q_l50, q_l54, q_l57, q_l64, q_l73, q_l118, q_l119, q_l120, q_l122, q_l126, q_l160, q_l256, q_l365, q_l372, q_l438, q_l1000, q_l100000, q_l1000000, ww, l0]
      simp only [b_249_169, b_249_177, b_249_181, ↓reduceIte, Nat.reduceEqDiff, Nat.reduceMul, q_n10, q_n01, Option.bind_some, g_aft0, g_aft1, g_aft2, g_aft3, g_aft9, Nat.reduceAdd, m_kill_0, m_kill_2, m_kill_3, m_kill_4, m_kill_9, true_or, or_true, q_lm1, q_l0, q_l1, q_l2, q_l3, q_l4, q_l5, q_l6, q_l8, q_l9, q_l10, q_l12, q_l17, q_l32, q_l35, q_l48, q_l50, q_l54, q_l57, q_l64, q_l73, q_l118, q_l119, q_l120, q_l122, q_l126, q_l160, q_l256, q_l365, q_l372, q_l438, q_l1000, q_l100000, q_l1000000, q_modF hL.2.2.2.2.2.2.1, w1, u1]
      rfl) 4 0 x rfl ⟨h1, h2, h3⟩
    refine ⟨(x', (0, ((4 : Nat) : Int))), ?_, x2, x3, x4⟩
    show m_run Z (249, 154, [(2, ((191 : Nat) : Int)), (0, S), (0, (i : Int)), l3], [], (K, x, 206, e, s)) = m_run Z (249, 154, [(2, ((191 : Nat) : Int)), (0, S), (0, ((i + 1 : Nat) : Int)), (0, ((4 : Nat) : Int))], [], (K, x', 206, e, s))
    conv => lhs; simp only [b_249_154, ↓reduceIte, Nat.reduceEqDiff, Nat.reduceMul, q_n10, q_n01, Option.bind_some, g_aft0, g_aft1, g_aft2, g_aft3, g_aft9, Nat.reduceAdd, m_kill_0, m_kill_2, m_kill_3, m_kill_4, m_kill_9, true_or, or_true, q_lm1, q_l0, q_l1, q_l2, q_l3, q_l4, q_l5, q_l6, q_l8, q_l9, q_l10, q_l12, q_l17, q_l32, q_l35, q_l48, q_l50, q_l54, q_l57, q_l64, q_l73, q_l118, q_l119, q_l120, q_l122, q_l126, q_l160, q_l256, q_l365, q_l372, q_l438, q_l1000, q_l100000, q_l1000000, q_modF hL.2.2.2.2.2.2.1, hem]
    conv => lhs; simp only [b_249_159, b_249_162, ↓reduceIte, Nat.reduceEqDiff, Nat.reduceMul, q_n10, q_n01, Option.bind_some, g_aft0, g_aft1, g_aft2, g_aft3, g_aft9, Nat.reduceAdd, m_kill_0, m_kill_2, m_kill_3, m_kill_4, m_kill_9, true_or, or_true, q_lm1, q_l0, q_l1, q_l2, q_l3, q_l4, q_l5, q_l6, q_l8, q_l9, q_l10, q_l12, q_l17, q_l32, q_l35, q_l48, q_l50, q_l54, q_l57, q_l64, q_l73, q_l118, q_l119, q_l120, q_l122, q_l126, q_l160, q_l256, q_l365, q_l372, q_l438, q_l1000, q_l100000, q_l1000000, wi, wm, c0]
    refine Eq.trans x1 ?_
    have i4 : w32 ((4 : Nat) : Int) = 4 := by decide
    conv => lhs; simp only [b_249_164, ↓reduceIte, Nat.reduceEqDiff, Nat.reduceMul, q_n10, q_n01, Option.bind_some, g_aft0, g_aft1, g_aft2, g_aft3, g_aft9, Nat.reduceAdd, m_kill_0, m_kill_2, m_kill_3, m_kill_4, m_kill_9, true_or, or_true, q_lm1, q_l0, q_l1, q_l2, q_l3, q_l4, q_l5, q_l6, q_l8, q_l9, q_l10, q_l12, q_l17, q_l32, q_l35, q_l48, q_l50, q_l54, q_l57, q_l64, q_l73, q_l118, q_l119, q_l120, q_l122, q_l126, q_l160, q_l256, q_l365, q_l372, q_l438, q_l1000, q_l100000, q_l1000000, i4, Int.le_refl]
    simp only [b_249_187, ↓reduceIte, Nat.reduceEqDiff, Nat.reduceMul, q_n10, q_n01, Option.bind_some, g_aft0, g_aft1, g_aft2, g_aft3, g_aft9, Nat.reduceAdd, m_kill_0, m_kill_2, m_kill_3, m_kill_4, m_kill_9, true_or, or_true, q_lm1, q_l0, q_l1, q_l2, q_l3, q_l4, q_l5, q_l6, q_l8, q_l9, q_l10, q_l12, q_l17, q_l32, q_l35, q_l48, q_l50, q_l54, q_l57, q_l64, q_l73, q_l118, q_l119, q_l120, q_l122, q_l126, q_l160, q_l256, q_l365, q_l372, q_l438, q_l1000, q_l100000, q_l1000000]
    rfl) (w_ne N) 0 (σA, (9, 0)) (by omega) ⟨hhA, sA, fyA⟩
  refine ⟨y.1, ?_, y4, ?_⟩
  · have hem := z_emany (Z := Z) (e := e) (s := s) hL y3.1
    rw [e0.1] at hem
    have hfin : m_run Z (249, 154, [(2, ((191 : Nat) : Int)), (0, S), (0, (w_ne N : Int)), y.2], [], (K, y.1, 206, e, s)) = some (.inl (9, 0), (K, y.1, 206, e, s)) := by
      conv => lhs; simp only [b_249_154, ↓reduceIte, Nat.reduceEqDiff, Nat.reduceMul, q_n10, q_n01, Option.bind_some, g_aft0, g_aft1, g_aft2, g_aft3, g_aft9, Nat.reduceAdd, m_kill_0, m_kill_2, m_kill_3, m_kill_4, m_kill_9, true_or, or_true, q_lm1, q_l0, q_l1, q_l2, q_l3, q_l4, q_l5, q_l6, q_l8, q_l9, q_l10, q_l12, q_l17, q_l32, q_l35, q_l48, q_l50, q_l54, q_l57, q_l64, q_l73, q_l118, q_l119, q_l120, q_l122, q_l126, q_l160, q_l256, q_l365, q_l372, q_l438, q_l1000, q_l100000, q_l1000000, q_modF hL.2.2.2.2.2.2.1, hem]
      simp only [b_249_159, b_249_193, ↓reduceIte, Nat.reduceEqDiff, Nat.reduceMul, q_n10, q_n01, Option.bind_some, g_aft0, g_aft1, g_aft2, g_aft3, g_aft9, Nat.reduceAdd, m_kill_0, m_kill_2, m_kill_3, m_kill_4, m_kill_9, true_or, or_true, q_lm1, q_l0, q_l1, q_l2, q_l3, q_l4, q_l5, q_l6, q_l8, q_l9, q_l10, q_l12, q_l17, q_l32, q_l35, q_l48, q_l50, q_l54, q_l57, q_l64, q_l73, q_l118, q_l119, q_l120, q_l122, q_l126, q_l160, q_l256, q_l365, q_l372, q_l438, q_l1000, q_l100000, q_l1000000, Int.le_refl]
    rw [← hfin]
    refine Eq.trans ?_ y1
    have i3 : w32 ((3 : Nat) : Int) = 3 := by decide
    have i5 : w32 ((5 : Nat) : Int) = 5 := by decide
    have hall := w_all1 n0.2.2
    rw [← hS] at hall
    simp only [e_249, b_249_0, ↓reduceIte, Nat.reduceEqDiff, Nat.reduceMul, q_n10, q_n01, Option.bind_some, g_aft0, g_aft1, g_aft2, g_aft3, g_aft9, Nat.reduceAdd, m_kill_0, m_kill_2, m_kill_3, m_kill_4, m_kill_9, true_or, or_true, q_lm1, q_l0, q_l1, q_l2, q_l3, q_l4, q_l5, q_l6, q_l8, q_l9, q_l10, q_l12, q_l17, q_l32, q_l35, q_l48, q_l50, q_l54, q_l57, q_l64, q_l73, q_l118, q_l119, q_l120, q_l122, q_l126, q_l160, q_l256, q_l365, q_l372, q_l438, q_l1000, q_l100000, q_l1000000, q_modF hL.2.2.2.2.2.2.1, hmn]
    simp only [b_249_5, ↓reduceIte, Nat.reduceEqDiff, Nat.reduceMul, q_n10, q_n01, Option.bind_some, g_aft0, g_aft1, g_aft2, g_aft3, g_aft9, Nat.reduceAdd, m_kill_0, m_kill_2, m_kill_3, m_kill_4, m_kill_9, true_or, or_true, q_lm1, q_l0, q_l1, q_l2, q_l3, q_l4, q_l5, q_l6, q_l8, q_l9, q_l10, q_l12, q_l17, q_l32, q_l35, q_l48, q_l50, q_l54, q_l57, q_l64, q_l73, q_l118, q_l119, q_l120, q_l122, q_l126, q_l160, q_l256, q_l365, q_l372, q_l438, q_l1000, q_l100000, q_l1000000, q_modF hL.2.2.2.2.2.2.1, hall, o1]
    simp only [b_249_14, b_249_19, b_249_32, b_249_36, b_249_49, b_249_53, ↓reduceIte, Nat.reduceEqDiff, Nat.reduceMul, q_n10, q_n01, Option.bind_some, g_aft0, g_aft1, g_aft2, g_aft3, g_aft9, Nat.reduceAdd, m_kill_0, m_kill_2, m_kill_3, m_kill_4, m_kill_9, true_or, or_true, q_lm1, q_l0, q_l1, q_l2, q_l3, q_l4, q_l5, q_l6, q_l8, q_l9, q_l10, q_l12, q_l17, q_l32, q_l35, q_l48, q_l50, q_l54, q_l57, q_l64, q_l73, q_l118, q_l119, q_l120, q_l122, q_l126, q_l160, q_l256, q_l365, q_l372, q_l438, q_l1000, q_l100000, q_l1000000, q_modF hL.2.2.2.2.2.2.1, r1, red0, a1, red1, a4]
    refine Eq.trans b1 ?_
    conv => lhs; simp only [b_249_55, ↓reduceIte, Nat.reduceEqDiff, Nat.reduceMul, q_n10, q_n01, Option.bind_some, g_aft0, g_aft1, g_aft2, g_aft3, g_aft9, Nat.reduceAdd, m_kill_0, m_kill_2, m_kill_3, m_kill_4, m_kill_9, true_or, or_true, q_lm1, q_l0, q_l1, q_l2, q_l3, q_l4, q_l5, q_l6, q_l8, q_l9, q_l10, q_l12, q_l17, q_l32, q_l35, q_l48, q_l50, q_l54, q_l57, q_l64, q_l73, q_l118, q_l119, q_l120, q_l122, q_l126, q_l160, q_l256, q_l365, q_l372, q_l438, q_l1000, q_l100000, q_l1000000, i3, Int.le_refl]
    simp only [b_249_76, b_249_82, b_249_86, b_249_90, ↓reduceIte, Nat.reduceEqDiff, Nat.reduceMul, q_n10, q_n01, Option.bind_some, g_aft0, g_aft1, g_aft2, g_aft3, g_aft9, Nat.reduceAdd, m_kill_0, m_kill_2, m_kill_3, m_kill_4, m_kill_9, true_or, or_true, q_lm1, q_l0, q_l1, q_l2, q_l3, q_l4, q_l5, q_l6, q_l8, q_l9, q_l10, q_l12, q_l17, q_l32, q_l35, q_l48, q_l50, q_l54, q_l57, q_l64, q_l73, q_l118, q_l119, q_l120, q_l122, q_l126, q_l160, q_l256, q_l365, q_l372, q_l438, q_l1000, q_l100000, q_l1000000, q_modF hL.2.2.2.2.2.2.1, hcN, d1, m1]
    refine Eq.trans g1 ?_
    conv => lhs; simp only [b_249_92, ↓reduceIte, Nat.reduceEqDiff, Nat.reduceMul, q_n10, q_n01, Option.bind_some, g_aft0, g_aft1, g_aft2, g_aft3, g_aft9, Nat.reduceAdd, m_kill_0, m_kill_2, m_kill_3, m_kill_4, m_kill_9, true_or, or_true, q_lm1, q_l0, q_l1, q_l2, q_l3, q_l4, q_l5, q_l6, q_l8, q_l9, q_l10, q_l12, q_l17, q_l32, q_l35, q_l48, q_l50, q_l54, q_l57, q_l64, q_l73, q_l118, q_l119, q_l120, q_l122, q_l126, q_l160, q_l256, q_l365, q_l372, q_l438, q_l1000, q_l100000, q_l1000000, i5, Int.le_refl]
    have l1' : m_cl Z 228 [(2, ((191 : Nat) : Int)), (0, 2)] (K, σ7, 206, e, s) = some (.inl (9, 0), (K, σ8, 206, e, s)) := l1
    simp only [b_249_113, b_249_118, b_249_131, b_249_135, b_249_148, b_249_152, ↓reduceIte, Nat.reduceEqDiff, Nat.reduceMul, q_n10, q_n01, Option.bind_some, g_aft0, g_aft1, g_aft2, g_aft3, g_aft9, Nat.reduceAdd, m_kill_0, m_kill_2, m_kill_3, m_kill_4, m_kill_9, true_or, or_true, q_lm1, q_l0, q_l1, q_l2, q_l3, q_l4, q_l5, q_l6, q_l8, q_l9, q_l10, q_l12, q_l17, q_l32, q_l35, q_l48, q_l50, q_l54, q_l57, q_l64, q_l73, q_l118, q_l119, q_l120, q_l122, q_l126, q_l160, q_l256, q_l365, q_l372, q_l438, q_l1000, q_l100000, q_l1000000, q_modF hL.2.2.2.2.2.2.1, l1', hr0, n1, n21, n22, hr1, p1]
    rfl
  · have y2 : z_hs y.1 (y_hk f (4 * w_ne N) H3) := y2
    rw [hH3, hH2, hH1] at y2
    exact y2
end
end
