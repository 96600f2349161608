section
/-! The model's checksum, going on. -/
/-- a call of the model that answers a long -/
def z_OL (r : Option mO) (K : Nat → mK) (e s : Nat) (σ N : Nat → Nat → Int) (R : Nat → Nat → Nat → Int) (c : Nat) (X : Nat → Int) (L : Nat) (th b : Int) : Prop := ∃ τ, r = some (.inl (1, b), (K, τ, 206, e, s)) ∧ τ 191 4 = th ∧ z_inv τ N R c X L ∧ z_fr σ τ
theorem y_f3_e {a b d : Nat → Int} {i w : Nat} (h : w < 3) : y_f3 a b d (3 * i + w) = if w = 0 then a i else if w = 1 then b i else d i := by
  unfold y_f3
  have h1 : (3 * i + w) / 3 = i := by omega
  have h2 : (3 * i + w) % 3 = w := by omega
  rw [h1, h2]
section
variable {Z : mZ} {K : Nat → mK} {σ τ N M : Nat → Nat → Int} {e g i L n c k s a : Nat} {t p q v x y z w u S ν h0 : Int} {X : Nat → Int} {h : mH} {R : Nat → Nat → Nat → Int} {T : Nat → Int} {b b' : wP}
theorem z_row3 {f : Nat → Int} {A B D : Nat → Int} {r : Int → Option mO} (hA : r 0 = some (.inl (0, A i), h)) (hB : r 1 = some (.inl (0, B i), h)) (hD : r 2 = some (.inl (0, D i), h)) {j : Nat} (hj : j < 3) : r (j : Int) = some (.inl (0, y_f3 A B D (3 * i + j)), h) := by
  rw [y_f3_e hj]
  rcases (show j = 0 ∨ j = 1 ∨ j = 2 by omega) with rfl | rfl | rfl
  · exact hA
  · exact hB
  · exact hD
theorem z_sum0 {l2 : mV} (hL : q_lay K) (hn : z_n σ N) (hν : (w_cn N → ν = 1) ∧ (¬ w_cn N → ν = 0)) (hh : z_hs σ h0) : ∃ τ, m_run Z (250, 14, [(2, ((191 : Nat) : Int)), (0, 0), l2], [], (K, σ, 206, e, s)) = m_run Z (250, 35, [(2, ((191 : Nat) : Int)), (0, 4), l2], [], (K, τ, 206, e, s)) ∧ z_n τ N ∧ z_hs τ (y_hk (y_f4 N ν) 4 h0) ∧ z_fy σ τ := by
  obtain ⟨τ, t1, t2, t3, t4⟩ := q_loop (Z := Z) (N := 4) (α := Nat → Nat → Int) (S := fun i x => (250, 14, [(2, ((191 : Nat) : Int)), (0, (i : Int)), l2], [], (K, x, 206, e, s))) (P := fun i x => z_n x N ∧ z_hs x (y_hk (y_f4 N ν) i h0) ∧ z_fy σ x) (by
    rintro i x hi ⟨h1, h2, h3⟩
    obtain ⟨y, v, y1, y2, y3, y4⟩ := z_counted (Z := Z) (e := e) (s := s) hL h1 hi
    have hv : v = y_f4 N ν i := by
      by_cases c : w_cn N
      · rw [hν.1 c]; exact y3 c
      · rw [hν.2 c]; exact y4 c
    have hy : z_hs y (y_hk (y_f4 N ν) i h0) := (congrFun (y2 191 (by decide)) 26).trans h2
    obtain ⟨ρ, r1, r2, r3⟩ := z_mixs (Z := Z) (e := e) (s := s) hL hy hv
    have wi : w32 (i : Int) = (i : Int) := q_w (by omega)
    have c0 : ¬ (4 : Int) ≤ (i : Int) := by clear wi; omega
    refine ⟨ρ, ?_, z_nF26 (z_nF h1 (y2 192 (by decide))) r3, r2, z_fy_t h3 (z_fy_t (z_fy_6 y2) (z_fy_26 r3))⟩
    conv => lhs; simp only [b_250_14, ↓reduceIte, Nat.reduceEqDiff, Nat.reduceMul, q_n10, q_n01, Option.bind_some, g_aft0, g_aft1, g_aft2, g_aft3, g_aft9, Nat.reduceAdd, m_kill_0, m_kill_2, m_kill_3, m_kill_4, m_kill_9, true_or, or_true, q_lm1, q_l0, q_l1, q_l2, q_l3, q_l4, q_l5, q_l6, q_l8, q_l9, q_l10, q_l12, q_l17, q_l32, q_l35, q_l48, q_l50, q_l54, q_l57, q_l64, q_l73, q_l118, q_l119, q_l120, q_l122, q_l126, q_l160, q_l256, q_l365, q_l372, q_l438, q_l1000, q_l100000, q_l1000000, wi, c0]
    simp only [b_250_19, b_250_25, b_250_29, ↓reduceIte, Nat.reduceEqDiff, Nat.reduceMul, q_n10, q_n01, Option.bind_some, g_aft0, g_aft1, g_aft2, g_aft3, g_aft9, Nat.reduceAdd, m_kill_0, m_kill_2, m_kill_3, m_kill_4, m_kill_9, true_or, or_true, q_lm1, q_l0, q_l1, q_l2, q_l3, q_l4, q_l5, q_l6, q_l8, q_l9, q_l10, q_l12, q_l17, q_l32, q_l35, q_l48, q_l50, q_l54, q_l57, q_l64, q_l73, q_l118, q_l119, q_l120, q_l122, q_l126, q_l160, q_l256, q_l365, q_l372, q_l438, q_l1000, q_l100000, q_l1000000, q_modF hL.2.2.2.2.2.2.1, y1, r1]
    rfl) 4 0 σ rfl ⟨hn, by rw [y_hk_0]; exact hh, z_fy_r⟩
  refine ⟨τ, ?_, t2, t3, t4⟩
  refine Eq.trans t1 ?_
  have i4 : w32 ((4 : Nat) : Int) = 4 := by decide
  conv => lhs; simp only [b_250_14, ↓reduceIte, Nat.reduceEqDiff, Nat.reduceMul, q_n10, q_n01, Option.bind_some, g_aft0, g_aft1, g_aft2, g_aft3, g_aft9, Nat.reduceAdd, m_kill_0, m_kill_2, m_kill_3, m_kill_4, m_kill_9, true_or, or_true, q_lm1, q_l0, q_l1, q_l2, q_l3, q_l4, q_l5, q_l6, q_l8, q_l9, q_l10, q_l12, q_l17, q_l32, q_l35, q_l48, q_l50, q_l54, q_l57, q_l64, q_l73, q_l118, q_l119, q_l120, q_l122, q_l126, q_l160, q_l256, q_l365, q_l372, q_l438, q_l1000, q_l100000, q_l1000000, i4, Int.le_refl]
  rfl
theorem z_sum1 {l2 : mV} (hL : q_lay K) (hn : z_n σ N) (hh : z_hs σ h0) : ∃ τ l2', m_run Z (250, 37, [(2, ((191 : Nat) : Int)), (0, 0), l2], [], (K, σ, 206, e, s)) = m_run Z (250, 75, [(2, ((191 : Nat) : Int)), (0, (w_nn N : Int)), l2'], [], (K, τ, 206, e, s)) ∧ z_hs τ (y_hk (y_f3 (N 2) (N 4) (fun i => w_deg N (i : Int))) (3 * w_nn N) h0) ∧ z_f26 σ τ := by
  have n0 := wf_n hn.1
  obtain ⟨f, hf⟩ : ∃ f, f = y_f3 (N 2) (N 4) (fun i => w_deg N (i : Int)) := ⟨_, rfl⟩
  rw [← hf]
  obtain ⟨⟨τ, l2'⟩, t1, t2, t3⟩ := q_loop (Z := Z) (N := w_nn N) (α := (Nat → Nat → Int) × mV) (S := fun i x => (250, 37, [(2, ((191 : Nat) : Int)), (0, (i : Int)), x.2], [], (K, x.1, 206, e, s))) (P := fun i x => z_hs x.1 (y_hk f (3 * i) h0) ∧ z_f26 σ x.1) (by
    rintro i ⟨x, l2⟩ hi ⟨h1, h2⟩
    have hmn := z_many (Z := Z) (e := e) (s := s) hL (z_nF26 hn h2)
    rw [n0.1] at hmn
    have wi : w32 (i : Int) = (i : Int) := q_w (by clear hmn; omega)
    have wn : w32 (w_nn N : Int) = (w_nn N : Int) := q_w (by clear hmn wi; omega)
    have c0 : ¬ (w_nn N : Int) ≤ (i : Int) := by clear hmn wi wn; omega
    obtain ⟨x', x1, x2, x3⟩ := q_loop (Z := Z) (N := 3) (α := Nat → Nat → Int) (S := fun w x => (250, 47, [(2, ((191 : Nat) : Int)), (0, (i : Int)), (0, (w : Int))], [], (K, x, 206, e, s))) (P := fun w x => z_hs x (y_hk f (3 * i + w) h0) ∧ z_f26 σ x) (by
      rintro w ρ hw3 ⟨q1, q2⟩
      have hnn := z_nF26 hn q2
      have hc := z_row3 (i := i) (h := (K, ρ, 206, e, s)) (A := N 2) (B := N 4) (D := fun i => w_deg N (i : Int)) (f := f) (r := fun w => m_cl Z 181 [(2, ((191 : Nat) : Int)), (0, (i : Int)), (0, w)] (K, ρ, 206, e, s)) (z_nodeTold hL hnn hi (by decide) (by decide)) (z_nodeTold hL hnn hi (by decide) (by decide)) (z_nodeTold hL hnn hi (by decide) (by decide)) hw3
      rw [← hf] at hc
      have hc : m_cl Z 181 [(2, ((191 : Nat) : Int)), (0, (i : Int)), (0, (w : Int))] (K, ρ, 206, e, s) = _ := hc
      obtain ⟨ρ2, u1, u2, u3⟩ := z_mixs (Z := Z) (e := e) (s := s) (v := f (3 * i + w)) hL q1 rfl
      have ww : w32 (w : Int) = (w : Int) := q_w (by clear hmn wi wn; omega)
      have l0 : ¬ (3 : Int) ≤ (w : Int) := by clear hmn wi wn ww; omega
      refine ⟨ρ2, ?_, u2, z_f26_t q2 u3⟩
      conv => lhs; simp only [b_250_47, ↓reduceIte, Nat.reduceEqDiff, Nat.reduceMul, q_n10, q_n01, Option.bind_some, g_aft0, g_aft1, g_aft2, g_aft3, g_aft9, Nat.reduceAdd, m_kill_0, m_kill_2, m_kill_3, m_kill_4, m_kill_9, true_or, or_true, q_lm1, q_l0, q_l1, q_l2, q_l3, q_l4, q_l5, q_l6, q_l8, q_l9, q_l10, q_l12, q_l17, q_l32, q_l35, q_l48, q_l50, q_l54, q_l57, q_l64, q_l73, q_l118, q_l119, q_l120, q_l122, q_l126, q_l160, q_l256, q_l365, q_l372, q_l438, q_l1000, q_l100000, q_l1000000, ww, l0]
      simp only [b_250_52, b_250_59, b_250_63, ↓reduceIte, Nat.reduceEqDiff, Nat.reduceMul, q_n10, q_n01, Option.bind_some, g_aft0, g_aft1, g_aft2, g_aft3, g_aft9, Nat.reduceAdd, m_kill_0, m_kill_2, m_kill_3, m_kill_4, m_kill_9, true_or, or_true, q_lm1, q_l0, q_l1, q_l2, q_l3, q_l4, q_l5, q_l6, q_l8, q_l9, q_l10, q_l12, q_l17, q_l32, q_l35, q_l48, q_l50, q_l54, q_l57, q_l64, q_l73, q_l118, q_l119, q_l120, q_l122, q_l126, q_l160, q_l256, q_l365, q_l372, q_l438, q_l1000, q_l100000, q_l1000000, q_modF hL.2.2.2.2.2.2.1, hc, u1]
      rfl) 3 0 x rfl ⟨h1, h2⟩
    refine ⟨(x', (0, ((3 : Nat) : Int))), ?_, x2, x3⟩
    show m_run Z (250, 37, [(2, ((191 : Nat) : Int)), (0, (i : Int)), l2], [], (K, x, 206, e, s)) = m_run Z (250, 37, [(2, ((191 : Nat) : Int)), (0, ((i + 1 : Nat) : Int)), (0, ((3 : Nat) : Int))], [], (K, x', 206, e, s))
    conv => lhs; simp only [b_250_37, ↓reduceIte, Nat.reduceEqDiff, Nat.reduceMul, q_n10, q_n01, Option.bind_some, g_aft0, g_aft1, g_aft2, g_aft3, g_aft9, Nat.reduceAdd, m_kill_0, m_kill_2, m_kill_3, m_kill_4, m_kill_9, true_or, or_true, q_lm1, q_l0, q_l1, q_l2, q_l3, q_l4, q_l5, q_l6, q_l8, q_l9, q_l10, q_l12, q_l17, q_l32, q_l35, q_l48, q_l50, q_l54, q_l57, q_l64, q_l73, q_l118, q_l119, q_l120, q_l122, q_l126, q_l160, q_l256, q_l365, q_l372, q_l438, q_l1000, q_l100000, q_l1000000, q_modF hL.2.2.2.2.2.2.1, hmn]
    conv => lhs; simp only [b_250_42, b_250_45, ↓reduceIte, Nat.reduceEqDiff, Nat.reduceMul, q_n10, q_n01, Option.bind_some, g_aft0, g_aft1, g_aft2, g_aft3, g_aft9, Nat.reduceAdd, m_kill_0, m_kill_2, m_kill_3, m_kill_4, m_kill_9, true_or, or_true, q_lm1, q_l0, q_l1, q_l2, q_l3, q_l4, q_l5, q_l6, q_l8, q_l9, q_l10, q_l12, q_l17, q_l32, q_l35, q_l48, q_l50, q_l54, q_l57, q_l64, q_l73, q_l118, q_l119, q_l120, q_l122, q_l126, q_l160, q_l256, q_l365, q_l372, q_l438, q_l1000, q_l100000, q_l1000000, wi, wn, c0]
    refine Eq.trans x1 ?_
    have i3 : w32 ((3 : Nat) : Int) = 3 := by decide
    conv => lhs; simp only [b_250_47, ↓reduceIte, Nat.reduceEqDiff, Nat.reduceMul, q_n10, q_n01, Option.bind_some, g_aft0, g_aft1, g_aft2, g_aft3, g_aft9, Nat.reduceAdd, m_kill_0, m_kill_2, m_kill_3, m_kill_4, m_kill_9, true_or, or_true, q_lm1, q_l0, q_l1, q_l2, q_l3, q_l4, q_l5, q_l6, q_l8, q_l9, q_l10, q_l12, q_l17, q_l32, q_l35, q_l48, q_l50, q_l54, q_l57, q_l64, q_l73, q_l118, q_l119, q_l120, q_l122, q_l126, q_l160, q_l256, q_l365, q_l372, q_l438, q_l1000, q_l100000, q_l1000000, i3, Int.le_refl]
    simp only [b_250_69, ↓reduceIte, Nat.reduceEqDiff, Nat.reduceMul, q_n10, q_n01, Option.bind_some, g_aft0, g_aft1, g_aft2, g_aft3, g_aft9, Nat.reduceAdd, m_kill_0, m_kill_2, m_kill_3, m_kill_4, m_kill_9, true_or, or_true, q_lm1, q_l0, q_l1, q_l2, q_l3, q_l4, q_l5, q_l6, q_l8, q_l9, q_l10, q_l12, q_l17, q_l32, q_l35, q_l48, q_l50, q_l54, q_l57, q_l64, q_l73, q_l118, q_l119, q_l120, q_l122, q_l126, q_l160, q_l256, q_l365, q_l372, q_l438, q_l1000, q_l100000, q_l1000000]
    rfl) (w_nn N) 0 (σ, l2) (by omega) ⟨by show z_hs σ (y_hk f 0 h0); rw [y_hk_0]; exact hh, z_f26_r⟩
  refine ⟨τ, l2', ?_, t2, t3⟩
  refine Eq.trans t1 ?_
  have t3 : z_f26 σ τ := t3
  have hmn := z_many (Z := Z) (e := e) (s := s) hL (z_nF26 hn t3)
  rw [n0.1] at hmn
  have wn : w32 (w_nn N : Int) = (w_nn N : Int) := q_w (by clear hmn; omega)
  conv => lhs; simp only [b_250_37, ↓reduceIte, Nat.reduceEqDiff, Nat.reduceMul, q_n10, q_n01, Option.bind_some, g_aft0, g_aft1, g_aft2, g_aft3, g_aft9, Nat.reduceAdd, m_kill_0, m_kill_2, m_kill_3, m_kill_4, m_kill_9, true_or, or_true, q_lm1, q_l0, q_l1, q_l2, q_l3, q_l4, q_l5, q_l6, q_l8, q_l9, q_l10, q_l12, q_l17, q_l32, q_l35, q_l48, q_l50, q_l54, q_l57, q_l64, q_l73, q_l118, q_l119, q_l120, q_l122, q_l126, q_l160, q_l256, q_l365, q_l372, q_l438, q_l1000, q_l100000, q_l1000000, q_modF hL.2.2.2.2.2.2.1, hmn]
  conv => lhs; simp only [b_250_42, ↓reduceIte, Nat.reduceEqDiff, Nat.reduceMul, q_n10, q_n01, Option.bind_some, g_aft0, g_aft1, g_aft2, g_aft3, g_aft9, Nat.reduceAdd, m_kill_0, m_kill_2, m_kill_3, m_kill_4, m_kill_9, true_or, or_true, q_lm1, q_l0, q_l1, q_l2, q_l3, q_l4, q_l5, q_l6, q_l8, q_l9, q_l10, q_l12, q_l17, q_l32, q_l35, q_l48, q_l50, q_l54, q_l57, q_l64, q_l73, q_l118, q_l119, q_l120, q_l122, q_l126, q_l160, q_l256, q_l365, q_l372, q_l438, q_l1000, q_l100000, q_l1000000, wn, Int.le_refl]
theorem z_sum2 {l2 : mV} (hL : q_lay K) (hn : z_n σ N) (hh : z_hs σ h0) : ∃ τ l2', m_run Z (250, 77, [(2, ((191 : Nat) : Int)), (0, 0), l2], [], (K, σ, 206, e, s)) = m_run Z (250, 115, [(2, ((191 : Nat) : Int)), (0, (w_ne N : Int)), l2'], [], (K, τ, 206, e, s)) ∧ z_hs τ (y_hk (y_f3 (N 6) (N 8) (N 10)) (3 * w_ne N) h0) ∧ z_f26 σ τ := by
  have n0 := wf_e hn.1
  obtain ⟨f, hf⟩ : ∃ f, f = y_f3 (N 6) (N 8) (N 10) := ⟨_, rfl⟩
  rw [← hf]
  obtain ⟨⟨τ, l2'⟩, t1, t2, t3⟩ := q_loop (Z := Z) (N := w_ne N) (α := (Nat → Nat → Int) × mV) (S := fun i x => (250, 77, [(2, ((191 : Nat) : Int)), (0, (i : Int)), x.2], [], (K, x.1, 206, e, s))) (P := fun i x => z_hs x.1 (y_hk f (3 * i) h0) ∧ z_f26 σ x.1) (by
    rintro i ⟨x, l2⟩ hi ⟨h1, h2⟩
    have hmn := z_emany (Z := Z) (e := e) (s := s) hL (z_nF26 hn h2)
    rw [n0.1] at hmn
    have wi : w32 (i : Int) = (i : Int) := q_w (by clear hmn; omega)
    have wn : w32 (w_ne N : Int) = (w_ne N : Int) := q_w (by clear hmn wi; omega)
    have c0 : ¬ (w_ne N : Int) ≤ (i : Int) := by clear hmn wi wn; omega
    obtain ⟨x', x1, x2, x3⟩ := q_loop (Z := Z) (N := 3) (α := Nat → Nat → Int) (S := fun w x => (250, 87, [(2, ((191 : Nat) : Int)), (0, (i : Int)), (0, (w : Int))], [], (K, x, 206, e, s))) (P := fun w x => z_hs x (y_hk f (3 * i + w) h0) ∧ z_f26 σ x) (by
      rintro w ρ hw3 ⟨q1, q2⟩
      have hnn := z_nF26 hn q2
      obtain ⟨k1, k2, k3⟩ := z_of (Z := Z) (e := e) (s := s) hL hnn hi
      have hc := z_row3 (i := i) (h := (K, ρ, 206, e, s)) (A := N 6) (B := N 8) (D := N 10) (f := f) (r := fun w => m_cl Z 160 [(2, ((191 : Nat) : Int)), (0, (i : Int)), (0, w)] (K, ρ, 206, e, s)) k1 k2 k3 hw3
      rw [← hf] at hc
      have hc : m_cl Z 160 [(2, ((191 : Nat) : Int)), (0, (i : Int)), (0, (w : Int))] (K, ρ, 206, e, s) = _ := hc
      obtain ⟨ρ2, u1, u2, u3⟩ := z_mixs (Z := Z) (e := e) (s := s) (v := f (3 * i + w)) hL q1 rfl
      have ww : w32 (w : Int) = (w : Int) := q_w (by clear hmn wi wn; omega)
      have l0 : ¬ (3 : Int) ≤ (w : Int) := by clear hmn wi wn ww; omega
      refine ⟨ρ2, ?_, u2, z_f26_t q2 u3⟩
      conv => lhs; simp only [b_250_87, ↓reduceIte, Nat.reduceEqDiff, Nat.reduceMul, q_n10, q_n01, Option.bind_some, g_aft0, g_aft1, g_aft2, g_aft3, g_aft9, Nat.reduceAdd, m_kill_0, m_kill_2, m_kill_3, m_kill_4, m_kill_9, true_or, or_true, q_lm1, q_l0, q_l1, q_l2, q_l3, q_l4, q_l5, q_l6, q_l8, q_l9, q_l10, q_l12, q_l17, q_l32, q_l35, q_l48, q_l50, q_l54, q_l57, q_l64, q_l73, q_l118, q_l119, q_l120, q_l122, q_l126, q_l160, q_l256, q_l365, q_l372, q_l438, q_l1000, q_l100000, q_l1000000, ww, l0]
      simp only [b_250_92, b_250_99, b_250_103, ↓reduceIte, Nat.reduceEqDiff, Nat.reduceMul, q_n10, q_n01, Option.bind_some, g_aft0, g_aft1, g_aft2, g_aft3, g_aft9, Nat.reduceAdd, m_kill_0, m_kill_2, m_kill_3, m_kill_4, m_kill_9, true_or, or_true, q_lm1, q_l0, q_l1, q_l2, q_l3, q_l4, q_l5, q_l6, q_l8, q_l9, q_l10, q_l12, q_l17, q_l32, q_l35, q_l48, q_l50, q_l54, q_l57, q_l64, q_l73, q_l118, q_l119, q_l120, q_l122, q_l126, q_l160, q_l256, q_l365, q_l372, q_l438, q_l1000, q_l100000, q_l1000000, q_modF hL.2.2.2.2.2.2.1, hc, u1]
      rfl) 3 0 x rfl ⟨h1, h2⟩
    refine ⟨(x', (0, ((3 : Nat) : Int))), ?_, x2, x3⟩
    show m_run Z (250, 77, [(2, ((191 : Nat) : Int)), (0, (i : Int)), l2], [], (K, x, 206, e, s)) = m_run Z (250, 77, [(2, ((191 : Nat) : Int)), (0, ((i + 1 : Nat) : Int)), (0, ((3 : Nat) : Int))], [], (K, x', 206, e, s))
    conv => lhs; simp only [b_250_77, ↓reduceIte, Nat.reduceEqDiff, Nat.reduceMul, q_n10, q_n01, Option.bind_some, g_aft0, g_aft1, g_aft2, g_aft3, g_aft9, Nat.reduceAdd, m_kill_0, m_kill_2, m_kill_3, m_kill_4, m_kill_9, true_or, or_true, q_lm1, q_l0, q_l1, q_l2, q_l3, q_l4, q_l5, q_l6, q_l8, q_l9, q_l10, q_l12, q_l17, q_l32, q_l35, q_l48, q_l50, q_l54, q_l57, q_l64, q_l73, q_l118, q_l119, q_l120, q_l122, q_l126, q_l160, q_l256, q_l365, q_l372, q_l438, q_l1000, q_l100000, q_l1000000, q_modF hL.2.2.2.2.2.2.1, hmn]
    conv => lhs; simp only [b_250_82, b_250_85, ↓reduceIte, Nat.reduceEqDiff, Nat.reduceMul, q_n10, q_n01, Option.bind_some, g_aft0, g_aft1, g_aft2, g_aft3, g_aft9, Nat.reduceAdd, m_kill_0, m_kill_2, m_kill_3, m_kill_4, m_kill_9, true_or, or_true, q_lm1, q_l0, q_l1, q_l2, q_l3, q_l4, q_l5, q_l6, q_l8, q_l9, q_l10, q_l12, q_l17, q_l32, q_l35, q_l48, q_l50, q_l54, q_l57, q_l64, q_l73, q_l118, q_l119, q_l120, q_l122, q_l126, q_l160, q_l256, q_l365, q_l372, q_l438, q_l1000, q_l100000, q_l1000000, wi, wn, c0]
    refine Eq.trans x1 ?_
    have i3 : w32 ((3 : Nat) : Int) = 3 := by decide
    conv => lhs; simp only [b_250_87, ↓reduceIte, Nat.reduceEqDiff, Nat.reduceMul, q_n10, q_n01, Option.bind_some, g_aft0, g_aft1, g_aft2, g_aft3, g_aft9, Nat.reduceAdd, m_kill_0, m_kill_2, m_kill_3, m_kill_4, m_kill_9, true_or, or_true, q_lm1, q_l0, q_l1, q_l2, q_l3, q_l4, q_l5, q_l6, q_l8, q_l9, q_l10, q_l12, q_l17, q_l32, q_l35, q_l48, q_l50, q_l54, q_l57, q_l64, q_l73, q_l118, q_l119, q_l120, q_l122, q_l126, q_l160, q_l256, q_l365, q_l372, q_l438, q_l1000, q_l100000, q_l1000000, i3, Int.le_refl]
    simp only [b_250_109, ↓reduceIte, Nat.reduceEqDiff, Nat.reduceMul, q_n10, q_n01, Option.bind_some, g_aft0, g_aft1, g_aft2, g_aft3, g_aft9, Nat.reduceAdd, m_kill_0, m_kill_2, m_kill_3, m_kill_4, m_kill_9, true_or, or_true, q_lm1, q_l0, q_l1, q_l2, q_l3, q_l4, q_l5, q_l6, q_l8, q_l9, q_l10, q_l12, q_l17, q_l32, q_l35, q_l48, q_l50, q_l54, q_l57, q_l64, q_l73, q_l118, q_l119, q_l120, q_l122, q_l126, q_l160, q_l256, q_l365, q_l372, q_l438, q_l1000, q_l100000, q_l1000000]
    rfl) (w_ne N) 0 (σ, l2) (by omega) ⟨by show z_hs σ (y_hk f 0 h0); rw [y_hk_0]; exact hh, z_f26_r⟩
  refine ⟨τ, l2', ?_, t2, t3⟩
  refine Eq.trans t1 ?_
  have t3 : z_f26 σ τ := t3
  have hmn := z_emany (Z := Z) (e := e) (s := s) hL (z_nF26 hn t3)
  rw [n0.1] at hmn
  have wn : w32 (w_ne N : Int) = (w_ne N : Int) := q_w (by clear hmn; omega)
  conv => lhs; simp only [b_250_77, ↓reduceIte, Nat.reduceEqDiff, Nat.reduceMul, q_n10, q_n01, Option.bind_some, g_aft0, g_aft1, g_aft2, g_aft3, g_aft9, Nat.reduceAdd, m_kill_0, m_kill_2, m_kill_3, m_kill_4, m_kill_9, true_or, or_true, q_lm1, q_l0, q_l1, q_l2, q_l3, q_l4, q_l5, q_l6, q_l8, q_l9, q_l10, q_l12, q_l17, q_l32, q_l35, q_l48, q_l50, q_l54, q_l57, q_l64, q_l73, q_l118, q_l119, q_l120, q_l122, q_l126, q_l160, q_l256, q_l365, q_l372, q_l438, q_l1000, q_l100000, q_l1000000, q_modF hL.2.2.2.2.2.2.1, hmn]
  conv => lhs; simp only [b_250_82, ↓reduceIte, Nat.reduceEqDiff, Nat.reduceMul, q_n10, q_n01, Option.bind_some, g_aft0, g_aft1, g_aft2, g_aft3, g_aft9, Nat.reduceAdd, m_kill_0, m_kill_2, m_kill_3, m_kill_4, m_kill_9, true_or, or_true, q_lm1, q_l0, q_l1, q_l2, q_l3, q_l4, q_l5, q_l6, q_l8, q_l9, q_l10, q_l12, q_l17, q_l32, q_l35, q_l48, q_l50, q_l54, q_l57, q_l64, q_l73, q_l118, q_l119, q_l120, q_l122, q_l126, q_l160, q_l256, q_l365, q_l372, q_l438, q_l1000, q_l100000, q_l1000000, wn, Int.le_refl]
theorem z_sum3 {l2 : mV} (hL : q_lay K) (hn : z_n σ N) (hh : z_hs σ h0) : ∃ τ l2', m_run Z (250, 117, [(2, ((191 : Nat) : Int)), (0, 0), l2], [], (K, σ, 206, e, s)) = m_run Z (250, 155, [(2, ((191 : Nat) : Int)), (0, (w_ns N : Int)), l2'], [], (K, τ, 206, e, s)) ∧ z_hs τ (y_hk (y_f3 (N 12) (N 14) (N 16)) (3 * w_ns N) h0) ∧ z_f26 σ τ := by
  have n0 := wf_s hn.1
  obtain ⟨f, hf⟩ : ∃ f, f = y_f3 (N 12) (N 14) (N 16) := ⟨_, rfl⟩
  rw [← hf]
  obtain ⟨⟨τ, l2'⟩, t1, t2, t3⟩ := q_loop (Z := Z) (N := w_ns N) (α := (Nat → Nat → Int) × mV) (S := fun i x => (250, 117, [(2, ((191 : Nat) : Int)), (0, (i : Int)), x.2], [], (K, x.1, 206, e, s))) (P := fun i x => z_hs x.1 (y_hk f (3 * i) h0) ∧ z_f26 σ x.1) (by
    rintro i ⟨x, l2⟩ hi ⟨h1, h2⟩
    have hmn := z_smany (Z := Z) (e := e) (s := s) hL (z_nF26 hn h2)
    rw [n0.1] at hmn
    have wi : w32 (i : Int) = (i : Int) := q_w (by clear hmn; omega)
    have wn : w32 (w_ns N : Int) = (w_ns N : Int) := q_w (by clear hmn wi; omega)
    have c0 : ¬ (w_ns N : Int) ≤ (i : Int) := by clear hmn wi wn; omega
    obtain ⟨x', x1, x2, x3⟩ := q_loop (Z := Z) (N := 3) (α := Nat → Nat → Int) (S := fun w x => (250, 127, [(2, ((191 : Nat) : Int)), (0, (i : Int)), (0, (w : Int))], [], (K, x, 206, e, s))) (P := fun w x => z_hs x (y_hk f (3 * i + w) h0) ∧ z_f26 σ x) (by
      rintro w ρ hw3 ⟨q1, q2⟩
      have hnn := z_nF26 hn q2
      obtain ⟨k1, k2, k3⟩ := z_at (Z := Z) (e := e) (s := s) hL hnn hi
      have hc := z_row3 (i := i) (h := (K, ρ, 206, e, s)) (A := N 12) (B := N 14) (D := N 16) (f := f) (r := fun w => m_cl Z 162 [(2, ((191 : Nat) : Int)), (0, (i : Int)), (0, w)] (K, ρ, 206, e, s)) k1 k2 k3 hw3
      rw [← hf] at hc
      have hc : m_cl Z 162 [(2, ((191 : Nat) : Int)), (0, (i : Int)), (0, (w : Int))] (K, ρ, 206, e, s) = _ := hc
      obtain ⟨ρ2, u1, u2, u3⟩ := z_mixs (Z := Z) (e := e) (s := s) (v := f (3 * i + w)) hL q1 rfl
      have ww : w32 (w : Int) = (w : Int) := q_w (by clear hmn wi wn; omega)
      have l0 : ¬ (3 : Int) ≤ (w : Int) := by clear hmn wi wn ww; omega
      refine ⟨ρ2, ?_, u2, z_f26_t q2 u3⟩
      conv => lhs; simp only [b_250_127, ↓reduceIte, Nat.reduceEqDiff, Nat.reduceMul, q_n10, q_n01, Option.bind_some, g_aft0, g_aft1, g_aft2, g_aft3, g_aft9, Nat.reduceAdd, m_kill_0, m_kill_2, m_kill_3, m_kill_4, m_kill_9, true_or, or_true, q_lm1, q_l0, q_l1, q_l2, q_l3, q_l4, q_l5, q_l6, q_l8, q_l9, q_l10, q_l12, q_l17, q_l32, q_l35, q_l48, q_l50, q_l54, q_l57, q_l64, q_l73, q_l118, q_l119, q_l120, q_l122, q_l126, q_l160, q_l256, q_l365, q_l372, q_l438, q_l1000, q_l100000, q_l1000000, ww, l0]
      simp only [b_250_132, b_250_139, b_250_143, ↓reduceIte, Nat.reduceEqDiff, Nat.reduceMul, q_n10, q_n01, Option.bind_some, g_aft0, g_aft1, g_aft2, g_aft3, g_aft9, Nat.reduceAdd, m_kill_0, m_kill_2, m_kill_3, m_kill_4, m_kill_9, true_or, or_true, q_lm1, q_l0, q_l1, q_l2, q_l3, q_l4, q_l5, q_l6, q_l8, q_l9, q_l10, q_l12, q_l17, q_l32, q_l35, q_l48, q_l50, q_l54, q_l57, q_l64, q_l73, q_l118, q_l119, q_l120, q_l122, q_l126, q_l160, q_l256, q_l365, q_l372, q_l438, q_l1000, q_l100000, q_l1000000, q_modF hL.2.2.2.2.2.2.1, hc, u1]
      rfl) 3 0 x rfl ⟨h1, h2⟩
    refine ⟨(x', (0, ((3 : Nat) : Int))), ?_, x2, x3⟩
    show m_run Z (250, 117, [(2, ((191 : Nat) : Int)), (0, (i : Int)), l2], [], (K, x, 206, e, s)) = m_run Z (250, 117, [(2, ((191 : Nat) : Int)), (0, ((i + 1 : Nat) : Int)), (0, ((3 : Nat) : Int))], [], (K, x', 206, e, s))
    conv => lhs; simp only [b_250_117, ↓reduceIte, Nat.reduceEqDiff, Nat.reduceMul, q_n10, q_n01, Option.bind_some, g_aft0, g_aft1, g_aft2, g_aft3, g_aft9, Nat.reduceAdd, m_kill_0, m_kill_2, m_kill_3, m_kill_4, m_kill_9, true_or, or_true, q_lm1, q_l0, q_l1, q_l2, q_l3, q_l4, q_l5, q_l6, q_l8, q_l9, q_l10, q_l12, q_l17, q_l32, q_l35, q_l48, q_l50, q_l54, q_l57, q_l64, q_l73, q_l118, q_l119, q_l120, q_l122, q_l126, q_l160, q_l256, q_l365, q_l372, q_l438, q_l1000, q_l100000, q_l1000000, q_modF hL.2.2.2.2.2.2.1, hmn]
    conv => lhs; simp only [b_250_122, b_250_125, ↓reduceIte, Nat.reduceEqDiff, Nat.reduceMul, q_n10, q_n01, Option.bind_some, g_aft0, g_aft1, g_aft2, g_aft3, g_aft9, Nat.reduceAdd, m_kill_0, m_kill_2, m_kill_3, m_kill_4, m_kill_9, true_or, or_true, q_lm1, q_l0, q_l1, q_l2, q_l3, q_l4, q_l5, q_l6, q_l8, q_l9, q_l10, q_l12, q_l17, q_l32, q_l35, q_l48, q_l50, q_l54, q_l57, q_l64, q_l73, q_l118, q_l119, q_l120, q_l122, q_l126, q_l160, q_l256, q_l365, q_l372, q_l438, q_l1000, q_l100000, q_l1000000, wi, wn, c0]
    refine Eq.trans x1 ?_
    have i3 : w32 ((3 : Nat) : Int) = 3 := by decide
    conv => lhs; simp only [b_250_127, ↓reduceIte, Nat.reduceEqDiff, Nat.reduceMul, q_n10, q_n01, Option.bind_some, g_aft0, g_aft1, g_aft2, g_aft3, g_aft9, Nat.reduceAdd, m_kill_0, m_kill_2, m_kill_3, m_kill_4, m_kill_9, true_or, or_true, q_lm1, q_l0, q_l1, q_l2, q_l3, q_l4, q_l5, q_l6, q_l8, q_l9, q_l10, q_l12, q_l17, q_l32, q_l35, q_l48, q_l50, q_l54, q_l57, q_l64, q_l73, q_l118, q_l119, q_l120, q_l122, q_l126, q_l160, q_l256, q_l365, q_l372, q_l438, q_l1000, q_l100000, q_l1000000, i3, Int.le_refl]
    simp only [b_250_149, ↓reduceIte, Nat.reduceEqDiff, Nat.reduceMul, q_n10, q_n01, Option.bind_some, g_aft0, g_aft1, g_aft2, g_aft3, g_aft9, Nat.reduceAdd, m_kill_0, m_kill_2, m_kill_3, m_kill_4, m_kill_9, true_or, or_true, q_lm1, q_l0, q_l1, q_l2, q_l3, q_l4, q_l5, q_l6, q_l8, q_l9, q_l10, q_l12, q_l17, q_l32, q_l35, q_l48, q_l50, q_l54, q_l57, q_l64, q_l73, q_l118, q_l119, q_l120, q_l122, q_l126, q_l160, q_l256, q_l365, q_l372, q_l438, q_l1000, q_l100000, q_l1000000]
    rfl) (w_ns N) 0 (σ, l2) (by omega) ⟨by show z_hs σ (y_hk f 0 h0); rw [y_hk_0]; exact hh, z_f26_r⟩
  refine ⟨τ, l2', ?_, t2, t3⟩
  refine Eq.trans t1 ?_
  have t3 : z_f26 σ τ := t3
  have hmn := z_smany (Z := Z) (e := e) (s := s) hL (z_nF26 hn t3)
  rw [n0.1] at hmn
  have wn : w32 (w_ns N : Int) = (w_ns N : Int) := q_w (by clear hmn; omega)
  conv => lhs; simp only [b_250_117, ↓reduceIte, Nat.reduceEqDiff, Nat.reduceMul, q_n10, q_n01, Option.bind_some, g_aft0, g_aft1, g_aft2, g_aft3, g_aft9, Nat.reduceAdd, m_kill_0, m_kill_2, m_kill_3, m_kill_4, m_kill_9, true_or, or_true, q_lm1, q_l0, q_l1, q_l2, q_l3, q_l4, q_l5, q_l6, q_l8, q_l9, q_l10, q_l12, q_l17, q_l32, q_l35, q_l48, q_l50, q_l54, q_l57, q_l64, q_l73, q_l118, q_l119, q_l120, q_l122, q_l126, q_l160, q_l256, q_l365, q_l372, q_l438, q_l1000, q_l100000, q_l1000000, q_modF hL.2.2.2.2.2.2.1, hmn]
  conv => lhs; simp only [b_250_122, ↓reduceIte, Nat.reduceEqDiff, Nat.reduceMul, q_n10, q_n01, Option.bind_some, g_aft0, g_aft1, g_aft2, g_aft3, g_aft9, Nat.reduceAdd, m_kill_0, m_kill_2, m_kill_3, m_kill_4, m_kill_9, true_or, or_true, q_lm1, q_l0, q_l1, q_l2, q_l3, q_l4, q_l5, q_l6, q_l8, q_l9, q_l10, q_l12, q_l17, q_l32, q_l35, q_l48, q_l50, q_l54, q_l57, q_l64, q_l73, q_l118, q_l119, q_l120, q_l122, q_l126, q_l160, q_l256, q_l365, q_l372, q_l438, q_l1000, q_l100000, q_l1000000, wn, Int.le_refl]
theorem z_invY (h : z_inv σ N R c X L) (hf : z_fy σ τ) : z_inv τ N R c X L := z_invF h (hf.1 192 (by omega)) (hf.1 193 (by omega)) (hf.1 195 (by omega)) (hf.2 3 (by omega)) (hf.2 6 (by omega))
theorem z_checksum (hL : q_lay K) (h : z_inv σ N R c X L) (hν : (w_cn N → ν = 1) ∧ (¬ w_cn N → ν = 0)) (hv1 : ¬ y_cc N → v = y_m1 N ν 18473) (hv2 : y_cc N → ∃ b b' cr p q f1 f2 f3 f, v = y_m2 (w_ne N) b b' (w_Hv N 0 ((2 ^ w_nn N - 1 : Nat) : Int)) (w_Cv N 0) cr p q f (y_m1 N ν 18473) ∧
    w_best (w_Hv N 0 ((2 ^ w_nn N - 1 : Nat) : Int)) (w_pts N 0) b ∧ w_best (w_Cv N 0) (w_pts N 0) b' ∧ cr = w_or (fun i => decide (q_bt ((2 ^ w_nn N - 1 : Nat) : Int) i = true ∧ w_F N 0 b.1 i b.2.1 b.2.2 = w_Hv N 0 ((2 ^ w_nn N - 1 : Nat) : Int) b)) (w_nn N) ∧
    y_gF N 0 f1 f2 f3 ∧ 0 ≤ p ∧ 1 ≤ q ∧ fr p q = f2 (2 ^ w_nn N - 1) ∧ ∀ j, j < 4 * w_ne N → y_cv N (j / 4) 1 ((j % 4 : Nat) : Int) (f j)) : z_OL (m_cl Z 250 [(2, ((191 : Nat) : Int))] (K, σ, 206, e, s)) K e s σ N R c X L 0 (31 * (31 * v + w32 (L : Int)) + w32 (c : Int)) := by
  obtain ⟨σ0, hσ0⟩ : ∃ σ0, σ0 = m_up2 (m_up2 σ 191 4 0) 191 26 18473 := ⟨_, rfl⟩
  have f0 : z_f26 (m_up2 σ 191 4 0) σ0 := by
    rw [hσ0]
    exact ⟨fun a ha => m_up2_ne ha, fun j hj => m_up2_nk hj⟩
  have h00 : z_hs σ0 18473 := by rw [hσ0]; exact m_up2_at
  have i0 : z_inv σ0 N R c X L := z_invY (z_inv4 h) (z_fy_26 f0)
  obtain ⟨σ1, a1, a2, a3, a4⟩ := z_sum0 (Z := Z) (e := e) (s := s) (l2 := (9, 0)) hL i0.1 hν h00
  obtain ⟨σ2, m2, b1, b2, b3⟩ := z_sum1 (Z := Z) (e := e) (s := s) (l2 := (9, 0)) hL a2 a3
  have n2 := z_nF26 a2 b3
  obtain ⟨σ3, m3, c1, c2, c3⟩ := z_sum2 (Z := Z) (e := e) (s := s) (l2 := m2) hL n2 b2
  have n3 := z_nF26 n2 c3
  obtain ⟨σ4, m4, d1, d2, d3⟩ := z_sum3 (Z := Z) (e := e) (s := s) (l2 := m3) hL n3 c2
  have n4 := z_nF26 n3 d3
  have d2 : z_hs σ4 (y_m1 N ν 18473) := d2
  have fy4 : z_fy σ0 σ4 := z_fy_t a4 (z_fy_26 (z_f26_t b3 (z_f26_t c3 d3)))
  obtain ⟨τ, t1, t2, t3, t4⟩ := z_can (Z := Z) (e := e) (s := s) hL n4
  have n10 : ¬ (1 : Int) = 0 := by decide
  have key : ∃ ω, m_run Z (250, 155, [(2, ((191 : Nat) : Int)), (0, (w_ns N : Int)), m4], [], (K, σ4, 206, e, s)) = m_run Z (250, 166, [(2, ((191 : Nat) : Int)), (0, (w_ns N : Int)), m4], [], (K, ω, 206, e, s)) ∧ z_hs ω v ∧ z_fy σ0 ω := by
    by_cases hd : y_cc N
    · obtain ⟨b, b', cr, p, q, f1, f2, f3, f, hv, o1, o2, o3, o4, o5, o6, o7, o8⟩ := hv2 hd
      have hτ : z_hs τ (y_m1 N ν 18473) := (congrFun (t2 191 (by decide)) 26).trans d2
      obtain ⟨ω, w1, w2, w3⟩ := z_mixC (Z := Z) (e := e) (s := s) hL (z_nF n4 (t2 192 (by decide))) t1 hd o1 o2 o3 o4 o5 o6 o7 o8 hτ
      rw [← hv] at w3
      refine ⟨ω, ?_, w3, z_fy_t fy4 (z_fy_t (z_fy_6 t2) w2)⟩
      simp only [b_250_155, b_250_159, b_250_162, ↓reduceIte, Nat.reduceEqDiff, Nat.reduceMul, q_n10, q_n01, Option.bind_some, g_aft0, g_aft1, g_aft2, g_aft3, g_aft9, Nat.reduceAdd, m_kill_0, m_kill_2, m_kill_3, m_kill_4, m_kill_9, true_or, or_true, q_lm1, q_l0, q_l1, q_l2, q_l3, q_l4, q_l5, q_l6, q_l8, q_l9, q_l10, q_l12, q_l17, q_l32, q_l35, q_l48, q_l50, q_l54, q_l57, q_l64, q_l73, q_l118, q_l119, q_l120, q_l122, q_l126, q_l160, q_l256, q_l365, q_l372, q_l438, q_l1000, q_l100000, q_l1000000, q_modF hL.2.2.2.2.2.2.1, t3 hd, n10, w1]
    · obtain ⟨τ', u1, u2⟩ := t4 hd
      have hτ : z_hs τ' (y_m1 N ν 18473) := (congrFun (u1 191 (by decide)) 26).trans d2
      rw [← hv1 hd] at hτ
      refine ⟨τ', ?_, hτ, z_fy_t fy4 (z_fy_6 u1)⟩
      simp only [b_250_155, b_250_159, ↓reduceIte, Nat.reduceEqDiff, Nat.reduceMul, q_n10, q_n01, Option.bind_some, g_aft0, g_aft1, g_aft2, g_aft3, g_aft9, Nat.reduceAdd, m_kill_0, m_kill_2, m_kill_3, m_kill_4, m_kill_9, true_or, or_true, q_lm1, q_l0, q_l1, q_l2, q_l3, q_l4, q_l5, q_l6, q_l8, q_l9, q_l10, q_l12, q_l17, q_l32, q_l35, q_l48, q_l50, q_l54, q_l57, q_l64, q_l73, q_l118, q_l119, q_l120, q_l122, q_l126, q_l160, q_l256, q_l365, q_l372, q_l438, q_l1000, q_l100000, q_l1000000, q_modF hL.2.2.2.2.2.2.1, u2]
  obtain ⟨ω, k1, k2, k3⟩ := key
  obtain ⟨ρ, r1, r2, r3⟩ := z_mix (Z := Z) (e := e) (s := s) (x := w32 (L : Int)) hL k2
  obtain ⟨φ, p1, p2, p3⟩ := z_mix (Z := Z) (e := e) (s := s) (x := w32 (c : Int)) hL r2
  have l6 : ω 191 6 = (L : Int) := (k3.2 6 (by decide)).trans i0.2.2.1
  have l3 : ρ 191 3 = (c : Int) := (r3.2 3 (by decide)).trans ((k3.2 3 (by decide)).trans i0.2.1.1)
  have fyF : z_fy σ0 φ := z_fy_t k3 (z_fy_26 (z_f26_t r3 p3))
  have l4 : φ 191 4 = 0 := (fyF.2 4 (by decide)).trans ((f0.2 4 (by decide)).trans m_up2_at)
  have l26 : φ 191 26 = 31 * (31 * v + w32 (L : Int)) + w32 (c : Int) := p2
  refine ⟨φ, ?_, l4, z_invY i0 fyF, fun a ha => ?_⟩
  · rw [← l26]
    simp only [e_250, b_250_0, ↓reduceIte, Nat.reduceEqDiff, Nat.reduceMul, q_n10, q_n01, Option.bind_some, g_aft0, g_aft1, g_aft2, g_aft3, g_aft9, Nat.reduceAdd, m_kill_0, m_kill_2, m_kill_3, m_kill_4, m_kill_9, true_or, or_true, q_lm1, q_l0, q_l1, q_l2, q_l3, q_l4, q_l5, q_l6, q_l8, q_l9, q_l10, q_l12, q_l17, q_l32, q_l35, q_l48, q_l50, q_l54, q_l57, q_l64, q_l73, q_l118, q_l119, q_l120, q_l122, q_l126, q_l160, q_l256, q_l365, q_l372, q_l438, q_l1000, q_l100000, q_l1000000, q_modF hL.2.2.2.2.2.2.1]
    rw [← hσ0]
    refine Eq.trans a1 ?_
    simp only [b_250_35, ↓reduceIte, Nat.reduceEqDiff, Nat.reduceMul, q_n10, q_n01, Option.bind_some, g_aft0, g_aft1, g_aft2, g_aft3, g_aft9, Nat.reduceAdd, m_kill_0, m_kill_2, m_kill_3, m_kill_4, m_kill_9, true_or, or_true, q_lm1, q_l0, q_l1, q_l2, q_l3, q_l4, q_l5, q_l6, q_l8, q_l9, q_l10, q_l12, q_l17, q_l32, q_l35, q_l48, q_l50, q_l54, q_l57, q_l64, q_l73, q_l118, q_l119, q_l120, q_l122, q_l126, q_l160, q_l256, q_l365, q_l372, q_l438, q_l1000, q_l100000, q_l1000000, q_modF hL.2.2.2.2.2.2.1]
    refine Eq.trans b1 ?_
    simp only [b_250_75, ↓reduceIte, Nat.reduceEqDiff, Nat.reduceMul, q_n10, q_n01, Option.bind_some, g_aft0, g_aft1, g_aft2, g_aft3, g_aft9, Nat.reduceAdd, m_kill_0, m_kill_2, m_kill_3, m_kill_4, m_kill_9, true_or, or_true, q_lm1, q_l0, q_l1, q_l2, q_l3, q_l4, q_l5, q_l6, q_l8, q_l9, q_l10, q_l12, q_l17, q_l32, q_l35, q_l48, q_l50, q_l54, q_l57, q_l64, q_l73, q_l118, q_l119, q_l120, q_l122, q_l126, q_l160, q_l256, q_l365, q_l372, q_l438, q_l1000, q_l100000, q_l1000000, q_modF hL.2.2.2.2.2.2.1]
    refine Eq.trans c1 ?_
    simp only [b_250_115, ↓reduceIte, Nat.reduceEqDiff, Nat.reduceMul, q_n10, q_n01, Option.bind_some, g_aft0, g_aft1, g_aft2, g_aft3, g_aft9, Nat.reduceAdd, m_kill_0, m_kill_2, m_kill_3, m_kill_4, m_kill_9, true_or, or_true, q_lm1, q_l0, q_l1, q_l2, q_l3, q_l4, q_l5, q_l6, q_l8, q_l9, q_l10, q_l12, q_l17, q_l32, q_l35, q_l48, q_l50, q_l54, q_l57, q_l64, q_l73, q_l118, q_l119, q_l120, q_l122, q_l126, q_l160, q_l256, q_l365, q_l372, q_l438, q_l1000, q_l100000, q_l1000000, q_modF hL.2.2.2.2.2.2.1]
    refine Eq.trans d1 ?_
    refine Eq.trans k1 ?_
    simp only [b_250_166, b_250_175, b_250_184, ↓reduceIte, Nat.reduceEqDiff, Nat.reduceMul, q_n10, q_n01, Option.bind_some, g_aft0, g_aft1, g_aft2, g_aft3, g_aft9, Nat.reduceAdd, m_kill_0, m_kill_2, m_kill_3, m_kill_4, m_kill_9, true_or, or_true, q_lm1, q_l0, q_l1, q_l2, q_l3, q_l4, q_l5, q_l6, q_l8, q_l9, q_l10, q_l12, q_l17, q_l32, q_l35, q_l48, q_l50, q_l54, q_l57, q_l64, q_l73, q_l118, q_l119, q_l120, q_l122, q_l126, q_l160, q_l256, q_l365, q_l372, q_l438, q_l1000, q_l100000, q_l1000000, q_modF hL.2.2.2.2.2.2.1, l6, r1, l3, p1]
  · rw [fyF.1 a (by omega), f0.1 a (by omega), m_up2_ne (by omega)]
end
end
