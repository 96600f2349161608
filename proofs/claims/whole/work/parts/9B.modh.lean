section
/-! The model: the best of all crossings. -/
def z_ft (σ τ : Nat → Nat → Int) : Prop := (∀ a, a ≠ 191 → τ a = σ a) ∧ ∀ j, j < 12 ∨ 15 < j → τ 191 j = σ 191 j
def z_fb (σ τ : Nat → Nat → Int) : Prop := (∀ a, a ≠ 191 → a ≠ 198 → a ≠ 199 → τ a = σ a) ∧ ∀ j, j < 9 ∨ 15 < j → τ 191 j = σ 191 j
theorem z_fb_r {σ : Nat → Nat → Int} : z_fb σ σ := ⟨fun _ _ _ _ => rfl, fun _ _ => rfl⟩
theorem z_fb_t {σ τ ρ : Nat → Nat → Int} (h : z_fb σ τ) (h2 : z_fb τ ρ) : z_fb σ ρ := ⟨fun a h3 h4 h5 => (h2.1 a h3 h4 h5).trans (h.1 a h3 h4 h5), fun j h3 => (h2.2 j h3).trans (h.2 j h3)⟩
theorem z_fb_9 {σ τ : Nat → Nat → Int} (h : z_f9 σ τ) : z_fb σ τ := ⟨h.1, fun j hj => h.2 j (by omega)⟩
theorem z_fb_f {σ τ : Nat → Nat → Int} (h : z_ft σ τ) : z_fb σ τ := ⟨fun a h1 _ _ => h.1 a h1, fun j hj => h.2 j (by omega)⟩
theorem z_surB {σ τ N : Nat → Nat → Int} {t : Int} (h : z_sur σ N t) (hf : z_fb σ τ) : z_sur τ N t := z_surF h (fun a ha => hf.1 a (by omega) (by omega) (by omega))
theorem z_xlf {σ τ : Nat → Nat → Int} {L : List (Int × Int)} (h : z_xl σ L) (hf : z_ft σ τ) : z_xl τ L := ⟨(hf.2 9 (by omega)).trans h.1, fun i hi => by rw [hf.1 198 (by omega), hf.1 199 (by omega)]; exact h.2 i hi⟩
def z_bs (σ : Nat → Nat → Int) (V : wP → Int) (L : List wP) : Prop := (L = [] ∧ σ 191 12 = -1) ∨ ∃ b, b ∈ L ∧ σ 191 12 = (b.1 : Int) ∧ σ 191 13 = b.2.1 ∧ σ 191 14 = b.2.2 ∧ σ 191 15 = V b ∧ ∀ y, y ∈ L → ¬ w_pl V y b
theorem z_bs9 {σ τ : Nat → Nat → Int} {V : wP → Int} {L : List wP} (h : z_bs σ V L) (hf : z_f9 σ τ) : z_bs τ V L := by
  unfold z_bs at *
  rw [hf.2 12 (by omega), hf.2 13 (by omega), hf.2 14 (by omega), hf.2 15 (by omega)]
  exact h
def z_pe (N : Nat → Nat → Int) (t S : Int) (g : Nat) : List wP := q_cat (fun k => w_ap N g ((z_xs N t S g).getD k (0, 0)).1 ((z_xs N t S g).getD k (0, 0)).2) (z_xs N t S g).length
def z_ps (N : Nat → Nat → Int) (t S : Int) : List wP := q_cat (z_pe N t S) (w_ne N)
theorem z_pe_mem {N : Nat → Nat → Int} {t S : Int} {g : Nat} {y : wP} : y ∈ z_pe N t S g ↔ y.1 = g ∧ y.2 ∈ z_xs N t S g ∧ w_al N g y.2.1 y.2.2 = true := by
  unfold z_pe
  rw [q_cat_mem]
  constructor
  · rintro ⟨i, hi, h⟩
    obtain ⟨rfl, h2⟩ := w_ap_mem.mp h
    exact ⟨rfl, getD_mem hi, h2⟩
  · rintro ⟨h1, h2, h3⟩
    obtain ⟨i, hi, he⟩ := getD_ex (d := (0, 0)) h2
    refine ⟨i, hi, w_ap_mem.mpr ?_⟩
    rw [he]
    obtain ⟨y1, y2, y3⟩ := y
    dsimp only at h1 h3 ⊢
    rw [h1]
    exact ⟨rfl, h3⟩
theorem z_ps_mem {N : Nat → Nat → Int} {t S : Int} {y : wP} : y ∈ z_ps N t S ↔ y.1 < w_ne N ∧ y.2 ∈ z_xs N t S y.1 ∧ w_al N y.1 y.2.1 y.2.2 = true := by
  unfold z_ps
  rw [q_cat_mem]
  constructor
  · rintro ⟨g, hg, h⟩
    obtain ⟨h1, h2, h3⟩ := z_pe_mem.mp h
    rw [h1]
    exact ⟨hg, h2, h3⟩
  · rintro ⟨h1, h2, h3⟩
    exact ⟨y.1, h1, z_pe_mem.mpr ⟨rfl, h2, h3⟩⟩
section
variable {Z : mZ} {K : Nat → mK} {σ τ N M : Nat → Nat → Int} {e g i L n c k s a b : Nat} {t p q v x y z w u S : Int} {X : Nat → Int} {h : mH} {R : Nat → Nat → Nat → Int} {T : Nat → Int}
theorem z_c1_mem {x : Int × Int} : x ∈ z_c1 N g p q ↔ x = (z_by q * p, z_by q * q) ∧ q ≠ 0 ∧ 0 ≤ z_by q * p ∧ z_by q * p ≤ z_by q * q * N 10 g := by
  unfold z_c1
  by_cases c : q ≠ 0 ∧ 0 ≤ z_by q * p ∧ z_by q * p ≤ z_by q * q * N 10 g
  · rw [if_pos c, List.mem_singleton]
    exact ⟨fun e => ⟨e, c⟩, fun e => e.1⟩
  · rw [if_neg c]
    exact ⟨fun e => absurd e List.not_mem_nil, fun e => absurd e.2 c⟩
theorem z_byq (h : q ≠ 0) : 0 < z_by q * q ∧ (z_by q = 1 ∨ z_by q = -1) ∧ (z_by q * q = q ∨ z_by q * q = -q) := by
  unfold z_by
  by_cases c : q < 0
  · rw [if_pos c]; omega
  · rw [if_neg c]; omega
theorem z_c1_ok {x : Int × Int} (hx : x ∈ z_c1 N g p q) (h1 : -198 ≤ q) (h2 : q ≤ 198) (ht : 0 ≤ t) (ht2 : t ≤ 10) : w_pq N t g x.1 x.2 := by
  obtain ⟨rfl, h3, h4, h5⟩ := z_c1_mem.mp hx
  obtain ⟨b1, -, b3⟩ := z_byq h3
  have m := q_mb (show 0 ≤ 9 + 9 * t by omega) (show 9 + 9 * t ≤ 99 by omega) (show 0 ≤ z_by q * q by omega) (show z_by q * q ≤ 198 by omega)
  refine ⟨b1, by show z_by q * q ≤ 1000; omega, by show (9 + 9 * t) * (z_by q * q) ≤ 19602; omega, ht, h4, ?_⟩
  show z_by q * p ≤ N 10 g * (z_by q * q)
  rw [Int.mul_comm (N 10 g)]
  exact h5
theorem z_xs_ok (hw : q_wf N) (hc : w_cn N) (hg : g < w_ne N) (ht : 0 ≤ t) (ht2 : t ≤ 10) {x : Int × Int} (hx : x ∈ z_xs N t S g) : w_pq N t g x.1 x.2 := by
  unfold z_xs at hx
  rcases List.mem_append.mp hx with hx | hx
  · rcases List.mem_append.mp hx with hx | hx
    · rcases List.mem_append.mp hx with hx | hx
      · exact z_c1_ok hx (by decide) (by decide) ht ht2
      · exact z_c1_ok hx (by decide) (by decide) ht ht2
    · obtain ⟨i, hi, hx⟩ := q_cat_mem.mp hx
      unfold z_ci at hx
      rcases List.mem_append.mp hx with hx | hx
      · split at hx
        · exact z_c1_ok hx (by decide) (by decide) ht ht2
        · exact absurd hx List.not_mem_nil
      · obtain ⟨j, hj, hx⟩ := q_cat_mem.mp hx
        try dsimp only at hx
        split at hx
        · obtain ⟨k, hk, hx⟩ := q_cat_mem.mp hx
          have b1 := w_lb hw hc hg ht ht2 (l := 2 * i + k % 2) (by omega)
          have b2 := w_lb hw hc hg ht ht2 (l := 2 * j + k / 2) (by omega)
          exact z_c1_ok hx (by omega) (by omega) ht ht2
        · exact absurd hx List.not_mem_nil
  · obtain ⟨k, hk, hx⟩ := q_cat_mem.mp hx
    unfold z_cs at hx
    split at hx
    · rcases List.mem_append.mp hx with hx | hx
      · exact z_c1_ok hx (by decide) (by decide) ht ht2
      · exact z_c1_ok hx (by decide) (by decide) ht ht2
    · exact absurd hx List.not_mem_nil
theorem z_xs_len (hw : q_wf N) : (z_xs N t S g).length ≤ 134 := by
  have h1 := z_ci_lens (N := N) (t := t) (S := S) (g := g) (w_nn N) (wf_n hw).2.2
  have h2 := z_cs_lens (N := N) (g := g) (w_ns N)
  have h3 := (wf_s hw).2
  have a1 := z_c1_len (N := N) (g := g) (p := 0) (q := 1)
  have a2 := z_c1_len (N := N) (g := g) (p := N 10 g) (q := 1)
  unfold z_xs
  rw [List.length_append, List.length_append, List.length_append]
  omega
theorem z_up4 {x1 x2 x3 x4 : Int} : z_ft σ (m_up2 (m_up2 (m_up2 (m_up2 σ 191 12 x1) 191 13 x2) 191 14 x3) 191 15 x4) := ⟨fun a h1 => by rw [m_up2_ne h1, m_up2_ne h1, m_up2_ne h1, m_up2_ne h1], fun j hj => by rw [m_up2_nk (by omega), m_up2_nk (by omega), m_up2_nk (by omega), m_up2_nk (by omega)]⟩
theorem z_up4v {x1 x2 x3 x4 : Int} : m_up2 (m_up2 (m_up2 (m_up2 σ 191 12 x1) 191 13 x2) 191 14 x3) 191 15 x4 191 12 = x1 ∧ m_up2 (m_up2 (m_up2 (m_up2 σ 191 12 x1) 191 13 x2) 191 14 x3) 191 15 x4 191 13 = x2 ∧ m_up2 (m_up2 (m_up2 (m_up2 σ 191 12 x1) 191 13 x2) 191 14 x3) 191 15 x4 191 14 = x3 ∧ m_up2 (m_up2 (m_up2 (m_up2 σ 191 12 x1) 191 13 x2) 191 14 x3) 191 15 x4 191 15 = x4 := ⟨rfl, rfl, rfl, rfl⟩
theorem z_tries {V : wP → Int} {L : List wP} (hL : q_lay K) (hB : z_bs σ V L) (ho : ∀ y, y ∈ L → y.1 ≤ g ∧ w_pb (y.1 : Int) y.2.1 y.2.2 (V y)) (hn : w_pb (g : Int) p q v) (hv : V (g, p, q) = v) : ∃ τ, m_cl Z 208 [(2, ((191 : Nat) : Int)), (0, (g : Int)), (1, p), (1, q), (1, v)] (K, σ, 206, e, s) = some (.inl (9, 0), (K, τ, 206, e, s)) ∧ z_bs τ V (L ++ [(g, p, q)]) ∧ z_ft σ τ := by
  obtain ⟨n1, n2, n3, n4, n5, n6, n7, n8⟩ := id hn
  rcases hB with ⟨rfl, h12⟩ | ⟨b, hb, h12, h13, h14, h15, hmin⟩
  · refine ⟨_, ?_, Or.inr ⟨(g, p, q), List.mem_append_right _ (List.mem_singleton.mpr rfl), z_up4v.1, z_up4v.2.1, z_up4v.2.2.1, z_up4v.2.2.2.trans hv.symm, ?_⟩, z_up4⟩
    · simp only [e_208, b_208_0, b_208_8, b_208_26, b_208_44, b_208_52, b_208_69, b_208_73, b_208_74, b_208_81, b_208_103, ↓reduceIte, Nat.reduceEqDiff, Nat.reduceMul, q_n10, q_n01, Option.bind_some, g_aft0, g_aft1, g_aft2, g_aft3, g_aft9, Nat.reduceAdd, m_kill_0, m_kill_2, m_kill_3, m_kill_4, m_kill_9, true_or, or_true, q_lm1, q_l0, q_l1, q_l2, q_l3, q_l4, q_l5, q_l6, q_l8, q_l9, q_l10, q_l12, q_l17, q_l32, q_l35, q_l48, q_l50, q_l54, q_l57, q_l64, q_l73, q_l118, q_l119, q_l120, q_l122, q_l126, q_l160, q_l256, q_l365, q_l372, q_l438, q_l1000, q_l100000, q_l1000000, q_modF hL.2.2.2.2.2.2.1, h12]
    · intro y hy
      rw [List.nil_append, List.mem_singleton] at hy
      subst hy
      exact w_lx_irr
  · obtain ⟨o1, a1, a2, a3, a4, a5, a6, a7, a8⟩ := ho b hb
    have wb : w32 (b.1 : Int) = (b.1 : Int) := q_wi (by omega) (by omega)
    have wg : w32 (g : Int) = (g : Int) := by clear wb; exact q_wi (by omega) (by omega)
    have wm : w32 (-1) = -1 := by decide
    have c0 : ¬ (b.1 : Int) = -1 := by clear wb wg wm; omega
    have m1 := q_mb n7 n8 (show 0 ≤ b.2.2 by clear wb wg wm; omega) a6
    have m2 := q_mb a7 a8 (show 0 ≤ q by clear wb wg wm; omega) n6
    have m3 := q_mb n3 n4 (show 0 ≤ b.2.2 by clear wb wg wm; omega) a6
    have m4 := q_mb a3 a4 (show 0 ≤ q by clear wb wg wm; omega) n6
    have w1 : w64 (v * b.2.2) = v * b.2.2 := by clear wb wg wm; exact q_w64 (by omega) (by omega)
    have w2 : w64 (V b * q) = V b * q := by clear wb wg wm w1; exact q_w64 (by omega) (by omega)
    have w3 : w64 (p * b.2.2) = p * b.2.2 := by clear wb wg wm w1 w2; exact q_w64 (by omega) (by omega)
    have w4 : w64 (b.2.1 * q) = b.2.1 * q := by clear wb wg wm w1 w2 w3; exact q_w64 (by omega) (by omega)
    have hc1 : (w32 (l_cmp (v * b.2.2) (V b * q)) < 0) = (v * b.2.2 < V b * q) := l_cl w1 w2
    have hc2 : (w32 (l_cmp (v * b.2.2) (V b * q)) = 0) = (v * b.2.2 = V b * q) := l_ce w1 w2
    have hc3 : (0 ≤ w32 (l_cmp (p * b.2.2) (b.2.1 * q))) = (b.2.1 * q ≤ p * b.2.2) := l_cge w3 w4
    have he := w_pl_iff (V := V) (x := (g, p, q)) (y := b) (by show 0 < q; clear wb wg wm w1 w2 w3 w4 hc1 hc2 hc3; omega) (by clear wb wg wm w1 w2 w3 w4 hc1 hc2 hc3; omega)
    rw [hv] at he
    dsimp only at he
    clear w1 w2 w3 w4
    -- the new one is better, or isn't
    have yes : w_pl V (g, p, q) b → z_bs (m_up2 (m_up2 (m_up2 (m_up2 σ 191 12 (g : Int)) 191 13 p) 191 14 q) 191 15 v) V (L ++ [(g, p, q)]) := by
      intro hp
      refine Or.inr ⟨(g, p, q), List.mem_append_right _ (List.mem_singleton.mpr rfl), z_up4v.1, z_up4v.2.1, z_up4v.2.2.1, z_up4v.2.2.2.trans hv.symm, ?_⟩
      intro y hy
      rcases List.mem_append.mp hy with hy | hy
      · exact fun q => hmin y hy (w_lx_tr q hp)
      · rw [List.mem_singleton] at hy
        subst hy
        exact w_lx_irr
    have no : ¬ w_pl V (g, p, q) b → z_bs σ V (L ++ [(g, p, q)]) := by
      intro hp
      refine Or.inr ⟨b, List.mem_append_left _ hb, h12, h13, h14, h15, ?_⟩
      intro y hy
      rcases List.mem_append.mp hy with hy | hy
      · exact hmin y hy
      · rw [List.mem_singleton] at hy
        subst hy
        exact hp
    have T1 := fun c => hc1.trans (eq_true c)
    have F1 := fun c => hc1.trans (eq_false c)
    have T2 := fun c => hc2.trans (eq_true c)
    have F2 := fun c => hc2.trans (eq_false c)
    have T4 := fun c => hc3.trans (eq_true c)
    have F4 := fun c => hc3.trans (eq_false c)
    by_cases c1 : v * b.2.2 < V b * q
    · refine ⟨_, ?_, yes (he.mpr (Or.inl c1)), z_up4⟩
      simp only [e_208, b_208_0, b_208_8, b_208_26, b_208_44, b_208_52, b_208_69, b_208_73, b_208_74, b_208_81, b_208_103, ↓reduceIte, Nat.reduceEqDiff, Nat.reduceMul, q_n10, q_n01, Option.bind_some, g_aft0, g_aft1, g_aft2, g_aft3, g_aft9, Nat.reduceAdd, m_kill_0, m_kill_2, m_kill_3, m_kill_4, m_kill_9, true_or, or_true, q_lm1, q_l0, q_l1, q_l2, q_l3, q_l4, q_l5, q_l6, q_l8, q_l9, q_l10, q_l12, q_l17, q_l32, q_l35, q_l48, q_l50, q_l54, q_l57, q_l64, q_l73, q_l118, q_l119, q_l120, q_l122, q_l126, q_l160, q_l256, q_l365, q_l372, q_l438, q_l1000, q_l100000, q_l1000000, q_modF hL.2.2.2.2.2.2.1, h12, h14, h15, wb, wm, c0, T1 c1]
    · by_cases c2 : v * b.2.2 = V b * q
      · by_cases c3 : (g : Int) = (b.1 : Int)
        · have c3' := eq_true c3
          by_cases c4 : b.2.1 * q ≤ p * b.2.2
          · refine ⟨σ, ?_, no (fun q => ?_), fun _ _ => rfl, fun _ _ => rfl⟩
            · simp only [e_208, b_208_0, b_208_8, b_208_26, b_208_44, b_208_52, b_208_69, b_208_73, b_208_74, b_208_81, b_208_103, ↓reduceIte, Nat.reduceEqDiff, Nat.reduceMul, q_n10, q_n01, Option.bind_some, g_aft0, g_aft1, g_aft2, g_aft3, g_aft9, Nat.reduceAdd, m_kill_0, m_kill_2, m_kill_3, m_kill_4, m_kill_9, true_or, or_true, q_lm1, q_l0, q_l1, q_l2, q_l3, q_l4, q_l5, q_l6, q_l8, q_l9, q_l10, q_l12, q_l17, q_l32, q_l35, q_l48, q_l50, q_l54, q_l57, q_l64, q_l73, q_l118, q_l119, q_l120, q_l122, q_l126, q_l160, q_l256, q_l365, q_l372, q_l438, q_l1000, q_l100000, q_l1000000, q_modF hL.2.2.2.2.2.2.1, h12, h13, h14, h15, wb, wg, wm, c0, F1 c1, T2 c2, c3', T4 c4]
            · have := he.mp q
              clear wb wg wm hc1 hc2 hc3; omega
          · refine ⟨_, ?_, yes (he.mpr (Or.inr ⟨c2, Or.inr ⟨by clear wb wg wm hc1 hc2 hc3; omega, by clear wb wg wm hc1 hc2 hc3; omega⟩⟩)), z_up4⟩
            simp only [e_208, b_208_0, b_208_8, b_208_26, b_208_44, b_208_52, b_208_69, b_208_73, b_208_74, b_208_81, b_208_103, ↓reduceIte, Nat.reduceEqDiff, Nat.reduceMul, q_n10, q_n01, Option.bind_some, g_aft0, g_aft1, g_aft2, g_aft3, g_aft9, Nat.reduceAdd, m_kill_0, m_kill_2, m_kill_3, m_kill_4, m_kill_9, true_or, or_true, q_lm1, q_l0, q_l1, q_l2, q_l3, q_l4, q_l5, q_l6, q_l8, q_l9, q_l10, q_l12, q_l17, q_l32, q_l35, q_l48, q_l50, q_l54, q_l57, q_l64, q_l73, q_l118, q_l119, q_l120, q_l122, q_l126, q_l160, q_l256, q_l365, q_l372, q_l438, q_l1000, q_l100000, q_l1000000, q_modF hL.2.2.2.2.2.2.1, h12, h13, h14, h15, wb, wg, wm, c0, F1 c1, T2 c2, c3', F4 c4]
        · refine ⟨σ, ?_, no (fun q => ?_), fun _ _ => rfl, fun _ _ => rfl⟩
          · simp only [e_208, b_208_0, b_208_8, b_208_26, b_208_44, b_208_52, b_208_69, b_208_73, b_208_74, b_208_81, b_208_103, ↓reduceIte, Nat.reduceEqDiff, Nat.reduceMul, q_n10, q_n01, Option.bind_some, g_aft0, g_aft1, g_aft2, g_aft3, g_aft9, Nat.reduceAdd, m_kill_0, m_kill_2, m_kill_3, m_kill_4, m_kill_9, true_or, or_true, q_lm1, q_l0, q_l1, q_l2, q_l3, q_l4, q_l5, q_l6, q_l8, q_l9, q_l10, q_l12, q_l17, q_l32, q_l35, q_l48, q_l50, q_l54, q_l57, q_l64, q_l73, q_l118, q_l119, q_l120, q_l122, q_l126, q_l160, q_l256, q_l365, q_l372, q_l438, q_l1000, q_l100000, q_l1000000, q_modF hL.2.2.2.2.2.2.1, h12, h13, h14, h15, wb, wg, wm, c0, F1 c1, T2 c2, c3]
          · have := he.mp q
            clear wb wg wm hc1 hc2 hc3; omega
      · refine ⟨σ, ?_, no (fun q => ?_), fun _ _ => rfl, fun _ _ => rfl⟩
        · simp only [e_208, b_208_0, b_208_8, b_208_26, b_208_44, b_208_52, b_208_69, b_208_73, b_208_74, b_208_81, b_208_103, ↓reduceIte, Nat.reduceEqDiff, Nat.reduceMul, q_n10, q_n01, Option.bind_some, g_aft0, g_aft1, g_aft2, g_aft3, g_aft9, Nat.reduceAdd, m_kill_0, m_kill_2, m_kill_3, m_kill_4, m_kill_9, true_or, or_true, q_lm1, q_l0, q_l1, q_l2, q_l3, q_l4, q_l5, q_l6, q_l8, q_l9, q_l10, q_l12, q_l17, q_l32, q_l35, q_l48, q_l50, q_l54, q_l57, q_l64, q_l73, q_l118, q_l119, q_l120, q_l122, q_l126, q_l160, q_l256, q_l365, q_l372, q_l438, q_l1000, q_l100000, q_l1000000, q_modF hL.2.2.2.2.2.2.1, h12, h13, h14, h15, wb, wg, wm, c0, F1 c1, F2 c2]
        · have := he.mp q
          clear wb wg wm hc1 hc2 hc3; omega
end
end
