section
/-! The model's calls: radiusWithout, type, clearText. -/
section
variable {Z : mZ} {K : Nat → mK} {σ τ N M : Nat → Nat → Int} {e g i L n c k s a : Nat} {t p q v x y z w u S : Int} {X : Nat → Int} {h : mH} {R : Nat → Nat → Nat → Int} {T : Nat → Int} {f1 f2 : Nat → Rat} {f3 b : Rat}
/-- a loop that copies the network's row -/
theorem z_back {l1 l2 : mV} (hL : q_lay K) : m_run Z (236, 109, [(2, ((191 : Nat) : Int)), l1, l2, (0, v), (0, ((0 : Nat) : Int))], [], (K, σ, 206, e, s)) = some (.inl (0, v), (K, q_fill σ 192 73 (fun j => σ 194 j), 206, e, s)) := by
  have w73 : w32 73 = 73 := by decide
  have lp := q_loopf (Z := Z) (N := 73) (S := fun i => (236, 109, [(2, ((191 : Nat) : Int)), l1, l2, (0, v), (0, (i : Int))], [], (K, q_fill σ 192 i (fun j => σ 194 j), 206, e, s))) (by
    intro i hi
    have wi : w32 (i : Int) = (i : Int) := q_w (by clear w73; omega)
    have c0 : ¬ (73 : Int) ≤ (i : Int) := by clear w73 wi; omega
    have p0 : 0 ≤ (i : Int) := by clear w73 wi; omega
    have p1 : (i : Int) < ((73 : Nat) : Int) := by clear w73 wi; omega
    have tn : ((i : Int)).toNat = i := rfl
    have ei : ((i + 1 : Nat) : Int) = (i : Int) + 1 := rfl
    have hv : q_fill σ 192 i (fun j => σ 194 j) 194 i = σ 194 i := by rw [q_fill_ne (by omega)]
    rw [ei, ← q_fill_s σ 192 i]
    conv => lhs; simp only [b_236_109, ↓reduceIte, Nat.reduceEqDiff, Nat.reduceMul, q_n10, q_n01, Option.bind_some, g_aft0, g_aft1, g_aft2, g_aft3, g_aft9, Nat.reduceAdd, m_kill_0, m_kill_2, m_kill_3, m_kill_4, m_kill_9, true_or, or_true, q_lm1, q_l0, q_l1, q_l2, q_l3, q_l4, q_l5, q_l6, q_l8, q_l9, q_l10, q_l12, q_l17, q_l32, q_l35, q_l48, q_l50, q_l54, q_l57, q_l64, q_l73, q_l118, q_l119, q_l120, q_l122, q_l126, q_l160, q_l256, q_l365, q_l372, q_l438, q_l1000, q_l100000, q_l1000000, wi, w73, c0]
    simp only [b_236_116, ↓reduceIte, Nat.reduceEqDiff, Nat.reduceMul, q_n10, q_n01, Option.bind_some, g_aft0, g_aft1, g_aft2, g_aft3, g_aft9, Nat.reduceAdd, m_kill_0, m_kill_2, m_kill_3, m_kill_4, m_kill_9, true_or, or_true, q_lm1, q_l0, q_l1, q_l2, q_l3, q_l4, q_l5, q_l6, q_l8, q_l9, q_l10, q_l12, q_l17, q_l32, q_l35, q_l48, q_l50, q_l54, q_l57, q_l64, q_l73, q_l118, q_l119, q_l120, q_l122, q_l126, q_l160, q_l256, q_l365, q_l372, q_l438, q_l1000, q_l100000, q_l1000000, q_modF hL.2.2.2.2.2.2.1, wi, p0, p1, tn, hv])
  have e0 : q_fill σ 192 0 (fun j => σ 194 j) = σ := q_fill_0 _ _ _
  rw [e0] at lp
  refine Eq.trans lp ?_
  have w73' : w32 ((73 : Nat) : Int) = 73 := by decide
  conv => lhs; simp only [b_236_109, ↓reduceIte, Nat.reduceEqDiff, Nat.reduceMul, q_n10, q_n01, Option.bind_some, g_aft0, g_aft1, g_aft2, g_aft3, g_aft9, Nat.reduceAdd, m_kill_0, m_kill_2, m_kill_3, m_kill_4, m_kill_9, true_or, or_true, q_lm1, q_l0, q_l1, q_l2, q_l3, q_l4, q_l5, q_l6, q_l8, q_l9, q_l10, q_l12, q_l17, q_l32, q_l35, q_l48, q_l50, q_l54, q_l57, q_l64, q_l73, q_l118, q_l119, q_l120, q_l122, q_l126, q_l160, q_l256, q_l365, q_l372, q_l438, q_l1000, q_l100000, q_l1000000, w73, w73', Int.le_refl]
  rw [b_236_136]
theorem z_keep {l1 l4 : mV} (hL : q_lay K) : m_run Z (236, 35, [(2, ((191 : Nat) : Int)), l1, (0, y), (9, 0), l4], [], (K, σ, 206, e, s)) = m_run Z (236, 61, [(2, ((191 : Nat) : Int)), l1, (0, y), (0, ((73 : Nat) : Int)), l4], [], (K, q_fill σ 194 73 (fun j => σ 192 j), 206, e, s)) := by
  have w73 : w32 73 = 73 := by decide
  have lp := q_loopf (Z := Z) (N := 73) (S := fun i => (236, 37, [(2, ((191 : Nat) : Int)), l1, (0, y), (0, (i : Int)), l4], [], (K, q_fill σ 194 i (fun j => σ 192 j), 206, e, s))) (by
    intro i hi
    have wi : w32 (i : Int) = (i : Int) := q_w (by clear w73; omega)
    have c0 : ¬ (73 : Int) ≤ (i : Int) := by clear w73 wi; omega
    have p0 : 0 ≤ (i : Int) := by clear w73 wi; omega
    have p1 : (i : Int) < ((73 : Nat) : Int) := by clear w73 wi; omega
    have tn : ((i : Int)).toNat = i := rfl
    have ei : ((i + 1 : Nat) : Int) = (i : Int) + 1 := rfl
    have hv : q_fill σ 194 i (fun j => σ 192 j) 192 i = σ 192 i := by rw [q_fill_ne (by omega)]
    rw [ei, ← q_fill_s σ 194 i]
    conv => lhs; simp only [b_236_37, ↓reduceIte, Nat.reduceEqDiff, Nat.reduceMul, q_n10, q_n01, Option.bind_some, g_aft0, g_aft1, g_aft2, g_aft3, g_aft9, Nat.reduceAdd, m_kill_0, m_kill_2, m_kill_3, m_kill_4, m_kill_9, true_or, or_true, q_lm1, q_l0, q_l1, q_l2, q_l3, q_l4, q_l5, q_l6, q_l8, q_l9, q_l10, q_l12, q_l17, q_l32, q_l35, q_l48, q_l50, q_l54, q_l57, q_l64, q_l73, q_l118, q_l119, q_l120, q_l122, q_l126, q_l160, q_l256, q_l365, q_l372, q_l438, q_l1000, q_l100000, q_l1000000, wi, w73, c0]
    simp only [b_236_43, ↓reduceIte, Nat.reduceEqDiff, Nat.reduceMul, q_n10, q_n01, Option.bind_some, g_aft0, g_aft1, g_aft2, g_aft3, g_aft9, Nat.reduceAdd, m_kill_0, m_kill_2, m_kill_3, m_kill_4, m_kill_9, true_or, or_true, q_lm1, q_l0, q_l1, q_l2, q_l3, q_l4, q_l5, q_l6, q_l8, q_l9, q_l10, q_l12, q_l17, q_l32, q_l35, q_l48, q_l50, q_l54, q_l57, q_l64, q_l73, q_l118, q_l119, q_l120, q_l122, q_l126, q_l160, q_l256, q_l365, q_l372, q_l438, q_l1000, q_l100000, q_l1000000, q_modF hL.2.2.2.2.2.2.1, wi, p0, p1, tn, hv])
  have e0 : q_fill σ 194 0 (fun j => σ 192 j) = σ := q_fill_0 _ _ _
  rw [e0] at lp
  rw [b_236_35]
  refine Eq.trans lp ?_
  have w73' : w32 ((73 : Nat) : Int) = 73 := by decide
  conv => lhs; simp only [b_236_37, ↓reduceIte, Nat.reduceEqDiff, Nat.reduceMul, q_n10, q_n01, Option.bind_some, g_aft0, g_aft1, g_aft2, g_aft3, g_aft9, Nat.reduceAdd, m_kill_0, m_kill_2, m_kill_3, m_kill_4, m_kill_9, true_or, or_true, q_lm1, q_l0, q_l1, q_l2, q_l3, q_l4, q_l5, q_l6, q_l8, q_l9, q_l10, q_l12, q_l17, q_l32, q_l35, q_l48, q_l50, q_l54, q_l57, q_l64, q_l73, q_l118, q_l119, q_l120, q_l122, q_l126, q_l160, q_l256, q_l365, q_l372, q_l438, q_l1000, q_l100000, q_l1000000, w73, w73', Int.le_refl]
theorem z_without (hL : q_lay K) (h : z_inv σ N R c X L) (hx : w32 x = x) (hy : w32 y = y) :
    (¬ (0 ≤ x ∧ x < N 0 1) → z_O (m_cl Z 236 [(2, ((191 : Nat) : Int)), (0, x), (0, y)] (K, σ, 206, e, s)) K e s σ N R c X L 1 0) ∧
    ((0 ≤ x ∧ x < N 0 1) → ¬ (y = 0 ∨ y = 1) → z_O (m_cl Z 236 [(2, ((191 : Nat) : Int)), (0, x), (0, y)] (K, σ, 206, e, s)) K e s σ N R c X L 2 0) ∧
    ((0 ≤ x ∧ x < N 0 1) → (y = 0 ∨ y = 1) → (¬ y_cc (o_ds x.toNat N) → z_O (m_cl Z 236 [(2, ((191 : Nat) : Int)), (0, x), (0, y)] (K, σ, 206, e, s)) K e s σ N R c X L 0 (-1)) ∧ (y_cc (o_ds x.toNat N) → ∀ b, w_best (w_Hv (o_ds x.toNat N) 0 ((2 ^ w_nn N - 1 : Nat) : Int)) (w_pts (o_ds x.toNat N) 0) b → z_O (m_cl Z 236 [(2, ((191 : Nat) : Int)), (0, x), (0, y)] (K, σ, 206, e, s)) K e s σ N R c X L 0 (w_red (w_Hv (o_ds x.toNat N) 0 ((2 ^ w_nn N - 1 : Nat) : Int) b) b.2.2 y))) := by
  have h1 := z_isEdge (Z := Z) (e := e) (s := s) hL h.1 hx
  have h2 := z_part (Z := Z) (h := (K, σ, 206, e, s)) hy
  have hne := wf_e h.1.1
  have n10 : ¬ (1 : Int) = 0 := by decide
  refine ⟨fun hn => ?_, fun hn hm => ?_, fun hn hm => ?_⟩
  · rw [if_neg hn] at h1
    refine z_no h ?_
    simp only [e_236, b_236_0, b_236_6, b_236_9, b_236_30, b_236_33, ↓reduceIte, Nat.reduceEqDiff, Nat.reduceMul, q_n10, q_n01, Option.bind_some, g_aft0, g_aft1, g_aft2, g_aft3, g_aft9, Nat.reduceAdd, m_kill_0, m_kill_2, m_kill_3, m_kill_4, m_kill_9, true_or, or_true, q_lm1, q_l0, q_l1, q_l2, q_l3, q_l4, q_l5, q_l6, q_l8, q_l9, q_l10, q_l12, q_l17, q_l32, q_l35, q_l48, q_l50, q_l54, q_l57, q_l64, q_l73, q_l118, q_l119, q_l120, q_l122, q_l126, q_l160, q_l256, q_l365, q_l372, q_l438, q_l1000, q_l100000, q_l1000000, q_modF hL.2.2.2.2.2.2.1, h1, z_ref1 hL (x := 1) (by decide) (by decide), n10]
  · rw [if_pos hn] at h1
    rw [if_neg hm] at h2
    refine z_no h ?_
    simp only [e_236, b_236_0, b_236_6, b_236_13, b_236_19, b_236_22, b_236_30, b_236_33, ↓reduceIte, Nat.reduceEqDiff, Nat.reduceMul, q_n10, q_n01, Option.bind_some, g_aft0, g_aft1, g_aft2, g_aft3, g_aft9, Nat.reduceAdd, m_kill_0, m_kill_2, m_kill_3, m_kill_4, m_kill_9, true_or, or_true, q_lm1, q_l0, q_l1, q_l2, q_l3, q_l4, q_l5, q_l6, q_l8, q_l9, q_l10, q_l12, q_l17, q_l32, q_l35, q_l48, q_l50, q_l54, q_l57, q_l64, q_l73, q_l118, q_l119, q_l120, q_l122, q_l126, q_l160, q_l256, q_l365, q_l372, q_l438, q_l1000, q_l100000, q_l1000000, q_modF hL.2.2.2.2.2.2.1, h1, h2, z_ref1 hL (x := 2) (by decide) (by decide), n10]
  · rw [if_pos hn] at h1
    rw [if_pos hm] at h2
    have ex : ((x.toNat : Nat) : Int) = x := by clear hx hy h1 h2; omega
    have hg : x.toNat < w_ne N := by clear hx hy h1 h2; omega
    have hwd := wf_ds h.1.1 hg
    have en : w_nn (o_ds x.toNat N) = w_nn N := by unfold w_nn; rw [ds_00.1]
    obtain ⟨σ1, hσ1⟩ : ∃ σ1, σ1 = q_fill (m_up2 σ 191 4 0) 194 73 (fun j => m_up2 σ 191 4 0 192 j) := ⟨_, rfl⟩
    have s1 : ∀ a, a ≠ 194 → σ1 a = m_up2 σ 191 4 0 a := fun a ha => by rw [hσ1, q_fill_ne ha]
    have s194 : ∀ j, j < 73 → σ1 194 j = σ 192 j := fun j hj => by rw [hσ1, q_fill_at hj, m_up2_ne (by omega)]
    have r1 : z_row (σ1 192) N := by rw [s1 192 (by omega), m_up2_ne (by omega)]; exact h.1.2
    obtain ⟨ω, o1, o2, o3⟩ := z_dropE (Z := Z) (e := e) (s := s) (σ := σ1) hL r1 h.1.1 hg
    rw [ex] at o1
    have hnω : z_n ω (o_ds x.toNat N) := ⟨hwd, o2⟩
    obtain ⟨τ, t1, t2, t3, t4⟩ := z_can (Z := Z) (e := e) (s := s) hL hnω
    have start : m_cl Z 236 [(2, ((191 : Nat) : Int)), (0, x), (0, y)] (K, σ, 206, e, s) = (m_cl Z 216 [(2, ((191 : Nat) : Int))] (K, ω, 206, e, s)).bind (m_aft (m_run Z) 236 70 [(2, ((191 : Nat) : Int)), (0, x), (0, y), (0, (-1)), (9, 0)] []) := by
      simp only [e_236, b_236_0, b_236_6, b_236_13, b_236_19, b_236_26, b_236_27, b_236_30, ↓reduceIte, Nat.reduceEqDiff, Nat.reduceMul, q_n10, q_n01, Option.bind_some, g_aft0, g_aft1, g_aft2, g_aft3, g_aft9, Nat.reduceAdd, m_kill_0, m_kill_2, m_kill_3, m_kill_4, m_kill_9, true_or, or_true, q_lm1, q_l0, q_l1, q_l2, q_l3, q_l4, q_l5, q_l6, q_l8, q_l9, q_l10, q_l12, q_l17, q_l32, q_l35, q_l48, q_l50, q_l54, q_l57, q_l64, q_l73, q_l118, q_l119, q_l120, q_l122, q_l126, q_l160, q_l256, q_l365, q_l372, q_l438, q_l1000, q_l100000, q_l1000000, q_modF hL.2.2.2.2.2.2.1, h1, h2, z_ref0 hL, n10]
      rw [z_keep hL, ← hσ1]
      simp only [b_236_61, b_236_66, ↓reduceIte, Nat.reduceEqDiff, Nat.reduceMul, q_n10, q_n01, Option.bind_some, g_aft0, g_aft1, g_aft2, g_aft3, g_aft9, Nat.reduceAdd, m_kill_0, m_kill_2, m_kill_3, m_kill_4, m_kill_9, true_or, or_true, q_lm1, q_l0, q_l1, q_l2, q_l3, q_l4, q_l5, q_l6, q_l8, q_l9, q_l10, q_l12, q_l17, q_l32, q_l35, q_l48, q_l50, q_l54, q_l57, q_l64, q_l73, q_l118, q_l119, q_l120, q_l122, q_l126, q_l160, q_l256, q_l365, q_l372, q_l438, q_l1000, q_l100000, q_l1000000, q_modF hL.2.2.2.2.2.2.1, o1]
    have w0 : w32 0 = 0 := by decide
    -- what comes back
    have back : ∀ (ρ : Nat → Nat → Int) (v : Int), (∀ a, a ≠ 191 → a ≠ 192 → a < 194 ∨ a = 194 ∨ a = 195 ∨ 205 ≤ a → ρ a = σ1 a) → (∀ j, j < 7 → ρ 191 j = σ1 191 j) → m_run Z (236, 106, [(2, ((191 : Nat) : Int)), (0, x), (0, y), (0, v), (9, 0)], [], (K, ρ, 206, e, s)) = some (.inl (0, v), (K, q_fill ρ 192 73 (fun j => ρ 194 j), 206, e, s)) ∧ (q_fill ρ 192 73 (fun j => ρ 194 j) 191 4 = 0 ∧ z_inv (q_fill ρ 192 73 (fun j => ρ 194 j)) N R c X L ∧ z_fr σ (q_fill ρ 192 73 (fun j => ρ 194 j))) := by
      intro ρ v hρ hρ1
      have f191 : ∀ j, j < 7 → q_fill ρ 192 73 (fun j => ρ 194 j) 191 j = m_up2 σ 191 4 0 191 j := fun j hj => by rw [q_fill_ne (by omega), hρ1 j hj, s1 191 (by omega)]
      refine ⟨?_, ?_, ⟨⟨h.1.1, z_row_congr h.1.1 h.1.2 (fun j hj => ?_)⟩, ⟨?_, h.2.1.2.1, ?_⟩, ?_, h.2.2.2.1, ?_⟩, fun a ha => ?_⟩
      · rw [b_236_106]
        exact z_back hL
      · rw [f191 4 (by omega), m_up2_at]
      · rw [q_fill_at hj, hρ 194 (by omega) (by omega) (by omega), s194 j hj]
      · rw [f191 3 (by omega), m_up2_nk (by omega)]; exact h.2.1.1
      · rw [q_fill_ne (by omega), hρ 193 (by omega) (by omega) (by omega), s1 193 (by omega), m_up2_ne (by omega)]
        exact h.2.1.2.2
      · rw [f191 6 (by omega), m_up2_nk (by omega)]; exact h.2.2.1
      · rw [q_fill_ne (by omega), hρ 195 (by omega) (by omega) (by omega), s1 195 (by omega), m_up2_ne (by omega)]
        exact h.2.2.2.2
      · rw [q_fill_ne (by omega), hρ a (by omega) (by omega) (by omega), s1 a (by omega), m_up2_ne (by omega)]
    constructor
    · intro hd
      obtain ⟨τ', u1, u2⟩ := t4 hd
      obtain ⟨k1, k2, k3, k4⟩ := back τ' (-1) (fun a a1 a2 a3 => by rw [u1 a (by omega), o3 a a2]) (fun j _ => by rw [u1 191 (by omega), o3 191 (by omega)])
      refine ⟨_, ?_, k2, k3, k4⟩
      rw [start, u2]
      conv => lhs; simp only [↓reduceIte, Nat.reduceEqDiff, Nat.reduceMul, q_n10, q_n01, Option.bind_some, g_aft0, g_aft1, g_aft2, g_aft3, g_aft9, Nat.reduceAdd, m_kill_0, m_kill_2, m_kill_3, m_kill_4, m_kill_9, true_or, or_true, q_lm1, q_l0, q_l1, q_l2, q_l3, q_l4, q_l5, q_l6, q_l8, q_l9, q_l10, q_l12, q_l17, q_l32, q_l35, q_l48, q_l50, q_l54, q_l57, q_l64, q_l73, q_l118, q_l119, q_l120, q_l122, q_l126, q_l160, q_l256, q_l365, q_l372, q_l438, q_l1000, q_l100000, q_l1000000, b_236_73]
      exact k1
    · intro hd b hb
      have u2 := t3 hd
      have n0 := wf_n hwd
      have hall := w_all1 n0.2.2
      have hnτ : z_n τ (o_ds x.toNat N) := z_nF hnω (t2 192 (by omega))
      obtain ⟨ρ, r1, r2, r3⟩ := z_weighs (Z := Z) (e := e) (s := s) (t := 0) hL hnτ
      have hs : z_sur ρ (o_ds x.toNat N) 0 := ⟨z_nF hnτ (r3 192 (by omega)), fun a b ha hb => by rw [r3 196 (by omega)]; exact t1 a b ha hb, r2, hd.1⟩
      have hmn := z_many (Z := Z) (e := e) (s := s) hL hs.1
      rw [n0.1] at hmn
      obtain ⟨φ, f1, f2, f3⟩ := z_centers (Z := Z) (S := ((2 ^ w_nn (o_ds x.toNat N) - 1 : Nat) : Int)) (e := e) (s := s) hL hs (Int.le_refl 0) (by decide)
      obtain ⟨b', b1, b2⟩ := z_bs_b f2 (z_ps_ne hwd hd (Int.le_refl 0) (by decide))
      rw [en] at b1 b2
      rw [en] at f1 hmn hall
      obtain ⟨hq, -⟩ := z_eqbH hwd hd.1 (Int.le_refl 0) (by decide) hb b1
      have hr := z_redV (Z := Z) (h := (K, φ, 206, e, s)) hq b2 hy
      obtain ⟨k1, k2, k3, k4⟩ := back φ (w_red (w_Hv (o_ds x.toNat N) 0 ((2 ^ w_nn N - 1 : Nat) : Int) b) b.2.2 y) (fun a a1 a2 a3 => by rw [f3.1 a a1 (by omega) (by omega), r3 a (by omega), t2 a (by omega), o3 a a2]) (fun j hj => by rw [f3.2 j (by omega), r3 191 (by omega), t2 191 (by omega), o3 191 (by omega)])
      refine ⟨_, ?_, k2, k3, k4⟩
      rw [start, u2]
      conv => lhs; simp only [↓reduceIte, Nat.reduceEqDiff, Nat.reduceMul, q_n10, q_n01, Option.bind_some, g_aft0, g_aft1, g_aft2, g_aft3, g_aft9, Nat.reduceAdd, m_kill_0, m_kill_2, m_kill_3, m_kill_4, m_kill_9, true_or, or_true, q_lm1, q_l0, q_l1, q_l2, q_l3, q_l4, q_l5, q_l6, q_l8, q_l9, q_l10, q_l12, q_l17, q_l32, q_l35, q_l48, q_l50, q_l54, q_l57, q_l64, q_l73, q_l118, q_l119, q_l120, q_l122, q_l126, q_l160, q_l256, q_l365, q_l372, q_l438, q_l1000, q_l100000, q_l1000000, b_236_73, n10, b_236_76, q_modF hL.2.2.2.2.2.2.1, r1, b_236_81, hmn, b_236_87, hall, f1, b_236_93, hr, b_236_105]
      exact k1
theorem z_type (hL : q_lay K) (h : z_inv σ N R c X L) (hx : w32 x = x) :
    (¬ (32 ≤ x ∧ x ≤ 126) → z_O (m_cl Z 237 [(2, ((191 : Nat) : Int)), (0, x)] (K, σ, 206, e, s)) K e s σ N R c X L 1 0) ∧
    ((32 ≤ x ∧ x ≤ 126) → L = 120 → z_O (m_cl Z 237 [(2, ((191 : Nat) : Int)), (0, x)] (K, σ, 206, e, s)) K e s σ N R c X L 2 0) ∧
    ((32 ≤ x ∧ x ≤ 126) → L ≠ 120 → z_O (m_cl Z 237 [(2, ((191 : Nat) : Int)), (0, x)] (K, σ, 206, e, s)) K e s σ N R c (m_up X L x) (L + 1) 0 (((L + 1 : Nat) : Int))) := by
  have h1 := z_within2 (Z := Z) (h := (K, σ, 206, e, s)) (x := x) (y := 32) (z := 126) hx (by decide) (by decide)
  obtain ⟨x1, x2, x3⟩ := h.2.2
  have n10 : ¬ (1 : Int) = 0 := by decide
  have wL : w32 (L : Int) = (L : Int) := by clear hx h1; exact q_w (by omega)
  have e120 : w32 120 = 120 := by decide
  refine ⟨fun hn => ?_, fun hn hm => ?_, fun hn hm => ?_⟩
  · rw [if_neg hn] at h1
    refine z_no h ?_
    simp only [e_237, b_237_0, b_237_9, b_237_12, b_237_16, b_237_25, b_237_29, b_237_30, b_237_33, b_237_36, b_237_38, ↓reduceIte, Nat.reduceEqDiff, Nat.reduceMul, q_n10, q_n01, Option.bind_some, g_aft0, g_aft1, g_aft2, g_aft3, g_aft9, Nat.reduceAdd, m_kill_0, m_kill_2, m_kill_3, m_kill_4, m_kill_9, true_or, or_true, q_lm1, q_l0, q_l1, q_l2, q_l3, q_l4, q_l5, q_l6, q_l8, q_l9, q_l10, q_l12, q_l17, q_l32, q_l35, q_l48, q_l50, q_l54, q_l57, q_l64, q_l73, q_l118, q_l119, q_l120, q_l122, q_l126, q_l160, q_l256, q_l365, q_l372, q_l438, q_l1000, q_l100000, q_l1000000, q_modF hL.2.2.2.2.2.2.1, h1, z_ref1 hL (x := 1) (by decide) (by decide)]
  · rw [if_pos hn] at h1
    have c1 : (L : Int) = 120 := by clear hx h1 wL e120; omega
    refine z_no h ?_
    simp only [e_237, b_237_0, b_237_9, b_237_12, b_237_16, b_237_25, b_237_29, b_237_30, b_237_33, b_237_36, b_237_38, ↓reduceIte, Nat.reduceEqDiff, Nat.reduceMul, q_n10, q_n01, Option.bind_some, g_aft0, g_aft1, g_aft2, g_aft3, g_aft9, Nat.reduceAdd, m_kill_0, m_kill_2, m_kill_3, m_kill_4, m_kill_9, true_or, or_true, q_lm1, q_l0, q_l1, q_l2, q_l3, q_l4, q_l5, q_l6, q_l8, q_l9, q_l10, q_l12, q_l17, q_l32, q_l35, q_l48, q_l50, q_l54, q_l57, q_l64, q_l73, q_l118, q_l119, q_l120, q_l122, q_l126, q_l160, q_l256, q_l365, q_l372, q_l438, q_l1000, q_l100000, q_l1000000, q_modF hL.2.2.2.2.2.2.1, h1, n10, x1, wL, e120, c1, z_ref1 hL (x := 2) (by decide) (by decide)]
  · rw [if_pos hn] at h1
    have c1 : ¬ (L : Int) = 120 := by clear hx h1 wL e120; omega
    have p0 : 0 ≤ (L : Int) := by clear hx h1 wL e120; omega
    have p1 : (L : Int) < ((120 : Nat) : Int) := by clear hx h1 wL e120; omega
    have tn : ((L : Int)).toNat = L := rfl
    have k6 : m_up2 σ 191 4 0 191 6 = (L : Int) := by rw [m_up2_nk (by omega)]; exact x1
    have k6' : ∀ v, m_up2 (m_up2 σ 191 4 0) 195 L v 191 6 = (L : Int) := fun v => by rw [m_up2_ne (by omega)]; exact k6
    have k6'' : ∀ f w, m_up2 f 191 6 w 191 6 = w := fun f w => m_up2_at
    refine ⟨m_up2 (m_up2 (m_up2 σ 191 4 0) 195 L x) 191 6 ((L : Int) + 1), ?_, ?_, ⟨?_, ?_, ?_⟩, ?_⟩
    · simp only [e_237, b_237_0, b_237_9, b_237_12, b_237_16, b_237_25, b_237_29, b_237_30, b_237_33, b_237_36, b_237_38, ↓reduceIte, Nat.reduceEqDiff, Nat.reduceMul, q_n10, q_n01, Option.bind_some, g_aft0, g_aft1, g_aft2, g_aft3, g_aft9, Nat.reduceAdd, m_kill_0, m_kill_2, m_kill_3, m_kill_4, m_kill_9, true_or, or_true, q_lm1, q_l0, q_l1, q_l2, q_l3, q_l4, q_l5, q_l6, q_l8, q_l9, q_l10, q_l12, q_l17, q_l32, q_l35, q_l48, q_l50, q_l54, q_l57, q_l64, q_l73, q_l118, q_l119, q_l120, q_l122, q_l126, q_l160, q_l256, q_l365, q_l372, q_l438, q_l1000, q_l100000, q_l1000000, q_modF hL.2.2.2.2.2.2.1, h1, n10, x1, wL, e120, c1, z_ref0 hL, k6, p0, p1, tn, k6', k6'']
      rfl
    · rw [m_up2_nk (by omega), m_up2_ne (by omega), m_up2_at]
    · exact z_nF h.1 (by rw [m_up2_ne (by omega), m_up2_ne (by omega), m_up2_ne (by omega)])
    · obtain ⟨r1, r2, r3⟩ := h.2.1
      refine ⟨by rw [m_up2_nk (by omega), m_up2_ne (by omega), m_up2_nk (by omega)]; exact r1, r2, ?_⟩
      rw [m_up2_ne (by omega), m_up2_ne (by omega), m_up2_ne (by omega)]
      exact r3
    · refine ⟨m_up2_at, by clear hx h1 wL e120; omega, fun i hi => ?_⟩
      rw [m_up2_ne (by omega)]
      by_cases ci : i = L
      · subst ci
        rw [m_up2_at, m_up_at]
        exact ⟨rfl, hn.1, hn.2⟩
      · rw [m_up2_nk ci, m_up2_ne (by omega), m_up_ne ci]
        exact x3 i (by clear hx h1 wL e120; omega)
    · intro a ha
      rw [m_up2_ne (by omega), m_up2_ne (by omega), m_up2_ne (by omega)]
theorem z_clear (hL : q_lay K) (h : z_inv σ N R c X L) : z_O (m_cl Z 238 [(2, ((191 : Nat) : Int))] (K, σ, 206, e, s)) K e s σ N R c X 0 0 (L : Int) := by
  obtain ⟨x1, x2, x3⟩ := h.2.2
  have k6 : m_up2 σ 191 4 0 191 6 = (L : Int) := by rw [m_up2_nk (by omega)]; exact x1
  refine ⟨m_up2 (m_up2 σ 191 4 0) 191 6 0, ?_, by rw [m_up2_nk (by omega), m_up2_at], ⟨z_nF h.1 (by rw [m_up2_ne (by omega), m_up2_ne (by omega)]), ?_, m_up2_at, by omega, fun i hi => by omega⟩, fun a ha => by rw [m_up2_ne (by omega), m_up2_ne (by omega)]⟩
  · simp only [e_238, b_238_0, ↓reduceIte, Nat.reduceEqDiff, Nat.reduceMul, q_n10, q_n01, Option.bind_some, g_aft0, g_aft1, g_aft2, g_aft3, g_aft9, Nat.reduceAdd, m_kill_0, m_kill_2, m_kill_3, m_kill_4, m_kill_9, true_or, or_true, q_lm1, q_l0, q_l1, q_l2, q_l3, q_l4, q_l5, q_l6, q_l8, q_l9, q_l10, q_l12, q_l17, q_l32, q_l35, q_l48, q_l50, q_l54, q_l57, q_l64, q_l73, q_l118, q_l119, q_l120, q_l122, q_l126, q_l160, q_l256, q_l365, q_l372, q_l438, q_l1000, q_l100000, q_l1000000, q_modF hL.2.2.2.2.2.2.1, k6]
  · obtain ⟨r1, r2, r3⟩ := h.2.1
    refine ⟨by rw [m_up2_nk (by omega), m_up2_nk (by omega)]; exact r1, r2, ?_⟩
    rw [m_up2_ne (by omega), m_up2_ne (by omega)]
    exact r3
end
end
