section
/-! The best of all points. -/
def w_best (V : wP → Int) (L : List wP) (b : wP) : Prop := b ∈ L ∧ ∀ y, y ∈ L → ¬ w_pl V y b
def w_Hv (N : Nat → Nat → Int) (t S : Int) (b : wP) : Int := w_H N t S b.1 b.2.1 b.2.2 (w_nn N)
def w_Cv (N : Nat → Nat → Int) (t : Int) (b : wP) : Int := w_C N t b.1 b.2.1 b.2.2 (w_nn N)
theorem w_ap_mem {N : Nat → Nat → Int} {g : Nat} {p q : Int} {y : wP} : y ∈ w_ap N g p q ↔ y = (g, p, q) ∧ w_al N g p q = true := by
  unfold w_ap
  by_cases h : w_al N g p q = true
  · rw [if_pos h, List.mem_singleton]
    exact ⟨fun e => ⟨e, h⟩, fun e => e.1⟩
  · rw [if_neg h]
    exact ⟨fun e => absurd e List.not_mem_nil, fun e => absurd e.2 h⟩
theorem w_pq1 {N : Nat → Nat → Int} {t p : Int} {g : Nat} (ht : 0 ≤ t) (ht2 : t ≤ 10) (h1 : 0 ≤ p) (h2 : p ≤ N 10 g) : w_pq N t g p 1 := ⟨by omega, by omega, by omega, ht, h1, by omega⟩
theorem w_pts_ok {N : Nat → Nat → Int} {t : Int} (hw : q_wf N) (hc : w_cn N) (ht : 0 ≤ t) (ht2 : t ≤ 10) {y : wP} (hy : y ∈ w_pts N t) : y.1 < w_ne N ∧ w_pq N t y.1 y.2.1 y.2.2 ∧ w_al N y.1 y.2.1 y.2.2 = true ∧ y.2.1 ≤ 50000 := by
  unfold w_pts at hy
  rcases List.mem_append.mp hy with h | h
  · obtain ⟨g, hg, h⟩ := q_cat_mem.mp h
    have h7 := wf_ed hw hg
    unfold w_pe at h
    rcases List.mem_append.mp h with h | h
    · rcases List.mem_append.mp h with h | h
      · obtain ⟨rfl, h5⟩ := w_ap_mem.mp h
        exact ⟨hg, w_pq1 ht ht2 (Int.le_refl _) (by show (0 : Int) ≤ N 10 g; omega), h5, by show (0 : Int) ≤ _; omega⟩
      · obtain ⟨rfl, h5⟩ := w_ap_mem.mp h
        exact ⟨hg, w_pq1 ht ht2 (by show (0 : Int) ≤ N 10 g; omega) (Int.le_refl _), h5, by show N 10 g ≤ 50000; omega⟩
    · obtain ⟨i, hi, h⟩ := q_cat_mem.mp h
      obtain ⟨j, hj, h⟩ := q_cat_mem.mp h
      unfold w_xl at h
      by_cases hac : w_ac N t g i j = true
      · rw [if_pos hac] at h
        obtain ⟨rfl, h5⟩ := w_ap_mem.mp h
        have c := of_decide_eq_true hac
        have bb := w_acb hw hc ht ht2 hg hi hj c
        have xb := w_xb hw hc ht ht2 hg hi hj
        have m := q_mb (show 0 ≤ 9 + 9 * t by omega) (show 9 + 9 * t ≤ 99 by omega) xb.2.2.1 xb.2.2.2.1
        exact ⟨hg, ⟨by show 1 ≤ w_xB N t i j; omega, bb.2.2.2.2, by show (9 + 9 * t) * w_xB N t i j ≤ 19602; omega, ht, bb.2.1, Int.le_of_lt c.2.2.2.1⟩, h5, bb.2.2.1⟩
      · rw [if_neg hac] at h
        exact absurd h List.not_mem_nil
  · obtain ⟨k, hk, h⟩ := q_cat_mem.mp h
    obtain ⟨d, d1, d2, d3, d4, d5, d6⟩ := wf_st hw hk
    have hd : (N 12 k).toNat = d := by omega
    unfold w_ps at h
    rw [hd] at h
    rcases List.mem_append.mp h with h | h
    · obtain ⟨rfl, h5⟩ := w_ap_mem.mp h
      exact ⟨d1, w_pq1 ht ht2 d3 (by show N 14 k ≤ N 10 d; omega), h5, by show N 14 k ≤ 50000; omega⟩
    · obtain ⟨rfl, h5⟩ := w_ap_mem.mp h
      exact ⟨d1, w_pq1 ht ht2 (by show 0 ≤ N 16 k; omega) (by show N 16 k ≤ N 10 d; omega), h5, by show N 16 k ≤ 50000; omega⟩
theorem w_pts_len {N : Nat → Nat → Int} {t : Int} (hw : q_wf N) : (w_pts N t).length ≤ 372 := by
  have h1 := w_pes_len hw (t := t) (k := w_ne N)
  have h2 := w_pss_len (N := N) (k := w_ns N)
  have h3 := (wf_e hw).2
  have h4 := (wf_s hw).2
  unfold w_pts
  rw [List.length_append]
  omega
def w_x5 (V : wP → Int) (b : wP) : Int × Int × Int × Int × Int := (1, (b.1 : Int), b.2.1, b.2.2, V b)
/-- one round of seeking -/
theorem w_round {V : wP → Int} {L : List wP} {k : Nat} {x : Int × Int × Int × Int × Int} (hk : k < L.length) (hq : ∀ y, y ∈ L → 0 < y.2.2) (h : (k = 0 ∧ x = (0, 0, 0, 1, 0)) ∨ ∃ j, j < k ∧ x = w_x5 V (L.getD j (0, 0, 0)) ∧ ∀ i, i < k → ¬ w_pl V (L.getD i (0, 0, 0)) (L.getD j (0, 0, 0))) :
    ∃ j, j < k + 1 ∧ (if x.1 = 0 ∨ V (L.getD k (0, 0, 0)) * x.2.2.2.1 < x.2.2.2.2 * (L.getD k (0, 0, 0)).2.2 ∨ V (L.getD k (0, 0, 0)) * x.2.2.2.1 = x.2.2.2.2 * (L.getD k (0, 0, 0)).2.2 ∧ (((L.getD k (0, 0, 0)).1 : Int) < x.2.1 ∨ ((L.getD k (0, 0, 0)).1 : Int) = x.2.1 ∧ (L.getD k (0, 0, 0)).2.1 * x.2.2.2.1 < x.2.2.1 * (L.getD k (0, 0, 0)).2.2) then (1, ((L.getD k (0, 0, 0)).1 : Int), (L.getD k (0, 0, 0)).2.1, (L.getD k (0, 0, 0)).2.2, V (L.getD k (0, 0, 0))) else x) = w_x5 V (L.getD j (0, 0, 0)) ∧ ∀ i, i < k + 1 → ¬ w_pl V (L.getD i (0, 0, 0)) (L.getD j (0, 0, 0)) := by
  rcases h with ⟨h1, h2⟩ | ⟨j, h1, h2, h3⟩
  · subst h1
    subst h2
    refine ⟨0, by omega, ?_, ?_⟩
    · rw [if_pos (Or.inl rfl)]
      rfl
    · intro i hi
      have hi : i = 0 := by omega
      subst hi
      exact w_lx_irr
  · have hk2 := hq _ (getD_mem (d := (0, 0, 0)) hk)
    have hj2 := hq _ (getD_mem (d := (0, 0, 0)) (show j < L.length by omega))
    subst h2
    have he := w_pl_iff (V := V) hk2 hj2
    by_cases c : w_pl V (L.getD k (0, 0, 0)) (L.getD j (0, 0, 0))
    · have c' := he.mp c
      refine ⟨k, by omega, ?_, ?_⟩
      · rw [if_pos]
        · rfl
        · right
          unfold w_x5
          dsimp only
          rcases c' with c' | ⟨c1, c2 | ⟨c2, c3⟩⟩
          · exact Or.inl c'
          · exact Or.inr ⟨c1, Or.inl (Int.ofNat_lt.mpr c2)⟩
          · exact Or.inr ⟨c1, Or.inr ⟨congrArg Int.ofNat c2, c3⟩⟩
      · intro i hi
        rcases Nat.lt_succ_iff_lt_or_eq.mp hi with hi | hi
        · exact fun q => h3 i hi (w_lx_tr q c)
        · subst hi
          exact w_lx_irr
    · refine ⟨j, by omega, ?_, ?_⟩
      · rw [if_neg]
        intro q
        apply c
        rw [he]
        unfold w_x5 at q
        dsimp only at q
        rcases q with q | q | ⟨c1, c2 | ⟨c2, c3⟩⟩
        · exact absurd q (by decide)
        · exact Or.inl q
        · exact Or.inr ⟨c1, Or.inl (Int.ofNat_lt.mp c2)⟩
        · exact Or.inr ⟨c1, Or.inr ⟨Int.ofNat.inj c2, c3⟩⟩
      · intro i hi
        rcases Nat.lt_succ_iff_lt_or_eq.mp hi with hi | hi
        · exact h3 i hi
        · subst hi
          exact c
section
variable {Z : mZ} {K : Nat → mK} {σ N : Nat → Nat → Int} {e s g i : Nat} {t p q : Int}
theorem s_seekC {S : Int} (hL : q_lay K) (hv : v_a σ N t) (hw : q_wf N) (hc : w_cn N) (ht : 0 ≤ t) (ht2 : t ≤ 10) (hp : v_p σ (w_pts N t)) : ∃ x, m_cl Z 88 [(2, ((138 : Nat) : Int)), (0, S)] (K, σ, 191, e, s) = some (.inl (9, 0), (K, q_bs σ x, 191, e, s)) ∧ (w_pts N t = [] → x = (0, 0, 0, 1, 0)) ∧ (w_pts N t ≠ [] → ∃ b, w_best (w_Hv N t S) (w_pts N t) b ∧ x = w_x5 (w_Hv N t S) b) := by
  have hlen := w_pts_len hw (t := t)
  have hok := fun y => w_pts_ok hw hc ht ht2 (y := y)
  have hm0 : ∀ x, w32 (q_bs σ x 138 8) = ((w_pts N t).length : Int) := by
    intro x
    rw [q_bs_n (by omega) (by omega) (by omega) (by omega) (by omega), hp.1, q_w (by omega)]
  obtain ⟨x, h1, h2⟩ := q_loop (Z := Z) (N := (w_pts N t).length) (S := fun k x => (88, 6, [(2, ((138 : Nat) : Int)), (0, S), (0, (k : Int))], [], (K, q_bs σ x, 191, e, s))) (P := fun k x => (k = 0 ∧ x = (0, 0, 0, 1, 0)) ∨ ∃ j, j < k ∧ x = w_x5 (w_Hv N t S) ((w_pts N t).getD j (0, 0, 0)) ∧ ∀ i, i < k → ¬ w_pl (w_Hv N t S) ((w_pts N t).getD i (0, 0, 0)) ((w_pts N t).getD j (0, 0, 0))) (by
    intro k x hk hx
    have hmem := getD_mem (d := (0, 0, 0)) hk
    obtain ⟨y1, y2, y3, y4⟩ := hok _ hmem
    obtain ⟨r1, r2, r3⟩ := hp.2 k hk
    have hva := v_a_fr (τ := q_bs σ x) hv (fun a _ _ => q_bs_o (by omega))
    have hr := w_round (V := w_Hv N t S) hk (fun y hy => by have := (hok y hy).2.1.1; omega) hx
    generalize hy : (w_pts N t).getD k (0, 0, 0) = y at *
    have hval := w_Hb hw hc y1 y2 (S := S) (w_nn N) (Nat.le_refl _)
    have h12 := (wf_e hw).2
    have hb : w_pb (y.1 : Int) y.2.1 y.2.2 ((w_Hv N t S) y) := ⟨by omega, by omega, y2.2.2.2.2.1, y4, y2.1, y2.2.1, hval.1, by have : w_Hv N t S y = w_H N t S y.1 y.2.1 y.2.2 (w_nn N) := rfl; omega⟩
    have hX : w_pb x.2.1 x.2.2.1 x.2.2.2.1 x.2.2.2.2 ∧ (x.1 = 0 ∨ x.1 = 1) := by
      rcases hx with ⟨-, hx⟩ | ⟨j, hj, hx, -⟩
      · subst hx
        exact ⟨⟨by show (0 : Int) ≤ 0; omega, by show (0 : Int) ≤ _; omega, by show (0 : Int) ≤ 0; omega, by show (0 : Int) ≤ _; omega, by show (1 : Int) ≤ 1; omega, by show (1 : Int) ≤ _; omega, by show (0 : Int) ≤ 0; omega, by show (0 : Int) ≤ _; omega⟩, Or.inl rfl⟩
      · have hmj := getD_mem (d := (0, 0, 0)) (show j < (w_pts N t).length by omega)
        obtain ⟨u1, u2, u3, u4⟩ := hok _ hmj
        subst hx
        generalize (w_pts N t).getD j (0, 0, 0) = z at *
        have hvz := w_Hb hw hc u1 u2 (S := S) (w_nn N) (Nat.le_refl _)
        exact ⟨⟨by show (0 : Int) ≤ (z.1 : Int); omega, by show (z.1 : Int) ≤ _; omega, u2.2.2.2.2.1, u4, u2.1, u2.2.1, hvz.1, by show (w_Hv N t S) z ≤ _; have : w_Hv N t S z = w_H N t S z.1 z.2.1 z.2.2 (w_nn N) := rfl; omega⟩, Or.inr rfl⟩
    obtain ⟨F, G, P, Q, V⟩ := x
    have c0 : ¬ ((w_pts N t).length : Int) ≤ (k : Int) := by omega
    have e1 : (((k + 1 : Nat)) : Int) = (k : Int) + 1 := by omega
    have hO := s_offer (Z := Z) (σ := σ) (e := e) (s := s) (k := k) (v := (w_Hv N t S) y) hL (by omega) r1 r2 r3 hb hX.1 hX.2
    have hH : m_cl Z 81 [(2, ((138 : Nat) : Int)), (0, S), (0, (y.1 : Int)), (0, y.2.1), (0, y.2.2)] (K, q_bs σ (F, G, P, Q, V), 191, e, s) = some (.inl (0, w_Hv N t S y), (K, q_bs σ (F, G, P, Q, V), 191, e, s)) := s_height (Z := Z) (e := e) (s := s) (S := S) hL hva.1 hva.2.2.2 hva.2.1 hw hc y1 y2
    have g1 : ∀ z, q_get (q_bs σ z) 165 372 (k : Int) = (y.1 : Int) := by intro z; rw [q_bs_get (by omega), q_get_nat (by omega) (by omega)]; exact r1
    have g2 : ∀ z, q_get (q_bs σ z) 167 372 (k : Int) = y.2.1 := by intro z; rw [q_bs_get (by omega), q_get_nat (by omega) (by omega)]; exact r2
    have g3 : ∀ z, q_get (q_bs σ z) 169 372 (k : Int) = y.2.2 := by intro z; rw [q_bs_get (by omega), q_get_nat (by omega) (by omega)]; exact r3
    have w0 : w32 (k : Int) = (k : Int) := q_w (by omega)
    refine ⟨_, ?_, Or.inr hr⟩
    conv => lhs; simp only [b_88_6, ↓reduceIte, Nat.reduceEqDiff, Nat.reduceMul, q_n10, q_n01, Option.bind_some, g_aft0, g_aft1, g_aft2, g_aft3, g_aft9, Nat.reduceAdd, m_kill_0, m_kill_2, m_kill_3, m_kill_4, m_kill_9, true_or, or_true, q_lm1, q_l0, q_l1, q_l2, q_l3, q_l4, q_l5, q_l6, q_l8, q_l9, q_l10, q_l12, q_l32, q_l50, q_l120, q_l122, q_l126, q_l372, q_l1000, q_l1000000, q_surF hL.2.2.1, q_tkF hL.2.1, hm0, w0, c0]
    simp only [b_88_0, b_88_4, b_88_14, b_88_26, b_88_34, b_88_42, b_88_45, b_88_48, b_88_54, ↓reduceIte, Nat.reduceEqDiff, Nat.reduceMul, q_n10, q_n01, Option.bind_some, g_aft0, g_aft1, g_aft2, g_aft3, g_aft9, Nat.reduceAdd, m_kill_0, m_kill_2, m_kill_3, m_kill_4, m_kill_9, true_or, or_true, q_lm1, q_l0, q_l1, q_l2, q_l3, q_l4, q_l5, q_l6, q_l8, q_l9, q_l10, q_l12, q_l32, q_l50, q_l120, q_l122, q_l126, q_l372, q_l1000, q_l1000000, q_surF hL.2.2.1, q_tkF hL.2.1, r_get, g1, g2, g3, hH, hO, e1]) (w_pts N t).length 0 (0, 0, 0, 1, 0) (by omega) (Or.inl ⟨rfl, rfl⟩)
  refine ⟨x, ?_, ?_, ?_⟩
  · have w9 : w32 ((w_pts N t).length : Int) = ((w_pts N t).length : Int) := q_w (by omega)
    simp only [e_88, b_88_0, b_88_4, ↓reduceIte, Nat.reduceEqDiff, Nat.reduceMul, q_n10, q_n01, Option.bind_some, g_aft0, g_aft1, g_aft2, g_aft3, g_aft9, Nat.reduceAdd, m_kill_0, m_kill_2, m_kill_3, m_kill_4, m_kill_9, true_or, or_true, q_lm1, q_l0, q_l1, q_l2, q_l3, q_l4, q_l5, q_l6, q_l8, q_l9, q_l10, q_l12, q_l32, q_l50, q_l120, q_l122, q_l126, q_l372, q_l1000, q_l1000000, q_surF hL.2.2.1, q_tkF hL.2.1, s_start hL]
    refine h1.trans ?_
    simp only [b_88_6, b_88_54, ↓reduceIte, Nat.reduceEqDiff, Nat.reduceMul, q_n10, q_n01, Option.bind_some, g_aft0, g_aft1, g_aft2, g_aft3, g_aft9, Nat.reduceAdd, m_kill_0, m_kill_2, m_kill_3, m_kill_4, m_kill_9, true_or, or_true, q_lm1, q_l0, q_l1, q_l2, q_l3, q_l4, q_l5, q_l6, q_l8, q_l9, q_l10, q_l12, q_l32, q_l50, q_l120, q_l122, q_l126, q_l372, q_l1000, q_l1000000, q_surF hL.2.2.1, q_tkF hL.2.1, hm0, w9, Int.le_refl]
  · intro he
    rw [he] at h2
    rcases h2 with h2 | ⟨j, hj, -⟩
    · exact h2.2
    · exact absurd hj (Nat.not_lt_zero j)
  · intro he
    rcases h2 with h2 | ⟨j, hj, hx, hy⟩
    · exact absurd (List.eq_nil_of_length_eq_zero h2.1) he
    · refine ⟨_, ⟨getD_mem hj, ?_⟩, hx⟩
      intro y hym
      obtain ⟨i, hi, rfl⟩ := getD_ex (d := (0, 0, 0)) hym
      exact hy i hi
theorem s_seekM (hL : q_lay K) (hv : v_a σ N t) (hw : q_wf N) (hc : w_cn N) (ht : 0 ≤ t) (ht2 : t ≤ 10) (hp : v_p σ (w_pts N t)) : ∃ x, m_cl Z 89 [(2, ((138 : Nat) : Int))] (K, σ, 191, e, s) = some (.inl (9, 0), (K, q_bs σ x, 191, e, s)) ∧ (w_pts N t = [] → x = (0, 0, 0, 1, 0)) ∧ (w_pts N t ≠ [] → ∃ b, w_best (w_Cv N t) (w_pts N t) b ∧ x = w_x5 (w_Cv N t) b) := by
  have hlen := w_pts_len hw (t := t)
  have hok := fun y => w_pts_ok hw hc ht ht2 (y := y)
  have hm0 : ∀ x, w32 (q_bs σ x 138 8) = ((w_pts N t).length : Int) := by
    intro x
    rw [q_bs_n (by omega) (by omega) (by omega) (by omega) (by omega), hp.1, q_w (by omega)]
  obtain ⟨x, h1, h2⟩ := q_loop (Z := Z) (N := (w_pts N t).length) (S := fun k x => (89, 6, [(2, ((138 : Nat) : Int)), (0, (k : Int))], [], (K, q_bs σ x, 191, e, s))) (P := fun k x => (k = 0 ∧ x = (0, 0, 0, 1, 0)) ∨ ∃ j, j < k ∧ x = w_x5 (w_Cv N t) ((w_pts N t).getD j (0, 0, 0)) ∧ ∀ i, i < k → ¬ w_pl (w_Cv N t) ((w_pts N t).getD i (0, 0, 0)) ((w_pts N t).getD j (0, 0, 0))) (by
    intro k x hk hx
    have hmem := getD_mem (d := (0, 0, 0)) hk
    obtain ⟨y1, y2, y3, y4⟩ := hok _ hmem
    obtain ⟨r1, r2, r3⟩ := hp.2 k hk
    have hva := v_a_fr (τ := q_bs σ x) hv (fun a _ _ => q_bs_o (by omega))
    have hr := w_round (V := w_Cv N t) hk (fun y hy => by have := (hok y hy).2.1.1; omega) hx
    generalize hy : (w_pts N t).getD k (0, 0, 0) = y at *
    have hval := w_Cb hw hc y1 y2 (w_nn N) (Nat.le_refl _)
    have h12 := (wf_e hw).2
    have hb : w_pb (y.1 : Int) y.2.1 y.2.2 ((w_Cv N t) y) := ⟨by omega, by omega, y2.2.2.2.2.1, y4, y2.1, y2.2.1, hval.1, by have : w_Cv N t y = w_C N t y.1 y.2.1 y.2.2 (w_nn N) := rfl; have := (wf_n hw).2.2; omega⟩
    have hX : w_pb x.2.1 x.2.2.1 x.2.2.2.1 x.2.2.2.2 ∧ (x.1 = 0 ∨ x.1 = 1) := by
      rcases hx with ⟨-, hx⟩ | ⟨j, hj, hx, -⟩
      · subst hx
        exact ⟨⟨by show (0 : Int) ≤ 0; omega, by show (0 : Int) ≤ _; omega, by show (0 : Int) ≤ 0; omega, by show (0 : Int) ≤ _; omega, by show (1 : Int) ≤ 1; omega, by show (1 : Int) ≤ _; omega, by show (0 : Int) ≤ 0; omega, by show (0 : Int) ≤ _; omega⟩, Or.inl rfl⟩
      · have hmj := getD_mem (d := (0, 0, 0)) (show j < (w_pts N t).length by omega)
        obtain ⟨u1, u2, u3, u4⟩ := hok _ hmj
        subst hx
        generalize (w_pts N t).getD j (0, 0, 0) = z at *
        have hvz := w_Cb hw hc u1 u2 (w_nn N) (Nat.le_refl _)
        exact ⟨⟨by show (0 : Int) ≤ (z.1 : Int); omega, by show (z.1 : Int) ≤ _; omega, u2.2.2.2.2.1, u4, u2.1, u2.2.1, hvz.1, by show (w_Cv N t) z ≤ _; have : w_Cv N t z = w_C N t z.1 z.2.1 z.2.2 (w_nn N) := rfl; have := (wf_n hw).2.2; omega⟩, Or.inr rfl⟩
    obtain ⟨F, G, P, Q, V⟩ := x
    have c0 : ¬ ((w_pts N t).length : Int) ≤ (k : Int) := by omega
    have e1 : (((k + 1 : Nat)) : Int) = (k : Int) + 1 := by omega
    have hO := s_offer (Z := Z) (σ := σ) (e := e) (s := s) (k := k) (v := (w_Cv N t) y) hL (by omega) r1 r2 r3 hb hX.1 hX.2
    have hH : m_cl Z 82 [(2, ((138 : Nat) : Int)), (0, (y.1 : Int)), (0, y.2.1), (0, y.2.2)] (K, q_bs σ (F, G, P, Q, V), 191, e, s) = some (.inl (0, w_Cv N t y), (K, q_bs σ (F, G, P, Q, V), 191, e, s)) := s_cost (Z := Z) (e := e) (s := s) hL hva.1 hva.2.2.2 hva.2.1 hw hc y1 y2
    have g1 : ∀ z, q_get (q_bs σ z) 165 372 (k : Int) = (y.1 : Int) := by intro z; rw [q_bs_get (by omega), q_get_nat (by omega) (by omega)]; exact r1
    have g2 : ∀ z, q_get (q_bs σ z) 167 372 (k : Int) = y.2.1 := by intro z; rw [q_bs_get (by omega), q_get_nat (by omega) (by omega)]; exact r2
    have g3 : ∀ z, q_get (q_bs σ z) 169 372 (k : Int) = y.2.2 := by intro z; rw [q_bs_get (by omega), q_get_nat (by omega) (by omega)]; exact r3
    have w0 : w32 (k : Int) = (k : Int) := q_w (by omega)
    refine ⟨_, ?_, Or.inr hr⟩
    conv => lhs; simp only [b_89_6, ↓reduceIte, Nat.reduceEqDiff, Nat.reduceMul, q_n10, q_n01, Option.bind_some, g_aft0, g_aft1, g_aft2, g_aft3, g_aft9, Nat.reduceAdd, m_kill_0, m_kill_2, m_kill_3, m_kill_4, m_kill_9, true_or, or_true, q_lm1, q_l0, q_l1, q_l2, q_l3, q_l4, q_l5, q_l6, q_l8, q_l9, q_l10, q_l12, q_l32, q_l50, q_l120, q_l122, q_l126, q_l372, q_l1000, q_l1000000, q_surF hL.2.2.1, q_tkF hL.2.1, hm0, w0, c0]
    simp only [b_89_0, b_89_4, b_89_14, b_89_25, b_89_33, b_89_41, b_89_44, b_89_47, b_89_53, ↓reduceIte, Nat.reduceEqDiff, Nat.reduceMul, q_n10, q_n01, Option.bind_some, g_aft0, g_aft1, g_aft2, g_aft3, g_aft9, Nat.reduceAdd, m_kill_0, m_kill_2, m_kill_3, m_kill_4, m_kill_9, true_or, or_true, q_lm1, q_l0, q_l1, q_l2, q_l3, q_l4, q_l5, q_l6, q_l8, q_l9, q_l10, q_l12, q_l32, q_l50, q_l120, q_l122, q_l126, q_l372, q_l1000, q_l1000000, q_surF hL.2.2.1, q_tkF hL.2.1, r_get, g1, g2, g3, hH, hO, e1]) (w_pts N t).length 0 (0, 0, 0, 1, 0) (by omega) (Or.inl ⟨rfl, rfl⟩)
  refine ⟨x, ?_, ?_, ?_⟩
  · have w9 : w32 ((w_pts N t).length : Int) = ((w_pts N t).length : Int) := q_w (by omega)
    simp only [e_89, b_89_0, b_89_4, ↓reduceIte, Nat.reduceEqDiff, Nat.reduceMul, q_n10, q_n01, Option.bind_some, g_aft0, g_aft1, g_aft2, g_aft3, g_aft9, Nat.reduceAdd, m_kill_0, m_kill_2, m_kill_3, m_kill_4, m_kill_9, true_or, or_true, q_lm1, q_l0, q_l1, q_l2, q_l3, q_l4, q_l5, q_l6, q_l8, q_l9, q_l10, q_l12, q_l32, q_l50, q_l120, q_l122, q_l126, q_l372, q_l1000, q_l1000000, q_surF hL.2.2.1, q_tkF hL.2.1, s_start hL]
    refine h1.trans ?_
    simp only [b_89_6, b_89_53, ↓reduceIte, Nat.reduceEqDiff, Nat.reduceMul, q_n10, q_n01, Option.bind_some, g_aft0, g_aft1, g_aft2, g_aft3, g_aft9, Nat.reduceAdd, m_kill_0, m_kill_2, m_kill_3, m_kill_4, m_kill_9, true_or, or_true, q_lm1, q_l0, q_l1, q_l2, q_l3, q_l4, q_l5, q_l6, q_l8, q_l9, q_l10, q_l12, q_l32, q_l50, q_l120, q_l122, q_l126, q_l372, q_l1000, q_l1000000, q_surF hL.2.2.1, q_tkF hL.2.1, hm0, w9, Int.le_refl]
  · intro he
    rw [he] at h2
    rcases h2 with h2 | ⟨j, hj, -⟩
    · exact h2.2
    · exact absurd hj (Nat.not_lt_zero j)
  · intro he
    rcases h2 with h2 | ⟨j, hj, hx, hy⟩
    · exact absurd (List.eq_nil_of_length_eq_zero h2.1) he
    · refine ⟨_, ⟨getD_mem hj, ?_⟩, hx⟩
      intro y hym
      obtain ⟨i, hi, rfl⟩ := getD_ex (d := (0, 0, 0)) hym
      exact hy i hi
end
end
