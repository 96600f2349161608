section
/-! Groups: rated. -/
def w_gv (σ N : Nat → Nat → Int) (t : Int) : Prop := σ 177 2 = ((2 ^ w_nn N - 1 : Nat) : Int) ∧ (∀ S, S < 2 ^ w_nn N → w_eo σ S ∧ w_isR N t S (w_F2 σ S)) ∧ (∀ S, S < 2 ^ w_nn N → w_eo σ (256 + S) ∧ w_isD (fun a => w_F2 σ a) (fun a => w_F2 σ a) S (w_F2 σ (256 + S))) ∧ w_eo σ (512 + (2 ^ w_nn N - 1)) ∧ w_isD (fun a => w_F2 σ a) (fun a => w_F2 σ (256 + a)) (2 ^ w_nn N - 1) (w_F2 σ (512 + (2 ^ w_nn N - 1)))
theorem w_isD_congr {f1 f1' fk fk' : Nat → Rat} {S : Nat} {x : Rat} (hS : S < 256) (h1 : ∀ a, a ≤ S → f1 a = f1' a) (hk : ∀ a, a ≤ S → fk a = fk' a) (h : w_isD f1 fk S x) : w_isD f1' fk' S x := by
  obtain ⟨⟨a, a1, a2, a3⟩, h2⟩ := h
  refine ⟨⟨a, a1, a2, ?_⟩, fun b b1 b2 => ?_⟩
  · rw [← h1 a (w_sub_le hS a1 a2).1, ← hk (S - a) (Nat.sub_le _ _)]
    exact a3
  · rw [← h1 b (w_sub_le hS b1 b2).1, ← hk (S - b) (Nat.sub_le _ _)]
    exact h2 b b1 b2
theorem w_pts_ne {N : Nat → Nat → Int} {t : Int} (hw : q_wf N) (h : 0 < w_ne N) : w_pts N t ≠ [] := by
  intro he
  have hm : (0, 0, 1) ∈ w_pts N t := by
    unfold w_pts
    refine List.mem_append_left _ (q_cat_mem.mpr ⟨0, h, ?_⟩)
    unfold w_pe
    refine List.mem_append_left _ (List.mem_append_left _ (w_ap_mem.mpr ⟨rfl, ?_⟩))
    rw [w_al_iff]
    rintro k hk ⟨-, c, -⟩
    obtain ⟨d, -, -, d3, -⟩ := wf_st hw hk
    omega
  rw [he] at hm
  exact absurd hm List.not_mem_nil
section
variable {Z : mZ} {K : Nat → mK} {σ τ N : Nat → Nat → Int} {e s g i m : Nat} {t p q v : Int}
def q_fq (σ τ : Nat → Nat → Int) : Prop := ∀ a, a ≠ 177 → a ≠ 179 → a ≠ 181 → a ≠ 183 → τ a = σ a
theorem v_a_fq {t : Int} (h : v_a σ N t) (hf : q_fq σ τ) : v_a τ N t := v_a_fr h (fun a _ _ => hf a (by omega) (by omega) (by omega) (by omega))
/-- all points -/
theorem p_points (hL : q_lay K) (hs : w_sv σ N t) (hc : w_cn N) (hr : ∀ S, S < 2 ^ w_nn N → σ 179 S = 1 ∧ σ 181 S = 0) (hne : 0 < w_ne N) : ∃ τ, m_run Z (2, 55, [(2, ((177 : Nat) : Int)), (0, ((0 : Nat) : Int))], [], (K, σ, 191, e, s)) = m_run Z (2, 109, [(2, ((177 : Nat) : Int)), (0, ((w_pts N t).length : Int))], [], (K, τ, 191, e, s)) ∧ q_fg σ τ ∧ ∀ S, S < 2 ^ w_nn N → w_eo τ S ∧ w_isR N t S (w_F2 τ S) ∧ ∃ y, y ∈ w_pts N t ∧ τ 179 S = w_Hv N t (S : Int) y := by
  obtain ⟨hw, hf, ⟨ht, ht2⟩, hv, -, hp, -⟩ := hs
  have hp := hp hc
  have hok := fun y => w_pts_ok hw hc ht ht2 (y := y)
  have hlen := w_pts_len hw (t := t)
  obtain ⟨x, h1, h2, h3⟩ := q_loop (Z := Z) (N := (w_pts N t).length) (S := fun k x => (2, 55, [(2, ((177 : Nat) : Int)), (0, (k : Int))], [], (K, x, 191, e, s))) (P := fun k x => q_fg σ x ∧ ∀ S, S < 2 ^ w_nn N → (k = 0 ∧ x 179 S = 1 ∧ x 181 S = 0) ∨ ∃ j, j < k ∧ x 179 S = w_Hv N t (S : Int) ((w_pts N t).getD j (0, 0, 0)) ∧ x 181 S = ((w_pts N t).getD j (0, 0, 0)).2.2 ∧ ∀ i, i < k → w_F2 x S ≤ fr (w_Hv N t (S : Int) ((w_pts N t).getD i (0, 0, 0))) ((w_pts N t).getD i (0, 0, 0)).2.2) (by
    intro k x hk ⟨x1, x2⟩
    have hmem := getD_mem (d := (0, 0, 0)) hk
    obtain ⟨y1, y2, y3, y4⟩ := hok _ hmem
    have hr1 : ∀ z, q_fg σ z → z 165 k = (((w_pts N t).getD k (0, 0, 0)).1 : Int) := fun z hz => by rw [hz 165 (by omega) (by omega) (by omega)]; exact (hp.2 k hk).1
    have hr2 : ∀ z, q_fg σ z → z 167 k = ((w_pts N t).getD k (0, 0, 0)).2.1 := fun z hz => by rw [hz 167 (by omega) (by omega) (by omega)]; exact (hp.2 k hk).2.1
    have hr3 : ∀ z, q_fg σ z → z 169 k = ((w_pts N t).getD k (0, 0, 0)).2.2 := fun z hz => by rw [hz 169 (by omega) (by omega) (by omega)]; exact (hp.2 k hk).2.2
    have hva : v_a x N t := v_a_fr hv (fun a _ _ => x1 a (by omega) (by omega) (by omega))
    have hbd : ∀ S, S < 2 ^ w_nn N → 0 ≤ x 179 S ∧ x 179 S ≤ 251885700 ∧ 0 ≤ x 181 S ∧ x 181 S ≤ 1000 := by
      intro S hS
      rcases x2 S hS with ⟨-, a1, a2⟩ | ⟨j, j1, j2, j3, -⟩
      · rw [a1, a2]; omega
      · obtain ⟨u1, u2, -⟩ := hok _ (getD_mem (d := (0, 0, 0)) (show j < (w_pts N t).length by omega))
        have hb := w_Sb hw hc u1 u2 S
        rw [j2, j3]
        exact ⟨hb.1, hb.2, by have := u2.1; omega, u2.2.1⟩
    obtain ⟨ρ, r1, r2, r3, r4⟩ := p_lowers (Z := Z) (e := e) (s := s) hL hva hw hc y1 y2 hbd
    generalize hy : (w_pts N t).getD k (0, 0, 0) = y at *
    have e1 : (((k + 1 : Nat)) : Int) = (k : Int) + 1 := by omega
    have c0 : ¬ ((w_pts N t).length : Int) ≤ (k : Int) := by omega
    have h8 : x 138 8 = ((w_pts N t).length : Int) := by rw [x1 138 (by omega) (by omega) (by omega)]; exact hp.1
    refine ⟨ρ, ?_, fun a a1 a2 a3 => (r2 a a1 a2 a3).trans (x1 a a1 a2 a3), fun S hS => Or.inr ?_⟩
    · have g1 : q_get x 165 372 (k : Int) = (y.1 : Int) := by rw [q_get_nat (by omega) (by omega)]; exact hr1 x x1
      have g2 : q_get x 167 372 (k : Int) = y.2.1 := by rw [q_get_nat (by clear g1; omega) (by omega)]; exact hr2 x x1
      have g3 : q_get x 169 372 (k : Int) = y.2.2 := by rw [q_get_nat (by clear g1 g2; omega) (by omega)]; exact hr3 x x1
      have w0 : w32 (k : Int) = (k : Int) := q_w (by clear g1 g2 g3; omega)
      have w9 : w32 ((w_pts N t).length : Int) = ((w_pts N t).length : Int) := q_w (by clear g1 g2 g3 w0; omega)
      conv => lhs; simp only [b_2_55, ↓reduceIte, Nat.reduceEqDiff, Nat.reduceMul, q_n10, q_n01, Option.bind_some, g_aft0, g_aft1, g_aft2, g_aft3, g_aft9, Nat.reduceAdd, m_kill_0, m_kill_2, m_kill_3, m_kill_4, m_kill_9, true_or, or_true, q_lm1, q_l0, q_l1, q_l2, q_l3, q_l4, q_l5, q_l6, q_l8, q_l9, q_l10, q_l12, q_l32, q_l50, q_l120, q_l122, q_l126, q_l372, q_l1000, q_l1000000, q_grpF hL.2.2.2.2.1, q_surF hL.2.2.1, h8, w0, w9, c0]
      simp only [b_2_66, b_2_78, b_2_89, b_2_100, b_2_103, ↓reduceIte, Nat.reduceEqDiff, Nat.reduceMul, q_n10, q_n01, Option.bind_some, g_aft0, g_aft1, g_aft2, g_aft3, g_aft9, Nat.reduceAdd, m_kill_0, m_kill_2, m_kill_3, m_kill_4, m_kill_9, true_or, or_true, q_lm1, q_l0, q_l1, q_l2, q_l3, q_l4, q_l5, q_l6, q_l8, q_l9, q_l10, q_l12, q_l32, q_l50, q_l120, q_l122, q_l126, q_l372, q_l1000, q_l1000000, q_grpF hL.2.2.2.2.1, q_surF hL.2.2.1, r_get, g1, g2, g3, r1, e1]
    · have hq : 0 < y.2.2 := by have := y2.1; omega
      have hnew : (ρ 179 S, ρ 181 S) = w_lo (w_Hv N t (S : Int) y) y.2.2 (x 179 S, x 181 S) := (r3 S hS).2
      unfold w_lo at hnew
      dsimp only at hnew
      rcases x2 S hS with ⟨k0, a1, a2⟩ | ⟨j, j1, j2, j3, j4⟩
      · rw [a1, a2, if_pos (by omega)] at hnew
        have n1 : ρ 179 S = w_Hv N t (S : Int) y := congrArg Prod.fst hnew
        have n2 : ρ 181 S = y.2.2 := congrArg Prod.snd hnew
        refine ⟨k, by omega, by rw [hy]; exact n1, by rw [hy]; exact n2, fun i hi => ?_⟩
        have hi : i = k := by omega
        subst hi
        rw [hy]
        unfold w_F2
        rw [n1, n2]
        exact Rat.le_refl
      · obtain ⟨u1, u2, -⟩ := hok _ (getD_mem (d := (0, 0, 0)) (show j < (w_pts N t).length by omega))
        have hqj : 0 < ((w_pts N t).getD j (0, 0, 0)).2.2 := by have := u2.1; omega
        have hlt := fr_lt (p := w_Hv N t (S : Int) y) (q := y.2.2) (r := x 179 S) (s := x 181 S) hq (by rw [j3]; exact hqj)
        by_cases c : w_Hv N t (S : Int) y * x 181 S < x 179 S * y.2.2
        · rw [if_pos c] at hnew
          have n1 : ρ 179 S = w_Hv N t (S : Int) y := congrArg Prod.fst hnew
          have n2 : ρ 181 S = y.2.2 := congrArg Prod.snd hnew
          have hl : fr (w_Hv N t (S : Int) y) y.2.2 < w_F2 x S := hlt.mpr c
          refine ⟨k, by omega, by rw [hy]; exact n1, by rw [hy]; exact n2, fun i hi => ?_⟩
          have eρ : w_F2 ρ S = fr (w_Hv N t (S : Int) y) y.2.2 := by unfold w_F2; rw [n1, n2]
          rw [eρ]
          rcases Nat.lt_succ_iff_lt_or_eq.mp hi with hi | hi
          · exact Rat.le_trans (Rat.le_of_lt hl) (j4 i hi)
          · subst hi
            rw [hy]
            exact Rat.le_refl
        · rw [if_neg c] at hnew
          have n1 : ρ 179 S = x 179 S := congrArg Prod.fst hnew
          have n2 : ρ 181 S = x 181 S := congrArg Prod.snd hnew
          have eρ : w_F2 ρ S = w_F2 x S := by unfold w_F2; rw [n1, n2]
          refine ⟨j, by omega, n1.trans j2, n2.trans j3, fun i hi => ?_⟩
          rw [eρ]
          rcases Nat.lt_succ_iff_lt_or_eq.mp hi with hi | hi
          · exact j4 i hi
          · subst hi
            rw [hy]
            exact Rat.not_lt.mp (fun h => c (hlt.mp h))) (w_pts N t).length 0 σ (by omega) ⟨fun _ _ _ _ => rfl, fun S hS => Or.inl ⟨rfl, hr S hS⟩⟩
  refine ⟨x, ?_, h2, fun S hS => ?_⟩
  · have h8 : x 138 8 = ((w_pts N t).length : Int) := by rw [h2 138 (by omega) (by omega) (by omega)]; exact hp.1
    have w9 : w32 ((w_pts N t).length : Int) = ((w_pts N t).length : Int) := q_w (by omega)
    refine h1.trans ?_
    conv => lhs; simp only [b_2_55, ↓reduceIte, Nat.reduceEqDiff, Nat.reduceMul, q_n10, q_n01, Option.bind_some, g_aft0, g_aft1, g_aft2, g_aft3, g_aft9, Nat.reduceAdd, m_kill_0, m_kill_2, m_kill_3, m_kill_4, m_kill_9, true_or, or_true, q_lm1, q_l0, q_l1, q_l2, q_l3, q_l4, q_l5, q_l6, q_l8, q_l9, q_l10, q_l12, q_l32, q_l50, q_l120, q_l122, q_l126, q_l372, q_l1000, q_l1000000, q_grpF hL.2.2.2.2.1, q_surF hL.2.2.1, h8, w9, Int.le_refl]
  · have hl0 : 0 < (w_pts N t).length := List.length_pos_iff.mpr (w_pts_ne hw hne)
    rcases h3 S hS with ⟨k0, -⟩ | ⟨j, j1, j2, j3, j4⟩
    · omega
    · have hm := getD_mem (d := (0, 0, 0)) j1
      obtain ⟨u1, u2, -⟩ := hok _ hm
      have hb := w_Sb hw hc u1 u2 S
      refine ⟨⟨by rw [j3]; exact u2.1, by rw [j3]; exact u2.2.1, by rw [j2]; exact hb.1, by rw [j2]; exact hb.2⟩, ⟨⟨_, hm, by unfold w_F2; rw [j2, j3]⟩, fun y hy => ?_⟩, _, hm, j2⟩
      obtain ⟨i, hi, rfl⟩ := getD_ex (d := (0, 0, 0)) hy
      exact j4 i hi
theorem p_rate (hL : q_lay K) (hs : w_sv σ N t) (hc : w_cn N) (hne : 0 < w_ne N) (h1 : w32 (σ 177 1) ≠ w32 (σ 138 2)) : ∃ τ, m_cl Z 2 [(2, ((177 : Nat) : Int))] (K, σ, 191, e, s) = some (.inl (9, 0), (K, τ, 191, e, s)) ∧ w_gv τ N t ∧ τ 177 1 = σ 138 2 ∧ q_fq σ τ := by
  have hs' := hs
  obtain ⟨hw, hf, ⟨ht, ht2⟩, hv, -, hp, -⟩ := hs
  have n8 := (wf_n hw).2.2
  have n1 := (wf_n hw).2.1
  have p8 := q_pow8 n8
  have hn0 : σ 139 0 = (w_nn N : Int) := by rw [nAt_0 hv.1 (by omega), (wf_n hw).1]
  have hall : i_shl 1 (σ 139 0) - 1 = ((2 ^ w_nn N - 1 : Nat) : Int) := by
    rw [hn0, q_shl n8]
    omega
  generalize hρ : q_fill (q_fill (m_up2 (m_up2 σ 177 1 (σ 138 2)) 177 2 ((2 ^ w_nn N - 1 : Nat) : Int)) 179 768 (fun _ => 1)) 181 768 (fun _ => 0) = ρ
  have ρo : ∀ a, a ≠ 177 → a ≠ 179 → a ≠ 181 → ρ a = σ a := fun a a1 a2 a3 => by rw [← hρ, q_fill_ne a3, q_fill_ne a2, m_up2_ne a1, m_up2_ne a1]
  have ρ2 : ρ 177 2 = ((2 ^ w_nn N - 1 : Nat) : Int) ∧ ρ 177 1 = σ 138 2 := by
    rw [← hρ]
    simp (disch := omega) only [q_fill_ne, m_up2_at, m_up2_nk, and_self]
  have ρr : ∀ S, S < 2 ^ w_nn N → ρ 179 S = 1 ∧ ρ 181 S = 0 := fun S hS => by
    rw [← hρ]
    exact ⟨by rw [q_fill_ne (by omega), q_fill_at (by omega)], by rw [q_fill_at (by omega)]⟩
  have hsρ : w_sv ρ N t := by
    obtain ⟨s1, s2, s3, s4, s5, s6, s7, s8, s9⟩ := hs'
    have e138 := ρo 138 (by omega) (by omega) (by omega)
    have hvp : ∀ L, v_p σ L → v_p ρ L := fun L hl => ⟨by rw [e138]; exact hl.1, fun i hi => by
      rw [ρo 165 (by omega) (by omega) (by omega), ρo 167 (by omega) (by omega) (by omega), ρo 169 (by omega) (by omega) (by omega)]
      exact hl.2 i hi⟩
    exact ⟨s1, s2, s3, v_a_fr s4 (fun a _ _ => ρo a (by omega) (by omega) (by omega)), ⟨fun q => by rw [e138]; exact s5.1 q, fun q => by rw [e138]; exact s5.2 q⟩, fun q => hvp _ (s6 q), fun q => hvp _ (s7 q), by rw [e138]; exact s8, by rw [e138]; exact s9⟩
  obtain ⟨τ, t1, t2, t3⟩ := p_points (Z := Z) (e := e) (s := s) hL hsρ hc ρr hne
  have t177 : τ 177 = ρ 177 := t2 177 (by omega) (by omega) (by omega)
  have hz : τ 179 0 = 0 := by
    obtain ⟨-, -, y, hy, h⟩ := t3 0 (by omega)
    rw [h]
    exact w_H_0 n8
  -- divisions into two
  obtain ⟨ω, o1, o2, o3⟩ := q_loop (Z := Z) (N := 2 ^ w_nn N) (S := fun k x => (2, 111, [(2, ((177 : Nat) : Int)), (0, (k : Int))], [], (K, x, 191, e, s))) (P := fun k x => (∀ a, a ≠ 179 → a ≠ 181 → x a = τ a) ∧ (∀ j, j < 256 → x 179 j = τ 179 j ∧ x 181 j = τ 181 j) ∧ ∀ S, S < k → w_eo x (256 + S) ∧ w_isD (fun a => w_F2 τ a) (fun a => w_F2 τ a) S (w_F2 x (256 + S))) (by
    intro k x hk ⟨x1, x2, x3⟩
    have e1 : (((k + 1 : Nat)) : Int) = (k : Int) + 1 := by omega
    have c0 : ¬ ((2 ^ w_nn N - 1 : Nat) : Int) < (k : Int) := by omega
    have heo : ∀ a, a < 2 ^ w_nn N → w_eo x a := fun a ha => by
      have := (t3 a ha).1
      unfold w_eo
      rw [(x2 a (by omega)).1, (x2 a (by omega)).2]
      exact this
    have hF : ∀ a, a < 256 → w_F2 x a = w_F2 τ a := fun a ha => by unfold w_F2; rw [(x2 a ha).1, (x2 a ha).2]
    obtain ⟨b, y, d1, d2, d3, d4⟩ := p_divide (Z := Z) (σ := x) (e := e) (s := s) (k := 2) (B := 0) (S := k) hL (Or.inl ⟨rfl, rfl⟩) (by omega) (by rw [(x2 0 (by omega)).1]; exact hz) (fun a ha hsb => by
      have hle := (w_sub_le (show k < 256 by omega) ha hsb).1
      rw [Nat.zero_add]
      exact ⟨heo a (by omega), heo a (by omega)⟩)
    rw [show 0 + 256 + k = 256 + k by omega] at d1
    have hnew : w_F2 (m_up2 (m_up2 x 179 (256 + k) (x 179 b)) 181 (256 + k) (x 181 b)) (256 + k) = w_F2 x b := by
      unfold w_F2
      rw [m_up2_at, m_up2_ne (by omega), m_up2_at]
    refine ⟨m_up2 (m_up2 x 179 (256 + k) (x 179 b)) 181 (256 + k) (x 181 b), ?_, fun a a1 a2 => ?_, fun j hj => ?_, fun S hS => ?_⟩
    · have h2 : x 177 2 = ((2 ^ w_nn N - 1 : Nat) : Int) := by rw [x1 177 (by omega) (by omega), t177]; exact ρ2.1
      have w0 : w32 (k : Int) = (k : Int) := q_w (by omega)
      have w9 : w32 ((2 ^ w_nn N - 1 : Nat) : Int) = ((2 ^ w_nn N - 1 : Nat) : Int) := q_w (by clear w0; omega)
      conv => lhs; simp only [b_2_111, ↓reduceIte, Nat.reduceEqDiff, Nat.reduceMul, q_n10, q_n01, Option.bind_some, g_aft0, g_aft1, g_aft2, g_aft3, g_aft9, Nat.reduceAdd, m_kill_0, m_kill_2, m_kill_3, m_kill_4, m_kill_9, true_or, or_true, q_lm1, q_l0, q_l1, q_l2, q_l3, q_l4, q_l5, q_l6, q_l8, q_l9, q_l10, q_l12, q_l32, q_l50, q_l120, q_l122, q_l126, q_l372, q_l1000, q_l1000000, q_grpF hL.2.2.2.2.1, q_surF hL.2.2.1, h2, w0, w9, c0]
      simp only [b_2_119, b_2_125, ↓reduceIte, Nat.reduceEqDiff, Nat.reduceMul, q_n10, q_n01, Option.bind_some, g_aft0, g_aft1, g_aft2, g_aft3, g_aft9, Nat.reduceAdd, m_kill_0, m_kill_2, m_kill_3, m_kill_4, m_kill_9, true_or, or_true, q_lm1, q_l0, q_l1, q_l2, q_l3, q_l4, q_l5, q_l6, q_l8, q_l9, q_l10, q_l12, q_l32, q_l50, q_l120, q_l122, q_l126, q_l372, q_l1000, q_l1000000, q_grpF hL.2.2.2.2.1, q_surF hL.2.2.1, d1, e1]
    · rw [m_up2_ne a2, m_up2_ne a1]
      exact x1 a a1 a2
    · simp (disch := omega) only [m_up2_ne, m_up2_nk]
      exact x2 j hj
    · rcases Nat.lt_succ_iff_lt_or_eq.mp hS with hS | hS
      · have := x3 S hS
        unfold w_eo w_F2 at *
        simp (disch := omega) only [m_up2_ne, m_up2_nk]
        exact this
      · subst hS
        refine ⟨?_, ?_⟩
        · unfold w_eo
          rw [m_up2_at, m_up2_ne (by omega), m_up2_at]
          exact d2
        · rw [hnew, ← d3]
          refine w_isD_congr (by omega) (fun a ha => hF a (by omega)) (fun a ha => ?_) d4
          show w_F2 x (0 + a) = _
          rw [Nat.zero_add]
          exact hF a (by omega)) (2 ^ w_nn N) 0 τ (by omega) ⟨fun _ _ _ => rfl, fun _ _ => ⟨rfl, rfl⟩, fun S hS => absurd hS (by omega)⟩
  obtain ⟨o3, o4⟩ := o3
  have hF : ∀ a, a < 256 → w_F2 ω a = w_F2 τ a := fun a ha => by unfold w_F2; rw [(o3 a ha).1, (o3 a ha).2]
  have heo : ∀ a, a < 2 ^ w_nn N → w_eo ω a := fun a ha => by
    have := (t3 a ha).1
    unfold w_eo
    rw [(o3 a (by omega)).1, (o3 a (by omega)).2]
    exact this
  obtain ⟨b, y, d1, d2, d3, d4⟩ := p_divide (Z := Z) (σ := ω) (e := e) (s := s) (k := 3) (B := 256) (S := 2 ^ w_nn N - 1) hL (Or.inr ⟨rfl, rfl⟩) (by omega) (by rw [(o3 0 (by omega)).1]; exact hz) (fun a ha hsb => by
    have hle := (w_sub_le (show 2 ^ w_nn N - 1 < 256 by omega) ha hsb).1
    exact ⟨heo a (by omega), (o4 a (by omega)).1⟩)
  rw [show 256 + 256 + (2 ^ w_nn N - 1) = 512 + (2 ^ w_nn N - 1) by omega] at d1
  generalize hφ : m_up2 (m_up2 ω 179 (512 + (2 ^ w_nn N - 1)) (ω 179 b)) 181 (512 + (2 ^ w_nn N - 1)) (ω 181 b) = φ at *
  have φlt : ∀ j, j < 512 → φ 179 j = ω 179 j ∧ φ 181 j = ω 181 j := fun j hj => by
    rw [← hφ]
    simp (disch := omega) only [m_up2_ne, m_up2_nk, and_self]
  have φF : ∀ j, j < 512 → w_F2 φ j = w_F2 ω j := fun j hj => by unfold w_F2; rw [(φlt j hj).1, (φlt j hj).2]
  have φe : ∀ j, j < 512 → w_eo ω j → w_eo φ j := fun j hj h => by unfold w_eo at *; rw [(φlt j hj).1, (φlt j hj).2]; exact h
  have φo : ∀ a, a ≠ 179 → a ≠ 181 → φ a = τ a := fun a a1 a2 => by rw [← hφ, m_up2_ne a2, m_up2_ne a1]; exact o2 a a1 a2
  have φt : φ 179 (512 + (2 ^ w_nn N - 1)) = ω 179 b ∧ φ 181 (512 + (2 ^ w_nn N - 1)) = ω 181 b := by
    rw [← hφ, m_up2_at, m_up2_ne (by omega), m_up2_at]
    exact ⟨rfl, rfl⟩
  refine ⟨φ, ?_, ⟨?_, fun S hS => ⟨φe S (by omega) (heo S hS), ?_⟩, fun S hS => ⟨φe _ (by omega) (o4 S hS).1, ?_⟩, ?_, ?_⟩, ?_, ?_⟩
  · have h1' : ¬ w32 (σ 177 1) = w32 (σ 138 2) := h1
    have hl2 : ω 177 2 = ((2 ^ w_nn N - 1 : Nat) : Int) := by rw [o2 177 (by omega) (by omega), t177]; exact ρ2.1
    have c9 : ((2 ^ w_nn N - 1 : Nat) : Int) < ((2 ^ w_nn N : Nat) : Int) := by omega
    have w8 : w32 ((2 ^ w_nn N : Nat) : Int) = ((2 ^ w_nn N : Nat) : Int) := q_w (by clear hall h1'; omega)
    have w9 : w32 ((2 ^ w_nn N - 1 : Nat) : Int) = ((2 ^ w_nn N - 1 : Nat) : Int) := q_w (by clear w8 hall h1'; omega)
    simp only [e_2, b_2_0, b_2_15, b_2_34, b_2_45, b_2_53, ↓reduceIte, Nat.reduceEqDiff, Nat.reduceMul, q_n10, q_n01, Option.bind_some, g_aft0, g_aft1, g_aft2, g_aft3, g_aft9, Nat.reduceAdd, m_kill_0, m_kill_2, m_kill_3, m_kill_4, m_kill_9, true_or, or_true, q_lm1, q_l0, q_l1, q_l2, q_l3, q_l4, q_l5, q_l6, q_l8, q_l9, q_l10, q_l12, q_l32, q_l50, q_l120, q_l122, q_l126, q_l372, q_l1000, q_l1000000, q_grpF hL.2.2.2.2.1, q_surF hL.2.2.1, h1', s_allNodes hL, m_up2_ne, ne_eq, not_false_eq_true, hall, r_fill, hρ]
    refine Eq.trans t1 ?_
    simp only [b_2_109, ↓reduceIte, Nat.reduceEqDiff, Nat.reduceMul, q_n10, q_n01, Option.bind_some, g_aft0, g_aft1, g_aft2, g_aft3, g_aft9, Nat.reduceAdd, m_kill_0, m_kill_2, m_kill_3, m_kill_4, m_kill_9, true_or, or_true, q_lm1, q_l0, q_l1, q_l2, q_l3, q_l4, q_l5, q_l6, q_l8, q_l9, q_l10, q_l12, q_l32, q_l50, q_l120, q_l122, q_l126, q_l372, q_l1000, q_l1000000]
    refine Eq.trans o1 ?_
    simp only [b_2_111, b_2_131, b_2_140, ↓reduceIte, Nat.reduceEqDiff, Nat.reduceMul, q_n10, q_n01, Option.bind_some, g_aft0, g_aft1, g_aft2, g_aft3, g_aft9, Nat.reduceAdd, m_kill_0, m_kill_2, m_kill_3, m_kill_4, m_kill_9, true_or, or_true, q_lm1, q_l0, q_l1, q_l2, q_l3, q_l4, q_l5, q_l6, q_l8, q_l9, q_l10, q_l12, q_l32, q_l50, q_l120, q_l122, q_l126, q_l372, q_l1000, q_l1000000, q_grpF hL.2.2.2.2.1, q_surF hL.2.2.1, hl2, w8, w9, c9, d1]
  · rw [φo 177 (by omega) (by omega), t177]; exact ρ2.1
  · rw [φF S (by omega), hF S (by omega)]
    exact (t3 S hS).2.1
  · rw [φF _ (by omega)]
    exact w_isD_congr (by omega) (fun a ha => by rw [φF a (by omega), hF a (by omega)]) (fun a ha => by rw [φF a (by omega), hF a (by omega)]) (o4 S hS).2
  · unfold w_eo
    rw [φt.1, φt.2]
    exact d2
  · have : w_F2 φ (512 + (2 ^ w_nn N - 1)) = y := by rw [d3]; unfold w_F2; rw [φt.1, φt.2]
    rw [this]
    exact w_isD_congr (by omega) (fun a ha => (φF a (by omega)).symm) (fun a ha => (φF (256 + a) (by omega)).symm) d4
  · rw [φo 177 (by omega) (by omega), t177]; exact ρ2.2
  · intro a a1 a2 a3 a4
    rw [φo a a2 a3, t2 a a2 a3 a4]
    exact ρo a a1 a2 a3
end
end
