section
/-! Groups: radii. -/
def w_F2 (σ : Nat → Nat → Int) (j : Nat) : Rat := fr (σ 179 j) (σ 181 j)
def w_eo (σ : Nat → Nat → Int) (j : Nat) : Prop := 1 ≤ σ 181 j ∧ σ 181 j ≤ 1000 ∧ 0 ≤ σ 179 j ∧ σ 179 j ≤ 251885700
def w_lo (v q : Int) (x : Int × Int) : Int × Int := if v * x.2 < x.1 * q then (v, q) else x
def q_fg (σ τ : Nat → Nat → Int) : Prop := (∀ a, a ≠ 179 → a ≠ 181 → a ≠ 183 → τ a = σ a)
/-- the radii behind the first m sets of a point -/
def w_G (σ τ : Nat → Nat → Int) (H : Nat → Int) (q : Int) (m : Nat) : Prop := q_fg σ τ ∧ (∀ S, S < m → τ 183 S = H S ∧ (τ 179 S, τ 181 S) = w_lo (H S) q (σ 179 S, σ 181 S)) ∧ ∀ S, m ≤ S → τ 179 S = σ 179 S ∧ τ 181 S = σ 181 S
section
variable {Z : mZ} {K : Nat → mK} {σ τ N : Nat → Nat → Int} {e s g i m : Nat} {t p q v : Int}
theorem p_place {k S : Nat} (hk : 1 ≤ k) : m_cl Z 1 [(0, (k : Int)), (0, (S : Int))] (K, σ, 191, e, s) = some (.inl (0, (((k - 1) * 256 + S : Nat) : Int)), (K, σ, 191, e, s)) := by
  have e1 : ((k : Int) - 1) * 256 + (S : Int) = (((k - 1) * 256 + S : Nat) : Int) := by
    rw [Int.natCast_add, Int.natCast_mul, Int.natCast_sub hk]
    rfl
  simp only [e_1, b_1_0, e1]
theorem p_lower {H : Nat → Int} (hL : q_lay K) (hG : w_G σ τ H q m) (hm : m < 256) (hv : 0 ≤ H m ∧ H m ≤ 251885700) (hq : 1 ≤ q ∧ q ≤ 1000) (hb : 0 ≤ σ 179 m ∧ σ 179 m ≤ 251885700 ∧ 0 ≤ σ 181 m ∧ σ 181 m ≤ 1000) : ∃ ρ, m_cl Z 4 [(2, ((177 : Nat) : Int)), (0, (m : Int)), (0, H m), (0, q)] (K, τ, 191, e, s) = some (.inl (9, 0), (K, ρ, 191, e, s)) ∧ w_G σ ρ H q (m + 1) := by
  obtain ⟨g1, g2, g3⟩ := hG
  obtain ⟨u1, u2⟩ := g3 m (Nat.le_refl m)
  have m1 := q_mb hv.1 hv.2 hb.2.2.1 hb.2.2.2
  have m2 := q_mb hb.1 hb.2.1 (show 0 ≤ q by omega) hq.2
  have r1 : ∀ v, q_set τ 183 256 (m : Int) v = m_up2 τ 183 m v := fun v => q_set_nat hm (by omega)
  have r2 : ∀ x v, q_set x 179 768 (m : Int) v = m_up2 x 179 m v := fun x v => q_set_nat (by omega) (by omega)
  have r3 : ∀ x v, q_set x 181 768 (m : Int) v = m_up2 x 181 m v := fun x v => q_set_nat (by omega) (by omega)
  have r4 : ∀ v, q_get (m_up2 τ 183 m v) 181 768 (m : Int) = σ 181 m := fun v => by rw [q_get_nat (by omega) (by omega), m_up2_ne (by omega), u2]
  have r5 : ∀ v, q_get (m_up2 τ 183 m v) 179 768 (m : Int) = σ 179 m := fun v => by rw [q_get_nat (by omega) (by omega), m_up2_ne (by omega), u1]
  have z1 : w64 (H m * σ 181 m) = H m * σ 181 m := q_w64 (by omega) (by omega)
  have z2 : w64 (σ 179 m * q) = σ 179 m * q := by clear z1; exact q_w64 (by omega) (by omega)
  have y1 : w32 (H m) = H m := by clear z1 z2; exact q_wB (by omega) (by omega)
  have y2 : w32 q = q := by clear z1 z2 y1; exact q_wB (by omega) (by omega)
  have y3 : w32 (σ 179 m) = σ 179 m := by clear z1 z2 y1 y2; exact q_wB (by omega) (by omega)
  have y4 : w32 (σ 181 m) = σ 181 m := by clear z1 z2 y1 y2 y3; exact q_wB (by omega) (by omega)
  by_cases c : H m * σ 181 m < σ 179 m * q
  · have c' := Int.not_le.mpr c
    refine ⟨m_up2 (m_up2 (m_up2 τ 183 m (H m)) 179 m (H m)) 181 m q, ?_, ?_, fun S hS => ?_, fun S hS => ?_⟩
    · simp only [e_4, b_4_0, b_4_9, b_4_19, b_4_29, b_4_37, b_4_46, b_4_55, ↓reduceIte, Nat.reduceEqDiff, Nat.reduceMul, q_n10, q_n01, Option.bind_some, g_aft0, g_aft1, g_aft2, g_aft3, g_aft9, Nat.reduceAdd, m_kill_0, m_kill_2, m_kill_3, m_kill_4, m_kill_9, true_or, or_true, q_lm1, q_l0, q_l1, q_l2, q_l3, q_l4, q_l5, q_l6, q_l8, q_l9, q_l10, q_l12, q_l32, q_l50, q_l120, q_l122, q_l126, q_l372, q_l1000, q_l1000000, q_grpF hL.2.2.2.2.1, r_set, r_get, r1, r2, r3, r4, r5, y1, y2, y3, y4, l_cge z1 z2, c']
    · intro a a1 a2 a3
      rw [m_up2_ne a2, m_up2_ne a1, m_up2_ne a3]
      exact g1 a a1 a2 a3
    · clear z1 z2 y1 y2 y3 y4
      by_cases d : S = m
      · subst d
        simp (disch := omega) only [m_up2_ne, m_up2_at]
        exact ⟨trivial, by unfold w_lo; rw [if_pos c]⟩
      · simp (disch := omega) only [m_up2_ne, m_up2_nk]
        exact g2 S (by omega)
    · clear z1 z2 y1 y2 y3 y4
      simp (disch := omega) only [m_up2_ne, m_up2_nk]
      exact g3 S (by omega)
  · have c' := Int.not_lt.mp c
    refine ⟨m_up2 τ 183 m (H m), ?_, ?_, fun S hS => ?_, fun S hS => ?_⟩
    · simp only [e_4, b_4_0, b_4_9, b_4_19, b_4_29, b_4_37, b_4_46, b_4_55, ↓reduceIte, Nat.reduceEqDiff, Nat.reduceMul, q_n10, q_n01, Option.bind_some, g_aft0, g_aft1, g_aft2, g_aft3, g_aft9, Nat.reduceAdd, m_kill_0, m_kill_2, m_kill_3, m_kill_4, m_kill_9, true_or, or_true, q_lm1, q_l0, q_l1, q_l2, q_l3, q_l4, q_l5, q_l6, q_l8, q_l9, q_l10, q_l12, q_l32, q_l50, q_l120, q_l122, q_l126, q_l372, q_l1000, q_l1000000, q_grpF hL.2.2.2.2.1, r_set, r_get, r1, r2, r3, r4, r5, y1, y2, y3, y4, l_cge z1 z2, c']
    · intro a a1 a2 a3
      rw [m_up2_ne a3]
      exact g1 a a1 a2 a3
    · clear z1 z2 y1 y2 y3 y4
      by_cases d : S = m
      · subst d
        rw [m_up2_at, m_up2_ne (by omega), m_up2_ne (by omega), u1, u2]
        exact ⟨rfl, by unfold w_lo; rw [if_neg c]⟩
      · rw [m_up2_nk d, m_up2_ne (by omega), m_up2_ne (by omega)]
        exact g2 S (by omega)
    · clear z1 z2 y1 y2 y3 y4
      rw [m_up2_ne (by omega), m_up2_ne (by omega)]
      exact g3 S (by omega)
theorem w_Sb (hw : q_wf N) (hc : w_cn N) (hg : g < w_ne N) (hp : w_pq N t g p q) (S : Nat) : 0 ≤ w_H N t (S : Int) g p q (w_nn N) ∧ w_H N t (S : Int) g p q (w_nn N) ≤ 251885700 := w_Hb hw hc hg hp _ (Nat.le_refl _)
/-- one point for all sets -/
theorem p_lowers (hL : q_lay K) (hv : v_a σ N t) (hw : q_wf N) (hc : w_cn N) (hg : g < w_ne N) (hp : w_pq N t g p q) (hb : ∀ S, S < 2 ^ w_nn N → 0 ≤ σ 179 S ∧ σ 179 S ≤ 251885700 ∧ 0 ≤ σ 181 S ∧ σ 181 S ≤ 1000) : ∃ ρ, m_cl Z 3 [(2, ((177 : Nat) : Int)), (0, (g : Int)), (0, p), (0, q)] (K, σ, 191, e, s) = some (.inl (9, 0), (K, ρ, 191, e, s)) ∧ w_G σ ρ (fun S => w_H N t (S : Int) g p q (w_nn N)) q (2 ^ w_nn N) := by
  have n8 := (wf_n hw).2.2
  have p8 := q_pow8 n8
  have hq : 1 ≤ q ∧ q ≤ 1000 := ⟨hp.1, hp.2.1⟩
  have h0 : w_H N t ((0 : Nat) : Int) g p q (w_nn N) = 0 := w_H_0 n8
  obtain ⟨ρ0, a1, a2⟩ := p_lower (Z := Z) (e := e) (s := s) (σ := σ) (τ := σ) (m := 0) (q := q) (H := fun S => w_H N t (S : Int) g p q (w_nn N)) hL ⟨fun _ _ _ _ => rfl, fun S hS => absurd hS (by omega), fun _ _ => ⟨rfl, rfl⟩⟩ (by omega) (w_Sb hw hc hg hp 0) hq (hb 0 (by omega))
  have w9 : w32 (w_nn N : Int) = (w_nn N : Int) := q_w (by omega)
  have inner : ∀ i, i < w_nn N → ∀ x m5, w_G σ x (fun S => w_H N t (S : Int) g p q (w_nn N)) q (2 ^ i) → ∃ y, m_run Z (3, 45, [(2, ((177 : Nat) : Int)), (0, (g : Int)), (0, p), (0, q), (0, (i : Int)), (0, m5), (0, ((2 ^ i : Nat) : Int)), (0, ((0 : Nat) : Int))], [], (K, x, 191, e, s)) = m_run Z (3, 45, [(2, ((177 : Nat) : Int)), (0, (g : Int)), (0, p), (0, q), (0, (i : Int)), (0, m5), (0, ((2 ^ i : Nat) : Int)), (0, ((2 ^ i : Nat) : Int))], [], (K, y, 191, e, s)) ∧ (m5 = w_F N t g i p q → w_G σ y (fun S => w_H N t (S : Int) g p q (w_nn N)) q (2 ^ i + 2 ^ i)) ∨ m5 ≠ w_F N t g i p q := by
    intro i hi x m5 hx
    by_cases hm5 : m5 = w_F N t g i p q
    case neg => exact ⟨x, Or.inr hm5⟩
    subst hm5
    have pi := q_pow8 (n := i) (by clear w9; omega)
    have pi2 : 2 ^ i + 2 ^ i ≤ 2 ^ w_nn N := by
      have : 2 ^ (i + 1) ≤ 2 ^ w_nn N := Nat.pow_le_pow_right (by omega) hi
      rw [Nat.pow_succ] at this
      clear w9
      omega
    obtain ⟨y, y1, y2⟩ := q_loop (Z := Z) (N := 2 ^ i) (S := fun o x => (3, 45, [(2, ((177 : Nat) : Int)), (0, (g : Int)), (0, p), (0, q), (0, (i : Int)), (0, w_F N t g i p q), (0, ((2 ^ i : Nat) : Int)), (0, (o : Int))], [], (K, x, 191, e, s))) (P := fun o x => w_G σ x (fun S => w_H N t (S : Int) g p q (w_nn N)) q (2 ^ i + o)) (by
      intro o x ho hx
      have e1 : (((o + 1 : Nat)) : Int) = (o : Int) + 1 := by omega
      have eo : ((2 ^ i : Nat) : Int) + (o : Int) = ((2 ^ i + o : Nat) : Int) := by omega
      have c0 : ¬ ((2 ^ i : Nat) : Int) ≤ (o : Int) := by clear w9; omega
      have hlt : 2 ^ i + o < 2 ^ w_nn N := by clear w9; omega
      have hbit := w_H_bit (N := N) (t := t) (p := p) (q := q) (g := g) hi n8 ho
      have hF := w_Fb hw hc hg hi hp
      have hHo := w_Sb hw hc hg hp o
      obtain ⟨ρ, r1, r2⟩ := p_lower (Z := Z) (e := e) (s := s) (H := fun S => w_H N t (S : Int) g p q (w_nn N)) hL hx (show 2 ^ i + o < 256 by clear w9; omega) (w_Sb hw hc hg hp _) hq (hb _ hlt)
      have g1 : q_get x 183 256 (o : Int) = w_H N t (o : Int) g p q (w_nn N) := by
        rw [q_get_nat (by clear w9; omega) (by omega)]
        exact (hx.2.1 o (by clear w9; omega)).1
      have wF : w32 (w_F N t g i p q) = w_F N t g i p q := by clear w9 g1; exact q_wB (by omega) (by omega)
      have wH : w32 (w_H N t (o : Int) g p q (w_nn N)) = w_H N t (o : Int) g p q (w_nn N) := by clear w9 g1 wF; exact q_wB (by omega) (by omega)
      have wo : w32 (o : Int) = (o : Int) := q_w (by clear w9 g1 wF wH; omega)
      have wp : w32 ((2 ^ i : Nat) : Int) = ((2 ^ i : Nat) : Int) := q_w (by clear w9 g1 wF wH wo; omega)
      have hmx : (if w_F N t g i p q < w_H N t (o : Int) g p q (w_nn N) then w_H N t (o : Int) g p q (w_nn N) else w_F N t g i p q) = w_H N t ((2 ^ i + o : Nat) : Int) g p q (w_nn N) := by
        rw [hbit]
        clear w9 g1 wF wH wo wp
        split <;> split <;> omega
      refine ⟨ρ, ?_, r2⟩
      conv => lhs; simp only [b_3_45, ↓reduceIte, Nat.reduceEqDiff, Nat.reduceMul, q_n10, q_n01, Option.bind_some, g_aft0, g_aft1, g_aft2, g_aft3, g_aft9, Nat.reduceAdd, m_kill_0, m_kill_2, m_kill_3, m_kill_4, m_kill_9, true_or, or_true, q_lm1, q_l0, q_l1, q_l2, q_l3, q_l4, q_l5, q_l6, q_l8, q_l9, q_l10, q_l12, q_l32, q_l50, q_l120, q_l122, q_l126, q_l372, q_l1000, q_l1000000, wo, wp, c0]
      simp only [b_3_52, b_3_69, b_3_76, ↓reduceIte, Nat.reduceEqDiff, Nat.reduceMul, q_n10, q_n01, Option.bind_some, g_aft0, g_aft1, g_aft2, g_aft3, g_aft9, Nat.reduceAdd, m_kill_0, m_kill_2, m_kill_3, m_kill_4, m_kill_9, true_or, or_true, q_lm1, q_l0, q_l1, q_l2, q_l3, q_l4, q_l5, q_l6, q_l8, q_l9, q_l10, q_l12, q_l32, q_l50, q_l120, q_l122, q_l126, q_l372, q_l1000, q_l1000000, q_grpF hL.2.2.2.2.1, q_surF hL.2.2.1, r_get, g1, wF, wH, hmx, eo, r1, e1]) (2 ^ i) 0 x (by omega) hx
    exact ⟨y, Or.inl ⟨y1, fun _ => y2⟩⟩
  obtain ⟨y, y1, y2⟩ := q_loop (Z := Z) (N := w_nn N) (S := fun i (x : (Nat → Nat → Int) × mV × mV × mV) => (3, 10, [(2, ((177 : Nat) : Int)), (0, (g : Int)), (0, p), (0, q), (0, (i : Int)), x.2.1, x.2.2.1, x.2.2.2], [], (K, x.1, 191, e, s))) (P := fun i x => w_G σ x.1 (fun S => w_H N t (S : Int) g p q (w_nn N)) q (2 ^ i)) (by
    intro i x hi hx
    have e1 : (((i + 1 : Nat)) : Int) = (i : Int) + 1 := by omega
    have c0 : ¬ (w_nn N : Int) ≤ (i : Int) := by clear w9; omega
    have hva : v_a x.1 N t := v_a_fr hv (fun a _ _ => hx.1 a (by omega) (by omega) (by omega))
    have hn := v_n hva.1 hw
    obtain ⟨y, hy⟩ := inner i hi x.1 (w_F N t g i p q) hx
    rcases hy with ⟨hy1, hy2⟩ | hy
    case inr => exact absurd rfl hy
    refine ⟨(y, (0, w_F N t g i p q), (0, ((2 ^ i : Nat) : Int)), (0, ((2 ^ i : Nat) : Int))), ?_, ?_⟩
    · have hs := q_shl (i := i) (by clear w9 hn; omega)
      have wi : w32 (i : Int) = (i : Int) := q_w (by clear w9 hn hs; omega)
      have pi := q_pow8 (n := i) (by clear w9 hn wi hs; omega)
      have wp : w32 ((2 ^ i : Nat) : Int) = ((2 ^ i : Nat) : Int) := q_w (by clear w9 hn hs wi; omega)
      conv => lhs; simp only [b_3_10, ↓reduceIte, Nat.reduceEqDiff, Nat.reduceMul, q_n10, q_n01, Option.bind_some, g_aft0, g_aft1, g_aft2, g_aft3, g_aft9, Nat.reduceAdd, m_kill_0, m_kill_2, m_kill_3, m_kill_4, m_kill_9, true_or, or_true, q_lm1, q_l0, q_l1, q_l2, q_l3, q_l4, q_l5, q_l6, q_l8, q_l9, q_l10, q_l12, q_l32, q_l50, q_l120, q_l122, q_l126, q_l372, q_l1000, q_l1000000, q_grpF hL.2.2.2.2.1, q_surF hL.2.2.1, s_nodes hL]
      simp only [b_3_19, b_3_22, b_3_34, ↓reduceIte, Nat.reduceEqDiff, Nat.reduceMul, q_n10, q_n01, Option.bind_some, g_aft0, g_aft1, g_aft2, g_aft3, g_aft9, Nat.reduceAdd, m_kill_0, m_kill_2, m_kill_3, m_kill_4, m_kill_9, true_or, or_true, q_lm1, q_l0, q_l1, q_l2, q_l3, q_l4, q_l5, q_l6, q_l8, q_l9, q_l10, q_l12, q_l32, q_l50, q_l120, q_l122, q_l126, q_l372, q_l1000, q_l1000000, q_grpF hL.2.2.2.2.1, q_surF hL.2.2.1, hn, wi, c0, s_wgt hL hva.2.2.2 hva.2.1 hw hc hg hi hp, hs]
      refine Eq.trans hy1 ?_
      simp only [b_3_45, b_3_82, ↓reduceIte, Nat.reduceEqDiff, Nat.reduceMul, q_n10, q_n01, Option.bind_some, g_aft0, g_aft1, g_aft2, g_aft3, g_aft9, Nat.reduceAdd, m_kill_0, m_kill_2, m_kill_3, m_kill_4, m_kill_9, true_or, or_true, q_lm1, q_l0, q_l1, q_l2, q_l3, q_l4, q_l5, q_l6, q_l8, q_l9, q_l10, q_l12, q_l32, q_l50, q_l120, q_l122, q_l126, q_l372, q_l1000, q_l1000000, wp, Int.le_refl, e1]
    · have h2 := hy2 rfl
      rw [Nat.pow_succ, Nat.mul_two]
      exact h2) (w_nn N) 0 (ρ0, (9, 0), (9, 0), (9, 0)) (by omega) a2
  have hn := v_n (v_a_fr (N := N) (t := t) hv (fun a _ _ => y2.1 a (by omega) (by omega) (by omega))).1 hw
  refine ⟨y.1, ?_, y2⟩
  rw [h0] at a1
  have a1' : m_cl Z 4 [(2, ((177 : Nat) : Int)), (0, 0), (0, 0), (0, q)] (K, σ, 191, e, s) = some (.inl (9, 0), (K, ρ0, 191, e, s)) := a1
  simp only [e_3, b_3_0, b_3_7, ↓reduceIte, Nat.reduceEqDiff, Nat.reduceMul, q_n10, q_n01, Option.bind_some, g_aft0, g_aft1, g_aft2, g_aft3, g_aft9, Nat.reduceAdd, m_kill_0, m_kill_2, m_kill_3, m_kill_4, m_kill_9, true_or, or_true, q_lm1, q_l0, q_l1, q_l2, q_l3, q_l4, q_l5, q_l6, q_l8, q_l9, q_l10, q_l12, q_l32, q_l50, q_l120, q_l122, q_l126, q_l372, q_l1000, q_l1000000, q_grpF hL.2.2.2.2.1, a1']
  refine Eq.trans y1 ?_
  simp only [b_3_10, b_3_19, b_3_88, ↓reduceIte, Nat.reduceEqDiff, Nat.reduceMul, q_n10, q_n01, Option.bind_some, g_aft0, g_aft1, g_aft2, g_aft3, g_aft9, Nat.reduceAdd, m_kill_0, m_kill_2, m_kill_3, m_kill_4, m_kill_9, true_or, or_true, q_lm1, q_l0, q_l1, q_l2, q_l3, q_l4, q_l5, q_l6, q_l8, q_l9, q_l10, q_l12, q_l32, q_l50, q_l120, q_l122, q_l126, q_l372, q_l1000, q_l1000000, q_grpF hL.2.2.2.2.1, q_surF hL.2.2.1, s_nodes hL, hn, w9, Int.le_refl]
end
end
