section
/-! The survey's reading methods. -/
def w_W (N : Nat → Nat → Int) (t : Int) (i : Nat) : Int := N 2 i + t * N 4 i
def w_o (N : Nat → Nat → Int) (g i : Nat) : Int := w_D N i (w_f N g)
def w_b (N : Nat → Nat → Int) (g i : Nat) : Int := w_D N i (w_s N g) + N 10 g
def w_R (N : Nat → Nat → Int) (g i : Nat) (p q : Int) : Int := if w_b N g i * q - p < w_o N g i * q + p then w_b N g i * q - p else w_o N g i * q + p
def w_F (N : Nat → Nat → Int) (t : Int) (g i : Nat) (p q : Int) : Int := w_W N t i * w_R N g i p q
def q_bt (x : Int) (i : Nat) : Bool := decide (w32 (i_and (i_shr x (i : Int)) 1) = 1)
theorem q_btE {x : Int} {i : Nat} : (w32 (i_and (i_shr x (i : Int)) 1) = 1) = (q_bt x i = true) := by unfold q_bt; rw [decide_eq_true_eq]
def w_H (N : Nat → Nat → Int) (t S : Int) (g : Nat) (p q : Int) : Nat → Int
  | 0 => 0
  | k + 1 => if q_bt S k = true ∧ w_H N t S g p q k < w_F N t g k p q then w_F N t g k p q else w_H N t S g p q k
def w_C (N : Nat → Nat → Int) (t : Int) (g : Nat) (p q : Int) : Nat → Int
  | 0 => 0
  | k + 1 => w_C N t g p q k + w_F N t g k p q
def w_or (P : Nat → Bool) : Nat → Int
  | 0 => 0
  | k + 1 => if P k = true then i_or (w_or P k) (i_shl 1 (k : Int)) else w_or P k
def v_w (σ : Nat → Nat → Int) (N : Nat → Nat → Int) (t : Int) : Prop := ∀ i, i < 8 → σ 157 i = w_W N t i
def v_d (σ : Nat → Nat → Int) (N : Nat → Nat → Int) : Prop := ∀ a b, a < w_nn N → b < w_nn N → σ 159 (8 * a + b) = w_D N a b
def v_e (σ : Nat → Nat → Int) (N : Nat → Nat → Int) : Prop := ∀ g i, g < w_ne N → i < w_nn N → σ 161 (8 * g + i) = w_o N g i ∧ σ 163 (8 * g + i) = w_b N g i
def w_pq (N : Nat → Nat → Int) (t : Int) (g : Nat) (p q : Int) : Prop := 1 ≤ q ∧ q ≤ 1000 ∧ (9 + 9 * t) * q ≤ 19602 ∧ 0 ≤ t ∧ 0 ≤ p ∧ p ≤ N 10 g * q
theorem q_mb {a b A B : Int} (h1 : 0 ≤ a) (h2 : a ≤ A) (h3 : 0 ≤ b) (h4 : b ≤ B) : 0 ≤ a * b ∧ a * b ≤ A * B := ⟨Int.mul_nonneg h1 h3, Int.mul_le_mul h2 h4 h3 (by omega)⟩
section
variable {N : Nat → Nat → Int} {t p q : Int} {g i : Nat}
theorem w_ob (hw : q_wf N) (hc : w_cn N) (hg : g < w_ne N) (hi : i < w_nn N) : 0 ≤ w_o N g i ∧ w_o N g i ≤ 12800 ∧ 1 ≤ w_b N g i ∧ w_b N g i ≤ 12850 ∧ N 10 g ≤ w_b N g i := by
  have h1 := wf_ed hw hg
  have h2 := w_D_cn hw hc hi h1.2.2.1
  have h3 := w_D_cn hw hc hi h1.2.2.2.1
  unfold w_o w_b
  omega
theorem w_Rb (hw : q_wf N) (hc : w_cn N) (hg : g < w_ne N) (hi : i < w_nn N) (hp : w_pq N t g p q) : 0 ≤ w_o N g i * q + p ∧ w_o N g i * q + p ≤ 12850 * q ∧ 0 ≤ w_b N g i * q - p ∧ w_b N g i * q - p ≤ 12850 * q ∧ q ≤ 1000 := by
  obtain ⟨h1, h2, h3, h4, h5, h6⟩ := hp
  obtain ⟨o1, o2, o3, o4, o5⟩ := w_ob hw hc hg hi
  have h7 := wf_ed hw hg
  have m1 := q_mb o1 o2 (show 0 ≤ q by omega) (Int.le_refl q)
  have m2 := q_mb (show 0 ≤ w_b N g i by omega) o4 (show 0 ≤ q by omega) (Int.le_refl q)
  have m3 := q_mb (show 0 ≤ N 10 g by omega) o5 (show 0 ≤ q by omega) (Int.le_refl q)
  have m4 := q_mb (show 0 ≤ N 10 g by omega) h7.2.2.2.2.2.2 (show 0 ≤ q by omega) (Int.le_refl q)
  refine ⟨by omega, by omega, by omega, by omega, h2⟩
theorem w_Wb (hw : q_wf N) (h8 : i < 8) (ht : 0 ≤ t) : 0 ≤ w_W N t i ∧ w_W N t i ≤ 9 + 9 * t := by
  obtain ⟨h1, h2, h3, h4⟩ := wf_w hw h8
  have m := q_mb ht (Int.le_refl t) h3 h4
  unfold w_W
  omega
theorem w_Rnn (hw : q_wf N) (hc : w_cn N) (hg : g < w_ne N) (hi : i < w_nn N) (hp : w_pq N t g p q) : 0 ≤ w_R N g i p q ∧ w_R N g i p q ≤ 12850 * q := by
  obtain ⟨h1, h2, h3, h4, h5⟩ := w_Rb hw hc hg hi hp
  unfold w_R
  split <;> omega
theorem w_Fb (hw : q_wf N) (hc : w_cn N) (hg : g < w_ne N) (hi : i < w_nn N) (hp : w_pq N t g p q) : 0 ≤ w_F N t g i p q ∧ w_F N t g i p q ≤ 251885700 := by
  obtain ⟨r1, r2⟩ := w_Rnn hw hc hg hi hp
  obtain ⟨h1, h2, h3, h4, h5, h6⟩ := hp
  have h8 : i < 8 := by have := (wf_n hw).2.2; omega
  obtain ⟨w1, w2⟩ := w_Wb hw h8 h4
  have m1 := q_mb w1 w2 r1 r2
  have m2 : (9 + 9 * t) * (12850 * q) = 12850 * ((9 + 9 * t) * q) := by rw [← Int.mul_assoc, Int.mul_comm (9 + 9 * t) 12850, Int.mul_assoc]
  unfold w_F
  omega
theorem w_Hb (hw : q_wf N) (hc : w_cn N) (hg : g < w_ne N) (hp : w_pq N t g p q) {S : Int} : ∀ k, k ≤ w_nn N → 0 ≤ w_H N t S g p q k ∧ w_H N t S g p q k ≤ 251885700 := by
  intro k
  induction k with
  | zero => intro _; exact ⟨Int.le_refl _, by show (0 : Int) ≤ _; omega⟩
  | succ k ih =>
    intro hk
    have h1 := ih (by omega)
    have h2 := w_Fb hw hc hg (i := k) (by omega) hp
    unfold w_H
    split
    · exact h2
    · exact h1
theorem w_Cb (hw : q_wf N) (hc : w_cn N) (hg : g < w_ne N) (hp : w_pq N t g p q) : ∀ k, k ≤ w_nn N → 0 ≤ w_C N t g p q k ∧ w_C N t g p q k ≤ 251885700 * (k : Int) := by
  intro k
  induction k with
  | zero => intro _; exact ⟨Int.le_refl _, by show (0 : Int) ≤ _; omega⟩
  | succ k ih =>
    intro hk
    have h1 := ih (by omega)
    have h2 := w_Fb hw hc hg (i := k) (by omega) hp
    unfold w_C
    omega
end
section
variable {Z : mZ} {K : Nat → mK} {σ N : Nat → Nat → Int} {e s g i : Nat} {t p q : Int}
theorem s_hasCenters (hL : q_lay K) : m_cl Z 66 [(2, ((138 : Nat) : Int))] (K, σ, 191, e, s) = some (.inl (0, if ¬ w32 (σ 138 3) = 0 ∧ 0 < w32 (σ 139 1) then 1 else 0), (K, σ, 191, e, s)) := by
  simp only [e_66, b_66_0, b_66_7, b_66_17, b_66_21, b_66_22, ↓reduceIte, Nat.reduceEqDiff, Nat.reduceMul, q_n10, q_n01, Option.bind_some, g_aft0, g_aft1, g_aft2, g_aft3, g_aft9, Nat.reduceAdd, m_kill_0, m_kill_2, m_kill_3, m_kill_4, m_kill_9, true_or, or_true, q_lm1, q_l0, q_l1, q_l2, q_l3, q_l4, q_l5, q_l6, q_l8, q_l9, q_l10, q_l12, q_l32, q_l50, q_l120, q_l122, q_l126, q_l372, q_l1000, q_l1000000, q_surF hL.2.2.1, q_tkF hL.2.1]
  repeat' split
  all_goals first | rfl | (exfalso; omega)
theorem s_nodes (hL : q_lay K) : m_cl Z 67 [(2, ((138 : Nat) : Int))] (K, σ, 191, e, s) = some (.inl (0, σ 139 0), (K, σ, 191, e, s)) := by
  simp only [e_67, b_67_0, ↓reduceIte, Nat.reduceEqDiff, Nat.reduceMul, q_n10, q_n01, Option.bind_some, g_aft0, g_aft1, g_aft2, g_aft3, g_aft9, Nat.reduceAdd, m_kill_0, m_kill_2, m_kill_3, m_kill_4, m_kill_9, true_or, or_true, q_lm1, q_l0, q_l1, q_l2, q_l3, q_l4, q_l5, q_l6, q_l8, q_l9, q_l10, q_l12, q_l32, q_l50, q_l120, q_l122, q_l126, q_l372, q_l1000, q_l1000000, q_surF hL.2.2.1, q_tkF hL.2.1]
theorem s_allNodes (hL : q_lay K) : m_cl Z 68 [(2, ((138 : Nat) : Int))] (K, σ, 191, e, s) = some (.inl (0, i_shl 1 (σ 139 0) - 1), (K, σ, 191, e, s)) := by
  simp only [e_68, b_68_0, b_68_7, ↓reduceIte, Nat.reduceEqDiff, Nat.reduceMul, q_n10, q_n01, Option.bind_some, g_aft0, g_aft1, g_aft2, g_aft3, g_aft9, Nat.reduceAdd, m_kill_0, m_kill_2, m_kill_3, m_kill_4, m_kill_9, true_or, or_true, q_lm1, q_l0, q_l1, q_l2, q_l3, q_l4, q_l5, q_l6, q_l8, q_l9, q_l10, q_l12, q_l32, q_l50, q_l120, q_l122, q_l126, q_l372, q_l1000, q_l1000000, q_surF hL.2.2.1, q_tkF hL.2.1, n_allNodes]
theorem s_lengthOf {x : Int} (hL : q_lay K) : m_cl Z 69 [(2, ((138 : Nat) : Int)), (0, x)] (K, σ, 191, e, s) = some (.inl (0, q_get σ 149 12 x), (K, σ, 191, e, s)) := by
  simp only [e_69, b_69_0, b_69_11, ↓reduceIte, Nat.reduceEqDiff, Nat.reduceMul, q_n10, q_n01, Option.bind_some, g_aft0, g_aft1, g_aft2, g_aft3, g_aft9, Nat.reduceAdd, m_kill_0, m_kill_2, m_kill_3, m_kill_4, m_kill_9, true_or, or_true, q_lm1, q_l0, q_l1, q_l2, q_l3, q_l4, q_l5, q_l6, q_l8, q_l9, q_l10, q_l12, q_l32, q_l50, q_l120, q_l122, q_l126, q_l372, q_l1000, q_l1000000, q_surF hL.2.2.1, q_tkF hL.2.1, r_get]
theorem s_weightOf {x : Int} (hL : q_lay K) : m_cl Z 70 [(2, ((138 : Nat) : Int)), (0, x)] (K, σ, 191, e, s) = some (.inl (0, q_get σ 157 8 x), (K, σ, 191, e, s)) := by
  simp only [e_70, b_70_0, b_70_8, ↓reduceIte, Nat.reduceEqDiff, Nat.reduceMul, q_n10, q_n01, Option.bind_some, g_aft0, g_aft1, g_aft2, g_aft3, g_aft9, Nat.reduceAdd, m_kill_0, m_kill_2, m_kill_3, m_kill_4, m_kill_9, true_or, or_true, q_lm1, q_l0, q_l1, q_l2, q_l3, q_l4, q_l5, q_l6, q_l8, q_l9, q_l10, q_l12, q_l32, q_l50, q_l120, q_l122, q_l126, q_l372, q_l1000, q_l1000000, q_surF hL.2.2.1, q_tkF hL.2.1, r_get]
theorem s_between {x y : Int} (hL : q_lay K) : m_cl Z 71 [(2, ((138 : Nat) : Int)), (0, x), (0, y)] (K, σ, 191, e, s) = some (.inl (0, q_get σ 159 64 (x * 8 + y)), (K, σ, 191, e, s)) := by
  simp only [e_71, b_71_0, b_71_13, ↓reduceIte, Nat.reduceEqDiff, Nat.reduceMul, q_n10, q_n01, Option.bind_some, g_aft0, g_aft1, g_aft2, g_aft3, g_aft9, Nat.reduceAdd, m_kill_0, m_kill_2, m_kill_3, m_kill_4, m_kill_9, true_or, or_true, q_lm1, q_l0, q_l1, q_l2, q_l3, q_l4, q_l5, q_l6, q_l8, q_l9, q_l10, q_l12, q_l32, q_l50, q_l120, q_l122, q_l126, q_l372, q_l1000, q_l1000000, q_surF hL.2.2.1, q_tkF hL.2.1, r_get]
theorem s_wayOut {x y : Int} (hL : q_lay K) : m_cl Z 77 [(2, ((138 : Nat) : Int)), (0, x), (0, y)] (K, σ, 191, e, s) = some (.inl (0, q_get σ 161 96 (y * 8 + x)), (K, σ, 191, e, s)) := by
  simp only [e_77, b_77_0, b_77_13, ↓reduceIte, Nat.reduceEqDiff, Nat.reduceMul, q_n10, q_n01, Option.bind_some, g_aft0, g_aft1, g_aft2, g_aft3, g_aft9, Nat.reduceAdd, m_kill_0, m_kill_2, m_kill_3, m_kill_4, m_kill_9, true_or, or_true, q_lm1, q_l0, q_l1, q_l2, q_l3, q_l4, q_l5, q_l6, q_l8, q_l9, q_l10, q_l12, q_l32, q_l50, q_l120, q_l122, q_l126, q_l372, q_l1000, q_l1000000, q_surF hL.2.2.1, q_tkF hL.2.1, r_get]
theorem s_wayBack {x y : Int} (hL : q_lay K) : m_cl Z 78 [(2, ((138 : Nat) : Int)), (0, x), (0, y)] (K, σ, 191, e, s) = some (.inl (0, q_get σ 163 96 (y * 8 + x)), (K, σ, 191, e, s)) := by
  simp only [e_78, b_78_0, b_78_13, ↓reduceIte, Nat.reduceEqDiff, Nat.reduceMul, q_n10, q_n01, Option.bind_some, g_aft0, g_aft1, g_aft2, g_aft3, g_aft9, Nat.reduceAdd, m_kill_0, m_kill_2, m_kill_3, m_kill_4, m_kill_9, true_or, or_true, q_lm1, q_l0, q_l1, q_l2, q_l3, q_l4, q_l5, q_l6, q_l8, q_l9, q_l10, q_l12, q_l32, q_l50, q_l120, q_l122, q_l126, q_l372, q_l1000, q_l1000000, q_surF hL.2.2.1, q_tkF hL.2.1, r_get]
theorem v_out (hv : v_e σ N) (hw : q_wf N) (hg : g < w_ne N) (hi : i < w_nn N) : q_get σ 161 96 ((g : Int) * 8 + (i : Int)) = w_o N g i ∧ q_get σ 163 96 ((g : Int) * 8 + (i : Int)) = w_b N g i := by
  have h1 := (wf_e hw).2
  have h2 := (wf_n hw).2.2
  rw [q_get_ix (8 * g + i) (by omega) (by omega) (by omega), q_get_ix (8 * g + i) (by omega) (by omega) (by omega)]
  exact hv g i hg hi
theorem v_len (ht : nAt σ 139 N) (hw : q_wf N) (hg : g < w_ne N) : q_get σ 149 12 (g : Int) = N 10 g := by
  have h1 := (wf_e hw).2
  rw [q_get_nat (by omega) (by omega)]
  exact ht 10 g (by rw [q_len2]; simp; omega)
theorem v_wgt (hv : v_w σ N t) (hi : i < 8) : q_get σ 157 8 (i : Int) = w_W N t i := by
  rw [q_get_nat (by omega) (by omega)]
  exact hv i hi
theorem v_bet (hv : v_d σ N) (hw : q_wf N) {a b : Nat} (ha : a < w_nn N) (hb : b < w_nn N) : q_get σ 159 64 ((a : Int) * 8 + (b : Int)) = w_D N a b := by
  have h2 := (wf_n hw).2.2
  rw [q_get_ix (8 * a + b) (by omega) (by omega) (by omega)]
  exact hv a b ha hb
theorem s_reach (hL : q_lay K) (hv : v_e σ N) (hw : q_wf N) (hc : w_cn N) (hg : g < w_ne N) (hi : i < w_nn N) (hp : w_pq N t g p q) : m_cl Z 79 [(2, ((138 : Nat) : Int)), (0, (i : Int)), (0, (g : Int)), (0, p), (0, q)] (K, σ, 191, e, s) = some (.inl (0, w_R N g i p q), (K, σ, 191, e, s)) := by
  obtain ⟨h1, h2, h3, h4, h5⟩ := w_Rb hw hc hg hi hp
  obtain ⟨o1, o2⟩ := v_out hv hw hg hi
  have w1 : w32 (w_o N g i * q + p) = w_o N g i * q + p := q_wB (by omega) (by omega)
  have w2 : w32 (w_b N g i * q - p) = w_b N g i * q - p := q_wB (by omega) (by omega)
  simp only [e_79, b_79_0, b_79_17, b_79_31, ↓reduceIte, Nat.reduceEqDiff, Nat.reduceMul, q_n10, q_n01, Option.bind_some, g_aft0, g_aft1, g_aft2, g_aft3, g_aft9, Nat.reduceAdd, m_kill_0, m_kill_2, m_kill_3, m_kill_4, m_kill_9, true_or, or_true, q_lm1, q_l0, q_l1, q_l2, q_l3, q_l4, q_l5, q_l6, q_l8, q_l9, q_l10, q_l12, q_l32, q_l50, q_l120, q_l122, q_l126, q_l372, q_l1000, q_l1000000, q_surF hL.2.2.1, q_tkF hL.2.1, r_get, o1, o2, w1, w2]
  rfl
theorem s_wgt (hL : q_lay K) (hv : v_e σ N) (hvw : v_w σ N t) (hw : q_wf N) (hc : w_cn N) (hg : g < w_ne N) (hi : i < w_nn N) (hp : w_pq N t g p q) : m_cl Z 80 [(2, ((138 : Nat) : Int)), (0, (i : Int)), (0, (g : Int)), (0, p), (0, q)] (K, σ, 191, e, s) = some (.inl (0, w_F N t g i p q), (K, σ, 191, e, s)) := by
  have h8 : i < 8 := by have := (wf_n hw).2.2; omega
  simp only [e_80, b_80_0, b_80_8, b_80_17, ↓reduceIte, Nat.reduceEqDiff, Nat.reduceMul, q_n10, q_n01, Option.bind_some, g_aft0, g_aft1, g_aft2, g_aft3, g_aft9, Nat.reduceAdd, m_kill_0, m_kill_2, m_kill_3, m_kill_4, m_kill_9, true_or, or_true, q_lm1, q_l0, q_l1, q_l2, q_l3, q_l4, q_l5, q_l6, q_l8, q_l9, q_l10, q_l12, q_l32, q_l50, q_l120, q_l122, q_l126, q_l372, q_l1000, q_l1000000, q_surF hL.2.2.1, q_tkF hL.2.1, r_get, s_reach hL hv hw hc hg hi hp, v_wgt hvw h8]
  rfl
theorem v_n (ht : nAt σ 139 N) (hw : q_wf N) : w32 (σ 139 0) = (w_nn N : Int) := by
  rw [nAt_0 ht (by omega), (wf_n hw).1, q_w (by have := (wf_n hw).2.2; omega)]
theorem v_m (ht : nAt σ 139 N) (hw : q_wf N) : w32 (σ 139 1) = (w_ne N : Int) := by
  rw [nAt_0 ht (by omega), (wf_e hw).1, q_w (by have := (wf_e hw).2; omega)]
theorem v_s (ht : nAt σ 139 N) (hw : q_wf N) : w32 (σ 139 2) = (w_ns N : Int) := by
  rw [nAt_0 ht (by omega), (wf_s hw).1, q_w (by have := (wf_s hw).2; omega)]
theorem s_height {S : Int} (hL : q_lay K) (ht : nAt σ 139 N) (hv : v_e σ N) (hvw : v_w σ N t) (hw : q_wf N) (hc : w_cn N) (hg : g < w_ne N) (hp : w_pq N t g p q) : m_cl Z 81 [(2, ((138 : Nat) : Int)), (0, S), (0, (g : Int)), (0, p), (0, q)] (K, σ, 191, e, s) = some (.inl (0, w_H N t S g p q (w_nn N)), (K, σ, 191, e, s)) := by
  have hn := v_n ht hw
  have hl := q_loopf (Z := Z) (N := w_nn N) (S := fun i => (81, 6, [(2, ((138 : Nat) : Int)), (0, S), (0, (g : Int)), (0, p), (0, q), (0, w_H N t S g p q i), (0, (i : Int))], [], (K, σ, 191, e, s))) (by
    intro i hi
    have e1 : (((i + 1 : Nat)) : Int) = (i : Int) + 1 := by omega
    have b1 := w_Hb hw hc hg hp (S := S) i (by omega)
    have b2 := w_Fb hw hc hg hi hp
    have w0 : w32 (i : Int) = (i : Int) := q_w (by have := (wf_n hw).2.2; omega)
    have w1 : w32 (w_H N t S g p q i) = w_H N t S g p q i := q_wB (by omega) (by omega)
    have w2 : w32 (w_F N t g i p q) = w_F N t g i p q := q_wB (by omega) (by omega)
    have c0 : ¬ (w_nn N : Int) ≤ (i : Int) := by omega
    conv => lhs; simp only [b_81_6, ↓reduceIte, Nat.reduceEqDiff, Nat.reduceMul, q_n10, q_n01, Option.bind_some, g_aft0, g_aft1, g_aft2, g_aft3, g_aft9, Nat.reduceAdd, m_kill_0, m_kill_2, m_kill_3, m_kill_4, m_kill_9, true_or, or_true, q_lm1, q_l0, q_l1, q_l2, q_l3, q_l4, q_l5, q_l6, q_l8, q_l9, q_l10, q_l12, q_l32, q_l50, q_l120, q_l122, q_l126, q_l372, q_l1000, q_l1000000, q_surF hL.2.2.1, q_tkF hL.2.1, hn, w0, c0]
    simp only [b_81_0, b_81_18, b_81_28, b_81_40, b_81_45, b_81_51, ↓reduceIte, Nat.reduceEqDiff, Nat.reduceMul, q_n10, q_n01, Option.bind_some, g_aft0, g_aft1, g_aft2, g_aft3, g_aft9, Nat.reduceAdd, m_kill_0, m_kill_2, m_kill_3, m_kill_4, m_kill_9, true_or, or_true, q_lm1, q_l0, q_l1, q_l2, q_l3, q_l4, q_l5, q_l6, q_l8, q_l9, q_l10, q_l12, q_l32, q_l50, q_l120, q_l122, q_l126, q_l372, q_l1000, q_l1000000, q_surF hL.2.2.1, q_tkF hL.2.1, hn, w0, c0, s_wgt hL hv hvw hw hc hg hi hp, w1, w2, e1, w_H, q_btE]
    by_cases c1 : q_bt S i = true <;> by_cases c2 : w_H N t S g p q i < w_F N t g i p q <;> simp [c1, c2])
  rw [e_81, b_81_0]
  refine hl.trans ?_
  have w0 : w32 (w_nn N : Int) = (w_nn N : Int) := q_w (by have := (wf_n hw).2.2; omega)
  simp only [b_81_6, b_81_0, b_81_18, b_81_28, b_81_40, b_81_45, b_81_51, ↓reduceIte, Nat.reduceEqDiff, Nat.reduceMul, q_n10, q_n01, Option.bind_some, g_aft0, g_aft1, g_aft2, g_aft3, g_aft9, Nat.reduceAdd, m_kill_0, m_kill_2, m_kill_3, m_kill_4, m_kill_9, true_or, or_true, q_lm1, q_l0, q_l1, q_l2, q_l3, q_l4, q_l5, q_l6, q_l8, q_l9, q_l10, q_l12, q_l32, q_l50, q_l120, q_l122, q_l126, q_l372, q_l1000, q_l1000000, q_surF hL.2.2.1, q_tkF hL.2.1, hn, w0, Int.le_refl]
theorem s_cost (hL : q_lay K) (ht : nAt σ 139 N) (hv : v_e σ N) (hvw : v_w σ N t) (hw : q_wf N) (hc : w_cn N) (hg : g < w_ne N) (hp : w_pq N t g p q) : m_cl Z 82 [(2, ((138 : Nat) : Int)), (0, (g : Int)), (0, p), (0, q)] (K, σ, 191, e, s) = some (.inl (0, w_C N t g p q (w_nn N)), (K, σ, 191, e, s)) := by
  have hn := v_n ht hw
  have hl := q_loopf (Z := Z) (N := w_nn N) (S := fun i => (82, 6, [(2, ((138 : Nat) : Int)), (0, (g : Int)), (0, p), (0, q), (0, w_C N t g p q i), (0, (i : Int))], [], (K, σ, 191, e, s))) (by
    intro i hi
    have e1 : (((i + 1 : Nat)) : Int) = (i : Int) + 1 := by omega
    have w0 : w32 (i : Int) = (i : Int) := q_w (by have := (wf_n hw).2.2; omega)
    have c0 : ¬ (w_nn N : Int) ≤ (i : Int) := by omega
    conv => lhs; simp only [b_82_6, ↓reduceIte, Nat.reduceEqDiff, Nat.reduceMul, q_n10, q_n01, Option.bind_some, g_aft0, g_aft1, g_aft2, g_aft3, g_aft9, Nat.reduceAdd, m_kill_0, m_kill_2, m_kill_3, m_kill_4, m_kill_9, true_or, or_true, q_lm1, q_l0, q_l1, q_l2, q_l3, q_l4, q_l5, q_l6, q_l8, q_l9, q_l10, q_l12, q_l32, q_l50, q_l120, q_l122, q_l126, q_l372, q_l1000, q_l1000000, q_surF hL.2.2.1, q_tkF hL.2.1, hn, w0, c0]
    simp only [b_82_0, b_82_18, b_82_29, b_82_38, ↓reduceIte, Nat.reduceEqDiff, Nat.reduceMul, q_n10, q_n01, Option.bind_some, g_aft0, g_aft1, g_aft2, g_aft3, g_aft9, Nat.reduceAdd, m_kill_0, m_kill_2, m_kill_3, m_kill_4, m_kill_9, true_or, or_true, q_lm1, q_l0, q_l1, q_l2, q_l3, q_l4, q_l5, q_l6, q_l8, q_l9, q_l10, q_l12, q_l32, q_l50, q_l120, q_l122, q_l126, q_l372, q_l1000, q_l1000000, q_surF hL.2.2.1, q_tkF hL.2.1, hn, w0, c0, s_wgt hL hv hvw hw hc hg hi hp, e1, w_C])
  rw [e_82, b_82_0]
  refine hl.trans ?_
  have w0 : w32 (w_nn N : Int) = (w_nn N : Int) := q_w (by have := (wf_n hw).2.2; omega)
  simp only [b_82_6, b_82_0, b_82_18, b_82_29, b_82_38, ↓reduceIte, Nat.reduceEqDiff, Nat.reduceMul, q_n10, q_n01, Option.bind_some, g_aft0, g_aft1, g_aft2, g_aft3, g_aft9, Nat.reduceAdd, m_kill_0, m_kill_2, m_kill_3, m_kill_4, m_kill_9, true_or, or_true, q_lm1, q_l0, q_l1, q_l2, q_l3, q_l4, q_l5, q_l6, q_l8, q_l9, q_l10, q_l12, q_l32, q_l50, q_l120, q_l122, q_l126, q_l372, q_l1000, q_l1000000, q_surF hL.2.2.1, q_tkF hL.2.1, hn, w0, Int.le_refl]
theorem s_within {r : Int} (hL : q_lay K) (ht : nAt σ 139 N) (hv : v_e σ N) (hvw : v_w σ N t) (hw : q_wf N) (hc : w_cn N) (hg : g < w_ne N) (hp : w_pq N t g p 1) : m_cl Z 83 [(2, ((138 : Nat) : Int)), (0, (g : Int)), (0, p), (0, r)] (K, σ, 191, e, s) = some (.inl (0, w_or (fun i => decide (w_F N t g i p 1 ≤ w32 r)) (w_nn N)), (K, σ, 191, e, s)) := by
  have hn := v_n ht hw
  have hl := q_loopf (Z := Z) (N := w_nn N) (S := fun i => (83, 6, [(2, ((138 : Nat) : Int)), (0, (g : Int)), (0, p), (0, r), (0, w_or (fun i => decide (w_F N t g i p 1 ≤ w32 r)) i), (0, (i : Int))], [], (K, σ, 191, e, s))) (by
    intro i hi
    have e1 : (((i + 1 : Nat)) : Int) = (i : Int) + 1 := by omega
    have b2 := w_Fb hw hc hg hi hp
    have w0 : w32 (i : Int) = (i : Int) := q_w (by have := (wf_n hw).2.2; omega)
    have w2 : w32 (w_F N t g i p 1) = w_F N t g i p 1 := q_wB (by omega) (by omega)
    have c0 : ¬ (w_nn N : Int) ≤ (i : Int) := by omega
    conv => lhs; simp only [b_83_6, ↓reduceIte, Nat.reduceEqDiff, Nat.reduceMul, q_n10, q_n01, Option.bind_some, g_aft0, g_aft1, g_aft2, g_aft3, g_aft9, Nat.reduceAdd, m_kill_0, m_kill_2, m_kill_3, m_kill_4, m_kill_9, true_or, or_true, q_lm1, q_l0, q_l1, q_l2, q_l3, q_l4, q_l5, q_l6, q_l8, q_l9, q_l10, q_l12, q_l32, q_l50, q_l120, q_l122, q_l126, q_l372, q_l1000, q_l1000000, q_surF hL.2.2.1, q_tkF hL.2.1, hn, w0, c0]
    simp only [b_83_0, b_83_18, b_83_27, b_83_31, b_83_40, b_83_46, ↓reduceIte, Nat.reduceEqDiff, Nat.reduceMul, q_n10, q_n01, Option.bind_some, g_aft0, g_aft1, g_aft2, g_aft3, g_aft9, Nat.reduceAdd, m_kill_0, m_kill_2, m_kill_3, m_kill_4, m_kill_9, true_or, or_true, q_lm1, q_l0, q_l1, q_l2, q_l3, q_l4, q_l5, q_l6, q_l8, q_l9, q_l10, q_l12, q_l32, q_l50, q_l120, q_l122, q_l126, q_l372, q_l1000, q_l1000000, q_surF hL.2.2.1, q_tkF hL.2.1, hn, w0, c0, s_wgt hL hv hvw hw hc hg hi hp, w2, e1, w_or, decide_eq_true_eq]
    by_cases c1 : w_F N t g i p 1 ≤ w32 r
    · simp [c1, Int.not_lt.mpr c1]
    · simp [c1, Int.not_le.mp c1])
  rw [e_83, b_83_0]
  refine hl.trans ?_
  have w0 : w32 (w_nn N : Int) = (w_nn N : Int) := q_w (by have := (wf_n hw).2.2; omega)
  simp only [b_83_6, b_83_0, b_83_18, b_83_27, b_83_31, b_83_40, b_83_46, ↓reduceIte, Nat.reduceEqDiff, Nat.reduceMul, q_n10, q_n01, Option.bind_some, g_aft0, g_aft1, g_aft2, g_aft3, g_aft9, Nat.reduceAdd, m_kill_0, m_kill_2, m_kill_3, m_kill_4, m_kill_9, true_or, or_true, q_lm1, q_l0, q_l1, q_l2, q_l3, q_l4, q_l5, q_l6, q_l8, q_l9, q_l10, q_l12, q_l32, q_l50, q_l120, q_l122, q_l126, q_l372, q_l1000, q_l1000000, q_surF hL.2.2.1, q_tkF hL.2.1, hn, w0, Int.le_refl]
theorem s_crit {S h : Int} (hL : q_lay K) (ht : nAt σ 139 N) (hv : v_e σ N) (hvw : v_w σ N t) (hw : q_wf N) (hc : w_cn N) (hg : g < w_ne N) (hp : w_pq N t g p q) (h13 : σ 138 13 = (g : Int)) (h14 : σ 138 14 = p) (h15 : σ 138 15 = q) (h16 : σ 138 16 = h) (hh : w32 h = h) : m_cl Z 93 [(2, ((138 : Nat) : Int)), (0, S)] (K, σ, 191, e, s) = some (.inl (0, w_or (fun i => decide (q_bt S i = true ∧ w_F N t g i p q = h)) (w_nn N)), (K, σ, 191, e, s)) := by
  have hn := v_n ht hw
  have hl := q_loopf (Z := Z) (N := w_nn N) (S := fun i => (93, 4, [(2, ((138 : Nat) : Int)), (0, S), (0, w_or (fun i => decide (q_bt S i = true ∧ w_F N t g i p q = h)) i), (0, (i : Int))], [], (K, σ, 191, e, s))) (by
    intro i hi
    have e1 : (((i + 1 : Nat)) : Int) = (i : Int) + 1 := by omega
    have b2 := w_Fb hw hc hg hi hp
    have w0 : w32 (i : Int) = (i : Int) := q_w (by have := (wf_n hw).2.2; omega)
    have w2 : w32 (w_F N t g i p q) = w_F N t g i p q := q_wB (by omega) (by omega)
    have c0 : ¬ (w_nn N : Int) ≤ (i : Int) := by omega
    conv => lhs; simp only [b_93_4, ↓reduceIte, Nat.reduceEqDiff, Nat.reduceMul, q_n10, q_n01, Option.bind_some, g_aft0, g_aft1, g_aft2, g_aft3, g_aft9, Nat.reduceAdd, m_kill_0, m_kill_2, m_kill_3, m_kill_4, m_kill_9, true_or, or_true, q_lm1, q_l0, q_l1, q_l2, q_l3, q_l4, q_l5, q_l6, q_l8, q_l9, q_l10, q_l12, q_l32, q_l50, q_l120, q_l122, q_l126, q_l372, q_l1000, q_l1000000, q_surF hL.2.2.1, q_tkF hL.2.1, hn, w0, c0]
    simp only [b_93_0, b_93_15, b_93_24, b_93_41, b_93_48, b_93_54, b_93_60, ↓reduceIte, Nat.reduceEqDiff, Nat.reduceMul, q_n10, q_n01, Option.bind_some, g_aft0, g_aft1, g_aft2, g_aft3, g_aft9, Nat.reduceAdd, m_kill_0, m_kill_2, m_kill_3, m_kill_4, m_kill_9, true_or, or_true, q_lm1, q_l0, q_l1, q_l2, q_l3, q_l4, q_l5, q_l6, q_l8, q_l9, q_l10, q_l12, q_l32, q_l50, q_l120, q_l122, q_l126, q_l372, q_l1000, q_l1000000, q_surF hL.2.2.1, q_tkF hL.2.1, hn, w0, c0, s_wgt hL hv hvw hw hc hg hi hp, w2, e1, w_or, decide_eq_true_eq, h13, h14, h15, h16, hh, q_btE]
    by_cases c1 : q_bt S i = true <;> by_cases c2 : w_F N t g i p q = h <;> simp [c1, c2])
  rw [e_93, b_93_0]
  refine hl.trans ?_
  have w0 : w32 (w_nn N : Int) = (w_nn N : Int) := q_w (by have := (wf_n hw).2.2; omega)
  simp only [b_93_4, b_93_0, b_93_15, b_93_24, b_93_41, b_93_48, b_93_54, b_93_60, ↓reduceIte, Nat.reduceEqDiff, Nat.reduceMul, q_n10, q_n01, Option.bind_some, g_aft0, g_aft1, g_aft2, g_aft3, g_aft9, Nat.reduceAdd, m_kill_0, m_kill_2, m_kill_3, m_kill_4, m_kill_9, true_or, or_true, q_lm1, q_l0, q_l1, q_l2, q_l3, q_l4, q_l5, q_l6, q_l8, q_l9, q_l10, q_l12, q_l32, q_l50, q_l120, q_l122, q_l126, q_l372, q_l1000, q_l1000000, q_surF hL.2.2.1, q_tkF hL.2.1, hn, w0, Int.le_refl]
end
end
