section
/-! The points are gathered. -/
def v_p (σ : Nat → Nat → Int) (L : List wP) : Prop := σ 138 8 = (L.length : Int) ∧ ∀ i, i < L.length → σ 165 i = ((L.getD i (0, 0, 0)).1 : Int) ∧ σ 167 i = (L.getD i (0, 0, 0)).2.1 ∧ σ 169 i = (L.getD i (0, 0, 0)).2.2
def q_f8 (σ τ : Nat → Nat → Int) : Prop := (∀ a, a ≠ 138 → a ≠ 165 → a ≠ 167 → a ≠ 169 → τ a = σ a) ∧ ∀ j, j ≠ 8 → τ 138 j = σ 138 j
theorem q_f8_r {σ : Nat → Nat → Int} : q_f8 σ σ := ⟨fun _ _ _ _ _ => rfl, fun _ _ => rfl⟩
theorem q_f8_t {σ τ ρ : Nat → Nat → Int} (h : q_f8 σ τ) (h2 : q_f8 τ ρ) : q_f8 σ ρ := ⟨fun a h3 h4 h5 h6 => (h2.1 a h3 h4 h5 h6).trans (h.1 a h3 h4 h5 h6), fun j hj => (h2.2 j hj).trans (h.2 j hj)⟩
def v_a (σ N : Nat → Nat → Int) (t : Int) : Prop := nAt σ 139 N ∧ v_w σ N t ∧ v_d σ N ∧ v_e σ N
theorem v_a_fr {σ τ N : Nat → Nat → Int} {t : Int} (h : v_a σ N t) (hf : ∀ a, 139 ≤ a → a ≤ 163 → τ a = σ a) : v_a τ N t := by
  obtain ⟨h1, h2, h3, h4⟩ := h
  refine ⟨nAt_fr h1 (fun x _ _ => hf x (by omega) (by omega)), ?_, ?_, ?_⟩
  · intro i hi
    rw [hf 157 (by omega) (by omega)]
    exact h2 i hi
  · intro a b ha hb
    rw [hf 159 (by omega) (by omega)]
    exact h3 a b ha hb
  · intro g i hg hi
    rw [hf 161 (by omega) (by omega), hf 163 (by omega) (by omega)]
    exact h4 g i hg hi
theorem v_a_f8 {σ τ N : Nat → Nat → Int} {t : Int} (h : v_a σ N t) (hf : q_f8 σ τ) : v_a τ N t := v_a_fr h (fun a _ _ => hf.1 a (by omega) (by omega) (by omega) (by omega))
theorem getD_l {α : Type} {L : List α} {x d : α} {i : Nat} (h : i < L.length) : (L ++ [x]).getD i d = L.getD i d := by
  simp [List.getD, List.getElem?_append_left h]
theorem getD_r {α : Type} {L : List α} {x d : α} : (L ++ [x]).getD L.length d = x := by
  simp [List.getD]
theorem getD_mem {α : Type} {L : List α} {d : α} {i : Nat} (h : i < L.length) : L.getD i d ∈ L := by
  simp [List.getD, List.getElem?_eq_getElem h]
theorem getD_ex {α : Type} {L : List α} {x d : α} (h : x ∈ L) : ∃ i, i < L.length ∧ L.getD i d = x := by
  obtain ⟨i, hi, e⟩ := List.mem_iff_getElem.mp h
  exact ⟨i, hi, by simp [List.getD, List.getElem?_eq_getElem hi, e]⟩
section
variable {Z : mZ} {K : Nat → mK} {σ N : Nat → Nat → Int} {e s g i : Nat} {t p q : Int}
theorem s_addPoint {L : List wP} (hL : q_lay K) (ht : nAt σ 139 N) (hw : q_wf N) (hv : v_p σ L) (hlen : L.length < 372) (hg : g < 50) (h1 : 0 ≤ p) (h2 : p ≤ 50000) (h3 : 0 ≤ q) (h4 : q ≤ 1000) : ∃ τ, m_cl Z 85 [(2, ((138 : Nat) : Int)), (0, (g : Int)), (0, p), (0, q)] (K, σ, 191, e, s) = some (.inl (9, 0), (K, τ, 191, e, s)) ∧ v_p τ (L ++ w_ap N g p q) ∧ q_f8 σ τ := by
  have hm : w32 (σ 138 8) = (L.length : Int) := by rw [hv.1, q_w (by omega)]
  have c0 : ¬ (372 : Int) ≤ (L.length : Int) := by omega
  have wM : w32 (L.length : Int) = (L.length : Int) := q_w (by omega)
  have hper : ∀ σ', nAt σ' 139 N → m_cl Z 33 [(2, ((139 : Nat) : Int)), (0, (g : Int)), (0, p), (0, q)] (K, σ', 191, e, s) = some (.inl (0, if w_al N g p q = true then 1 else 0), (K, σ', 191, e, s)) := by
    intro σ' ht'
    rw [n_permits (S := w_ns N) (q_tkF hL.2.1).1 (v_s ht' hw) (wf_s hw).2, n_al ht' hw hg h1 h2 h3 h4]
  by_cases c : w_al N g p q = true
  · refine ⟨m_up2 (m_up2 (m_up2 (m_up2 σ 165 L.length g) 167 L.length p) 169 L.length q) 138 8 (L.length + 1), ?_, ?_, ?_⟩
    · have r4 : ∀ σ' v, q_set σ' 165 372 (L.length : Int) v = m_up2 σ' 165 L.length v := fun σ' v => q_set_nat hlen (by omega)
      have r5 : ∀ σ' v, q_set σ' 167 372 (L.length : Int) v = m_up2 σ' 167 L.length v := fun σ' v => q_set_nat hlen (by omega)
      have r6 : ∀ σ' v, q_set σ' 169 372 (L.length : Int) v = m_up2 σ' 169 L.length v := fun σ' v => q_set_nat hlen (by omega)
      simp only [e_85, b_85_0, b_85_10, b_85_20, b_85_23, b_85_35, b_85_47, b_85_59, b_85_69, ↓reduceIte, Nat.reduceEqDiff, Nat.reduceMul, q_n10, q_n01, Option.bind_some, g_aft0, g_aft1, g_aft2, g_aft3, g_aft9, Nat.reduceAdd, m_kill_0, m_kill_2, m_kill_3, m_kill_4, m_kill_9, true_or, or_true, q_lm1, q_l0, q_l1, q_l2, q_l3, q_l4, q_l5, q_l6, q_l8, q_l9, q_l10, q_l12, q_l32, q_l50, q_l120, q_l122, q_l126, q_l372, q_l1000, q_l1000000, q_surF hL.2.2.1, q_tkF hL.2.1, hm, c0, wM, hper σ ht, c, r_set, hv.1, r4, r5, r6, m_up2_ne, ne_eq, not_false_eq_true]
    · unfold w_ap
      rw [if_pos c]
      refine ⟨?_, ?_⟩
      · rw [m_up2_at, List.length_append]
        rfl
      · intro i hi
        rw [List.length_append] at hi
        have hi : i < L.length + 1 := hi
        by_cases ci : i = L.length
        · subst ci
          simp (disch := omega) only [m_up2_ne, m_up2_at, getD_r, and_self]
        · simp (disch := omega) only [m_up2_ne, m_up2_nk, getD_l]
          exact hv.2 i (by omega)
    · refine ⟨fun a a1 a2 a3 a4 => ?_, fun j hj => ?_⟩
      · rw [m_up2_ne a1, m_up2_ne a4, m_up2_ne a3, m_up2_ne a2]
      · rw [m_up2_nk hj, m_up2_ne (by omega), m_up2_ne (by omega), m_up2_ne (by omega)]
  · refine ⟨σ, ?_, ?_, q_f8_r⟩
    · simp only [e_85, b_85_0, b_85_10, b_85_20, b_85_23, b_85_35, b_85_47, b_85_59, b_85_69, ↓reduceIte, Nat.reduceEqDiff, Nat.reduceMul, q_n10, q_n01, Option.bind_some, g_aft0, g_aft1, g_aft2, g_aft3, g_aft9, Nat.reduceAdd, m_kill_0, m_kill_2, m_kill_3, m_kill_4, m_kill_9, true_or, or_true, q_lm1, q_l0, q_l1, q_l2, q_l3, q_l4, q_l5, q_l6, q_l8, q_l9, q_l10, q_l12, q_l32, q_l50, q_l120, q_l122, q_l126, q_l372, q_l1000, q_l1000000, q_surF hL.2.2.1, q_tkF hL.2.1, hm, c0, hper σ ht, c, Bool.false_eq_true]
    · unfold w_ap
      rw [if_neg c, List.append_nil]
      exact hv
theorem s_lead {x : Int} {k : Nat} (hL : q_lay K) (hv : v_e σ N) (hw : q_wf N) (hg : g < w_ne N) (hk : k < w_nn N) : m_cl Z 87 [(2, ((138 : Nat) : Int)), (0, (k : Int)), (0, (g : Int)), (0, p), (0, q)] (K, σ, 191, e, s) = some (.inl (0, (w_b N g k - w_o N g k) * q - 2 * p), (K, σ, 191, e, s)) := by
  obtain ⟨o1, o2⟩ := v_out hv hw hg hk
  simp only [e_87, b_87_0, b_87_6, b_87_12, ↓reduceIte, Nat.reduceEqDiff, Nat.reduceMul, q_n10, q_n01, Option.bind_some, g_aft0, g_aft1, g_aft2, g_aft3, g_aft9, Nat.reduceAdd, m_kill_0, m_kill_2, m_kill_3, m_kill_4, m_kill_9, true_or, or_true, q_lm1, q_l0, q_l1, q_l2, q_l3, q_l4, q_l5, q_l6, q_l8, q_l9, q_l10, q_l12, q_l32, q_l50, q_l120, q_l122, q_l126, q_l372, q_l1000, q_l1000000, q_surF hL.2.2.1, q_tkF hL.2.1, s_wayOut hL, s_wayBack hL, o1, o2]
theorem w_xb (hw : q_wf N) (hc : w_cn N) (ht : 0 ≤ t) (ht2 : t ≤ 10) (hg : g < w_ne N) {i j : Nat} (hi : i < w_nn N) (hj : j < w_nn N) : 0 ≤ w_W N t i ∧ w_W N t i ≤ 99 ∧ 0 ≤ w_xB N t i j ∧ w_xB N t i j ≤ 198 ∧ -1267200 ≤ w_xT N t g i j ∧ w_xT N t g i j ≤ 1272150 ∧ 0 ≤ N 10 g * w_xB N t i j ∧ N 10 g * w_xB N t i j ≤ 9900 := by
  have h8 := (wf_n hw).2.2
  obtain ⟨a1, a2⟩ := w_Wb hw (i := i) (by omega) ht
  obtain ⟨b1, b2⟩ := w_Wb hw (i := j) (by omega) ht
  obtain ⟨o1, o2, o3, o4, o5⟩ := w_ob hw hc hg hi
  obtain ⟨u1, u2, u3, u4, u5⟩ := w_ob hw hc hg hj
  have m1 := q_mb b1 (show w_W N t j ≤ 99 by omega) (show 0 ≤ w_b N g j by omega) u4
  have m2 := q_mb a1 (show w_W N t i ≤ 99 by omega) o1 o2
  have h7 := wf_ed hw hg
  have hB : 0 ≤ w_xB N t i j ∧ w_xB N t i j ≤ 198 := by unfold w_xB; omega
  have m3 := q_mb (show 0 ≤ N 10 g by omega) h7.2.2.2.2.2.2 hB.1 hB.2
  unfold w_xT
  omega
theorem w_ldb (hw : q_wf N) (hc : w_cn N) (ht : 0 ≤ t) (ht2 : t ≤ 10) (hg : g < w_ne N) {i j k : Nat} (hi : i < w_nn N) (hj : j < w_nn N) (hk : k < w_nn N) : -6000000 ≤ w_ld N t g i j k ∧ w_ld N t g i j k ≤ 6000000 := by
  have h := w_xb hw hc ht ht2 hg hi hj
  obtain ⟨o1, o2, o3, o4, o5⟩ := w_ob hw hc hg hk
  have m1 := q_mb o1 o2 h.2.2.1 h.2.2.2.1
  have m2 := q_mb (show 0 ≤ w_b N g k by omega) o4 h.2.2.1 h.2.2.2.1
  unfold w_ld
  rw [Int.sub_mul]
  omega
theorem w_acb (hw : q_wf N) (hc : w_cn N) (ht : 0 ≤ t) (ht2 : t ≤ 10) (hg : g < w_ne N) {i j : Nat} (hi : i < w_nn N) (hj : j < w_nn N) (c : 0 < w_W N t i ∧ 0 < w_W N t j ∧ 0 < w_xT N t g i j ∧ w_xT N t g i j < N 10 g * w_xB N t i j ∧ 0 < w_ld N t g i j i ∧ w_ld N t g i j j < 0) : g < 50 ∧ 0 ≤ w_xT N t g i j ∧ w_xT N t g i j ≤ 50000 ∧ 0 < w_xB N t i j ∧ w_xB N t i j ≤ 1000 := by
  have h12 := (wf_e hw).2
  have b1 := w_xb hw hc ht ht2 hg hi hj
  have hB : w_xB N t i j = w_W N t i + w_W N t j := rfl
  omega
theorem s_addX {L : List wP} {i j : Nat} (hL : q_lay K) (hv : v_a σ N t) (hw : q_wf N) (hc : w_cn N) (ht : 0 ≤ t) (ht2 : t ≤ 10) (hp : v_p σ L) (hlen : w_ac N t g i j = true → L.length < 372) (hg : g < w_ne N) (hi : i < w_nn N) (hj : j < w_nn N) : ∃ τ, m_cl Z 86 [(2, ((138 : Nat) : Int)), (0, (g : Int)), (0, (i : Int)), (0, (j : Int))] (K, σ, 191, e, s) = some (.inl (9, 0), (K, τ, 191, e, s)) ∧ v_p τ (L ++ w_xl N t g i j) ∧ q_f8 σ τ := by
  have h8 := (wf_n hw).2.2
  have h12 := (wf_e hw).2
  obtain ⟨v1, v2, v3, v4⟩ := hv
  obtain ⟨o1, o2⟩ := v_out v4 hw hg hi
  obtain ⟨u1, u2⟩ := v_out v4 hw hg hj
  have b1 := w_xb hw hc ht ht2 hg hi hj
  have b2 := w_xb hw hc ht ht2 hg hj hi
  have l1 := w_ldb hw hc ht ht2 hg hi hj hi
  have l2 := w_ldb hw hc ht ht2 hg hi hj hj
  have x1 : w32 (w_W N t i) = w_W N t i := q_wB (by omega) (by omega)
  have x2 : w32 (w_W N t j) = w_W N t j := q_wB (by omega) (by omega)
  have x3 : w32 (w_xT N t g i j) = w_xT N t g i j := q_wB (by omega) (by omega)
  have x4 : w32 (N 10 g * w_xB N t i j) = N 10 g * w_xB N t i j := q_wB (by omega) (by omega)
  have x5 : w32 (w_ld N t g i j i) = w_ld N t g i j i := q_wB (by omega) (by omega)
  have x6 : w32 (w_ld N t g i j j) = w_ld N t g i j j := q_wB (by omega) (by omega)
  have f1 : w_W N t i + w_W N t j = w_xB N t i j := rfl
  have f2 : w_W N t j * w_b N g j - w_W N t i * w_o N g i = w_xT N t g i j := rfl
  have f3 : (w_b N g i - w_o N g i) * w_xB N t i j - 2 * w_xT N t g i j = w_ld N t g i j i := rfl
  have f4 : (w_b N g j - w_o N g j) * w_xB N t i j - 2 * w_xT N t g i j = w_ld N t g i j j := rfl
  have g1 := v_wgt v2 (i := i) (by omega)
  have g2 := v_wgt v2 (i := j) (by omega)
  have no : ¬ (0 < w_W N t i ∧ 0 < w_W N t j ∧ 0 < w_xT N t g i j ∧ w_xT N t g i j < N 10 g * w_xB N t i j ∧ 0 < w_ld N t g i j i ∧ w_ld N t g i j j < 0) → w_xl N t g i j = [] := fun h => by
    unfold w_xl w_ac
    rw [if_neg (fun q => h (of_decide_eq_true q))]
  have key : ∀ R, (if 0 < w_W N t i ∧ 0 < w_W N t j ∧ 0 < w_xT N t g i j ∧ w_xT N t g i j < N 10 g * w_xB N t i j ∧ 0 < w_ld N t g i j i ∧ w_ld N t g i j j < 0 then m_cl Z 85 [(2, ((138 : Nat) : Int)), (0, (g : Int)), (0, w_xT N t g i j), (0, w_xB N t i j)] (K, σ, 191, e, s) else some (.inl (9, 0), (K, σ, 191, e, s))) = R → (∀ τ, R = some (.inl (9, 0), (K, τ, 191, e, s)) → m_cl Z 86 [(2, ((138 : Nat) : Int)), (0, (g : Int)), (0, (i : Int)), (0, (j : Int))] (K, σ, 191, e, s) = some (.inl (9, 0), (K, τ, 191, e, s))) := by
    intro R hR τ hτ
    rw [hτ] at hR
    have e85 : ∀ A B C D E G H I J, (m_cl Z 85 [(2, ((138 : Nat) : Int)), (0, (g : Int)), (0, w_xT N t g i j), (0, w_xB N t i j)] (K, σ, 191, e, s)) = some (.inl (9, 0), (K, τ, 191, e, s)) → (m_cl Z 85 [(2, ((138 : Nat) : Int)), (0, (g : Int)), (0, w_xT N t g i j), (0, w_xB N t i j)] (K, σ, 191, e, s)).bind (m_aft (m_run Z) 86 120 [A, B, C, D, E, G, H, I, J] []) = some (.inl (9, 0), (K, τ, 191, e, s)) := by
      intro A B C D E G H I J h
      rw [h]
      simp only [b_86_0, b_86_8, b_86_18, b_86_35, b_86_44, b_86_53, b_86_58, b_86_63, b_86_70, b_86_76, b_86_80, b_86_81, b_86_88, b_86_98, b_86_101, b_86_111, b_86_114, b_86_123, ↓reduceIte, Nat.reduceEqDiff, Nat.reduceMul, q_n10, q_n01, Option.bind_some, g_aft0, g_aft1, g_aft2, g_aft3, g_aft9, Nat.reduceAdd, m_kill_0, m_kill_2, m_kill_3, m_kill_4, m_kill_9, true_or, or_true, q_lm1, q_l0, q_l1, q_l2, q_l3, q_l4, q_l5, q_l6, q_l8, q_l9, q_l10, q_l12, q_l32, q_l50, q_l120, q_l122, q_l126, q_l372, q_l1000, q_l1000000]
    simp only [e_86, b_86_0, b_86_8, b_86_18, b_86_35, b_86_44, b_86_53, b_86_58, b_86_63, b_86_70, b_86_76, b_86_80, b_86_81, b_86_88, b_86_98, b_86_101, b_86_111, b_86_114, b_86_123, ↓reduceIte, Nat.reduceEqDiff, Nat.reduceMul, q_n10, q_n01, Option.bind_some, g_aft0, g_aft1, g_aft2, g_aft3, g_aft9, Nat.reduceAdd, m_kill_0, m_kill_2, m_kill_3, m_kill_4, m_kill_9, true_or, or_true, q_lm1, q_l0, q_l1, q_l2, q_l3, q_l4, q_l5, q_l6, q_l8, q_l9, q_l10, q_l12, q_l32, q_l50, q_l120, q_l122, q_l126, q_l372, q_l1000, q_l1000000, q_surF hL.2.2.1, q_tkF hL.2.1, r_get, g1, g2, s_wayOut hL, s_wayBack hL, o1, o2, u1, u2, f1, f2, x1, x2, x3, s_lengthOf hL, v_len v1 hw hg, x4, s_lead (x := 0) hL v4 hw hg hi, s_lead (x := 0) hL v4 hw hg hj, f3, f4, x5, x6]
    by_cases c1 : 0 < w_W N t i
    case neg => rw [if_pos (Int.not_lt.mp c1)]; rw [if_neg (fun q => c1 q.1)] at hR; exact hR
    rw [if_neg (Int.not_le.mpr c1)]
    by_cases c2 : 0 < w_W N t j
    case neg => rw [if_pos (Int.not_lt.mp c2)]; rw [if_neg (fun q => c2 q.2.1)] at hR; exact hR
    rw [if_neg (Int.not_le.mpr c2)]
    by_cases c3 : 0 < w_xT N t g i j
    case neg => rw [if_pos (by omega)]; rw [if_neg (fun q => c3 q.2.2.1)] at hR; exact hR
    rw [if_neg (by omega)]
    by_cases c4 : w_xT N t g i j < N 10 g * w_xB N t i j
    case neg => rw [if_pos (by omega)]; rw [if_neg (fun q => c4 q.2.2.2.1)] at hR; exact hR
    rw [if_neg (by omega)]
    by_cases c5 : 0 < w_ld N t g i j i
    case neg => rw [if_pos (by omega)]; rw [if_neg (fun q => c5 q.2.2.2.2.1)] at hR; exact hR
    rw [if_neg (by omega)]
    by_cases c6 : w_ld N t g i j j < 0
    case neg => rw [if_pos (by omega)]; rw [if_neg (fun q => c6 q.2.2.2.2.2)] at hR; exact hR
    rw [if_neg (by omega)]
    rw [if_pos ⟨c1, c2, c3, c4, c5, c6⟩] at hR
    exact e85 _ _ _ _ _ _ _ _ _ hR
  by_cases c : 0 < w_W N t i ∧ 0 < w_W N t j ∧ 0 < w_xT N t g i j ∧ w_xT N t g i j < N 10 g * w_xB N t i j ∧ 0 < w_ld N t g i j i ∧ w_ld N t g i j j < 0
  · have hac : w_ac N t g i j = true := decide_eq_true c
    have bb := w_acb hw hc ht ht2 hg hi hj c
    obtain ⟨τ, h1, h2, h3⟩ := s_addPoint (Z := Z) (e := e) (s := s) hL v1 hw hp (hlen hac) bb.1 bb.2.1 bb.2.2.1 (Int.le_of_lt bb.2.2.2.1) bb.2.2.2.2
    refine ⟨τ, key _ rfl τ ?_, ?_, h3⟩
    · rw [if_pos c]; exact h1
    · unfold w_xl
      rw [if_pos hac]
      exact h2
  · refine ⟨σ, key _ rfl σ ?_, ?_, q_f8_r⟩
    · rw [if_neg c]
    · rw [no c, List.append_nil]
      exact hp
end
end
