section
/-! Scripts: faults. -/
def w_cm (X : Nat → Int) (L i : Nat) : Bool × Nat × List Int := if w_kd X L i = 4 then (false, i, []) else w_pt X L (m_str (w_kd X L i)) i []
def w_kc (X : Nat → Int) (L i : Nat) : Int := if w_kd X L i = 0 then 119 else if w_kd X L i = 1 then 118 else if w_kd X L i = 2 then 120 else 35
def w_flf (X : Nat → Int) (L : Nat) : Nat → Nat → Int
  | 0, _ => -1
  | k + 1, i => if w_sk X L i < L then (if (w_cm X L (w_sk X L i)).1 = true then w_flf X L k (w_cm X L (w_sk X L i)).2.1 else ((w_cm X L (w_sk X L i)).2.1 : Int)) else -1
def w_fl (X : Nat → Int) (L : Nat) : Int := w_flf X L (L + 1) 0
section
variable {Z : mZ} {K : Nat → mK} {σ τ N : Nat → Nat → Int} {e s g i L : Nat} {t p q v : Int} {X : Nat → Int}
theorem w_pt_mono : ∀ (r : List Nat) (i : Nat) (a : List Int), i ≤ L → (∀ c, c ∈ r → 1 ≤ c) → i ≤ (w_pt X L r i a).2.1 ∧ (w_pt X L r i a).2.1 ≤ L
  | [], i, a, h, _ => ⟨Nat.le_refl _, h⟩
  | c :: r, i, a, h, hc => by
    have hs := w_sk_le (X := X) h
    have hn := w_nd_le (X := X) hs.2
    have h1 := hc c (List.mem_cons_self ..)
    show i ≤ (if c = 35 then _ else _ : Bool × Nat × List Int).2.1 ∧ (if c = 35 then _ else _ : Bool × Nat × List Int).2.1 ≤ L
    by_cases h35 : c = 35
    · rw [if_pos h35, w_nm_nd]
      by_cases hb : (w_nd X L (w_sk X L i)).1 = true
      · rw [if_pos hb]
        have := w_pt_mono r _ (a ++ [(w_nd X L (w_sk X L i)).2.2]) hn.2.1 (fun x hx => hc x (List.mem_cons_of_mem _ hx))
        omega
      · rw [if_neg hb]
        show i ≤ (w_nd X L (w_sk X L i)).2.1 ∧ (w_nd X L (w_sk X L i)).2.1 ≤ L
        omega
    · rw [if_neg h35]
      by_cases hb : w_sg X L (w_sk X L i) = (c : Int)
      · rw [if_pos hb]
        have hlt : w_sk X L i < L := by
          by_cases hlt : w_sk X L i < L
          · exact hlt
          · unfold w_sg at hb
            rw [if_neg hlt] at hb
            omega
        have := w_pt_mono r (w_sk X L i + 1) a hlt (fun x hx => hc x (List.mem_cons_of_mem _ hx))
        omega
      · rw [if_neg hb]
        show i ≤ w_sk X L i ∧ w_sk X L i ≤ L
        omega
theorem w_nd_adv (h : (w_nd X L i).1 = true) : i < (w_nd X L i).2.1 := by
  unfold w_nd at *
  by_cases c : w_dg X L i = true
  · rw [if_pos c]
    split
    · show i < i + 2; omega
    · show i < i + 1; omega
  · rw [if_neg c] at h
    exact absurd h Bool.false_ne_true
theorem w_pt_adv {c : Nat} {r : List Nat} {a : List Int} (hi : i ≤ L) (hc : ∀ x, x ∈ c :: r → 1 ≤ x) (h : (w_pt X L (c :: r) i a).1 = true) : i < (w_pt X L (c :: r) i a).2.1 := by
  have hs := w_sk_le (X := X) hi
  have hn := w_nd_le (X := X) hs.2
  have h1 := hc c (List.mem_cons_self ..)
  have e : w_pt X L (c :: r) i a = if c = 35 then (if (w_nm X L i).1 = true then w_pt X L r (w_nm X L i).2.1 (a ++ [(w_nm X L i).2.2]) else (false, (w_nm X L i).2.1, a)) else if w_sg X L (w_sk X L i) = (c : Int) then w_pt X L r (w_sk X L i + 1) a else (false, w_sk X L i, a) := rfl
  rw [e] at h ⊢
  by_cases h35 : c = 35
  · rw [if_pos h35, w_nm_nd] at h ⊢
    by_cases hb : (w_nd X L (w_sk X L i)).1 = true
    · rw [if_pos hb]
      have := w_pt_mono (X := X) r _ (a ++ [(w_nd X L (w_sk X L i)).2.2]) hn.2.1 (fun x hx => hc x (List.mem_cons_of_mem _ hx))
      have := w_nd_adv hb
      omega
    · rw [if_neg hb] at h
      exact absurd h Bool.false_ne_true
  · rw [if_neg h35] at h ⊢
    by_cases hb : w_sg X L (w_sk X L i) = (c : Int)
    · rw [if_pos hb]
      have hlt : w_sk X L i < L := by
        by_cases hlt : w_sk X L i < L
        · exact hlt
        · unfold w_sg at hb
          rw [if_neg hlt] at hb
          omega
      have := w_pt_mono (X := X) r (w_sk X L i + 1) a hlt (fun x hx => hc x (List.mem_cons_of_mem _ hx))
      omega
    · rw [if_neg hb] at h
      exact absurd h Bool.false_ne_true
theorem w_kd5 : w_kd X L i < 5 := by
  unfold w_kd
  repeat' split
  all_goals omega
theorem m_strC : ∀ k : Fin 5, (m_str k.val).length ≤ 10 ∧ w_c35 (m_str k.val) ≤ 3 ∧ (∀ c ∈ m_str k.val, 1 ≤ c ∧ c ≤ 126) := by decide
theorem m_str_c {k : Nat} (h : k < 5) : (m_str k).length ≤ 10 ∧ w_c35 (m_str k) ≤ 3 ∧ (∀ c, c ∈ m_str k → 1 ≤ c ∧ c ≤ 126) := m_strC ⟨k, h⟩
theorem w_cm_le (hi : i ≤ L) : i ≤ (w_cm X L i).2.1 ∧ (w_cm X L i).2.1 ≤ L := by
  unfold w_cm
  split
  · exact ⟨Nat.le_refl _, hi⟩
  · exact w_pt_mono _ _ _ hi (fun c hc => ((m_str_c w_kd5).2.2 c hc).1)
theorem m_str_ne {k : Nat} (h : k < 4) : ∃ c r, m_str k = c :: r ∧ (c : Int) = if k = 0 then 119 else if k = 1 then 118 else if k = 2 then 120 else 35 := by
  rcases (show k = 0 ∨ k = 1 ∨ k = 2 ∨ k = 3 by omega) with rfl | rfl | rfl | rfl
  · exact ⟨_, _, rfl, by decide⟩
  · exact ⟨_, _, rfl, by decide⟩
  · exact ⟨_, _, rfl, by decide⟩
  · exact ⟨_, _, rfl, by decide⟩
theorem w_cm_adv (hi : i ≤ L) (h : (w_cm X L i).1 = true) : i < (w_cm X L i).2.1 := by
  unfold w_cm at *
  by_cases c : w_kd X L i = 4
  · rw [if_pos c] at h
    exact absurd h Bool.false_ne_true
  · rw [if_neg c] at h ⊢
    have hk := w_kd5 (X := X) (L := L) (i := i)
    obtain ⟨d, r, h1, -⟩ := m_str_ne (show w_kd X L i < 4 by omega)
    have hc := (m_str_c hk).2.2
    rw [h1] at h hc ⊢
    exact w_pt_adv hi (fun x hx => (hc x hx).1) h
theorem c_readCmd (hL : q_lay K) (h : w_tx σ X L) (hp : σ 186 2 = (i : Int)) (hi : i ≤ L) : ∃ τ, m_cl Z 61 [(2, ((186 : Nat) : Int))] (K, σ, 206, e, s) = some (.inl (0, if (w_cm X L i).1 = true then 1 else 0), (K, τ, 206, e, s)) ∧ q_fs σ τ ∧ τ 186 2 = ((w_cm X L i).2.1 : Int) ∧ ((w_cm X L i).1 = true → τ 186 3 = w_kc X L i ∧ ∀ m, m < (w_cm X L i).2.2.length → τ 190 m = (w_cm X L i).2.2.getD m 0) := by
  have L120 := h.2.1
  have hpat := c_pattern (Z := Z) (e := e) (s := s) hL h hp (by omega)
  have hk := w_kd5 (X := X) (L := L) (i := i)
  have hlen := m_str_c hk
  have f4 : q_fs σ (m_up2 σ 186 4 0) := ⟨fun a a1 _ => m_up2_ne a1, fun j _ _ a3 => m_up2_nk a3⟩
  have wl : w32 ((m_str (w_kd X L i)).length : Int) = ((m_str (w_kd X L i)).length : Int) := q_w (by omega)
  by_cases c : w_kd X L i = 4
  · have hcm : w_cm X L i = (false, i, []) := by unfold w_cm; rw [if_pos c]
    rw [hcm]
    refine ⟨m_up2 σ 186 4 0, ?_, f4, by rw [m_up2_nk (by omega)]; exact hp, fun q => absurd q Bool.false_ne_true⟩
    have hl0 : ((m_str (w_kd X L i)).length : Int) ≤ 0 := by rw [c]; decide
    simp only [e_61, b_61_0, b_61_4, b_61_14, b_61_21, b_61_22, ↓reduceIte, Nat.reduceEqDiff, Nat.reduceMul, q_n10, q_n01, Option.bind_some, g_aft0, g_aft1, g_aft2, g_aft3, g_aft9, Nat.reduceAdd, m_kill_0, m_kill_2, m_kill_3, m_kill_4, m_kill_9, true_or, or_true, q_lm1, q_l0, q_l1, q_l2, q_l3, q_l4, q_l5, q_l6, q_l8, q_l9, q_l10, q_l12, q_l17, q_l32, q_l35, q_l48, q_l50, q_l54, q_l57, q_l64, q_l73, q_l118, q_l119, q_l120, q_l122, q_l126, q_l160, q_l256, q_l365, q_l372, q_l438, q_l1000, q_l100000, q_l1000000, q_scrF hL.2.2.2.2.2.1, hpat, hk, c_len hk, wl, hl0]
    simp only [b_61_25, b_61_92, ↓reduceIte, Nat.reduceEqDiff, Nat.reduceMul, q_n10, q_n01, Option.bind_some, g_aft0, g_aft1, g_aft2, g_aft3, g_aft9, Nat.reduceAdd, m_kill_0, m_kill_2, m_kill_3, m_kill_4, m_kill_9, true_or, or_true, q_lm1, q_l0, q_l1, q_l2, q_l3, q_l4, q_l5, q_l6, q_l8, q_l9, q_l10, q_l12, q_l17, q_l32, q_l35, q_l48, q_l50, q_l54, q_l57, q_l64, q_l73, q_l118, q_l119, q_l120, q_l122, q_l126, q_l160, q_l256, q_l365, q_l372, q_l438, q_l1000, q_l100000, q_l1000000, Bool.false_eq_true, true_or]
  · have hcm : w_cm X L i = w_pt X L (m_str (w_kd X L i)) i [] := by unfold w_cm; rw [if_neg c]
    obtain ⟨d, r, h1, h2⟩ := m_str_ne (show w_kd X L i < 4 by clear wl; omega)
    obtain ⟨τ, r1, r2, r3, -, -, r6, -, r8⟩ := c_loop (Z := Z) (e := e) (s := s) (X := X) (L := L) hL hk hlen.1 (m_str (w_kd X L i)) [] (m_up2 σ 186 4 0) i [] (9, 0) rfl hlen.2.2 (w_tx_f h f4) (by rw [m_up2_nk (by omega)]; exact hp) hi m_up2_at (by rw [show ([] : List Int).length = 0 from rfl, Nat.zero_add]; exact hlen.2.1) (fun m hm => absurd hm (Nat.not_lt_zero _))
    rw [hcm]
    refine ⟨τ, ?_, q_fs_t f4 r2, r3, fun q => ⟨?_, r6 q⟩⟩
    · have hl0 : ¬ ((m_str (w_kd X L i)).length : Int) ≤ 0 := by
        have hl1 : (m_str (w_kd X L i)).length = r.length + 1 := by rw [h1]; rfl
        clear wl
        omega
      simp only [e_61, b_61_0, b_61_4, b_61_14, b_61_17, ↓reduceIte, Nat.reduceEqDiff, Nat.reduceMul, q_n10, q_n01, Option.bind_some, g_aft0, g_aft1, g_aft2, g_aft3, g_aft9, Nat.reduceAdd, m_kill_0, m_kill_2, m_kill_3, m_kill_4, m_kill_9, true_or, or_true, q_lm1, q_l0, q_l1, q_l2, q_l3, q_l4, q_l5, q_l6, q_l8, q_l9, q_l10, q_l12, q_l17, q_l32, q_l35, q_l48, q_l50, q_l54, q_l57, q_l64, q_l73, q_l118, q_l119, q_l120, q_l122, q_l126, q_l160, q_l256, q_l365, q_l372, q_l438, q_l1000, q_l100000, q_l1000000, q_scrF hL.2.2.2.2.2.1, hpat, hk, c_len hk, wl, hl0]
      exact r1
    · rw [r8 rfl d r h1, h2]
      rfl
theorem c_fault (hL : q_lay K) (h : w_tx σ X L) : ∃ τ, m_cl Z 54 [(2, ((186 : Nat) : Int))] (K, σ, 206, e, s) = some (.inl (0, w_fl X L), (K, τ, 206, e, s)) ∧ q_fs σ τ := by
  have e120 : w32 120 = 120 := by decide
  have key : ∀ (k i n : Nat) (σ : Nat → Nat → Int), w_tx σ X L → σ 186 2 = (i : Int) → i ≤ L → n ≤ i → L + 1 ≤ i + k → ∃ τ, m_run Z (54, 6, [(2, ((186 : Nat) : Int)), (0, (n : Int))], [], (K, σ, 206, e, s)) = some (.inl (0, w_flf X L k i), (K, τ, 206, e, s)) ∧ q_fs σ τ := by
    intro k
    induction k with
    | zero => intro i n σ _ _ h1 _ h2; omega
    | succ k ih =>
      intro i n σ htx hp hi hn hk
      have L120 := htx.2.1
      have hm := c_hasMore (Z := Z) (e := e) (s := s) hL htx hp hi
      have hsl := w_sk_le (X := X) hi
      have htx2 := w_tx_f htx (q_fs_2 (v := (w_sk X L i : Int)))
      have c0 : ¬ (120 : Int) < (n : Int) := by clear e120; omega
      have wn : w32 (n : Int) = (n : Int) := q_w (by clear e120; omega)
      unfold w_flf
      by_cases c : w_sk X L i < L
      · rw [if_pos c] at hm ⊢
        obtain ⟨τ, r1, r2, r3, -⟩ := c_readCmd (Z := Z) (e := e) (s := s) hL htx2 m_up2_at hsl.2
        have hle := w_cm_le (X := X) hsl.2
        by_cases d : (w_cm X L (w_sk X L i)).1 = true
        · rw [if_pos d] at r1 ⊢
          have hadv := w_cm_adv hsl.2 d
          obtain ⟨ω, i1, i2⟩ := ih (w_cm X L (w_sk X L i)).2.1 (n + 1) τ (w_tx_f htx2 r2) r3 hle.2 (by clear e120 wn; omega) (by clear e120 wn; omega)
          refine ⟨ω, ?_, q_fs_t (q_fs_t q_fs_2 r2) i2⟩
          have en : ((n + 1 : Nat) : Int) = (n : Int) + 1 := rfl
          rw [en] at i1
          conv => lhs; simp only [b_54_6, ↓reduceIte, Nat.reduceEqDiff, Nat.reduceMul, q_n10, q_n01, Option.bind_some, g_aft0, g_aft1, g_aft2, g_aft3, g_aft9, Nat.reduceAdd, m_kill_0, m_kill_2, m_kill_3, m_kill_4, m_kill_9, true_or, or_true, q_lm1, q_l0, q_l1, q_l2, q_l3, q_l4, q_l5, q_l6, q_l8, q_l9, q_l10, q_l12, q_l17, q_l32, q_l35, q_l48, q_l50, q_l54, q_l57, q_l64, q_l73, q_l118, q_l119, q_l120, q_l122, q_l126, q_l160, q_l256, q_l365, q_l372, q_l438, q_l1000, q_l100000, q_l1000000, wn, c0]
          simp only [b_54_12, b_54_16, b_54_19, b_54_23, b_54_31, ↓reduceIte, Nat.reduceEqDiff, Nat.reduceMul, q_n10, q_n01, Option.bind_some, g_aft0, g_aft1, g_aft2, g_aft3, g_aft9, Nat.reduceAdd, m_kill_0, m_kill_2, m_kill_3, m_kill_4, m_kill_9, true_or, or_true, q_lm1, q_l0, q_l1, q_l2, q_l3, q_l4, q_l5, q_l6, q_l8, q_l9, q_l10, q_l12, q_l17, q_l32, q_l35, q_l48, q_l50, q_l54, q_l57, q_l64, q_l73, q_l118, q_l119, q_l120, q_l122, q_l126, q_l160, q_l256, q_l365, q_l372, q_l438, q_l1000, q_l100000, q_l1000000, q_scrF hL.2.2.2.2.2.1, hm, r1]
          exact i1
        · rw [if_neg d] at r1 ⊢
          refine ⟨τ, ?_, q_fs_t q_fs_2 r2⟩
          conv => lhs; simp only [b_54_6, ↓reduceIte, Nat.reduceEqDiff, Nat.reduceMul, q_n10, q_n01, Option.bind_some, g_aft0, g_aft1, g_aft2, g_aft3, g_aft9, Nat.reduceAdd, m_kill_0, m_kill_2, m_kill_3, m_kill_4, m_kill_9, true_or, or_true, q_lm1, q_l0, q_l1, q_l2, q_l3, q_l4, q_l5, q_l6, q_l8, q_l9, q_l10, q_l12, q_l17, q_l32, q_l35, q_l48, q_l50, q_l54, q_l57, q_l64, q_l73, q_l118, q_l119, q_l120, q_l122, q_l126, q_l160, q_l256, q_l365, q_l372, q_l438, q_l1000, q_l100000, q_l1000000, wn, c0]
          simp only [b_54_12, b_54_16, b_54_19, b_54_23, b_54_26, ↓reduceIte, Nat.reduceEqDiff, Nat.reduceMul, q_n10, q_n01, Option.bind_some, g_aft0, g_aft1, g_aft2, g_aft3, g_aft9, Nat.reduceAdd, m_kill_0, m_kill_2, m_kill_3, m_kill_4, m_kill_9, true_or, or_true, q_lm1, q_l0, q_l1, q_l2, q_l3, q_l4, q_l5, q_l6, q_l8, q_l9, q_l10, q_l12, q_l17, q_l32, q_l35, q_l48, q_l50, q_l54, q_l57, q_l64, q_l73, q_l118, q_l119, q_l120, q_l122, q_l126, q_l160, q_l256, q_l365, q_l372, q_l438, q_l1000, q_l100000, q_l1000000, q_scrF hL.2.2.2.2.2.1, hm, r1, r3]
      · rw [if_neg c] at hm ⊢
        refine ⟨m_up2 σ 186 2 (w_sk X L i : Int), ?_, q_fs_2⟩
        conv => lhs; simp only [b_54_6, ↓reduceIte, Nat.reduceEqDiff, Nat.reduceMul, q_n10, q_n01, Option.bind_some, g_aft0, g_aft1, g_aft2, g_aft3, g_aft9, Nat.reduceAdd, m_kill_0, m_kill_2, m_kill_3, m_kill_4, m_kill_9, true_or, or_true, q_lm1, q_l0, q_l1, q_l2, q_l3, q_l4, q_l5, q_l6, q_l8, q_l9, q_l10, q_l12, q_l17, q_l32, q_l35, q_l48, q_l50, q_l54, q_l57, q_l64, q_l73, q_l118, q_l119, q_l120, q_l122, q_l126, q_l160, q_l256, q_l365, q_l372, q_l438, q_l1000, q_l100000, q_l1000000, wn, c0]
        simp only [b_54_12, b_54_16, b_54_37, ↓reduceIte, Nat.reduceEqDiff, Nat.reduceMul, q_n10, q_n01, Option.bind_some, g_aft0, g_aft1, g_aft2, g_aft3, g_aft9, Nat.reduceAdd, m_kill_0, m_kill_2, m_kill_3, m_kill_4, m_kill_9, true_or, or_true, q_lm1, q_l0, q_l1, q_l2, q_l3, q_l4, q_l5, q_l6, q_l8, q_l9, q_l10, q_l12, q_l17, q_l32, q_l35, q_l48, q_l50, q_l54, q_l57, q_l64, q_l73, q_l118, q_l119, q_l120, q_l122, q_l126, q_l160, q_l256, q_l365, q_l372, q_l438, q_l1000, q_l100000, q_l1000000, q_scrF hL.2.2.2.2.2.1, hm]
  have h2 := w_tx_f h (q_fs_2 (v := 0))
  obtain ⟨τ, t1, t2⟩ := key (L + 1) 0 0 (m_up2 σ 186 2 0) h2 m_up2_at (Nat.zero_le _) (Nat.le_refl _) (by omega)
  refine ⟨τ, ?_, q_fs_t q_fs_2 t2⟩
  simp only [e_54, b_54_0, b_54_4, e_55, b_55_0, ↓reduceIte, Nat.reduceEqDiff, Nat.reduceMul, q_n10, q_n01, Option.bind_some, g_aft0, g_aft1, g_aft2, g_aft3, g_aft9, Nat.reduceAdd, m_kill_0, m_kill_2, m_kill_3, m_kill_4, m_kill_9, true_or, or_true, q_lm1, q_l0, q_l1, q_l2, q_l3, q_l4, q_l5, q_l6, q_l8, q_l9, q_l10, q_l12, q_l17, q_l32, q_l35, q_l48, q_l50, q_l54, q_l57, q_l64, q_l73, q_l118, q_l119, q_l120, q_l122, q_l126, q_l160, q_l256, q_l365, q_l372, q_l438, q_l1000, q_l100000, q_l1000000, q_scrF hL.2.2.2.2.2.1]
  exact t1
end
end
