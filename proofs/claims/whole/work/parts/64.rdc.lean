section
/-! Scripts: whole commands. -/
def w_c35 : List Nat → Nat
  | [] => 0
  | c :: r => if c = 35 then w_c35 r + 1 else w_c35 r
theorem c_len {Z : mZ} {k : Nat} {h : mH} (hk : k < 5) : m_cl Z 1005 [(3, ((k : Nat) : Int))] h = some (.inl (0, ((m_str k).length : Int)), h) := by
  rw [g_prm (by decide)]
  show (if k < 5 then _ else none) = _
  rw [if_pos hk]
theorem c_chr {Z : mZ} {k i : Nat} {h : mH} (hk : k < 5) (hi : i < (m_str k).length) (hl : i ≤ 1000) : m_cl Z 1006 [(3, ((k : Nat) : Int)), (0, (i : Int))] h = some (.inl (0, (((m_str k).getD i 0 : Nat) : Int)), h) := by
  have w1 : w32 (i : Int) = (i : Int) := q_w (by omega)
  rw [g_prm (by decide)]
  show (if k < 5 ∧ 0 ≤ w32 (i : Int) ∧ w32 (i : Int) < (m_str k).length then some ((Sum.inl (0, (((m_str k).getD (w32 (i : Int)).toNat 0 : Nat) : Int)), h) : mO) else none) = _
  rw [w1, if_pos ⟨hk, Int.natCast_nonneg _, Int.ofNat_lt.mpr hi⟩]
  rfl
theorem getD_app {pre r : List Nat} {c : Nat} : (pre ++ c :: r).getD pre.length 0 = c := by simp [List.getD]
section
variable {Z : mZ} {K : Nat → mK} {σ τ N : Nat → Nat → Int} {e s g i L : Nat} {t p q v : Int} {X : Nat → Int}
theorem c_hasMore (hL : q_lay K) (h : w_tx σ X L) (hp : σ 186 2 = (i : Int)) (hi : i ≤ L) : m_cl Z 56 [(2, ((186 : Nat) : Int))] (K, σ, 206, e, s) = some (.inl (0, if w_sk X L i < L then 1 else 0), (K, m_up2 σ 186 2 (w_sk X L i : Int), 206, e, s)) := by
  have L120 := h.2.1
  have hs := c_skip (Z := Z) (e := e) (s := s) hL h hp hi
  have hle := w_sk_le (X := X) hi
  have w1 : w32 (L : Int) = (L : Int) := q_w (by omega)
  have w2 : w32 (w_sk X L i : Int) = (w_sk X L i : Int) := q_w (by clear w1; omega)
  by_cases c : w_sk X L i < L
  · have c0 : ¬ (L : Int) ≤ (w_sk X L i : Int) := by clear w1 w2; omega
    rw [if_pos c]
    simp only [e_56, b_56_0, b_56_4, b_56_15, b_56_19, b_56_20, ↓reduceIte, Nat.reduceEqDiff, Nat.reduceMul, q_n10, q_n01, Option.bind_some, g_aft0, g_aft1, g_aft2, g_aft3, g_aft9, Nat.reduceAdd, m_kill_0, m_kill_2, m_kill_3, m_kill_4, m_kill_9, true_or, or_true, q_lm1, q_l0, q_l1, q_l2, q_l3, q_l4, q_l5, q_l6, q_l8, q_l9, q_l10, q_l12, q_l17, q_l32, q_l35, q_l48, q_l50, q_l54, q_l57, q_l64, q_l73, q_l118, q_l119, q_l120, q_l122, q_l126, q_l160, q_l256, q_l365, q_l372, q_l438, q_l1000, q_l100000, q_l1000000, q_scrF hL.2.2.2.2.2.1, hs, m_up2_at, m_up2_nk, ne_eq, not_false_eq_true, h.1, w1, w2, c0]
  · have c0 : (L : Int) ≤ (w_sk X L i : Int) := by clear w1 w2; omega
    rw [if_neg c]
    simp only [e_56, b_56_0, b_56_4, b_56_15, b_56_19, b_56_20, ↓reduceIte, Nat.reduceEqDiff, Nat.reduceMul, q_n10, q_n01, Option.bind_some, g_aft0, g_aft1, g_aft2, g_aft3, g_aft9, Nat.reduceAdd, m_kill_0, m_kill_2, m_kill_3, m_kill_4, m_kill_9, true_or, or_true, q_lm1, q_l0, q_l1, q_l2, q_l3, q_l4, q_l5, q_l6, q_l8, q_l9, q_l10, q_l12, q_l17, q_l32, q_l35, q_l48, q_l50, q_l54, q_l57, q_l64, q_l73, q_l118, q_l119, q_l120, q_l122, q_l126, q_l160, q_l256, q_l365, q_l372, q_l438, q_l1000, q_l100000, q_l1000000, q_scrF hL.2.2.2.2.2.1, hs, m_up2_at, m_up2_nk, ne_eq, not_false_eq_true, h.1, w1, w2, c0, true_or]
theorem c_loop {k : Nat} (hL : q_lay K) (hk : k < 5) (h10 : (m_str k).length ≤ 10) : ∀ (r pre : List Nat) (ρ : Nat → Nat → Int) (j : Nat) (a : List Int) (l4 : mV), m_str k = pre ++ r → (∀ c, c ∈ r → 1 ≤ c ∧ c ≤ 126) → w_tx ρ X L → ρ 186 2 = (j : Int) → j ≤ L → ρ 186 4 = (a.length : Int) → a.length + w_c35 r ≤ 3 → (∀ m, m < a.length → ρ 190 m = a.getD m 0) → ∃ τ, m_run Z (61, 25, [(2, ((186 : Nat) : Int)), (3, ((k : Nat) : Int)), (0, 1), (0, (pre.length : Int)), l4], [], (K, ρ, 206, e, s)) = some (.inl (0, if (w_pt X L r j a).1 = true then 1 else 0), (K, τ, 206, e, s)) ∧ q_fs ρ τ ∧ τ 186 2 = ((w_pt X L r j a).2.1 : Int) ∧ (w_pt X L r j a).2.1 ≤ L ∧ j ≤ (w_pt X L r j a).2.1 ∧ ((w_pt X L r j a).1 = true → ∀ m, m < (w_pt X L r j a).2.2.length → τ 190 m = (w_pt X L r j a).2.2.getD m 0) ∧ (pre ≠ [] → τ 186 3 = ρ 186 3) ∧ (pre = [] → ∀ c r', r = c :: r' → τ 186 3 = (c : Int)) := by
  have e0 : w32 0 = 0 := by decide
  have e1 : w32 1 = 1 := by decide
  intro r
  induction r with
  | nil =>
    intro pre ρ j a l4 hs _ htx hp hj ha _ hnum
    rw [List.append_nil] at hs
    refine ⟨ρ, ?_, q_fs_r, hp, hj, Nat.le_refl _, fun _ => hnum, fun _ => rfl, fun _ c r' hr => absurd hr (by simp)⟩
    have w1 : w32 ((m_str k).length : Int) = ((m_str k).length : Int) := q_w (by clear e0 e1; omega)
    rw [← hs]
    simp only [b_61_25, b_61_29, b_61_34, b_61_92, ↓reduceIte, Nat.reduceEqDiff, Nat.reduceMul, q_n10, q_n01, Option.bind_some, g_aft0, g_aft1, g_aft2, g_aft3, g_aft9, Nat.reduceAdd, m_kill_0, m_kill_2, m_kill_3, m_kill_4, m_kill_9, true_or, or_true, q_lm1, q_l0, q_l1, q_l2, q_l3, q_l4, q_l5, q_l6, q_l8, q_l9, q_l10, q_l12, q_l17, q_l32, q_l35, q_l48, q_l50, q_l54, q_l57, q_l64, q_l73, q_l118, q_l119, q_l120, q_l122, q_l126, q_l160, q_l256, q_l365, q_l372, q_l438, q_l1000, q_l100000, q_l1000000, q_scrF hL.2.2.2.2.2.1, hk, c_len hk, w1, Int.le_refl, or_true]
    rfl
  | cons c r ih =>
    intro pre ρ j a l4 hs hc htx hp hj ha hcnt hnum
    have hc1 := hc c (List.mem_cons_self ..)
    have hlen : (m_str k).length = pre.length + (r.length + 1) := by rw [hs, List.length_append]; rfl
    have L120 := htx.2.1
    have hchr := c_chr (Z := Z) (k := k) (i := pre.length) (h := (K, ρ, 206, e, s)) hk (by clear e0 e1; omega) (by clear e0 e1; omega)
    rw [show (m_str k).getD pre.length 0 = c by rw [hs]; exact getD_app] at hchr
    have wl : w32 ((m_str k).length : Int) = ((m_str k).length : Int) := q_w (by clear e0 e1 hchr; omega)
    have wp : w32 (pre.length : Int) = (pre.length : Int) := q_w (by clear e0 e1 hchr wl; omega)
    have wc : w32 (c : Int) = (c : Int) := q_w (by clear e0 e1 hchr wl wp; omega)
    have c0 : ¬ ((m_str k).length : Int) ≤ (pre.length : Int) := by clear e0 e1 hchr wl wp wc; omega
    have epre : (((pre ++ [c]).length : Nat) : Int) = (pre.length : Int) + 1 := by rw [List.length_append]; rfl
    have hs' : m_str k = (pre ++ [c]) ++ r := by rw [hs, List.append_assoc]; rfl
    have hne : pre ++ [c] ≠ [] := by simp
    -- the kind
    obtain ⟨κ, hκ⟩ : ∃ κ : Int, κ = if pre.length = 0 then (c : Int) else ρ 186 3 := ⟨_, rfl⟩
    have hρ1 : q_fs ρ (m_up2 ρ 186 3 κ) := ⟨fun x h1 _ => m_up2_ne h1, fun x _ h2 _ => m_up2_nk h2⟩
    have tx1 := w_tx_f htx hρ1
    have p1 : m_up2 ρ 186 3 κ 186 2 = (j : Int) := by rw [m_up2_nk (by omega)]; exact hp
    have hsk := c_skip (Z := Z) (e := e) (s := s) hL tx1 p1 hj
    have hsl := w_sk_le (X := X) hj
    have tx2 : w_tx (m_up2 (m_up2 ρ 186 3 κ) 186 2 (w_sk X L j : Int)) X L := w_tx_f tx1 q_fs_2
    have f2 : q_fs ρ (m_up2 (m_up2 ρ 186 3 κ) 186 2 (w_sk X L j : Int)) := q_fs_t hρ1 q_fs_2
    have a2 : m_up2 (m_up2 ρ 186 3 κ) 186 2 (w_sk X L j : Int) 186 4 = (a.length : Int) := by rw [m_up2_nk (by omega), m_up2_nk (by omega)]; exact ha
    have k2 : m_up2 (m_up2 ρ 186 3 κ) 186 2 (w_sk X L j : Int) 186 3 = κ := by rw [m_up2_nk (by omega), m_up2_at]
    have n2 : m_up2 (m_up2 ρ 186 3 κ) 186 2 (w_sk X L j : Int) 190 = ρ 190 := by rw [m_up2_ne (by omega), m_up2_ne (by omega)]
    have head : m_run Z (61, 25, [(2, ((186 : Nat) : Int)), (3, ((k : Nat) : Int)), (0, 1), (0, (pre.length : Int)), l4], [], (K, ρ, 206, e, s)) = m_run Z (61, 65, [(2, ((186 : Nat) : Int)), (3, ((k : Nat) : Int)), (0, 1), (0, (pre.length : Int)), (0, (c : Int))], [], (K, m_up2 (m_up2 ρ 186 3 κ) 186 2 (w_sk X L j : Int), 206, e, s)) := by
      by_cases hz : pre.length = 0
      · rw [if_pos hz] at hκ
        subst hκ
        have hz' : (pre.length : Int) = 0 := by rw [hz]; rfl
        conv => lhs; simp only [b_61_25, ↓reduceIte, Nat.reduceEqDiff, Nat.reduceMul, q_n10, q_n01, Option.bind_some, g_aft0, g_aft1, g_aft2, g_aft3, g_aft9, Nat.reduceAdd, m_kill_0, m_kill_2, m_kill_3, m_kill_4, m_kill_9, true_or, or_true, q_lm1, q_l0, q_l1, q_l2, q_l3, q_l4, q_l5, q_l6, q_l8, q_l9, q_l10, q_l12, q_l17, q_l32, q_l35, q_l48, q_l50, q_l54, q_l57, q_l64, q_l73, q_l118, q_l119, q_l120, q_l122, q_l126, q_l160, q_l256, q_l365, q_l372, q_l438, q_l1000, q_l100000, q_l1000000]
        simp only [b_61_29, b_61_34, b_61_37, b_61_42, b_61_49, ↓reduceIte, Nat.reduceEqDiff, Nat.reduceMul, q_n10, q_n01, Option.bind_some, g_aft0, g_aft1, g_aft2, g_aft3, g_aft9, Nat.reduceAdd, m_kill_0, m_kill_2, m_kill_3, m_kill_4, m_kill_9, true_or, or_true, q_lm1, q_l0, q_l1, q_l2, q_l3, q_l4, q_l5, q_l6, q_l8, q_l9, q_l10, q_l12, q_l17, q_l32, q_l35, q_l48, q_l50, q_l54, q_l57, q_l64, q_l73, q_l118, q_l119, q_l120, q_l122, q_l126, q_l160, q_l256, q_l365, q_l372, q_l438, q_l1000, q_l100000, q_l1000000, q_scrF hL.2.2.2.2.2.1, hk, c_len hk, wl, wp, c0, hchr]
        rw [if_pos hz', hsk]
        simp only [↓reduceIte, Nat.reduceEqDiff, Nat.reduceMul, q_n10, q_n01, Option.bind_some, g_aft0, g_aft1, g_aft2, g_aft3, g_aft9, Nat.reduceAdd, m_kill_0, m_kill_2, m_kill_3, m_kill_4, m_kill_9, true_or, or_true, q_lm1, q_l0, q_l1, q_l2, q_l3, q_l4, q_l5, q_l6, q_l8, q_l9, q_l10, q_l12, q_l17, q_l32, q_l35, q_l48, q_l50, q_l54, q_l57, q_l64, q_l73, q_l118, q_l119, q_l120, q_l122, q_l126, q_l160, q_l256, q_l365, q_l372, q_l438, q_l1000, q_l100000, q_l1000000]
      · rw [if_neg hz] at hκ
        have hz' : ¬ (pre.length : Int) = 0 := by clear e0 e1 hchr wl wp wc hsk; omega
        conv => lhs; simp only [b_61_25, ↓reduceIte, Nat.reduceEqDiff, Nat.reduceMul, q_n10, q_n01, Option.bind_some, g_aft0, g_aft1, g_aft2, g_aft3, g_aft9, Nat.reduceAdd, m_kill_0, m_kill_2, m_kill_3, m_kill_4, m_kill_9, true_or, or_true, q_lm1, q_l0, q_l1, q_l2, q_l3, q_l4, q_l5, q_l6, q_l8, q_l9, q_l10, q_l12, q_l17, q_l32, q_l35, q_l48, q_l50, q_l54, q_l57, q_l64, q_l73, q_l118, q_l119, q_l120, q_l122, q_l126, q_l160, q_l256, q_l365, q_l372, q_l438, q_l1000, q_l100000, q_l1000000]
        simp only [b_61_29, b_61_34, b_61_37, b_61_42, b_61_54, b_61_58, ↓reduceIte, Nat.reduceEqDiff, Nat.reduceMul, q_n10, q_n01, Option.bind_some, g_aft0, g_aft1, g_aft2, g_aft3, g_aft9, Nat.reduceAdd, m_kill_0, m_kill_2, m_kill_3, m_kill_4, m_kill_9, true_or, or_true, q_lm1, q_l0, q_l1, q_l2, q_l3, q_l4, q_l5, q_l6, q_l8, q_l9, q_l10, q_l12, q_l17, q_l32, q_l35, q_l48, q_l50, q_l54, q_l57, q_l64, q_l73, q_l118, q_l119, q_l120, q_l122, q_l126, q_l160, q_l256, q_l365, q_l372, q_l438, q_l1000, q_l100000, q_l1000000, q_scrF hL.2.2.2.2.2.1, hk, c_len hk, wl, wp, c0, hchr]
        rw [if_neg hz', ← hκ, hsk]
        simp only [↓reduceIte, Nat.reduceEqDiff, Nat.reduceMul, q_n10, q_n01, Option.bind_some, g_aft0, g_aft1, g_aft2, g_aft3, g_aft9, Nat.reduceAdd, m_kill_0, m_kill_2, m_kill_3, m_kill_4, m_kill_9, true_or, or_true, q_lm1, q_l0, q_l1, q_l2, q_l3, q_l4, q_l5, q_l6, q_l8, q_l9, q_l10, q_l12, q_l17, q_l32, q_l35, q_l48, q_l50, q_l54, q_l57, q_l64, q_l73, q_l118, q_l119, q_l120, q_l122, q_l126, q_l160, q_l256, q_l365, q_l372, q_l438, q_l1000, q_l100000, q_l1000000]
    by_cases h35 : c = 35
    · -- a number
      have hcn : w_c35 (c :: r) = w_c35 r + 1 := by show (if c = 35 then _ else _) = _; rw [if_pos h35]
      obtain ⟨τ, r1, r2, r3, r4, r5, r6, r7⟩ := c_readNumber (Z := Z) (e := e) (s := s) (n := a.length) hL tx2 m_up2_at hsl.2 a2 (by clear e0 e1 hchr wl wp wc hsk; omega)
      have hnl := w_nd_le (X := X) hsl.2
      have hpt : w_pt X L (c :: r) j a = if (w_nd X L (w_sk X L j)).1 = true then w_pt X L r (w_nd X L (w_sk X L j)).2.1 (a ++ [(w_nd X L (w_sk X L j)).2.2]) else (false, (w_nd X L (w_sk X L j)).2.1, a) := by
        show (if c = 35 then _ else _) = _
        rw [if_pos h35]
        rfl
      have step : ∀ b, (w_nd X L (w_sk X L j)).1 = b → m_run Z (61, 65, [(2, ((186 : Nat) : Int)), (3, ((k : Nat) : Int)), (0, 1), (0, (pre.length : Int)), (0, (c : Int))], [], (K, m_up2 (m_up2 ρ 186 3 κ) 186 2 (w_sk X L j : Int), 206, e, s)) = m_run Z (61, 25, [(2, ((186 : Nat) : Int)), (3, ((k : Nat) : Int)), (0, if b = true then 1 else 0), (0, (pre.length : Int) + 1), (0, (c : Int))], [], (K, τ, 206, e, s)) := by
        intro b hb
        rw [hb] at r1
        have c35 : (c : Int) = 35 := by rw [h35]; rfl
        simp only [b_61_65, b_61_72, b_61_76, ↓reduceIte, Nat.reduceEqDiff, Nat.reduceMul, q_n10, q_n01, Option.bind_some, g_aft0, g_aft1, g_aft2, g_aft3, g_aft9, Nat.reduceAdd, m_kill_0, m_kill_2, m_kill_3, m_kill_4, m_kill_9, true_or, or_true, q_lm1, q_l0, q_l1, q_l2, q_l3, q_l4, q_l5, q_l6, q_l8, q_l9, q_l10, q_l12, q_l17, q_l32, q_l35, q_l48, q_l50, q_l54, q_l57, q_l64, q_l73, q_l118, q_l119, q_l120, q_l122, q_l126, q_l160, q_l256, q_l365, q_l372, q_l438, q_l1000, q_l100000, q_l1000000, q_scrF hL.2.2.2.2.2.1, wc, c35, r1]
      by_cases hb : (w_nd X L (w_sk X L j)).1 = true
      · rw [if_pos hb] at hpt
        have l2 : (a ++ [(w_nd X L (w_sk X L j)).2.2]).length = a.length + 1 := by rw [List.length_append]; rfl
        obtain ⟨ω, i1, i2, i3, i4, i5, i6, i7, -⟩ := ih (pre ++ [c]) τ (w_nd X L (w_sk X L j)).2.1 (a ++ [(w_nd X L (w_sk X L j)).2.2]) (0, (c : Int)) hs' (fun x hx => hc x (List.mem_cons_of_mem _ hx)) (w_tx_f tx2 r2) r3 hnl.2.1 (by rw [l2]; exact r5) (by rw [l2]; clear e0 e1 hchr wl wp wc hsk; omega) (fun m hm => by
          rw [l2] at hm
          by_cases hme : m = a.length
          · rw [hme, r6, getD_r]
          · rw [r7 m hme, n2, hnum m (by clear e0 e1 hchr wl wp wc hsk; omega), getD_l (by clear e0 e1 hchr wl wp wc hsk; omega)])
        rw [hpt]
        refine ⟨ω, ?_, q_fs_t (q_fs_t f2 r2) i2, i3, i4, by clear e0 e1 hchr wl wp wc hsk; omega, i6, fun hn => ?_, fun hn c' r' hr => ?_⟩
        · rw [head, step true hb, ← i1, epre]
          rfl
        · rw [i7 hne, r4, k2, hκ, if_neg (fun q => hn (List.eq_nil_of_length_eq_zero q))]
        · rw [i7 hne, r4, k2, hκ, if_pos (by rw [hn]; rfl)]
          rw [(List.cons.inj hr).1]
      · rw [if_neg hb] at hpt
        have hb' : (w_nd X L (w_sk X L j)).1 = false := by simpa using hb
        rw [hpt]
        refine ⟨τ, ?_, q_fs_t f2 r2, r3, hnl.2.1, by show j ≤ (w_nd X L (w_sk X L j)).2.1; clear e0 e1 hchr wl wp wc hsk; omega, fun q => absurd q Bool.false_ne_true, fun hn => ?_, fun hn c' r' hr => ?_⟩
        · rw [head, step false hb']
          simp only [b_61_25, b_61_92, ↓reduceIte, Nat.reduceEqDiff, Nat.reduceMul, q_n10, q_n01, Option.bind_some, g_aft0, g_aft1, g_aft2, g_aft3, g_aft9, Nat.reduceAdd, m_kill_0, m_kill_2, m_kill_3, m_kill_4, m_kill_9, true_or, or_true, q_lm1, q_l0, q_l1, q_l2, q_l3, q_l4, q_l5, q_l6, q_l8, q_l9, q_l10, q_l12, q_l17, q_l32, q_l35, q_l48, q_l50, q_l54, q_l57, q_l64, q_l73, q_l118, q_l119, q_l120, q_l122, q_l126, q_l160, q_l256, q_l365, q_l372, q_l438, q_l1000, q_l100000, q_l1000000, Bool.false_eq_true]
        · rw [r4, k2, hκ, if_neg (fun q => hn (List.eq_nil_of_length_eq_zero q))]
        · rw [r4, k2, hκ, if_pos (by rw [hn]; rfl), (List.cons.inj hr).1]
    · -- a sign
      have hcn : w_c35 (c :: r) = w_c35 r := by show (if c = 35 then _ else _) = _; rw [if_neg h35]
      have hrs := c_readSign (Z := Z) (e := e) (s := s) (c := c) hL tx2 m_up2_at (by clear e0 e1 hchr wl wp wc hsk; omega) hc1.2
      have c35 : ¬ (c : Int) = 35 := by clear e0 e1 hchr wl wp wc hsk; omega
      by_cases hb : w_sg X L (w_sk X L j) = (c : Int)
      · have hlt : w_sk X L j < L := by
          by_cases hlt : w_sk X L j < L
          · exact hlt
          · unfold w_sg at hb
            rw [if_neg hlt] at hb
            clear e0 e1 hchr wl wp wc hsk
            omega
        have hpt : w_pt X L (c :: r) j a = w_pt X L r (w_sk X L j + 1) a := by
          show (if c = 35 then _ else _) = _
          rw [if_neg h35, if_pos hb]
        rw [if_pos hb, if_pos hb, m_up2_2] at hrs
        have f3 : q_fs ρ (m_up2 (m_up2 ρ 186 3 κ) 186 2 ((w_sk X L j + 1 : Nat) : Int)) := q_fs_t hρ1 q_fs_2
        obtain ⟨ω, i1, i2, i3, i4, i5, i6, i7, -⟩ := ih (pre ++ [c]) (m_up2 (m_up2 ρ 186 3 κ) 186 2 ((w_sk X L j + 1 : Nat) : Int)) (w_sk X L j + 1) a (0, (c : Int)) hs' (fun x hx => hc x (List.mem_cons_of_mem _ hx)) (w_tx_f htx f3) m_up2_at hlt (by rw [m_up2_nk (by omega), m_up2_nk (by omega)]; exact ha) (by rw [hcn] at hcnt; exact hcnt) (fun m hm => by rw [m_up2_ne (by omega), m_up2_ne (by omega)]; exact hnum m hm)
        rw [hpt]
        have k3 : m_up2 (m_up2 ρ 186 3 κ) 186 2 ((w_sk X L j + 1 : Nat) : Int) 186 3 = κ := by rw [m_up2_nk (by omega), m_up2_at]
        refine ⟨ω, ?_, q_fs_t f3 i2, i3, i4, by clear e0 e1 hchr wl wp wc hsk; omega, i6, fun hn => ?_, fun hn c' r' hr => ?_⟩
        · rw [head, ← i1, epre]
          simp only [b_61_65, b_61_79, b_61_85, ↓reduceIte, Nat.reduceEqDiff, Nat.reduceMul, q_n10, q_n01, Option.bind_some, g_aft0, g_aft1, g_aft2, g_aft3, g_aft9, Nat.reduceAdd, m_kill_0, m_kill_2, m_kill_3, m_kill_4, m_kill_9, true_or, or_true, q_lm1, q_l0, q_l1, q_l2, q_l3, q_l4, q_l5, q_l6, q_l8, q_l9, q_l10, q_l12, q_l17, q_l32, q_l35, q_l48, q_l50, q_l54, q_l57, q_l64, q_l73, q_l118, q_l119, q_l120, q_l122, q_l126, q_l160, q_l256, q_l365, q_l372, q_l438, q_l1000, q_l100000, q_l1000000, q_scrF hL.2.2.2.2.2.1, wc, c35, hrs]
        · rw [i7 hne, k3, hκ, if_neg (fun q => hn (List.eq_nil_of_length_eq_zero q))]
        · rw [i7 hne, k3, hκ, if_pos (by rw [hn]; rfl), (List.cons.inj hr).1]
      · have hpt : w_pt X L (c :: r) j a = (false, w_sk X L j, a) := by
          show (if c = 35 then _ else _) = _
          rw [if_neg h35, if_neg hb]
        rw [if_neg hb, if_neg hb, m_up2_2] at hrs
        rw [hpt]
        refine ⟨_, ?_, f2, m_up2_at, hsl.2, hsl.1, fun q => absurd q Bool.false_ne_true, fun hn => ?_, fun hn c' r' hr => ?_⟩
        · rw [head]
          simp only [b_61_65, b_61_79, b_61_85, ↓reduceIte, Nat.reduceEqDiff, Nat.reduceMul, q_n10, q_n01, Option.bind_some, g_aft0, g_aft1, g_aft2, g_aft3, g_aft9, Nat.reduceAdd, m_kill_0, m_kill_2, m_kill_3, m_kill_4, m_kill_9, true_or, or_true, q_lm1, q_l0, q_l1, q_l2, q_l3, q_l4, q_l5, q_l6, q_l8, q_l9, q_l10, q_l12, q_l17, q_l32, q_l35, q_l48, q_l50, q_l54, q_l57, q_l64, q_l73, q_l118, q_l119, q_l120, q_l122, q_l126, q_l160, q_l256, q_l365, q_l372, q_l438, q_l1000, q_l100000, q_l1000000, q_scrF hL.2.2.2.2.2.1, wc, c35, hrs]
          simp only [b_61_25, b_61_92, ↓reduceIte, Nat.reduceEqDiff, Nat.reduceMul, q_n10, q_n01, Option.bind_some, g_aft0, g_aft1, g_aft2, g_aft3, g_aft9, Nat.reduceAdd, m_kill_0, m_kill_2, m_kill_3, m_kill_4, m_kill_9, true_or, or_true, q_lm1, q_l0, q_l1, q_l2, q_l3, q_l4, q_l5, q_l6, q_l8, q_l9, q_l10, q_l12, q_l17, q_l32, q_l35, q_l48, q_l50, q_l54, q_l57, q_l64, q_l73, q_l118, q_l119, q_l120, q_l122, q_l126, q_l160, q_l256, q_l365, q_l372, q_l438, q_l1000, q_l100000, q_l1000000, Bool.false_eq_true, true_or]
        · rw [k2, hκ, if_neg (fun q => hn (List.eq_nil_of_length_eq_zero q))]
        · rw [k2, hκ, if_pos (by rw [hn]; rfl), (List.cons.inj hr).1]
end
end
