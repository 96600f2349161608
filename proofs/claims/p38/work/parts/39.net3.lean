section
/-! A network's last methods: edgesAt, nodeFact, permits, removeEdge. -/
def q_et (σ : Nat → Nat → Int) (a : Nat) (x : Int) (i : Nat) : Bool := decide (w32 (σ (a + 6) i) = w32 x ∨ w32 (σ (a + 8) i) = w32 x)
def q_pm (σ : Nat → Nat → Int) (a : Nat) (x p q : Int) (i : Nat) : Bool := decide (¬ (w32 (σ (a + 12) i) = w32 x ∧ w32 (σ (a + 14) i * q) < w32 p ∧ w32 p < w32 (σ (a + 16) i * q)))
/-- a stretch removed -/
def w_rmS (p : Nat) (N : Nat → Nat → Int) : Nat → Nat → Int := m_up2 (q_rem (q_rem (q_rem N 12 6 p) 14 6 p) 16 6 p) 0 2 (N 0 2 - 1)
def w_rm1 (e : Nat) (k : Nat) (x : (Nat → Nat → Int) × Int) : (Nat → Nat → Int) × Int := if x.1 12 k = (e : Int) then (w_rmS k x.1, x.2 + 1) else if (e : Int) < x.1 12 k then (m_up2 x.1 12 k (x.1 12 k - 1), x.2) else x
def w_rms (e : Nat) : Nat → (Nat → Nat → Int) × Int → (Nat → Nat → Int) × Int
  | 0, x => x
  | k + 1, x => w_rms e k (w_rm1 e k x)
def w_cut (e : Nat) (N : Nat → Nat → Int) : Nat → Nat → Int := m_up2 (q_rem (q_rem (q_rem N 6 12 e) 8 12 e) 10 12 e) 0 1 (N 0 1 - 1)
def q_sml (N : Nat → Nat → Int) : Prop := ∀ r j, 0 < r → j < q_len r → 0 ≤ N r j ∧ N r j ≤ 50
theorem q_sml_rem {N : Nat → Nat → Int} {r L p : Nat} (h : q_sml N) (hL : L = q_len r) : q_sml (q_rem N r L p) := by
  intro s j hs hj
  unfold q_rem
  split
  · next c => obtain ⟨rfl, c⟩ := c; exact h _ _ hs (by omega)
  · exact h s j hs hj
theorem q_sml_up {N : Nat → Nat → Int} {r k : Nat} {v : Int} (h : q_sml N) (hv : 0 < r → 0 ≤ v ∧ v ≤ 50) : q_sml (m_up2 N r k v) := by
  intro s j hs hj
  unfold m_up2
  split
  · next c => obtain ⟨rfl, c⟩ := c; exact hv hs
  · exact h s j hs hj
theorem q_sml_rmS {N : Nat → Nat → Int} {p : Nat} (h : q_sml N) : q_sml (w_rmS p N) := q_sml_up (q_sml_rem (q_sml_rem (q_sml_rem h rfl) rfl) rfl) (fun q => absurd q (by omega))
theorem q_sml_rm1 {x : (Nat → Nat → Int) × Int} {e k : Nat} (h : q_sml x.1) (hk : k < 6) : q_sml (w_rm1 e k x).1 := by
  unfold w_rm1
  split
  · exact q_sml_rmS h
  · split
    · refine q_sml_up h (fun _ => ?_)
      have := h 12 k (by omega) (by rw [q_len2]; simpa using hk)
      omega
    · exact h
section QN
variable {Z : mZ} {K : Nat → mK} {σ : Nat → Nat → Int} {n e s a c : Nat}
theorem n_edgesAt {x : Int} {E : Nat} (hN : q_net K n a) (hE : w32 (σ a 1) = (E : Int)) (hE2 : E ≤ 12) : m_cl Z 31 [(2, ((a : Nat) : Int)), (0, x)] (K, σ, n, e, s) = some (.inl (0, q_cnt (q_et σ a x) E), (K, σ, n, e, s)) := by
  have hl := q_loopf (Z := Z) (N := E) (S := fun i => (31, 4, [(2, ((a : Nat) : Int)), (0, x), (0, q_cnt (q_et σ a x) i), (0, (i : Int))], [], (K, σ, n, e, s))) (by
    intro i hi
    have g1 : q_get σ (a + 6) 12 (i : Int) = σ (a + 6) i := q_get_nat (by omega) (by omega)
    have g2 : q_get σ (a + 8) 12 (i : Int) = σ (a + 8) i := q_get_nat (by omega) (by omega)
    have e1 : (((i + 1 : Nat)) : Int) = (i : Int) + 1 := by omega
    rw [b_31_4 hN.1, hE, q_w (by omega), if_neg (by omega)]
    simp only [b_31_0, b_31_12, b_31_20, b_31_24, b_31_32, b_31_36, b_31_39, b_31_45, ↓reduceIte, Nat.reduceEqDiff, Nat.reduceMul, q_n10, q_n01, Option.bind_some, g_aft0, g_aft1, g_aft2, g_aft3, g_aft9, Nat.reduceAdd, m_kill_0, m_kill_2, m_kill_3, m_kill_4, m_kill_9, true_or, or_true, q_lm1, q_l0, q_l1, q_l2, q_l3, q_l4, q_l5, q_l6, q_l8, q_l9, q_l10, q_l12, q_l32, q_l50, q_l120, q_l122, q_l126, q_l372, q_l1000, q_l1000000, hN, q_netF hN, r_get, Nat.add_assoc, g1, g2, e1, q_cnt, q_et, decide_eq_true_eq]
    by_cases c1 : w32 (σ (a + 6) i) = w32 x <;> by_cases c2 : w32 (σ (a + 8) i) = w32 x <;> simp [c1, c2])
  rw [e_31, b_31_0]
  refine hl.trans ?_
  rw [b_31_4 hN.1, hE, q_w (by omega), if_pos (by omega), b_31_45]
theorem n_nodeFact {x w : Int} {E : Nat} (hN : q_net K n a) (hE : w32 (σ a 1) = (E : Int)) (hE2 : E ≤ 12) : m_cl Z 30 [(2, ((a : Nat) : Int)), (0, x), (0, w)] (K, σ, n, e, s) = some (.inl (0, if w32 w = 0 then q_get σ (a + 2) 8 x else if w32 w = 1 then q_get σ (a + 4) 8 x else q_cnt (q_et σ a x) E), (K, σ, n, e, s)) := by
  simp only [e_30, b_30_0, b_30_28, b_30_36, b_30_37, b_30_45, b_30_46, b_30_51, ↓reduceIte, Nat.reduceEqDiff, Nat.reduceMul, q_n10, q_n01, Option.bind_some, g_aft0, g_aft1, g_aft2, g_aft3, g_aft9, Nat.reduceAdd, m_kill_0, m_kill_2, m_kill_3, m_kill_4, m_kill_9, true_or, or_true, q_lm1, q_l0, q_l1, q_l2, q_l3, q_l4, q_l5, q_l6, q_l8, q_l9, q_l10, q_l12, q_l32, q_l50, q_l120, q_l122, q_l126, q_l372, q_l1000, q_l1000000, hN, q_netF hN, r_get, Nat.add_assoc, n_edgesAt hN hE hE2]
  repeat' split
  all_goals first | rfl | (exfalso; omega)
theorem n_permits {x p q : Int} {S : Nat} (hN : q_net K n a) (hS : w32 (σ a 2) = (S : Int)) (hS2 : S ≤ 6) : m_cl Z 33 [(2, ((a : Nat) : Int)), (0, x), (0, p), (0, q)] (K, σ, n, e, s) = some (.inl (0, if q_sm (q_pm σ a x p q) 0 S = true then 1 else 0), (K, σ, n, e, s)) := by
  have key : ∀ k i : Nat, i + k = S → m_run Z (33, 3, [(2, ((a : Nat) : Int)), (0, x), (0, p), (0, q), (0, (i : Int))], [], (K, σ, n, e, s)) = some (.inl (0, if q_sm (q_pm σ a x p q) i k = true then 1 else 0), (K, σ, n, e, s)) := by
    intro k
    induction k with
    | zero =>
      intro i hi
      rw [b_33_3 hN.1, hS, q_w (by omega), if_pos (by omega), b_33_63]
      rfl
    | succ k ih =>
      intro i hi
      have g1 : q_get σ (a + 12) 6 (i : Int) = σ (a + 12) i := q_get_nat (by omega) (by omega)
      have g2 : q_get σ (a + 14) 6 (i : Int) = σ (a + 14) i := q_get_nat (by omega) (by omega)
      have g3 : q_get σ (a + 16) 6 (i : Int) = σ (a + 16) i := q_get_nat (by omega) (by omega)
      have ih' := ih (i + 1) (by omega)
      have e1 : (((i + 1 : Nat)) : Int) = (i : Int) + 1 := by omega
      rw [e1] at ih'
      rw [b_33_3 hN.1, hS, q_w (by omega), if_neg (by omega)]
      simp only [b_33_0, b_33_12, b_33_21, b_33_25, b_33_35, b_33_40, b_33_50, b_33_55, b_33_57, b_33_63, ↓reduceIte, Nat.reduceEqDiff, Nat.reduceMul, q_n10, q_n01, Option.bind_some, g_aft0, g_aft1, g_aft2, g_aft3, g_aft9, Nat.reduceAdd, m_kill_0, m_kill_2, m_kill_3, m_kill_4, m_kill_9, true_or, or_true, q_lm1, q_l0, q_l1, q_l2, q_l3, q_l4, q_l5, q_l6, q_l8, q_l9, q_l10, q_l12, q_l32, q_l50, q_l120, q_l122, q_l126, q_l372, q_l1000, q_l1000000, hN, q_netF hN, r_get, Nat.add_assoc, g1, g2, g3, ih', q_sm, q_pm]
      by_cases c1 : w32 (σ (a + 12) i) = w32 x
      · by_cases c2 : w32 p ≤ w32 (σ (a + 14) i * q)
        · simp [c1, c2, Int.not_lt.mpr c2]
        · by_cases c3 : w32 (σ (a + 16) i * q) ≤ w32 p
          · simp [c1, c2, c3, Int.not_lt.mpr c3]
          · simp [c1, c2, c3, Int.not_le.mp c2, Int.not_le.mp c3]
      · simp [c1]
  rw [e_33, b_33_0]
  exact key S 0 (by omega)
theorem n_rmEs {x : Int} (e0 : Nat) (he : e0 ≤ 50) (hN : q_net K n a) : ∀ (k : Nat) (σ : Nat → Nat → Int) (X : (Nat → Nat → Int) × Int) (l4 : mV), k ≤ 6 → nAt σ a X.1 → q_sml X.1 → ∃ τ l3 l5, m_run Z (27, 9, [(2, ((a : Nat) : Int)), (0, (e0 : Int)), (0, X.2), (0, (k : Int) - 1), l4], [], (K, σ, n, e, s)) = m_run Z (27, 64, [(2, ((a : Nat) : Int)), (0, (e0 : Int)), (0, (w_rms e0 k X).2), l3, l5], [], (K, τ, n, e, s)) ∧ nAt τ a (w_rms e0 k X).1 ∧ ∀ x, x < a ∨ a + 17 ≤ x → τ x = σ x := by
  intro k
  induction k with
  | zero =>
    intro σ X l4 _ h1 h2
    refine ⟨σ, (0, ((0 : Nat) : Int) - 1), l4, ?_, h1, fun _ _ => rfl⟩
    rw [b_27_9, q_wi (by omega) (by omega), if_pos (by omega)]
    rfl
  | succ k ih =>
    intro σ X l4 hk h1 h2
    have ek : (((k + 1 : Nat)) : Int) - 1 = (k : Int) := by omega
    have g1 : q_get σ (a + 12) 6 (k : Int) = X.1 12 k := by
      rw [q_get_nat (by omega) (by omega)]
      exact h1 12 k (by rw [q_len2]; simp; omega)
    have b1 := h2 12 k (by omega) (by rw [q_len2]; simp; omega)
    rw [ek, b_27_9, q_w (by omega), if_neg (by omega)]
    have hs := q_sml_rm1 (e := e0) (k := k) h2 (by omega)
    have w1 : w32 (X.1 12 k) = X.1 12 k := q_wi (by omega) (by omega)
    have w2 : w32 ((e0 : Nat) : Int) = (e0 : Int) := q_w (by omega)
    have e2 : (k : Int) + -1 = (k : Int) - 1 := by omega
    by_cases c1 : X.1 12 k = (e0 : Int)
    · have e3 : w_rm1 e0 k X = (w_rmS k X.1, X.2 + 1) := by unfold w_rm1; rw [if_pos c1]
      have hA : nAt (m_up2 (q_rem (q_rem (q_rem σ (a + 12) 6 k) (a + 14) 6 k) (a + 16) 6 k) a 2 (σ a 2 - 1)) a (w_rm1 e0 k X).1 := by
        rw [e3, nAt_0 h1 (by omega)]
        exact nAt_up0 (nAt_rem (nAt_rem (nAt_rem h1 rfl) rfl) rfl)
      obtain ⟨τ, l3, l5, i1, i2, i3⟩ := ih _ (w_rm1 e0 k X) (0, X.1 12 k) (by omega) hA hs
      refine ⟨τ, l3, l5, ?_, i2, fun x hx => ?_⟩
      · rw [show w_rms e0 (k + 1) X = w_rms e0 k (w_rm1 e0 k X) from rfl, ← i1, e3]
        simp only [b_27_0, b_27_13, b_27_21, b_27_29, b_27_34, b_27_40, b_27_46, b_27_58, b_27_64, b_27_72, b_27_80, b_27_88, ↓reduceIte, Nat.reduceEqDiff, Nat.reduceMul, q_n10, q_n01, Option.bind_some, g_aft0, g_aft1, g_aft2, g_aft3, g_aft9, Nat.reduceAdd, m_kill_0, m_kill_2, m_kill_3, m_kill_4, m_kill_9, true_or, or_true, q_lm1, q_l0, q_l1, q_l2, q_l3, q_l4, q_l5, q_l6, q_l8, q_l9, q_l10, q_l12, q_l32, q_l50, q_l120, q_l122, q_l126, q_l372, q_l1000, q_l1000000, hN, q_netF hN, r_get, Nat.add_assoc, g1, w1, w2, c1, n_remStretch hN (show k ≤ 1000 by omega), e2]
      · rw [i3 x hx, m_up2_ne (by omega), q_rem_ne (by omega), q_rem_ne (by omega), q_rem_ne (by omega)]
    · by_cases c2 : (e0 : Int) < X.1 12 k
      · have e3 : w_rm1 e0 k X = (m_up2 X.1 12 k (X.1 12 k - 1), X.2) := by unfold w_rm1; rw [if_neg c1, if_pos c2]
        have hA : nAt (m_up2 σ (a + 12) k (X.1 12 k - 1)) a (w_rm1 e0 k X).1 := by
          rw [e3]
          exact nAt_up h1
        obtain ⟨τ, l3, l5, i1, i2, i3⟩ := ih _ (w_rm1 e0 k X) (0, X.1 12 k) (by omega) hA hs
        refine ⟨τ, l3, l5, ?_, i2, fun x hx => ?_⟩
        · rw [show w_rms e0 (k + 1) X = w_rms e0 k (w_rm1 e0 k X) from rfl, ← i1, e3]
          have c3 : ¬ X.1 12 k ≤ (e0 : Int) := by omega
          have s1 : q_set σ (a + 12) 6 (k : Int) (X.1 12 k - 1) = m_up2 σ (a + 12) k (X.1 12 k - 1) := q_set_nat (by omega) (by omega)
          simp only [b_27_0, b_27_13, b_27_21, b_27_29, b_27_34, b_27_40, b_27_46, b_27_58, b_27_64, b_27_72, b_27_80, b_27_88, ↓reduceIte, Nat.reduceEqDiff, Nat.reduceMul, q_n10, q_n01, Option.bind_some, g_aft0, g_aft1, g_aft2, g_aft3, g_aft9, Nat.reduceAdd, m_kill_0, m_kill_2, m_kill_3, m_kill_4, m_kill_9, true_or, or_true, q_lm1, q_l0, q_l1, q_l2, q_l3, q_l4, q_l5, q_l6, q_l8, q_l9, q_l10, q_l12, q_l32, q_l50, q_l120, q_l122, q_l126, q_l372, q_l1000, q_l1000000, hN, q_netF hN, r_get, r_set, Nat.add_assoc, g1, w1, w2, c1, c3, e2, s1, if_false]
        · rw [i3 x hx, m_up2_ne (by omega)]
      · have e3 : w_rm1 e0 k X = X := by unfold w_rm1; rw [if_neg c1, if_neg c2]
        obtain ⟨τ, l3, l5, i1, i2, i3⟩ := ih σ X (0, X.1 12 k) (by omega) h1 h2
        refine ⟨τ, l3, l5, ?_, ?_, i3⟩
        · rw [show w_rms e0 (k + 1) X = w_rms e0 k (w_rm1 e0 k X) from rfl, e3, ← i1]
          have c3 : X.1 12 k ≤ (e0 : Int) := by omega
          simp only [b_27_0, b_27_13, b_27_21, b_27_29, b_27_34, b_27_40, b_27_46, b_27_58, b_27_64, b_27_72, b_27_80, b_27_88, ↓reduceIte, Nat.reduceEqDiff, Nat.reduceMul, q_n10, q_n01, Option.bind_some, g_aft0, g_aft1, g_aft2, g_aft3, g_aft9, Nat.reduceAdd, m_kill_0, m_kill_2, m_kill_3, m_kill_4, m_kill_9, true_or, or_true, q_lm1, q_l0, q_l1, q_l2, q_l3, q_l4, q_l5, q_l6, q_l8, q_l9, q_l10, q_l12, q_l32, q_l50, q_l120, q_l122, q_l126, q_l372, q_l1000, q_l1000000, hN, q_netF hN, r_get, Nat.add_assoc, g1, w1, w2, c1, c3, e2, if_false, if_true]
        · rw [show w_rms e0 (k + 1) X = w_rms e0 k (w_rm1 e0 k X) from rfl, e3]
          exact i2
theorem n_rmE {S : Nat} {N : Nat → Nat → Int} (e0 : Nat) (he : e0 ≤ 50) (hN : q_net K n a) (h1 : nAt σ a N) (h2 : q_sml N) (hS : N 0 2 = (S : Int)) (hS2 : S ≤ 6) : ∃ τ, m_cl Z 27 [(2, ((a : Nat) : Int)), (0, (e0 : Int))] (K, σ, n, e, s) = some (.inl (0, (w_rms e0 S (N, 0)).2), (K, τ, n, e, s)) ∧ nAt τ a (w_cut e0 (w_rms e0 S (N, 0)).1) ∧ ∀ x, x < a ∨ a + 17 ≤ x → τ x = σ x := by
  obtain ⟨τ, l3, l5, i1, i2, i3⟩ := n_rmEs (Z := Z) (e := e) (s := s) (x := 0) e0 he hN S σ (N, 0) (9, 0) hS2 h1 h2
  have hs : σ a 2 = (S : Int) := (nAt_0 h1 (by omega)).trans hS
  refine ⟨m_up2 (q_rem (q_rem (q_rem τ (a + 6) 12 e0) (a + 8) 12 e0) (a + 10) 12 e0) a 1 (τ a 1 - 1), ?_, ?_, fun x hx => ?_⟩
  · rw [e_27, b_27_0 hN.1, hs, i1]
    simp (disch := first | omega | simp only [q_netF hN]) only [b_27_0, b_27_13, b_27_21, b_27_29, b_27_34, b_27_40, b_27_46, b_27_58, b_27_64, b_27_72, b_27_80, b_27_88, ↓reduceIte, Nat.reduceEqDiff, Nat.reduceMul, q_n10, q_n01, Option.bind_some, g_aft0, g_aft1, g_aft2, g_aft3, g_aft9, Nat.reduceAdd, m_kill_0, m_kill_2, m_kill_3, m_kill_4, m_kill_9, true_or, or_true, q_lm1, q_l0, q_l1, q_l2, q_l3, q_l4, q_l5, q_l6, q_l8, q_l9, q_l10, q_l12, q_l32, q_l50, q_l120, q_l122, q_l126, q_l372, q_l1000, q_l1000000, hN, q_netF hN, r_rem, Nat.add_assoc, q_rem_ne]
  · unfold w_cut
    rw [nAt_0 i2 (by omega)]
    exact nAt_up0 (nAt_rem (nAt_rem (nAt_rem i2 rfl) rfl) rfl)
  · rw [m_up2_ne (by omega), q_rem_ne (by omega), q_rem_ne (by omega), q_rem_ne (by omega), i3 x hx]
end QN
end
