section
/-! The law: its start and its loop. -/
theorem l_wfN1 : q_wf l_N1 := by
  refine ⟨by decide, by decide, by decide, ?_, by decide, fun e he => ?_, fun e f _ he => ?_, fun e he => ?_⟩
  · intro r j hr hj
    unfold l_N1
    rw [if_neg (fun q => by omega)]
    decide
  · exact absurd he (Nat.not_lt_zero _)
  · exact absurd he (Nat.not_lt_zero _)
  · exact absurd he (Nat.not_lt_zero _)
theorem l_wfN : q_wf l_N := wf_rs l_wfN1 (by decide) (by decide)
theorem l_nfN : q_nf l_N := by
  refine nf_rs ?_
  intro r j h
  unfold l_N1
  rw [if_neg]
  rintro ⟨rfl, rfl⟩
  exact h (by decide)
theorem l_ic {σ : Nat → Nat → Int} (h : l_chk σ) (R : Nat → Nat → Nat → Int) (X : Nat → Int) : w_ic σ l_N R 0 X 0 0 ∧ z_inv σ l_N R 0 X 0 := by
  obtain ⟨h1, ⟨h2, h3⟩, h4, h5, h6, h7, h8, h9⟩ := h
  have hn : nAt σ 1 l_N := by
    intro r j hj
    have l2 := q_len2 (r := r)
    have hr : r < 17 := by
      by_cases c : r < 17
      · exact c
      · have : q_len r = 0 := by
          unfold q_len
          rw [if_neg (by omega), if_neg (by omega), if_neg (by omega), if_neg (by omega)]
        omega
    have hj12 : j < 12 := by
      have : q_len r ≤ 12 := by
        unfold q_len
        repeat' split
        all_goals omega
      omega
    exact h1 r hr j hj12 hj
  refine ⟨⟨⟨l_wfN, l_nfN, hn⟩, ⟨h4, by omega, fun i hi => absurd hi (Nat.not_lt_zero _)⟩, ⟨h7, by omega, fun i hi => absurd hi (Nat.not_lt_zero _)⟩, ⟨by rw [h5]; decide, by rw [h5]; decide, Or.inl h5⟩, by rw [h5]; decide, by rw [h6]; decide, by rw [h5, h6]; decide, fun q => by rw [h6] at q; omega⟩, ⟨l_wfN, z_row_rs (by decide) (by decide) h2 (fun j h10 h11 => h3 j h11 h10)⟩, ⟨h8, by omega, fun i hi => absurd hi (Nat.not_lt_zero _)⟩, h9, by omega, fun i hi => absurd hi (Nat.not_lt_zero _)⟩
theorem l_new : ∃ K σ s K2 σ2 s2, l_ev 4000 (94, 0, [(2, ((0 : Nat) : Int)), (9, 0)], [], (l_K0, l_S0, 1, 0, 8)) = some (.inl (9, 0), (K, σ, 191, 0, s)) ∧ l_ev 4000 (148, 0, [(2, ((191 : Nat) : Int))], [], (m_up K 191 (1, 7, fun _ => -1), m_up σ 191 (fun _ => 0), 191 + 1, 0, s + 27)) = some (.inl (9, 0), (K2, σ2, 205, 0, s2)) ∧ s2 ≤ 10000 ∧ q_lay (m_up K2 205 (3, (w32 1).toNat, fun _ => -1)) ∧ l_chk (m_up σ2 205 (fun _ => 0)) := by
  have h := l_tst_t
  unfold l_tst at h
  generalize hr : l_ev 4000 (94, 0, [(2, ((0 : Nat) : Int)), (9, 0)], [], (l_K0, l_S0, 1, 0, 8)) = r at h ⊢
  rcases r with _ | ⟨v | E, K, σ, n, e, s⟩
  · cases h
  · dsimp only at h
    rw [Bool.and_eq_true] at h
    obtain ⟨h1, h2⟩ := h
    obtain ⟨rfl, rfl, rfl⟩ := of_decide_eq_true h1
    generalize hr2 : l_ev 4000 (148, 0, [(2, ((191 : Nat) : Int))], [], (m_up K 191 (1, 7, fun _ => -1), m_up σ 191 (fun _ => 0), 191 + 1, 0, s + 27)) = r2 at h2
    rcases r2 with _ | ⟨v2 | E, K2, σ2, n2, e2, s2⟩
    · cases h2
    · dsimp only at h2
      rw [Bool.and_eq_true, Bool.and_eq_true] at h2
      obtain ⟨h3, h4, h5⟩ := h2
      obtain ⟨rfl, rfl, rfl, h6⟩ := of_decide_eq_true h3
      exact ⟨K, σ, s, K2, σ2, s2, rfl, hr2, h6, @of_decide_eq_true _ (l_dlay _) h4, @of_decide_eq_true _ (l_dchk _) h5⟩
    · cases h2
  · cases h
theorem l_start (R : Nat → Nat → Nat → Int) (X : Nat → Int) : ∃ K σ s l5 l6, q_lay K ∧ q_lo K ∧ w_ic σ l_N R 0 X 0 0 ∧ z_inv σ l_N R 0 X 0 ∧ s ≤ 10001 ∧ ∀ Z, m_run Z (282, 0, m_ent (m_max 282) [(4, 0)], [], m_h0) = m_run Z (282, 23, [(4, 0), (2, ((0 : Nat) : Int)), (2, ((191 : Nat) : Int)), (2, ((205 : Nat) : Int)), (0, 0), l5, l6], [], (K, σ, 206, 0, s)) := by
  obtain ⟨K, σ, s, K2, σ2, s2, h1, h2, h3, h4, h5⟩ := l_new
  obtain ⟨i1, i2⟩ := l_ic h5 R X
  have w1 : w32 1 = 1 := by decide
  refine ⟨m_up K2 205 (3, (w32 1).toNat, fun _ => -1), m_up σ2 205 (fun _ => 0), s2 + (w32 1).toNat, (9, 0), (9, 0), h4, ⟨⟨by decide, by rw [m_up_at]⟩, ?_⟩, i1, i2, ?_, fun Z => ?_⟩
  · unfold q_ln
    rw [m_up_at, w1]
    rfl
  · rw [w1]
    show s2 + 1 ≤ 10001
    omega
  · have hent : m_ent (m_max 282) [(4, 0)] = [(4, 0), (9, 0), (9, 0), (9, 0), (9, 0), (9, 0), (9, 0)] := by decide +kernel
    have q0 : q_ob (m_up (fun _ => (0, 0, fun _ => 0)) 0 (1, 6, fun _ => -1)) (0 + 1) 0 6 := ⟨by decide, by rw [m_up_at], by rw [m_up_at]⟩
    have q1 : q_ob (m_up K 191 (1, 7, fun _ => -1)) (191 + 1) 191 7 := ⟨by decide, by rw [m_up_at], by rw [m_up_at]⟩
    have c1 : m_cl Z 94 [(2, ((0 : Nat) : Int))] (l_K0, l_S0, 1, 0, 8) = some (.inl (9, 0), (K, σ, 191, 0, s)) := e_94 (l_run_of h1)
    have c2 : m_cl Z 148 [(2, ((191 : Nat) : Int))] (m_up K 191 (1, 7, fun _ => -1), m_up σ 191 (fun _ => 0), 191 + 1, 0, s + 27) = some (.inl (9, 0), (K2, σ2, 205, 0, s2)) := e_148 (l_run_of h2)
    rw [hent]
    refine (b_282_0 (Z := Z) (K := fun _ => (0, 0, fun _ => 0)) (σ := fun _ _ => 0) (n := 0) (s := 0) q0).trans ?_
    refine Eq.trans (congrArg (fun o : Option mO => o.bind _) c1) ?_
    refine Eq.trans (b_282_7 (Z := Z) q1) ?_
    refine Eq.trans (congrArg (fun o : Option mO => o.bind _) c2) ?_
    exact b_282_15 (Z := Z) (by rw [w1]; decide) (by rw [w1]; decide)
section
variable {Z : mZ} {K : Nat → mK} {σ N : Nat → Nat → Int} {R : Nat → Nat → Nat → Int} {e s k c L : Nat} {X : Nat → Int} {x0 i : Int} {l5 l6 : mV}
theorem l_hb_of {t : Nat} (hZ : Z.1 ≤ 3072) (ht : 6 * t + 6 ≤ Z.1) : l_hb Z ((6 * t : Nat) : Int) := by
  have hw : ∀ d : Nat, d < 6 → w32 (((6 * t : Nat) : Int) + (d : Int)) = ((6 * t : Nat) : Int) + (d : Int) := fun d hd => q_wi (by omega) (by omega)
  have h : ∀ d : Nat, d < 6 → 0 ≤ w32 (((6 * t : Nat) : Int) + (d : Int)) ∧ w32 (((6 * t : Nat) : Int) + (d : Int)) < (Z.1 : Int) := fun d hd => by
    rw [hw d hd]
    clear hw
    omega
  have h0 := h 0 (by decide)
  rw [show ((6 * t : Nat) : Int) + ((0 : Nat) : Int) = ((6 * t : Nat) : Int) from Int.add_zero _] at h0
  exact ⟨h0, h 1 (by decide), h 2 (by decide), h 3 (by decide), h 4 (by decide), h 5 (by decide)⟩
theorem l_loop (hL : q_lay K) (hO : q_lo K) (hZ : Z.1 ≤ 3072) (hi : w_ic σ N R 0 X 0 0) (hz : z_inv σ N R 0 X 0) : ∃ τ e' s', m_run Z (282, 23, [(4, 0), (2, ((0 : Nat) : Int)), (2, ((191 : Nat) : Int)), (2, ((205 : Nat) : Int)), (0, 0), l5, l6], [], (K, σ, 206, 0, s)) = some (.inl (0, 1), (K, τ, 206, e', s')) ∧ e' ≤ 512 ∧ s' ≤ s + 3072 := by
  have w6 : w32 ((Z.1 : Int) - 6) = (Z.1 : Int) - 6 := q_wi (by omega) (by omega)
  obtain ⟨y, y1, N', R', c', X', L', y2, y3, y4, y5⟩ := q_loop (Z := Z) (N := Z.1 / 6) (α := (Nat → Nat → Int) × Nat × Nat × mV × mV) (S := fun t x => (282, 23, [(4, 0), (2, ((0 : Nat) : Int)), (2, ((191 : Nat) : Int)), (2, ((205 : Nat) : Int)), (0, ((6 * t : Nat) : Int)), x.2.2.2.1, x.2.2.2.2], [], (K, x.1, 206, x.2.1, x.2.2.1))) (P := fun t x => ∃ N R c X L, w_ic x.1 N R c X L t ∧ z_inv x.1 N R c X L ∧ x.2.1 ≤ t ∧ x.2.2.1 ≤ s + 6 * t) (by
    rintro t ⟨σ, e, s1, l5, l6⟩ ht ⟨N, R, c, X, L, h1, h2, h3, h4⟩
    have ht6 : 6 * t + 6 ≤ Z.1 := by clear w6; omega
    obtain ⟨τ, N', R', c', X', L', l5', l6', e', s', g1, g2, g3, g4, g5⟩ := l_case (Z := Z) (x0 := 0) (l5 := l5) (l6 := l6) (e := e) (s := s1) hL hO h1 h2 (by clear w6; omega) (l_hb_of hZ ht6)
    have wt : w32 ((6 * t : Nat) : Int) = ((6 * t : Nat) : Int) := q_w (by clear w6; omega)
    have c0 : ¬ (Z.1 : Int) - 6 < ((6 * t : Nat) : Int) := by clear w6 wt; omega
    have e6 : ((6 * (t + 1) : Nat) : Int) = ((6 * t : Nat) : Int) + 6 := by clear w6 wt; omega
    have h3 : e ≤ t := h3
    have h4 : s1 ≤ s + 6 * t := h4
    refine ⟨(τ, e', s', l5', l6'), ?_, N', R', c', X', L', g2, g3, by show e' ≤ t + 1; clear w6 wt; omega, by show s' ≤ s + 6 * (t + 1); clear w6 wt; omega⟩
    show m_run Z (282, 23, [(4, 0), (2, ((0 : Nat) : Int)), (2, ((191 : Nat) : Int)), (2, ((205 : Nat) : Int)), (0, ((6 * t : Nat) : Int)), l5, l6], [], (K, σ, 206, e, s1)) = m_run Z (282, 23, [(4, 0), (2, ((0 : Nat) : Int)), (2, ((191 : Nat) : Int)), (2, ((205 : Nat) : Int)), (0, ((6 * (t + 1) : Nat) : Int)), l5', l6'], [], (K, τ, 206, e', s'))
    rw [e6, ← g1]
    conv => lhs; rw [b_282_23, w6, wt, if_neg c0]) (Z.1 / 6) 0 (σ, 0, s, l5, l6) (by clear w6; omega) ⟨N, R, 0, X, 0, hi, hz, Nat.le_refl _, by show s ≤ s + 6 * 0; omega⟩
  refine ⟨y.1, y.2.1, y.2.2.1, Eq.trans y1 ?_, by clear w6; omega, by clear w6; omega⟩
  have wt : w32 ((6 * (Z.1 / 6) : Nat) : Int) = ((6 * (Z.1 / 6) : Nat) : Int) := q_w (by clear w6; omega)
  have c0 : (Z.1 : Int) - 6 < ((6 * (Z.1 / 6) : Nat) : Int) := by clear w6 wt; omega
  show m_run Z (282, 23, [(4, 0), (2, ((0 : Nat) : Int)), (2, ((191 : Nat) : Int)), (2, ((205 : Nat) : Int)), (0, ((6 * (Z.1 / 6) : Nat) : Int)), y.2.2.2.1, y.2.2.2.2], [], (K, y.1, 206, y.2.1, y.2.2.1)) = _
  rw [b_282_23, w6, wt, if_pos c0, b_282_2394]
theorem l_all (hZ : Z.1 ≤ 3072) : ∃ K τ e' s', m_run Z (282, 0, m_ent (m_max 282) [(4, 0)], [], m_h0) = some (.inl (0, 1), (K, τ, 206, e', s')) ∧ e' ≤ 512 ∧ s' ≤ 13073 := by
  obtain ⟨K, σ, s, l5, l6, h1, h2, h3, h4, h5, h6⟩ := l_start (fun _ _ _ => 0) (fun _ => 0)
  obtain ⟨τ, e', s', g1, g2, g3⟩ := l_loop (Z := Z) (s := s) (l5 := l5) (l6 := l6) h1 h2 hZ h3 h4
  exact ⟨K, τ, e', s', (h6 Z).trans g1, g2, by omega⟩
end
end
