section
/-! The law: its start. -/
theorem l_wfN1 : q_wf l_N1 := by
  refine ⟨by decide, by decide, by decide, ?_, by decide, fun e he => ?_, fun e f _ he => ?_, fun e he => ?_⟩
  · intro r j hr hj
    unfold l_N1
    rw [if_neg (fun q => by omega)]
    decide
  · exact absurd he (Nat.not_lt_zero _)
  · exact absurd he (Nat.not_lt_zero _)
  · exact absurd he (Nat.not_lt_zero _)
theorem l_wfN : q_wf l_N := wf_rs l_wfN1 (by decide) (by decide)
theorem l_nfN : q_nf l_N := by
  refine nf_rs ?_
  intro r j h
  unfold l_N1
  rw [if_neg]
  rintro ⟨rfl, rfl⟩
  exact h (by decide)
theorem l_ic {σ : Nat → Nat → Int} (h : l_chk σ) (R : Nat → Nat → Nat → Int) (X : Nat → Int) : w_ic σ l_N R 0 X 0 0 := by
  obtain ⟨h1, h4, h5, h6, h7⟩ := h
  have hn : nAt σ 1 l_N := by
    intro r j hj
    have l2 := q_len2 (r := r)
    have hr : r < 17 := by
      by_cases c : r < 17
      · exact c
      · have : q_len r = 0 := by
          unfold q_len
          rw [if_neg (by omega), if_neg (by omega), if_neg (by omega), if_neg (by omega)]
        omega
    have hj12 : j < 12 := by
      have : q_len r ≤ 12 := by
        unfold q_len
        repeat' split
        all_goals omega
      omega
    exact h1 r hr j hj12 hj
  exact ⟨⟨l_wfN, l_nfN, hn⟩, ⟨h4, by omega, fun i hi => absurd hi (Nat.not_lt_zero _)⟩, ⟨h7, by omega, fun i hi => absurd hi (Nat.not_lt_zero _)⟩, ⟨by rw [h5]; decide, by rw [h5]; decide, Or.inl h5⟩, by rw [h5]; decide, by rw [h6]; decide, by rw [h5, h6]; decide, fun q => by rw [h6] at q; omega⟩
theorem l_new : ∃ K σ s, l_ev 4000 (94, 0, [(2, ((0 : Nat) : Int)), (9, 0)], [], (l_K0, l_S0, 1, 0, 8)) = some (.inl (9, 0), (K, σ, 191, 0, s)) ∧ s ≤ 4785 ∧ q_lay K ∧ l_chk σ := by
  have h := l_tst_t
  unfold l_tst at h
  generalize hr : l_ev 4000 (94, 0, [(2, ((0 : Nat) : Int)), (9, 0)], [], (l_K0, l_S0, 1, 0, 8)) = r at h ⊢
  rcases r with _ | ⟨v | E, K, σ, n, e, s⟩
  · cases h
  · dsimp only at h
    rw [Bool.and_eq_true, Bool.and_eq_true] at h
    obtain ⟨h1, h2, h3⟩ := h
    obtain ⟨rfl, rfl, rfl, h4⟩ := of_decide_eq_true h1
    exact ⟨K, σ, s, rfl, h4, @of_decide_eq_true _ (l_dlay _) h2, @of_decide_eq_true _ (l_dchk _) h3⟩
  · cases h
theorem l_start : ∃ K h R, q_lay K ∧ l_S K h l_N R 0 0 ∧ ∀ Z, m_run Z (282, 0, m_ent (m_max 282) [(4, 0)], [], m_h0) = m_run Z (282, 7, [(4, 0), (9, 0), (9, 0), (9, 0), (9, 0), (9, 0), (9, 0), (9, 0), (9, 0), (9, 0)], [(2, ((0 : Nat) : Int))], h) := by
  obtain ⟨K, σ, s, h1, h2, h3, h4⟩ := l_new
  refine ⟨K, (K, σ, 191, 0, s), fun _ _ _ => 0, h3, ⟨σ, 0, s, fun _ => 0, rfl, l_ic h4 _ _, Nat.le_refl _, by omega⟩, fun Z => ?_⟩
  have hent : m_ent (m_max 282) [(4, 0)] = [(4, 0), (9, 0), (9, 0), (9, 0), (9, 0), (9, 0), (9, 0), (9, 0), (9, 0), (9, 0)] := by decide +kernel
  have q0 : q_ob (m_up (fun _ => (0, 0, fun _ => 0)) 0 (1, 6, fun _ => -1)) (0 + 1) 0 6 := ⟨by decide, by rw [m_up_at], by rw [m_up_at]⟩
  have c1 : m_cl Z 94 [(2, ((0 : Nat) : Int))] (l_K0, l_S0, 1, 0, 8) = some (.inl (9, 0), (K, σ, 191, 0, s)) := e_94 (l_run_of h1)
  rw [hent]
  refine (b_282_0 (Z := Z) (K := fun _ => (0, 0, fun _ => 0)) (σ := fun _ _ => 0) (n := 0) (s := 0) q0).trans ?_
  refine Eq.trans (congrArg (fun o : Option mO => o.bind _) c1) ?_
  rfl
end
