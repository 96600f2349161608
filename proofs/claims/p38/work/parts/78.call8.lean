section
/-! The class's calls: groups. -/
/-- the radii of all sets with one, two and three centers -/
def y_gF (N : Nat → Nat → Int) (t : Int) (f1 f2 : Nat → Rat) (f3 : Rat) : Prop := (∀ S, S < 2 ^ w_nn N → w_isR N t S (f1 S)) ∧ (∀ S, S < 2 ^ w_nn N → w_isD f1 f1 S (f2 S)) ∧ w_isD f1 f2 (2 ^ w_nn N - 1) f3
def y_fk (f1 f2 : Nat → Rat) (f3 : Rat) (all k : Nat) : Rat := if k = 1 then f1 all else if k = 2 then f2 all else f3
section
variable {Z : mZ} {K : Nat → mK} {σ τ N M : Nat → Nat → Int} {R : Nat → Nat → Nat → Int} {e s g i L n c k : Nat} {t p q v b x y z w u S : Int} {X : Nat → Int}
theorem y_gFv (h : w_gv σ N t) : y_gF N t (fun a => w_F2 σ a) (fun a => w_F2 σ (256 + a)) (w_F2 σ (512 + (2 ^ w_nn N - 1))) := ⟨fun S hS => (h.2.1 S hS).2, fun S hS => (h.2.2.1 S hS).2, h.2.2.2.2⟩
theorem a_rate (hL : q_lay K) (h : w_ic σ N R c X L k) (hs : w_sv σ N t) (hc : y_cc N) : ∃ τ, m_cl Z 2 [(2, ((177 : Nat) : Int))] (K, σ, 191, e, s) = some (.inl (9, 0), (K, τ, 191, e, s)) ∧ w_gv τ N t ∧ w_ic τ N R c X L k ∧ w_sv τ N t ∧ ∀ a, a < 177 ∨ 186 ≤ a → τ a = σ a := by
  obtain ⟨a1, a2, a3, ⟨b1, b2, b3⟩, a5, c1, c2, c3⟩ := h
  have tp := hs.2.2.2.2.2.2.2.2
  have w1 : w32 (σ 177 1) = σ 177 1 := q_wB (by omega) (by omega)
  have w2 : w32 (σ 138 2) = σ 138 2 := q_wB (by clear w1; omega) (by clear w1; omega)
  by_cases hd : σ 177 1 = σ 138 2
  · refine ⟨σ, ?_, c3 (by clear w1 w2; omega) hd N t hs, ⟨a1, a2, a3, ⟨b1, b2, b3⟩, a5, c1, c2, c3⟩, hs, fun _ _ => rfl⟩
    simp only [e_2, b_2_0, b_2_14, b_2_15, b_2_34, b_2_45, b_2_53, b_2_66, b_2_78, b_2_89, b_2_100, b_2_103, b_2_109, b_2_119, b_2_125, b_2_131, b_2_140, ↓reduceIte, Nat.reduceEqDiff, Nat.reduceMul, q_n10, q_n01, Option.bind_some, g_aft0, g_aft1, g_aft2, g_aft3, g_aft9, Nat.reduceAdd, m_kill_0, m_kill_2, m_kill_3, m_kill_4, m_kill_9, true_or, or_true, q_lm1, q_l0, q_l1, q_l2, q_l3, q_l4, q_l5, q_l6, q_l8, q_l9, q_l10, q_l12, q_l32, q_l50, q_l120, q_l122, q_l126, q_l372, q_l1000, q_l1000000, q_grpF hL.2.2.2.2.1, q_obF hL, hd]
  · obtain ⟨τ, t1, t2, t3, t4⟩ := p_rate (Z := Z) (e := e) (s := s) hL hs hc.1 hc.2 (by rw [w1, w2]; exact hd)
    have hf : ∀ a, a < 177 ∨ 186 ≤ a → τ a = σ a := fun a ha => t4 a (by omega) (by omega) (by omega) (by omega)
    have sv : w_sv τ N t := w_svB (σ := σ) (τ := τ) (fun a q1 q2 => hf a (by omega)) (fun j _ => by rw [hf 138 (by omega)]) hs
    have e138 := hf 138 (by omega)
    refine ⟨τ, t1, t2, ⟨⟨a1.1, a1.2.1, nAt_fr a1.2.2 (fun a _ _ => hf a (by omega))⟩, w_ir_fr a2 (by rw [hf 0 (by omega)]) (fun a _ _ => hf a (by omega)), w_tx_fr a3 (by rw [hf 186 (by omega)]) (hf 188 (by omega)), ⟨by rw [e138]; exact b1, by rw [e138]; exact b2, Or.inr ⟨N, t, sv⟩⟩, by rw [e138]; exact a5, by rw [t3]; exact b1, by rw [t3, e138]; exact Int.le_refl _, fun _ _ N' t' hs' => ?_⟩, sv, hf⟩
    obtain ⟨rfl, rfl⟩ := w_svU sv hs'
    exact t2
/-- the k-radius told -/
theorem a_groupRadius {k' : Nat} (hL : q_lay K) (h : w_in0 σ N) (hv : w_gv σ N t) (hk : 1 ≤ k') (hk3 : k' ≤ 3) (hu : u = 0 ∨ u = 1) : ∃ p q, m_cl Z 144 [(2, ((0 : Nat) : Int)), (0, (k' : Int)), (0, u)] (K, σ, 191, e, s) = some (.inl (0, w_red p q u), (K, σ, 191, e, s)) ∧ 0 ≤ p ∧ 1 ≤ q ∧ fr p q = y_fk (fun a => w_F2 σ a) (fun a => w_F2 σ (256 + a)) (w_F2 σ (512 + (2 ^ w_nn N - 1))) (2 ^ w_nn N - 1) k' := by
  have hall := a_allNodes (Z := Z) (e := e) (s := s) hL h
  have p8 := q_pow8 (wf_n h.1).2.2
  have hpl := p_place (Z := Z) (K := K) (σ := σ) (e := e) (s := s) (k := k') (S := 2 ^ w_nn N - 1) hk
  have wu : w32 u = u := by rcases hu with rfl | rfl <;> decide
  have heo : w_eo σ ((k' - 1) * 256 + (2 ^ w_nn N - 1)) := by
    clear wu hall hpl
    rcases (show k' = 1 ∨ k' = 2 ∨ k' = 3 by omega) with rfl | rfl | rfl
    · have := (hv.2.1 (2 ^ w_nn N - 1) (by omega)).1
      rwa [show (1 - 1) * 256 + (2 ^ w_nn N - 1) = 2 ^ w_nn N - 1 by omega]
    · exact (hv.2.2.1 (2 ^ w_nn N - 1) (by omega)).1
    · exact hv.2.2.2.1
  obtain ⟨m1, m2, m3, m4⟩ := heo
  have hlt : (k' - 1) * 256 + (2 ^ w_nn N - 1) < 768 := by clear wu hall hpl; omega
  have g1 : q_get σ 179 768 (((k' - 1) * 256 + (2 ^ w_nn N - 1) : Nat) : Int) = σ 179 ((k' - 1) * 256 + (2 ^ w_nn N - 1)) := q_get_nat hlt (by omega)
  have g2 : q_get σ 181 768 (((k' - 1) * 256 + (2 ^ w_nn N - 1) : Nat) : Int) = σ 181 ((k' - 1) * 256 + (2 ^ w_nn N - 1)) := q_get_nat hlt (by omega)
  have hlow := a_lowest (Z := Z) (h := (K, σ, 191, e, s)) (x := σ 179 ((k' - 1) * 256 + (2 ^ w_nn N - 1))) (y := σ 181 ((k' - 1) * 256 + (2 ^ w_nn N - 1))) (part := u) m3 (by clear wu hall hpl g1 g2; omega) m1 m2 wu
  refine ⟨σ 179 ((k' - 1) * 256 + (2 ^ w_nn N - 1)), σ 181 ((k' - 1) * 256 + (2 ^ w_nn N - 1)), ?_, m3, m1, ?_⟩
  · simp only [e_144, b_144_0, b_144_8, b_144_11, b_144_23, b_144_34, b_144_38, ↓reduceIte, Nat.reduceEqDiff, Nat.reduceMul, q_n10, q_n01, Option.bind_some, g_aft0, g_aft1, g_aft2, g_aft3, g_aft9, Nat.reduceAdd, m_kill_0, m_kill_2, m_kill_3, m_kill_4, m_kill_9, true_or, or_true, q_lm1, q_l0, q_l1, q_l2, q_l3, q_l4, q_l5, q_l6, q_l8, q_l9, q_l10, q_l12, q_l32, q_l50, q_l120, q_l122, q_l126, q_l372, q_l1000, q_l1000000, q_clsF hL.1, q_grpF hL.2.2.2.2.1, q_n1F hL, q_obF hL, hall, hpl, r_get, g1, g2, hlow]
  · unfold y_fk
    clear wu hall hpl g1 g2 hlow
    rcases (show k' = 1 ∨ k' = 2 ∨ k' = 3 by omega) with rfl | rfl | rfl
    · rw [if_pos rfl, show (1 - 1) * 256 + (2 ^ w_nn N - 1) = 2 ^ w_nn N - 1 by omega]
      rfl
    · rw [if_neg (by decide), if_pos rfl]
      rfl
    · rw [if_neg (by decide), if_neg (by decide)]
      rfl
end
end
