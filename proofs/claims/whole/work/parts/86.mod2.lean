section
/-! The model: rows and changes of the network. -/
section
variable {N M : Nat → Nat → Int} {f f' : Nat → Int} {e g i n c k a p : Nat} {x y z v : Int}
theorem m_upf {f : Nat → Int} {k j : Nat} {v : Int} : m_up f k v j = if j = k then v else f j := by
  by_cases h : j = k
  · rw [if_pos h, h, m_up_at]
  · rw [if_neg h, m_up_ne h]
theorem m_up2f {a k r j : Nat} {v : Int} : m_up2 N a k v r j = if r = a ∧ j = k then v else N r j := rfl
theorem z_row_c (h0 : M 0 0 = N 0 0) (h1 : M 0 1 = N 0 1) (h2 : M 0 2 = N 0 2) : w_nn M = w_nn N ∧ w_ne M = w_ne N ∧ w_ns M = w_ns N := by
  unfold w_nn w_ne w_ns
  rw [h0, h1, h2]
  exact ⟨rfl, rfl, rfl⟩
theorem z_row_wt (h : z_row f N) (hn : w_nn N ≤ 8) (hi : i < 8) : z_row (m_up f (1 + i) v) (m_up2 N 2 i v) ∧ z_row (m_up f (9 + i) v) (m_up2 N 4 i v) := by
  obtain ⟨⟨a1, a2, a3⟩, b, d, s⟩ := h
  obtain ⟨n1, n2, n3⟩ := z_row_c (N := N) (M := m_up2 N 2 i v) rfl rfl rfl
  obtain ⟨m1, m2, m3⟩ := z_row_c (N := N) (M := m_up2 N 4 i v) rfl rfl rfl
  refine ⟨⟨⟨?_, ?_, ?_⟩, fun j hj => ?_, fun j hj => ?_, fun j hj => ?_⟩, ⟨?_, ?_, ?_⟩, fun j hj => ?_, fun j hj => ?_, fun j hj => ?_⟩
  all_goals simp only [n1, n2, n3, m1, m2, m3] at *
  all_goals simp only [m_upf, m_up2f]
  · rw [if_neg (by omega), if_neg (by omega)]; exact a1
  · rw [if_neg (by omega), if_neg (by omega)]; exact a2
  · rw [if_neg (by omega), if_neg (by omega)]; exact a3
  · refine ⟨?_, ?_⟩
    · by_cases c : j = i
      · rw [if_pos (by omega), if_pos ⟨trivial, c⟩]
      · rw [if_neg (by omega), if_neg (by omega)]; exact (b j hj).1
    · rw [if_neg (by omega), if_neg (by omega)]; exact (b j hj).2
  · rw [if_neg (by omega), if_neg (by omega), if_neg (by omega), if_neg (by omega), if_neg (by omega), if_neg (by omega)]; exact d j hj
  · rw [if_neg (by omega), if_neg (by omega), if_neg (by omega), if_neg (by omega), if_neg (by omega), if_neg (by omega)]; exact s j hj
  · rw [if_neg (by omega), if_neg (by omega)]; exact a1
  · rw [if_neg (by omega), if_neg (by omega)]; exact a2
  · rw [if_neg (by omega), if_neg (by omega)]; exact a3
  · refine ⟨?_, ?_⟩
    · rw [if_neg (by omega), if_neg (by omega)]; exact (b j hj).1
    · by_cases c : j = i
      · rw [if_pos (by omega), if_pos ⟨trivial, c⟩]
      · rw [if_neg (by omega), if_neg (by omega)]; exact (b j hj).2
  · rw [if_neg (by omega), if_neg (by omega), if_neg (by omega), if_neg (by omega), if_neg (by omega), if_neg (by omega)]; exact d j hj
  · rw [if_neg (by omega), if_neg (by omega), if_neg (by omega), if_neg (by omega), if_neg (by omega), if_neg (by omega)]; exact s j hj
theorem z_row_cn (h : z_row f N) (hn : w_nn N ≤ 8) (hE : w_ne N < 12) : z_row (m_up (m_up (m_up (m_up f (18 + 3 * w_ne N) x) (18 + 3 * w_ne N + 1) y) (18 + 3 * w_ne N + 2) z) 17 ((w_ne N : Int) + 1)) (o_cn x y z N) := by
  obtain ⟨⟨a1, a2, a3⟩, b, d, s⟩ := h
  have n1 : w_nn (o_cn x y z N) = w_nn N := rfl
  have n2 : w_ne (o_cn x y z N) = w_ne N + 1 := rfl
  have n3 : w_ns (o_cn x y z N) = w_ns N := rfl
  refine ⟨⟨?_, ?_, ?_⟩, fun j hj => ?_, fun j hj => ?_, fun j hj => ?_⟩
  all_goals simp only [n1, n2, n3] at *
  all_goals simp only [m_upf, m_up2f, o_cn]
  · rw [if_neg (by omega), if_neg (by omega), if_neg (by omega), if_neg (by omega), if_neg (by omega), if_neg (by omega), if_neg (by omega), if_neg (by omega)]; exact a1
  · rw [if_pos trivial, if_pos ⟨trivial, trivial⟩]
  · rw [if_neg (by omega), if_neg (by omega), if_neg (by omega), if_neg (by omega), if_neg (by omega), if_neg (by omega), if_neg (by omega), if_neg (by omega)]; exact a3
  · refine ⟨?_, ?_⟩
    · rw [if_neg (by omega), if_neg (by omega), if_neg (by omega), if_neg (by omega), if_neg (by omega), if_neg (by omega), if_neg (by omega), if_neg (by omega)]; exact (b j hj).1
    · rw [if_neg (by omega), if_neg (by omega), if_neg (by omega), if_neg (by omega), if_neg (by omega), if_neg (by omega), if_neg (by omega), if_neg (by omega)]; exact (b j hj).2
  · by_cases c : j = w_ne N
    · subst c
      refine ⟨?_, ?_, ?_⟩
      · rw [if_neg (by omega), if_neg (by omega), if_neg (by omega), if_pos rfl, if_neg (by omega), if_neg (by omega), if_neg (by omega), if_pos ⟨trivial, rfl⟩]
      · rw [if_neg (by omega), if_neg (by omega), if_pos rfl, if_neg (by omega), if_neg (by omega), if_pos ⟨trivial, rfl⟩]
      · rw [if_neg (by omega), if_pos rfl, if_neg (by omega), if_pos ⟨trivial, rfl⟩]
    · have hd := d j (by omega)
      refine ⟨?_, ?_, ?_⟩
      · rw [if_neg (by omega), if_neg (by omega), if_neg (by omega), if_neg (by omega), if_neg (by omega), if_neg (by omega), if_neg (by omega), if_neg (by omega)]; exact hd.1
      · rw [if_neg (by omega), if_neg (by omega), if_neg (by omega), if_neg (by omega), if_neg (by omega), if_neg (by omega), if_neg (by omega), if_neg (by omega)]; exact hd.2.1
      · rw [if_neg (by omega), if_neg (by omega), if_neg (by omega), if_neg (by omega), if_neg (by omega), if_neg (by omega), if_neg (by omega), if_neg (by omega)]; exact hd.2.2
  · refine ⟨?_, ?_, ?_⟩
    · rw [if_neg (by omega), if_neg (by omega), if_neg (by omega), if_neg (by omega), if_neg (by omega), if_neg (by omega), if_neg (by omega), if_neg (by omega)]; exact (s j hj).1
    · rw [if_neg (by omega), if_neg (by omega), if_neg (by omega), if_neg (by omega), if_neg (by omega), if_neg (by omega), if_neg (by omega), if_neg (by omega)]; exact (s j hj).2.1
    · rw [if_neg (by omega), if_neg (by omega), if_neg (by omega), if_neg (by omega), if_neg (by omega), if_neg (by omega), if_neg (by omega), if_neg (by omega)]; exact (s j hj).2.2
theorem z_row_fb (h : z_row f N) (hn : w_nn N ≤ 8) (hE : w_ne N ≤ 12) (hS : w_ns N < 6) : z_row (m_up (m_up (m_up (m_up f (55 + 3 * w_ns N) x) (55 + 3 * w_ns N + 1) y) (55 + 3 * w_ns N + 2) z) 54 ((w_ns N : Int) + 1)) (o_fb x y z N) := by
  obtain ⟨⟨a1, a2, a3⟩, b, d, s⟩ := h
  have n1 : w_nn (o_fb x y z N) = w_nn N := rfl
  have n2 : w_ne (o_fb x y z N) = w_ne N := rfl
  have n3 : w_ns (o_fb x y z N) = w_ns N + 1 := rfl
  refine ⟨⟨?_, ?_, ?_⟩, fun j hj => ?_, fun j hj => ?_, fun j hj => ?_⟩
  all_goals simp only [n1, n2, n3] at *
  all_goals simp only [m_upf, m_up2f, o_fb]
  · rw [if_neg (by omega), if_neg (by omega), if_neg (by omega), if_neg (by omega), if_neg (by omega), if_neg (by omega), if_neg (by omega), if_neg (by omega)]; exact a1
  · rw [if_neg (by omega), if_neg (by omega), if_neg (by omega), if_neg (by omega), if_neg (by omega), if_neg (by omega), if_neg (by omega), if_neg (by omega)]; exact a2
  · rw [if_pos trivial, if_pos ⟨trivial, trivial⟩]
  · refine ⟨?_, ?_⟩
    · rw [if_neg (by omega), if_neg (by omega), if_neg (by omega), if_neg (by omega), if_neg (by omega), if_neg (by omega), if_neg (by omega), if_neg (by omega)]; exact (b j hj).1
    · rw [if_neg (by omega), if_neg (by omega), if_neg (by omega), if_neg (by omega), if_neg (by omega), if_neg (by omega), if_neg (by omega), if_neg (by omega)]; exact (b j hj).2
  · have hd := d j (by omega)
    refine ⟨?_, ?_, ?_⟩
    · rw [if_neg (by omega), if_neg (by omega), if_neg (by omega), if_neg (by omega), if_neg (by omega), if_neg (by omega), if_neg (by omega), if_neg (by omega)]; exact hd.1
    · rw [if_neg (by omega), if_neg (by omega), if_neg (by omega), if_neg (by omega), if_neg (by omega), if_neg (by omega), if_neg (by omega), if_neg (by omega)]; exact hd.2.1
    · rw [if_neg (by omega), if_neg (by omega), if_neg (by omega), if_neg (by omega), if_neg (by omega), if_neg (by omega), if_neg (by omega), if_neg (by omega)]; exact hd.2.2
  · by_cases c : j = w_ns N
    · subst c
      refine ⟨?_, ?_, ?_⟩
      · rw [if_neg (by omega), if_neg (by omega), if_neg (by omega), if_pos rfl, if_neg (by omega), if_neg (by omega), if_neg (by omega), if_pos ⟨trivial, rfl⟩]
      · rw [if_neg (by omega), if_neg (by omega), if_pos rfl, if_neg (by omega), if_neg (by omega), if_pos ⟨trivial, rfl⟩]
      · rw [if_neg (by omega), if_pos rfl, if_neg (by omega), if_pos ⟨trivial, rfl⟩]
    · have hd := s j (by omega)
      refine ⟨?_, ?_, ?_⟩
      · rw [if_neg (by omega), if_neg (by omega), if_neg (by omega), if_neg (by omega), if_neg (by omega), if_neg (by omega), if_neg (by omega), if_neg (by omega)]; exact hd.1
      · rw [if_neg (by omega), if_neg (by omega), if_neg (by omega), if_neg (by omega), if_neg (by omega), if_neg (by omega), if_neg (by omega), if_neg (by omega)]; exact hd.2.1
      · rw [if_neg (by omega), if_neg (by omega), if_neg (by omega), if_neg (by omega), if_neg (by omega), if_neg (by omega), if_neg (by omega), if_neg (by omega)]; exact hd.2.2
/-- cells from A to B moved three down -/
def z_sh (f : Nat → Int) (A B : Nat) : Nat → Int := fun j => if A ≤ j ∧ j < B then f (j + 3) else f j
theorem z_row_rm (h : z_row f N) (hn : w_nn N ≤ 8) (hE : w_ne N ≤ 12) (hS : w_ns N ≤ 6) (hp : p < w_ns N) (h02 : N 0 2 = (w_ns N : Int)) : z_row (m_up (z_sh f (55 + 3 * p) (55 + 3 * (w_ns N - 1))) 54 ((w_ns N : Int) - 1)) (w_rmS p N) := by
  obtain ⟨⟨a1, a2, a3⟩, b, d, s⟩ := h
  have r0 : ∀ j, j ≠ 2 → w_rmS p N 0 j = N 0 j := fun j hj => ds_rmS hj
  have r02 : w_rmS p N 0 2 = (w_ns N : Int) - 1 := by
    unfold w_rmS
    rw [m_up2_at, h02]
  have ro : ∀ r, r ≠ 0 → r ≠ 12 → r ≠ 14 → r ≠ 16 → w_rmS p N r = N r := by
    intro r h0 h1 h2 h3
    unfold w_rmS
    rw [m_up2_ne h0, q_rem_ne h3, q_rem_ne h2, q_rem_ne h1]
  have n1 : w_nn (w_rmS p N) = w_nn N := by unfold w_nn; rw [r0 0 (by omega)]
  have n2 : w_ne (w_rmS p N) = w_ne N := by unfold w_ne; rw [r0 1 (by omega)]
  have n3 : w_ns (w_rmS p N) = w_ns N - 1 := by
    have : w_ns (w_rmS p N) = (w_rmS p N 0 2).toNat := rfl
    rw [this, r02]
    omega
  refine ⟨⟨?_, ?_, ?_⟩, fun j hj => ?_, fun j hj => ?_, fun j hj => ?_⟩
  · rw [r0 0 (by omega), m_up_ne (by omega)]; unfold z_sh; rw [if_neg (by omega)]; exact a1
  · rw [r0 1 (by omega), m_up_ne (by omega)]; unfold z_sh; rw [if_neg (by omega)]; exact a2
  · rw [r02, m_up_at]
  · rw [n1] at hj
    rw [m_up_ne (by omega), m_up_ne (by omega), ro 2 (by omega) (by omega) (by omega) (by omega), ro 4 (by omega) (by omega) (by omega) (by omega)]
    unfold z_sh
    rw [if_neg (by omega), if_neg (by omega)]; exact b j hj
  · rw [n2] at hj
    rw [m_up_ne (by omega), m_up_ne (by omega), m_up_ne (by omega), ro 6 (by omega) (by omega) (by omega) (by omega), ro 8 (by omega) (by omega) (by omega) (by omega), ro 10 (by omega) (by omega) (by omega) (by omega)]
    unfold z_sh
    rw [if_neg (by omega), if_neg (by omega), if_neg (by omega)]; exact d j hj
  · rw [n3] at hj
    rw [m_up_ne (by omega), m_up_ne (by omega), m_up_ne (by omega), w_rmS_row (Or.inl rfl), w_rmS_row (Or.inr (Or.inl rfl)), w_rmS_row (Or.inr (Or.inr rfl))]
    unfold z_sh
    by_cases c : p ≤ j
    · rw [if_pos (by omega), if_pos (by omega), if_pos (by omega), if_pos (by omega), if_pos (by omega), if_pos (by omega)]
      have := s (j + 1) (by omega)
      rw [show 55 + 3 * (j + 1) = 55 + 3 * j + 3 by omega] at this
      exact this
    · rw [if_neg (by omega), if_neg (by omega), if_neg (by omega), if_neg (by omega), if_neg (by omega), if_neg (by omega)]
      exact s j (by omega)
theorem z_row_dc (h : z_row f N) (hn : w_nn N ≤ 8) (hE : w_ne N ≤ 12) (hS : w_ns N ≤ 6) (hk : k < 6) : z_row (m_up f (55 + 3 * k) v) (m_up2 N 12 k v) := by
  obtain ⟨⟨a1, a2, a3⟩, b, d, s⟩ := h
  obtain ⟨n1, n2, n3⟩ := z_row_c (N := N) (M := m_up2 N 12 k v) rfl rfl rfl
  refine ⟨⟨?_, ?_, ?_⟩, fun j hj => ?_, fun j hj => ?_, fun j hj => ?_⟩
  all_goals simp only [n1, n2, n3] at *
  all_goals simp only [m_upf, m_up2f]
  · rw [if_neg (by omega), if_neg (by omega)]; exact a1
  · rw [if_neg (by omega), if_neg (by omega)]; exact a2
  · rw [if_neg (by omega), if_neg (by omega)]; exact a3
  · rw [if_neg (by omega), if_neg (by omega), if_neg (by omega), if_neg (by omega)]; exact b j hj
  · rw [if_neg (by omega), if_neg (by omega), if_neg (by omega), if_neg (by omega), if_neg (by omega), if_neg (by omega)]; exact d j hj
  · refine ⟨?_, ?_, ?_⟩
    · by_cases c : j = k
      · rw [if_pos (by omega), if_pos ⟨trivial, c⟩]
      · rw [if_neg (by omega), if_neg (by omega)]; exact (s j hj).1
    · rw [if_neg (by omega), if_neg (by omega)]; exact (s j hj).2.1
    · rw [if_neg (by omega), if_neg (by omega)]; exact (s j hj).2.2
theorem z_row_ct (h : z_row f N) (hn : w_nn N ≤ 8) (hE : w_ne N ≤ 12) (hp : p < w_ne N) (h01 : N 0 1 = (w_ne N : Int)) : z_row (m_up (z_sh f (18 + 3 * p) (18 + 3 * (w_ne N - 1))) 17 ((w_ne N : Int) - 1)) (w_cut p N) := by
  obtain ⟨⟨a1, a2, a3⟩, b, d, s⟩ := h
  have r0 : ∀ j, j ≠ 1 → w_cut p N 0 j = N 0 j := by
    intro j hj
    unfold w_cut
    rw [m_up2_nk hj, q_rem_ne (by omega), q_rem_ne (by omega), q_rem_ne (by omega)]
  have r01 : w_cut p N 0 1 = (w_ne N : Int) - 1 := by
    unfold w_cut
    rw [m_up2_at, h01]
  have ro : ∀ r, r ≠ 0 → r ≠ 6 → r ≠ 8 → r ≠ 10 → w_cut p N r = N r := by
    intro r h0 h1 h2 h3
    unfold w_cut
    rw [m_up2_ne h0, q_rem_ne h3, q_rem_ne h2, q_rem_ne h1]
  have rs : ∀ r j, r = 6 ∨ r = 8 ∨ r = 10 → w_cut p N r j = if p ≤ j ∧ j + 1 < 12 then N r (j + 1) else N r j := by
    intro r j hr
    unfold w_cut
    rw [m_up2_ne (by omega)]
    rcases hr with rfl | rfl | rfl
    · rw [q_rem_ne (by omega), q_rem_ne (by omega), q_rem_at]
    · rw [q_rem_ne (by omega), q_rem_at, q_rem_ne (by omega)]
    · rw [q_rem_at, q_rem_ne (by omega), q_rem_ne (by omega)]
  have n1 : w_nn (w_cut p N) = w_nn N := by unfold w_nn; rw [r0 0 (by omega)]
  have n3 : w_ns (w_cut p N) = w_ns N := by unfold w_ns; rw [r0 2 (by omega)]
  have n2 : w_ne (w_cut p N) = w_ne N - 1 := by
    have : w_ne (w_cut p N) = (w_cut p N 0 1).toNat := rfl
    rw [this, r01]
    omega
  refine ⟨⟨?_, ?_, ?_⟩, fun j hj => ?_, fun j hj => ?_, fun j hj => ?_⟩
  · rw [r0 0 (by omega), m_up_ne (by omega)]; unfold z_sh; rw [if_neg (by omega)]; exact a1
  · rw [r01, m_up_at]
  · rw [r0 2 (by omega), m_up_ne (by omega)]; unfold z_sh; rw [if_neg (by omega)]; exact a3
  · rw [n1] at hj
    rw [m_up_ne (by omega), m_up_ne (by omega), ro 2 (by omega) (by omega) (by omega) (by omega), ro 4 (by omega) (by omega) (by omega) (by omega)]
    unfold z_sh
    rw [if_neg (by omega), if_neg (by omega)]; exact b j hj
  · rw [n2] at hj
    rw [m_up_ne (by omega), m_up_ne (by omega), m_up_ne (by omega), rs 6 j (Or.inl rfl), rs 8 j (Or.inr (Or.inl rfl)), rs 10 j (Or.inr (Or.inr rfl))]
    unfold z_sh
    by_cases c : p ≤ j
    · rw [if_pos (by omega), if_pos (by omega), if_pos (by omega), if_pos (by omega), if_pos (by omega), if_pos (by omega)]
      have := d (j + 1) (by omega)
      rw [show 18 + 3 * (j + 1) = 18 + 3 * j + 3 by omega] at this
      exact this
    · rw [if_neg (by omega), if_neg (by omega), if_neg (by omega), if_neg (by omega), if_neg (by omega), if_neg (by omega)]
      exact d j (by omega)
  · rw [n3] at hj
    rw [m_up_ne (by omega), m_up_ne (by omega), m_up_ne (by omega), ro 12 (by omega) (by omega) (by omega) (by omega), ro 14 (by omega) (by omega) (by omega) (by omega), ro 16 (by omega) (by omega) (by omega) (by omega)]
    unfold z_sh
    rw [if_neg (by omega), if_neg (by omega), if_neg (by omega)]; exact s j hj
end
end
