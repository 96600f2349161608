section
/-! A network's methods. -/
theorem q_get_nat {σ : Nat → Nat → Int} {c L i : Nat} (h : i < L) (h2 : L ≤ 1000) : q_get σ c L (i : Int) = σ c i := by
  unfold q_get
  rw [q_w (by omega), if_pos (by omega)]
  rfl
theorem q_get_ok {σ : Nat → Nat → Int} {c L : Nat} {x : Int} (h0 : 0 ≤ x) (h : x < L) (h2 : L ≤ 1000) : q_get σ c L x = σ c x.toNat := by
  unfold q_get
  rw [q_wi (by omega) (by omega), if_pos (by omega)]
theorem q_set_ok {σ : Nat → Nat → Int} {c L : Nat} {x v : Int} (h0 : 0 ≤ x) (h : x < L) (h2 : L ≤ 1000) : q_set σ c L x v = m_up2 σ c x.toNat v := by
  unfold q_set
  rw [q_wi (by omega) (by omega), if_pos (by omega)]
theorem q_set_nat {σ : Nat → Nat → Int} {c L i : Nat} {v : Int} (h : i < L) (h2 : L ≤ 1000) : q_set σ c L (i : Int) v = m_up2 σ c i v := by
  unfold q_set
  rw [q_w (by omega), if_pos (by omega)]
  rfl
theorem q_fill_ne {σ : Nat → Nat → Int} {c L x : Nat} {f : Nat → Int} (h : x ≠ c) : q_fill σ c L f x = σ x := by
  funext j
  unfold q_fill
  rw [if_neg (fun q => h q.1)]
theorem q_fill_at {σ : Nat → Nat → Int} {c L j : Nat} {f : Nat → Int} (h : j < L) : q_fill σ c L f c j = f j := by
  unfold q_fill
  rw [if_pos ⟨rfl, h⟩]
theorem m_up2_ne {f : Nat → Nat → Int} {a k b : Nat} {v : Int} (h : b ≠ a) : m_up2 f a k v b = f b := by
  funext j
  unfold m_up2
  rw [if_neg (fun q => h q.1)]
theorem m_up2_nk {f : Nat → Nat → Int} {a k j : Nat} {v : Int} (h : j ≠ k) : m_up2 f a k v a j = f a j := by
  unfold m_up2
  rw [if_neg (fun q => h q.2)]
theorem m_up2_at {f : Nat → Nat → Int} {a k : Nat} {v : Int} : m_up2 f a k v a k = v := by
  unfold m_up2
  rw [if_pos ⟨rfl, rfl⟩]
theorem q_rem_ne {σ : Nat → Nat → Int} {c L p x : Nat} (h : x ≠ c) : q_rem σ c L p x = σ x := by
  funext j
  unfold q_rem
  rw [if_neg (fun q => h q.1)]
theorem q_open_ne {σ : Nat → Nat → Int} {c L p x : Nat} (h : x ≠ c) : q_open σ c L p x = σ x := by
  funext j
  unfold q_open
  rw [if_neg (fun q => h q.1)]
theorem q_get_ne {σ τ : Nat → Nat → Int} {c L : Nat} {x : Int} (h : τ c = σ c) : q_get τ c L x = q_get σ c L x := by
  unfold q_get
  rw [h]
theorem q_get_fl {σ : Nat → Nat → Int} {c L c2 L2 : Nat} {f : Nat → Int} {x : Int} (h : c2 ≠ c) : q_get (q_fill σ c L f) c2 L2 x = q_get σ c2 L2 x := q_get_ne (q_fill_ne h)
theorem q_get_u2 {σ : Nat → Nat → Int} {a k c2 L2 : Nat} {v x : Int} (h : c2 ≠ a) : q_get (m_up2 σ a k v) c2 L2 x = q_get σ c2 L2 x := q_get_ne (m_up2_ne h)
def q_len (r : Nat) : Nat := if r = 0 then 3 else if r = 2 ∨ r = 4 then 8 else if r = 6 ∨ r = 8 ∨ r = 10 then 12 else if r = 12 ∨ r = 14 ∨ r = 16 then 6 else 0
theorem q_len_cases {r j : Nat} (h : j < q_len r) : (r = 0 ∧ j < 3) ∨ (r = 2 ∧ j < 8) ∨ (r = 4 ∧ j < 8) ∨ (r = 6 ∧ j < 12) ∨ (r = 8 ∧ j < 12) ∨ (r = 10 ∧ j < 12) ∨ (r = 12 ∧ j < 6) ∨ (r = 14 ∧ j < 6) ∨ (r = 16 ∧ j < 6) := by
  unfold q_len at h
  repeat' split at h
  all_goals omega
section QN
variable {Z : mZ} {K : Nat → mK} {σ : Nat → Nat → Int} {n e s a c : Nat}
theorem n_clear {v : Int} (hN : q_net K n a) : m_cl Z 12 [(2, ((a : Nat) : Int)), (0, v)] (K, σ, n, e, s) = some (.inl (9, 0), (K, q_fill (q_fill (m_up2 (m_up2 (m_up2 σ a 0 v) a 1 0) a 2 0) (a + 2) 8 (fun _ => 1)) (a + 4) 8 (fun _ => 0), n, e, s)) := by
  simp only [e_12, b_12_0, b_12_23, b_12_31, ↓reduceIte, Nat.reduceEqDiff, Nat.reduceMul, q_n10, q_n01, Option.bind_some, g_aft0, g_aft1, g_aft2, g_aft3, g_aft9, Nat.reduceAdd, m_kill_0, m_kill_2, m_kill_3, m_kill_4, m_kill_9, true_or, or_true, q_lm1, q_l0, q_l1, q_l2, q_l3, q_l4, q_l5, q_l6, q_l8, q_l9, q_l10, q_l12, q_l32, q_l50, q_l120, q_l122, q_l126, q_l372, q_l1000, q_l1000000, q_netF hN, r_fill, Nat.add_assoc]
theorem n_copy (hN : q_net K n a) (hM : q_net K n c) (hd : a + 17 ≤ c ∨ c + 17 ≤ a) : ∃ τ, m_cl Z 13 [(2, ((a : Nat) : Int)), (2, ((c : Nat) : Int))] (K, σ, n, e, s) = some (.inl (9, 0), (K, τ, n, e, s)) ∧ (∀ x, x < a ∨ a + 17 ≤ x → τ x = σ x) ∧ ∀ r j, j < q_len r → τ (a + r) j = σ (c + r) j := by
  obtain ⟨o, ho⟩ : ∃ o, m_cl Z 13 [(2, ((a : Nat) : Int)), (2, ((c : Nat) : Int))] (K, σ, n, e, s) = o := ⟨_, rfl⟩
  rw [ho]
  simp (disch := first | omega | simp only [q_netF hN, q_netF hM]) only [e_13, b_13_0, b_13_35, b_13_46, b_13_57, b_13_68, b_13_79, b_13_90, b_13_101, b_13_112, ↓reduceIte, Nat.reduceEqDiff, Nat.reduceMul, q_n10, q_n01, Option.bind_some, g_aft0, g_aft1, g_aft2, g_aft3, g_aft9, Nat.reduceAdd, m_kill_0, m_kill_2, m_kill_3, m_kill_4, m_kill_9, true_or, or_true, q_lm1, q_l0, q_l1, q_l2, q_l3, q_l4, q_l5, q_l6, q_l8, q_l9, q_l10, q_l12, q_l32, q_l50, q_l120, q_l122, q_l126, q_l372, q_l1000, q_l1000000, q_netF hN, q_netF hM, r_copy, Nat.add_assoc, q_get_fl, q_get_u2, m_up2_ne] at ho
  subst ho
  refine ⟨_, rfl, ?_, ?_⟩
  · intro x hx
    simp (disch := omega) only [q_fill_ne, m_up2_ne]
  · intro r j hj
    rcases q_len_cases hj with ⟨rfl, h⟩ | ⟨rfl, h⟩ | ⟨rfl, h⟩ | ⟨rfl, h⟩ | ⟨rfl, h⟩ | ⟨rfl, h⟩ | ⟨rfl, h⟩ | ⟨rfl, h⟩ | ⟨rfl, h⟩
    · simp (disch := omega) only [Nat.add_zero, q_fill_ne]
      rcases (show j = 0 ∨ j = 1 ∨ j = 2 by omega) with rfl | rfl | rfl <;> simp (disch := omega) only [m_up2_ne, m_up2_nk, m_up2_at]
    all_goals simp (disch := omega) only [q_fill_ne, q_fill_at, q_get_nat, m_up2_ne]
end QN
end
