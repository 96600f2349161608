section
/-! Distances: what both sides compute. -/
def w_nn (N : Nat → Nat → Int) : Nat := (N 0 0).toNat
def w_ne (N : Nat → Nat → Int) : Nat := (N 0 1).toNat
def w_ns (N : Nat → Nat → Int) : Nat := (N 0 2).toNat
def w_f (N : Nat → Nat → Int) (e : Nat) : Nat := (N 6 e).toNat
def w_s (N : Nat → Nat → Int) (e : Nat) : Nat := (N 8 e).toNat
def w_jo (N : Nat → Nat → Int) (e f : Nat) : Prop := N 6 e = N 6 f ∧ N 8 e = N 8 f ∨ N 6 e = N 8 f ∧ N 8 e = N 6 f
def q_wf (N : Nat → Nat → Int) : Prop := (1 ≤ N 0 0 ∧ N 0 0 ≤ 8) ∧ (0 ≤ N 0 1 ∧ N 0 1 ≤ 12) ∧ (0 ≤ N 0 2 ∧ N 0 2 ≤ 6) ∧ q_sml N ∧
  (∀ i, i < 8 → N 2 i ≤ 9 ∧ N 4 i ≤ 9) ∧
  (∀ e, e < w_ne N → N 6 e < N 0 0 ∧ N 8 e < N 0 0 ∧ N 6 e ≠ N 8 e ∧ 1 ≤ N 10 e) ∧
  (∀ e f, e < f → f < w_ne N → ¬ w_jo N e f) ∧
  (∀ k, k < w_ns N → N 12 k < N 0 1 ∧ N 14 k < N 16 k ∧ N 16 k ≤ N 10 (N 12 k).toNat)
theorem wf_n {N : Nat → Nat → Int} (h : q_wf N) : N 0 0 = (w_nn N : Int) ∧ 1 ≤ w_nn N ∧ w_nn N ≤ 8 := by
  obtain ⟨h1, -⟩ := h
  unfold w_nn
  omega
theorem wf_e {N : Nat → Nat → Int} (h : q_wf N) : N 0 1 = (w_ne N : Int) ∧ w_ne N ≤ 12 := by
  obtain ⟨-, h1, -⟩ := h
  unfold w_ne
  omega
theorem wf_s {N : Nat → Nat → Int} (h : q_wf N) : N 0 2 = (w_ns N : Int) ∧ w_ns N ≤ 6 := by
  obtain ⟨-, -, h1, -⟩ := h
  unfold w_ns
  omega
theorem wf_w {N : Nat → Nat → Int} (h : q_wf N) {i : Nat} (hi : i < 8) : 0 ≤ N 2 i ∧ N 2 i ≤ 9 ∧ 0 ≤ N 4 i ∧ N 4 i ≤ 9 := by
  obtain ⟨-, -, -, h1, h2, -⟩ := h
  have a1 := h1 2 i (by omega) (by rw [q_len2]; simpa using hi)
  have a2 := h1 4 i (by omega) (by rw [q_len2]; simpa using hi)
  have := h2 i hi
  omega
theorem wf_ed {N : Nat → Nat → Int} (h : q_wf N) {e : Nat} (he : e < w_ne N) : N 6 e = (w_f N e : Int) ∧ N 8 e = (w_s N e : Int) ∧ w_f N e < w_nn N ∧ w_s N e < w_nn N ∧ w_f N e ≠ w_s N e ∧ 1 ≤ N 10 e ∧ N 10 e ≤ 50 := by
  obtain ⟨n1, -, n2⟩ := wf_n h
  have n3 := (wf_e h).2
  obtain ⟨-, -, -, h1, -, h2, -⟩ := h
  have a1 := h1 6 e (by omega) (by rw [q_len2]; simp; omega)
  have a2 := h1 8 e (by omega) (by rw [q_len2]; simp; omega)
  have a3 := h1 10 e (by omega) (by rw [q_len2]; simp; omega)
  have := h2 e he
  unfold w_f w_s
  omega
theorem wf_st {N : Nat → Nat → Int} (h : q_wf N) {k : Nat} (hk : k < w_ns N) : ∃ e, e < w_ne N ∧ N 12 k = (e : Int) ∧ 0 ≤ N 14 k ∧ N 14 k < N 16 k ∧ N 16 k ≤ N 10 e ∧ N 16 k ≤ 50 := by
  have n1 := (wf_e h).1
  have n3 := (wf_s h).2
  obtain ⟨-, -, -, h1, -, -, -, h2⟩ := h
  have a1 := h1 12 k (by omega) (by rw [q_len2]; simp; omega)
  have a2 := h1 14 k (by omega) (by rw [q_len2]; simp; omega)
  have a3 := h1 16 k (by omega) (by rw [q_len2]; simp; omega)
  have := h2 k hk
  exact ⟨(N 12 k).toNat, by omega, by omega, by omega, by omega, by omega, by omega⟩
/-- the table at its start, behind k edges -/
def d_in (F : Int) (N : Nat → Nat → Int) : Nat → Nat → Nat → Int
  | 0, a, b => if a = b then 0 else F
  | e + 1, a, b => if a = w_f N e ∧ b = w_s N e ∨ a = w_s N e ∧ b = w_f N e then N 10 e else d_in F N e a b
def d_fw (F : Int) (N : Nat → Nat → Int) : Nat → Nat → Nat → Int
  | 0, a, b => d_in F N (w_ne N) a b
  | k + 1, a, b => if d_fw F N k a k + d_fw F N k k b < d_fw F N k a b then d_fw F N k a k + d_fw F N k k b else d_fw F N k a b
section QF
variable {F : Int} {N : Nat → Nat → Int}
theorem d_in_ok (hN : q_wf N) (hF : 100000 ≤ F) : ∀ k, k ≤ w_ne N → ∀ a b, (a = b → d_in F N k a b = 0) ∧ d_in F N k a b = d_in F N k b a ∧ (d_in F N k a b = F ∨ 0 ≤ d_in F N k a b ∧ d_in F N k a b ≤ 50) := by
  intro k
  induction k with
  | zero =>
    intro _ a b
    unfold d_in
    by_cases h : a = b
    · rw [if_pos h, if_pos h.symm]; omega
    · rw [if_neg h, if_neg (fun q => h q.symm)]; omega
  | succ k ih =>
    intro hk a b
    obtain ⟨h1, h2, h3⟩ := ih (by omega) a b
    have he := wf_ed hN (e := k) (by omega)
    unfold d_in
    by_cases c : a = w_f N k ∧ b = w_s N k ∨ a = w_s N k ∧ b = w_f N k
    · rw [if_pos c, if_pos (by omega)]
      refine ⟨fun q => ?_, rfl, by omega⟩
      exfalso
      omega
    · rw [if_neg c, if_neg (by omega)]
      exact ⟨h1, h2, h3⟩
theorem d_fw_ok (hN : q_wf N) (hF : 100000 ≤ F) : ∀ k, k ≤ 8 → ∀ a b, (a = b → d_fw F N k a b = 0) ∧ d_fw F N k a b = d_fw F N k b a ∧ (d_fw F N k a b = F ∨ 0 ≤ d_fw F N k a b ∧ d_fw F N k a b ≤ 50 * 2 ^ k) := by
  intro k
  induction k with
  | zero =>
    intro _ a b
    exact d_in_ok hN hF _ (Nat.le_refl _) a b
  | succ k ih =>
    intro hk a b
    obtain ⟨h1, h2, h3⟩ := ih (by omega) a b
    obtain ⟨-, g2, g3⟩ := ih (by omega) a k
    obtain ⟨-, f2, f3⟩ := ih (by omega) k b
    have e1 : (2 : Int) ^ (k + 1) = 2 * 2 ^ k := by rw [Int.pow_succ]; omega
    have e2 : (0 : Int) ≤ 2 ^ k := Int.pow_nonneg (by omega)
    unfold d_fw
    rw [← g2, ← f2, ← h2, e1]
    generalize (2 : Int) ^ k = P at *
    refine ⟨fun q => ?_, ?_, ?_⟩
    · have := h1 q
      rw [if_neg (by omega)]
      exact this
    · split <;> split <;> omega
    · split <;> omega
theorem d_fw_b (hN : q_wf N) (hF : 100000 ≤ F) {k : Nat} (hk : k ≤ 8) (a b : Nat) : (a = b → d_fw F N k a b = 0) ∧ d_fw F N k a b = d_fw F N k b a ∧ (d_fw F N k a b = F ∨ 0 ≤ d_fw F N k a b ∧ d_fw F N k a b ≤ 12800) := by
  obtain ⟨h1, h2, h3⟩ := d_fw_ok hN hF k hk a b
  refine ⟨h1, h2, ?_⟩
  have : (2 : Int) ^ k ≤ 2 ^ 8 := by
    rcases (show k = 0 ∨ k = 1 ∨ k = 2 ∨ k = 3 ∨ k = 4 ∨ k = 5 ∨ k = 6 ∨ k = 7 ∨ k = 8 by omega) with rfl | rfl | rfl | rfl | rfl | rfl | rfl | rfl | rfl <;> decide
  have e8 : (2 : Int) ^ 8 = 256 := by decide
  omega
theorem d_fw_tri (hN : q_wf N) (hF : 100000 ≤ F) : ∀ k, k ≤ 8 → ∀ v, v < k → ∀ a b, d_fw F N k a b ≤ d_fw F N k a v + d_fw F N k v b := by
  intro k
  induction k with
  | zero => intro _ v hv; omega
  | succ k ih =>
    intro hk v hv a b
    have hb := fun x y => d_fw_b hN hF (k := k) (by omega) x y
    have q1 := hb a k
    have q2 := hb k b
    have q3 := hb a v
    have q4 := hb v b
    have q5 := hb k v
    have q6 := hb v k
    have q7 := hb a b
    have q8 := (hb k k).1 rfl
    unfold d_fw
    by_cases hvk : v = k
    · subst hvk
      rw [if_neg (show ¬ d_fw F N v a v + d_fw F N v v v < d_fw F N v a v by omega), if_neg (show ¬ d_fw F N v v v + d_fw F N v v b < d_fw F N v v b by omega)]
      split <;> omega
    · have hl : v < k := by omega
      have t1 := ih (by omega) v hl a b
      have t2 := ih (by omega) v hl a k
      have t3 := ih (by omega) v hl k b
      split <;> split <;> split <;> omega
/-- the same distances with another number for 'no path' -/
def d_cap (x : Int) : Int := if x = 1000000 then 100000 else x
theorem d_in_cap (hN : q_wf N) : ∀ k, k ≤ w_ne N → ∀ a b, d_in 100000 N k a b = d_cap (d_in 1000000 N k a b) := by
  intro k
  induction k with
  | zero =>
    intro _ a b
    unfold d_in
    split <;> decide
  | succ k ih =>
    intro hk a b
    have he := wf_ed hN (e := k) (by omega)
    unfold d_in
    split
    · unfold d_cap
      rw [if_neg (by omega)]
    · exact ih (by omega) a b
theorem d_fw_cap (hN : q_wf N) : ∀ k, k ≤ 8 → ∀ a b, d_fw 100000 N k a b = d_cap (d_fw 1000000 N k a b) := by
  intro k
  induction k with
  | zero => intro _ a b; exact d_in_cap hN _ (Nat.le_refl _) a b
  | succ k ih =>
    intro hk a b
    have q1 := d_fw_b (F := 1000000) hN (by omega) (k := k) (by omega) a k
    have q2 := d_fw_b (F := 1000000) hN (by omega) (k := k) (by omega) k b
    have q3 := d_fw_b (F := 1000000) hN (by omega) (k := k) (by omega) a b
    unfold d_fw
    rw [ih (by omega), ih (by omega), ih (by omega)]
    unfold d_cap
    split <;> split <;> split <;> split <;> (try split) <;> omega
end QF
/-- distances -/
def w_D (N : Nat → Nat → Int) (a b : Nat) : Int := d_fw 1000000 N (w_nn N) a b
def w_cn (N : Nat → Nat → Int) : Prop := ∀ i, i < w_nn N → w_D N 0 i < 1000000
section QF
variable {N : Nat → Nat → Int}
theorem w_D_b (hN : q_wf N) (a b : Nat) : (a = b → w_D N a b = 0) ∧ w_D N a b = w_D N b a ∧ (w_D N a b = 1000000 ∨ 0 ≤ w_D N a b ∧ w_D N a b ≤ 12800) := d_fw_b hN (by omega) (wf_n hN).2.2 a b
theorem w_D_cn (hN : q_wf N) (hc : w_cn N) {a b : Nat} (ha : a < w_nn N) (hb : b < w_nn N) : 0 ≤ w_D N a b ∧ w_D N a b ≤ 12800 := by
  have h1 := hc a ha
  have h2 := hc b hb
  have t := d_fw_tri (F := 1000000) hN (by omega) (w_nn N) (wf_n hN).2.2 0 (by have := (wf_n hN).2.1; omega) a b
  have q1 := w_D_b hN a b
  have q2 := w_D_b hN 0 a
  have q3 := w_D_b hN 0 b
  have t' : w_D N a b ≤ w_D N a 0 + w_D N 0 b := t
  have q4 := w_D_b hN a 0
  omega
theorem w_D_m (hN : q_wf N) (a b : Nat) : d_fw 100000 N (w_nn N) a b = d_cap (w_D N a b) := d_fw_cap hN _ (wf_n hN).2.2 a b
end QF
end
