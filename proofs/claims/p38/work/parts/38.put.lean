section
/-! Rows replaced; networks in the heap. -/
theorem q_wB {x : Int} (h1 : -2147483648 ≤ x) (h2 : x ≤ 2147483647) : w32 x = x := w32_of (by omega) (by omega)
def q_put (σ : Nat → Nat → Int) (c : Nat) (T : Nat → Int) : Nat → Nat → Int := fun a => if a = c then T else σ a
theorem q_put_ap {σ : Nat → Nat → Int} {c a : Nat} {T : Nat → Int} : q_put σ c T a = if a = c then T else σ a := rfl
theorem q_put_at {σ : Nat → Nat → Int} {c : Nat} {T : Nat → Int} : q_put σ c T c = T := by unfold q_put; rw [if_pos rfl]
theorem q_put_ne {σ : Nat → Nat → Int} {c a : Nat} {T : Nat → Int} (h : a ≠ c) : q_put σ c T a = σ a := by unfold q_put; rw [if_neg h]
theorem q_put_self {σ : Nat → Nat → Int} {c : Nat} : q_put σ c (σ c) = σ := by
  funext a
  unfold q_put
  by_cases h : a = c
  · rw [if_pos h, h]
  · rw [if_neg h]
theorem q_put_put {σ : Nat → Nat → Int} {c : Nat} {T U : Nat → Int} : q_put (q_put σ c T) c U = q_put σ c U := by
  funext a
  unfold q_put
  by_cases h : a = c
  · rw [if_pos h, if_pos h]
  · rw [if_neg h, if_neg h, if_neg h]
theorem q_put_comm {σ : Nat → Nat → Int} {c d : Nat} {T U : Nat → Int} (h : c ≠ d) : q_put (q_put σ c T) d U = q_put (q_put σ d U) c T := by
  funext a
  unfold q_put
  by_cases h1 : a = c
  · rw [if_pos h1, if_pos h1, if_neg (by omega)]
  · rw [if_neg h1, if_neg h1]
theorem q_up_put {σ : Nat → Nat → Int} {c k : Nat} {v : Int} : m_up2 σ c k v = q_put σ c (m_up (σ c) k v) := by
  funext a j
  unfold m_up2 q_put m_up
  by_cases h1 : a = c
  · subst h1
    rw [if_pos rfl]
    by_cases h2 : j = k
    · rw [if_pos ⟨rfl, h2⟩, if_pos h2]
    · rw [if_neg (fun q => h2 q.2), if_neg h2]
  · rw [if_neg h1, if_neg (fun q => h1 q.1)]
theorem q_up_pt {σ : Nat → Nat → Int} {c k : Nat} {v : Int} {T : Nat → Int} : m_up2 (q_put σ c T) c k v = q_put σ c (m_up T k v) := by
  rw [q_up_put, q_put_at, q_put_put]
theorem q_set_ix {σ : Nat → Nat → Int} {c L : Nat} {x v : Int} (k : Nat) (hx : x = (k : Int)) (h : k < L) (h2 : L ≤ 1000) : q_set σ c L x v = q_put σ c (m_up (σ c) k v) := by
  subst hx
  rw [q_set_nat h h2, q_up_put]
theorem q_get_ix {σ : Nat → Nat → Int} {c L : Nat} {x : Int} (k : Nat) (hx : x = (k : Int)) (h : k < L) (h2 : L ≤ 1000) : q_get σ c L x = σ c k := by
  subst hx
  exact q_get_nat h h2
theorem m_up_at {α : Type} {f : Nat → α} {k : Nat} {v : α} : m_up f k v k = v := by unfold m_up; rw [if_pos rfl]
theorem m_up_ne {α : Type} {f : Nat → α} {k j : Nat} {v : α} (h : j ≠ k) : m_up f k v j = f j := by unfold m_up; rw [if_neg h]
theorem q_fill_put {σ : Nat → Nat → Int} {c L : Nat} {f : Nat → Int} : q_fill σ c L f = q_put σ c (fun j => if j < L then f j else σ c j) := by
  funext a j
  unfold q_fill q_put
  by_cases h1 : a = c
  · subst h1
    rw [if_pos rfl]
    by_cases h2 : j < L
    · rw [if_pos ⟨rfl, h2⟩, if_pos h2]
    · rw [if_neg (fun q => h2 q.2), if_neg h2]
  · rw [if_neg h1, if_neg (fun q => h1 q.1)]
/-- things done for 0, 1, .. -/
def q_it {α : Type} (f : Nat → α → α) : Nat → α → α
  | 0, x => x
  | k + 1, x => f k (q_it f k x)
theorem q_it_s {α : Type} {f : Nat → α → α} {k : Nat} {x : α} : q_it f (k + 1) x = f k (q_it f k x) := rfl
theorem q_it_inv {α : Type} {f : Nat → α → α} {P : Nat → α → Prop} {x : α} {n : Nat} (h0 : P 0 x) (hs : ∀ k y, k < n → P k y → P (k + 1) (f k y)) : ∀ k, k ≤ n → P k (q_it f k x) := by
  intro k
  induction k with
  | zero => intro _; exact h0
  | succ k ih => intro hk; exact hs k _ (by omega) (ih (by omega))
/-- the heap at a holds the network N -/
def nAt (σ : Nat → Nat → Int) (a : Nat) (N : Nat → Nat → Int) : Prop := ∀ r j, j < q_len r → σ (a + r) j = N r j
theorem nAt_0 {σ N : Nat → Nat → Int} {a j : Nat} (h : nAt σ a N) (hj : j < 3) : σ a j = N 0 j := h 0 j (by simpa [q_len] using hj)
theorem q_len2 {r : Nat} : q_len r = if r = 0 then 3 else if r = 2 ∨ r = 4 then 8 else if r = 6 ∨ r = 8 ∨ r = 10 then 12 else if r = 12 ∨ r = 14 ∨ r = 16 then 6 else 0 := rfl
theorem q_len_r {r j : Nat} (h : j < q_len r) : r ≤ 16 := by
  rcases q_len_cases h with h | h | h | h | h | h | h | h | h <;> omega
theorem nAt_up {σ N : Nat → Nat → Int} {a r k : Nat} {v : Int} (h : nAt σ a N) : nAt (m_up2 σ (a + r) k v) a (m_up2 N r k v) := by
  intro s j hj
  unfold m_up2
  by_cases c : s = r ∧ j = k
  · obtain ⟨rfl, rfl⟩ := c
    rw [if_pos ⟨rfl, rfl⟩, if_pos ⟨rfl, rfl⟩]
  · rw [if_neg c, if_neg (by omega)]
    exact h s j hj
theorem nAt_up0 {σ N : Nat → Nat → Int} {a k : Nat} {v : Int} (h : nAt σ a N) : nAt (m_up2 σ a k v) a (m_up2 N 0 k v) := nAt_up (r := 0) h
theorem nAt_fill {σ N : Nat → Nat → Int} {a r L : Nat} {f : Nat → Int} (h : nAt σ a N) : nAt (q_fill σ (a + r) L f) a (q_fill N r L f) := by
  intro s j hj
  unfold q_fill
  by_cases c : s = r ∧ j < L
  · obtain ⟨rfl, c⟩ := c
    rw [if_pos ⟨rfl, c⟩, if_pos ⟨rfl, c⟩]
  · rw [if_neg c, if_neg (by omega)]
    exact h s j hj
theorem nAt_rem {σ N : Nat → Nat → Int} {a r L p : Nat} (h : nAt σ a N) (hL : L = q_len r) : nAt (q_rem σ (a + r) L p) a (q_rem N r L p) := by
  intro s j hj
  unfold q_rem
  by_cases c : s = r ∧ p ≤ j ∧ j + 1 < L
  · obtain ⟨rfl, c⟩ := c
    rw [if_pos ⟨rfl, c⟩, if_pos ⟨rfl, c⟩]
    exact h _ _ (by omega)
  · rw [if_neg c, if_neg (by omega)]
    exact h s j hj
theorem nAt_fr {σ τ N : Nat → Nat → Int} {a : Nat} (h : nAt σ a N) (hf : ∀ x, a ≤ x → x < a + 17 → τ x = σ x) : nAt τ a N := by
  intro r j hj
  rw [hf _ (by omega) (by have := q_len_r hj; omega)]
  exact h r j hj
end
