section
/-! Scripts: reading. -/
def w_sg (X : Nat → Int) (L i : Nat) : Int := if i < L then X i else 0
def w_dg (X : Nat → Int) (L i : Nat) : Bool := decide (48 ≤ w_sg X L i ∧ w_sg X L i ≤ 57)
def w_skf (X : Nat → Int) (L : Nat) : Nat → Nat → Nat
  | 0, i => i
  | k + 1, i => if w_sg X L i = 32 then w_skf X L k (i + 1) else i
def w_sk (X : Nat → Int) (L i : Nat) : Nat := w_skf X L (L - i) i
/-- a number: whether there is one, the place behind it, its value -/
def w_nm (X : Nat → Int) (L i : Nat) : Bool × Nat × Int := if w_dg X L (w_sk X L i) = true then (if w_dg X L (w_sk X L i + 1) = true then (true, w_sk X L i + 2, (w_sg X L (w_sk X L i) - 48) * 10 + (w_sg X L (w_sk X L i + 1) - 48)) else (true, w_sk X L i + 1, w_sg X L (w_sk X L i) - 48)) else (false, w_sk X L i, 0)
def w_pt (X : Nat → Int) (L : Nat) : List Nat → Nat → List Int → Bool × Nat × List Int
  | [], i, a => (true, i, a)
  | c :: r, i, a => if c = 35 then (if (w_nm X L i).1 = true then w_pt X L r (w_nm X L i).2.1 (a ++ [(w_nm X L i).2.2]) else (false, (w_nm X L i).2.1, a)) else if w_sg X L (w_sk X L i) = (c : Int) then w_pt X L r (w_sk X L i + 1) a else (false, w_sk X L i, a)
def w_kd (X : Nat → Int) (L i : Nat) : Nat := if w_sg X L i = 119 then 0 else if w_sg X L i = 118 then 1 else if w_sg X L i = 120 then 2 else if w_dg X L i = true then 3 else 4
def w_tx (σ : Nat → Nat → Int) (X : Nat → Int) (L : Nat) : Prop := σ 186 0 = (L : Int) ∧ L ≤ 120 ∧ ∀ i, i < L → σ 188 i = X i ∧ 32 ≤ X i ∧ X i ≤ 126
def q_fs (σ τ : Nat → Nat → Int) : Prop := (∀ a, a ≠ 186 → a ≠ 190 → τ a = σ a) ∧ ∀ j, j ≠ 2 → j ≠ 3 → j ≠ 4 → τ 186 j = σ 186 j
theorem q_fs_r {σ : Nat → Nat → Int} : q_fs σ σ := ⟨fun _ _ _ => rfl, fun _ _ _ _ => rfl⟩
theorem q_fs_t {σ τ ρ : Nat → Nat → Int} (h : q_fs σ τ) (h2 : q_fs τ ρ) : q_fs σ ρ := ⟨fun a h3 h4 => (h2.1 a h3 h4).trans (h.1 a h3 h4), fun j h3 h4 h5 => (h2.2 j h3 h4 h5).trans (h.2 j h3 h4 h5)⟩
theorem w_tx_f {σ τ : Nat → Nat → Int} {X : Nat → Int} {L : Nat} (h : w_tx σ X L) (hf : q_fs σ τ) : w_tx τ X L := ⟨(hf.2 0 (by omega) (by omega) (by omega)).trans h.1, h.2.1, fun i hi => by rw [hf.1 188 (by omega) (by omega)]; exact h.2.2 i hi⟩
theorem q_fs_2 {σ : Nat → Nat → Int} {v : Int} : q_fs σ (m_up2 σ 186 2 v) := ⟨fun a h _ => m_up2_ne h, fun j h _ _ => m_up2_nk h⟩
theorem m_up2_self {σ : Nat → Nat → Int} {a k : Nat} {v : Int} (h : σ a k = v) : m_up2 σ a k v = σ := by
  funext b j
  unfold m_up2
  split
  · next c => obtain ⟨rfl, rfl⟩ := c; exact h.symm
  · rfl
theorem m_up2_2 {σ : Nat → Nat → Int} {a k : Nat} {v w : Int} : m_up2 (m_up2 σ a k v) a k w = m_up2 σ a k w := by
  funext b j
  unfold m_up2
  split
  · rfl
  · rfl
end
