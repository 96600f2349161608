section
/-! Heights and costs over the rationals. -/
theorem fr_lin {a p q : Int} (hq : 0 < q) : fr (a * q + p) q = (a : Rat) + fr p q := by
  have hne : (q : Rat) ≠ 0 := Rat.ne_of_gt (fr_q hq)
  unfold fr
  rw [Rat.intCast_add, Rat.intCast_mul, Rat.div_def, Rat.div_def, Rat.add_mul, Rat.mul_assoc, Rat.mul_inv_cancel _ hne, Rat.mul_one]
theorem fr_neg {p q : Int} : fr (-p) q = - fr p q := by
  unfold fr
  rw [Rat.intCast_neg, Rat.div_def, Rat.div_def, Rat.neg_mul]
theorem fr_lin2 {a p q : Int} (hq : 0 < q) : fr (a * q - p) q = (a : Rat) - fr p q := by
  rw [Int.sub_eq_add_neg, fr_lin hq, fr_neg]
  grind
theorem fr_sm {a p q : Int} : fr (a * p) q = (a : Rat) * fr p q := by
  unfold fr
  rw [Rat.intCast_mul, Rat.div_def, Rat.div_def, Rat.mul_assoc]
theorem fr_lts {a b q : Int} (hq : 0 < q) : (fr a q < fr b q) = (a < b) := by
  rw [fr_lt hq hq]
  exact propext ⟨fun h => Int.lt_of_mul_lt_mul_right h (by omega), fun h => Int.mul_lt_mul_of_pos_right h hq⟩
theorem fr_0 {q : Int} : fr 0 q = 0 := by
  unfold fr
  rw [Rat.div_def]
  exact Rat.zero_mul _
theorem fr_1 {p : Int} : fr p 1 = (p : Rat) := by
  unfold fr
  rw [Rat.div_def]
  show (p : Rat) * (1 : Rat)⁻¹ = p
  grind
theorem fr_add {a b q : Int} : fr (a + b) q = fr a q + fr b q := by
  unfold fr
  rw [Rat.intCast_add, Rat.div_def, Rat.div_def, Rat.div_def, Rat.add_mul]
def h_r (N : Nat → Nat → Int) (g i : Nat) (x : Rat) : Rat := if (w_b N g i : Rat) - x < (w_o N g i : Rat) + x then (w_b N g i : Rat) - x else (w_o N g i : Rat) + x
def h_F (N : Nat → Nat → Int) (t : Int) (g i : Nat) (x : Rat) : Rat := (w_W N t i : Rat) * h_r N g i x
def h_H (N : Nat → Nat → Int) (t S : Int) (g : Nat) (x : Rat) : Nat → Rat
  | 0 => 0
  | k + 1 => if q_bt S k = true ∧ h_H N t S g x k < h_F N t g k x then h_F N t g k x else h_H N t S g x k
def h_C (N : Nat → Nat → Int) (t : Int) (g : Nat) (x : Rat) : Nat → Rat
  | 0 => 0
  | k + 1 => h_C N t g x k + h_F N t g k x
def h_al (N : Nat → Nat → Int) (g : Nat) (x : Rat) : Prop := ∀ k, k < w_ns N → ¬ (N 12 k = (g : Int) ∧ (N 14 k : Rat) < x ∧ x < (N 16 k : Rat))
section
variable {N : Nat → Nat → Int} {t S p q p' q' v v' : Int} {g i n k : Nat} {x : Rat}
theorem h_Rfr (hq : 0 < q) : fr (w_R N g i p q) q = h_r N g i (fr p q) := by
  unfold w_R h_r
  rw [← fr_lin (a := w_o N g i) (p := p) hq, ← fr_lin2 (a := w_b N g i) (p := p) hq]
  simp only [fr_lts hq]
  split <;> rfl
theorem h_Ffr (hq : 0 < q) : fr (w_F N t g i p q) q = h_F N t g i (fr p q) := by
  unfold w_F h_F
  rw [fr_sm, h_Rfr hq]
theorem h_Hfr (hq : 0 < q) : ∀ k, fr (w_H N t S g p q k) q = h_H N t S g (fr p q) k
  | 0 => fr_0
  | k + 1 => by
    show fr (if q_bt S k = true ∧ w_H N t S g p q k < w_F N t g k p q then w_F N t g k p q else w_H N t S g p q k) q = if q_bt S k = true ∧ h_H N t S g (fr p q) k < h_F N t g k (fr p q) then h_F N t g k (fr p q) else h_H N t S g (fr p q) k
    rw [← h_Hfr hq k, ← h_Ffr hq]
    simp only [fr_lts hq]
    split <;> rfl
theorem h_Cfr (hq : 0 < q) : ∀ k, fr (w_C N t g p q k) q = h_C N t g (fr p q) k
  | 0 => fr_0
  | k + 1 => by
    show fr (w_C N t g p q k + w_F N t g k p q) q = h_C N t g (fr p q) k + h_F N t g k (fr p q)
    rw [fr_add, h_Cfr hq k, h_Ffr hq]
theorem fr_ltl {a : Int} (hq : 0 < q) : ((a : Rat) < fr p q) = (a * q < p) := by
  rw [← fr_1, fr_lt (by decide) hq, Int.mul_one]
theorem fr_ltr {a : Int} (hq : 0 < q) : (fr p q < (a : Rat)) = (p < a * q) := by
  rw [← fr_1, fr_lt hq (by decide), Int.mul_one]
theorem h_alfr (hq : 0 < q) : w_al N g p q = true ↔ h_al N g (fr p q) := by
  rw [w_al_iff]
  unfold h_al
  constructor
  · intro h k hk
    rw [fr_ltl hq, fr_ltr hq]
    exact h k hk
  · intro h k hk
    have := h k hk
    rw [fr_ltl hq, fr_ltr hq] at this
    exact this
/-- the highest line at a point, as a fraction -/
theorem w_topU (hq : 0 < q) (hq' : 0 < q') (h : w_top N t g p q v) (h' : w_top N t g p' q' v') (he : fr p q = fr p' q') : fr v q = fr v' q' := by
  obtain ⟨⟨i, i1, i2⟩, i3⟩ := h
  obtain ⟨⟨j, j1, j2⟩, j3⟩ := h'
  have a1 : fr v q = h_F N t g i (fr p q) := by rw [← i2, h_Ffr hq]
  have a2 : fr v' q' = h_F N t g j (fr p q) := by rw [← j2, h_Ffr hq', he]
  have b1 : h_F N t g j (fr p q) ≤ fr v q := by
    rw [← h_Ffr hq, ← Rat.not_lt, fr_lts hq]
    have := i3 j j1
    omega
  have b2 : h_F N t g i (fr p q) ≤ fr v' q' := by
    rw [he, ← h_Ffr hq', ← Rat.not_lt, fr_lts hq']
    have := j3 i i1
    omega
  rw [a2] at b2
  rw [a1] at b1
  rw [a1, a2]
  exact Rat.le_antisymm b2 b1
/-- lines -/
theorem h_rle (i : Nat) : h_r N g i x ≤ (w_o N g i : Rat) + x ∧ h_r N g i x ≤ (w_b N g i : Rat) - x ∧ (h_r N g i x = (w_o N g i : Rat) + x ∨ h_r N g i x = (w_b N g i : Rat) - x) := by
  unfold h_r
  split <;> grind
def h_l (N : Nat → Nat → Int) (t : Int) (g l : Nat) (x : Rat) : Rat := (w_lt N t g l : Rat) + (w_ls N t l : Rat) * x
theorem h_l0 : h_l N t g (2 * i) x = (w_W N t i : Rat) * ((w_o N g i : Rat) + x) := by
  unfold h_l w_lt w_ls
  rw [if_pos (by omega), if_pos (by omega), show 2 * i / 2 = i by omega, Rat.intCast_mul, Rat.mul_add]
theorem h_l1 : h_l N t g (2 * i + 1) x = (w_W N t i : Rat) * ((w_b N g i : Rat) - x) := by
  unfold h_l w_lt w_ls
  rw [if_neg (by omega), if_neg (by omega), show (2 * i + 1) / 2 = i by omega, Rat.intCast_mul, Rat.intCast_neg]
  grind
theorem h_Fl (hw : 0 ≤ w_W N t i) : h_F N t g i x ≤ h_l N t g (2 * i) x ∧ h_F N t g i x ≤ h_l N t g (2 * i + 1) x ∧ (h_F N t g i x = h_l N t g (2 * i) x ∨ h_F N t g i x = h_l N t g (2 * i + 1) x) := by
  obtain ⟨h1, h2, h3⟩ := h_rle (N := N) (g := g) (x := x) i
  have hW : (0 : Rat) ≤ (w_W N t i : Rat) := Rat.intCast_nonneg.mpr hw
  rw [h_l0, h_l1]
  unfold h_F
  refine ⟨Rat.mul_le_mul_of_nonneg_left h1 hW, Rat.mul_le_mul_of_nonneg_left h2 hW, ?_⟩
  rcases h3 with h3 | h3
  · exact Or.inl (by rw [h3])
  · exact Or.inr (by rw [h3])
theorem h_H_ge {n : Nat} : ∀ i, i < n → q_bt S i = true → h_F N t g i x ≤ h_H N t S g x n := by
  induction n with
  | zero => intro i hi; omega
  | succ n ih =>
    intro i hi hb
    show _ ≤ if q_bt S n = true ∧ h_H N t S g x n < h_F N t g n x then h_F N t g n x else h_H N t S g x n
    by_cases c : i = n
    · subst c
      split
      · exact Rat.le_refl
      · next h =>
        rw [← Rat.not_lt]
        exact fun q => h ⟨hb, q⟩
    · have := ih i (by omega) hb
      split
      · next h => exact Rat.le_trans this (Rat.le_of_lt h.2)
      · exact this
theorem h_H_at {n : Nat} : (h_H N t S g x n = 0) ∨ ∃ i, i < n ∧ q_bt S i = true ∧ h_F N t g i x = h_H N t S g x n := by
  induction n with
  | zero => exact Or.inl rfl
  | succ n ih =>
    show ((if q_bt S n = true ∧ h_H N t S g x n < h_F N t g n x then h_F N t g n x else h_H N t S g x n) = 0) ∨ ∃ i, i < n + 1 ∧ q_bt S i = true ∧ h_F N t g i x = (if q_bt S n = true ∧ h_H N t S g x n < h_F N t g n x then h_F N t g n x else h_H N t S g x n)
    by_cases c : q_bt S n = true ∧ h_H N t S g x n < h_F N t g n x
    · rw [if_pos c]
      exact Or.inr ⟨n, by omega, c.1, rfl⟩
    · rw [if_neg c]
      rcases ih with ih | ⟨i, h1, h2, h3⟩
      · exact Or.inl ih
      · exact Or.inr ⟨i, by omega, h2, h3⟩
end
end
