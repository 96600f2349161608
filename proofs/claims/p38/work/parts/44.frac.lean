section
/-! Fractions; longs compared. -/
def fr (p q : Int) : Rat := (p : Rat) / (q : Rat)
theorem fr_q {q : Int} (h : 0 < q) : (0 : Rat) < (q : Rat) := Rat.intCast_pos.mpr h
theorem fr_lt {p q r s : Int} (hq : 0 < q) (hs : 0 < s) : (fr p q < fr r s) = (p * s < r * q) := by
  unfold fr
  have h1 := fr_q hq
  have h2 := fr_q hs
  rw [Rat.div_lt_iff h1, Rat.div_def, show (r : Rat) * (s : Rat)⁻¹ * (q : Rat) = (r : Rat) * (q : Rat) * (s : Rat)⁻¹ by grind, ← Rat.div_def, Rat.lt_div_iff h2]
  rw [← Rat.intCast_mul, ← Rat.intCast_mul, Rat.intCast_lt_intCast]
theorem fr_le {p q r s : Int} (hq : 0 < q) (hs : 0 < s) : (fr p q ≤ fr r s) = (p * s ≤ r * q) := by
  have h := fr_lt (p := r) (q := s) (r := p) (s := q) hs hq
  rw [← Rat.not_lt, h, Int.not_lt]
theorem fr_eq {p q r s : Int} (hq : 0 < q) (hs : 0 < s) : (fr p q = fr r s) = (p * s = r * q) := by
  have h1 := fr_le (p := p) (q := q) (r := r) (s := s) hq hs
  have h2 := fr_le (p := r) (q := s) (r := p) (s := q) hs hq
  rw [Rat.le_antisymm_iff, h1, h2]
  apply propext
  omega
theorem fr_mul {p q : Int} (hq : 0 < q) : fr p q * (q : Rat) = (p : Rat) := by
  unfold fr
  exact Rat.div_mul_cancel (Rat.ne_of_gt (fr_q hq))
theorem l_cl {a b : Int} (ha : w64 a = a) (hb : w64 b = b) : (w32 (l_cmp a b) < 0) = (a < b) := by
  unfold l_cmp
  rw [ha, hb]
  apply propext
  split
  · have : w32 1 = 1 := by decide
    omega
  · split
    · have : w32 0 = 0 := by decide
      omega
    · have : w32 (-1) = -1 := by decide
      omega
theorem l_ce {a b : Int} (ha : w64 a = a) (hb : w64 b = b) : (w32 (l_cmp a b) = 0) = (a = b) := by
  unfold l_cmp
  rw [ha, hb]
  apply propext
  split
  · have : w32 1 = 1 := by decide
    omega
  · split
    · have : w32 0 = 0 := by decide
      omega
    · have : w32 (-1) = -1 := by decide
      omega
theorem l_cge {a b : Int} (ha : w64 a = a) (hb : w64 b = b) : (0 ≤ w32 (l_cmp a b)) = (b ≤ a) := by
  have h := l_cl ha hb
  rw [← Int.not_lt, h, Int.not_lt]
theorem l_cg {a b : Int} (ha : w64 a = a) (hb : w64 b = b) : (0 < w32 (l_cmp a b)) = (b < a) := by
  have h := l_cl ha hb
  have h2 := l_ce ha hb
  apply propext
  have h' : (w32 (l_cmp a b) < 0) ↔ (a < b) := by rw [h]
  have h2' : (w32 (l_cmp a b) = 0) ↔ (a = b) := by rw [h2]
  generalize w32 (l_cmp a b) = y at *
  omega
theorem l_cle {a b : Int} (ha : w64 a = a) (hb : w64 b = b) : (w32 (l_cmp a b) ≤ 0) = (a ≤ b) := by
  have h := l_cg ha hb
  rw [← Int.not_lt, h, Int.not_lt]
theorem q_w64 {x : Int} (h1 : -9223372036854775808 ≤ x) (h2 : x ≤ 9223372036854775807) : w64 x = x := w64_of (by omega) (by omega)
/-- a point (edge, t = top / bottom) with value V comes ahead of another one -/
def w_lx (h : Rat) (g : Nat) (t : Rat) (h' : Rat) (g' : Nat) (t' : Rat) : Prop := h < h' ∨ h = h' ∧ (g < g' ∨ g = g' ∧ t < t')
theorem w_lx_irr {h t : Rat} {g : Nat} : ¬ w_lx h g t h g t := by
  rintro (c | ⟨-, c | ⟨-, c⟩⟩)
  · exact Rat.lt_irrefl c
  · omega
  · exact Rat.lt_irrefl c
theorem w_lx_tr {h h' h2 t t' t2 : Rat} {g g' g2 : Nat} (a : w_lx h g t h' g' t') (b : w_lx h' g' t' h2 g2 t2) : w_lx h g t h2 g2 t2 := by
  unfold w_lx at *
  grind
theorem w_lx_tot {h h' t t' : Rat} {g g' : Nat} (a : ¬ w_lx h g t h' g' t') (b : ¬ w_lx h' g' t' h g t) : h = h' ∧ g = g' ∧ t = t' := by
  unfold w_lx at *
  grind
abbrev wP : Type := Nat × Int × Int
def w_pl (V : wP → Int) (x y : wP) : Prop := w_lx (fr (V x) x.2.2) x.1 (fr x.2.1 x.2.2) (fr (V y) y.2.2) y.1 (fr y.2.1 y.2.2)
theorem w_pl_iff {V : wP → Int} {x y : wP} (hx : 0 < x.2.2) (hy : 0 < y.2.2) : w_pl V x y ↔ (V x * y.2.2 < V y * x.2.2 ∨ V x * y.2.2 = V y * x.2.2 ∧ (x.1 < y.1 ∨ x.1 = y.1 ∧ x.2.1 * y.2.2 < y.2.1 * x.2.2)) := by
  unfold w_pl w_lx
  rw [fr_lt hx hy, fr_eq hx hy, fr_lt hx hy]
end
