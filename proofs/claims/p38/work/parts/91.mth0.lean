section
/-! Heights and costs over the rationals; the best of all allowed points (picked out of whole's parts by wip/p38/pick.py). -/
section
def z_by (q : Int) : Int := if q < 0 then -1 else 1
def z_c1 (N : Nat → Nat → Int) (g : Nat) (p q : Int) : List (Int × Int) := if q ≠ 0 ∧ 0 ≤ z_by q * p ∧ z_by q * p ≤ z_by q * q * N 10 g then [(z_by q * p, z_by q * q)] else []
def z_pk (N : Nat → Nat → Int) (g i : Nat) : Int := w_b N g i - w_o N g i
def z_c4 (N : Nat → Nat → Int) (t : Int) (g i j k : Nat) : List (Int × Int) := z_c1 N g (w_lt N t g (2 * j + k / 2) - w_lt N t g (2 * i + k % 2)) (w_ls N t (2 * i + k % 2) - w_ls N t (2 * j + k / 2))
def z_ci (N : Nat → Nat → Int) (t S : Int) (g i : Nat) : List (Int × Int) := (if q_bt S i = true then z_c1 N g (z_pk N g i) 2 else []) ++ q_cat (fun j => if q_bt S i = true ∧ q_bt S j = true then q_cat (z_c4 N t g i j) 4 else []) i
def z_cs (N : Nat → Nat → Int) (g k : Nat) : List (Int × Int) := if N 12 k = (g : Int) then z_c1 N g (N 14 k) 1 ++ z_c1 N g (N 16 k) 1 else []
def z_xs (N : Nat → Nat → Int) (t S : Int) (g : Nat) : List (Int × Int) := z_c1 N g 0 1 ++ z_c1 N g (N 10 g) 1 ++ q_cat (z_ci N t S g) (w_nn N) ++ q_cat (z_cs N g) (w_ns N)
end
section
def z_pe (N : Nat → Nat → Int) (t S : Int) (g : Nat) : List wP := q_cat (fun k => w_ap N g ((z_xs N t S g).getD k (0, 0)).1 ((z_xs N t S g).getD k (0, 0)).2) (z_xs N t S g).length
def z_ps (N : Nat → Nat → Int) (t S : Int) : List wP := q_cat (z_pe N t S) (w_ne N)
theorem z_pe_mem {N : Nat → Nat → Int} {t S : Int} {g : Nat} {y : wP} : y ∈ z_pe N t S g ↔ y.1 = g ∧ y.2 ∈ z_xs N t S g ∧ w_al N g y.2.1 y.2.2 = true := by
  unfold z_pe
  rw [q_cat_mem]
  constructor
  · rintro ⟨i, hi, h⟩
    obtain ⟨rfl, h2⟩ := w_ap_mem.mp h
    exact ⟨rfl, getD_mem hi, h2⟩
  · rintro ⟨h1, h2, h3⟩
    obtain ⟨i, hi, he⟩ := getD_ex (d := (0, 0)) h2
    refine ⟨i, hi, w_ap_mem.mpr ?_⟩
    rw [he]
    obtain ⟨y1, y2, y3⟩ := y
    dsimp only at h1 h3 ⊢
    rw [h1]
    exact ⟨rfl, h3⟩
theorem z_ps_mem {N : Nat → Nat → Int} {t S : Int} {y : wP} : y ∈ z_ps N t S ↔ y.1 < w_ne N ∧ y.2 ∈ z_xs N t S y.1 ∧ w_al N y.1 y.2.1 y.2.2 = true := by
  unfold z_ps
  rw [q_cat_mem]
  constructor
  · rintro ⟨g, hg, h⟩
    obtain ⟨h1, h2, h3⟩ := z_pe_mem.mp h
    rw [h1]
    exact ⟨hg, h2, h3⟩
  · rintro ⟨h1, h2, h3⟩
    exact ⟨y.1, h1, z_pe_mem.mpr ⟨rfl, h2, h3⟩⟩
end
section
variable {Z : mZ} {K : Nat → mK} {σ τ N M : Nat → Nat → Int} {e g i L n c k s a b : Nat} {t p q v x y z w u S : Int} {X : Nat → Int} {h : mH} {R : Nat → Nat → Nat → Int} {T : Nat → Int}
theorem z_c1_mem {x : Int × Int} : x ∈ z_c1 N g p q ↔ x = (z_by q * p, z_by q * q) ∧ q ≠ 0 ∧ 0 ≤ z_by q * p ∧ z_by q * p ≤ z_by q * q * N 10 g := by
  unfold z_c1
  by_cases c : q ≠ 0 ∧ 0 ≤ z_by q * p ∧ z_by q * p ≤ z_by q * q * N 10 g
  · rw [if_pos c, List.mem_singleton]
    exact ⟨fun e => ⟨e, c⟩, fun e => e.1⟩
  · rw [if_neg c]
    exact ⟨fun e => absurd e List.not_mem_nil, fun e => absurd e.2 c⟩
theorem z_byq (h : q ≠ 0) : 0 < z_by q * q ∧ (z_by q = 1 ∨ z_by q = -1) ∧ (z_by q * q = q ∨ z_by q * q = -q) := by
  unfold z_by
  by_cases c : q < 0
  · rw [if_pos c]; omega
  · rw [if_neg c]; omega
theorem z_c1_ok {x : Int × Int} (hx : x ∈ z_c1 N g p q) (h1 : -198 ≤ q) (h2 : q ≤ 198) (ht : 0 ≤ t) (ht2 : t ≤ 10) : w_pq N t g x.1 x.2 := by
  obtain ⟨rfl, h3, h4, h5⟩ := z_c1_mem.mp hx
  obtain ⟨b1, -, b3⟩ := z_byq h3
  have m := q_mb (show 0 ≤ 9 + 9 * t by omega) (show 9 + 9 * t ≤ 99 by omega) (show 0 ≤ z_by q * q by omega) (show z_by q * q ≤ 198 by omega)
  refine ⟨b1, by show z_by q * q ≤ 1000; omega, by show (9 + 9 * t) * (z_by q * q) ≤ 19602; omega, ht, h4, ?_⟩
  show z_by q * p ≤ N 10 g * (z_by q * q)
  rw [Int.mul_comm (N 10 g)]
  exact h5
theorem z_xs_ok (hw : q_wf N) (hc : w_cn N) (hg : g < w_ne N) (ht : 0 ≤ t) (ht2 : t ≤ 10) {x : Int × Int} (hx : x ∈ z_xs N t S g) : w_pq N t g x.1 x.2 := by
  unfold z_xs at hx
  rcases List.mem_append.mp hx with hx | hx
  · rcases List.mem_append.mp hx with hx | hx
    · rcases List.mem_append.mp hx with hx | hx
      · exact z_c1_ok hx (by decide) (by decide) ht ht2
      · exact z_c1_ok hx (by decide) (by decide) ht ht2
    · obtain ⟨i, hi, hx⟩ := q_cat_mem.mp hx
      unfold z_ci at hx
      rcases List.mem_append.mp hx with hx | hx
      · split at hx
        · exact z_c1_ok hx (by decide) (by decide) ht ht2
        · exact absurd hx List.not_mem_nil
      · obtain ⟨j, hj, hx⟩ := q_cat_mem.mp hx
        try dsimp only at hx
        split at hx
        · obtain ⟨k, hk, hx⟩ := q_cat_mem.mp hx
          have b1 := w_lb hw hc hg ht ht2 (l := 2 * i + k % 2) (by omega)
          have b2 := w_lb hw hc hg ht ht2 (l := 2 * j + k / 2) (by omega)
          exact z_c1_ok hx (by omega) (by omega) ht ht2
        · exact absurd hx List.not_mem_nil
  · obtain ⟨k, hk, hx⟩ := q_cat_mem.mp hx
    unfold z_cs at hx
    split at hx
    · rcases List.mem_append.mp hx with hx | hx
      · exact z_c1_ok hx (by decide) (by decide) ht ht2
      · exact z_c1_ok hx (by decide) (by decide) ht ht2
    · exact absurd hx List.not_mem_nil
end
section
theorem fr_lin {a p q : Int} (hq : 0 < q) : fr (a * q + p) q = (a : Rat) + fr p q := by
  have hne : (q : Rat) ≠ 0 := Rat.ne_of_gt (fr_q hq)
  unfold fr
  rw [Rat.intCast_add, Rat.intCast_mul, Rat.div_def, Rat.div_def, Rat.add_mul, Rat.mul_assoc, Rat.mul_inv_cancel _ hne, Rat.mul_one]
theorem fr_neg {p q : Int} : fr (-p) q = - fr p q := by
  unfold fr
  rw [Rat.intCast_neg, Rat.div_def, Rat.div_def, Rat.neg_mul]
theorem fr_lin2 {a p q : Int} (hq : 0 < q) : fr (a * q - p) q = (a : Rat) - fr p q := by
  rw [Int.sub_eq_add_neg, fr_lin hq, fr_neg]
  grind
theorem fr_sm {a p q : Int} : fr (a * p) q = (a : Rat) * fr p q := by
  unfold fr
  rw [Rat.intCast_mul, Rat.div_def, Rat.div_def, Rat.mul_assoc]
theorem fr_lts {a b q : Int} (hq : 0 < q) : (fr a q < fr b q) = (a < b) := by
  rw [fr_lt hq hq]
  exact propext ⟨fun h => Int.lt_of_mul_lt_mul_right h (by omega), fun h => Int.mul_lt_mul_of_pos_right h hq⟩
theorem fr_0 {q : Int} : fr 0 q = 0 := by
  unfold fr
  rw [Rat.div_def]
  exact Rat.zero_mul _
theorem fr_1 {p : Int} : fr p 1 = (p : Rat) := by
  unfold fr
  rw [Rat.div_def]
  show (p : Rat) * (1 : Rat)⁻¹ = p
  grind
theorem fr_add {a b q : Int} : fr (a + b) q = fr a q + fr b q := by
  unfold fr
  rw [Rat.intCast_add, Rat.div_def, Rat.div_def, Rat.div_def, Rat.add_mul]
def h_r (N : Nat → Nat → Int) (g i : Nat) (x : Rat) : Rat := if (w_b N g i : Rat) - x < (w_o N g i : Rat) + x then (w_b N g i : Rat) - x else (w_o N g i : Rat) + x
def h_F (N : Nat → Nat → Int) (t : Int) (g i : Nat) (x : Rat) : Rat := (w_W N t i : Rat) * h_r N g i x
def h_H (N : Nat → Nat → Int) (t S : Int) (g : Nat) (x : Rat) : Nat → Rat
  | 0 => 0
  | k + 1 => if q_bt S k = true ∧ h_H N t S g x k < h_F N t g k x then h_F N t g k x else h_H N t S g x k
def h_C (N : Nat → Nat → Int) (t : Int) (g : Nat) (x : Rat) : Nat → Rat
  | 0 => 0
  | k + 1 => h_C N t g x k + h_F N t g k x
def h_al (N : Nat → Nat → Int) (g : Nat) (x : Rat) : Prop := ∀ k, k < w_ns N → ¬ (N 12 k = (g : Int) ∧ (N 14 k : Rat) < x ∧ x < (N 16 k : Rat))
end
section
variable {N : Nat → Nat → Int} {t S p q p' q' v v' : Int} {g i n k : Nat} {x : Rat}
theorem h_Rfr (hq : 0 < q) : fr (w_R N g i p q) q = h_r N g i (fr p q) := by
  unfold w_R h_r
  rw [← fr_lin (a := w_o N g i) (p := p) hq, ← fr_lin2 (a := w_b N g i) (p := p) hq]
  simp only [fr_lts hq]
  split <;> rfl
theorem h_Ffr (hq : 0 < q) : fr (w_F N t g i p q) q = h_F N t g i (fr p q) := by
  unfold w_F h_F
  rw [fr_sm, h_Rfr hq]
theorem h_Hfr (hq : 0 < q) : ∀ k, fr (w_H N t S g p q k) q = h_H N t S g (fr p q) k
  | 0 => fr_0
  | k + 1 => by
    show fr (if q_bt S k = true ∧ w_H N t S g p q k < w_F N t g k p q then w_F N t g k p q else w_H N t S g p q k) q = if q_bt S k = true ∧ h_H N t S g (fr p q) k < h_F N t g k (fr p q) then h_F N t g k (fr p q) else h_H N t S g (fr p q) k
    rw [← h_Hfr hq k, ← h_Ffr hq]
    simp only [fr_lts hq]
    split <;> rfl
theorem h_Cfr (hq : 0 < q) : ∀ k, fr (w_C N t g p q k) q = h_C N t g (fr p q) k
  | 0 => fr_0
  | k + 1 => by
    show fr (w_C N t g p q k + w_F N t g k p q) q = h_C N t g (fr p q) k + h_F N t g k (fr p q)
    rw [fr_add, h_Cfr hq k, h_Ffr hq]
theorem fr_ltl {a : Int} (hq : 0 < q) : ((a : Rat) < fr p q) = (a * q < p) := by
  rw [← fr_1, fr_lt (by decide) hq, Int.mul_one]
theorem fr_ltr {a : Int} (hq : 0 < q) : (fr p q < (a : Rat)) = (p < a * q) := by
  rw [← fr_1, fr_lt hq (by decide), Int.mul_one]
theorem h_alfr (hq : 0 < q) : w_al N g p q = true ↔ h_al N g (fr p q) := by
  rw [w_al_iff]
  unfold h_al
  constructor
  · intro h k hk
    rw [fr_ltl hq, fr_ltr hq]
    exact h k hk
  · intro h k hk
    have := h k hk
    rw [fr_ltl hq, fr_ltr hq] at this
    exact this
theorem w_topU (hq : 0 < q) (hq' : 0 < q') (h : w_top N t g p q v) (h' : w_top N t g p' q' v') (he : fr p q = fr p' q') : fr v q = fr v' q' := by
  obtain ⟨⟨i, i1, i2⟩, i3⟩ := h
  obtain ⟨⟨j, j1, j2⟩, j3⟩ := h'
  have a1 : fr v q = h_F N t g i (fr p q) := by rw [← i2, h_Ffr hq]
  have a2 : fr v' q' = h_F N t g j (fr p q) := by rw [← j2, h_Ffr hq', he]
  have b1 : h_F N t g j (fr p q) ≤ fr v q := by
    rw [← h_Ffr hq, ← Rat.not_lt, fr_lts hq]
    have := i3 j j1
    omega
  have b2 : h_F N t g i (fr p q) ≤ fr v' q' := by
    rw [he, ← h_Ffr hq', ← Rat.not_lt, fr_lts hq']
    have := j3 i i1
    omega
  rw [a2] at b2
  rw [a1] at b1
  rw [a1, a2]
  exact Rat.le_antisymm b2 b1
theorem h_rle (i : Nat) : h_r N g i x ≤ (w_o N g i : Rat) + x ∧ h_r N g i x ≤ (w_b N g i : Rat) - x ∧ (h_r N g i x = (w_o N g i : Rat) + x ∨ h_r N g i x = (w_b N g i : Rat) - x) := by
  unfold h_r
  split <;> grind
def h_l (N : Nat → Nat → Int) (t : Int) (g l : Nat) (x : Rat) : Rat := (w_lt N t g l : Rat) + (w_ls N t l : Rat) * x
theorem h_l0 : h_l N t g (2 * i) x = (w_W N t i : Rat) * ((w_o N g i : Rat) + x) := by
  unfold h_l w_lt w_ls
  rw [if_pos (by omega), if_pos (by omega), show 2 * i / 2 = i by omega, Rat.intCast_mul, Rat.mul_add]
theorem h_l1 : h_l N t g (2 * i + 1) x = (w_W N t i : Rat) * ((w_b N g i : Rat) - x) := by
  unfold h_l w_lt w_ls
  rw [if_neg (by omega), if_neg (by omega), show (2 * i + 1) / 2 = i by omega, Rat.intCast_mul, Rat.intCast_neg]
  grind
theorem h_Fl (hw : 0 ≤ w_W N t i) : h_F N t g i x ≤ h_l N t g (2 * i) x ∧ h_F N t g i x ≤ h_l N t g (2 * i + 1) x ∧ (h_F N t g i x = h_l N t g (2 * i) x ∨ h_F N t g i x = h_l N t g (2 * i + 1) x) := by
  obtain ⟨h1, h2, h3⟩ := h_rle (N := N) (g := g) (x := x) i
  have hW : (0 : Rat) ≤ (w_W N t i : Rat) := Rat.intCast_nonneg.mpr hw
  rw [h_l0, h_l1]
  unfold h_F
  refine ⟨Rat.mul_le_mul_of_nonneg_left h1 hW, Rat.mul_le_mul_of_nonneg_left h2 hW, ?_⟩
  rcases h3 with h3 | h3
  · exact Or.inl (by rw [h3])
  · exact Or.inr (by rw [h3])
theorem h_H_ge {n : Nat} : ∀ i, i < n → q_bt S i = true → h_F N t g i x ≤ h_H N t S g x n := by
  induction n with
  | zero => intro i hi; omega
  | succ n ih =>
    intro i hi hb
    show _ ≤ if q_bt S n = true ∧ h_H N t S g x n < h_F N t g n x then h_F N t g n x else h_H N t S g x n
    by_cases c : i = n
    · subst c
      split
      · exact Rat.le_refl
      · next h =>
        rw [← Rat.not_lt]
        exact fun q => h ⟨hb, q⟩
    · have := ih i (by omega) hb
      split
      · next h => exact Rat.le_trans this (Rat.le_of_lt h.2)
      · exact this
theorem h_H_at {n : Nat} : (h_H N t S g x n = 0) ∨ ∃ i, i < n ∧ q_bt S i = true ∧ h_F N t g i x = h_H N t S g x n := by
  induction n with
  | zero => exact Or.inl rfl
  | succ n ih =>
    show ((if q_bt S n = true ∧ h_H N t S g x n < h_F N t g n x then h_F N t g n x else h_H N t S g x n) = 0) ∨ ∃ i, i < n + 1 ∧ q_bt S i = true ∧ h_F N t g i x = (if q_bt S n = true ∧ h_H N t S g x n < h_F N t g n x then h_F N t g n x else h_H N t S g x n)
    by_cases c : q_bt S n = true ∧ h_H N t S g x n < h_F N t g n x
    · rw [if_pos c]
      exact Or.inr ⟨n, by omega, c.1, rfl⟩
    · rw [if_neg c]
      rcases ih with ih | ⟨i, h1, h2, h3⟩
      · exact Or.inl ih
      · exact Or.inr ⟨i, by omega, h2, h3⟩
end
section
theorem l_max {α : Type} (f : α → Rat) (x : Rat) : ∀ L : List α, (∃ y, y ∈ L ∧ f y < x) → ∃ a, a ∈ L ∧ f a < x ∧ ∀ y, y ∈ L → f y < x → f y ≤ f a
  | [], h => by obtain ⟨y, hy, -⟩ := h; exact absurd hy List.not_mem_nil
  | b :: L, h => by
    by_cases hL : ∃ y, y ∈ L ∧ f y < x
    · obtain ⟨a, a1, a2, a3⟩ := l_max f x L hL
      by_cases c : f b < x ∧ f a < f b
      · refine ⟨b, List.mem_cons_self .., c.1, fun y hy h => ?_⟩
        rcases List.mem_cons.mp hy with rfl | hy
        · exact Rat.le_refl
        · exact Rat.le_trans (a3 y hy h) (Rat.le_of_lt c.2)
      · refine ⟨a, List.mem_cons_of_mem _ a1, a2, fun y hy h' => ?_⟩
        rcases List.mem_cons.mp hy with rfl | hy
        · exact Rat.not_lt.mp (fun q => c ⟨h', q⟩)
        · exact a3 y hy h'
    · obtain ⟨y, hy, h⟩ := h
      rcases List.mem_cons.mp hy with rfl | hy
      · refine ⟨y, List.mem_cons_self .., h, fun z hz h' => ?_⟩
        rcases List.mem_cons.mp hz with rfl | hz
        · exact Rat.le_refl
        · exact absurd ⟨z, hz, h'⟩ hL
      · exact absurd ⟨y, hy, h⟩ hL
theorem l_min {α : Type} (f : α → Rat) (x : Rat) (L : List α) (h : ∃ y, y ∈ L ∧ x < f y) : ∃ a, a ∈ L ∧ x < f a ∧ ∀ y, y ∈ L → x < f y → f a ≤ f y := by
  obtain ⟨y, hy, h1⟩ := h
  obtain ⟨a, a1, a2, a3⟩ := l_max (fun z => - f z) (-x) L ⟨y, hy, Rat.neg_lt_neg h1⟩
  exact ⟨a, a1, Rat.neg_lt_neg_iff.mp a2, fun y hy h => Rat.neg_le_neg_iff.mp (a3 y hy (Rat.neg_lt_neg h))⟩
theorem h_root {l0 ls m0 ms u v : Rat} (h1 : l0 + ls * u < m0 + ms * u) (h2 : m0 + ms * v ≤ l0 + ls * v) : ls ≠ ms ∧ ∃ r, l0 + ls * r = m0 + ms * r ∧ (u < v → u < r ∧ r ≤ v) ∧ (v < u → v ≤ r ∧ r < u) := by
  have hne : ls - ms ≠ 0 := by
    intro h
    have e : ls = ms := by grind
    subst e
    grind
  obtain ⟨d, hd⟩ : ∃ d, d = ls - ms := ⟨_, rfl⟩
  rw [← hd] at hne
  obtain ⟨r, hr⟩ : ∃ r, r = (m0 - l0) / d := ⟨_, rfl⟩
  have er : r * d = m0 - l0 := by rw [hr]; exact Rat.div_mul_cancel hne
  have a1 : d * u < d * r := by rw [Rat.mul_comm d r, er, hd]; grind
  have a2 : d * r ≤ d * v := by rw [Rat.mul_comm d r, er, hd]; grind
  refine ⟨fun q => hne (by rw [hd, q]; grind), r, ?_, fun huv => ?_, fun hvu => ?_⟩
  · have : r * (ls - ms) = m0 - l0 := by rw [← hd]; exact er
    grind
  · have hp : 0 < d := by
      rcases Rat.le_total (a := d) (b := 0) with c | c
      · have := Rat.mul_le_mul_of_nonneg_left (Rat.le_of_lt huv) (Rat.neg_le_neg c)
        exfalso
        grind
      · exact Rat.lt_of_le_of_ne c (fun q => hne q.symm)
    exact ⟨Rat.lt_of_mul_lt_mul_left a1 (Rat.le_of_lt hp), Rat.le_of_mul_le_mul_left a2 hp⟩
  · have hp : 0 < -d := by
      rcases Rat.le_total (a := 0) (b := d) with c | c
      · have := Rat.mul_le_mul_of_nonneg_left (Rat.le_of_lt hvu) c
        exfalso
        grind
      · exact Rat.lt_of_le_of_ne (by grind) (fun q => hne (by grind))
    have b1 : -d * r < -d * u := by rw [Rat.neg_mul, Rat.neg_mul]; exact Rat.neg_lt_neg a1
    have b2 : -d * v ≤ -d * r := by rw [Rat.neg_mul, Rat.neg_mul]; exact Rat.neg_le_neg a2
    exact ⟨Rat.le_of_mul_le_mul_left b2 hp, Rat.lt_of_mul_lt_mul_left b1 (Rat.le_of_lt hp)⟩
end
section
variable {N : Nat → Nat → Int} {t S p q p' q' v v' : Int} {g i j l m n k : Nat} {x r : Rat}
theorem z_c1_root (h : q ≠ 0) (hr : (p : Rat) = r * (q : Rat)) (h0 : 0 ≤ r) (h1 : r ≤ (N 10 g : Rat)) : ∃ y, y ∈ z_c1 N g p q ∧ fr y.1 y.2 = r := by
  obtain ⟨b1, b2, -⟩ := z_byq h
  obtain ⟨B, hB⟩ : ∃ B, B = z_by q := ⟨_, rfl⟩
  rw [← hB] at b1
  have c1 : ((B * p : Int) : Rat) = r * ((B * q : Int) : Rat) := by
    rw [Rat.intCast_mul, Rat.intCast_mul, hr]
    grind
  have p1 : (0 : Rat) < ((B * q : Int) : Rat) := Rat.intCast_pos.mpr b1
  refine ⟨(B * p, B * q), z_c1_mem.mpr ⟨by rw [hB], h, ?_, ?_⟩, ?_⟩
  · rw [← hB]
    have : (0 : Rat) ≤ ((B * p : Int) : Rat) := by rw [c1]; exact Rat.mul_nonneg h0 (Rat.le_of_lt p1)
    exact Rat.intCast_nonneg.mp this
  · rw [← hB]
    have : ((B * p : Int) : Rat) ≤ ((B * q * N 10 g : Int) : Rat) := by
      rw [c1, Rat.intCast_mul (B * q) (N 10 g), Rat.mul_comm ((B * q : Int) : Rat)]
      exact Rat.mul_le_mul_of_nonneg_right h1 (Rat.le_of_lt p1)
    exact Rat.intCast_le_intCast.mp this
  · show fr (B * p) (B * q) = r
    unfold fr
    rw [c1]
    exact Rat.mul_div_cancel (Rat.ne_of_gt p1)
theorem z_xs_0 (hw : q_wf N) (hg : g < w_ne N) : (∃ y, y ∈ z_xs N t S g ∧ fr y.1 y.2 = 0) ∧ ∃ y, y ∈ z_xs N t S g ∧ fr y.1 y.2 = (N 10 g : Rat) := by
  have h7 := wf_ed hw hg
  have hl : (0 : Rat) ≤ (N 10 g : Rat) := Rat.intCast_nonneg.mpr (by omega)
  obtain ⟨y, y1, y2⟩ := z_c1_root (N := N) (g := g) (p := 0) (q := 1) (r := 0) (by decide) (by grind) Rat.le_refl hl
  obtain ⟨z, z1, z2⟩ := z_c1_root (N := N) (g := g) (p := N 10 g) (q := 1) (r := (N 10 g : Rat)) (by decide) (by grind) hl Rat.le_refl
  refine ⟨⟨y, ?_, y2⟩, ⟨z, ?_, z2⟩⟩
  · exact List.mem_append_left _ (List.mem_append_left _ (List.mem_append_left _ y1))
  · exact List.mem_append_left _ (List.mem_append_left _ (List.mem_append_right _ z1))
theorem z_xs_s (hw : q_wf N) (hg : g < w_ne N) (hk : k < w_ns N) (h12 : N 12 k = (g : Int)) : (∃ y, y ∈ z_xs N t S g ∧ fr y.1 y.2 = (N 14 k : Rat)) ∧ ∃ y, y ∈ z_xs N t S g ∧ fr y.1 y.2 = (N 16 k : Rat) := by
  obtain ⟨e', e1, e2, e3, e4, e5, e6⟩ := wf_st hw hk
  have hge : e' = g := by omega
  subst hge
  have ecs : z_cs N e' k = z_c1 N e' (N 14 k) 1 ++ z_c1 N e' (N 16 k) 1 := by unfold z_cs; rw [if_pos h12]
  obtain ⟨y, y1, y2⟩ := z_c1_root (N := N) (g := e') (p := N 14 k) (q := 1) (r := (N 14 k : Rat)) (by decide) (by grind) (Rat.intCast_nonneg.mpr e3) (Rat.intCast_le_intCast.mpr (by omega))
  obtain ⟨z, z1, z2⟩ := z_c1_root (N := N) (g := e') (p := N 16 k) (q := 1) (r := (N 16 k : Rat)) (by decide) (by grind) (Rat.intCast_nonneg.mpr (by omega)) (Rat.intCast_le_intCast.mpr e5)
  refine ⟨⟨y, ?_, y2⟩, ⟨z, ?_, z2⟩⟩
  · exact List.mem_append_right _ (q_cat_mem.mpr ⟨k, hk, by rw [ecs]; exact List.mem_append_left _ y1⟩)
  · exact List.mem_append_right _ (q_cat_mem.mpr ⟨k, hk, by rw [ecs]; exact List.mem_append_right _ z1⟩)
theorem z_xs_p (hi : i < w_nn N) (hb : q_bt S i = true) (hr : (w_b N g i : Rat) - (w_o N g i : Rat) = 2 * r) (h0 : 0 ≤ r) (h1 : r ≤ (N 10 g : Rat)) : ∃ y, y ∈ z_xs N t S g ∧ fr y.1 y.2 = r := by
  obtain ⟨y, y1, y2⟩ := z_c1_root (N := N) (g := g) (p := z_pk N g i) (q := 2) (r := r) (by decide) (by unfold z_pk; rw [Rat.intCast_sub, hr]; show 2 * r = r * (2 : Rat); grind) h0 h1
  refine ⟨y, ?_, y2⟩
  refine List.mem_append_left _ (List.mem_append_right _ (q_cat_mem.mpr ⟨i, hi, ?_⟩))
  unfold z_ci
  rw [if_pos hb]
  exact List.mem_append_left _ y1
theorem z_xs_ij (hi : i < w_nn N) (hj : j < i) (hb : q_bt S i = true) (hb2 : q_bt S j = true) (hl : l = 2 * i ∨ l = 2 * i + 1) (hm : m = 2 * j ∨ m = 2 * j + 1) (hs : w_ls N t l ≠ w_ls N t m) (hr : h_l N t g l r = h_l N t g m r) (h0 : 0 ≤ r) (h1 : r ≤ (N 10 g : Rat)) : ∃ y, y ∈ z_xs N t S g ∧ fr y.1 y.2 = r := by
  obtain ⟨y, y1, y2⟩ := z_c1_root (N := N) (g := g) (p := w_lt N t g m - w_lt N t g l) (q := w_ls N t l - w_ls N t m) (r := r) (by omega) (by unfold h_l at hr; rw [Rat.intCast_sub, Rat.intCast_sub]; grind) h0 h1
  refine ⟨y, ?_, y2⟩
  refine List.mem_append_left _ (List.mem_append_right _ (q_cat_mem.mpr ⟨i, hi, ?_⟩))
  unfold z_ci
  refine List.mem_append_right _ (q_cat_mem.mpr ⟨j, hj, ?_⟩)
  rw [if_pos ⟨hb, hb2⟩]
  refine q_cat_mem.mpr ⟨2 * (m % 2) + l % 2, by omega, ?_⟩
  unfold z_c4
  rw [show 2 * j + (2 * (m % 2) + l % 2) / 2 = m by omega, show 2 * i + (2 * (m % 2) + l % 2) % 2 = l by omega]
  exact y1
theorem z_xs_x (hi : i < w_nn N) (hj : j < w_nn N) (hb : q_bt S i = true) (hb2 : q_bt S j = true) (hl : l = 2 * i ∨ l = 2 * i + 1) (hm : m = 2 * j ∨ m = 2 * j + 1) (hs : w_ls N t l ≠ w_ls N t m) (hr : h_l N t g l r = h_l N t g m r) (h0 : 0 ≤ r) (h1 : r ≤ (N 10 g : Rat)) : ∃ y, y ∈ z_xs N t S g ∧ fr y.1 y.2 = r := by
  rcases Nat.lt_trichotomy i j with c | c | c
  · exact z_xs_ij hj c hb2 hb hm hl (fun q => hs q.symm) hr.symm h0 h1
  · subst c
    have key : h_l N t g (2 * i) r = h_l N t g (2 * i + 1) r ∧ w_W N t i ≠ 0 := by
      have s0 : w_ls N t (2 * i) = w_W N t i := by unfold w_ls; rw [if_pos (by omega), show 2 * i / 2 = i by omega]
      have s1 : w_ls N t (2 * i + 1) = -w_W N t i := by unfold w_ls; rw [if_neg (by omega), show (2 * i + 1) / 2 = i by omega]
      rcases hl with rfl | rfl <;> rcases hm with rfl | rfl
      · exact absurd rfl hs
      · exact ⟨hr, by omega⟩
      · exact ⟨hr.symm, by omega⟩
      · exact absurd rfl hs
    have hW : (w_W N t i : Rat) ≠ 0 := fun q => key.2 (Rat.intCast_inj.mp q)
    have e := key.1
    rw [h_l0, h_l1] at e
    have e2 : (w_o N g i : Rat) + r = (w_b N g i : Rat) - r := by
      have h3 : (w_W N t i : Rat) * (((w_o N g i : Rat) + r) - ((w_b N g i : Rat) - r)) = 0 := by grind
      rcases Rat.mul_eq_zero.mp h3 with h4 | h4
      · exact absurd h4 hW
      · grind
    exact z_xs_p hi hb (by grind) h0 h1
  · exact z_xs_ij hi c hb hb2 hl hm hs hr h0 h1
theorem h_Fnn (hw : q_wf N) (hc : w_cn N) (hg : g < w_ne N) (ht : 0 ≤ t) (hi : i < w_nn N) (h0 : 0 ≤ x) (h1 : x ≤ (N 10 g : Rat)) : 0 ≤ h_F N t g i x := by
  have n8 := (wf_n hw).2.2
  have ob := w_ob hw hc hg hi
  have hW := w_Wb hw (i := i) (by omega) ht
  have a1 : (0 : Rat) ≤ (w_o N g i : Rat) := Rat.intCast_nonneg.mpr ob.1
  have a2 : (N 10 g : Rat) ≤ (w_b N g i : Rat) := Rat.intCast_le_intCast.mpr ob.2.2.2.2
  unfold h_F
  refine Rat.mul_nonneg (Rat.intCast_nonneg.mpr hW.1) ?_
  unfold h_r
  split <;> grind
theorem h_dom (hw : q_wf N) (hc : w_cn N) (hg : g < w_ne N) (ht : 0 ≤ t) (h0 : 0 ≤ x) (h1 : x ≤ (N 10 g : Rat)) (ha : h_al N g x) : ∃ y, y ∈ z_xs N t S g ∧ h_al N g (fr y.1 y.2) ∧ (h_H N t S g (fr y.1 y.2) (w_nn N) < h_H N t S g x (w_nn N) ∨ h_H N t S g (fr y.1 y.2) (w_nn N) ≤ h_H N t S g x (w_nn N) ∧ fr y.1 y.2 ≤ x) := by
  have n0 := wf_n hw
  obtain ⟨⟨y0, a0, b0⟩, ⟨y1, a1, b1⟩⟩ := z_xs_0 (t := t) (S := S) hw hg
  by_cases hx : ∃ y, y ∈ z_xs N t S g ∧ fr y.1 y.2 = x
  · obtain ⟨y, h2, h3⟩ := hx
    exact ⟨y, h2, by rw [h3]; exact ha, Or.inr ⟨by rw [h3]; exact Rat.le_refl, by rw [h3]; exact Rat.le_refl⟩⟩
  · have hx' : ∀ y, y ∈ z_xs N t S g → fr y.1 y.2 ≠ x := fun y hy q => hx ⟨y, hy, q⟩
    have c0 := hx' y0 a0
    have c1 := hx' y1 a1
    rw [b0] at c0
    rw [b1] at c1
    obtain ⟨a, am, al, ab⟩ := l_max (fun y : Int × Int => fr y.1 y.2) x (z_xs N t S g) ⟨y0, a0, by show fr y0.1 y0.2 < x; rw [b0]; exact Rat.lt_of_le_of_ne h0 c0⟩
    obtain ⟨c, cm, cl, cb⟩ := l_min (fun y : Int × Int => fr y.1 y.2) x (z_xs N t S g) ⟨y1, a1, by show x < fr y1.1 y1.2; rw [b1]; exact Rat.lt_of_le_of_ne h1 (fun q => c1 q.symm)⟩
    have al : fr a.1 a.2 < x := al
    have cl : x < fr c.1 c.2 := cl
    have ab : ∀ y, y ∈ z_xs N t S g → fr y.1 y.2 < x → fr y.1 y.2 ≤ fr a.1 a.2 := ab
    have cb : ∀ y, y ∈ z_xs N t S g → x < fr y.1 y.2 → fr c.1 c.2 ≤ fr y.1 y.2 := cb
    have a00 : 0 ≤ fr a.1 a.2 := by
      have := ab y0 a0 (by rw [b0]; exact Rat.lt_of_le_of_ne h0 c0)
      rw [b0] at this
      exact this
    have c01 : fr c.1 c.2 ≤ (N 10 g : Rat) := by
      have := cb y1 a1 (by rw [b1]; exact Rat.lt_of_le_of_ne h1 (fun q => c1 q.symm))
      rw [b1] at this
      exact this
    obtain ⟨A, eA⟩ : ∃ A, A = fr a.1 a.2 := ⟨_, rfl⟩
    rw [← eA] at al ab a00
    obtain ⟨C, eC⟩ : ∃ C, C = fr c.1 c.2 := ⟨_, rfl⟩
    rw [← eC] at cl cb c01
    have noroot : ∀ r, (∃ y, y ∈ z_xs N t S g ∧ fr y.1 y.2 = r) → ¬ (A < r ∧ r ≤ x) ∧ ¬ (x ≤ r ∧ r < C) := by
      rintro r ⟨y, hy, rfl⟩
      have := hx' y hy
      constructor
      · rintro ⟨q1, q2⟩
        have := ab y hy (Rat.lt_of_le_of_ne q2 this)
        grind
      · rintro ⟨q1, q2⟩
        have := cb y hy (Rat.lt_of_le_of_ne q1 (fun q => this q.symm))
        grind
    have hA : h_al N g A := by
      rintro k hk ⟨k1, k2, k3⟩
      have h16 := (noroot _ (z_xs_s (t := t) (S := S) hw hg hk k1).2).1
      have := ha k hk
      refine this ⟨k1, r_tr k2 al, ?_⟩
      rw [← Rat.not_le]
      exact fun q => h16 ⟨k3, q⟩
    have hC : h_al N g C := by
      rintro k hk ⟨k1, k2, k3⟩
      have h14 := (noroot _ (z_xs_s (t := t) (S := S) hw hg hk k1).1).2
      have := ha k hk
      refine this ⟨k1, ?_, r_tr cl k3⟩
      rw [← Rat.not_le]
      exact fun q => h14 ⟨q, k2⟩
    by_cases hS : ∃ i, i < w_nn N ∧ q_bt S i = true
    · -- the highest node at x
      obtain ⟨i, i1, i2, i3⟩ : ∃ i, i < w_nn N ∧ q_bt S i = true ∧ h_F N t g i x = h_H N t S g x (w_nn N) := by
        rcases h_H_at (N := N) (t := t) (S := S) (g := g) (x := x) (n := w_nn N) with hz | hz
        · obtain ⟨j, j1, j2⟩ := hS
          refine ⟨j, j1, j2, ?_⟩
          have p1 := h_H_ge (N := N) (t := t) (S := S) (g := g) (x := x) j j1 j2
          have p2 := h_Fnn hw hc hg ht j1 h0 h1
          rw [hz] at p1 ⊢
          exact Rat.le_antisymm p1 p2
        · exact hz
      have Wi := (w_Wb hw (i := i) (by omega) ht).1
      obtain ⟨l, l1, l2⟩ : ∃ l, (l = 2 * i ∨ l = 2 * i + 1) ∧ h_F N t g i x = h_l N t g l x := by
        rcases (h_Fl (N := N) (g := g) (x := x) Wi).2.2 with e | e
        · exact ⟨_, Or.inl rfl, e⟩
        · exact ⟨_, Or.inr rfl, e⟩
      have low : ∀ z, h_F N t g i z ≤ h_l N t g l z := by
        intro z
        obtain ⟨e1, e2, -⟩ := h_Fl (N := N) (g := g) (x := z) Wi
        rcases l1 with rfl | rfl
        · exact e1
        · exact e2
      -- no other node is above that line at A or C
      have under : ∀ z j, (z = A ∨ z = C) → j < w_nn N → q_bt S j = true → h_F N t g j z ≤ h_l N t g l z := by
        intro z j hz hj hbj
        rw [← Rat.not_lt]
        intro hlt
        have Wj := (w_Wb hw (i := j) (by omega) ht).1
        obtain ⟨m, m1, m2⟩ : ∃ m, (m = 2 * j ∨ m = 2 * j + 1) ∧ h_F N t g j x = h_l N t g m x := by
          rcases (h_Fl (N := N) (g := g) (x := x) Wj).2.2 with e | e
          · exact ⟨_, Or.inl rfl, e⟩
          · exact ⟨_, Or.inr rfl, e⟩
        have mz : h_F N t g j z ≤ h_l N t g m z := by
          obtain ⟨e1, e2, -⟩ := h_Fl (N := N) (g := g) (x := z) Wj
          rcases m1 with rfl | rfl
          · exact e1
          · exact e2
        have q1 : h_l N t g l z < h_l N t g m z := by grind
        have q2 : h_l N t g m x ≤ h_l N t g l x := by
          rw [← l2, ← m2, i3]
          exact h_H_ge j hj hbj
        obtain ⟨r1, r, r2, r3, r4⟩ := h_root (l0 := (w_lt N t g l : Rat)) (ls := (w_ls N t l : Rat)) (m0 := (w_lt N t g m : Rat)) (ms := (w_ls N t m : Rat)) (u := z) (v := x) q1 q2
        have r1' : w_ls N t l ≠ w_ls N t m := fun q => r1 (by rw [q])
        rcases hz with rfl | rfl
        · obtain ⟨s1, s2⟩ := r3 al
          exact (noroot r (z_xs_x i1 hj i2 hbj l1 m1 r1' r2 (by grind) (by grind))).1 ⟨s1, s2⟩
        · obtain ⟨s1, s2⟩ := r4 cl
          exact (noroot r (z_xs_x i1 hj i2 hbj l1 m1 r1' r2 (by grind) (by grind))).2 ⟨s1, s2⟩
      have top : ∀ z, (z = A ∨ z = C) → 0 ≤ z → z ≤ (N 10 g : Rat) → h_H N t S g z (w_nn N) ≤ h_l N t g l z := by
        intro z hz z0 z1
        rcases h_H_at (N := N) (t := t) (S := S) (g := g) (x := z) (n := w_nn N) with hh | ⟨j, j1, j2, j3⟩
        · rw [hh]
          exact Rat.le_trans (h_Fnn hw hc hg ht i1 z0 z1) (low z)
        · rw [← j3]
          exact under z j hz j1 j2
      have tA := top A (Or.inl rfl) a00 (by grind)
      have tC := top C (Or.inr rfl) (by grind) c01
      have ex : h_H N t S g x (w_nn N) = h_l N t g l x := by rw [← i3, l2]
      by_cases hs : 0 ≤ w_ls N t l
      · have hs' : (0 : Rat) ≤ (w_ls N t l : Rat) := Rat.intCast_nonneg.mpr hs
        have hm := Rat.mul_le_mul_of_nonneg_left (Rat.le_of_lt al) hs'
        refine ⟨a, am, by rw [← eA]; exact hA, Or.inr ⟨?_, by rw [← eA]; exact Rat.le_of_lt al⟩⟩
        rw [← eA]
        refine Rat.le_trans tA ?_
        rw [ex]
        unfold h_l
        exact Rat.add_le_add_left.mpr hm
      · have hs' : (0 : Rat) < ((-w_ls N t l : Int) : Rat) := Rat.intCast_pos.mpr (by omega)
        have hm := Rat.mul_lt_mul_of_pos_left cl hs'
        rw [Rat.intCast_neg] at hm
        refine ⟨c, cm, by rw [← eC]; exact hC, Or.inl ?_⟩
        rw [← eC]
        have h2 : h_l N t g l C < h_l N t g l x := by unfold h_l; grind
        rw [ex]
        grind
    · have hz : ∀ z, h_H N t S g z (w_nn N) = 0 := by
        intro z
        rcases h_H_at (N := N) (t := t) (S := S) (g := g) (x := z) (n := w_nn N) with hh | ⟨j, j1, j2, -⟩
        · exact hh
        · exact absurd ⟨j, j1, j2⟩ hS
      exact ⟨a, am, by rw [← eA]; exact hA, Or.inr ⟨by rw [hz, hz]; exact Rat.le_refl, by rw [← eA]; exact Rat.le_of_lt al⟩⟩
end
section
def h_v (N : Nat → Nat → Int) (g : Nat) (x : Rat) : Prop := g < w_ne N ∧ 0 ≤ x ∧ x ≤ (N 10 g : Rat) ∧ h_al N g x
def h_opt (N : Nat → Nat → Int) (f : Nat → Rat → Rat) (g : Nat) (x : Rat) : Prop := h_v N g x ∧ ∀ g' x', h_v N g' x' → ¬ w_lx (f g' x') g' x' (f g x) g x
def h_fH (N : Nat → Nat → Int) (t S : Int) (g : Nat) (x : Rat) : Rat := h_H N t S g x (w_nn N)
def h_fC (N : Nat → Nat → Int) (t : Int) (g : Nat) (x : Rat) : Rat := h_C N t g x (w_nn N)
theorem w_lx_le {h h' h2 t t' t2 : Rat} {g g' g2 : Nat} (a : ¬ w_lx h g t h' g' t') (b : w_lx h g t h2 g2 t2) : w_lx h' g' t' h2 g2 t2 := by
  unfold w_lx at *
  grind
theorem w_lx_g {h h' t t' : Rat} {g : Nat} : ¬ w_lx h g t h' g t' ↔ h' ≤ h ∧ (h = h' → t' ≤ t) := by
  unfold w_lx
  grind
end
section
variable {N : Nat → Nat → Int} {t S p q p' q' v v' : Int} {g g' i j l m n k : Nat} {x x' r : Rat} {f : Nat → Rat → Rat} {V : wP → Int} {L : List wP} {b : wP}
theorem h_optU (h : h_opt N f g x) (h' : h_opt N f g' x') : f g x = f g' x' ∧ g = g' ∧ x = x' := w_lx_tot (h'.2 _ _ h.1) (h.2 _ _ h'.1)
theorem h_opt_of (hf : ∀ y, y ∈ L → fr (V y) y.2.2 = f y.1 (fr y.2.1 y.2.2)) (hv : ∀ y, y ∈ L → h_v N y.1 (fr y.2.1 y.2.2)) (hd : ∀ g x, h_v N g x → ∃ y, y ∈ L ∧ ¬ w_lx (f g x) g x (f y.1 (fr y.2.1 y.2.2)) y.1 (fr y.2.1 y.2.2)) (hb : w_best V L b) : h_opt N f b.1 (fr b.2.1 b.2.2) := by
  refine ⟨hv b hb.1, fun g' x' h' hlx => ?_⟩
  obtain ⟨y, y1, y2⟩ := hd g' x' h'
  refine hb.2 y y1 ?_
  unfold w_pl
  rw [hf y y1, hf b hb.1]
  exact w_lx_le y2 hlx
theorem best_ex (V : wP → Int) : ∀ L : List wP, L ≠ [] → ∃ b, w_best V L b
  | [], h => absurd rfl h
  | [a], _ => ⟨a, List.mem_singleton.mpr rfl, fun y hy => by rw [List.mem_singleton.mp hy]; exact w_lx_irr⟩
  | a :: c :: L, _ => by
    obtain ⟨b, b1, b2⟩ := best_ex V (c :: L) (by simp)
    by_cases h : w_pl V a b
    · refine ⟨a, List.mem_cons_self .., fun y hy => ?_⟩
      rcases List.mem_cons.mp hy with rfl | hy
      · exact w_lx_irr
      · exact fun q => b2 y hy (w_lx_tr q h)
    · refine ⟨b, List.mem_cons_of_mem _ b1, fun y hy => ?_⟩
      rcases List.mem_cons.mp hy with rfl | hy
      · exact h
      · exact b2 y hy
theorem fr_nn (hq : 0 < q) (hp : 0 ≤ p) : 0 ≤ fr p q := by
  rw [← Rat.not_lt]
  intro h
  have h' : fr p q < ((0 : Int) : Rat) := h
  rw [fr_ltr hq, Int.zero_mul] at h'
  omega
theorem fr_pos (hq : 0 < q) (hp : 0 < p) : 0 < fr p q := by
  have h' : ((0 : Int) : Rat) < fr p q := by rw [fr_ltl hq, Int.zero_mul]; exact hp
  exact h'
theorem h_vq (hg : g < w_ne N) (hp : w_pq N t g p q) (ha : w_al N g p q = true) : h_v N g (fr p q) := by
  obtain ⟨h1, h2, h3, h4, h5, h6⟩ := hp
  have hq : 0 < q := by omega
  refine ⟨hg, fr_nn hq h5, ?_, (h_alfr hq).mp ha⟩
  rw [← Rat.not_lt, fr_ltl hq]
  omega
theorem h_fHq (hq : 0 < b.2.2) : fr (w_Hv N t S b) b.2.2 = h_fH N t S b.1 (fr b.2.1 b.2.2) := h_Hfr hq _
theorem h_fCq (hq : 0 < b.2.2) : fr (w_Cv N t b) b.2.2 = h_fC N t b.1 (fr b.2.1 b.2.2) := h_Cfr hq _
theorem z_ps_v (hw : q_wf N) (hc : w_cn N) (ht : 0 ≤ t) (ht2 : t ≤ 10) {y : wP} (hy : y ∈ z_ps N t S) : h_v N y.1 (fr y.2.1 y.2.2) ∧ 0 < y.2.2 := by
  obtain ⟨h1, h2, h3⟩ := z_ps_mem.mp hy
  have hp := z_xs_ok hw hc h1 ht ht2 h2
  exact ⟨h_vq h1 hp h3, by have := hp.1; omega⟩
theorem w_pts_v (hw : q_wf N) (hc : w_cn N) (ht : 0 ≤ t) (ht2 : t ≤ 10) {y : wP} (hy : y ∈ w_pts N t) : h_v N y.1 (fr y.2.1 y.2.2) ∧ 0 < y.2.2 := by
  obtain ⟨h1, h2, h3, -⟩ := w_pts_ok hw hc ht ht2 hy
  exact ⟨h_vq h1 h2 h3, by have := h2.1; omega⟩
theorem z_ps_in (hw : q_wf N) (hc : w_cn N) (ht : 0 ≤ t) (ht2 : t ≤ 10) (hg : g < w_ne N) {y : Int × Int} (hy : y ∈ z_xs N t S g) (ha : h_al N g (fr y.1 y.2)) : (g, y.1, y.2) ∈ z_ps N t S ∧ (g, y.1, y.2) ∈ z_pe N t S g := by
  have hp := z_xs_ok hw hc hg ht ht2 hy
  have hal := (h_alfr (N := N) (g := g) (p := y.1) (q := y.2) (by have := hp.1; omega)).mpr ha
  exact ⟨z_ps_mem.mpr ⟨hg, hy, hal⟩, z_pe_mem.mpr ⟨rfl, hy, hal⟩⟩
theorem mo_domH (hw : q_wf N) (hc : w_cn N) (ht : 0 ≤ t) (ht2 : t ≤ 10) (hx : h_v N g x) : ∃ y, y ∈ z_pe N t S g ∧ y ∈ z_ps N t S ∧ ¬ w_lx (h_fH N t S g x) g x (h_fH N t S y.1 (fr y.2.1 y.2.2)) y.1 (fr y.2.1 y.2.2) := by
  obtain ⟨h1, h2, h3, h4⟩ := hx
  obtain ⟨y, y1, y2, y3⟩ := h_dom (S := S) hw hc h1 ht h2 h3 h4
  have hi := z_ps_in hw hc ht ht2 h1 y1 y2
  refine ⟨(g, y.1, y.2), hi.2, hi.1, w_lx_g.mpr ?_⟩
  show h_H N t S g (fr y.1 y.2) (w_nn N) ≤ h_H N t S g x (w_nn N) ∧ (h_H N t S g x (w_nn N) = h_H N t S g (fr y.1 y.2) (w_nn N) → fr y.1 y.2 ≤ x)
  grind
theorem h_eps : ∀ (n : Nat) (c : Nat → Rat), (∀ i, i < n → 0 < c i) → ∃ e : Rat, 0 < e ∧ ∀ i, i < n → e ≤ c i
  | 0, _, _ => ⟨1, by decide, fun i hi => absurd hi (by omega)⟩
  | n + 1, c, h => by
    obtain ⟨e, e1, e2⟩ := h_eps n c (fun i hi => h i (by omega))
    have hn := h n (by omega)
    by_cases d : e ≤ c n
    · refine ⟨e, e1, fun i hi => ?_⟩
      rcases Nat.lt_succ_iff_lt_or_eq.mp hi with q | q
      · exact e2 i q
      · rw [q]; exact d
    · have d' : c n < e := Rat.not_le.mp d
      refine ⟨c n, hn, fun i hi => ?_⟩
      rcases Nat.lt_succ_iff_lt_or_eq.mp hi with q | q
      · exact Rat.le_trans (Rat.le_of_lt d') (e2 i q)
      · rw [q]; exact Rat.le_refl
theorem h_r_step {e : Rat} (he : 0 < e) : h_r N g i (x - e) ≤ h_r N g i x + e ∧ h_r N g i (x + e) ≤ h_r N g i x + e ∧ (¬ ((w_b N g i : Rat) - x < (w_o N g i : Rat) + x) → h_r N g i (x - e) ≤ h_r N g i x) ∧ (¬ ((w_o N g i : Rat) + x < (w_b N g i : Rat) - x) → h_r N g i (x + e) + e ≤ h_r N g i x) := by
  unfold h_r
  refine ⟨?_, ?_, ?_, ?_⟩
  · split <;> split <;> grind
  · split <;> split <;> grind
  · intro h
    rw [if_neg h]
    split <;> grind
  · intro h
    repeat' split
    all_goals grind
theorem h_H_nn : ∀ n, 0 ≤ h_H N t S g x n
  | 0 => Rat.le_refl
  | n + 1 => by
    have ih := h_H_nn n
    show 0 ≤ if q_bt S n = true ∧ h_H N t S g x n < h_F N t g n x then h_F N t g n x else h_H N t S g x n
    split
    · next h => exact Rat.le_trans ih (Rat.le_of_lt h.2)
    · exact ih
end
section
variable {N : Nat → Nat → Int} {t S p q p' q' v v' : Int} {g g' i j l m n k : Nat} {x x' r : Rat} {f : Nat → Rat → Rat} {V : wP → Int} {L : List wP} {b : wP}
theorem w_pts_0 (hg : g < w_ne N) (hq : w_al N g 0 1 = true) : (g, 0, 1) ∈ w_pts N t := by
  refine List.mem_append_left _ (q_cat_mem.mpr ⟨g, hg, ?_⟩)
  exact List.mem_append_left _ (List.mem_append_left _ (w_ap_mem.mpr ⟨rfl, hq⟩))
theorem w_pts_l (hg : g < w_ne N) (hq : w_al N g (N 10 g) 1 = true) : (g, N 10 g, 1) ∈ w_pts N t := by
  refine List.mem_append_left _ (q_cat_mem.mpr ⟨g, hg, ?_⟩)
  exact List.mem_append_left _ (List.mem_append_right _ (w_ap_mem.mpr ⟨rfl, hq⟩))
theorem w_pts_s (hk : k < w_ns N) (h12 : N 12 k = (g : Int)) : (w_al N g (N 14 k) 1 = true → (g, N 14 k, 1) ∈ w_pts N t) ∧ (w_al N g (N 16 k) 1 = true → (g, N 16 k, 1) ∈ w_pts N t) := by
  have hg : (N 12 k).toNat = g := by omega
  constructor
  · intro hq
    refine List.mem_append_right _ (q_cat_mem.mpr ⟨k, hk, ?_⟩)
    unfold w_ps
    rw [hg]
    exact List.mem_append_left _ (w_ap_mem.mpr ⟨rfl, hq⟩)
  · intro hq
    refine List.mem_append_right _ (q_cat_mem.mpr ⟨k, hk, ?_⟩)
    unfold w_ps
    rw [hg]
    exact List.mem_append_right _ (w_ap_mem.mpr ⟨rfl, hq⟩)
theorem h_al1 {a : Int} : w_al N g a 1 = true ↔ h_al N g (a : Rat) := by
  rw [h_alfr (by decide), fr_1]
theorem h_meet (hw : q_wf N) (hi : i < w_nn N) (hj : j < w_nn N) (hg : g < w_ne N) (hx0 : 0 < x) (hx1 : x < (N 10 g : Rat)) (ha : h_al N g x) (Wi : 0 < w_W N t i) (Wj : 0 < w_W N t j) (he : (w_W N t j : Rat) * ((w_o N g j : Rat) + x) = (w_W N t i : Rat) * ((w_b N g i : Rat) - x)) (hr : (w_o N g j : Rat) + x < (w_b N g j : Rat) - x) (hf : (w_b N g i : Rat) - x < (w_o N g i : Rat) + x) : ∃ y, y ∈ w_pts N t ∧ y.1 = g ∧ fr y.2.1 y.2.2 = x := by
  have hB : 0 < w_xB N t j i := by unfold w_xB; omega
  have hBr : (0 : Rat) < (w_xB N t j i : Rat) := Rat.intCast_pos.mpr hB
  have eB : (w_xB N t j i : Rat) = (w_W N t j : Rat) + (w_W N t i : Rat) := by unfold w_xB; rw [Rat.intCast_add]
  have eT : (w_xT N t g j i : Rat) = x * (w_xB N t j i : Rat) := by
    unfold w_xT
    rw [Rat.intCast_sub, Rat.intCast_mul, Rat.intCast_mul, eB]
    grind
  have efr : fr (w_xT N t g j i) (w_xB N t j i) = x := by
    unfold fr
    rw [eT]
    exact Rat.mul_div_cancel (Rat.ne_of_gt hBr)
  have c3 : 0 < w_xT N t g j i := by
    have : (0 : Rat) < (w_xT N t g j i : Rat) := by rw [eT]; exact Rat.mul_pos hx0 hBr
    exact Rat.intCast_pos.mp this
  have c4 : w_xT N t g j i < N 10 g * w_xB N t j i := by
    have : (w_xT N t g j i : Rat) < ((N 10 g * w_xB N t j i : Int) : Rat) := by
      rw [eT, Rat.intCast_mul]
      exact Rat.mul_lt_mul_of_pos_right hx1 hBr
    exact Rat.intCast_lt_intCast.mp this
  have eld : ∀ k, (w_ld N t g j i k : Rat) = ((w_b N g k : Rat) - (w_o N g k : Rat) - 2 * x) * (w_xB N t j i : Rat) := by
    intro k
    unfold w_ld
    rw [Rat.intCast_sub, Rat.intCast_mul, Rat.intCast_mul, Rat.intCast_sub, eT]
    show ((w_b N g k : Rat) - (w_o N g k : Rat)) * (w_xB N t j i : Rat) - (2 : Rat) * (x * (w_xB N t j i : Rat)) = _
    grind
  have c5 : 0 < w_ld N t g j i j := by
    have : (0 : Rat) < (w_ld N t g j i j : Rat) := by rw [eld]; exact Rat.mul_pos (by grind) hBr
    exact Rat.intCast_pos.mp this
  have c6 : w_ld N t g j i i < 0 := by
    have : (w_ld N t g j i i : Rat) < ((0 : Int) : Rat) := by
      rw [eld]
      have := (Rat.mul_neg_iff_of_pos_right (a := (w_b N g i : Rat) - (w_o N g i : Rat) - 2 * x) hBr).mpr (by grind)
      exact this
    exact Rat.intCast_lt_intCast.mp this
  have hac : w_ac N t g j i = true := decide_eq_true ⟨Wj, Wi, c3, c4, c5, c6⟩
  have hal : w_al N g (w_xT N t g j i) (w_xB N t j i) = true := by rw [h_alfr hB, efr]; exact ha
  refine ⟨(g, w_xT N t g j i, w_xB N t j i), ?_, rfl, efr⟩
  refine List.mem_append_left _ (q_cat_mem.mpr ⟨g, hg, ?_⟩)
  refine List.mem_append_right _ (q_cat_mem.mpr ⟨j, hj, q_cat_mem.mpr ⟨i, hi, ?_⟩⟩)
  unfold w_xl
  rw [if_pos hac]
  exact w_ap_mem.mpr ⟨rfl, hal⟩
theorem h_cls (hw : q_wf N) (hc : w_cn N) (ht : 0 ≤ t) (ht2 : t ≤ 10) (hv : h_v N g x) (hE : ∀ z, h_v N g z → ¬ w_lx (h_fH N t S g z) g z (h_fH N t S g x) g x) : ∃ y, y ∈ w_pts N t ∧ y.1 = g ∧ fr y.2.1 y.2.2 = x := by
  obtain ⟨hg, hx0, hx1, hal⟩ := id hv
  have n8 := (wf_n hw).2.2
  by_cases e0 : x = 0
  · refine ⟨(g, 0, 1), w_pts_0 hg (h_al1.mpr ?_), rfl, ?_⟩
    · rw [e0] at hal; exact hal
    · show fr 0 1 = x; rw [fr_0, e0]
  by_cases e1 : x = (N 10 g : Rat)
  · refine ⟨(g, N 10 g, 1), w_pts_l hg (h_al1.mpr ?_), rfl, ?_⟩
    · rw [e1] at hal; exact hal
    · show fr (N 10 g) 1 = x; rw [fr_1, e1]
  by_cases es : ∃ k, k < w_ns N ∧ N 12 k = (g : Int) ∧ (x = (N 14 k : Rat) ∨ x = (N 16 k : Rat))
  · obtain ⟨k, k1, k2, k3⟩ := es
    obtain ⟨s1, s2⟩ := w_pts_s (t := t) k1 k2
    rcases k3 with e | e
    · refine ⟨(g, N 14 k, 1), s1 (h_al1.mpr ?_), rfl, ?_⟩
      · rw [e] at hal; exact hal
      · show fr (N 14 k) 1 = x; rw [fr_1, e]
    · refine ⟨(g, N 16 k, 1), s2 (h_al1.mpr ?_), rfl, ?_⟩
      · rw [e] at hal; exact hal
      · show fr (N 16 k) 1 = x; rw [fr_1, e]
  have x0 : 0 < x := Rat.lt_of_le_of_ne hx0 (fun q => e0 q.symm)
  have x1 : x < (N 10 g : Rat) := Rat.lt_of_le_of_ne hx1 e1
  obtain ⟨H, hH⟩ : ∃ H, H = h_H N t S g x (w_nn N) := ⟨_, rfl⟩
  -- a small step
  obtain ⟨a, a1, a2⟩ := h_eps (w_ns N) (fun k => if N 12 k = (g : Int) then (if x < (N 14 k : Rat) then (N 14 k : Rat) - x else x - (N 16 k : Rat)) else 1) (by
    intro k hk
    try dsimp only
    split
    · next h12 =>
      have h1 := hal k hk
      have h2 : x ≠ (N 14 k : Rat) := fun q => es ⟨k, hk, h12, Or.inl q⟩
      have h3 : x ≠ (N 16 k : Rat) := fun q => es ⟨k, hk, h12, Or.inr q⟩
      split
      · grind
      · grind
    · decide)
  obtain ⟨b, b1, b2⟩ := h_eps (w_nn N) (fun i => if h_F N t g i x < H then (H - h_F N t g i x) * (1 / 100) else 1) (by
    intro i hi
    try dsimp only
    split
    · next h => grind
    · decide)
  obtain ⟨e, p0, p1⟩ := h_eps 4 (fun i => if i = 0 then x else if i = 1 then (N 10 g : Rat) - x else if i = 2 then a else b) (by
    intro i hi
    try dsimp only
    split
    · exact x0
    · split
      · grind
      · split
        · exact a1
        · exact b1)
  have q0 : e ≤ x := p1 0 (by omega)
  have q1 : e ≤ (N 10 g : Rat) - x := p1 1 (by omega)
  have q2 : e ≤ a := p1 2 (by omega)
  have q3 : e ≤ b := p1 3 (by omega)
  have st : ∀ k, k < w_ns N → N 12 k = (g : Int) → (x < (N 14 k : Rat) ∧ e ≤ (N 14 k : Rat) - x) ∨ e ≤ x - (N 16 k : Rat) := by
    intro k hk h12
    have h := a2 k hk
    try dsimp only at h
    rw [if_pos h12] at h
    split at h
    · next h' => exact Or.inl ⟨h', Rat.le_trans q2 h⟩
    · exact Or.inr (Rat.le_trans q2 h)
  have far : ∀ i, i < w_nn N → h_F N t g i x < H → e * 100 ≤ H - h_F N t g i x := by
    intro i hi h
    have h2 := b2 i hi
    try dsimp only at h2
    rw [if_pos h] at h2
    grind
  have vl : h_v N g (x - e) := by
    refine ⟨hg, by grind, by grind, fun k hk ⟨k1, k2, k3⟩ => ?_⟩
    rcases st k hk k1 with ⟨s1, s2⟩ | s1
    · grind
    · grind
  have vr : h_v N g (x + e) := by
    refine ⟨hg, by grind, by grind, fun k hk ⟨k1, k2, k3⟩ => ?_⟩
    rcases st k hk k1 with ⟨s1, s2⟩ | s1
    · grind
    · grind
  have El := w_lx_g.mp (hE _ vl)
  have Er := w_lx_g.mp (hE _ vr)
  have hHf : h_fH N t S g x = H := hH.symm
  rw [hHf] at El Er
  have El1 : H < h_H N t S g (x - e) (w_nn N) := by
    refine Rat.lt_of_le_of_ne El.1 (fun q => ?_)
    have := El.2 q.symm
    grind
  have Er1 : H ≤ h_H N t S g (x + e) (w_nn N) := Er.1
  have H0 : 0 ≤ H := by rw [hH]; exact h_H_nn _
  have W99 : ∀ i, i < w_nn N → (0 : Rat) ≤ (w_W N t i : Rat) ∧ (w_W N t i : Rat) * e ≤ 99 * e := by
    intro i hi
    have h := w_Wb hw (i := i) (by omega) ht
    refine ⟨Rat.intCast_nonneg.mpr h.1, ?_⟩
    exact Rat.mul_le_mul_of_nonneg_right (show (w_W N t i : Rat) ≤ ((99 : Int) : Rat) from Rat.intCast_le_intCast.mpr (by omega)) (Rat.le_of_lt p0)
  have Hge : ∀ i, i < w_nn N → q_bt S i = true → h_F N t g i x ≤ H := fun i hi hb => by rw [hH]; exact h_H_ge i hi hb
  -- the falling one
  obtain ⟨i, i1, i2, i3⟩ : ∃ i, i < w_nn N ∧ q_bt S i = true ∧ H < h_F N t g i (x - e) := by
    rcases h_H_at (N := N) (t := t) (S := S) (g := g) (x := x - e) (n := w_nn N) with h | ⟨i, h1, h2, h3⟩
    · rw [h] at El1; grind
    · exact ⟨i, h1, h2, by rw [h3]; exact El1⟩
  obtain ⟨si1, si2, si3, si4⟩ := h_r_step (N := N) (g := g) (i := i) (x := x) p0
  have wi := W99 i i1
  have fi1 : h_F N t g i (x - e) ≤ h_F N t g i x + 99 * e := by
    have := Rat.mul_le_mul_of_nonneg_left si1 wi.1
    rw [Rat.mul_add] at this
    unfold h_F
    grind
  have fiH : h_F N t g i x = H := by
    refine Rat.le_antisymm (Hge i i1 i2) (Rat.not_lt.mp (fun q => ?_))
    have := far i i1 q
    grind
  have fif : (w_b N g i : Rat) - x < (w_o N g i : Rat) + x := by
    refine Classical.byContradiction (fun q => ?_)
    have := Rat.mul_le_mul_of_nonneg_left (si3 q) wi.1
    have h4 : h_F N t g i (x - e) ≤ h_F N t g i x := this
    grind
  have Wi0 : 0 < w_W N t i := by
    have h := w_Wb hw (i := i) (by omega) ht
    rcases Int.lt_or_eq_of_le h.1 with q | q
    · exact q
    · exfalso
      unfold h_F at i3
      rw [← q] at i3
      have : ((0 : Int) : Rat) * h_r N g i (x - e) = 0 := Rat.zero_mul _
      grind
  have eFi : h_F N t g i x = (w_W N t i : Rat) * ((w_b N g i : Rat) - x) := by
    unfold h_F h_r
    rw [if_pos fif]
  have obi := w_ob hw hc hg i1
  have Hp : 0 < H := by
    rw [← fiH, eFi]
    refine Rat.mul_pos (Rat.intCast_pos.mpr Wi0) ?_
    have : (N 10 g : Rat) ≤ (w_b N g i : Rat) := Rat.intCast_le_intCast.mpr obi.2.2.2.2
    grind
  -- the rising one
  obtain ⟨j, j1, j2, j3⟩ : ∃ j, j < w_nn N ∧ q_bt S j = true ∧ H ≤ h_F N t g j (x + e) := by
    rcases h_H_at (N := N) (t := t) (S := S) (g := g) (x := x + e) (n := w_nn N) with h | ⟨i, h1, h2, h3⟩
    · rw [h] at Er1; grind
    · exact ⟨i, h1, h2, by rw [h3]; exact Er1⟩
  obtain ⟨sj1, sj2, sj3, sj4⟩ := h_r_step (N := N) (g := g) (i := j) (x := x) p0
  have wj := W99 j j1
  have fj1 : h_F N t g j (x + e) ≤ h_F N t g j x + 99 * e := by
    have := Rat.mul_le_mul_of_nonneg_left sj2 wj.1
    rw [Rat.mul_add] at this
    unfold h_F
    grind
  have fjH : h_F N t g j x = H := by
    refine Rat.le_antisymm (Hge j j1 j2) (Rat.not_lt.mp (fun q => ?_))
    have := far j j1 q
    grind
  have Wj0 : 0 < w_W N t j := by
    have h := w_Wb hw (i := j) (by omega) ht
    rcases Int.lt_or_eq_of_le h.1 with q | q
    · exact q
    · exfalso
      unfold h_F at fjH
      rw [← q] at fjH
      have : ((0 : Int) : Rat) * h_r N g j x = 0 := Rat.zero_mul _
      grind
  have fjr : (w_o N g j : Rat) + x < (w_b N g j : Rat) - x := by
    refine Classical.byContradiction (fun q => ?_)
    have h1 := Rat.mul_le_mul_of_nonneg_left (sj4 q) wj.1
    rw [Rat.mul_add] at h1
    have h2 : h_F N t g j (x + e) + (w_W N t j : Rat) * e ≤ h_F N t g j x := h1
    have h3 : 0 < (w_W N t j : Rat) * e := Rat.mul_pos (Rat.intCast_pos.mpr Wj0) p0
    grind
  have eFj : h_F N t g j x = (w_W N t j : Rat) * ((w_o N g j : Rat) + x) := by
    unfold h_F h_r
    rw [if_neg (by grind)]
  exact h_meet hw i1 j1 hg x0 x1 hal Wi0 Wj0 (by rw [← eFi, ← eFj, fiH, fjH]) fjr fif
theorem cl_domH (hw : q_wf N) (hc : w_cn N) (ht : 0 ≤ t) (ht2 : t ≤ 10) (hx : h_v N g x) : ∃ y, y ∈ w_pts N t ∧ ¬ w_lx (h_fH N t S g x) g x (h_fH N t S y.1 (fr y.2.1 y.2.2)) y.1 (fr y.2.1 y.2.2) := by
  obtain ⟨y0, y1, -, -⟩ := mo_domH (S := S) hw hc ht ht2 hx
  obtain ⟨b, b1, b2⟩ := best_ex (w_Hv N t S) (z_pe N t S g) (fun q => by rw [q] at y1; exact absurd y1 List.not_mem_nil)
  have hb1 := (z_pe_mem.mp b1).1
  have vb : ∀ y, y ∈ z_pe N t S g → h_v N y.1 (fr y.2.1 y.2.2) ∧ 0 < y.2.2 := by
    intro y hy
    refine z_ps_v hw hc ht ht2 (S := S) (z_ps_mem.mpr ?_)
    obtain ⟨h1, h2, h3⟩ := z_pe_mem.mp hy
    rw [h1]
    exact ⟨hx.1, h2, h3⟩
  have key : ∀ z, h_v N g z → ¬ w_lx (h_fH N t S g z) g z (h_fH N t S g (fr b.2.1 b.2.2)) g (fr b.2.1 b.2.2) := by
    intro z hz q
    obtain ⟨y, u1, -, u2⟩ := mo_domH (S := S) hw hc ht ht2 hz
    refine b2 y u1 ?_
    unfold w_pl
    rw [h_fHq (vb y u1).2, h_fHq (vb b b1).2, hb1]
    exact w_lx_le u2 q
  have vbx := (vb b b1).1
  rw [hb1] at vbx
  obtain ⟨y, u1, u2, u3⟩ := h_cls hw hc ht ht2 vbx key
  refine ⟨y, u1, ?_⟩
  rw [u2, u3]
  exact key x hx
theorem cl_optH (hw : q_wf N) (hc : w_cn N) (ht : 0 ≤ t) (ht2 : t ≤ 10) (hb : w_best (w_Hv N t S) (w_pts N t) b) : h_opt N (h_fH N t S) b.1 (fr b.2.1 b.2.2) :=
  h_opt_of (fun y hy => h_fHq (w_pts_v hw hc ht ht2 hy).2) (fun y hy => (w_pts_v hw hc ht ht2 hy).1) (fun g x hx => cl_domH (S := S) hw hc ht ht2 hx) hb
theorem h_tan (hw : q_wf N) (ht : 0 ≤ t) (x : Rat) : ∀ n, n ≤ 8 → ∃ T M : Rat, h_C N t g x n = T + M * x ∧ ∀ z, h_C N t g z n ≤ T + M * z
  | 0, _ => ⟨0, 0, by show (0 : Rat) = 0 + 0 * x; grind, fun z => by show (0 : Rat) ≤ 0 + 0 * z; grind⟩
  | n + 1, hn => by
    obtain ⟨T, M, h1, h2⟩ := h_tan hw ht x n (by omega)
    have W := (w_Wb hw (i := n) (by omega) ht).1
    obtain ⟨l, l1, l2⟩ : ∃ l, (∀ z, h_F N t g n z ≤ h_l N t g l z) ∧ h_F N t g n x = h_l N t g l x := by
      rcases (h_Fl (N := N) (g := g) (x := x) W).2.2 with e | e
      · exact ⟨_, fun z => (h_Fl (N := N) (g := g) (x := z) W).1, e⟩
      · exact ⟨_, fun z => (h_Fl (N := N) (g := g) (x := z) W).2.1, e⟩
    refine ⟨T + (w_lt N t g l : Rat), M + (w_ls N t l : Rat), ?_, fun z => ?_⟩
    · show h_C N t g x n + h_F N t g n x = _
      rw [h1, l2]
      unfold h_l
      grind
    · show h_C N t g z n + h_F N t g n z ≤ _
      have a1 := h2 z
      have a2 := l1 z
      unfold h_l at a2
      grind
def h_en (N : Nat → Nat → Int) (g : Nat) : List Int := [0, N 10 g] ++ q_cat (fun k => if N 12 k = (g : Int) then [N 14 k, N 16 k] else []) (w_ns N)
theorem h_en_mem {e : Int} : e ∈ h_en N g ↔ e = 0 ∨ e = N 10 g ∨ ∃ k, k < w_ns N ∧ N 12 k = (g : Int) ∧ (e = N 14 k ∨ e = N 16 k) := by
  unfold h_en
  rw [List.mem_append, q_cat_mem]
  constructor
  · rintro (h | ⟨k, k1, h⟩)
    · simp at h
      rcases h with h | h
      · exact Or.inl h
      · exact Or.inr (Or.inl h)
    · try dsimp only at h
      split at h
      · next h12 =>
        simp at h
        exact Or.inr (Or.inr ⟨k, k1, h12, h⟩)
      · exact absurd h List.not_mem_nil
  · rintro (h | h | ⟨k, k1, k2, h⟩)
    · left; simp [h]
    · left; simp [h]
    · right
      refine ⟨k, k1, ?_⟩
      rw [if_pos k2]
      simp [h]
theorem h_domC (hw : q_wf N) (ht : 0 ≤ t) (hv : h_v N g x) : ∃ e : Int, e ∈ h_en N g ∧ h_v N g (e : Rat) ∧ ¬ w_lx (h_fC N t g x) g x (h_fC N t g (e : Rat)) g (e : Rat) := by
  obtain ⟨hg, hx0, hx1, hal⟩ := id hv
  have n8 := (wf_n hw).2.2
  by_cases hx : ∃ e : Int, e ∈ h_en N g ∧ (e : Rat) = x
  · obtain ⟨e, e1, e2⟩ := hx
    exact ⟨e, e1, by rw [e2]; exact hv, by rw [e2]; exact w_lx_irr⟩
  · have hx' : ∀ e : Int, e ∈ h_en N g → (e : Rat) ≠ x := fun e he q => hx ⟨e, he, q⟩
    have m0 : (0 : Int) ∈ h_en N g := h_en_mem.mpr (Or.inl rfl)
    have m1 : N 10 g ∈ h_en N g := h_en_mem.mpr (Or.inr (Or.inl rfl))
    have l0 : ((0 : Int) : Rat) < x := Rat.lt_of_le_of_ne hx0 (hx' _ m0)
    have l1 : x < (N 10 g : Rat) := Rat.lt_of_le_of_ne hx1 (fun q => hx' _ m1 q.symm)
    obtain ⟨a, am, al, ab⟩ := l_max (fun e : Int => (e : Rat)) x (h_en N g) ⟨0, m0, l0⟩
    obtain ⟨c, cm, cl, cb⟩ := l_min (fun e : Int => (e : Rat)) x (h_en N g) ⟨_, m1, l1⟩
    have al : (a : Rat) < x := al
    have cl : x < (c : Rat) := cl
    have a0 : ((0 : Int) : Rat) ≤ (a : Rat) := ab 0 m0 l0
    have c1 : (c : Rat) ≤ (N 10 g : Rat) := cb _ m1 l1
    have a0' : (0 : Rat) ≤ (a : Rat) := a0
    have no : ∀ e : Int, e ∈ h_en N g → ¬ ((a : Rat) < (e : Rat) ∧ (e : Rat) ≤ x) ∧ ¬ (x ≤ (e : Rat) ∧ (e : Rat) < (c : Rat)) := by
      intro e he
      have := hx' e he
      constructor
      · rintro ⟨q1, q2⟩
        have := ab e he (Rat.lt_of_le_of_ne q2 this)
        grind
      · rintro ⟨q1, q2⟩
        have := cb e he (Rat.lt_of_le_of_ne q1 (fun q => this q.symm))
        grind
    have hA : h_v N g (a : Rat) := by
      refine ⟨hg, a0', by grind, ?_⟩
      rintro k hk ⟨k1, k2, k3⟩
      refine hal k hk ⟨k1, r_tr k2 al, ?_⟩
      rw [← Rat.not_le]
      exact fun q => (no _ (h_en_mem.mpr (Or.inr (Or.inr ⟨k, hk, k1, Or.inr rfl⟩)))).1 ⟨k3, q⟩
    have hC : h_v N g (c : Rat) := by
      refine ⟨hg, by grind, c1, ?_⟩
      rintro k hk ⟨k1, k2, k3⟩
      refine hal k hk ⟨k1, ?_, r_tr cl k3⟩
      rw [← Rat.not_le]
      exact fun q => (no _ (h_en_mem.mpr (Or.inr (Or.inr ⟨k, hk, k1, Or.inl rfl⟩)))).2 ⟨q, k2⟩
    obtain ⟨T, M, t1, t2⟩ := h_tan (N := N) (t := t) (g := g) hw ht x (w_nn N) n8
    have tA := t2 (a : Rat)
    have tC := t2 (c : Rat)
    rcases Rat.le_total (a := 0) (b := M) with hM | hM
    · have := Rat.mul_le_mul_of_nonneg_left (Rat.le_of_lt al) hM
      refine ⟨a, am, hA, w_lx_g.mpr ⟨?_, fun _ => Rat.le_of_lt al⟩⟩
      unfold h_fC
      grind
    · by_cases hM0 : M = 0
      · refine ⟨a, am, hA, w_lx_g.mpr ⟨?_, fun _ => Rat.le_of_lt al⟩⟩
        unfold h_fC
        rw [hM0] at t1 tA
        grind
      · have hMn : 0 < -M := by
          have : 0 ≤ -M := by grind
          exact Rat.lt_of_le_of_ne this (fun q => hM0 (by grind))
        have := Rat.mul_lt_mul_of_pos_left cl hMn
        refine ⟨c, cm, hC, w_lx_g.mpr ⟨?_, fun q => ?_⟩⟩
        · unfold h_fC; grind
        · unfold h_fC at q; grind
theorem cl_optC (hw : q_wf N) (hc : w_cn N) (ht : 0 ≤ t) (ht2 : t ≤ 10) (hb : w_best (w_Cv N t) (w_pts N t) b) : h_opt N (h_fC N t) b.1 (fr b.2.1 b.2.2) :=
  h_opt_of (fun y hy => h_fCq (w_pts_v hw hc ht ht2 hy).2) (fun y hy => (w_pts_v hw hc ht ht2 hy).1) (fun g x hx => by
    obtain ⟨e, e1, e2, e3⟩ := h_domC (t := t) hw ht hx
    have hm : (g, e, 1) ∈ w_pts N t := by
      have ha := h_al1.mpr e2.2.2.2
      rcases h_en_mem.mp e1 with rfl | rfl | ⟨k, k1, k2, rfl | rfl⟩
      · exact w_pts_0 hx.1 ha
      · exact w_pts_l hx.1 ha
      · exact (w_pts_s k1 k2).1 ha
      · exact (w_pts_s k1 k2).2 ha
    refine ⟨(g, e, 1), hm, ?_⟩
    show ¬ w_lx (h_fC N t g x) g x (h_fC N t g (fr e 1)) g (fr e 1)
    rw [fr_1]
    exact e3) hb
end
section
variable {N : Nat → Nat → Int} {t S p q p' q' v v' : Int} {g g' i j l m n k : Nat} {x x' r : Rat}
theorem w_sU (hq : 0 < q) (hq' : 0 < q') (he : fr p q = fr p' q') : w_s1 N t g i p q = w_s1 N t g i p' q' ∧ w_s2 N t g i p q = w_s2 N t g i p' q' := by
  have h1 : (w_b N g i * q - p < w_o N g i * q + p) = (w_b N g i * q' - p' < w_o N g i * q' + p') := by
    rw [← fr_lts hq, ← fr_lts hq', fr_lin hq, fr_lin2 hq, fr_lin hq', fr_lin2 hq', he]
  have h2 : (w_o N g i * q + p < w_b N g i * q - p) = (w_o N g i * q' + p' < w_b N g i * q' - p') := by
    rw [← fr_lts hq, ← fr_lts hq', fr_lin hq, fr_lin2 hq, fr_lin hq', fr_lin2 hq', he]
  constructor
  · unfold w_s1
    simp only [h1]
  · have h3 : (w_b N g i * q - p ≤ w_o N g i * q + p) = (w_b N g i * q' - p' ≤ w_o N g i * q' + p') := by
      rw [← Int.not_lt, ← Int.not_lt, h2]
    unfold w_s2
    simp only [h3]
theorem w_tpU (hw : q_wf N) (hc : w_cn N) (hg : g < w_ne N) (hp : w_pq N t g p q) (hp' : w_pq N t g p' q') (he : fr p q = fr p' q') (h : w_tp N t g p q) : w_tp N t g p' q' := by
  obtain ⟨x, hx, hne⟩ := h
  have hq : 0 < q := by have := hp.1; omega
  have hq' : 0 < q' := by have := hp'.1; omega
  have n0 := wf_n hw
  obtain ⟨y, hy⟩ := w_tk_ex hw hc hg hp'
  have tx := w_tk_top hw hx
  have ty := w_tk_top hw hy
  have ev := w_topU hq hq' tx ty he
  have tops : ∀ i, (w_F N t g i p q = x.1) ↔ (w_F N t g i p' q' = y.1) := by
    intro i
    have a1 : (w_F N t g i p q = x.1) ↔ fr (w_F N t g i p q) q = fr x.1 q := by
      rw [fr_eq hq hq]
      exact ⟨fun h => by rw [h], fun h => Int.eq_of_mul_eq_mul_right (by omega) h⟩
    have a2 : (w_F N t g i p' q' = y.1) ↔ fr (w_F N t g i p' q') q' = fr y.1 q' := by
      rw [fr_eq hq' hq']
      exact ⟨fun h => by rw [h], fun h => Int.eq_of_mul_eq_mul_right (by omega) h⟩
    rw [a1, a2, h_Ffr hq, h_Ffr hq', he, ev]
  refine ⟨y, hy, ?_⟩
  rcases hx with ⟨h0, -⟩ | ⟨-, -, -, ⟨i, i1, i2, i3⟩, i4, ⟨j, j1, j2, j3⟩, j4⟩
  · omega
  rcases hy with ⟨h0, -⟩ | ⟨-, -, -, ⟨i', i1', i2', i3'⟩, i4', ⟨j', j1', j2', j3'⟩, j4'⟩
  · omega
  have s1 := fun i => (w_sU (N := N) (t := t) (g := g) (i := i) hq hq' he).1
  have s2 := fun i => (w_sU (N := N) (t := t) (g := g) (i := i) hq hq' he).2
  have b1 := i4 i' i1' ((tops i').mpr i2')
  have b2 := i4' i i1 ((tops i).mp i2)
  have b3 := j4 j' j1' ((tops j').mpr j2')
  have b4 := j4' j j1 ((tops j).mp j2)
  rw [s1] at b1 i3
  rw [s2] at b3 j3
  omega
end
section
variable {Z : mZ} {K : Nat → mK} {σ τ N M : Nat → Nat → Int} {e g i L n c k s a : Nat} {t p q v x y z w u S : Int} {X : Nat → Int} {h : mH} {R : Nat → Nat → Nat → Int} {T : Nat → Int} {b b' : wP}
theorem w_isR_u {S : Nat} {f f' : Rat} (h : w_isR N t S f) (h' : w_isR N t S f') : f = f' := by
  obtain ⟨⟨y, y1, y2⟩, h2⟩ := h
  obtain ⟨⟨z, z1, z2⟩, h4⟩ := h'
  have a1 := h2 z z1
  have a2 := h4 y y1
  rw [← z2] at a1
  rw [← y2] at a2
  exact Rat.le_antisymm a1 a2
theorem w_isD_u {f1 fk : Nat → Rat} {S : Nat} {f f' : Rat} (h : w_isD f1 fk S f) (h' : w_isD f1 fk S f') : f = f' := by
  obtain ⟨⟨y, y0, y1, y2⟩, h2⟩ := h
  obtain ⟨⟨z, z0, z1, z2⟩, h4⟩ := h'
  have a1 := h2 z z0 z1
  have a2 := h4 y y0 y1
  rw [← z2] at a1
  rw [← y2] at a2
  exact Rat.le_antisymm a1 a2
end
section
theorem q_suballN : ∀ n : Fin 9, ∀ a : Fin 256, a.val < 2 ^ n.val → w_sub a.val (2 ^ n.val - 1) = true := by decide +kernel
theorem w_suball {n a : Nat} (hn : n ≤ 8) (ha : a < 2 ^ n) : w_sub a (2 ^ n - 1) = true := q_suballN ⟨n, by omega⟩ ⟨a, by have := q_pow8 hn; omega⟩ ha
end
section
variable {Z : mZ} {K : Nat → mK} {σ τ N M : Nat → Nat → Int} {e g i L n c k s a : Nat} {t p q v x y z w u S : Int} {X : Nat → Int} {h : mH} {R : Nat → Nat → Nat → Int} {T : Nat → Int} {b b' : wP}
theorem w_isR_0 {f : Rat} (hw : q_wf N) (h : w_isR N t 0 f) : f = 0 := by
  obtain ⟨⟨y, y1, y2⟩, -⟩ := h
  rw [y2]
  have : w_Hv N t ((0 : Nat) : Int) y = 0 := w_H_0 (wf_n hw).2.2
  rw [this, fr_0]
end
section
variable {Z : mZ} {K : Nat → mK} {σ τ N M : Nat → Nat → Int} {e g i L n c k s a : Nat} {t p q v x y z w u S : Int} {X : Nat → Int} {h : mH} {R : Nat → Nat → Nat → Int} {T : Nat → Int} {f1 f2 : Nat → Rat} {f3 b : Rat}
theorem w_gg_u {C : Nat → Prop} {S r r' : Nat} (h : w_gg C S r) (h' : w_gg C S r') : r = r' := by
  rcases h with ⟨h1, h2⟩ | ⟨h1, h2, h3, h4⟩ <;> rcases h' with ⟨g1, g2⟩ | ⟨g1, g2, g3, g4⟩
  · omega
  · exact absurd g3 (h2 r' g1 g2)
  · exact absurd h3 (g2 r h1 h2)
  · rcases Nat.lt_trichotomy r r' with q | q | q
    · exact absurd g3 (h4 r' q g2)
    · exact q
    · exact absurd h3 (g4 r q h2)
theorem w_chs_u {all k i r r' : Nat} (h : w_chs f1 f2 b all k i r) (h' : w_chs f1 f2 b all k i r') : r = r' := by
  rcases h with ⟨h1, h2⟩ | ⟨h1, g, h2, h3⟩ | ⟨h1, g, j, h2, h3, h4⟩ <;> rcases h' with ⟨k1, k2⟩ | ⟨k1, g', k2, k3⟩ | ⟨k1, g', j', k2, k3, k4⟩
  · omega
  · omega
  · omega
  · omega
  · have := w_gg_u h2 k2
    subst this
    omega
  · omega
  · omega
  · omega
  · have := w_gg_u h2 k2
    subst this
    have := w_gg_u h3 k3
    subst this
    omega
end
section
variable {N : Nat → Nat → Int} {t p q x : Int} {g i j k n : Nat}
theorem q_topN : ∀ k : Fin 8, ∀ S : Fin 256, 2 ^ k.val ≤ S.val → S.val < 2 ^ (k.val + 1) → w_sub (2 ^ k.val) S.val = true := by decide +kernel
theorem w_few_le {f1 : Nat → Rat} {y : Rat} {M : Int} {n : Nat} {c : Nat → Int} (hn : n ≤ 8) (h : w_few f1 y M (2 ^ n - 1) c) (h1 : ∀ i, i < n → f1 (2 ^ i) ≤ y) : ∀ k, k ≤ n → ∀ S, S < 2 ^ k → c S ≤ (k : Int) := by
  intro k
  induction k with
  | zero =>
    intro _ S hS
    have : S = 0 := by simp at hS; exact hS
    rw [this, h.1]
    exact Int.le_refl _
  | succ k ih =>
    intro hk S hS
    by_cases c1 : S < 2 ^ k
    · have := ih (by omega) S c1
      omega
    · have p8 := q_pow8 (n := k) (by omega)
      have pn := q_pow8 hn
      have e1 : 2 ^ (k + 1) = 2 * 2 ^ k := by rw [Nat.pow_succ]; omega
      have e2 : 2 ^ (k + 1) ≤ 2 ^ n := Nat.pow_le_pow_right (by omega) hk
      have hs := q_topN ⟨k, by omega⟩ ⟨S, by omega⟩ (by show 2 ^ k ≤ S; omega) (by show S < 2 ^ (k + 1); exact hS)
      have := (h.2 S (by omega) (by omega)).2.1 (2 ^ k) (by omega) (by omega) hs (h1 k (by omega))
      have h3 := ih (by omega) (S - 2 ^ k) (by omega)
      omega
theorem d_lone (hw : q_wf N) (hno : ∀ e, e < w_ne N → w_f N e ≠ i ∧ w_s N e ≠ i) : ∀ k, k ≤ 8 → ∀ b, b ≠ i → d_fw 1000000 N k i b = 1000000 := by
  have hin : ∀ k, k ≤ w_ne N → ∀ b, b ≠ i → d_in 1000000 N k i b = 1000000 := by
    intro k
    induction k with
    | zero => intro _ b hb; unfold d_in; rw [if_neg (fun q => hb q.symm)]
    | succ k ih =>
      intro hk b hb
      unfold d_in
      have := hno k (by omega)
      rw [if_neg (by omega)]
      exact ih (by omega) b hb
  intro k
  induction k with
  | zero => intro _ b hb; exact hin _ (Nat.le_refl _) b hb
  | succ k ih =>
    intro hk b hb
    have q1 := d_fw_b hw (F := 1000000) (by omega) (k := k) (by omega) k b
    have q2 := (d_fw_b hw (F := 1000000) (by omega) (k := k) (by omega) i i).1 rfl
    have h1 := ih (by omega) b hb
    unfold d_fw
    by_cases c : k = i
    · rw [if_neg (by rw [c] at q2 h1 ⊢; omega)]
      exact h1
    · have h2 := ih (by omega) k c
      rw [if_neg (by omega)]
      exact h1
theorem w_inc (hw : q_wf N) (hc : y_cc N) (hi : i < w_nn N) : ∃ e, e < w_ne N ∧ (w_f N e = i ∨ w_s N e = i) := by
  refine Classical.byContradiction (fun hno => ?_)
  have hno' : ∀ e, e < w_ne N → w_f N e ≠ i ∧ w_s N e ≠ i := fun e he => ⟨fun q => hno ⟨e, he, Or.inl q⟩, fun q => hno ⟨e, he, Or.inr q⟩⟩
  have h7 := wf_ed hw hc.2
  have h8 := d_lone hw hno' (w_nn N) (wf_n hw).2.2 (w_f N 0) (hno' 0 hc.2).1
  have h9 := w_D_cn hw hc.1 hi h7.2.2.1
  have : w_D N i (w_f N 0) = 1000000 := h8
  omega
theorem w_single {f : Rat} (hw : q_wf N) (hc : y_cc N) (hi : i < w_nn N) (h : w_isR N 0 (2 ^ i) f) : f ≤ 0 := by
  obtain ⟨e, e1, e2⟩ := w_inc hw hc hi
  have n8 := (wf_n hw).2.2
  have h7 := wf_ed hw e1
  have ob := w_ob hw hc.1 e1 hi
  have hH : ∀ p, w_R N e i p 1 = 0 → w_H N 0 ((2 ^ i : Nat) : Int) e p 1 (w_nn N) = 0 := by
    intro p hp
    have hb := w_H_bit (N := N) (t := 0) (g := e) (p := p) (q := 1) (i := i) (o := 0) hi n8 (Nat.two_pow_pos i)
    have h0 : w_H N 0 ((0 : Nat) : Int) e p 1 (w_nn N) = 0 := w_H_0 n8
    rw [Nat.add_zero, h0] at hb
    have hF : w_F N 0 e i p 1 = 0 := by unfold w_F; rw [hp, Int.mul_zero]
    rw [hF, if_neg (by omega)] at hb
    exact hb
  have fin : ∀ p, (e, p, 1) ∈ w_pts N 0 → w_R N e i p 1 = 0 → f ≤ 0 := by
    intro p hp hr
    have := h.2 _ hp
    have hz : w_Hv N 0 ((2 ^ i : Nat) : Int) (e, p, 1) = 0 := hH p hr
    rw [hz, fr_0] at this
    exact this
  have al0 : w_al N e 0 1 = true := by
    rw [w_al_iff]
    rintro k hk ⟨h1, h2, -⟩
    obtain ⟨e', a1, a2, a3, -⟩ := wf_st hw hk
    omega
  have all' : w_al N e (N 10 e) 1 = true := by
    rw [w_al_iff]
    rintro k hk ⟨h1, -, h2⟩
    obtain ⟨e', a1, a2, a3, a4, a5, -⟩ := wf_st hw hk
    have : e' = e := by omega
    subst this
    omega
  rcases e2 with e2 | e2
  · refine fin 0 (w_pts_0 e1 al0) ?_
    have h0 : w_o N e i = 0 := by unfold w_o; rw [e2]; exact (w_D_b hw i i).1 rfl
    unfold w_R
    rw [h0, if_neg (by omega)]
    omega
  · refine fin (N 10 e) (w_pts_l e1 all') ?_
    have h0 : w_b N e i = N 10 e := by unfold w_b; rw [e2, (w_D_b hw i i).1 rfl]; omega
    unfold w_R
    rw [h0, if_pos (by omega)]
    omega
end
end
