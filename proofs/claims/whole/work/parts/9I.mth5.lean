section
/-! Corners: both sides find the same. -/
def z_ic (N : Nat → Nat → Int) (t : Int) (g : Nat) (x : Int × Int) : Prop := x.1 = 0 ∨ x.1 = N 10 g * x.2 ∨ w_tp N t g x.1 x.2
section
variable {N : Nat → Nat → Int} {t S p q p' q' v v' : Int} {g g' i j l m n k : Nat} {x x' r : Rat}
theorem w_sU (hq : 0 < q) (hq' : 0 < q') (he : fr p q = fr p' q') : w_s1 N t g i p q = w_s1 N t g i p' q' ∧ w_s2 N t g i p q = w_s2 N t g i p' q' := by
  have h1 : (w_b N g i * q - p < w_o N g i * q + p) = (w_b N g i * q' - p' < w_o N g i * q' + p') := by
    rw [← fr_lts hq, ← fr_lts hq', fr_lin hq, fr_lin2 hq, fr_lin hq', fr_lin2 hq', he]
  have h2 : (w_o N g i * q + p < w_b N g i * q - p) = (w_o N g i * q' + p' < w_b N g i * q' - p') := by
    rw [← fr_lts hq, ← fr_lts hq', fr_lin hq, fr_lin2 hq, fr_lin hq', fr_lin2 hq', he]
  constructor
  · unfold w_s1
    simp only [h1]
  · have h3 : (w_b N g i * q - p ≤ w_o N g i * q + p) = (w_b N g i * q' - p' ≤ w_o N g i * q' + p') := by
      rw [← Int.not_lt, ← Int.not_lt, h2]
    unfold w_s2
    simp only [h3]
/-- the line on which a node lies ahead of a point, and behind it -/
theorem w_s1l (hq : 0 < q) (hw : 0 ≤ w_W N t i) : ∃ l, (l = 2 * i ∨ l = 2 * i + 1) ∧ w_ls N t l = w_s1 N t g i p q ∧ h_l N t g l (fr p q) = h_F N t g i (fr p q) := by
  have e : (w_b N g i * q - p < w_o N g i * q + p) = ((w_b N g i : Rat) - fr p q < (w_o N g i : Rat) + fr p q) := by
    rw [← fr_lts hq, fr_lin hq, fr_lin2 hq]
  unfold w_s1
  by_cases c : w_b N g i * q - p < w_o N g i * q + p
  · refine ⟨2 * i + 1, Or.inr rfl, ?_, ?_⟩
    · unfold w_ls
      rw [if_pos c, if_neg (by omega), show (2 * i + 1) / 2 = i by omega]
    · rw [h_l1]
      unfold h_F h_r
      rw [if_pos (by rw [← e]; exact c)]
  · refine ⟨2 * i, Or.inl rfl, ?_, ?_⟩
    · unfold w_ls
      rw [if_neg c, if_pos (by omega), show 2 * i / 2 = i by omega]
    · rw [h_l0]
      unfold h_F h_r
      rw [if_neg (by rw [← e]; exact c)]
theorem w_s2l (hq : 0 < q) (hw : 0 ≤ w_W N t i) : ∃ l, (l = 2 * i ∨ l = 2 * i + 1) ∧ w_ls N t l = w_s2 N t g i p q ∧ h_l N t g l (fr p q) = h_F N t g i (fr p q) := by
  have e : (w_o N g i * q + p < w_b N g i * q - p) = ((w_o N g i : Rat) + fr p q < (w_b N g i : Rat) - fr p q) := by
    rw [← fr_lts hq, fr_lin hq, fr_lin2 hq]
  unfold w_s2
  by_cases c : w_b N g i * q - p ≤ w_o N g i * q + p
  · have c' : ¬ ((w_o N g i : Rat) + fr p q < (w_b N g i : Rat) - fr p q) := by rw [← e]; omega
    refine ⟨2 * i + 1, Or.inr rfl, ?_, ?_⟩
    · unfold w_ls
      rw [if_pos c, if_neg (by omega), show (2 * i + 1) / 2 = i by omega]
    · rw [h_l1]
      unfold h_F h_r
      split
      · rfl
      · congr 1
        grind
  · have c' : (w_o N g i : Rat) + fr p q < (w_b N g i : Rat) - fr p q := by rw [← e]; omega
    refine ⟨2 * i, Or.inl rfl, ?_, ?_⟩
    · unfold w_ls
      rw [if_neg c, if_pos (by omega), show 2 * i / 2 = i by omega]
    · rw [h_l0]
      unfold h_F h_r
      rw [if_neg (by grind)]
/-- where the slope changes two lines meet -/
theorem w_tp_x (hw : q_wf N) (ht : 0 ≤ t) (hq : 0 < q) (h : w_tp N t g p q) : ∃ i j l m, i < w_nn N ∧ j < w_nn N ∧ (l = 2 * i ∨ l = 2 * i + 1) ∧ (m = 2 * j ∨ m = 2 * j + 1) ∧ w_ls N t l ≠ w_ls N t m ∧ h_l N t g l (fr p q) = h_l N t g m (fr p q) := by
  obtain ⟨x, hx, hne⟩ := h
  have n0 := wf_n hw
  rcases hx with ⟨h0, -⟩ | ⟨-, -, -, ⟨i, i1, i2, i3⟩, -, ⟨j, j1, j2, j3⟩, -⟩
  · omega
  · obtain ⟨l, l1, l2, l3⟩ := w_s1l (N := N) (t := t) (g := g) (i := i) (p := p) hq (w_Wb hw (i := i) (by omega) ht).1
    obtain ⟨m, m1, m2, m3⟩ := w_s2l (N := N) (t := t) (g := g) (i := j) (p := p) hq (w_Wb hw (i := j) (by omega) ht).1
    refine ⟨i, j, l, m, i1, j1, l1, m1, by rw [l2, m2, ← i3, ← j3]; exact hne, ?_⟩
    rw [l3, m3, ← h_Ffr hq, ← h_Ffr hq, i2, j2]
theorem w_tpU (hw : q_wf N) (hc : w_cn N) (hg : g < w_ne N) (hp : w_pq N t g p q) (hp' : w_pq N t g p' q') (he : fr p q = fr p' q') (h : w_tp N t g p q) : w_tp N t g p' q' := by
  obtain ⟨x, hx, hne⟩ := h
  have hq : 0 < q := by have := hp.1; omega
  have hq' : 0 < q' := by have := hp'.1; omega
  have n0 := wf_n hw
  obtain ⟨y, hy⟩ := w_tk_ex hw hc hg hp'
  have tx := w_tk_top hw hx
  have ty := w_tk_top hw hy
  have ev := w_topU hq hq' tx ty he
  have tops : ∀ i, (w_F N t g i p q = x.1) ↔ (w_F N t g i p' q' = y.1) := by
    intro i
    have a1 : (w_F N t g i p q = x.1) ↔ fr (w_F N t g i p q) q = fr x.1 q := by
      rw [fr_eq hq hq]
      exact ⟨fun h => by rw [h], fun h => Int.eq_of_mul_eq_mul_right (by omega) h⟩
    have a2 : (w_F N t g i p' q' = y.1) ↔ fr (w_F N t g i p' q') q' = fr y.1 q' := by
      rw [fr_eq hq' hq']
      exact ⟨fun h => by rw [h], fun h => Int.eq_of_mul_eq_mul_right (by omega) h⟩
    rw [a1, a2, h_Ffr hq, h_Ffr hq', he, ev]
  refine ⟨y, hy, ?_⟩
  rcases hx with ⟨h0, -⟩ | ⟨-, -, -, ⟨i, i1, i2, i3⟩, i4, ⟨j, j1, j2, j3⟩, j4⟩
  · omega
  rcases hy with ⟨h0, -⟩ | ⟨-, -, -, ⟨i', i1', i2', i3'⟩, i4', ⟨j', j1', j2', j3'⟩, j4'⟩
  · omega
  have s1 := fun i => (w_sU (N := N) (t := t) (g := g) (i := i) hq hq' he).1
  have s2 := fun i => (w_sU (N := N) (t := t) (g := g) (i := i) hq hq' he).2
  have b1 := i4 i' i1' ((tops i').mpr i2')
  have b2 := i4' i i1 ((tops i).mp i2)
  have b3 := j4 j' j1' ((tops j').mpr j2')
  have b4 := j4' j j1 ((tops j).mp j2)
  rw [s1] at b1 i3
  rw [s2] at b3 j3
  omega
theorem fr_eq0 (hq : 0 < q) (h : fr p q = 0) : p = 0 := by
  have : fr p q = fr 0 q := by rw [h, fr_0]
  rw [fr_eq hq hq] at this
  rcases Int.mul_eq_zero.mp (this.trans (Int.zero_mul q)) with c | c
  · exact c
  · omega
theorem fr_eqi {a : Int} (hq : 0 < q) (h : fr p q = (a : Rat)) : p = a * q := by
  rw [← fr_1, fr_eq hq (by decide)] at h
  omega
theorem fr_ofi {a : Int} (hq : 0 < q) (h : p = a * q) : fr p q = (a : Rat) := by
  rw [← fr_1, fr_eq hq (by decide)]
  omega
/-- two lines that meet, for the class -/
theorem w_lc_of (hw : q_wf N) (hc : w_cn N) (hg : g < w_ne N) (ht : 0 ≤ t) (ht2 : t ≤ 10) (hp : w_pq N t g p q) (hl : l < 2 * w_nn N) (hm : m < 2 * w_nn N) (hs : w_ls N t l ≠ w_ls N t m) (he : h_l N t g l (fr p q) = h_l N t g m (fr p q)) (h0 : fr p q ≠ 0) (h1 : fr p q ≠ (N 10 g : Rat)) (h : w_tp N t g p q) : w_lc N t g l m ∧ fr p q = fr (w_lT N t g l m) (w_lB N t l m) := by
  have hq : 0 < q := by have := hp.1; omega
  have hb := w_lTb hw hc hg ht ht2 hl hm
  have hB : 0 < w_lB N t l m := by unfold w_lB; split <;> omega
  have hBr : (0 : Rat) < (w_lB N t l m : Rat) := Rat.intCast_pos.mpr hB
  have eT : (w_lT N t g l m : Rat) = fr p q * (w_lB N t l m : Rat) := by
    unfold h_l at he
    unfold w_lT w_lB
    split
    · rw [Rat.intCast_neg, Rat.intCast_neg, Rat.intCast_sub, Rat.intCast_sub]; grind
    · rw [Rat.intCast_sub, Rat.intCast_sub]; grind
  have efr : fr (w_lT N t g l m) (w_lB N t l m) = fr p q := by
    show (w_lT N t g l m : Rat) / (w_lB N t l m : Rat) = fr p q
    rw [eT]
    exact Rat.mul_div_cancel (Rat.ne_of_gt hBr)
  have nn : 0 ≤ fr p q := fr_nn hq hp.2.2.2.2.1
  have le : fr p q ≤ (N 10 g : Rat) := by
    rw [← Rat.not_lt, fr_ltl hq]
    have := hp.2.2.2.2.2
    omega
  have c1 : 0 < w_lT N t g l m := by
    have : (0 : Rat) < (w_lT N t g l m : Rat) := by rw [eT]; exact Rat.mul_pos (Rat.lt_of_le_of_ne nn (fun q => h0 q.symm)) hBr
    exact Rat.intCast_pos.mp this
  have c2 : w_lT N t g l m < N 10 g * w_lB N t l m := by
    have : (w_lT N t g l m : Rat) < ((N 10 g * w_lB N t l m : Int) : Rat) := by
      rw [eT, Rat.intCast_mul]
      exact Rat.mul_lt_mul_of_pos_right (Rat.lt_of_le_of_ne le h1) hBr
    exact Rat.intCast_lt_intCast.mp this
  have m9 := q_mb (show 0 ≤ 9 + 9 * t by omega) (show 9 + 9 * t ≤ 99 by omega) hb.1 hb.2.1
  have hp' : w_pq N t g (w_lT N t g l m) (w_lB N t l m) := ⟨by omega, by omega, by omega, ht, by omega, by omega⟩
  exact ⟨⟨⟨hB, c1, c2⟩, w_tpU hw hc hg hp hp' efr.symm h⟩, efr.symm⟩
theorem z_K (hw : q_wf N) (hc : w_cn N) (hg : g < w_ne N) (ht : 0 ≤ t) (ht2 : t ≤ 10) : (∃ y, y ∈ z_xs N t ((2 ^ w_nn N - 1 : Nat) : Int) g ∧ z_ic N t g y ∧ fr y.1 y.2 = x) ↔ w_K N t g x := by
  have hbt := fun i (hi : i < w_nn N) => w_all_bt hw hi
  have x0 := z_xs_0 (N := N) (t := t) (S := ((2 ^ w_nn N - 1 : Nat) : Int)) hw hg
  have xx := fun i j l m r (hi : i < w_nn N) (hj : j < w_nn N) => z_xs_x (N := N) (t := t) (g := g) (l := l) (m := m) (r := r) hi hj (hbt i hi) (hbt j hj)
  have ok := fun y => z_xs_ok (N := N) (t := t) (S := ((2 ^ w_nn N - 1 : Nat) : Int)) (x := y) hw hc hg ht ht2
  generalize ((2 ^ w_nn N - 1 : Nat) : Int) = S at *
  constructor
  · rintro ⟨y, y1, y2, y3⟩
    have hp := ok y y1
    have hq : 0 < y.2 := by have := hp.1; omega
    by_cases e0 : fr y.1 y.2 = 0
    · left; rw [← y3, e0, fr_0]
    by_cases e1 : fr y.1 y.2 = (N 10 g : Rat)
    · right; left; rw [← y3, e1, fr_1]
    rcases y2 with h | h | h
    · exact absurd (by rw [h, fr_0]) e0
    · exact absurd (fr_ofi hq h) e1
    · obtain ⟨i, j, l, m, i1, j1, l1, m1, s1, s2⟩ := w_tp_x hw ht hq h
      right; right
      rcases Nat.lt_trichotomy m l with c | c | c
      · obtain ⟨r1, r2⟩ := w_lc_of hw hc hg ht ht2 hp (l := l) (m := m) (by omega) (by omega) s1 s2 e0 e1 h
        exact ⟨l, m, c, by omega, r1, by rw [← y3]; exact r2⟩
      · exact absurd (by rw [c]) s1
      · obtain ⟨r1, r2⟩ := w_lc_of hw hc hg ht ht2 hp (l := m) (m := l) (by omega) (by omega) (fun q => s1 q.symm) s2.symm e0 e1 h
        exact ⟨m, l, c, by omega, r1, by rw [← y3]; exact r2⟩
  · rintro (h | h | ⟨l, m, ml, ll, ⟨⟨b1, b2, b3⟩, htp⟩, h⟩)
    · obtain ⟨y, y1, y2⟩ := x0.1
      have hq : 0 < y.2 := by have := (ok y y1).1; omega
      exact ⟨y, y1, Or.inl (fr_eq0 hq y2), by rw [y2, h, fr_0]⟩
    · obtain ⟨y, y1, y2⟩ := x0.2
      have hq : 0 < y.2 := by have := (ok y y1).1; omega
      exact ⟨y, y1, Or.inr (Or.inl (fr_eqi hq y2)), by rw [y2, h, fr_1]⟩
    · have hb := w_lTb hw hc hg ht ht2 (l := l) (m := m) ll (by omega)
      have m9 := q_mb (show 0 ≤ 9 + 9 * t by omega) (show 9 + 9 * t ≤ 99 by omega) hb.1 hb.2.1
      have hp : w_pq N t g (w_lT N t g l m) (w_lB N t l m) := ⟨by omega, by omega, by omega, ht, by omega, by omega⟩
      have nn : 0 ≤ fr (w_lT N t g l m) (w_lB N t l m) := fr_nn b1 (by omega)
      have le : fr (w_lT N t g l m) (w_lB N t l m) ≤ (N 10 g : Rat) := by
        rw [← Rat.not_lt, fr_ltl b1]
        omega
      obtain ⟨i, j, l', m', i1, j1, l1, m1, s1, s2⟩ := w_tp_x hw ht b1 htp
      obtain ⟨y, y1, y2⟩ := xx i j l' m' _ i1 j1 l1 m1 s1 s2 nn le
      exact ⟨y, y1, Or.inr (Or.inr (w_tpU hw hc hg hp (ok y y1) y2.symm htp)), by rw [y2, h]⟩
end
end
