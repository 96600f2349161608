section
/-! Answers over the rationals: what each call tells, as a function of the network. -/
/-- part u of a rational in lowest terms -/
def q_pt (r : Rat) (u : Int) : Int := if u = 0 then r.num else (r.den : Int)
theorem fr_nd (r : Rat) : fr r.num (r.den : Int) = r := by
  unfold fr
  rw [← Rat.divInt_eq_div]
  exact Rat.num_divInt_den r
theorem q_ptr {x y u : Int} (hx : 0 ≤ x) (hy : 0 < y) : w_red x y u = q_pt (fr x y) u := by
  have hr0 : 0 ≤ fr x y := fr_nn hy hx
  have hn : 0 ≤ (fr x y).num := Rat.num_nonneg.mpr hr0
  have hd : 0 < ((fr x y).den : Int) := Int.natCast_pos.mpr (fr x y).den_pos
  rw [w_redU hx hy hn hd (fr_nd _).symm]
  have hg : Nat.gcd (fr x y).num.toNat ((fr x y).den : Int).toNat = 1 := by
    have h1 := (fr x y).reduced
    rw [Int.toNat_natCast, show (fr x y).num.toNat = (fr x y).num.natAbs by omega]
    exact h1
  unfold w_red q_pt
  rw [hg, Nat.div_one]
  split
  · omega
  · omega
/-- bounds of a fraction's parts -/
theorem q_ptb {x y B C : Int} (hx : 0 ≤ x) (hy : 0 < y) (hB : x ≤ B) (hC : y ≤ C) : (0 ≤ q_pt (fr x y) 0 ∧ q_pt (fr x y) 0 ≤ B) ∧ 1 ≤ q_pt (fr x y) 1 ∧ q_pt (fr x y) 1 ≤ C := by
  rw [← q_ptr hx hy, ← q_ptr hx hy]
  unfold w_red
  rw [if_pos rfl, if_neg (by decide)]
  have g0 : 0 < Nat.gcd x.toNat y.toNat := Nat.gcd_pos_of_pos_right _ (by omega)
  have d1 := Nat.div_le_self x.toNat (Nat.gcd x.toNat y.toNat)
  have d2 := Nat.div_le_self y.toNat (Nat.gcd x.toNat y.toNat)
  have d3 : 1 ≤ y.toNat / Nat.gcd x.toNat y.toNat := Nat.div_pos (Nat.le_of_dvd (by omega) (Nat.gcd_dvd_right _ _)) g0
  generalize x.toNat / Nat.gcd x.toNat y.toNat = a at *
  generalize y.toNat / Nat.gcd x.toNat y.toNat = b at *
  refine ⟨⟨by omega, by omega⟩, by omega, by omega⟩
theorem q_pt1 {r : Rat} : 1 ≤ q_pt r 1 := by
  unfold q_pt
  rw [if_neg (by decide)]
  have := r.den_pos
  omega
theorem q_ptn {r : Rat} (h : 0 ≤ r) : 0 ≤ q_pt r 0 := Rat.num_nonneg.mpr h
theorem q_ptf (r : Rat) : fr (q_pt r 0) (q_pt r 1) = r := fr_nd r
theorem q_ptle {r r' : Rat} : q_pt r 0 * q_pt r' 1 ≤ q_pt r' 0 * q_pt r 1 ↔ r ≤ r' := by
  have h := fr_le (p := q_pt r 0) (q := q_pt r 1) (r := q_pt r' 0) (s := q_pt r' 1) (by have := q_pt1 (r := r); omega) (by have := q_pt1 (r := r'); omega)
  rw [q_ptf, q_ptf] at h
  rw [← h]
theorem q_ptlt {r r' : Rat} : q_pt r 0 * q_pt r' 1 < q_pt r' 0 * q_pt r 1 ↔ r < r' := by
  have h := fr_lt (p := q_pt r 0) (q := q_pt r 1) (r := q_pt r' 0) (s := q_pt r' 1) (by have := q_pt1 (r := r); omega) (by have := q_pt1 (r := r'); omega)
  rw [q_ptf, q_ptf] at h
  rw [← h]
/-- the center of a set, its radius; the median, its cost -/
noncomputable def vv_op (N : Nat → Nat → Int) (f : Nat → Rat → Rat) : Nat × Rat := by
  classical
  exact if h : ∃ y : Nat × Rat, h_opt N f y.1 y.2 then Classical.choose h else (0, 0)
theorem vv_op_of {N : Nat → Nat → Int} {f : Nat → Rat → Rat} {g : Nat} {x : Rat} (h : h_opt N f g x) : vv_op N f = (g, x) := by
  have hex : ∃ y : Nat × Rat, h_opt N f y.1 y.2 := ⟨(g, x), h⟩
  unfold vv_op
  rw [dif_pos hex]
  obtain ⟨-, h1, h2⟩ := h_optU (Classical.choose_spec hex) h
  exact Prod.ext h1 h2
noncomputable def vv_c (N : Nat → Nat → Int) (S : Int) : Nat × Rat := vv_op N (h_fH N 0 S)
noncomputable def vv_r (N : Nat → Nat → Int) (S : Int) : Rat := h_fH N 0 S (vv_c N S).1 (vv_c N S).2
noncomputable def vv_m (N : Nat → Nat → Int) : Nat × Rat := vv_op N (h_fC N 0)
noncomputable def vv_mr (N : Nat → Nat → Int) : Rat := h_fC N 0 (vv_m N).1 (vv_m N).2
section
variable {N : Nat → Nat → Int} {S : Int} {b : wP}
theorem vv_c_b (hw : q_wf N) (hd : y_cc N) (hb : w_best (w_Hv N 0 S) (w_pts N 0) b) : vv_c N S = (b.1, fr b.2.1 b.2.2) ∧ vv_r N S = fr (w_Hv N 0 S b) b.2.2 := by
  have h1 : vv_c N S = (b.1, fr b.2.1 b.2.2) := vv_op_of (cl_optH hw hd.1 (by decide) (by decide) hb)
  refine ⟨h1, ?_⟩
  unfold vv_r
  rw [h1]
  exact (h_fHq (w_pts_v hw hd.1 (by decide) (by decide) hb.1).2).symm
theorem vv_m_b (hw : q_wf N) (hd : y_cc N) (hb : w_best (w_Cv N 0) (w_pts N 0) b) : vv_m N = (b.1, fr b.2.1 b.2.2) ∧ vv_mr N = fr (w_Cv N 0 b) b.2.2 := by
  have h1 : vv_m N = (b.1, fr b.2.1 b.2.2) := vv_op_of (cl_optC hw hd.1 (by decide) (by decide) hb)
  refine ⟨h1, ?_⟩
  unfold vv_mr
  rw [h1]
  exact (h_fCq (w_pts_v hw hd.1 (by decide) (by decide) hb.1).2).symm
theorem vv_c_ex (hw : q_wf N) (hd : y_cc N) (S : Int) : ∃ b, w_best (w_Hv N 0 S) (w_pts N 0) b := best_ex _ _ (w_pts_ne hw hd.2)
theorem vv_m_ex (hw : q_wf N) (hd : y_cc N) : ∃ b, w_best (w_Cv N 0) (w_pts N 0) b := best_ex _ _ (w_pts_ne hw hd.2)
theorem vv_c_o (hw : q_wf N) (hd : y_cc N) : h_opt N (h_fH N 0 S) (vv_c N S).1 (vv_c N S).2 := by
  obtain ⟨b, hb⟩ := vv_c_ex hw hd S
  rw [(vv_c_b hw hd hb).1]
  exact cl_optH hw hd.1 (by decide) (by decide) hb
theorem vv_m_o (hw : q_wf N) (hd : y_cc N) : h_opt N (h_fC N 0) (vv_m N).1 (vv_m N).2 := by
  obtain ⟨b, hb⟩ := vv_m_ex hw hd
  rw [(vv_m_b hw hd hb).1]
  exact cl_optC hw hd.1 (by decide) (by decide) hb
/-- bounds of what is told of center and radius -/
theorem vv_c_bd (hw : q_wf N) (hd : y_cc N) : (vv_c N S).1 < w_ne N ∧ (0 ≤ q_pt (vv_c N S).2 0 ∧ q_pt (vv_c N S).2 0 ≤ 50000) ∧ (1 ≤ q_pt (vv_c N S).2 1 ∧ q_pt (vv_c N S).2 1 ≤ 1000) ∧ (0 ≤ q_pt (vv_r N S) 0 ∧ q_pt (vv_r N S) 0 ≤ 2147483647) ∧ 1 ≤ q_pt (vv_r N S) 1 ∧ q_pt (vv_r N S) 1 ≤ 1000 := by
  obtain ⟨b, hb⟩ := vv_c_ex hw hd S
  obtain ⟨h1, h2⟩ := vv_c_b hw hd hb
  obtain ⟨b1, b2, b3⟩ := w_bok hw hd.1 (by decide) (by decide) hb
  obtain ⟨c1, c2⟩ := w_Hvb (S := S) hw hd.1 (by decide) (by decide) ⟨b1, b2⟩
  obtain ⟨d1, d2, d3, d4, d5, d6⟩ := b2
  have e1 := q_ptb (x := b.2.1) (y := b.2.2) (B := 50000) (C := 1000) d5 (by omega) b3 d2
  have e2 := q_ptb (x := w_Hv N 0 S b) (y := b.2.2) (B := 2147483647) (C := 1000) c1 (by omega) c2 d2
  rw [h1, h2]
  exact ⟨b1, e1.1, e1.2, e2.1, e2.2⟩
theorem vv_m_bd (hw : q_wf N) (hd : y_cc N) : (vv_m N).1 < w_ne N ∧ (0 ≤ q_pt (vv_m N).2 0 ∧ q_pt (vv_m N).2 0 ≤ 50000) ∧ (1 ≤ q_pt (vv_m N).2 1 ∧ q_pt (vv_m N).2 1 ≤ 1000) ∧ (0 ≤ q_pt (vv_mr N) 0 ∧ q_pt (vv_mr N) 0 ≤ 2147483647) ∧ 1 ≤ q_pt (vv_mr N) 1 ∧ q_pt (vv_mr N) 1 ≤ 1000 := by
  obtain ⟨b, hb⟩ := vv_m_ex hw hd
  obtain ⟨h1, h2⟩ := vv_m_b hw hd hb
  obtain ⟨b1, b2, b3⟩ := w_bok hw hd.1 (by decide) (by decide) hb
  obtain ⟨c1, c2⟩ := w_Cvb hw hd.1 (by decide) (by decide) ⟨b1, b2⟩
  obtain ⟨d1, d2, d3, d4, d5, d6⟩ := b2
  have e1 := q_ptb (x := b.2.1) (y := b.2.2) (B := 50000) (C := 1000) d5 (by omega) b3 d2
  have e2 := q_ptb (x := w_Cv N 0 b) (y := b.2.2) (B := 2147483647) (C := 1000) c1 (by omega) c2 d2
  rw [h1, h2]
  exact ⟨b1, e1.1, e1.2, e2.1, e2.2⟩
/-- the critical nodes -/
noncomputable def vv_cr (N : Nat → Nat → Int) (S : Int) : Int := by
  classical
  exact w_or (fun i => decide (q_bt S i = true ∧ h_F N 0 (vv_c N S).1 i (vv_c N S).2 = vv_r N S)) (w_nn N)
theorem vv_cr_b (hw : q_wf N) (hd : y_cc N) (hb : w_best (w_Hv N 0 S) (w_pts N 0) b) : w_or (fun i => decide (q_bt S i = true ∧ w_F N 0 b.1 i b.2.1 b.2.2 = w_Hv N 0 S b)) (w_nn N) = vv_cr N S := by
  obtain ⟨h1, h2⟩ := vv_c_b hw hd hb
  have hq := (w_pts_v hw hd.1 (by decide) (by decide) hb.1).2
  unfold vv_cr
  congr 1
  funext i
  rw [h1, h2]
  have h3 : (w_F N 0 b.1 i b.2.1 b.2.2 = w_Hv N 0 S b) = (h_F N 0 b.1 i (fr b.2.1 b.2.2) = fr (w_Hv N 0 S b) b.2.2) := by
    rw [← h_Ffr hq, fr_eq hq hq]
    apply propext
    constructor
    · intro h; rw [h]
    · intro h; exact Int.eq_of_mul_eq_mul_right (by omega) h
  apply decide_eq_decide.mpr
  rw [h3]
end
end
