section
/-! The class's points find the best too. -/
section
variable {N : Nat → Nat → Int} {t S p q p' q' v v' : Int} {g g' i j l m n k : Nat} {x x' r : Rat} {f : Nat → Rat → Rat} {V : wP → Int} {L : List wP} {b : wP}
theorem w_pts_0 (hg : g < w_ne N) (hq : w_al N g 0 1 = true) : (g, 0, 1) ∈ w_pts N t := by
  refine List.mem_append_left _ (q_cat_mem.mpr ⟨g, hg, ?_⟩)
  exact List.mem_append_left _ (List.mem_append_left _ (w_ap_mem.mpr ⟨rfl, hq⟩))
theorem w_pts_l (hg : g < w_ne N) (hq : w_al N g (N 10 g) 1 = true) : (g, N 10 g, 1) ∈ w_pts N t := by
  refine List.mem_append_left _ (q_cat_mem.mpr ⟨g, hg, ?_⟩)
  exact List.mem_append_left _ (List.mem_append_right _ (w_ap_mem.mpr ⟨rfl, hq⟩))
theorem w_pts_s (hk : k < w_ns N) (h12 : N 12 k = (g : Int)) : (w_al N g (N 14 k) 1 = true → (g, N 14 k, 1) ∈ w_pts N t) ∧ (w_al N g (N 16 k) 1 = true → (g, N 16 k, 1) ∈ w_pts N t) := by
  have hg : (N 12 k).toNat = g := by omega
  constructor
  · intro hq
    refine List.mem_append_right _ (q_cat_mem.mpr ⟨k, hk, ?_⟩)
    unfold w_ps
    rw [hg]
    exact List.mem_append_left _ (w_ap_mem.mpr ⟨rfl, hq⟩)
  · intro hq
    refine List.mem_append_right _ (q_cat_mem.mpr ⟨k, hk, ?_⟩)
    unfold w_ps
    rw [hg]
    exact List.mem_append_right _ (w_ap_mem.mpr ⟨rfl, hq⟩)
theorem h_al1 {a : Int} : w_al N g a 1 = true ↔ h_al N g (a : Rat) := by
  rw [h_alfr (by decide), fr_1]
/-- where a falling line meets a rising one -/
theorem h_meet (hw : q_wf N) (hi : i < w_nn N) (hj : j < w_nn N) (hg : g < w_ne N) (hx0 : 0 < x) (hx1 : x < (N 10 g : Rat)) (ha : h_al N g x) (Wi : 0 < w_W N t i) (Wj : 0 < w_W N t j) (he : (w_W N t j : Rat) * ((w_o N g j : Rat) + x) = (w_W N t i : Rat) * ((w_b N g i : Rat) - x)) (hr : (w_o N g j : Rat) + x < (w_b N g j : Rat) - x) (hf : (w_b N g i : Rat) - x < (w_o N g i : Rat) + x) : ∃ y, y ∈ w_pts N t ∧ y.1 = g ∧ fr y.2.1 y.2.2 = x := by
  have hB : 0 < w_xB N t j i := by unfold w_xB; omega
  have hBr : (0 : Rat) < (w_xB N t j i : Rat) := Rat.intCast_pos.mpr hB
  have eB : (w_xB N t j i : Rat) = (w_W N t j : Rat) + (w_W N t i : Rat) := by unfold w_xB; rw [Rat.intCast_add]
  have eT : (w_xT N t g j i : Rat) = x * (w_xB N t j i : Rat) := by
    unfold w_xT
    rw [Rat.intCast_sub, Rat.intCast_mul, Rat.intCast_mul, eB]
    grind
  have efr : fr (w_xT N t g j i) (w_xB N t j i) = x := by
    unfold fr
    rw [eT]
    exact Rat.mul_div_cancel (Rat.ne_of_gt hBr)
  have c3 : 0 < w_xT N t g j i := by
    have : (0 : Rat) < (w_xT N t g j i : Rat) := by rw [eT]; exact Rat.mul_pos hx0 hBr
    exact Rat.intCast_pos.mp this
  have c4 : w_xT N t g j i < N 10 g * w_xB N t j i := by
    have : (w_xT N t g j i : Rat) < ((N 10 g * w_xB N t j i : Int) : Rat) := by
      rw [eT, Rat.intCast_mul]
      exact Rat.mul_lt_mul_of_pos_right hx1 hBr
    exact Rat.intCast_lt_intCast.mp this
  have eld : ∀ k, (w_ld N t g j i k : Rat) = ((w_b N g k : Rat) - (w_o N g k : Rat) - 2 * x) * (w_xB N t j i : Rat) := by
    intro k
    unfold w_ld
    rw [Rat.intCast_sub, Rat.intCast_mul, Rat.intCast_mul, Rat.intCast_sub, eT]
    show ((w_b N g k : Rat) - (w_o N g k : Rat)) * (w_xB N t j i : Rat) - (2 : Rat) * (x * (w_xB N t j i : Rat)) = _
    grind
  have c5 : 0 < w_ld N t g j i j := by
    have : (0 : Rat) < (w_ld N t g j i j : Rat) := by rw [eld]; exact Rat.mul_pos (by grind) hBr
    exact Rat.intCast_pos.mp this
  have c6 : w_ld N t g j i i < 0 := by
    have : (w_ld N t g j i i : Rat) < ((0 : Int) : Rat) := by
      rw [eld]
      have := (Rat.mul_neg_iff_of_pos_right (a := (w_b N g i : Rat) - (w_o N g i : Rat) - 2 * x) hBr).mpr (by grind)
      exact this
    exact Rat.intCast_lt_intCast.mp this
  have hac : w_ac N t g j i = true := decide_eq_true ⟨Wj, Wi, c3, c4, c5, c6⟩
  have hal : w_al N g (w_xT N t g j i) (w_xB N t j i) = true := by rw [h_alfr hB, efr]; exact ha
  refine ⟨(g, w_xT N t g j i, w_xB N t j i), ?_, rfl, efr⟩
  refine List.mem_append_left _ (q_cat_mem.mpr ⟨g, hg, ?_⟩)
  refine List.mem_append_right _ (q_cat_mem.mpr ⟨j, hj, q_cat_mem.mpr ⟨i, hi, ?_⟩⟩)
  unfold w_xl
  rw [if_pos hac]
  exact w_ap_mem.mpr ⟨rfl, hal⟩
theorem h_cls (hw : q_wf N) (hc : w_cn N) (ht : 0 ≤ t) (ht2 : t ≤ 10) (hv : h_v N g x) (hE : ∀ z, h_v N g z → ¬ w_lx (h_fH N t S g z) g z (h_fH N t S g x) g x) : ∃ y, y ∈ w_pts N t ∧ y.1 = g ∧ fr y.2.1 y.2.2 = x := by
  obtain ⟨hg, hx0, hx1, hal⟩ := id hv
  have n8 := (wf_n hw).2.2
  by_cases e0 : x = 0
  · refine ⟨(g, 0, 1), w_pts_0 hg (h_al1.mpr ?_), rfl, ?_⟩
    · rw [e0] at hal; exact hal
    · show fr 0 1 = x; rw [fr_0, e0]
  by_cases e1 : x = (N 10 g : Rat)
  · refine ⟨(g, N 10 g, 1), w_pts_l hg (h_al1.mpr ?_), rfl, ?_⟩
    · rw [e1] at hal; exact hal
    · show fr (N 10 g) 1 = x; rw [fr_1, e1]
  by_cases es : ∃ k, k < w_ns N ∧ N 12 k = (g : Int) ∧ (x = (N 14 k : Rat) ∨ x = (N 16 k : Rat))
  · obtain ⟨k, k1, k2, k3⟩ := es
    obtain ⟨s1, s2⟩ := w_pts_s (t := t) k1 k2
    rcases k3 with e | e
    · refine ⟨(g, N 14 k, 1), s1 (h_al1.mpr ?_), rfl, ?_⟩
      · rw [e] at hal; exact hal
      · show fr (N 14 k) 1 = x; rw [fr_1, e]
    · refine ⟨(g, N 16 k, 1), s2 (h_al1.mpr ?_), rfl, ?_⟩
      · rw [e] at hal; exact hal
      · show fr (N 16 k) 1 = x; rw [fr_1, e]
  have x0 : 0 < x := Rat.lt_of_le_of_ne hx0 (fun q => e0 q.symm)
  have x1 : x < (N 10 g : Rat) := Rat.lt_of_le_of_ne hx1 e1
  obtain ⟨H, hH⟩ : ∃ H, H = h_H N t S g x (w_nn N) := ⟨_, rfl⟩
  -- a small step
  obtain ⟨a, a1, a2⟩ := h_eps (w_ns N) (fun k => if N 12 k = (g : Int) then (if x < (N 14 k : Rat) then (N 14 k : Rat) - x else x - (N 16 k : Rat)) else 1) (by
    intro k hk
    try dsimp only
    split
    · next h12 =>
      have h1 := hal k hk
      have h2 : x ≠ (N 14 k : Rat) := fun q => es ⟨k, hk, h12, Or.inl q⟩
      have h3 : x ≠ (N 16 k : Rat) := fun q => es ⟨k, hk, h12, Or.inr q⟩
      split
      · grind
      · grind
    · decide)
  obtain ⟨b, b1, b2⟩ := h_eps (w_nn N) (fun i => if h_F N t g i x < H then (H - h_F N t g i x) * (1 / 100) else 1) (by
    intro i hi
    try dsimp only
    split
    · next h => grind
    · decide)
  obtain ⟨e, p0, p1⟩ := h_eps 4 (fun i => if i = 0 then x else if i = 1 then (N 10 g : Rat) - x else if i = 2 then a else b) (by
    intro i hi
    try dsimp only
    split
    · exact x0
    · split
      · grind
      · split
        · exact a1
        · exact b1)
  have q0 : e ≤ x := p1 0 (by omega)
  have q1 : e ≤ (N 10 g : Rat) - x := p1 1 (by omega)
  have q2 : e ≤ a := p1 2 (by omega)
  have q3 : e ≤ b := p1 3 (by omega)
  have st : ∀ k, k < w_ns N → N 12 k = (g : Int) → (x < (N 14 k : Rat) ∧ e ≤ (N 14 k : Rat) - x) ∨ e ≤ x - (N 16 k : Rat) := by
    intro k hk h12
    have h := a2 k hk
    try dsimp only at h
    rw [if_pos h12] at h
    split at h
    · next h' => exact Or.inl ⟨h', Rat.le_trans q2 h⟩
    · exact Or.inr (Rat.le_trans q2 h)
  have far : ∀ i, i < w_nn N → h_F N t g i x < H → e * 100 ≤ H - h_F N t g i x := by
    intro i hi h
    have h2 := b2 i hi
    try dsimp only at h2
    rw [if_pos h] at h2
    grind
  have vl : h_v N g (x - e) := by
    refine ⟨hg, by grind, by grind, fun k hk ⟨k1, k2, k3⟩ => ?_⟩
    rcases st k hk k1 with ⟨s1, s2⟩ | s1
    · grind
    · grind
  have vr : h_v N g (x + e) := by
    refine ⟨hg, by grind, by grind, fun k hk ⟨k1, k2, k3⟩ => ?_⟩
    rcases st k hk k1 with ⟨s1, s2⟩ | s1
    · grind
    · grind
  have El := w_lx_g.mp (hE _ vl)
  have Er := w_lx_g.mp (hE _ vr)
  have hHf : h_fH N t S g x = H := hH.symm
  rw [hHf] at El Er
  have El1 : H < h_H N t S g (x - e) (w_nn N) := by
    refine Rat.lt_of_le_of_ne El.1 (fun q => ?_)
    have := El.2 q.symm
    grind
  have Er1 : H ≤ h_H N t S g (x + e) (w_nn N) := Er.1
  have H0 : 0 ≤ H := by rw [hH]; exact h_H_nn _
  have W99 : ∀ i, i < w_nn N → (0 : Rat) ≤ (w_W N t i : Rat) ∧ (w_W N t i : Rat) * e ≤ 99 * e := by
    intro i hi
    have h := w_Wb hw (i := i) (by omega) ht
    refine ⟨Rat.intCast_nonneg.mpr h.1, ?_⟩
    exact Rat.mul_le_mul_of_nonneg_right (show (w_W N t i : Rat) ≤ ((99 : Int) : Rat) from Rat.intCast_le_intCast.mpr (by omega)) (Rat.le_of_lt p0)
  have Hge : ∀ i, i < w_nn N → q_bt S i = true → h_F N t g i x ≤ H := fun i hi hb => by rw [hH]; exact h_H_ge i hi hb
  -- the falling one
  obtain ⟨i, i1, i2, i3⟩ : ∃ i, i < w_nn N ∧ q_bt S i = true ∧ H < h_F N t g i (x - e) := by
    rcases h_H_at (N := N) (t := t) (S := S) (g := g) (x := x - e) (n := w_nn N) with h | ⟨i, h1, h2, h3⟩
    · rw [h] at El1; grind
    · exact ⟨i, h1, h2, by rw [h3]; exact El1⟩
  obtain ⟨si1, si2, si3, si4⟩ := h_r_step (N := N) (g := g) (i := i) (x := x) p0
  have wi := W99 i i1
  have fi1 : h_F N t g i (x - e) ≤ h_F N t g i x + 99 * e := by
    have := Rat.mul_le_mul_of_nonneg_left si1 wi.1
    rw [Rat.mul_add] at this
    unfold h_F
    grind
  have fiH : h_F N t g i x = H := by
    refine Rat.le_antisymm (Hge i i1 i2) (Rat.not_lt.mp (fun q => ?_))
    have := far i i1 q
    grind
  have fif : (w_b N g i : Rat) - x < (w_o N g i : Rat) + x := by
    refine Classical.byContradiction (fun q => ?_)
    have := Rat.mul_le_mul_of_nonneg_left (si3 q) wi.1
    have h4 : h_F N t g i (x - e) ≤ h_F N t g i x := this
    grind
  have Wi0 : 0 < w_W N t i := by
    have h := w_Wb hw (i := i) (by omega) ht
    rcases Int.lt_or_eq_of_le h.1 with q | q
    · exact q
    · exfalso
      unfold h_F at i3
      rw [← q] at i3
      have : ((0 : Int) : Rat) * h_r N g i (x - e) = 0 := Rat.zero_mul _
      grind
  have eFi : h_F N t g i x = (w_W N t i : Rat) * ((w_b N g i : Rat) - x) := by
    unfold h_F h_r
    rw [if_pos fif]
  have obi := w_ob hw hc hg i1
  have Hp : 0 < H := by
    rw [← fiH, eFi]
    refine Rat.mul_pos (Rat.intCast_pos.mpr Wi0) ?_
    have : (N 10 g : Rat) ≤ (w_b N g i : Rat) := Rat.intCast_le_intCast.mpr obi.2.2.2.2
    grind
  -- the rising one
  obtain ⟨j, j1, j2, j3⟩ : ∃ j, j < w_nn N ∧ q_bt S j = true ∧ H ≤ h_F N t g j (x + e) := by
    rcases h_H_at (N := N) (t := t) (S := S) (g := g) (x := x + e) (n := w_nn N) with h | ⟨i, h1, h2, h3⟩
    · rw [h] at Er1; grind
    · exact ⟨i, h1, h2, by rw [h3]; exact Er1⟩
  obtain ⟨sj1, sj2, sj3, sj4⟩ := h_r_step (N := N) (g := g) (i := j) (x := x) p0
  have wj := W99 j j1
  have fj1 : h_F N t g j (x + e) ≤ h_F N t g j x + 99 * e := by
    have := Rat.mul_le_mul_of_nonneg_left sj2 wj.1
    rw [Rat.mul_add] at this
    unfold h_F
    grind
  have fjH : h_F N t g j x = H := by
    refine Rat.le_antisymm (Hge j j1 j2) (Rat.not_lt.mp (fun q => ?_))
    have := far j j1 q
    grind
  have Wj0 : 0 < w_W N t j := by
    have h := w_Wb hw (i := j) (by omega) ht
    rcases Int.lt_or_eq_of_le h.1 with q | q
    · exact q
    · exfalso
      unfold h_F at fjH
      rw [← q] at fjH
      have : ((0 : Int) : Rat) * h_r N g j x = 0 := Rat.zero_mul _
      grind
  have fjr : (w_o N g j : Rat) + x < (w_b N g j : Rat) - x := by
    refine Classical.byContradiction (fun q => ?_)
    have h1 := Rat.mul_le_mul_of_nonneg_left (sj4 q) wj.1
    rw [Rat.mul_add] at h1
    have h2 : h_F N t g j (x + e) + (w_W N t j : Rat) * e ≤ h_F N t g j x := h1
    have h3 : 0 < (w_W N t j : Rat) * e := Rat.mul_pos (Rat.intCast_pos.mpr Wj0) p0
    grind
  have eFj : h_F N t g j x = (w_W N t j : Rat) * ((w_o N g j : Rat) + x) := by
    unfold h_F h_r
    rw [if_neg (by grind)]
  exact h_meet hw i1 j1 hg x0 x1 hal Wi0 Wj0 (by rw [← eFi, ← eFj, fiH, fjH]) fjr fif
theorem cl_domH (hw : q_wf N) (hc : w_cn N) (ht : 0 ≤ t) (ht2 : t ≤ 10) (hx : h_v N g x) : ∃ y, y ∈ w_pts N t ∧ ¬ w_lx (h_fH N t S g x) g x (h_fH N t S y.1 (fr y.2.1 y.2.2)) y.1 (fr y.2.1 y.2.2) := by
  obtain ⟨y0, y1, -, -⟩ := mo_domH (S := S) hw hc ht ht2 hx
  obtain ⟨b, b1, b2⟩ := best_ex (w_Hv N t S) (z_pe N t S g) (fun q => by rw [q] at y1; exact absurd y1 List.not_mem_nil)
  have hb1 := (z_pe_mem.mp b1).1
  have vb : ∀ y, y ∈ z_pe N t S g → h_v N y.1 (fr y.2.1 y.2.2) ∧ 0 < y.2.2 := by
    intro y hy
    refine z_ps_v hw hc ht ht2 (S := S) (z_ps_mem.mpr ?_)
    obtain ⟨h1, h2, h3⟩ := z_pe_mem.mp hy
    rw [h1]
    exact ⟨hx.1, h2, h3⟩
  have key : ∀ z, h_v N g z → ¬ w_lx (h_fH N t S g z) g z (h_fH N t S g (fr b.2.1 b.2.2)) g (fr b.2.1 b.2.2) := by
    intro z hz q
    obtain ⟨y, u1, -, u2⟩ := mo_domH (S := S) hw hc ht ht2 hz
    refine b2 y u1 ?_
    unfold w_pl
    rw [h_fHq (vb y u1).2, h_fHq (vb b b1).2, hb1]
    exact w_lx_le u2 q
  have vbx := (vb b b1).1
  rw [hb1] at vbx
  obtain ⟨y, u1, u2, u3⟩ := h_cls hw hc ht ht2 vbx key
  refine ⟨y, u1, ?_⟩
  rw [u2, u3]
  exact key x hx
theorem cl_optH (hw : q_wf N) (hc : w_cn N) (ht : 0 ≤ t) (ht2 : t ≤ 10) (hb : w_best (w_Hv N t S) (w_pts N t) b) : h_opt N (h_fH N t S) b.1 (fr b.2.1 b.2.2) :=
  h_opt_of (fun y hy => h_fHq (w_pts_v hw hc ht ht2 hy).2) (fun y hy => (w_pts_v hw hc ht ht2 hy).1) (fun g x hx => cl_domH (S := S) hw hc ht ht2 hx) hb
/-- the least cost is at an end -/
theorem h_tan (hw : q_wf N) (ht : 0 ≤ t) (x : Rat) : ∀ n, n ≤ 8 → ∃ T M : Rat, h_C N t g x n = T + M * x ∧ ∀ z, h_C N t g z n ≤ T + M * z
  | 0, _ => ⟨0, 0, by show (0 : Rat) = 0 + 0 * x; grind, fun z => by show (0 : Rat) ≤ 0 + 0 * z; grind⟩
  | n + 1, hn => by
    obtain ⟨T, M, h1, h2⟩ := h_tan hw ht x n (by omega)
    have W := (w_Wb hw (i := n) (by omega) ht).1
    obtain ⟨l, l1, l2⟩ : ∃ l, (∀ z, h_F N t g n z ≤ h_l N t g l z) ∧ h_F N t g n x = h_l N t g l x := by
      rcases (h_Fl (N := N) (g := g) (x := x) W).2.2 with e | e
      · exact ⟨_, fun z => (h_Fl (N := N) (g := g) (x := z) W).1, e⟩
      · exact ⟨_, fun z => (h_Fl (N := N) (g := g) (x := z) W).2.1, e⟩
    refine ⟨T + (w_lt N t g l : Rat), M + (w_ls N t l : Rat), ?_, fun z => ?_⟩
    · show h_C N t g x n + h_F N t g n x = _
      rw [h1, l2]
      unfold h_l
      grind
    · show h_C N t g z n + h_F N t g n z ≤ _
      have a1 := h2 z
      have a2 := l1 z
      unfold h_l at a2
      grind
def h_en (N : Nat → Nat → Int) (g : Nat) : List Int := [0, N 10 g] ++ q_cat (fun k => if N 12 k = (g : Int) then [N 14 k, N 16 k] else []) (w_ns N)
theorem h_en_mem {e : Int} : e ∈ h_en N g ↔ e = 0 ∨ e = N 10 g ∨ ∃ k, k < w_ns N ∧ N 12 k = (g : Int) ∧ (e = N 14 k ∨ e = N 16 k) := by
  unfold h_en
  rw [List.mem_append, q_cat_mem]
  constructor
  · rintro (h | ⟨k, k1, h⟩)
    · simp at h
      rcases h with h | h
      · exact Or.inl h
      · exact Or.inr (Or.inl h)
    · try dsimp only at h
      split at h
      · next h12 =>
        simp at h
        exact Or.inr (Or.inr ⟨k, k1, h12, h⟩)
      · exact absurd h List.not_mem_nil
  · rintro (h | h | ⟨k, k1, k2, h⟩)
    · left; simp [h]
    · left; simp [h]
    · right
      refine ⟨k, k1, ?_⟩
      rw [if_pos k2]
      simp [h]
theorem h_domC (hw : q_wf N) (ht : 0 ≤ t) (hv : h_v N g x) : ∃ e : Int, e ∈ h_en N g ∧ h_v N g (e : Rat) ∧ ¬ w_lx (h_fC N t g x) g x (h_fC N t g (e : Rat)) g (e : Rat) := by
  obtain ⟨hg, hx0, hx1, hal⟩ := id hv
  have n8 := (wf_n hw).2.2
  by_cases hx : ∃ e : Int, e ∈ h_en N g ∧ (e : Rat) = x
  · obtain ⟨e, e1, e2⟩ := hx
    exact ⟨e, e1, by rw [e2]; exact hv, by rw [e2]; exact w_lx_irr⟩
  · have hx' : ∀ e : Int, e ∈ h_en N g → (e : Rat) ≠ x := fun e he q => hx ⟨e, he, q⟩
    have m0 : (0 : Int) ∈ h_en N g := h_en_mem.mpr (Or.inl rfl)
    have m1 : N 10 g ∈ h_en N g := h_en_mem.mpr (Or.inr (Or.inl rfl))
    have l0 : ((0 : Int) : Rat) < x := Rat.lt_of_le_of_ne hx0 (hx' _ m0)
    have l1 : x < (N 10 g : Rat) := Rat.lt_of_le_of_ne hx1 (fun q => hx' _ m1 q.symm)
    obtain ⟨a, am, al, ab⟩ := l_max (fun e : Int => (e : Rat)) x (h_en N g) ⟨0, m0, l0⟩
    obtain ⟨c, cm, cl, cb⟩ := l_min (fun e : Int => (e : Rat)) x (h_en N g) ⟨_, m1, l1⟩
    have al : (a : Rat) < x := al
    have cl : x < (c : Rat) := cl
    have a0 : ((0 : Int) : Rat) ≤ (a : Rat) := ab 0 m0 l0
    have c1 : (c : Rat) ≤ (N 10 g : Rat) := cb _ m1 l1
    have a0' : (0 : Rat) ≤ (a : Rat) := a0
    have no : ∀ e : Int, e ∈ h_en N g → ¬ ((a : Rat) < (e : Rat) ∧ (e : Rat) ≤ x) ∧ ¬ (x ≤ (e : Rat) ∧ (e : Rat) < (c : Rat)) := by
      intro e he
      have := hx' e he
      constructor
      · rintro ⟨q1, q2⟩
        have := ab e he (Rat.lt_of_le_of_ne q2 this)
        grind
      · rintro ⟨q1, q2⟩
        have := cb e he (Rat.lt_of_le_of_ne q1 (fun q => this q.symm))
        grind
    have hA : h_v N g (a : Rat) := by
      refine ⟨hg, a0', by grind, ?_⟩
      rintro k hk ⟨k1, k2, k3⟩
      refine hal k hk ⟨k1, r_tr k2 al, ?_⟩
      rw [← Rat.not_le]
      exact fun q => (no _ (h_en_mem.mpr (Or.inr (Or.inr ⟨k, hk, k1, Or.inr rfl⟩)))).1 ⟨k3, q⟩
    have hC : h_v N g (c : Rat) := by
      refine ⟨hg, by grind, c1, ?_⟩
      rintro k hk ⟨k1, k2, k3⟩
      refine hal k hk ⟨k1, ?_, r_tr cl k3⟩
      rw [← Rat.not_le]
      exact fun q => (no _ (h_en_mem.mpr (Or.inr (Or.inr ⟨k, hk, k1, Or.inl rfl⟩)))).2 ⟨q, k2⟩
    obtain ⟨T, M, t1, t2⟩ := h_tan (N := N) (t := t) (g := g) hw ht x (w_nn N) n8
    have tA := t2 (a : Rat)
    have tC := t2 (c : Rat)
    rcases Rat.le_total (a := 0) (b := M) with hM | hM
    · have := Rat.mul_le_mul_of_nonneg_left (Rat.le_of_lt al) hM
      refine ⟨a, am, hA, w_lx_g.mpr ⟨?_, fun _ => Rat.le_of_lt al⟩⟩
      unfold h_fC
      grind
    · by_cases hM0 : M = 0
      · refine ⟨a, am, hA, w_lx_g.mpr ⟨?_, fun _ => Rat.le_of_lt al⟩⟩
        unfold h_fC
        rw [hM0] at t1 tA
        grind
      · have hMn : 0 < -M := by
          have : 0 ≤ -M := by grind
          exact Rat.lt_of_le_of_ne this (fun q => hM0 (by grind))
        have := Rat.mul_lt_mul_of_pos_left cl hMn
        refine ⟨c, cm, hC, w_lx_g.mpr ⟨?_, fun q => ?_⟩⟩
        · unfold h_fC; grind
        · unfold h_fC at q; grind
theorem cl_optC (hw : q_wf N) (hc : w_cn N) (ht : 0 ≤ t) (ht2 : t ≤ 10) (hb : w_best (w_Cv N t) (w_pts N t) b) : h_opt N (h_fC N t) b.1 (fr b.2.1 b.2.2) :=
  h_opt_of (fun y hy => h_fCq (w_pts_v hw hc ht ht2 hy).2) (fun y hy => (w_pts_v hw hc ht ht2 hy).1) (fun g x hx => by
    obtain ⟨e, e1, e2, e3⟩ := h_domC (t := t) hw ht hx
    have hm : (g, e, 1) ∈ w_pts N t := by
      have ha := h_al1.mpr e2.2.2.2
      rcases h_en_mem.mp e1 with rfl | rfl | ⟨k, k1, k2, rfl | rfl⟩
      · exact w_pts_0 hx.1 ha
      · exact w_pts_l hx.1 ha
      · exact (w_pts_s k1 k2).1 ha
      · exact (w_pts_s k1 k2).2 ha
    refine ⟨(g, e, 1), hm, ?_⟩
    show ¬ w_lx (h_fC N t g x) g x (h_fC N t g (fr e 1)) g (fr e 1)
    rw [fr_1]
    exact e3) hb
theorem mo_optC (hw : q_wf N) (hc : w_cn N) (ht : 0 ≤ t) (ht2 : t ≤ 10) (hb : w_best (w_Cv N t) (z_ps N t S) b) : h_opt N (h_fC N t) b.1 (fr b.2.1 b.2.2) :=
  h_opt_of (fun y hy => h_fCq (z_ps_v hw hc ht ht2 hy).2) (fun y hy => (z_ps_v hw hc ht ht2 hy).1) (fun g x hx => by
    obtain ⟨e, e1, e2, e3⟩ := h_domC (t := t) hw ht hx
    have hm : ∃ y, y ∈ z_xs N t S g ∧ fr y.1 y.2 = (e : Rat) := by
      rcases h_en_mem.mp e1 with rfl | rfl | ⟨k, k1, k2, rfl | rfl⟩
      · exact (z_xs_0 hw hx.1).1
      · exact (z_xs_0 hw hx.1).2
      · exact (z_xs_s hw hx.1 k1 k2).1
      · exact (z_xs_s hw hx.1 k1 k2).2
    obtain ⟨y, y1, y2⟩ := hm
    refine ⟨(g, y.1, y.2), (z_ps_in hw hc ht ht2 hx.1 y1 (by rw [y2]; exact e2.2.2.2)).1, ?_⟩
    show ¬ w_lx (h_fC N t g x) g x (h_fC N t g (fr y.1 y.2)) g (fr y.1 y.2)
    rw [y2]
    exact e3) hb
end
end
