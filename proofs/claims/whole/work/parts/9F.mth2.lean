section
/-! Every allowed point is at most as good as one of the model's crossings. -/
theorem l_max {α : Type} (f : α → Rat) (x : Rat) : ∀ L : List α, (∃ y, y ∈ L ∧ f y < x) → ∃ a, a ∈ L ∧ f a < x ∧ ∀ y, y ∈ L → f y < x → f y ≤ f a
  | [], h => by obtain ⟨y, hy, -⟩ := h; exact absurd hy List.not_mem_nil
  | b :: L, h => by
    by_cases hL : ∃ y, y ∈ L ∧ f y < x
    · obtain ⟨a, a1, a2, a3⟩ := l_max f x L hL
      by_cases c : f b < x ∧ f a < f b
      · refine ⟨b, List.mem_cons_self .., c.1, fun y hy h => ?_⟩
        rcases List.mem_cons.mp hy with rfl | hy
        · exact Rat.le_refl
        · exact Rat.le_trans (a3 y hy h) (Rat.le_of_lt c.2)
      · refine ⟨a, List.mem_cons_of_mem _ a1, a2, fun y hy h' => ?_⟩
        rcases List.mem_cons.mp hy with rfl | hy
        · exact Rat.not_lt.mp (fun q => c ⟨h', q⟩)
        · exact a3 y hy h'
    · obtain ⟨y, hy, h⟩ := h
      rcases List.mem_cons.mp hy with rfl | hy
      · refine ⟨y, List.mem_cons_self .., h, fun z hz h' => ?_⟩
        rcases List.mem_cons.mp hz with rfl | hz
        · exact Rat.le_refl
        · exact absurd ⟨z, hz, h'⟩ hL
      · exact absurd ⟨y, hy, h⟩ hL
theorem l_min {α : Type} (f : α → Rat) (x : Rat) (L : List α) (h : ∃ y, y ∈ L ∧ x < f y) : ∃ a, a ∈ L ∧ x < f a ∧ ∀ y, y ∈ L → x < f y → f a ≤ f y := by
  obtain ⟨y, hy, h1⟩ := h
  obtain ⟨a, a1, a2, a3⟩ := l_max (fun z => - f z) (-x) L ⟨y, hy, Rat.neg_lt_neg h1⟩
  exact ⟨a, a1, Rat.neg_lt_neg_iff.mp a2, fun y hy h => Rat.neg_le_neg_iff.mp (a3 y hy (Rat.neg_lt_neg h))⟩
/-- two lines that change places meet in between -/
theorem h_root {l0 ls m0 ms u v : Rat} (h1 : l0 + ls * u < m0 + ms * u) (h2 : m0 + ms * v ≤ l0 + ls * v) : ls ≠ ms ∧ ∃ r, l0 + ls * r = m0 + ms * r ∧ (u < v → u < r ∧ r ≤ v) ∧ (v < u → v ≤ r ∧ r < u) := by
  have hne : ls - ms ≠ 0 := by
    intro h
    have e : ls = ms := by grind
    subst e
    grind
  obtain ⟨d, hd⟩ : ∃ d, d = ls - ms := ⟨_, rfl⟩
  rw [← hd] at hne
  obtain ⟨r, hr⟩ : ∃ r, r = (m0 - l0) / d := ⟨_, rfl⟩
  have er : r * d = m0 - l0 := by rw [hr]; exact Rat.div_mul_cancel hne
  have a1 : d * u < d * r := by rw [Rat.mul_comm d r, er, hd]; grind
  have a2 : d * r ≤ d * v := by rw [Rat.mul_comm d r, er, hd]; grind
  refine ⟨fun q => hne (by rw [hd, q]; grind), r, ?_, fun huv => ?_, fun hvu => ?_⟩
  · have : r * (ls - ms) = m0 - l0 := by rw [← hd]; exact er
    grind
  · have hp : 0 < d := by
      rcases Rat.le_total (a := d) (b := 0) with c | c
      · have := Rat.mul_le_mul_of_nonneg_left (Rat.le_of_lt huv) (Rat.neg_le_neg c)
        exfalso
        grind
      · exact Rat.lt_of_le_of_ne c (fun q => hne q.symm)
    exact ⟨Rat.lt_of_mul_lt_mul_left a1 (Rat.le_of_lt hp), Rat.le_of_mul_le_mul_left a2 hp⟩
  · have hp : 0 < -d := by
      rcases Rat.le_total (a := 0) (b := d) with c | c
      · have := Rat.mul_le_mul_of_nonneg_left (Rat.le_of_lt hvu) c
        exfalso
        grind
      · exact Rat.lt_of_le_of_ne (by grind) (fun q => hne (by grind))
    have b1 : -d * r < -d * u := by rw [Rat.neg_mul, Rat.neg_mul]; exact Rat.neg_lt_neg a1
    have b2 : -d * v ≤ -d * r := by rw [Rat.neg_mul, Rat.neg_mul]; exact Rat.neg_le_neg a2
    exact ⟨Rat.le_of_mul_le_mul_left b2 hp, Rat.lt_of_mul_lt_mul_left b1 (Rat.le_of_lt hp)⟩
section
variable {N : Nat → Nat → Int} {t S p q p' q' v v' : Int} {g i j l m n k : Nat} {x r : Rat}
theorem z_c1_root (h : q ≠ 0) (hr : (p : Rat) = r * (q : Rat)) (h0 : 0 ≤ r) (h1 : r ≤ (N 10 g : Rat)) : ∃ y, y ∈ z_c1 N g p q ∧ fr y.1 y.2 = r := by
  obtain ⟨b1, b2, -⟩ := z_byq h
  obtain ⟨B, hB⟩ : ∃ B, B = z_by q := ⟨_, rfl⟩
  rw [← hB] at b1
  have c1 : ((B * p : Int) : Rat) = r * ((B * q : Int) : Rat) := by
    rw [Rat.intCast_mul, Rat.intCast_mul, hr]
    grind
  have p1 : (0 : Rat) < ((B * q : Int) : Rat) := Rat.intCast_pos.mpr b1
  refine ⟨(B * p, B * q), z_c1_mem.mpr ⟨by rw [hB], h, ?_, ?_⟩, ?_⟩
  · rw [← hB]
    have : (0 : Rat) ≤ ((B * p : Int) : Rat) := by rw [c1]; exact Rat.mul_nonneg h0 (Rat.le_of_lt p1)
    exact Rat.intCast_nonneg.mp this
  · rw [← hB]
    have : ((B * p : Int) : Rat) ≤ ((B * q * N 10 g : Int) : Rat) := by
      rw [c1, Rat.intCast_mul (B * q) (N 10 g), Rat.mul_comm ((B * q : Int) : Rat)]
      exact Rat.mul_le_mul_of_nonneg_right h1 (Rat.le_of_lt p1)
    exact Rat.intCast_le_intCast.mp this
  · show fr (B * p) (B * q) = r
    unfold fr
    rw [c1]
    exact Rat.mul_div_cancel (Rat.ne_of_gt p1)
theorem z_xs_0 (hw : q_wf N) (hg : g < w_ne N) : (∃ y, y ∈ z_xs N t S g ∧ fr y.1 y.2 = 0) ∧ ∃ y, y ∈ z_xs N t S g ∧ fr y.1 y.2 = (N 10 g : Rat) := by
  have h7 := wf_ed hw hg
  have hl : (0 : Rat) ≤ (N 10 g : Rat) := Rat.intCast_nonneg.mpr (by omega)
  obtain ⟨y, y1, y2⟩ := z_c1_root (N := N) (g := g) (p := 0) (q := 1) (r := 0) (by decide) (by grind) Rat.le_refl hl
  obtain ⟨z, z1, z2⟩ := z_c1_root (N := N) (g := g) (p := N 10 g) (q := 1) (r := (N 10 g : Rat)) (by decide) (by grind) hl Rat.le_refl
  refine ⟨⟨y, ?_, y2⟩, ⟨z, ?_, z2⟩⟩
  · exact List.mem_append_left _ (List.mem_append_left _ (List.mem_append_left _ y1))
  · exact List.mem_append_left _ (List.mem_append_left _ (List.mem_append_right _ z1))
theorem z_xs_s (hw : q_wf N) (hg : g < w_ne N) (hk : k < w_ns N) (h12 : N 12 k = (g : Int)) : (∃ y, y ∈ z_xs N t S g ∧ fr y.1 y.2 = (N 14 k : Rat)) ∧ ∃ y, y ∈ z_xs N t S g ∧ fr y.1 y.2 = (N 16 k : Rat) := by
  obtain ⟨e', e1, e2, e3, e4, e5, e6⟩ := wf_st hw hk
  have hge : e' = g := by omega
  subst hge
  have ecs : z_cs N e' k = z_c1 N e' (N 14 k) 1 ++ z_c1 N e' (N 16 k) 1 := by unfold z_cs; rw [if_pos h12]
  obtain ⟨y, y1, y2⟩ := z_c1_root (N := N) (g := e') (p := N 14 k) (q := 1) (r := (N 14 k : Rat)) (by decide) (by grind) (Rat.intCast_nonneg.mpr e3) (Rat.intCast_le_intCast.mpr (by omega))
  obtain ⟨z, z1, z2⟩ := z_c1_root (N := N) (g := e') (p := N 16 k) (q := 1) (r := (N 16 k : Rat)) (by decide) (by grind) (Rat.intCast_nonneg.mpr (by omega)) (Rat.intCast_le_intCast.mpr e5)
  refine ⟨⟨y, ?_, y2⟩, ⟨z, ?_, z2⟩⟩
  · exact List.mem_append_right _ (q_cat_mem.mpr ⟨k, hk, by rw [ecs]; exact List.mem_append_left _ y1⟩)
  · exact List.mem_append_right _ (q_cat_mem.mpr ⟨k, hk, by rw [ecs]; exact List.mem_append_right _ z1⟩)
theorem z_xs_p (hi : i < w_nn N) (hb : q_bt S i = true) (hr : (w_b N g i : Rat) - (w_o N g i : Rat) = 2 * r) (h0 : 0 ≤ r) (h1 : r ≤ (N 10 g : Rat)) : ∃ y, y ∈ z_xs N t S g ∧ fr y.1 y.2 = r := by
  obtain ⟨y, y1, y2⟩ := z_c1_root (N := N) (g := g) (p := z_pk N g i) (q := 2) (r := r) (by decide) (by unfold z_pk; rw [Rat.intCast_sub, hr]; show 2 * r = r * (2 : Rat); grind) h0 h1
  refine ⟨y, ?_, y2⟩
  refine List.mem_append_left _ (List.mem_append_right _ (q_cat_mem.mpr ⟨i, hi, ?_⟩))
  unfold z_ci
  rw [if_pos hb]
  exact List.mem_append_left _ y1
/-- lines of two nodes, the greater number first -/
theorem z_xs_ij (hi : i < w_nn N) (hj : j < i) (hb : q_bt S i = true) (hb2 : q_bt S j = true) (hl : l = 2 * i ∨ l = 2 * i + 1) (hm : m = 2 * j ∨ m = 2 * j + 1) (hs : w_ls N t l ≠ w_ls N t m) (hr : h_l N t g l r = h_l N t g m r) (h0 : 0 ≤ r) (h1 : r ≤ (N 10 g : Rat)) : ∃ y, y ∈ z_xs N t S g ∧ fr y.1 y.2 = r := by
  obtain ⟨y, y1, y2⟩ := z_c1_root (N := N) (g := g) (p := w_lt N t g m - w_lt N t g l) (q := w_ls N t l - w_ls N t m) (r := r) (by omega) (by unfold h_l at hr; rw [Rat.intCast_sub, Rat.intCast_sub]; grind) h0 h1
  refine ⟨y, ?_, y2⟩
  refine List.mem_append_left _ (List.mem_append_right _ (q_cat_mem.mpr ⟨i, hi, ?_⟩))
  unfold z_ci
  refine List.mem_append_right _ (q_cat_mem.mpr ⟨j, hj, ?_⟩)
  rw [if_pos ⟨hb, hb2⟩]
  refine q_cat_mem.mpr ⟨2 * (m % 2) + l % 2, by omega, ?_⟩
  unfold z_c4
  rw [show 2 * j + (2 * (m % 2) + l % 2) / 2 = m by omega, show 2 * i + (2 * (m % 2) + l % 2) % 2 = l by omega]
  exact y1
theorem z_xs_x (hi : i < w_nn N) (hj : j < w_nn N) (hb : q_bt S i = true) (hb2 : q_bt S j = true) (hl : l = 2 * i ∨ l = 2 * i + 1) (hm : m = 2 * j ∨ m = 2 * j + 1) (hs : w_ls N t l ≠ w_ls N t m) (hr : h_l N t g l r = h_l N t g m r) (h0 : 0 ≤ r) (h1 : r ≤ (N 10 g : Rat)) : ∃ y, y ∈ z_xs N t S g ∧ fr y.1 y.2 = r := by
  rcases Nat.lt_trichotomy i j with c | c | c
  · exact z_xs_ij hj c hb2 hb hm hl (fun q => hs q.symm) hr.symm h0 h1
  · subst c
    have key : h_l N t g (2 * i) r = h_l N t g (2 * i + 1) r ∧ w_W N t i ≠ 0 := by
      have s0 : w_ls N t (2 * i) = w_W N t i := by unfold w_ls; rw [if_pos (by omega), show 2 * i / 2 = i by omega]
      have s1 : w_ls N t (2 * i + 1) = -w_W N t i := by unfold w_ls; rw [if_neg (by omega), show (2 * i + 1) / 2 = i by omega]
      rcases hl with rfl | rfl <;> rcases hm with rfl | rfl
      · exact absurd rfl hs
      · exact ⟨hr, by omega⟩
      · exact ⟨hr.symm, by omega⟩
      · exact absurd rfl hs
    have hW : (w_W N t i : Rat) ≠ 0 := fun q => key.2 (Rat.intCast_inj.mp q)
    have e := key.1
    rw [h_l0, h_l1] at e
    have e2 : (w_o N g i : Rat) + r = (w_b N g i : Rat) - r := by
      have h3 : (w_W N t i : Rat) * (((w_o N g i : Rat) + r) - ((w_b N g i : Rat) - r)) = 0 := by grind
      rcases Rat.mul_eq_zero.mp h3 with h4 | h4
      · exact absurd h4 hW
      · grind
    exact z_xs_p hi hb (by grind) h0 h1
  · exact z_xs_ij hi c hb hb2 hl hm hs hr h0 h1
theorem h_Fnn (hw : q_wf N) (hc : w_cn N) (hg : g < w_ne N) (ht : 0 ≤ t) (hi : i < w_nn N) (h0 : 0 ≤ x) (h1 : x ≤ (N 10 g : Rat)) : 0 ≤ h_F N t g i x := by
  have n8 := (wf_n hw).2.2
  have ob := w_ob hw hc hg hi
  have hW := w_Wb hw (i := i) (by omega) ht
  have a1 : (0 : Rat) ≤ (w_o N g i : Rat) := Rat.intCast_nonneg.mpr ob.1
  have a2 : (N 10 g : Rat) ≤ (w_b N g i : Rat) := Rat.intCast_le_intCast.mpr ob.2.2.2.2
  unfold h_F
  refine Rat.mul_nonneg (Rat.intCast_nonneg.mpr hW.1) ?_
  unfold h_r
  split <;> grind
theorem h_dom (hw : q_wf N) (hc : w_cn N) (hg : g < w_ne N) (ht : 0 ≤ t) (h0 : 0 ≤ x) (h1 : x ≤ (N 10 g : Rat)) (ha : h_al N g x) : ∃ y, y ∈ z_xs N t S g ∧ h_al N g (fr y.1 y.2) ∧ (h_H N t S g (fr y.1 y.2) (w_nn N) < h_H N t S g x (w_nn N) ∨ h_H N t S g (fr y.1 y.2) (w_nn N) ≤ h_H N t S g x (w_nn N) ∧ fr y.1 y.2 ≤ x) := by
  have n0 := wf_n hw
  obtain ⟨⟨y0, a0, b0⟩, ⟨y1, a1, b1⟩⟩ := z_xs_0 (t := t) (S := S) hw hg
  by_cases hx : ∃ y, y ∈ z_xs N t S g ∧ fr y.1 y.2 = x
  · obtain ⟨y, h2, h3⟩ := hx
    exact ⟨y, h2, by rw [h3]; exact ha, Or.inr ⟨by rw [h3]; exact Rat.le_refl, by rw [h3]; exact Rat.le_refl⟩⟩
  · have hx' : ∀ y, y ∈ z_xs N t S g → fr y.1 y.2 ≠ x := fun y hy q => hx ⟨y, hy, q⟩
    have c0 := hx' y0 a0
    have c1 := hx' y1 a1
    rw [b0] at c0
    rw [b1] at c1
    obtain ⟨a, am, al, ab⟩ := l_max (fun y : Int × Int => fr y.1 y.2) x (z_xs N t S g) ⟨y0, a0, by show fr y0.1 y0.2 < x; rw [b0]; exact Rat.lt_of_le_of_ne h0 c0⟩
    obtain ⟨c, cm, cl, cb⟩ := l_min (fun y : Int × Int => fr y.1 y.2) x (z_xs N t S g) ⟨y1, a1, by show x < fr y1.1 y1.2; rw [b1]; exact Rat.lt_of_le_of_ne h1 (fun q => c1 q.symm)⟩
    have al : fr a.1 a.2 < x := al
    have cl : x < fr c.1 c.2 := cl
    have ab : ∀ y, y ∈ z_xs N t S g → fr y.1 y.2 < x → fr y.1 y.2 ≤ fr a.1 a.2 := ab
    have cb : ∀ y, y ∈ z_xs N t S g → x < fr y.1 y.2 → fr c.1 c.2 ≤ fr y.1 y.2 := cb
    have a00 : 0 ≤ fr a.1 a.2 := by
      have := ab y0 a0 (by rw [b0]; exact Rat.lt_of_le_of_ne h0 c0)
      rw [b0] at this
      exact this
    have c01 : fr c.1 c.2 ≤ (N 10 g : Rat) := by
      have := cb y1 a1 (by rw [b1]; exact Rat.lt_of_le_of_ne h1 (fun q => c1 q.symm))
      rw [b1] at this
      exact this
    obtain ⟨A, eA⟩ : ∃ A, A = fr a.1 a.2 := ⟨_, rfl⟩
    rw [← eA] at al ab a00
    obtain ⟨C, eC⟩ : ∃ C, C = fr c.1 c.2 := ⟨_, rfl⟩
    rw [← eC] at cl cb c01
    have noroot : ∀ r, (∃ y, y ∈ z_xs N t S g ∧ fr y.1 y.2 = r) → ¬ (A < r ∧ r ≤ x) ∧ ¬ (x ≤ r ∧ r < C) := by
      rintro r ⟨y, hy, rfl⟩
      have := hx' y hy
      constructor
      · rintro ⟨q1, q2⟩
        have := ab y hy (Rat.lt_of_le_of_ne q2 this)
        grind
      · rintro ⟨q1, q2⟩
        have := cb y hy (Rat.lt_of_le_of_ne q1 (fun q => this q.symm))
        grind
    have hA : h_al N g A := by
      rintro k hk ⟨k1, k2, k3⟩
      have h16 := (noroot _ (z_xs_s (t := t) (S := S) hw hg hk k1).2).1
      have := ha k hk
      refine this ⟨k1, r_tr k2 al, ?_⟩
      rw [← Rat.not_le]
      exact fun q => h16 ⟨k3, q⟩
    have hC : h_al N g C := by
      rintro k hk ⟨k1, k2, k3⟩
      have h14 := (noroot _ (z_xs_s (t := t) (S := S) hw hg hk k1).1).2
      have := ha k hk
      refine this ⟨k1, ?_, r_tr cl k3⟩
      rw [← Rat.not_le]
      exact fun q => h14 ⟨q, k2⟩
    by_cases hS : ∃ i, i < w_nn N ∧ q_bt S i = true
    · -- the highest node at x
      obtain ⟨i, i1, i2, i3⟩ : ∃ i, i < w_nn N ∧ q_bt S i = true ∧ h_F N t g i x = h_H N t S g x (w_nn N) := by
        rcases h_H_at (N := N) (t := t) (S := S) (g := g) (x := x) (n := w_nn N) with hz | hz
        · obtain ⟨j, j1, j2⟩ := hS
          refine ⟨j, j1, j2, ?_⟩
          have p1 := h_H_ge (N := N) (t := t) (S := S) (g := g) (x := x) j j1 j2
          have p2 := h_Fnn hw hc hg ht j1 h0 h1
          rw [hz] at p1 ⊢
          exact Rat.le_antisymm p1 p2
        · exact hz
      have Wi := (w_Wb hw (i := i) (by omega) ht).1
      obtain ⟨l, l1, l2⟩ : ∃ l, (l = 2 * i ∨ l = 2 * i + 1) ∧ h_F N t g i x = h_l N t g l x := by
        rcases (h_Fl (N := N) (g := g) (x := x) Wi).2.2 with e | e
        · exact ⟨_, Or.inl rfl, e⟩
        · exact ⟨_, Or.inr rfl, e⟩
      have low : ∀ z, h_F N t g i z ≤ h_l N t g l z := by
        intro z
        obtain ⟨e1, e2, -⟩ := h_Fl (N := N) (g := g) (x := z) Wi
        rcases l1 with rfl | rfl
        · exact e1
        · exact e2
      -- no other node is above that line at A or C
      have under : ∀ z j, (z = A ∨ z = C) → j < w_nn N → q_bt S j = true → h_F N t g j z ≤ h_l N t g l z := by
        intro z j hz hj hbj
        rw [← Rat.not_lt]
        intro hlt
        have Wj := (w_Wb hw (i := j) (by omega) ht).1
        obtain ⟨m, m1, m2⟩ : ∃ m, (m = 2 * j ∨ m = 2 * j + 1) ∧ h_F N t g j x = h_l N t g m x := by
          rcases (h_Fl (N := N) (g := g) (x := x) Wj).2.2 with e | e
          · exact ⟨_, Or.inl rfl, e⟩
          · exact ⟨_, Or.inr rfl, e⟩
        have mz : h_F N t g j z ≤ h_l N t g m z := by
          obtain ⟨e1, e2, -⟩ := h_Fl (N := N) (g := g) (x := z) Wj
          rcases m1 with rfl | rfl
          · exact e1
          · exact e2
        have q1 : h_l N t g l z < h_l N t g m z := by grind
        have q2 : h_l N t g m x ≤ h_l N t g l x := by
          rw [← l2, ← m2, i3]
          exact h_H_ge j hj hbj
        obtain ⟨r1, r, r2, r3, r4⟩ := h_root (l0 := (w_lt N t g l : Rat)) (ls := (w_ls N t l : Rat)) (m0 := (w_lt N t g m : Rat)) (ms := (w_ls N t m : Rat)) (u := z) (v := x) q1 q2
        have r1' : w_ls N t l ≠ w_ls N t m := fun q => r1 (by rw [q])
        rcases hz with rfl | rfl
        · obtain ⟨s1, s2⟩ := r3 al
          exact (noroot r (z_xs_x i1 hj i2 hbj l1 m1 r1' r2 (by grind) (by grind))).1 ⟨s1, s2⟩
        · obtain ⟨s1, s2⟩ := r4 cl
          exact (noroot r (z_xs_x i1 hj i2 hbj l1 m1 r1' r2 (by grind) (by grind))).2 ⟨s1, s2⟩
      have top : ∀ z, (z = A ∨ z = C) → 0 ≤ z → z ≤ (N 10 g : Rat) → h_H N t S g z (w_nn N) ≤ h_l N t g l z := by
        intro z hz z0 z1
        rcases h_H_at (N := N) (t := t) (S := S) (g := g) (x := z) (n := w_nn N) with hh | ⟨j, j1, j2, j3⟩
        · rw [hh]
          exact Rat.le_trans (h_Fnn hw hc hg ht i1 z0 z1) (low z)
        · rw [← j3]
          exact under z j hz j1 j2
      have tA := top A (Or.inl rfl) a00 (by grind)
      have tC := top C (Or.inr rfl) (by grind) c01
      have ex : h_H N t S g x (w_nn N) = h_l N t g l x := by rw [← i3, l2]
      by_cases hs : 0 ≤ w_ls N t l
      · have hs' : (0 : Rat) ≤ (w_ls N t l : Rat) := Rat.intCast_nonneg.mpr hs
        have hm := Rat.mul_le_mul_of_nonneg_left (Rat.le_of_lt al) hs'
        refine ⟨a, am, by rw [← eA]; exact hA, Or.inr ⟨?_, by rw [← eA]; exact Rat.le_of_lt al⟩⟩
        rw [← eA]
        refine Rat.le_trans tA ?_
        rw [ex]
        unfold h_l
        exact Rat.add_le_add_left.mpr hm
      · have hs' : (0 : Rat) < ((-w_ls N t l : Int) : Rat) := Rat.intCast_pos.mpr (by omega)
        have hm := Rat.mul_lt_mul_of_pos_left cl hs'
        rw [Rat.intCast_neg] at hm
        refine ⟨c, cm, by rw [← eC]; exact hC, Or.inl ?_⟩
        rw [← eC]
        have h2 : h_l N t g l C < h_l N t g l x := by unfold h_l; grind
        rw [ex]
        grind
    · have hz : ∀ z, h_H N t S g z (w_nn N) = 0 := by
        intro z
        rcases h_H_at (N := N) (t := t) (S := S) (g := g) (x := z) (n := w_nn N) with hh | ⟨j, j1, j2, -⟩
        · exact hh
        · exact absurd ⟨j, j1, j2⟩ hS
      exact ⟨a, am, by rw [← eA]; exact hA, Or.inr ⟨by rw [hz, hz]; exact Rat.le_refl, by rw [← eA]; exact Rat.le_of_lt al⟩⟩
end
end
