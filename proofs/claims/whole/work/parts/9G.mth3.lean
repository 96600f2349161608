section
/-! The best of all allowed points; both lists find it. -/
def h_v (N : Nat → Nat → Int) (g : Nat) (x : Rat) : Prop := g < w_ne N ∧ 0 ≤ x ∧ x ≤ (N 10 g : Rat) ∧ h_al N g x
def h_opt (N : Nat → Nat → Int) (f : Nat → Rat → Rat) (g : Nat) (x : Rat) : Prop := h_v N g x ∧ ∀ g' x', h_v N g' x' → ¬ w_lx (f g' x') g' x' (f g x) g x
def h_fH (N : Nat → Nat → Int) (t S : Int) (g : Nat) (x : Rat) : Rat := h_H N t S g x (w_nn N)
def h_fC (N : Nat → Nat → Int) (t : Int) (g : Nat) (x : Rat) : Rat := h_C N t g x (w_nn N)
theorem w_lx_le {h h' h2 t t' t2 : Rat} {g g' g2 : Nat} (a : ¬ w_lx h g t h' g' t') (b : w_lx h g t h2 g2 t2) : w_lx h' g' t' h2 g2 t2 := by
  unfold w_lx at *
  grind
theorem w_lx_g {h h' t t' : Rat} {g : Nat} : ¬ w_lx h g t h' g t' ↔ h' ≤ h ∧ (h = h' → t' ≤ t) := by
  unfold w_lx
  grind
section
variable {N : Nat → Nat → Int} {t S p q p' q' v v' : Int} {g g' i j l m n k : Nat} {x x' r : Rat} {f : Nat → Rat → Rat} {V : wP → Int} {L : List wP} {b : wP}
theorem h_optU (h : h_opt N f g x) (h' : h_opt N f g' x') : f g x = f g' x' ∧ g = g' ∧ x = x' := w_lx_tot (h'.2 _ _ h.1) (h.2 _ _ h'.1)
theorem h_opt_of (hf : ∀ y, y ∈ L → fr (V y) y.2.2 = f y.1 (fr y.2.1 y.2.2)) (hv : ∀ y, y ∈ L → h_v N y.1 (fr y.2.1 y.2.2)) (hd : ∀ g x, h_v N g x → ∃ y, y ∈ L ∧ ¬ w_lx (f g x) g x (f y.1 (fr y.2.1 y.2.2)) y.1 (fr y.2.1 y.2.2)) (hb : w_best V L b) : h_opt N f b.1 (fr b.2.1 b.2.2) := by
  refine ⟨hv b hb.1, fun g' x' h' hlx => ?_⟩
  obtain ⟨y, y1, y2⟩ := hd g' x' h'
  refine hb.2 y y1 ?_
  unfold w_pl
  rw [hf y y1, hf b hb.1]
  exact w_lx_le y2 hlx
theorem best_ex (V : wP → Int) : ∀ L : List wP, L ≠ [] → ∃ b, w_best V L b
  | [], h => absurd rfl h
  | [a], _ => ⟨a, List.mem_singleton.mpr rfl, fun y hy => by rw [List.mem_singleton.mp hy]; exact w_lx_irr⟩
  | a :: c :: L, _ => by
    obtain ⟨b, b1, b2⟩ := best_ex V (c :: L) (by simp)
    by_cases h : w_pl V a b
    · refine ⟨a, List.mem_cons_self .., fun y hy => ?_⟩
      rcases List.mem_cons.mp hy with rfl | hy
      · exact w_lx_irr
      · exact fun q => b2 y hy (w_lx_tr q h)
    · refine ⟨b, List.mem_cons_of_mem _ b1, fun y hy => ?_⟩
      rcases List.mem_cons.mp hy with rfl | hy
      · exact h
      · exact b2 y hy
theorem fr_nn (hq : 0 < q) (hp : 0 ≤ p) : 0 ≤ fr p q := by
  rw [← Rat.not_lt]
  intro h
  have h' : fr p q < ((0 : Int) : Rat) := h
  rw [fr_ltr hq, Int.zero_mul] at h'
  omega
theorem fr_pos (hq : 0 < q) (hp : 0 < p) : 0 < fr p q := by
  have h' : ((0 : Int) : Rat) < fr p q := by rw [fr_ltl hq, Int.zero_mul]; exact hp
  exact h'
theorem h_vq (hg : g < w_ne N) (hp : w_pq N t g p q) (ha : w_al N g p q = true) : h_v N g (fr p q) := by
  obtain ⟨h1, h2, h3, h4, h5, h6⟩ := hp
  have hq : 0 < q := by omega
  refine ⟨hg, fr_nn hq h5, ?_, (h_alfr hq).mp ha⟩
  rw [← Rat.not_lt, fr_ltl hq]
  omega
theorem h_fHq (hq : 0 < b.2.2) : fr (w_Hv N t S b) b.2.2 = h_fH N t S b.1 (fr b.2.1 b.2.2) := h_Hfr hq _
theorem h_fCq (hq : 0 < b.2.2) : fr (w_Cv N t b) b.2.2 = h_fC N t b.1 (fr b.2.1 b.2.2) := h_Cfr hq _
theorem z_ps_v (hw : q_wf N) (hc : w_cn N) (ht : 0 ≤ t) (ht2 : t ≤ 10) {y : wP} (hy : y ∈ z_ps N t S) : h_v N y.1 (fr y.2.1 y.2.2) ∧ 0 < y.2.2 := by
  obtain ⟨h1, h2, h3⟩ := z_ps_mem.mp hy
  have hp := z_xs_ok hw hc h1 ht ht2 h2
  exact ⟨h_vq h1 hp h3, by have := hp.1; omega⟩
theorem w_pts_v (hw : q_wf N) (hc : w_cn N) (ht : 0 ≤ t) (ht2 : t ≤ 10) {y : wP} (hy : y ∈ w_pts N t) : h_v N y.1 (fr y.2.1 y.2.2) ∧ 0 < y.2.2 := by
  obtain ⟨h1, h2, h3, -⟩ := w_pts_ok hw hc ht ht2 hy
  exact ⟨h_vq h1 h2 h3, by have := h2.1; omega⟩
/-- a crossing that is allowed is a point of the model -/
theorem z_ps_in (hw : q_wf N) (hc : w_cn N) (ht : 0 ≤ t) (ht2 : t ≤ 10) (hg : g < w_ne N) {y : Int × Int} (hy : y ∈ z_xs N t S g) (ha : h_al N g (fr y.1 y.2)) : (g, y.1, y.2) ∈ z_ps N t S ∧ (g, y.1, y.2) ∈ z_pe N t S g := by
  have hp := z_xs_ok hw hc hg ht ht2 hy
  have hal := (h_alfr (N := N) (g := g) (p := y.1) (q := y.2) (by have := hp.1; omega)).mpr ha
  exact ⟨z_ps_mem.mpr ⟨hg, hy, hal⟩, z_pe_mem.mpr ⟨rfl, hy, hal⟩⟩
theorem mo_domH (hw : q_wf N) (hc : w_cn N) (ht : 0 ≤ t) (ht2 : t ≤ 10) (hx : h_v N g x) : ∃ y, y ∈ z_pe N t S g ∧ y ∈ z_ps N t S ∧ ¬ w_lx (h_fH N t S g x) g x (h_fH N t S y.1 (fr y.2.1 y.2.2)) y.1 (fr y.2.1 y.2.2) := by
  obtain ⟨h1, h2, h3, h4⟩ := hx
  obtain ⟨y, y1, y2, y3⟩ := h_dom (S := S) hw hc h1 ht h2 h3 h4
  have hi := z_ps_in hw hc ht ht2 h1 y1 y2
  refine ⟨(g, y.1, y.2), hi.2, hi.1, w_lx_g.mpr ?_⟩
  show h_H N t S g (fr y.1 y.2) (w_nn N) ≤ h_H N t S g x (w_nn N) ∧ (h_H N t S g x (w_nn N) = h_H N t S g (fr y.1 y.2) (w_nn N) → fr y.1 y.2 ≤ x)
  grind
theorem mo_optH (hw : q_wf N) (hc : w_cn N) (ht : 0 ≤ t) (ht2 : t ≤ 10) (hb : w_best (w_Hv N t S) (z_ps N t S) b) : h_opt N (h_fH N t S) b.1 (fr b.2.1 b.2.2) :=
  h_opt_of (fun y hy => h_fHq (z_ps_v hw hc ht ht2 hy).2) (fun y hy => (z_ps_v hw hc ht ht2 hy).1) (fun g x hx => by
    obtain ⟨y, -, y1, y2⟩ := mo_domH (S := S) hw hc ht ht2 hx
    exact ⟨y, y1, y2⟩) hb
/-- a least step -/
theorem h_eps : ∀ (n : Nat) (c : Nat → Rat), (∀ i, i < n → 0 < c i) → ∃ e : Rat, 0 < e ∧ ∀ i, i < n → e ≤ c i
  | 0, _, _ => ⟨1, by decide, fun i hi => absurd hi (by omega)⟩
  | n + 1, c, h => by
    obtain ⟨e, e1, e2⟩ := h_eps n c (fun i hi => h i (by omega))
    have hn := h n (by omega)
    by_cases d : e ≤ c n
    · refine ⟨e, e1, fun i hi => ?_⟩
      rcases Nat.lt_succ_iff_lt_or_eq.mp hi with q | q
      · exact e2 i q
      · rw [q]; exact d
    · have d' : c n < e := Rat.not_le.mp d
      refine ⟨c n, hn, fun i hi => ?_⟩
      rcases Nat.lt_succ_iff_lt_or_eq.mp hi with q | q
      · exact Rat.le_trans (Rat.le_of_lt d') (e2 i q)
      · rw [q]; exact Rat.le_refl
theorem h_r_step {e : Rat} (he : 0 < e) : h_r N g i (x - e) ≤ h_r N g i x + e ∧ h_r N g i (x + e) ≤ h_r N g i x + e ∧ (¬ ((w_b N g i : Rat) - x < (w_o N g i : Rat) + x) → h_r N g i (x - e) ≤ h_r N g i x) ∧ (¬ ((w_o N g i : Rat) + x < (w_b N g i : Rat) - x) → h_r N g i (x + e) + e ≤ h_r N g i x) := by
  unfold h_r
  refine ⟨?_, ?_, ?_, ?_⟩
  · split <;> split <;> grind
  · split <;> split <;> grind
  · intro h
    rw [if_neg h]
    split <;> grind
  · intro h
    repeat' split
    all_goals grind
theorem h_H_nn : ∀ n, 0 ≤ h_H N t S g x n
  | 0 => Rat.le_refl
  | n + 1 => by
    have ih := h_H_nn n
    show 0 ≤ if q_bt S n = true ∧ h_H N t S g x n < h_F N t g n x then h_F N t g n x else h_H N t S g x n
    split
    · next h => exact Rat.le_trans ih (Rat.le_of_lt h.2)
    · exact ih
end
end
