section
/-! Groups, corners, the checksum, as functions of the network. -/
section
variable {N : Nat → Nat → Int} {S : Int} {b : wP} {f1 f2 g1 g2 : Nat → Rat} {f3 g3 x : Rat}
theorem vv_sub {a T n : Nat} (hn : n ≤ 8) (ha : a < 256) (hT : T < 2 ^ n) (hs : w_sub a T = true) : a < 2 ^ n ∧ T - a < 2 ^ n := by
  have p := q_pow8 hn
  have h := (w_sub_le (a := a) (S := T) (by omega) ha hs).1
  omega
theorem w_isD_c {T n : Nat} (hn : n ≤ 8) (hT : T < 2 ^ n) (h1 : ∀ a, a < 2 ^ n → f1 a = g1 a) (h2 : ∀ a, a < 2 ^ n → f2 a = g2 a) (h : w_isD f1 f2 T x) : w_isD g1 g2 T x := by
  obtain ⟨⟨a, a1, a2, a3⟩, h4⟩ := h
  refine ⟨⟨a, a1, a2, ?_⟩, fun c c1 c2 => ?_⟩
  · obtain ⟨b1, b2⟩ := vv_sub hn a1 hT a2
    rw [a3, h1 _ b1, h2 _ b2]
  · obtain ⟨b1, b2⟩ := vv_sub hn c1 hT c2
    have := h4 c c1 c2
    rw [h1 _ b1, h2 _ b2] at this
    exact this
/-- the radii of all sets -/
noncomputable def vv_f (N : Nat → Nat → Int) : (Nat → Rat) × (Nat → Rat) × Rat := by
  classical
  exact if h : ∃ y : (Nat → Rat) × (Nat → Rat) × Rat, y_gF N 0 y.1 y.2.1 y.2.2 then Classical.choose h else ((fun _ => 0), (fun _ => 0), 0)
theorem vv_f_u (hw : q_wf N) (h : y_gF N 0 f1 f2 f3) : y_gF N 0 (vv_f N).1 (vv_f N).2.1 (vv_f N).2.2 ∧ (∀ S, S < 2 ^ w_nn N → f1 S = (vv_f N).1 S) ∧ (∀ S, S < 2 ^ w_nn N → f2 S = (vv_f N).2.1 S) ∧ f3 = (vv_f N).2.2 := by
  have n8 := (wf_n hw).2.2
  have p1 : 0 < 2 ^ w_nn N := Nat.two_pow_pos _
  have hex : ∃ y : (Nat → Rat) × (Nat → Rat) × Rat, y_gF N 0 y.1 y.2.1 y.2.2 := ⟨(f1, f2, f3), h⟩
  have hc : y_gF N 0 (vv_f N).1 (vv_f N).2.1 (vv_f N).2.2 := by
    unfold vv_f
    rw [dif_pos hex]
    exact Classical.choose_spec hex
  have e1 : ∀ S, S < 2 ^ w_nn N → f1 S = (vv_f N).1 S := fun S hS => w_isR_u (h.1 S hS) (hc.1 S hS)
  have e2 : ∀ S, S < 2 ^ w_nn N → f2 S = (vv_f N).2.1 S := fun S hS => w_isD_u (w_isD_c n8 hS e1 e1 (h.2.1 S hS)) (hc.2.1 S hS)
  exact ⟨hc, e1, e2, w_isD_u (w_isD_c n8 (by omega) e1 e2 h.2.2) hc.2.2⟩
noncomputable def vv_k (N : Nat → Nat → Int) (k : Nat) : Rat := y_fk (vv_f N).1 (vv_f N).2.1 (vv_f N).2.2 (2 ^ w_nn N - 1) k
theorem vv_k_u {k : Nat} (hw : q_wf N) (h : y_gF N 0 f1 f2 f3) : y_fk f1 f2 f3 (2 ^ w_nn N - 1) k = vv_k N k := by
  have p1 : 0 < 2 ^ w_nn N := Nat.two_pow_pos _
  obtain ⟨-, e1, e2, e3⟩ := vv_f_u hw h
  unfold vv_k y_fk
  rw [e1 _ (by omega), e2 _ (by omega), e3]
theorem w_cd_c {n T a : Nat} {y : Rat} (hn : n ≤ 8) (hT : T < 2 ^ n) (h1 : ∀ a, a < 2 ^ n → f1 a = g1 a) (h2 : ∀ a, a < 2 ^ n → f2 a = g2 a) (ha : a ≤ T) (h : w_cd f1 f2 y T a) : w_cd g1 g2 y T a := by
  have p := q_pow8 hn
  obtain ⟨b1, b2, b3⟩ := h
  refine ⟨b1, ?_, ?_⟩
  · rw [← h1 _ (by omega)]; exact b2
  · rw [← h2 _ (by omega)]; exact b3
theorem w_gg_c {C D : Nat → Prop} {T r : Nat} (h1 : ∀ a, a ≤ T → (C a ↔ D a)) (h : w_gg C T r) : w_gg D T r := by
  rcases h with ⟨a1, a2⟩ | ⟨a1, a2, a3, a4⟩
  · exact Or.inl ⟨a1, fun a c1 c2 d => a2 a c1 c2 ((h1 a c2).mpr d)⟩
  · exact Or.inr ⟨a1, a2, (h1 r a2).mp a3, fun a c1 c2 d => a4 a c1 c2 ((h1 a c2).mpr d)⟩
theorem w_chs_c {n k i r : Nat} {y : Rat} (hn : n ≤ 8) (h1 : ∀ a, a < 2 ^ n → f1 a = g1 a) (h2 : ∀ a, a < 2 ^ n → f2 a = g2 a) (h : w_chs f1 f2 y (2 ^ n - 1) k i r) : w_chs g1 g2 y (2 ^ n - 1) k i r := by
  have p1 : 0 < 2 ^ n := Nat.two_pow_pos _
  have s1 : ∀ a, a < 2 ^ n → g1 a = f1 a := fun a ha => (h1 a ha).symm
  have s2 : ∀ a, a < 2 ^ n → g2 a = f2 a := fun a ha => (h2 a ha).symm
  rcases h with h | ⟨a1, g, a2, a3⟩ | ⟨a1, g, j, a2, a3, a4⟩
  · exact Or.inl h
  · exact Or.inr (Or.inl ⟨a1, g, w_gg_c (fun a ha => ⟨w_cd_c hn (by omega) h1 h1 ha, w_cd_c hn (by omega) s1 s1 ha⟩) a2, a3⟩)
  · exact Or.inr (Or.inr ⟨a1, g, j, w_gg_c (fun a ha => ⟨w_cd_c hn (by omega) h1 h2 ha, w_cd_c hn (by omega) s1 s2 ha⟩) a2, w_gg_c (fun a ha => ⟨w_cd_c hn (by omega) h1 h1 ha, w_cd_c hn (by omega) s1 s1 ha⟩) a3, a4⟩)
/-- a group -/
noncomputable def vv_g (N : Nat → Nat → Int) (k i : Nat) : Nat := by
  classical
  exact if h : ∃ r, w_chs (vv_f N).1 (vv_f N).2.1 (vv_k N k) (2 ^ w_nn N - 1) k i r then Classical.choose h else 0
theorem vv_g_u {k i r : Nat} (hw : q_wf N) (h : y_gF N 0 f1 f2 f3) (hr : w_chs f1 f2 (y_fk f1 f2 f3 (2 ^ w_nn N - 1) k) (2 ^ w_nn N - 1) k i r) : r = vv_g N k i ∧ w_chs (vv_f N).1 (vv_f N).2.1 (vv_k N k) (2 ^ w_nn N - 1) k i r := by
  obtain ⟨-, e1, e2, -⟩ := vv_f_u hw h
  rw [vv_k_u hw h] at hr
  have h2 := w_chs_c (wf_n hw).2.2 e1 e2 hr
  refine ⟨?_, h2⟩
  have hex : ∃ r, w_chs (vv_f N).1 (vv_f N).2.1 (vv_k N k) (2 ^ w_nn N - 1) k i r := ⟨r, h2⟩
  unfold vv_g
  rw [dif_pos hex]
  exact w_chs_u h2 (Classical.choose_spec hex)
end
/-! corners -/
theorem vv_mono_u {c d : Nat} {p q : Nat → Rat} (h1 : ∀ i j, i < j → j < c → p i < p j) (h2 : ∀ i j, i < j → j < d → q i < q j) (h : ∀ x, (∃ i, i < c ∧ p i = x) ↔ ∃ i, i < d ∧ q i = x) : ∀ i, i < c → i < d ∧ p i = q i := by
  intro i
  induction i using Nat.strongRecOn with
  | _ i ih =>
    intro hi
    obtain ⟨j, j1, j2⟩ := (h (p i)).mp ⟨i, hi, rfl⟩
    have hij : i ≤ j := by
      rcases Nat.lt_or_ge j i with z | z
      · have e := (ih j z (by omega)).2
        have := h1 j i z hi
        rw [e, j2] at this
        exact absurd this Rat.lt_irrefl
      · exact z
    have hd : i < d := by omega
    refine ⟨hd, ?_⟩
    obtain ⟨m, m1, m2⟩ := (h (q i)).mpr ⟨i, hd, rfl⟩
    have him : i ≤ m := by
      rcases Nat.lt_or_ge m i with z | z
      · have e := (ih m z (by omega)).2
        have := h2 m i z hd
        rw [← e, m2] at this
        exact absurd this Rat.lt_irrefl
      · exact z
    have l1 : q i ≤ p i := by
      rw [← j2]
      rcases Nat.lt_or_ge i j with z | z
      · exact Rat.le_of_lt (h2 i j z j1)
      · rw [show i = j by omega]; exact Rat.le_refl
    have l2 : p i ≤ q i := by
      rw [← m2]
      rcases Nat.lt_or_ge i m with z | z
      · exact Rat.le_of_lt (h1 i m z m1)
      · rw [show i = m by omega]; exact Rat.le_refl
    exact Rat.le_antisymm l2 l1
noncomputable def vv_kl (N : Nat → Nat → Int) (g : Nat) : Nat × (Nat → Rat) := by
  classical
  exact if h : ∃ y : Nat × (Nat → Rat), (∀ i j, i < j → j < y.1 → y.2 i < y.2 j) ∧ ∀ x, (∃ i, i < y.1 ∧ y.2 i = x) ↔ w_K N 0 g x then Classical.choose h else (0, fun _ => 0)
theorem vv_kl_u {N : Nat → Nat → Int} {g c : Nat} {P Q V : Nat → Int} (h : y_kl N 0 g c P Q V) : c = (vv_kl N g).1 ∧ (∀ i, i < c → fr (P i) (Q i) = (vv_kl N g).2 i) ∧ (∀ i j, i < j → j < (vv_kl N g).1 → (vv_kl N g).2 i < (vv_kl N g).2 j) ∧ ∀ x, (∃ i, i < (vv_kl N g).1 ∧ (vv_kl N g).2 i = x) ↔ w_K N 0 g x := by
  obtain ⟨h1, h2, h3⟩ := h
  have hex : ∃ y : Nat × (Nat → Rat), (∀ i j, i < j → j < y.1 → y.2 i < y.2 j) ∧ ∀ x, (∃ i, i < y.1 ∧ y.2 i = x) ↔ w_K N 0 g x := ⟨(c, fun i => fr (P i) (Q i)), h2, h3⟩
  have hc : (∀ i j, i < j → j < (vv_kl N g).1 → (vv_kl N g).2 i < (vv_kl N g).2 j) ∧ ∀ x, (∃ i, i < (vv_kl N g).1 ∧ (vv_kl N g).2 i = x) ↔ w_K N 0 g x := by
    unfold vv_kl
    rw [dif_pos hex]
    exact Classical.choose_spec hex
  have e1 := vv_mono_u (p := fun i => fr (P i) (Q i)) (q := (vv_kl N g).2) h2 hc.1 (fun x => (h3 x).trans (hc.2 x).symm)
  have e2 := vv_mono_u (p := (vv_kl N g).2) (q := fun i => fr (P i) (Q i)) hc.1 h2 (fun x => (hc.2 x).trans (h3 x).symm)
  refine ⟨?_, fun i hi => (e1 i hi).2, hc.1, hc.2⟩
  rcases Nat.lt_or_ge c (vv_kl N g).1 with z | z
  · exact absurd (e2 c z).1 (by omega)
  · rcases Nat.lt_or_ge (vv_kl N g).1 c with z2 | z2
    · exact absurd (e1 _ z2).1 (by omega)
    · omega
section
variable {N : Nat → Nat → Int} {g c : Nat} {p q v : Int}
/-- the set of all nodes -/
def vv_all (N : Nat → Nat → Int) : Int := ((2 ^ w_nn N - 1 : Nat) : Int)
theorem vv_allb (hw : q_wf N) {i : Nat} (hi : i < w_nn N) : q_bt (vv_all N) i = true := q_allN ⟨w_nn N, by have := (wf_n hw).2.2; omega⟩ ⟨i, by have := (wf_n hw).2.2; omega⟩ hi
theorem h_top (hw : q_wf N) (hc : w_cn N) (hg : g < w_ne N) (hp : w_pq N 0 g p q) (h : w_top N 0 g p q v) : fr v q = h_fH N 0 (vv_all N) g (fr p q) := by
  have hq : 0 < q := by have := hp.1; omega
  have x0 : 0 ≤ fr p q := fr_nn hq hp.2.2.2.2.1
  have x1 : fr p q ≤ (N 10 g : Rat) := by
    rw [← fr_1, fr_le hq (by decide)]
    have := hp.2.2.2.2.2
    omega
  obtain ⟨⟨i, i1, i2⟩, h2⟩ := h
  have e : ∀ j, fr (w_F N 0 g j p q) q = h_F N 0 g j (fr p q) := fun j => h_Ffr hq
  have l1 : fr v q ≤ h_fH N 0 (vv_all N) g (fr p q) := by
    rw [← i2, e]
    exact h_H_ge i i1 (vv_allb hw i1)
  refine Rat.le_antisymm l1 ?_
  rcases h_H_at (N := N) (t := 0) (S := vv_all N) (g := g) (x := fr p q) (n := w_nn N) with z | ⟨j, j1, -, j3⟩
  · unfold h_fH
    rw [z, ← i2, e]
    exact h_Fnn hw hc hg (by decide) i1 x0 x1
  · unfold h_fH
    rw [← j3, ← e, fr_le hq hq]
    exact Int.mul_le_mul_of_nonneg_right (h2 j j1) (by omega)
/-- what is told of a corner -/
noncomputable def vv_cf (N : Nat → Nat → Int) (g : Nat) (y z : Int) : Int := if 0 ≤ y ∧ y < ((vv_kl N g).1 : Int) then (if z < 2 then q_pt ((vv_kl N g).2 y.toNat) z else q_pt (h_fH N 0 (vv_all N) g ((vv_kl N g).2 y.toNat)) (z - 2)) else -1
theorem vv_cv {y z v : Int} (hw : q_wf N) (hc : w_cn N) (hg : g < w_ne N) (hz : 0 ≤ z) (hz3 : z ≤ 3) (h : y_cv N g y z v) : v = vv_cf N g y z := by
  obtain ⟨c, P, Q, V, h1, h2⟩ := h
  obtain ⟨e1, e2, -, -⟩ := vv_kl_u h1
  unfold vv_cf
  rw [h2, ← e1]
  by_cases cy : 0 ≤ y ∧ y < (c : Int)
  · rw [if_pos cy, if_pos cy]
    have hi : y.toNat < c := by omega
    have hb := y_klb hw hc hg h1 hi
    have hp := (h1.1 _ hi).1
    have ht := (h1.1 _ hi).2
    unfold y_cf
    rw [← e2 _ hi]
    by_cases c2 : z < 2
    · rw [if_pos c2, if_pos c2, q_ptr hb.2.1.1 (by omega)]
      rcases (show z = 0 ∨ z = 1 by omega) with rfl | rfl <;> rfl
    · rw [if_neg c2, if_neg c2, ← h_top hw hc hg hp ht, q_ptr hb.2.2.1 (by omega)]
      rcases (show z = 2 ∨ z = 3 by omega) with rfl | rfl <;> rfl
  · rw [if_neg cy, if_neg cy]
/-- the corners: ends, order, heights in bounds -/
theorem vv_kl_ok {P Q V : Nat → Int} (hw : q_wf N) (hc : w_cn N) (hg : g < w_ne N) (h1 : y_kl N 0 g c P Q V) (i : Nat) (hi : i < (vv_kl N g).1) : ((0 ≤ q_pt ((vv_kl N g).2 i) 0 ∧ q_pt ((vv_kl N g).2 i) 0 ≤ 50000) ∧ 1 ≤ q_pt ((vv_kl N g).2 i) 1 ∧ q_pt ((vv_kl N g).2 i) 1 ≤ 1000) ∧ ((0 ≤ q_pt (h_fH N 0 (vv_all N) g ((vv_kl N g).2 i)) 0 ∧ q_pt (h_fH N 0 (vv_all N) g ((vv_kl N g).2 i)) 0 ≤ 2147483647) ∧ 1 ≤ q_pt (h_fH N 0 (vv_all N) g ((vv_kl N g).2 i)) 1 ∧ q_pt (h_fH N 0 (vv_all N) g ((vv_kl N g).2 i)) 1 ≤ 1000) ∧ 0 ≤ (vv_kl N g).2 i ∧ (vv_kl N g).2 i ≤ (N 10 g : Rat) := by
  obtain ⟨e1, e2, -, -⟩ := vv_kl_u h1
  rw [← e1] at hi
  have hb := y_klb hw hc hg h1 hi
  have hp := (h1.1 _ hi).1
  have ht := (h1.1 _ hi).2
  have hq : 0 < Q i := by omega
  rw [← e2 _ hi, ← h_top hw hc hg hp ht]
  refine ⟨q_ptb hb.2.1.1 hq hb.2.1.2 hb.1.2, q_ptb hb.2.2.1 hq (by omega) hb.1.2, fr_nn hq hb.2.1.1, ?_⟩
  rw [← fr_1, fr_le hq (by decide)]
  have := hp.2.2.2.2.2
  omega
end
/-! the checksum -/
section
variable {N : Nat → Nat → Int} {S : Int} {b : wP}
noncomputable def vv_bf (x : Nat × Rat) (r : Rat) (w : Int) : Int := if w = 0 then (x.1 : Int) else if w = 1 then q_pt x.2 0 else if w = 2 then q_pt x.2 1 else if w = 3 then q_pt r 0 else q_pt r 1
theorem vv_bfH (hw : q_wf N) (hd : y_cc N) (hb : w_best (w_Hv N 0 S) (w_pts N 0) b) (w : Int) : y_bf (w_Hv N 0 S) b w = vv_bf (vv_c N S) (vv_r N S) w := by
  obtain ⟨h1, h2⟩ := vv_c_b hw hd hb
  obtain ⟨b1, b2, b3⟩ := w_bok hw hd.1 (by decide) (by decide) hb
  obtain ⟨c1, c2⟩ := w_Hvb (S := S) hw hd.1 (by decide) (by decide) ⟨b1, b2⟩
  obtain ⟨d1, d2, d3, d4, d5, d6⟩ := b2
  unfold y_bf vv_bf
  rw [h1, h2, q_ptr d5 (by omega), q_ptr d5 (by omega), q_ptr c1 (by omega), q_ptr c1 (by omega)]
theorem vv_bfC (hw : q_wf N) (hd : y_cc N) (hb : w_best (w_Cv N 0) (w_pts N 0) b) (w : Int) : y_bf (w_Cv N 0) b w = vv_bf (vv_m N) (vv_mr N) w := by
  obtain ⟨h1, h2⟩ := vv_m_b hw hd hb
  obtain ⟨b1, b2, b3⟩ := w_bok hw hd.1 (by decide) (by decide) hb
  obtain ⟨c1, c2⟩ := w_Cvb hw hd.1 (by decide) (by decide) ⟨b1, b2⟩
  obtain ⟨d1, d2, d3, d4, d5, d6⟩ := b2
  unfold y_bf vv_bf
  rw [h1, h2, q_ptr d5 (by omega), q_ptr d5 (by omega), q_ptr c1 (by omega), q_ptr c1 (by omega)]
theorem y_hk_c {f f' : Nat → Int} : ∀ (k : Nat) (h : Int), (∀ i, i < k → f i = f' i) → y_hk f k h = y_hk f' k h
  | 0, h, _ => rfl
  | k + 1, h, hf => by
    have ih := y_hk_c k h (fun i hi => hf i (by omega))
    unfold y_hk at ih ⊢
    rw [q_it, q_it, ih, hf k (by omega)]
noncomputable def vv_m2 (N : Nat → Nat → Int) (h : Int) : Int := y_hk (fun j => vv_cf N (j / 4) 1 ((j % 4 : Nat) : Int)) (4 * w_ne N) (31 * (31 * y_hk (fun i => vv_bf (vv_m N) (vv_mr N) (i : Int)) 5 (31 * y_hk (fun i => vv_bf (vv_c N (vv_all N)) (vv_r N (vv_all N)) (i : Int)) 3 (31 * (31 * h + w32 (vv_bf (vv_c N (vv_all N)) (vv_r N (vv_all N)) 3)) + w32 (vv_bf (vv_c N (vv_all N)) (vv_r N (vv_all N)) 4)) + w32 (vv_cr N (vv_all N))) + w32 (q_pt (vv_k N 2) 0)) + w32 (q_pt (vv_k N 2) 1))
noncomputable def vv_cn (N : Nat → Nat → Int) : Int := by
  classical
  exact if w_cn N then 1 else 0
noncomputable def vv_ck (N : Nat → Nat → Int) : Int := by
  classical
  exact if y_cc N then vv_m2 N (y_m1 N (vv_cn N) 18473) else y_m1 N (vv_cn N) 18473
end
end
