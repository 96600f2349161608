section
/-! Groups: what areGroups asks. -/
theorem q_or2N : ∀ a : Fin 256, ∀ S : Fin 256, i_or ((a.val : Nat) : Int) ((S.val : Nat) : Int) = ((a.val ||| S.val : Nat) : Int) := by decide +kernel
theorem q_or {a S : Nat} (h : a < 256) (h2 : S < 256) : i_or (a : Int) (S : Int) = ((a ||| S : Nat) : Int) := q_or2N ⟨a, h⟩ ⟨S, h2⟩
theorem q_partN : ∀ a : Fin 256, ∀ S : Fin 256, w_sub a.val S.val = true → (S.val - a.val) &&& a.val = 0 ∧ a.val ||| (S.val - a.val) = S.val := by decide +kernel
theorem q_part {a S : Nat} (ha : a < 256) (hS : S < 256) (h : w_sub a S = true) : (S - a) &&& a = 0 ∧ a ||| (S - a) = S := q_partN ⟨a, ha⟩ ⟨S, hS⟩ h
theorem w_gg_ex (C : Nat → Prop) : ∀ S, ∃ r, w_gg C S r := by
  intro S
  induction S with
  | zero => exact ⟨0, Or.inl ⟨rfl, fun a h1 h2 => by omega⟩⟩
  | succ S ih =>
    by_cases c1 : C (S + 1)
    · exact ⟨S + 1, Or.inr ⟨by omega, by omega, c1, fun a h1 h2 => by omega⟩⟩
    · obtain ⟨r, hr⟩ := ih
      rcases hr with ⟨r1, r2⟩ | ⟨r1, r2, r3, r4⟩
      · refine ⟨0, Or.inl ⟨rfl, fun a h1 h2 => ?_⟩⟩
        by_cases c2 : a = S + 1
        · rw [c2]; exact c1
        · exact r2 a h1 (by omega)
      · refine ⟨r, Or.inr ⟨r1, by omega, r3, fun a h1 h2 => ?_⟩⟩
        by_cases c2 : a = S + 1
        · rw [c2]; exact c1
        · exact r4 a h1 (by omega)
theorem r_mx_le {a b x : Rat} : r_mx a b ≤ x ↔ a ≤ x ∧ b ≤ x := by
  unfold r_mx
  split
  · next h => exact ⟨fun q => ⟨Rat.le_trans (Rat.le_of_lt h) q, q⟩, fun q => q.2⟩
  · next h => exact ⟨fun q => ⟨q, Rat.le_trans (Rat.not_lt.mp h) q⟩, fun q => q.1⟩
theorem r_mx_or (a b : Rat) : r_mx a b = a ∨ r_mx a b = b := by
  unfold r_mx
  split
  · exact Or.inr rfl
  · exact Or.inl rfl
/-- the greatest group: it keeps within the bound, where one does -/
theorem w_gg_c1 {C : Nat → Prop} {S r a : Nat} (h : w_gg C S r) (ha : a ≤ S) (hC : C a) : r ≤ S ∧ C r := by
  rcases h with ⟨r1, r2⟩ | ⟨r1, r2, r3, -⟩
  · by_cases c1 : a = 0
    · subst c1
      rw [r1]
      exact ⟨by omega, hC⟩
    · exact absurd hC (r2 a (by omega) ha)
  · exact ⟨r2, r3⟩
section
variable {N : Nat → Nat → Int} {S T g k i : Nat} {x y : Rat} {f1 f2 : Nat → Rat} {f3 : Rat}
theorem w_isR_r (hw : q_wf N) (hd : y_cc N) : w_isR N 0 S (vv_r N (S : Int)) := by
  obtain ⟨b, hb⟩ := vv_c_ex hw hd (S : Int)
  have h2 := (vv_c_b hw hd hb).2
  refine ⟨⟨b, hb.1, h2⟩, fun y hy => ?_⟩
  rw [h2]
  apply Rat.not_lt.mp
  intro q
  exact hb.2 y hy (Or.inl q)
theorem vv_f1 (hw : q_wf N) (hd : y_cc N) (hy : y_gF N 0 (vv_f N).1 (vv_f N).2.1 (vv_f N).2.2) (hS : S < 2 ^ w_nn N) : (vv_f N).1 S = vv_r N (S : Int) := w_isR_u (hy.1 S hS) (w_isR_r hw hd)
/-- a division that is best keeps within its own radius -/
theorem w_isD_at (h : w_isD f1 f2 S x) (hS : S < 256) : ∃ a, a ≤ S ∧ w_cd f1 f2 x S a := by
  obtain ⟨⟨a, a1, a2, a3⟩, -⟩ := h
  have h2 := r_mx_le.mp (show r_mx (f1 a) (f2 (S - a)) ≤ x by rw [← a3]; exact Rat.le_refl)
  exact ⟨a, (w_sub_le hS a1 a2).1, a2, h2.1, h2.2⟩
def vv_A (N : Nat → Nat → Int) : Nat := 2 ^ w_nn N - 1
theorem vv_Ab (hw : q_wf N) : vv_A N < 2 ^ w_nn N ∧ vv_A N < 256 ∧ 1 ≤ vv_A N ∧ vv_all N = (vv_A N : Int) := by
  have p8 := q_pow8 (wf_n hw).2.2
  have h1 : 2 ^ 1 ≤ 2 ^ w_nn N := Nat.pow_le_pow_right (by decide) (wf_n hw).2.1
  unfold vv_A
  exact ⟨by omega, by omega, by omega, rfl⟩
theorem vv_g_s (k i : Nat) (hk : 1 ≤ k) (hk3 : k ≤ 3) : w_chs (vv_f N).1 (vv_f N).2.1 (vv_k N k) (vv_A N) k i (vv_g N k i) := by
  have hex : ∃ r, w_chs (vv_f N).1 (vv_f N).2.1 (vv_k N k) (2 ^ w_nn N - 1) k i r := by
    rcases (show k = 1 ∨ k = 2 ∨ k = 3 by omega) with rfl | rfl | rfl
    · exact ⟨_, Or.inl ⟨rfl, rfl⟩⟩
    · obtain ⟨g, hg⟩ := w_gg_ex (w_cd (vv_f N).1 (vv_f N).1 (vv_k N 2) (2 ^ w_nn N - 1)) (2 ^ w_nn N - 1)
      exact ⟨_, Or.inr (Or.inl ⟨rfl, g, hg, rfl⟩)⟩
    · obtain ⟨g, hg⟩ := w_gg_ex (w_cd (vv_f N).1 (vv_f N).2.1 (vv_k N 3) (2 ^ w_nn N - 1)) (2 ^ w_nn N - 1)
      obtain ⟨g2, hg2⟩ := w_gg_ex (w_cd (vv_f N).1 (vv_f N).1 (vv_k N 3) (2 ^ w_nn N - 1 - g)) (2 ^ w_nn N - 1 - g)
      exact ⟨_, Or.inr (Or.inr ⟨rfl, g, g2, hg, hg2, rfl⟩)⟩
  unfold vv_g
  rw [dif_pos hex]
  exact Classical.choose_spec hex
/-- the groups of one, two and three centers -/
theorem vv_g1 : vv_g N 1 0 = vv_A N := by
  rcases vv_g_s (N := N) 1 0 (by decide) (by decide) with ⟨-, h⟩ | ⟨h, -⟩ | ⟨h, -⟩
  · exact h
  · cases h
  · cases h
theorem vv_k1 (hw : q_wf N) (hd : y_cc N) (hy : y_gF N 0 (vv_f N).1 (vv_f N).2.1 (vv_f N).2.2) : vv_k N 1 = vv_r N (vv_A N : Int) := vv_f1 hw hd hy (vv_Ab hw).1
theorem vv_g2 (hw : q_wf N) (hd : y_cc N) (hy : y_gF N 0 (vv_f N).1 (vv_f N).2.1 (vv_f N).2.2) : ∃ g, g ≤ vv_A N ∧ w_sub g (vv_A N) = true ∧ vv_g N 2 0 = g ∧ vv_g N 2 1 = vv_A N - g ∧ vv_r N (g : Int) ≤ vv_k N 2 ∧ vv_r N ((vv_A N - g : Nat) : Int) ≤ vv_k N 2 ∧ (vv_r N (g : Int) = vv_k N 2 ∨ vv_r N ((vv_A N - g : Nat) : Int) = vv_k N 2) := by
  obtain ⟨A1, A2, A3, -⟩ := vv_Ab hw
  have hD : w_isD (vv_f N).1 (vv_f N).1 (vv_A N) (vv_k N 2) := hy.2.1 _ A1
  obtain ⟨a, a1, a2⟩ := w_isD_at hD A2
  have ex : ∀ i, ∃ g, w_gg (w_cd (vv_f N).1 (vv_f N).1 (vv_k N 2) (vv_A N)) (vv_A N) g ∧ vv_g N 2 i = if i = 0 then g else vv_A N - g := by
    intro i
    rcases vv_g_s (N := N) 2 i (by decide) (by decide) with ⟨h, -⟩ | ⟨-, g, h1, h2⟩ | ⟨h, -⟩
    · cases h
    · exact ⟨g, h1, h2⟩
    · cases h
  obtain ⟨g, g1, g2⟩ := ex 0
  obtain ⟨g', g3, g4⟩ := ex 1
  have := w_gg_u g1 g3
  subst this
  obtain ⟨c1, c2, c3, c4⟩ := w_gg_c1 g1 a1 a2
  have c3' := c3
  have c4' := c4
  rw [vv_f1 hw hd hy (by omega)] at c3'
  rw [vv_f1 hw hd hy (by omega)] at c4'
  refine ⟨g, c1, c2, g2, g4, c3', c4', ?_⟩
  have h5 := hD.2 g (by omega) c2
  rw [vv_f1 hw hd hy (by omega), vv_f1 hw hd hy (by omega)] at h5
  rcases r_mx_or (vv_r N (g : Int)) (vv_r N ((vv_A N - g : Nat) : Int)) with h6 | h6
  · rw [h6] at h5
    exact Or.inl (Rat.le_antisymm c3' h5)
  · rw [h6] at h5
    exact Or.inr (Rat.le_antisymm c4' h5)
theorem vv_g3 (hw : q_wf N) (hd : y_cc N) (hy : y_gF N 0 (vv_f N).1 (vv_f N).2.1 (vv_f N).2.2) : ∃ g e, g ≤ vv_A N ∧ w_sub g (vv_A N) = true ∧ e ≤ vv_A N - g ∧ w_sub e (vv_A N - g) = true ∧ vv_g N 3 0 = g ∧ vv_g N 3 1 = e ∧ vv_g N 3 2 = vv_A N - g - e ∧ vv_r N (g : Int) ≤ vv_k N 3 ∧ vv_r N (e : Int) ≤ vv_k N 3 ∧ vv_r N ((vv_A N - g - e : Nat) : Int) ≤ vv_k N 3 ∧ (vv_r N (g : Int) = vv_k N 3 ∨ vv_r N (e : Int) = vv_k N 3 ∨ vv_r N ((vv_A N - g - e : Nat) : Int) = vv_k N 3) := by
  obtain ⟨A1, A2, A3, -⟩ := vv_Ab hw
  have hD : w_isD (vv_f N).1 (vv_f N).2.1 (vv_A N) (vv_k N 3) := hy.2.2
  obtain ⟨a, a1, a2⟩ := w_isD_at hD A2
  have ex : ∀ i, ∃ g e, w_gg (w_cd (vv_f N).1 (vv_f N).2.1 (vv_k N 3) (vv_A N)) (vv_A N) g ∧ w_gg (w_cd (vv_f N).1 (vv_f N).1 (vv_k N 3) (vv_A N - g)) (vv_A N - g) e ∧ vv_g N 3 i = if i = 0 then g else if i = 1 then e else vv_A N - g - e := by
    intro i
    rcases vv_g_s (N := N) 3 i (by decide) (by decide) with ⟨h, -⟩ | ⟨h, -⟩ | ⟨-, g, e, h1, h2, h3⟩
    · cases h
    · cases h
    · exact ⟨g, e, h1, h2, h3⟩
  obtain ⟨g, e, g1, g2, g3⟩ := ex 0
  obtain ⟨g', e', k1, k2, k3⟩ := ex 1
  have := w_gg_u g1 k1
  subst this
  have := w_gg_u g2 k2
  subst this
  obtain ⟨g', e', l1, l2, l3⟩ := ex 2
  have := w_gg_u g1 l1
  subst this
  have := w_gg_u g2 l2
  subst this
  obtain ⟨c1, c2, c3, c4⟩ := w_gg_c1 g1 a1 a2
  have hD2 : w_isD (vv_f N).1 (vv_f N).1 (vv_A N - g) ((vv_f N).2.1 (vv_A N - g)) := hy.2.1 _ (by omega)
  obtain ⟨b, b1, b2, b3, b4⟩ := w_isD_at hD2 (by omega)
  obtain ⟨d1, d2, d3, d4⟩ := w_gg_c1 g2 b1 ⟨b2, Rat.le_trans b3 c4, Rat.le_trans b4 c4⟩
  have h5 := hD.2 g (by omega) c2
  have h6 := hD2.2 e (by omega) d2
  rw [vv_f1 hw hd hy (by omega)] at c3 d3 d4 h5
  rw [vv_f1 hw hd hy (by omega), vv_f1 hw hd hy (by omega)] at h6
  refine ⟨g, e, c1, c2, d1, d2, g3, k3, l3, c3, d3, d4, ?_⟩
  rcases r_mx_or (vv_r N (g : Int)) ((vv_f N).2.1 (vv_A N - g)) with h7 | h7
  · rw [h7] at h5
    exact Or.inl (Rat.le_antisymm c3 h5)
  · rw [h7] at h5
    have h8 := Rat.le_trans h5 h6
    rcases r_mx_or (vv_r N (e : Int)) (vv_r N ((vv_A N - g - e : Nat) : Int)) with h9 | h9
    · rw [h9] at h8
      exact Or.inr (Or.inl (Rat.le_antisymm d3 h8))
    · rw [h9] at h8
      exact Or.inr (Or.inr (Rat.le_antisymm d4 h8))
/-- a radius is not below 0 -/
theorem vv_r0 (hw : q_wf N) (hd : y_cc N) : 0 ≤ vv_r N (S : Int) := h_H_nn _
theorem vv_r00 (hw : q_wf N) (hd : y_cc N) : vv_r N ((0 : Nat) : Int) = 0 := w_isR_0 hw (w_isR_r hw hd)
/-- more centers are never worse -/
theorem vv_k_le (hw : q_wf N) (hd : y_cc N) (hy : y_gF N 0 (vv_f N).1 (vv_f N).2.1 (vv_f N).2.2) : vv_k N 2 ≤ vv_k N 1 ∧ vv_k N 3 ≤ vv_k N 2 := by
  obtain ⟨A1, A2, A3, -⟩ := vv_Ab hw
  have hD2 : w_isD (vv_f N).1 (vv_f N).1 (vv_A N) (vv_k N 2) := hy.2.1 _ A1
  have hD3 : w_isD (vv_f N).1 (vv_f N).2.1 (vv_A N) (vv_k N 3) := hy.2.2
  have z0 : (vv_f N).1 0 = 0 := by rw [vv_f1 hw hd hy (by omega), vv_r00 hw hd]
  have l2 := hD2.2 0 (by decide) w_sub_0
  have l3 := hD3.2 0 (by decide) w_sub_0
  rw [z0, Nat.sub_zero] at l2 l3
  have n1 : 0 ≤ vv_k N 1 := by rw [vv_k1 hw hd hy]; exact vv_r0 hw hd
  have n2 : 0 ≤ vv_k N 2 := by
    obtain ⟨g, g1, g2, g3, g4, g5, g6, g7⟩ := vv_g2 hw hd hy
    rcases g7 with g7 | g7 <;> rw [← g7] <;> exact vv_r0 hw hd
  exact ⟨Rat.le_trans l2 (r_mx_le.mpr ⟨n1, Rat.le_refl⟩), Rat.le_trans l3 (r_mx_le.mpr ⟨n2, Rat.le_refl⟩)⟩
/-- a k-radius is a set's radius -/
theorem vv_k_ex (hw : q_wf N) (hd : y_cc N) (hy : y_gF N 0 (vv_f N).1 (vv_f N).2.1 (vv_f N).2.2) (hk : 1 ≤ k) (hk3 : k ≤ 3) : ∃ S : Nat, vv_k N k = vv_r N (S : Int) := by
  rcases (show k = 1 ∨ k = 2 ∨ k = 3 by omega) with rfl | rfl | rfl
  · exact ⟨_, vv_k1 hw hd hy⟩
  · obtain ⟨g, g1, g2, g3, g4, g5, g6, g7⟩ := vv_g2 hw hd hy
    rcases g7 with g7 | g7 <;> exact ⟨_, g7.symm⟩
  · obtain ⟨g, e, g1, g2, g3, g4, g5, g6, g7, g8, g9, ga, gb⟩ := vv_g3 hw hd hy
    rcases gb with gb | gb | gb <;> exact ⟨_, gb.symm⟩
/-! coverings -/
theorem w_few_1 {m : Nat → Int} {A : Nat} (h : w_few f1 x 8 A m) (hT : T ≤ A) (hf : f1 T ≤ x) : m T ≤ 1 := by
  by_cases c1 : T = 0
  · rw [c1, h.1]; decide
  · have := (h.2 T (by omega) hT).2.1 T (by omega) (Nat.le_refl _) w_sub_r hf
    rw [Nat.sub_self, h.1] at this
    omega
theorem w_few_s {m : Nat → Int} {A a : Nat} (h : w_few f1 x 8 A m) (hT : T ≤ A) (ha : a ≤ T) (hs : w_sub a T = true) (hf : f1 a ≤ x) : m T ≤ m (T - a) + 1 := by
  by_cases c1 : a = 0
  · rw [c1, Nat.sub_zero]; omega
  · exact (h.2 T (by omega) hT).2.1 a (by omega) ha hs hf
/-- as many centers cover the network by their radius -/
theorem vv_few_k {v : Int} (hw : q_wf N) (hd : y_cc N) (hy : y_gF N 0 (vv_f N).1 (vv_f N).2.1 (vv_f N).2.2) (hk : 1 ≤ k) (hk3 : k ≤ 3) (h : vv_few N (vv_k N k) v) : v ≤ (k : Int) := by
  obtain ⟨A1, A2, A3, -⟩ := vv_Ab hw
  obtain ⟨m, h, rfl⟩ := h
  have h : w_few (vv_f N).1 (vv_k N k) 8 (vv_A N) m := h
  show m (vv_A N) ≤ _
  rcases (show k = 1 ∨ k = 2 ∨ k = 3 by omega) with rfl | rfl | rfl
  · exact w_few_1 h (Nat.le_refl _) Rat.le_refl
  · obtain ⟨g, g1, g2, g3, g4, g5, g6, g7⟩ := vv_g2 hw hd hy
    rw [← vv_f1 hw hd hy (by omega)] at g5 g6
    have a1 := w_few_s h (Nat.le_refl _) g1 g2 g5
    have a2 := w_few_1 h (by omega) g6
    omega
  · obtain ⟨g, e, g1, g2, g3, g4, g5, g6, g7, g8, g9, ga, gb⟩ := vv_g3 hw hd hy
    rw [← vv_f1 hw hd hy (by omega)] at g8 g9 ga
    have a1 := w_few_s h (Nat.le_refl _) g1 g2 g8
    have a2 := w_few_s h (by omega) g3 g4 g9
    have a3 := w_few_1 h (by omega) ga
    omega
theorem vv_few_m {v v' : Int} (hxy : y ≤ x) (h : vv_few N x v) (h' : vv_few N y v') : v ≤ v' := by
  obtain ⟨m, h, rfl⟩ := h
  obtain ⟨m', h', rfl⟩ := h'
  have key : ∀ T, T ≤ 2 ^ w_nn N - 1 → m T ≤ m' T := by
    intro T
    induction T using Nat.strongRecOn with
    | _ T ih =>
      intro hT
      by_cases c1 : T = 0
      · rw [c1, h.1, h'.1]; exact Int.le_refl _
      · obtain ⟨a1, a2, a3⟩ := h.2 T (by omega) hT
        obtain ⟨b1, b2, b3⟩ := h'.2 T (by omega) hT
        rcases b3 with b3 | ⟨a, c2, c3, c4, c5, c6⟩
        · rw [b3]; exact a1
        · have h1 := ih (T - a) (by omega) (by omega)
          have h2 := a2 a c2 c3 c4 (Rat.le_trans c5 hxy)
          omega
  exact key _ (Nat.le_refl _)
end
end
