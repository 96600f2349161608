section
/-! Centers: what isCenter asks. -/
theorem q_orN : ∀ i : Fin 8, ∀ o : Fin 256, o.val < 2 ^ i.val → i_or ((o.val : Nat) : Int) ((2 ^ i.val : Nat) : Int) = ((2 ^ i.val + o.val : Nat) : Int) := by decide +kernel
theorem q_bt0N : ∀ i : Fin 8, q_bt ((0 : Nat) : Int) i.val = false := by decide +kernel
/-- a set out of its bits -/
theorem w_or_n (P : Nat → Bool) : ∀ k, k ≤ 8 → ∃ m : Nat, m < 2 ^ k ∧ w_or P k = (m : Int) ∧ ∀ i, i < 8 → q_bt (m : Int) i = (decide (i < k) && P i) := by
  intro k
  induction k with
  | zero =>
    intro _
    refine ⟨0, by decide, rfl, fun i hi => ?_⟩
    rw [q_bt0N ⟨i, hi⟩, decide_eq_false (by omega)]
    rfl
  | succ k ih =>
    intro hk
    obtain ⟨m, m1, m2, m3⟩ := ih (by omega)
    have p1 : 2 ^ (k + 1) = 2 * 2 ^ k := by rw [Nat.pow_succ]; omega
    have p8 := q_pow8 (n := k) (by omega)
    rw [w_or]
    by_cases c1 : P k = true
    · rw [if_pos c1, m2, q_shl (by omega), q_orN ⟨k, by omega⟩ ⟨m, by omega⟩ m1]
      refine ⟨2 ^ k + m, by omega, rfl, fun i hi => ?_⟩
      have h1 := (q_bitN ⟨k, by omega⟩ ⟨m, by omega⟩ m1 ⟨i, hi⟩).1
      dsimp only at h1
      rw [h1]
      by_cases c2 : i < k
      · rw [if_pos c2, m3 i hi, decide_eq_true c2, decide_eq_true (by omega)]
      · rw [if_neg c2]
        by_cases c3 : i = k
        · subst c3
          rw [decide_eq_true rfl, decide_eq_true (by omega), c1]
          rfl
        · rw [decide_eq_false c3, decide_eq_false (by omega)]
          rfl
    · rw [if_neg c1, m2]
      refine ⟨m, by omega, rfl, fun i hi => ?_⟩
      rw [m3 i hi]
      by_cases c2 : i < k
      · rw [decide_eq_true c2, decide_eq_true (by omega)]
      · rw [decide_eq_false c2]
        by_cases c3 : i = k
        · subst c3
          have : P i = false := by simpa using c1
          simp [this]
        · rw [decide_eq_false (by omega)]
theorem w_sub_of {a S : Nat} (ha : a < 256) (hS : S < 256) (h : ∀ i, i < 8 → q_bt (a : Int) i = true → q_bt (S : Int) i = true) : w_sub a S = true := by
  unfold w_sub
  rw [decide_eq_true_eq]
  apply Nat.eq_of_testBit_eq
  intro i
  rw [Nat.testBit_and]
  by_cases hi : i < 8
  · have h1 := h i hi
    rw [q_bt_tb ha hi, q_bt_tb hS hi] at h1
    cases e : Nat.testBit a i with
    | false => rfl
    | true => rw [h1 e]; rfl
  · have : Nat.testBit a i = false := Nat.testBit_lt_two_pow (Nat.lt_of_lt_of_le ha (by rw [show 256 = 2 ^ 8 by decide]; exact Nat.pow_le_pow_right (by decide) (by omega)))
    rw [this]
    rfl
theorem w_sub_bt {a S i : Nat} (hi : i < 8) (ha : a < 256) (hS : S < 256) (h : w_sub a S = true) (hb : q_bt (a : Int) i = true) : q_bt (S : Int) i = true := by
  unfold w_sub at h
  rw [decide_eq_true_eq] at h
  rw [q_bt_tb ha hi] at hb
  rw [q_bt_tb hS hi]
  rw [← h, Nat.testBit_and] at hb
  simp only [Bool.and_eq_true] at hb
  exact hb.2
section
variable {N : Nat → Nat → Int} {S S' i g k : Nat} {x : Rat} {p q : Int}
theorem vv_h_v (hp : 0 < q) (hg : g < w_ne N) (h0 : 0 ≤ p) (h1 : p ≤ N 10 g * q) (ha : w_al N g p q = true) : h_v N g (fr p q) := by
  refine ⟨hg, fr_nn hp h0, ?_, (h_alfr hp).mp ha⟩
  rw [← fr_1, fr_le hp (by decide)]
  omega
/-- a point in lowest terms -/
theorem vv_pt (h : h_v N g x) (hU : q_pt x 1 ≤ 1000) : y_pt N g (q_pt x 0) (q_pt x 1) ∧ vv_al N g (q_pt x 0) (q_pt x 1) = 1 := by
  have u1 := q_pt1 (r := x)
  have hq : 0 < q_pt x 1 := by omega
  have e := q_ptf x
  have h2 := h.2.2.1
  rw [← e, ← fr_1, fr_le hq (by decide)] at h2
  refine ⟨⟨u1, hU, q_ptn h.2.1, by omega⟩, ?_⟩
  have h3 := h.2.2.2
  rw [← e] at h3
  unfold vv_al
  rw [if_pos ((h_alfr hq).mpr h3)]
theorem vv_c_v (hw : q_wf N) (hd : y_cc N) (S : Int) : h_v N (vv_c N S).1 (vv_c N S).2 := (vv_c_o (S := S) hw hd).1
theorem vv_m_v (hw : q_wf N) (hd : y_cc N) : h_v N (vv_m N).1 (vv_m N).2 := (vv_m_o hw hd).1
theorem h_opt_le {f : Nat → Rat → Rat} {g' : Nat} {x' : Rat} (h : h_opt N f g x) (hv : h_v N g' x') : f g x ≤ f g' x' := by
  apply Rat.not_lt.mp
  intro q
  exact h.2 g' x' hv (Or.inl q)
/-- no point that is looked at is better -/
theorem vv_c_le (hw : q_wf N) (hd : y_cc N) {S : Int} (h : h_v N g x) : vv_r N S ≤ h_fH N 0 S g x := h_opt_le (vv_c_o hw hd) h
theorem vv_m_le (hw : q_wf N) (hd : y_cc N) (h : h_v N g x) : vv_mr N ≤ h_fC N 0 g x := h_opt_le (vv_m_o hw hd) h
/-- heights of a part of a set -/
theorem h_fH_sub (hw : q_wf N) (hS' : S' < 256) (hS : S < 256) (hs : w_sub S' S = true) : h_fH N 0 (S' : Int) g x ≤ h_fH N 0 (S : Int) g x := by
  have n8 := (wf_n hw).2.2
  unfold h_fH
  rcases h_H_at (N := N) (t := 0) (S := (S' : Int)) (g := g) (x := x) (n := w_nn N) with z | ⟨i, i1, i2, i3⟩
  · rw [z]
    exact h_H_nn _
  · rw [← i3]
    exact h_H_ge i i1 (w_sub_bt (by omega) hS' hS hs i2)
theorem vv_r_sub (hw : q_wf N) (hd : y_cc N) (hS' : S' < 256) (hS : S < 256) (hs : w_sub S' S = true) : vv_r N (S' : Int) ≤ vv_r N (S : Int) := Rat.le_trans (vv_c_le hw hd (vv_c_v hw hd (S : Int))) (h_fH_sub hw hS' hS hs)
theorem q_lessN : ∀ S : Fin 256, S.val ≠ 0 → i_and ((S.val : Nat) : Int) (((S.val : Nat) : Int) - 1) = ((S.val &&& (S.val - 1) : Nat) : Int) ∧ w_sub (S.val &&& (S.val - 1)) S.val = true ∧ (S.val &&& (S.val - 1)) ≤ S.val := by decide +kernel
/-- the critical nodes -/
theorem vv_cr_ok (hw : q_wf N) (hd : y_cc N) (hS : S < 2 ^ w_nn N) : ∃ m : Nat, vv_cr N (S : Int) = (m : Int) ∧ m < 256 ∧ w_sub m S = true ∧ (m = 0 → S = 0) ∧ ∀ i, i < w_nn N → q_bt (m : Int) i = true → h_F N 0 (vv_c N (S : Int)).1 i (vv_c N (S : Int)).2 = vv_r N (S : Int) := by
  have n8 := (wf_n hw).2.2
  have p8 := q_pow8 n8
  unfold vv_cr
  generalize hP : (fun i => @decide (q_bt (S : Int) i = true ∧ h_F N 0 (vv_c N (S : Int)).1 i (vv_c N (S : Int)).2 = vv_r N (S : Int)) _) = P
  have hPi : ∀ i, P i = true ↔ (q_bt (S : Int) i = true ∧ h_F N 0 (vv_c N (S : Int)).1 i (vv_c N (S : Int)).2 = vv_r N (S : Int)) := by
    intro i
    rw [← hP]
    exact decide_eq_true_iff
  obtain ⟨m, m1, m2, m3⟩ := w_or_n P (w_nn N) n8
  refine ⟨m, m2, by omega, ?_, ?_, ?_⟩
  · refine w_sub_of (by omega) (by omega) (fun i hi hb => ?_)
    rw [m3 i hi, Bool.and_eq_true] at hb
    exact ((hPi i).mp hb.2).1
  · intro m0
    apply Classical.byContradiction
    intro S0
    -- some node of the set is as far as the radius
    have hex : ∃ i, i < w_nn N ∧ P i = true := by
      rcases h_H_at (N := N) (t := 0) (S := (S : Int)) (g := (vv_c N (S : Int)).1) (x := (vv_c N (S : Int)).2) (n := w_nn N) with z | ⟨i, i1, i2, i3⟩
      · obtain ⟨i, i1, i2⟩ : ∃ i, i < w_nn N ∧ q_bt (S : Int) i = true := by
          apply Classical.byContradiction
          intro hn
          apply S0
          apply Nat.eq_of_testBit_eq
          intro i
          rw [Nat.zero_testBit]
          by_cases hi : i < w_nn N
          · rw [← q_bt_tb (by omega) (by omega)]
            cases e : q_bt (S : Int) i with
            | false => rfl
            | true => exact absurd ⟨i, hi, e⟩ hn
          · exact Nat.testBit_lt_two_pow (Nat.lt_of_lt_of_le hS (Nat.pow_le_pow_right (by decide) (by omega)))
        have hv := vv_c_v hw hd (S : Int)
        refine ⟨i, i1, (hPi i).mpr ⟨i2, ?_⟩⟩
        have a1 := h_H_ge (N := N) (t := 0) (S := (S : Int)) (g := (vv_c N (S : Int)).1) (x := (vv_c N (S : Int)).2) (n := w_nn N) i i1 i2
        have a2 := h_Fnn (t := 0) hw hd.1 hv.1 (by decide) i1 hv.2.1 hv.2.2.1
        unfold vv_r h_fH
        rw [z] at a1 ⊢
        exact Rat.le_antisymm a1 a2
      · exact ⟨i, i1, (hPi i).mpr ⟨i2, i3⟩⟩
    obtain ⟨i, i1, i2⟩ := hex
    have h1 := m3 i (by omega)
    rw [m0, q_bt0N ⟨i, by omega⟩, i2, decide_eq_true i1] at h1
    cases h1
  · intro i hi hb
    rw [m3 i (by omega), Bool.and_eq_true] at hb
    exact ((hPi i).mp hb.2).2
/-- a critical node's weight times its distance -/
theorem vv_cr_eq {r ρ : Rat} {W : Int} (h : (W : Rat) * r = ρ) : W * q_pt r 0 * q_pt ρ 1 = q_pt ρ 0 * q_pt r 1 := by
  have h1 : fr (W * q_pt r 0) (q_pt r 1) = fr (q_pt ρ 0) (q_pt ρ 1) := by rw [fr_sm, q_ptf, q_ptf]; exact h
  rw [fr_eq (by have := q_pt1 (r := r); omega) (by have := q_pt1 (r := ρ); omega)] at h1
  exact h1
/-- bounds of a distance, a height, a cost -/
theorem vv_h_b (hw : q_wf N) (hd : w_cn N) (hg : g < w_ne N) (hp : y_pt N g p q) (hi : i < w_nn N) : (0 ≤ q_pt (h_r N g i (fr p q)) 0 ∧ q_pt (h_r N g i (fr p q)) 0 ≤ 2147483647) ∧ 1 ≤ q_pt (h_r N g i (fr p q)) 1 ∧ q_pt (h_r N g i (fr p q)) 1 ≤ 1000 := by
  obtain ⟨p1, p2, p3, p4⟩ := y_ptw hw hg hp
  have ob := w_ob hw hd hg hi
  have h9 := hp.2.2
  have q9 := hp.2.1
  have m1 : 0 ≤ w_o N g i * q := Int.mul_nonneg (by omega) (by omega)
  have m2 : N 10 g * q ≤ w_b N g i * q := Int.mul_le_mul_of_nonneg_right (by omega) (by omega)
  have m3 : w_o N g i * q ≤ 12800 * 1000 := Int.mul_le_mul (by omega) q9 (by omega) (by decide)
  have m4 : w_b N g i * q ≤ 12850 * 1000 := Int.mul_le_mul (by omega) q9 (by omega) (by decide)
  rw [← h_Rfr p3]
  refine q_ptb ?_ p3 ?_ q9
  · unfold w_R
    split <;> omega
  · unfold w_R
    split <;> omega
theorem vv_H_b (hw : q_wf N) (hd : w_cn N) (hg : g < w_ne N) (hp : y_pt N g p q) {S : Int} : (0 ≤ q_pt (h_fH N 0 S g (fr p q)) 0 ∧ q_pt (h_fH N 0 S g (fr p q)) 0 ≤ 2147483647) ∧ 1 ≤ q_pt (h_fH N 0 S g (fr p q)) 1 ∧ q_pt (h_fH N 0 S g (fr p q)) 1 ≤ 1000 := by
  obtain ⟨p1, p2, p3, p4⟩ := y_ptw hw hg hp
  have hb := w_Hb (S := S) hw hd hg (y_ptq hw hg hp) (w_nn N) (Nat.le_refl _)
  unfold h_fH
  rw [← h_Hfr p3]
  exact q_ptb hb.1 p3 (by omega) hp.2.1
theorem vv_C_b (hw : q_wf N) (hd : w_cn N) (hg : g < w_ne N) (hp : y_pt N g p q) : (0 ≤ q_pt (h_fC N 0 g (fr p q)) 0 ∧ q_pt (h_fC N 0 g (fr p q)) 0 ≤ 2147483647) ∧ 1 ≤ q_pt (h_fC N 0 g (fr p q)) 1 ∧ q_pt (h_fC N 0 g (fr p q)) 1 ≤ 1000 := by
  obtain ⟨p1, p2, p3, p4⟩ := y_ptw hw hg hp
  have n8 := (wf_n hw).2.2
  have hb := w_Cb hw hd hg (y_ptq hw hg hp) (w_nn N) (Nat.le_refl _)
  unfold h_fC
  rw [← h_Cfr p3]
  exact q_ptb hb.1 p3 (by omega) hp.2.1
end
end
