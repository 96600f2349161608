section
/-! Distances: what areWays asks. -/
section
variable {N : Nat → Nat → Int} {a b v c e k : Nat}
theorem d_in_pos (hN : q_wf N) : ∀ k, k ≤ w_ne N → ∀ a b, a ≠ b → 1 ≤ d_in 1000000 N k a b := by
  intro k
  induction k with
  | zero =>
    intro _ a b h
    unfold d_in
    rw [if_neg h]
    decide
  | succ k ih =>
    intro hk a b h
    have he := wf_ed hN (e := k) (by omega)
    unfold d_in
    split
    · omega
    · exact ih (by omega) a b h
theorem d_fw_pos (hN : q_wf N) : ∀ k, k ≤ 8 → ∀ a b, a ≠ b → 1 ≤ d_fw 1000000 N k a b := by
  intro k
  induction k with
  | zero => intro _ a b h; exact d_in_pos hN _ (Nat.le_refl _) a b h
  | succ k ih =>
    intro hk a b h
    have h1 := ih (by omega) a b h
    have q1 := d_fw_b hN (F := 1000000) (by omega) (k := k) (by omega) a k
    have q2 := d_fw_b hN (F := 1000000) (by omega) (k := k) (by omega) k b
    have h2 : 1 ≤ d_fw 1000000 N k a k + d_fw 1000000 N k k b := by
      by_cases c1 : a = k
      · have := ih (by omega) k b (by omega)
        omega
      · have := ih (by omega) a k c1
        omega
    unfold d_fw
    split <;> omega
theorem d_fw_dec {F : Int} : ∀ (m : Nat), d_fw F N (k + m) a b ≤ d_fw F N k a b
  | 0 => Int.le_refl _
  | m + 1 => by
    have h1 := d_fw_dec (F := F) m
    have h2 : d_fw F N (k + m + 1) a b ≤ d_fw F N (k + m) a b := by
      rw [d_fw]
      split <;> omega
    exact Int.le_trans h2 h1
theorem w_D_le (hN : q_wf N) (hk : k ≤ w_nn N) : w_D N a b ≤ d_fw 1000000 N k a b := by
  have h := d_fw_dec (N := N) (a := a) (b := b) (k := k) (F := 1000000) (w_nn N - k)
  rw [show k + (w_nn N - k) = w_nn N by omega] at h
  exact h
/-- the nodes that an edge joins -/
def w_at (N : Nat → Nat → Int) (e a b : Nat) : Prop := a = w_f N e ∧ b = w_s N e ∨ a = w_s N e ∧ b = w_f N e
theorem w_at_u (hN : q_wf N) {f : Nat} (he : e < w_ne N) (hf : f < w_ne N) (h1 : w_at N e a b) (h2 : w_at N f a b) : e = f := by
  have key : ∀ e f, e < f → f < w_ne N → w_at N e a b → w_at N f a b → False := by
    intro e f hef hf h1 h2
    have q := hN.2.2.2.2.2.2.1 e f hef hf
    obtain ⟨a1, a2, -⟩ := wf_ed hN (e := e) (by omega)
    obtain ⟨b1, b2, -⟩ := wf_ed hN hf
    apply q
    unfold w_jo
    rw [a1, a2, b1, b2]
    unfold w_at at h1 h2
    omega
  rcases Nat.lt_or_ge e f with z | z
  · exact (key e f z hf h1 h2).elim
  · rcases Nat.lt_or_ge f e with z2 | z2
    · exact (key f e z2 he h2 h1).elim
    · omega
theorem d_in_e (hN : q_wf N) {F : Int} : ∀ k, k ≤ w_ne N → ∀ e, e < k → w_at N e a b → d_in F N k a b = N 10 e := by
  intro k
  induction k with
  | zero => intro _ e he; omega
  | succ k ih =>
    intro hk e he h
    unfold d_in
    by_cases c1 : e = k
    · subst c1
      exact if_pos h
    · have q9 : ¬ (a = w_f N k ∧ b = w_s N k ∨ a = w_s N k ∧ b = w_f N k) := fun q => c1 (w_at_u hN (by omega) (by omega) h q)
      rw [if_neg q9]
      exact ih (by omega) e (by omega) h
theorem w_D_e (hN : q_wf N) (he : e < w_ne N) (h : w_at N e a b) : w_D N a b ≤ N 10 e := by
  have h1 := w_D_le hN (k := 0) (a := a) (b := b) (by omega)
  have h2 : d_fw 1000000 N 0 a b = N 10 e := d_in_e hN _ (Nat.le_refl _) e he h
  omega
theorem d_in_inv (hN : q_wf N) : ∀ k, k ≤ w_ne N → a ≠ b → d_in 1000000 N k a b < 1000000 → ∃ e, e < k ∧ w_at N e a b ∧ d_in 1000000 N k a b = N 10 e := by
  intro k
  induction k with
  | zero =>
    intro _ h h2
    unfold d_in at h2
    rw [if_neg h] at h2
    omega
  | succ k ih =>
    intro hk h h2
    unfold d_in at h2 ⊢
    split at h2
    · next c1 =>
      rw [if_pos c1]
      exact ⟨k, by omega, c1, rfl⟩
    · next c1 =>
      rw [if_neg c1]
      obtain ⟨e, e1, e2, e3⟩ := ih (by omega) h h2
      exact ⟨e, by omega, e2, e3⟩
theorem w_D_tri (hN : q_wf N) (hv : v < w_nn N) : w_D N a b ≤ w_D N a v + w_D N v b := d_fw_tri hN (by omega) _ (wf_n hN).2.2 v hv a b
theorem d_step (hN : q_wf N) : ∀ k, k ≤ w_nn N → ∀ a b, a ≠ b → d_fw 1000000 N k a b < 1000000 → ∃ e v, e < w_ne N ∧ w_at N e a v ∧ N 10 e + w_D N v b ≤ d_fw 1000000 N k a b := by
  have n8 := (wf_n hN).2.2
  intro k
  induction k with
  | zero =>
    intro _ a b h h2
    obtain ⟨e, e1, e2, e3⟩ := d_in_inv hN (w_ne N) (Nat.le_refl _) h h2
    have h0 := (w_D_b hN b b).1 rfl
    exact ⟨e, b, e1, e2, by show _ ≤ d_in 1000000 N (w_ne N) a b; omega⟩
  | succ k ih =>
    intro hk a b h h2
    have q1 := d_fw_b hN (F := 1000000) (by omega) (k := k) (by omega) a k
    have q2 := d_fw_b hN (F := 1000000) (by omega) (k := k) (by omega) k b
    rw [d_fw] at h2 ⊢
    by_cases c1 : d_fw 1000000 N k a k + d_fw 1000000 N k k b < d_fw 1000000 N k a b
    · rw [if_pos c1] at h2 ⊢
      have ak : a ≠ k := by
        intro q
        rw [q] at c1
        have := (d_fw_b hN (F := 1000000) (by omega) (k := k) (by omega) k k).1 rfl
        omega
      obtain ⟨e, v, e1, e2, e3⟩ := ih (by omega) a k ak (by omega)
      have t1 := w_D_tri hN (v := k) (a := v) (b := b) (by omega)
      have t2 := w_D_le hN (k := k) (a := k) (b := b) (by omega)
      exact ⟨e, v, e1, e2, by omega⟩
    · rw [if_neg c1] at h2 ⊢
      exact ih (by omega) a b h h2
theorem w_eb_at (hN : q_wf N) (he : e < w_ne N) (h : w_at N e a b) : w_eb N a b = (e : Int) := by
  unfold w_eb
  have hp : ∀ i, i < w_ne N → (decide (N 6 i = (a : Int) ∧ N 8 i = (b : Int) ∨ N 6 i = (b : Int) ∧ N 8 i = (a : Int)) = true ↔ w_at N i a b) := by
    intro i hi
    obtain ⟨a1, a2, -⟩ := wf_ed hN hi
    rw [decide_eq_true_eq, a1, a2]
    unfold w_at
    omega
  rcases q_fst_r (p := fun i => decide (N 6 i = (a : Int) ∧ N 8 i = (b : Int) ∨ N 6 i = (b : Int) ∧ N 8 i = (a : Int))) (w_ne N) 0 with ⟨-, h2⟩ | ⟨j, -, h2, h3, h4, -⟩
  · have h5 := h2 e (by omega) (by omega)
    rw [(hp e he).mpr h] at h5
    cases h5
  · rw [h4, w_at_u hN (by omega) he ((hp j (by omega)).mp h3) h]
theorem w_eb_inv (hN : q_wf N) (h : w_eb N a b ≠ -1) : ∃ e, e < w_ne N ∧ w_at N e a b ∧ w_eb N a b = (e : Int) := by
  unfold w_eb at h ⊢
  rcases q_fst_r (p := fun i => decide (N 6 i = (a : Int) ∧ N 8 i = (b : Int) ∨ N 6 i = (b : Int) ∧ N 8 i = (a : Int))) (w_ne N) 0 with ⟨h1, -⟩ | ⟨j, -, h2, h3, h4, -⟩
  · exact absurd h1 h
  · refine ⟨j, by omega, ?_, h4⟩
    obtain ⟨a1, a2, -⟩ := wf_ed hN (e := j) (by omega)
    rw [decide_eq_true_eq, a1, a2] at h3
    unfold w_at
    omega
/-- the first step of a shortest way -/
theorem w_fs_no (h : a = b ∨ ¬ w_D N a b < 1000000) : w_fs N a b = -1 := by
  unfold w_fs
  rw [if_pos h]
theorem w_fs_ok (hN : q_wf N) (ha : a < w_nn N) (h : a ≠ b) (h2 : w_D N a b < 1000000) : ∃ v, v < w_nn N ∧ w_fs N a b = (v : Int) ∧ w_D N v b < 1000000 ∧ 0 ≤ w_D N v b ∧ w_D N a v < 1000000 ∧ w_D N a v + w_D N v b = w_D N a b ∧ v ≠ a := by
  unfold w_fs
  rw [if_neg (by omega)]
  rcases q_fst_r (p := fun i => decide (w_eb N a i ≠ -1 ∧ N 10 (w_eb N a i).toNat + w_D N i b = w_D N a b)) (w_nn N) 0 with ⟨-, h3⟩ | ⟨v, -, v1, v2, v3, -⟩
  · exfalso
    obtain ⟨e, v, e1, e2, e3⟩ := d_step hN (w_nn N) (Nat.le_refl _) a b h h2
    have he := wf_ed hN e1
    have hv : v < w_nn N := by unfold w_at at e2; omega
    have h4 := h3 v (by omega) (by omega)
    rw [decide_eq_false_iff_not] at h4
    apply h4
    have e4 := w_eb_at hN e1 e2
    have t1 := w_D_tri hN (v := v) (a := a) (b := b) hv
    have t2 := w_D_e hN e1 e2
    have e3 : N 10 e + w_D N v b ≤ w_D N a b := e3
    refine ⟨by omega, ?_⟩
    rw [e4, Int.toNat_natCast]
    omega
  · rw [decide_eq_true_eq] at v2
    obtain ⟨v2, v4⟩ := v2
    obtain ⟨e, e1, e2, e3⟩ := w_eb_inv hN v2
    rw [e3, Int.toNat_natCast] at v4
    have he := wf_ed hN e1
    have t1 := w_D_tri hN (v := v) (a := a) (b := b) (by omega)
    have t2 := w_D_e hN e1 e2
    have b1 := (w_D_b hN v b).2.2
    have b2 := (w_D_b hN a v).2.2
    have hva : v ≠ a := by unfold w_at at e2; omega
    exact ⟨v, by omega, v3, by omega, by omega, by omega, by omega, hva⟩
/-! what is told of distances -/
theorem vv_d_b (hN : q_wf N) (a b : Nat) : -1 ≤ vv_d N a b ∧ vv_d N a b ≤ 12800 := by
  have h := (w_D_b hN a b).2.2
  unfold vv_d
  split <;> omega
theorem vv_d_w (hN : q_wf N) (a b : Nat) : w32 (vv_d N a b) = vv_d N a b := by
  have h := vv_d_b hN a b
  exact q_wi (by omega) (by omega)
theorem vv_d_s (hN : q_wf N) (a b : Nat) : vv_d N a b = vv_d N b a := by
  unfold vv_d
  rw [(w_D_b hN a b).2.1]
theorem vv_d_0 (hN : q_wf N) : vv_d N a b = 0 ↔ a = b := by
  have h := w_D_b hN a b
  unfold vv_d
  constructor
  · intro q
    by_cases c1 : a = b
    · exact c1
    · have : 1 ≤ w_D N a b := d_fw_pos hN _ (wf_n hN).2.2 a b c1
      split at q <;> omega
  · intro q
    rw [h.1 q]
    rfl
theorem vv_d_tri (hN : q_wf N) (hb : b < w_nn N) (h1 : vv_d N a b ≠ -1) (h2 : vv_d N b c ≠ -1) : vv_d N a c ≤ vv_d N a b + vv_d N b c := by
  have t := w_D_tri hN (v := b) (a := a) (b := c) hb
  have q1 := (w_D_b hN a b).2.2
  have q2 := (w_D_b hN b c).2.2
  unfold vv_d at *
  split at h1
  · split at h2
    · next c1 c2 =>
      rw [if_pos c1, if_pos c2, if_pos (by omega)]
      exact t
    · exact absurd rfl h2
  · exact absurd rfl h1
theorem vv_d_f (hN : q_wf N) (ha : a < w_nn N) : (w_fs N a b = -1 ∧ vv_d N a b ≤ 0) ∨ (0 < vv_d N a b ∧ ∃ v, v < w_nn N ∧ w_fs N a b = (v : Int) ∧ 0 ≤ vv_d N v b ∧ vv_d N a v + vv_d N v b = vv_d N a b ∧ v ≠ a) := by
  by_cases c1 : a = b ∨ ¬ w_D N a b < 1000000
  · refine Or.inl ⟨w_fs_no c1, ?_⟩
    rcases c1 with c1 | c1
    · exact Int.le_of_eq ((vv_d_0 hN).mpr c1)
    · unfold vv_d
      rw [if_neg c1]
      decide
  · have hab : a ≠ b := fun q => c1 (Or.inl q)
    have hlt : w_D N a b < 1000000 := by omega
    obtain ⟨v, v1, v2, v3, v4, v5, v6, v7⟩ := w_fs_ok hN ha hab hlt
    have : 1 ≤ w_D N a b := d_fw_pos hN _ (wf_n hN).2.2 a b hab
    refine Or.inr ⟨by unfold vv_d; rw [if_pos hlt]; omega, v, v1, v2, ?_, ?_, v7⟩
    · unfold vv_d
      rw [if_pos v3]
      exact v4
    · unfold vv_d
      rw [if_pos v3, if_pos v5, if_pos hlt]
      exact v6
/-- the greatest distance so far, whether all have been there -/
def vv_st (N : Nat → Nat → Int) (a b : Nat) (x : Int × Int) : Int × Int := (if x.1 < vv_d N a b then vv_d N a b else x.1, if x.2 = 0 then 0 else if vv_d N a b = -1 then 0 else 1)
def vv_so (N : Nat → Nat → Int) (a : Nat) (x : Int × Int) : Int × Int := q_it (vv_st N a) (w_nn N) x
theorem vv_st_b (hN : q_wf N) {x : Int × Int} (h : (0 ≤ x.1 ∧ x.1 ≤ 12800) ∧ (x.2 = 0 ∨ x.2 = 1)) : (0 ≤ (vv_st N a b x).1 ∧ (vv_st N a b x).1 ≤ 12800) ∧ ((vv_st N a b x).2 = 0 ∨ (vv_st N a b x).2 = 1) := by
  have := vv_d_b hN a b
  unfold vv_st
  dsimp only
  refine ⟨?_, ?_⟩
  · split <;> omega
  · split
    · exact Or.inl rfl
    · split
      · exact Or.inl rfl
      · exact Or.inr rfl
/-- at the end: the diameter, whether the network is connected -/
theorem vv_so_end (hN : q_wf N) : (w_cn N → q_it (vv_so N) (w_nn N) (0, 1) = (w_gd (w_D N) (w_nn N), 1)) ∧ (¬ w_cn N → (q_it (vv_so N) (w_nn N) (0, 1)).2 = 0) := by
  constructor
  · intro hc
    have hd : ∀ a b, a < w_nn N → b < w_nn N → vv_d N a b = w_D N a b ∧ vv_d N a b ≠ -1 := by
      intro a b ha hb
      have := w_D_cn hN hc ha hb
      unfold vv_d
      rw [if_pos (by omega)]
      exact ⟨rfl, by omega⟩
    have inner : ∀ a, a < w_nn N → ∀ x : Int, ∀ k, k ≤ w_nn N → q_it (vv_st N a) k (x, 1) = (q_it (fun b y => if y < w_D N a b then w_D N a b else y) k x, 1) := by
      intro a ha x k
      induction k with
      | zero => intro _; rfl
      | succ k ih =>
        intro hk
        obtain ⟨h1, h2⟩ := hd a k ha (by omega)
        rw [q_it, q_it, ih (by omega)]
        unfold vv_st
        dsimp only
        rw [if_neg (show ¬ (1 : Int) = 0 by decide), if_neg h2, h1]
    have outer : ∀ k, k ≤ w_nn N → q_it (vv_so N) k (0, 1) = (q_it (fun a x => q_it (fun b y => if y < w_D N a b then w_D N a b else y) (w_nn N) x) k 0, 1) := by
      intro k
      induction k with
      | zero => intro _; rfl
      | succ k ih =>
        intro hk
        rw [q_it, q_it, ih (by omega)]
        exact inner k (by omega) _ _ (Nat.le_refl _)
    exact outer _ (Nat.le_refl _)
  · intro hc
    have n1 := (wf_n hN).2.1
    obtain ⟨i, i1, i2⟩ : ∃ i, i < w_nn N ∧ ¬ w_D N 0 i < 1000000 := by
      apply Classical.byContradiction
      intro q
      apply hc
      intro i hi
      apply Classical.byContradiction
      intro q2
      exact q ⟨i, hi, q2⟩
    have z2 : ∀ a k x, (x : Int × Int).2 = 0 → (q_it (vv_st N a) k x).2 = 0 := by
      intro a k x hx
      induction k with
      | zero => exact hx
      | succ k ih =>
        rw [q_it]
        show (if (q_it (vv_st N a) k x).2 = 0 then (0 : Int) else _) = 0
        rw [if_pos ih]
    have z1 : ∀ k, i < k → (q_it (vv_st N 0) k (0, 1)).2 = 0 := by
      intro k hk
      induction k with
      | zero => omega
      | succ k ih =>
        rw [q_it]
        show (if (q_it (vv_st N 0) k (0, 1)).2 = 0 then (0 : Int) else if vv_d N 0 k = -1 then 0 else 1) = 0
        by_cases c1 : i < k
        · rw [if_pos (ih c1)]
        · have : i = k := by omega
          subst this
          have h9 : vv_d N 0 i = -1 := by unfold vv_d; rw [if_neg i2]
          rw [if_pos h9]
          split <;> rfl
    have z3 : ∀ k, 0 < k → (q_it (vv_so N) k (0, 1)).2 = 0 := by
      intro k hk
      induction k with
      | zero => omega
      | succ k ih =>
        rw [q_it]
        by_cases c1 : 0 < k
        · exact z2 _ _ _ (ih c1)
        · have : k = 0 := by omega
          subst this
          exact z1 _ i1
    exact z3 _ n1
end
end
