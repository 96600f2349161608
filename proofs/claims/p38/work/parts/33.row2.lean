section
/-- all of a stretch -/
def q_sm (p : Nat → Bool) : Nat → Nat → Bool
  | _, 0 => true
  | i, k + 1 => p i && q_sm p (i + 1) k
theorem q_sm_iff {p : Nat → Bool} : ∀ (k i : Nat), q_sm p i k = true ↔ ∀ j, i ≤ j → j < i + k → p j = true
  | 0, i => ⟨fun _ j h1 h2 => absurd h2 (by omega), fun _ => rfl⟩
  | k + 1, i => by
    unfold q_sm
    rw [Bool.and_eq_true, q_sm_iff k (i + 1)]
    constructor
    · rintro ⟨h1, h2⟩ j h3 h4
      rcases Nat.eq_or_lt_of_le h3 with rfl | h5
      · exact h1
      · exact h2 j h5 (by omega)
    · intro h
      exact ⟨h i (Nat.le_refl _) (by omega), fun j h1 h2 => h j (by omega) (by omega)⟩
def q_eq (σ : Nat → Nat → Int) (c c2 L2 : Nat) (j : Nat) : Bool := decide (w32 (σ c j) = w32 (q_get σ c2 L2 (j : Int)))
theorem q_cV {K : Nat → mK} {σ τ : Nat → Nat → Int} {n e s : Nat} {v : mV ⊕ Nat} (h : σ = τ) : some ((v, (K, σ, n, e, s)) : mO) = some (v, (K, τ, n, e, s)) := by rw [h]
section QR
variable {Z : mZ} {K : Nat → mK} {σ : Nat → Nat → Int} {n e s b b2 : Nat}
theorem r_same (hr : q_row K n b) (hr2 : q_row K n b2) : m_cl Z 48 [(2, ((b : Nat) : Int)), (2, ((b2 : Nat) : Int))] (K, σ, n, e, s) = some (.inl (0, if q_sm (q_eq σ (b + 1) (b2 + 1) (q_ln K (b2 + 1))) 0 (q_ln K (b + 1)) = true then 1 else 0), (K, σ, n, e, s)) := by
  obtain ⟨h1, h2, h3, h4, h5, h6⟩ := id hr
  have g1 := hr2.1
  have hw : ∀ i : Nat, i ≤ q_ln K (b + 1) → w32 (i : Int) = (i : Int) := fun i hi => q_w (by omega)
  have key : ∀ k i : Nat, i + k = q_ln K (b + 1) → m_run Z (48, 2, [(2, ((b : Nat) : Int)), (2, ((b2 : Nat) : Int)), (0, (i : Int))], [], (K, σ, n, e, s)) = some (.inl (0, if q_sm (q_eq σ (b + 1) (b2 + 1) (q_ln K (b2 + 1))) i k = true then 1 else 0), (K, σ, n, e, s)) := by
    intro k
    induction k with
    | zero =>
      intro i hi
      rw [b_48_2 h1 h2 (by rw [h3]; exact h5), h3, hw _ (Nat.le_refl _), hw i (by omega), if_pos (by omega), b_48_33]
      rfl
    | succ k ih =>
      intro i hi
      rw [b_48_2 h1 h2 (by rw [h3]; exact h5), h3, hw _ (Nat.le_refl _), hw i (by omega), if_neg (by omega), b_48_11 h1 h2 (by rw [hw i (by omega)]; omega) (by rw [hw i (by omega), h3]; omega) (by rw [h3]; exact h4) g1, r_get hr2, Option.bind_some, g_aft, h3, hw i (by omega), Int.toNat_natCast]
      show m_run Z (48, 22, _, [_, _], _) = _
      rw [b_48_22]
      by_cases hc : w32 (σ (b + 1) i) = w32 (q_get σ (b2 + 1) (q_ln K (b2 + 1)) (i : Int))
      · rw [if_pos hc, b_48_27]
        refine (ih (i + 1) (by omega)).trans ?_
        rw [q_sm, show q_eq σ (b + 1) (b2 + 1) (q_ln K (b2 + 1)) i = true from decide_eq_true hc, Bool.true_and]
      · rw [if_neg hc, b_48_25, q_sm, show q_eq σ (b + 1) (b2 + 1) (q_ln K (b2 + 1)) i = false from decide_eq_false hc, Bool.false_and]
        rfl
  rw [e_48, b_48_0]
  exact key _ 0 (Nat.zero_add _)
def q_open (σ : Nat → Nat → Int) (c L p : Nat) : Nat → Nat → Int := fun a j => if a = c ∧ p < j ∧ j < L then σ c (j - 1) else σ a j
def q_rem (σ : Nat → Nat → Int) (c L p : Nat) : Nat → Nat → Int := fun a j => if a = c ∧ p ≤ j ∧ j + 1 < L then σ c (j + 1) else σ a j
theorem r_open {p : Nat} (hr : q_row K n b) (hp : p ≤ 1000) : m_cl Z 49 [(2, ((b : Nat) : Int)), (0, (p : Int))] (K, σ, n, e, s) = some (.inl (9, 0), (K, q_open σ (b + 1) (q_ln K (b + 1)) p, n, e, s)) := by
  obtain ⟨h1, h2, h3, h4, h5, h6⟩ := id hr
  have key : ∀ (i : Nat) (τ : Nat → Nat → Int), i + 1 ≤ q_ln K (b + 1) → (τ = fun a j => if a = b + 1 ∧ (p < j ∧ i < j) ∧ j < q_ln K (b + 1) then σ (b + 1) (j - 1) else σ a j) → m_run Z (49, 8, [(2, ((b : Nat) : Int)), (0, (p : Int)), (0, (i : Int))], [], (K, τ, n, e, s)) = some (.inl (9, 0), (K, q_open σ (b + 1) (q_ln K (b + 1)) p, n, e, s)) := by
    intro i
    induction i with
    | zero =>
      intro τ hi hτ
      have e1 : τ = q_open σ (b + 1) (q_ln K (b + 1)) p := by
        rw [hτ]
        funext a j
        unfold q_open
        try dsimp only
        by_cases c1 : a = b + 1 ∧ (p < j ∧ 0 < j) ∧ j < q_ln K (b + 1)
        · rw [if_pos c1, if_pos (by omega)]
        · rw [if_neg c1, if_neg (by omega)]
      rw [b_49_8, q_w (by omega), q_w (by omega)]
      by_cases c : ((0 : Nat) : Int) ≤ (p : Int)
      · rw [if_pos c, b_49_37, e1]
      · exact absurd (by omega) c
    | succ i ih =>
      intro τ hi hτ
      rw [b_49_8, q_w (by omega), q_w (by omega)]
      by_cases c : ((i + 1 : Nat) : Int) ≤ (p : Int)
      · rw [if_pos c, b_49_37]
        have e1 : τ = q_open σ (b + 1) (q_ln K (b + 1)) p := by
          rw [hτ]
          funext a j
          unfold q_open
          try dsimp only
          by_cases c1 : a = b + 1 ∧ p < j ∧ j < q_ln K (b + 1)
          · rw [if_pos c1, if_pos (by omega)]
          · rw [if_neg c1, if_neg (by omega)]
        rw [e1]
      · rw [if_neg c, b_49_13, q_w (by omega), if_neg (by omega)]
        have hw1 : w32 (((i + 1 : Nat) : Int) - 1) = (i : Int) := by rw [q_wi (by omega) (by omega)]; omega
        rw [b_49_17 h1 h2 (by rw [hw1]; omega) (by rw [hw1, h3]; omega) (by rw [h3]; exact h4) (by rw [q_w (by omega)]; omega) (by rw [q_w (by omega), h3]; omega), h3, hw1, q_w (by omega), Int.toNat_natCast, Int.toNat_natCast, show ((i + 1 : Nat) : Int) + (-1) = (i : Int) by omega]
        refine ih _ (by omega) ?_
        funext a j
        rw [hτ]
        unfold m_up2
        try dsimp only
        by_cases c2 : a = b + 1 ∧ j = i + 1
        · obtain ⟨rfl, rfl⟩ := c2
          rw [if_pos ⟨rfl, rfl⟩, if_neg (by omega), if_pos (by omega)]
          rfl
        · rw [if_neg c2]
          by_cases c3 : a = b + 1 ∧ (p < j ∧ i + 1 < j) ∧ j < q_ln K (b + 1)
          · rw [if_pos c3, if_pos (by omega)]
          · rw [if_neg c3, if_neg (by omega)]
  by_cases h0 : q_ln K (b + 1) = 0
  · rw [e_49, b_49_0 h1 h2 (by rw [h3]; exact h5), h3, h0, b_49_8, q_w (by omega), if_pos (by rw [q_wi (by omega) (by omega)]; omega), b_49_37]
    refine q_cV ?_
    funext a j
    unfold q_open
    rw [if_neg (by omega)]
  · rw [e_49, b_49_0 h1 h2 (by rw [h3]; exact h5), h3, show (q_ln K (b + 1) : Int) - 1 = ((q_ln K (b + 1) - 1 : Nat) : Int) by omega]
    refine key _ _ (by omega) ?_
    funext a j
    rw [if_neg (by omega)]
theorem r_rem {p : Nat} (hr : q_row K n b) (hp : p ≤ 1000) : m_cl Z 50 [(2, ((b : Nat) : Int)), (0, (p : Int))] (K, σ, n, e, s) = some (.inl (9, 0), (K, q_rem σ (b + 1) (q_ln K (b + 1)) p, n, e, s)) := by
  obtain ⟨h1, h2, h3, h4, h5, h6⟩ := id hr
  have hL : w32 ((q_ln K (b + 1) : Int) - 1) = (q_ln K (b + 1) : Int) - 1 := q_wi (by omega) (by omega)
  have key : ∀ (k i : Nat) (τ : Nat → Nat → Int), i ≤ 1001 → p ≤ i → q_ln K (b + 1) ≤ i + 1 + k → (τ = fun a j => if a = b + 1 ∧ (p ≤ j ∧ j < i) ∧ j + 1 < q_ln K (b + 1) then σ (b + 1) (j + 1) else σ a j) → m_run Z (50, 2, [(2, ((b : Nat) : Int)), (0, (p : Int)), (0, (i : Int))], [], (K, τ, n, e, s)) = some (.inl (9, 0), (K, q_rem σ (b + 1) (q_ln K (b + 1)) p, n, e, s)) := by
    intro k
    induction k with
    | zero =>
      intro i τ h7 h8 hi hτ
      rw [b_50_2, q_w (by omega), if_neg (by omega), b_50_6 h1 h2 (by rw [h3]; exact h5), h3, hL, q_w (by omega), if_pos (by omega), b_50_37, hτ]
      refine q_cV ?_
      funext a j
      unfold q_rem
      try dsimp only
      by_cases c1 : a = b + 1 ∧ p ≤ j ∧ j + 1 < q_ln K (b + 1)
      · rw [if_pos c1, if_pos (by omega)]
      · rw [if_neg c1, if_neg (by omega)]
    | succ k ih =>
      intro i τ h7 h8 hi hτ
      rw [b_50_2, q_w (by omega), if_neg (by omega), b_50_6 h1 h2 (by rw [h3]; exact h5), h3, hL, q_w (by omega)]
      by_cases c : (q_ln K (b + 1) : Int) - 1 ≤ (i : Int)
      · rw [if_pos c, b_50_37, hτ]
        refine q_cV ?_
        funext a j
        unfold q_rem
        try dsimp only
        by_cases c1 : a = b + 1 ∧ p ≤ j ∧ j + 1 < q_ln K (b + 1)
        · rw [if_pos c1, if_pos (by omega)]
        · rw [if_neg c1, if_neg (by omega)]
      · have hw1 : w32 ((i : Int) + 1) = ((i + 1 : Nat) : Int) := by rw [q_wi (by omega) (by omega)]; omega
        rw [if_neg c, b_50_17 h1 h2 (by rw [hw1]; omega) (by rw [hw1, h3]; omega) (by rw [h3]; exact h4) (by rw [q_w (by omega)]; omega) (by rw [q_w (by omega), h3]; omega), h3, hw1, q_w (by omega), Int.toNat_natCast, Int.toNat_natCast]
        refine ih (i + 1) _ (by omega) (by omega) (by omega) ?_
        funext a j
        rw [hτ]
        unfold m_up2
        try dsimp only
        by_cases c2 : a = b + 1 ∧ j = i
        · obtain ⟨rfl, rfl⟩ := c2
          rw [if_pos ⟨rfl, rfl⟩, if_neg (by omega), if_pos (by omega)]
        · rw [if_neg c2]
          by_cases c3 : a = b + 1 ∧ (p ≤ j ∧ j < i) ∧ j + 1 < q_ln K (b + 1)
          · rw [if_pos c3, if_pos (by omega)]
          · rw [if_neg c3, if_neg (by omega)]
  rw [e_50, b_50_0]
  refine key (q_ln K (b + 1)) p σ (by omega) (Nat.le_refl _) (by omega) ?_
  funext a j
  rw [if_neg (by omega)]
end QR
end
