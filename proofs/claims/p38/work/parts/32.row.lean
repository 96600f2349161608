section
/-! Rows of numbers. -/
def q_row (K : Nat → mK) (n b : Nat) : Prop := q_ob K n b 3 ∧ q_rp K b 0 ∧ q_rf K b 0 = b + 1 ∧ q_ak K n (b + 1) 2 ∧ q_al K n (b + 1) ∧ q_ln K (b + 1) ≤ 1000
def q_get (σ : Nat → Nat → Int) (c L : Nat) (i : Int) : Int := if 0 ≤ w32 i ∧ w32 i < (L : Int) then σ c (w32 i).toNat else 0
def q_set (σ : Nat → Nat → Int) (c L : Nat) (i v : Int) : Nat → Nat → Int := if 0 ≤ w32 i ∧ w32 i < (L : Int) then m_up2 σ c (w32 i).toNat v else σ
def q_fill (σ : Nat → Nat → Int) (c L : Nat) (f : Nat → Int) : Nat → Nat → Int := fun a j => if a = c ∧ j < L then f j else σ a j
theorem q_w {n : Nat} (h : n ≤ 1000000) : w32 (n : Int) = (n : Int) := w32_of (by omega) (by omega)
theorem q_wi {x : Int} (h1 : -1000000 ≤ x) (h2 : x ≤ 1000000) : w32 x = x := w32_of (by omega) (by omega)
theorem q_fill_0 (σ : Nat → Nat → Int) (c : Nat) (f : Nat → Int) : q_fill σ c 0 f = σ := by
  funext a j
  unfold q_fill
  rw [if_neg (by omega)]
theorem q_fill_s (σ : Nat → Nat → Int) (c i : Nat) (f : Nat → Int) : m_up2 (q_fill σ c i f) c i (f i) = q_fill σ c (i + 1) f := by
  funext a j
  unfold m_up2 q_fill
  by_cases h1 : a = c
  · subst h1
    by_cases h2 : j = i
    · subst h2; rw [if_pos ⟨rfl, rfl⟩, if_pos ⟨rfl, by omega⟩]
    · rw [if_neg (fun q => h2 q.2)]
      by_cases h3 : j < i
      · rw [if_pos ⟨rfl, h3⟩, if_pos ⟨rfl, by omega⟩]
      · rw [if_neg (fun q => h3 q.2), if_neg (fun q => h3 (by omega))]
  · rw [if_neg (fun q => h1 q.1), if_neg (fun q => h1 q.1), if_neg (fun q => h1 q.1)]
/-- a loop upwards -/
theorem q_loop {α : Type} {Z : mZ} {S : Nat → α → mS} {P : Nat → α → Prop} {N : Nat} (hs : ∀ i x, i < N → P i x → ∃ y, m_run Z (S i x) = m_run Z (S (i + 1) y) ∧ P (i + 1) y) : ∀ (k i : Nat) (x : α), i + k = N → P i x → ∃ y, m_run Z (S i x) = m_run Z (S N y) ∧ P N y := by
  intro k
  induction k with
  | zero =>
    intro i x hi hp
    have hi : i = N := by omega
    subst hi
    exact ⟨x, rfl, hp⟩
  | succ k ih =>
    intro i x hi hp
    obtain ⟨y, e1, hy⟩ := hs i x (by omega) hp
    obtain ⟨z, e2, hz⟩ := ih (i + 1) y (by omega) hy
    exact ⟨z, e1.trans e2, hz⟩
/-- a loop whose state behind i rounds is a function of i -/
theorem q_loopf {Z : mZ} {S : Nat → mS} {N : Nat} (hs : ∀ i, i < N → m_run Z (S i) = m_run Z (S (i + 1))) : m_run Z (S 0) = m_run Z (S N) := by
  obtain ⟨y, h, -⟩ := q_loop (α := Unit) (S := fun i _ => S i) (P := fun _ _ => True) (N := N) (fun i x hi _ => ⟨(), hs i hi, trivial⟩) N 0 () (by omega) trivial
  exact h
section QR
variable {Z : mZ} {K : Nat → mK} {σ : Nat → Nat → Int} {n e s b b2 : Nat}
theorem r_get {i : Int} (hr : q_row K n b) : m_cl Z 44 [(2, ((b : Nat) : Int)), (0, i)] (K, σ, n, e, s) = some (.inl (0, q_get σ (b + 1) (q_ln K (b + 1)) i), (K, σ, n, e, s)) := by
  obtain ⟨h1, h2, h3, h4, h5, h6⟩ := hr
  have hw : w32 (q_ln K (b + 1) : Int) = (q_ln K (b + 1) : Int) := q_w (by omega)
  unfold q_get
  rw [e_44, b_44_0]
  by_cases c1 : w32 i < 0
  · rw [if_pos c1, if_neg (by omega), b_44_22, b_44_23]
  · rw [if_neg c1, b_44_4 h1 h2 (by rw [h3]; exact h5), h3, hw]
    by_cases c2 : (q_ln K (b + 1) : Int) ≤ w32 i
    · rw [if_pos c2, if_neg (by omega), b_44_22, b_44_23]
    · rw [if_neg c2, if_pos (by omega), b_44_13 h1 h2 (by omega) (by rw [h3]; omega) (by rw [h3]; exact h4), h3]
theorem r_set {i v : Int} (hr : q_row K n b) : m_cl Z 45 [(2, ((b : Nat) : Int)), (0, i), (0, v)] (K, σ, n, e, s) = some (.inl (9, 0), (K, q_set σ (b + 1) (q_ln K (b + 1)) i v, n, e, s)) := by
  obtain ⟨h1, h2, h3, h4, h5, h6⟩ := hr
  have hw : w32 (q_ln K (b + 1) : Int) = (q_ln K (b + 1) : Int) := q_w (by omega)
  unfold q_set
  rw [e_45, b_45_0]
  by_cases c1 : w32 i < 0
  · rw [if_pos c1, if_neg (by omega), b_45_20]
  · rw [if_neg c1, b_45_4 h1 h2 (by rw [h3]; exact h5), h3, hw]
    by_cases c2 : (q_ln K (b + 1) : Int) ≤ w32 i
    · rw [if_pos c2, if_neg (by omega), b_45_20]
    · rw [if_neg c2, if_pos (by omega), b_45_13 h1 h2 (by omega) (by rw [h3]; omega) (by rw [h3]; exact h4), h3, b_45_20]
theorem r_fill {v : Int} (hr : q_row K n b) : m_cl Z 46 [(2, ((b : Nat) : Int)), (0, v)] (K, σ, n, e, s) = some (.inl (9, 0), (K, q_fill σ (b + 1) (q_ln K (b + 1)) (fun _ => v), n, e, s)) := by
  obtain ⟨h1, h2, h3, h4, h5, h6⟩ := hr
  have hw : ∀ i : Nat, i ≤ q_ln K (b + 1) → w32 (i : Int) = (i : Int) := fun i hi => q_w (by omega)
  have hl := q_loopf (Z := Z) (N := q_ln K (b + 1)) (S := fun i => (46, 2, [(2, ((b : Nat) : Int)), (0, v), (0, (i : Int))], [], (K, q_fill σ (b + 1) i (fun _ => v), n, e, s))) (by
    intro i hi
    rw [b_46_2 h1 h2 (by rw [h3]; exact h5), h3, hw _ (Nat.le_refl _), hw i (by omega), if_neg (by omega), b_46_11 h1 h2 (by rw [hw i (by omega)]; omega) (by rw [hw i (by omega), h3]; omega) (by rw [h3]; exact h4), h3, hw i (by omega), Int.toNat_natCast, q_fill_s σ (b + 1) i (fun _ => v)]
    rfl)
  rw [q_fill_0] at hl
  rw [e_46, b_46_0]
  refine (hl).trans ?_
  rw [b_46_2 h1 h2 (by rw [h3]; exact h5), h3, hw _ (Nat.le_refl _), if_pos (Int.le_refl _), b_46_24]
theorem q_get_fill {c c2 i L : Nat} {f : Nat → Int} {x : Int} (h : c2 ≠ c) : q_get (q_fill σ c i f) c2 L x = q_get σ c2 L x := by
  unfold q_get q_fill
  by_cases h1 : 0 ≤ w32 x ∧ w32 x < (L : Int)
  · rw [if_pos h1, if_pos h1, if_neg (fun q => h q.1)]
  · rw [if_neg h1, if_neg h1]
theorem r_copy (hr : q_row K n b) (hr2 : q_row K n b2) (hne : b2 ≠ b) : m_cl Z 47 [(2, ((b : Nat) : Int)), (2, ((b2 : Nat) : Int))] (K, σ, n, e, s) = some (.inl (9, 0), (K, q_fill σ (b + 1) (q_ln K (b + 1)) (fun j => q_get σ (b2 + 1) (q_ln K (b2 + 1)) (j : Int)), n, e, s)) := by
  obtain ⟨h1, h2, h3, h4, h5, h6⟩ := id hr
  have g1 := hr2.1
  have hw : ∀ i : Nat, i ≤ q_ln K (b + 1) → w32 (i : Int) = (i : Int) := fun i hi => q_w (by omega)
  have hl := q_loopf (Z := Z) (N := q_ln K (b + 1)) (S := fun i => (47, 2, [(2, ((b : Nat) : Int)), (2, ((b2 : Nat) : Int)), (0, (i : Int))], [], (K, q_fill σ (b + 1) i (fun j => q_get σ (b2 + 1) (q_ln K (b2 + 1)) (j : Int)), n, e, s))) (by
    intro i hi
    rw [b_47_2 h1 h2 (by rw [h3]; exact h5), h3, hw _ (Nat.le_refl _), hw i (by omega), if_neg (by omega), b_47_11 h1 h2 g1, r_get hr2, Option.bind_some, g_aft, h3]
    show m_run Z (47, 21, _, [_, _, _], _) = _
    rw [b_47_21 (by rw [hw i (by omega)]; omega) (by rw [hw i (by omega)]; omega) h4, hw i (by omega), Int.toNat_natCast, q_get_fill (by omega), q_fill_s σ (b + 1) i (fun j => q_get σ (b2 + 1) (q_ln K (b2 + 1)) (j : Int))]
    rfl)
  rw [q_fill_0] at hl
  rw [e_47, b_47_0]
  refine (hl).trans ?_
  rw [b_47_2 h1 h2 (by rw [h3]; exact h5), h3, hw _ (Nat.le_refl _), if_pos (Int.le_refl _), b_47_28]
end QR
end
