section
/-! The points that are looked at. -/
theorem q_sm_congr {p p' : Nat → Bool} : ∀ (k i : Nat), (∀ j, i ≤ j → j < i + k → p j = p' j) → q_sm p i k = q_sm p' i k
  | 0, _, _ => rfl
  | k + 1, i, h => by
    unfold q_sm
    rw [h i (Nat.le_refl _) (by omega), q_sm_congr k (i + 1) (fun j h1 h2 => h j (by omega) (by omega))]
theorem q_fst_congr {p p' : Nat → Bool} : ∀ (k i : Nat), (∀ j, i ≤ j → j < i + k → p j = p' j) → q_fst p i k = q_fst p' i k
  | 0, _, _ => rfl
  | k + 1, i, h => by
    unfold q_fst
    rw [h i (Nat.le_refl _) (by omega), q_fst_congr k (i + 1) (fun j h1 h2 => h j (by omega) (by omega))]
def w_al (N : Nat → Nat → Int) (g : Nat) (p q : Int) : Bool := q_sm (fun k => decide (¬ (N 12 k = (g : Int) ∧ N 14 k * q < p ∧ p < N 16 k * q))) 0 (w_ns N)
theorem w_al_iff {N : Nat → Nat → Int} {g : Nat} {p q : Int} : w_al N g p q = true ↔ ∀ k, k < w_ns N → ¬ (N 12 k = (g : Int) ∧ N 14 k * q < p ∧ p < N 16 k * q) := by
  unfold w_al
  rw [q_sm_iff]
  constructor
  · intro h k hk
    exact of_decide_eq_true (h k (by omega) (by omega))
  · intro h k _ hk
    exact decide_eq_true (h k (by omega))
theorem n_al {σ N : Nat → Nat → Int} {a g : Nat} {p q : Int} (ht : nAt σ a N) (hw : q_wf N) (hg : g < 50) (h1 : 0 ≤ p) (h2 : p ≤ 50000) (h3 : 0 ≤ q) (h4 : q ≤ 1000) : q_sm (q_pm σ a (g : Int) p q) 0 (w_ns N) = w_al N g p q := by
  refine q_sm_congr _ _ (fun k _ hk => ?_)
  have n6 := (wf_s hw).2
  have hs := hw.2.2.2.1
  have b1 := hs 12 k (by omega) (by rw [q_len2]; simp; omega)
  have b2 := hs 14 k (by omega) (by rw [q_len2]; simp; omega)
  have b3 := hs 16 k (by omega) (by rw [q_len2]; simp; omega)
  have a1 : σ (a + 12) k = N 12 k := ht 12 k (by rw [q_len2]; simp; omega)
  have a2 : σ (a + 14) k = N 14 k := ht 14 k (by rw [q_len2]; simp; omega)
  have a3 : σ (a + 16) k = N 16 k := ht 16 k (by rw [q_len2]; simp; omega)
  have m1 := q_mb b2.1 b2.2 h3 h4
  have m2 := q_mb b3.1 b3.2 h3 h4
  unfold q_pm
  rw [a1, a2, a3, q_wB (by omega) (by omega), q_wB (by omega) (by omega), q_wB (by omega) (by omega), q_wB (by omega) (by omega), q_wB (by omega) (by omega)]
def q_cat {α : Type} (f : Nat → List α) : Nat → List α
  | 0 => []
  | k + 1 => q_cat f k ++ f k
theorem q_cat_s {α : Type} {f : Nat → List α} {k : Nat} : q_cat f (k + 1) = q_cat f k ++ f k := rfl
theorem q_cat_mem {α : Type} {f : Nat → List α} {x : α} : ∀ {k : Nat}, x ∈ q_cat f k ↔ ∃ i, i < k ∧ x ∈ f i
  | 0 => ⟨fun h => by simp [q_cat] at h, fun ⟨i, h, _⟩ => absurd h (by omega)⟩
  | k + 1 => by
    rw [q_cat_s, List.mem_append, q_cat_mem]
    constructor
    · rintro (⟨i, h1, h2⟩ | h)
      · exact ⟨i, by omega, h2⟩
      · exact ⟨k, by omega, h⟩
    · rintro ⟨i, h1, h2⟩
      rcases Nat.lt_succ_iff_lt_or_eq.mp h1 with c | c
      · exact Or.inl ⟨i, c, h2⟩
      · subst c; exact Or.inr h2
def q_sum (f : Nat → Nat) : Nat → Nat
  | 0 => 0
  | k + 1 => q_sum f k + f k
theorem q_sum_s {f : Nat → Nat} {k : Nat} : q_sum f (k + 1) = q_sum f k + f k := rfl
theorem q_sum_mono {f : Nat → Nat} {i n : Nat} (h : i ≤ n) : q_sum f i ≤ q_sum f n := by
  induction h with
  | refl => exact Nat.le_refl _
  | step _ ih => rw [q_sum_s]; omega
theorem q_sum_le {f f' : Nat → Nat} : ∀ {n : Nat}, (∀ i, i < n → f i ≤ f' i) → q_sum f n ≤ q_sum f' n
  | 0, _ => Nat.le_refl _
  | n + 1, h => by
    rw [q_sum_s, q_sum_s]
    have h1 := q_sum_le (n := n) (fun i hi => h i (by omega))
    have h2 := h n (by omega)
    omega
theorem q_sum_add {f f' : Nat → Nat} : ∀ {n : Nat}, q_sum (fun i => f i + f' i) n = q_sum f n + q_sum f' n
  | 0 => rfl
  | n + 1 => by
    rw [q_sum_s, q_sum_s, q_sum_s, q_sum_add]
    omega
theorem q_cat_len {α : Type} {f : Nat → List α} : ∀ {n : Nat}, (q_cat f n).length = q_sum (fun i => (f i).length) n
  | 0 => rfl
  | n + 1 => by rw [q_cat_s, List.length_append, q_cat_len, q_sum_s]
theorem q_sum_c {c : Nat} : ∀ {n : Nat}, q_sum (fun _ => c) n = n * c
  | 0 => by simp [q_sum]
  | n + 1 => by rw [q_sum_s, q_sum_c, Nat.add_mul, Nat.one_mul]
/-- of each two only one -/
theorem q_sum_anti {c : Nat → Nat → Nat} (h : ∀ i j, c i j + c j i ≤ 1) : ∀ n, q_sum (fun i => q_sum (c i) n) n ≤ q_sum (fun k => k) n
  | 0 => Nat.le_refl _
  | n + 1 => by
    have e : q_sum (fun i => q_sum (c i) (n + 1)) n = q_sum (fun i => q_sum (c i) n) n + q_sum (fun i => c i n) n := q_sum_add (f := fun i => q_sum (c i) n) (f' := fun i => c i n)
    have h1 := q_sum_anti h n
    have h2 : q_sum (fun i => c i n) n + q_sum (c n) n ≤ n := by
      have e2 : q_sum (fun i => c i n + c n i) n = q_sum (fun i => c i n) n + q_sum (fun i => c n i) n := q_sum_add
      have e3 := q_sum_le (f := fun i => c i n + c n i) (f' := fun _ => 1) (n := n) (fun i _ => h i n)
      rw [q_sum_c] at e3
      have e4 : q_sum (fun i => c n i) n = q_sum (c n) n := rfl
      omega
    have h3 := h n n
    rw [q_sum_s, q_sum_s (f := fun k => k), e, q_sum_s (f := c n)]
    omega
def w_ap (N : Nat → Nat → Int) (g : Nat) (p q : Int) : List wP := if w_al N g p q = true then [(g, p, q)] else []
def w_xB (N : Nat → Nat → Int) (t : Int) (i j : Nat) : Int := w_W N t i + w_W N t j
def w_xT (N : Nat → Nat → Int) (t : Int) (g i j : Nat) : Int := w_W N t j * w_b N g j - w_W N t i * w_o N g i
def w_ld (N : Nat → Nat → Int) (t : Int) (g i j k : Nat) : Int := (w_b N g k - w_o N g k) * w_xB N t i j - 2 * w_xT N t g i j
def w_ac (N : Nat → Nat → Int) (t : Int) (g i j : Nat) : Bool := decide (0 < w_W N t i ∧ 0 < w_W N t j ∧ 0 < w_xT N t g i j ∧ w_xT N t g i j < N 10 g * w_xB N t i j ∧ 0 < w_ld N t g i j i ∧ w_ld N t g i j j < 0)
def w_xl (N : Nat → Nat → Int) (t : Int) (g i j : Nat) : List wP := if w_ac N t g i j = true then w_ap N g (w_xT N t g i j) (w_xB N t i j) else []
def w_pe (N : Nat → Nat → Int) (t : Int) (g : Nat) : List wP := w_ap N g 0 1 ++ w_ap N g (N 10 g) 1 ++ q_cat (fun i => q_cat (w_xl N t g i) (w_nn N)) (w_nn N)
def w_ps (N : Nat → Nat → Int) (k : Nat) : List wP := w_ap N (N 12 k).toNat (N 14 k) 1 ++ w_ap N (N 12 k).toNat (N 16 k) 1
def w_pts (N : Nat → Nat → Int) (t : Int) : List wP := q_cat (w_pe N t) (w_ne N) ++ q_cat (w_ps N) (w_ns N)
theorem w_ap_len {N : Nat → Nat → Int} {g : Nat} {p q : Int} : (w_ap N g p q).length ≤ 1 := by
  unfold w_ap
  split
  · exact Nat.le_refl _
  · exact Nat.zero_le _
section
variable {N : Nat → Nat → Int} {t : Int} {g : Nat}
theorem w_ac_anti (i j : Nat) : (if w_ac N t g i j = true then 1 else 0) + (if w_ac N t g j i = true then 1 else 0) ≤ 1 := by
  by_cases h1 : w_ac N t g i j = true
  · by_cases h2 : w_ac N t g j i = true
    · exfalso
      have a := of_decide_eq_true h1
      have b := of_decide_eq_true h2
      obtain ⟨a1, a2, -, -, a5, a6⟩ := a
      obtain ⟨-, -, -, -, b5, b6⟩ := b
      unfold w_ld at a5 a6 b5 b6
      have hB : 0 < w_xB N t i j := by unfold w_xB; omega
      have hB2 : w_xB N t j i = w_xB N t i j := by unfold w_xB; omega
      rw [hB2] at b5 b6
      have c1 : (w_b N g j - w_o N g j) * w_xB N t i j < (w_b N g i - w_o N g i) * w_xB N t i j := by omega
      have c2 : (w_b N g i - w_o N g i) * w_xB N t i j < (w_b N g j - w_o N g j) * w_xB N t i j := by omega
      omega
    · rw [if_pos h1, if_neg h2]; omega
  · rw [if_neg h1]
    split <;> omega
theorem w_xl_len {i j : Nat} : (w_xl N t g i j).length ≤ if w_ac N t g i j = true then 1 else 0 := by
  unfold w_xl
  split
  · exact w_ap_len
  · exact Nat.le_refl _
/-- crossings so far -/
theorem w_cnt (hw : q_wf N) {i j : Nat} (hi : i < w_nn N) (hj : j < w_nn N) : (q_cat (fun i => q_cat (w_xl N t g i) (w_nn N)) i ++ q_cat (w_xl N t g i) j).length + (if w_ac N t g i j = true then 1 else 0) ≤ 28 := by
  have h8 := (wf_n hw).2.2
  rw [List.length_append, q_cat_len, q_cat_len]
  have e1 : q_sum (fun i => (q_cat (w_xl N t g i) (w_nn N)).length) i ≤ q_sum (fun i => q_sum (fun j => if w_ac N t g i j = true then 1 else 0) (w_nn N)) i := by
    refine q_sum_le (fun i _ => ?_)
    rw [q_cat_len]
    exact q_sum_le (fun j _ => w_xl_len)
  have e2 : q_sum (fun j => (w_xl N t g i j).length) j ≤ q_sum (fun j => if w_ac N t g i j = true then 1 else 0) j := q_sum_le (fun j _ => w_xl_len)
  have e3 : q_sum (fun j => if w_ac N t g i j = true then 1 else 0) (j + 1) ≤ q_sum (fun j => if w_ac N t g i j = true then 1 else 0) (w_nn N) := q_sum_mono (by omega)
  have e4 : q_sum (fun i => q_sum (fun j => if w_ac N t g i j = true then 1 else 0) (w_nn N)) (i + 1) ≤ q_sum (fun i => q_sum (fun j => if w_ac N t g i j = true then 1 else 0) (w_nn N)) (w_nn N) := q_sum_mono (by omega)
  have e5 := q_sum_anti (c := fun i j => if w_ac N t g i j = true then 1 else 0) (fun i j => w_ac_anti i j) (w_nn N)
  have e6 : q_sum (fun k => k) (w_nn N) ≤ q_sum (fun k => k) 8 := q_sum_mono h8
  have e7 : q_sum (fun k => k) 8 = 28 := rfl
  rw [q_sum_s] at e3 e4
  omega
theorem w_cntA (hw : q_wf N) {i : Nat} (hi : i ≤ w_nn N) : (q_cat (fun i => q_cat (w_xl N t g i) (w_nn N)) i).length ≤ 28 := by
  have h8 := (wf_n hw).2.2
  rw [q_cat_len]
  have e1 : q_sum (fun i => (q_cat (w_xl N t g i) (w_nn N)).length) i ≤ q_sum (fun i => q_sum (fun j => if w_ac N t g i j = true then 1 else 0) (w_nn N)) i := by
    refine q_sum_le (fun i _ => ?_)
    rw [q_cat_len]
    exact q_sum_le (fun j _ => w_xl_len)
  have e4 : q_sum (fun i => q_sum (fun j => if w_ac N t g i j = true then 1 else 0) (w_nn N)) i ≤ q_sum (fun i => q_sum (fun j => if w_ac N t g i j = true then 1 else 0) (w_nn N)) (w_nn N) := q_sum_mono hi
  have e5 := q_sum_anti (c := fun i j => if w_ac N t g i j = true then 1 else 0) (fun i j => w_ac_anti i j) (w_nn N)
  have e6 : q_sum (fun k => k) (w_nn N) ≤ q_sum (fun k => k) 8 := q_sum_mono h8
  have e7 : q_sum (fun k => k) 8 = 28 := rfl
  omega
theorem w_pe_len (hw : q_wf N) : (w_pe N t g).length ≤ 30 := by
  have h := w_cntA hw (t := t) (g := g) (Nat.le_refl (w_nn N))
  have h1 := w_ap_len (N := N) (g := g) (p := 0) (q := 1)
  have h2 := w_ap_len (N := N) (g := g) (p := N 10 g) (q := 1)
  unfold w_pe
  rw [List.length_append, List.length_append]
  omega
theorem w_pes_len (hw : q_wf N) {k : Nat} : (q_cat (w_pe N t) k).length ≤ 30 * k := by
  rw [q_cat_len]
  have h := q_sum_le (f := fun i => (w_pe N t i).length) (f' := fun _ => 30) (n := k) (fun i _ => w_pe_len hw)
  rw [q_sum_c] at h
  omega
theorem w_pss_len {k : Nat} : (q_cat (w_ps N) k).length ≤ 2 * k := by
  rw [q_cat_len]
  have h := q_sum_le (f := fun i => (w_ps N i).length) (f' := fun _ => 2) (n := k) (fun i _ => by
    unfold w_ps
    rw [List.length_append]
    have h1 := w_ap_len (N := N) (g := (N 12 i).toNat) (p := N 14 i) (q := 1)
    have h2 := w_ap_len (N := N) (g := (N 12 i).toNat) (p := N 16 i) (q := 1)
    omega)
  rw [q_sum_c] at h
  omega
end
end
