section
/-! Sets of nodes as numbers. -/
theorem q_btN : ∀ S : Fin 256, ∀ i : Fin 8, q_bt ((S.val : Nat) : Int) i.val = Nat.testBit S.val i.val := by decide +kernel
theorem q_bt_tb {S i : Nat} (h : S < 256) (h2 : i < 8) : q_bt (S : Int) i = Nat.testBit S i := q_btN ⟨S, h⟩ ⟨i, h2⟩
theorem q_shlN : ∀ i : Fin 9, i_shl 1 ((i.val : Nat) : Int) = ((2 ^ i.val : Nat) : Int) := by decide +kernel
theorem q_shl {i : Nat} (h : i ≤ 8) : i_shl 1 (i : Int) = ((2 ^ i : Nat) : Int) := q_shlN ⟨i, by omega⟩
theorem q_pow8 {n : Nat} (h : n ≤ 8) : 1 ≤ 2 ^ n ∧ 2 ^ n ≤ 256 := by
  refine ⟨Nat.one_le_two_pow, ?_⟩
  exact Nat.le_trans (Nat.pow_le_pow_right (by omega) h) (by decide)
theorem q_andN : ∀ a : Fin 256, ∀ S : Fin 256, i_and ((a.val : Nat) : Int) ((S.val : Nat) : Int) = ((a.val &&& S.val : Nat) : Int) := by decide +kernel
theorem q_and {a S : Nat} (h : a < 256) (h2 : S < 256) : i_and (a : Int) (S : Int) = ((a &&& S : Nat) : Int) := q_andN ⟨a, h⟩ ⟨S, h2⟩
def w_sub (a S : Nat) : Bool := decide (a &&& S = a)
theorem q_subN : ∀ a : Fin 256, ∀ S : Fin 256, w_sub a.val S.val = true → a.val ≤ S.val ∧ w_sub (S.val - a.val) S.val = true ∧ i_and ((S.val : Nat) : Int) (i_xor ((a.val : Nat) : Int) (-1)) = ((S.val - a.val : Nat) : Int) := by decide +kernel
theorem q_sub2N : ∀ a : Fin 256, ∀ S : Fin 256, decide (i_and ((a.val : Nat) : Int) (i_xor ((S.val : Nat) : Int) (-1)) = 0) = w_sub a.val S.val := by decide +kernel
theorem w_sub_le {a S : Nat} (h : S < 256) (ha : a < 256) (hs : w_sub a S = true) : a ≤ S ∧ w_sub (S - a) S = true ∧ i_and (S : Int) (i_xor (a : Int) (-1)) = ((S - a : Nat) : Int) := q_subN ⟨a, ha⟩ ⟨S, h⟩ hs
theorem w_sub_m {a S : Nat} (h : S < 256) (ha : a < 256) : (i_and (a : Int) (i_xor (S : Int) (-1)) = 0) = (w_sub a S = true) := by
  have := q_sub2N ⟨a, ha⟩ ⟨S, h⟩
  rw [← this, decide_eq_true_eq]
theorem w_sub_0 {S : Nat} : w_sub 0 S = true := by
  unfold w_sub
  rw [decide_eq_true_eq]
  exact Nat.zero_and S
theorem w_sub_r {S : Nat} : w_sub S S = true := by
  unfold w_sub
  rw [decide_eq_true_eq]
  exact Nat.and_self S
theorem q_bitN : ∀ i : Fin 8, ∀ o : Fin 256, o.val < 2 ^ i.val → ∀ k : Fin 8, q_bt ((2 ^ i.val + o.val : Nat) : Int) k.val = (if k.val < i.val then q_bt ((o.val : Nat) : Int) k.val else decide (k.val = i.val)) ∧ (i.val ≤ k.val → q_bt ((o.val : Nat) : Int) k.val = false) := by decide +kernel
theorem q_allN : ∀ n : Fin 9, ∀ k : Fin 8, k.val < n.val → q_bt ((2 ^ n.val - 1 : Nat) : Int) k.val = true := by decide +kernel
theorem w_H_congr {N : Nat → Nat → Int} {t p q S S' : Int} {g : Nat} : ∀ n, (∀ k, k < n → q_bt S k = q_bt S' k) → w_H N t S g p q n = w_H N t S' g p q n := by
  intro n
  induction n with
  | zero => intro _; rfl
  | succ n ih =>
    intro h
    unfold w_H
    rw [ih (fun k hk => h k (by omega)), h n (by omega)]
theorem w_H_tail {N : Nat → Nat → Int} {t p q S : Int} {g m : Nat} : ∀ n, m ≤ n → (∀ k, m ≤ k → k < n → q_bt S k = false) → w_H N t S g p q n = w_H N t S g p q m := by
  intro n
  induction n with
  | zero => intro h _; rw [show m = 0 by omega]
  | succ n ih =>
    intro h hf
    rcases Nat.eq_or_lt_of_le h with c | c
    · rw [c]
    · rw [← ih (by omega) (fun k h1 h2 => hf k h1 (by omega))]
      show (if _ then _ else _) = _
      rw [if_neg]
      rw [hf n (by omega) (by omega)]
      rintro ⟨h, -⟩
      exact absurd h (by decide)
theorem w_H_bit {N : Nat → Nat → Int} {t p q : Int} {g i o n : Nat} (hi : i < n) (hn : n ≤ 8) (ho : o < 2 ^ i) : w_H N t ((2 ^ i + o : Nat) : Int) g p q n = if w_H N t (o : Int) g p q n < w_F N t g i p q then w_F N t g i p q else w_H N t (o : Int) g p q n := by
  have h256 : o < 256 := by have := (q_pow8 (n := i) (by omega)).2; omega
  have hb := fun k (hk : k < 8) => q_bitN ⟨i, by omega⟩ ⟨o, h256⟩ ho ⟨k, hk⟩
  have t1 : w_H N t (o : Int) g p q n = w_H N t (o : Int) g p q i := w_H_tail n (by omega) (fun k h1 h2 => (hb k (by omega)).2 h1)
  have t2 : w_H N t ((2 ^ i + o : Nat) : Int) g p q n = w_H N t ((2 ^ i + o : Nat) : Int) g p q (i + 1) := w_H_tail n (by omega) (fun k h1 h2 => by
    have := (hb k (by omega)).1
    dsimp only at this
    rw [this, if_neg (by omega), decide_eq_false (by omega)])
  have t3 : w_H N t ((2 ^ i + o : Nat) : Int) g p q i = w_H N t (o : Int) g p q i := w_H_congr i (fun k hk => by
    have := (hb k (by omega)).1
    dsimp only at this
    rw [this, if_pos hk])
  have b1 : q_bt ((2 ^ i + o : Nat) : Int) i = true := by
    have := (hb i (by omega)).1
    dsimp only at this
    rw [this, if_neg (by omega), decide_eq_true rfl]
  rw [t1, t2]
  show (if _ then _ else _) = _
  rw [b1, t3]
  by_cases c : w_H N t (o : Int) g p q i < w_F N t g i p q
  · rw [if_pos ⟨rfl, c⟩, if_pos c]
  · rw [if_neg (fun q => c q.2), if_neg c]
theorem w_H_0 {N : Nat → Nat → Int} {t p q : Int} {g : Nat} {n : Nat} (hn : n ≤ 8) : w_H N t 0 g p q n = 0 := by
  refine (w_H_tail (m := 0) n (by omega) (fun k _ hk => ?_)).trans rfl
  have := q_btN ⟨0, by omega⟩ ⟨k, by omega⟩
  dsimp only at this
  exact this.trans (Nat.zero_testBit k)
end
