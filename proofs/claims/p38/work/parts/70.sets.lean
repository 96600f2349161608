section
/-! Sets as arguments. -/
theorem t_u0 {u : UInt32} : u.toInt32.toInt = 0 ↔ u.toNat = 0 := by
  constructor
  · intro h
    have h2 : u.toBitVec.toInt = 0 := h
    have h3 : u.toBitVec = 0#32 := BitVec.eq_of_toInt_eq (by rw [h2]; rfl)
    show u.toBitVec.toNat = 0
    rw [h3]; rfl
  · intro h
    have h3 : u.toBitVec = 0#32 := BitVec.eq_of_toNat_eq (by show u.toBitVec.toNat = 0; exact h)
    show u.toBitVec.toInt = 0
    rw [h3]; rfl
theorem t_un {x : Int} : ((Int32.ofInt x).toUInt32.toNat : Int) = x % 4294967296 := by
  show (((Int32.ofInt x).toBitVec.toNat : Nat) : Int) = _
  rw [Int32.toBitVec_ofInt, BitVec.toNat_ofInt]
  have : (0 : Int) ≤ x % 4294967296 := Int.emod_nonneg _ (by decide)
  have e : ((2 ^ 32 : Nat) : Int) = 4294967296 := by decide
  rw [e]
  exact Int.toNat_of_nonneg this
theorem t_shN : ∀ n : Fin 9, ((Int32.ofInt ((n.val : Nat) : Int)).toUInt32 &&& Int32.toUInt32 31) = UInt32.ofNat n.val := by decide
theorem w_set1 {x : Int} {n : Nat} (hn : n ≤ 8) (hx : w32 x = x) : (w32 (i_ushr x (n : Int)) = 0) = (0 ≤ x ∧ x < ((2 ^ n : Nat) : Int)) := by
  have hb : -2147483648 ≤ x ∧ x ≤ 2147483647 := by
    have h1 : -2147483648 ≤ w32 x := Int.le_bmod (by decide)
    have h2 : w32 x < 2147483648 := Int.bmod_lt (by decide)
    rw [hx] at h1 h2
    clear hx
    omega
  have e1 : i_ushr x (n : Int) = ((Int32.ofInt x).toUInt32 >>> (UInt32.ofNat n)).toInt32.toInt := by
    unfold i_ushr
    rw [t_shN ⟨n, by omega⟩]
  have e2 : w32 (i_ushr x (n : Int)) = i_ushr x (n : Int) := by
    have h1 : -2147483648 ≤ i_ushr x (n : Int) := by rw [e1]; exact Int32.le_toInt _
    have h2 : i_ushr x (n : Int) < 2147483648 := by rw [e1]; exact Int32.toInt_lt _
    clear hx e1
    exact q_wB h1 (by omega)
  rw [e2, e1]
  apply propext
  rw [t_u0]
  have e3 : ((Int32.ofInt x).toUInt32 >>> (UInt32.ofNat n)).toNat = (Int32.ofInt x).toUInt32.toNat >>> n := by
    rw [UInt32.toNat_shiftRight]
    congr 1
    exact (by decide : ∀ m : Fin 9, (UInt32.ofNat m.val).toNat % 32 = m.val) ⟨n, by omega⟩
  rw [e3, Nat.shiftRight_eq_div_pow]
  have u := t_un (x := x)
  generalize (Int32.ofInt x).toUInt32.toNat = y at *
  have p8 := q_pow8 hn
  clear hx e1 e2 e3
  generalize 2 ^ n = P at *
  rw [Nat.div_eq_zero_iff]
  omega
theorem w_all1 {n : Nat} (hn : n ≤ 8) : i_shl 1 (n : Int) - 1 = ((2 ^ n - 1 : Nat) : Int) := by
  have p8 := q_pow8 hn
  rw [q_shl hn]
  omega
end
