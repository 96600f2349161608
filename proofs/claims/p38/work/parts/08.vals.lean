/-! Numbers of the small machine against Int32 and Int64. -/
theorem w32_lo (x : Int) : -2147483648 ≤ w32 x := by
  have h := Int.le_bmod (x := x) (m := 4294967296) (by decide)
  unfold w32
  omega
theorem w32_hi (x : Int) : w32 x < 2147483648 := by
  have h := Int.bmod_lt (x := x) (m := 4294967296) (by decide)
  unfold w32
  omega
theorem w32_of {x : Int} (h1 : -2147483648 ≤ x) (h2 : x < 2147483648) : w32 x = x := Int.bmod_eq_of_le (by omega) (by omega)
theorem w64_of {x : Int} (h1 : -9223372036854775808 ≤ x) (h2 : x < 9223372036854775808) : w64 x = x := Int.bmod_eq_of_le (by omega) (by omega)
theorem w64_lo (x : Int) : -9223372036854775808 ≤ w64 x := by
  have h := Int.le_bmod (x := x) (m := 18446744073709551616) (by decide)
  unfold w64
  omega
theorem w64_hi (x : Int) : w64 x < 9223372036854775808 := by
  have h := Int.bmod_lt (x := x) (m := 18446744073709551616) (by decide)
  unfold w64
  omega
theorem mt_ti (x : Int) : (Int32.ofInt x).toInt = w32 x := Int32.toInt_ofInt
theorem mt_tl (x : Int) : (Int64.ofInt x).toInt = w64 x := Int64.toInt_ofInt
theorem mt_add (a b : Int) : Int32.ofInt a + Int32.ofInt b = Int32.ofInt (a + b) := (Int32.ofInt_add a b).symm
theorem mt_sub (a b : Int) : Int32.ofInt a - Int32.ofInt b = Int32.ofInt (a - b) := (Int32.ofInt_sub a b).symm
theorem mt_mul (a b : Int) : Int32.ofInt a * Int32.ofInt b = Int32.ofInt (a * b) := (Int32.ofInt_mul a b).symm
theorem mt_neg (a : Int) : -Int32.ofInt a = Int32.ofInt (-a) := (Int32.ofInt_neg a).symm
theorem mt_addl (a b : Int) : Int64.ofInt a + Int64.ofInt b = Int64.ofInt (a + b) := (Int64.ofInt_add a b).symm
theorem mt_subl (a b : Int) : Int64.ofInt a - Int64.ofInt b = Int64.ofInt (a - b) := (Int64.ofInt_sub a b).symm
theorem mt_mull (a b : Int) : Int64.ofInt a * Int64.ofInt b = Int64.ofInt (a * b) := (Int64.ofInt_mul a b).symm
theorem mt_back (x : Int32) : Int32.ofInt x.toInt = x := Int32.ofInt_toInt x
theorem mt_backl (x : Int64) : Int64.ofInt x.toInt = x := Int64.ofInt_toInt x
theorem mt_inj {x y : Int32} (h : x.toInt = y.toInt) : x = y := Int32.toInt_inj.mp h
theorem mt_injl {x y : Int64} (h : x.toInt = y.toInt) : x = y := Int64.toInt_inj.mp h
theorem mt_and (a b : Int) : Int32.ofInt a &&& Int32.ofInt b = Int32.ofInt (i_and a b) := (mt_back _).symm
theorem mt_or (a b : Int) : Int32.ofInt a ||| Int32.ofInt b = Int32.ofInt (i_or a b) := (mt_back _).symm
theorem mt_xor (a b : Int) : Int32.ofInt a ^^^ Int32.ofInt b = Int32.ofInt (i_xor a b) := (mt_back _).symm
theorem mt_shl (a b : Int) : Int32.ofInt a <<< (Int32.ofInt b &&& 31) = Int32.ofInt (i_shl a b) := (mt_back _).symm
theorem mt_shr (a b : Int) : Int32.ofInt a >>> (Int32.ofInt b &&& 31) = Int32.ofInt (i_shr a b) := (mt_back _).symm
theorem mt_ushr (a b : Int) : ((Int32.ofInt a).toUInt32 >>> ((Int32.ofInt b).toUInt32 &&& Int32.toUInt32 31)).toInt32 = Int32.ofInt (i_ushr a b) := (mt_back _).symm
theorem mt_div (a b : Int) : Int32.ofInt a / Int32.ofInt b = Int32.ofInt ((w32 a).tdiv (w32 b)) := by
  apply mt_inj
  rw [Int32.toInt_div, mt_ti, mt_ti, mt_ti]
  rfl
theorem mt_divl (a b : Int) : Int64.ofInt a / Int64.ofInt b = Int64.ofInt ((w64 a).tdiv (w64 b)) := by
  apply mt_injl
  rw [Int64.toInt_div, mt_tl, mt_tl, mt_tl]
  rfl
theorem mt_w32 (a : Int) : Int32.ofInt (w32 a) = Int32.ofInt a := by rw [← mt_ti, mt_back]
theorem mt_w64 (a : Int) : Int64.ofInt (w64 a) = Int64.ofInt a := by rw [← mt_tl, mt_backl]
theorem mt_rem (a b : Int) : Int32.ofInt a - Int32.ofInt a / Int32.ofInt b * Int32.ofInt b = Int32.ofInt ((w32 a).tmod (w32 b)) := by
  rw [mt_div, ← mt_w32 a, ← mt_w32 b, mt_mul, mt_sub, Int.tmod_def, Int.mul_comm]
theorem mt_reml (a b : Int) : Int64.ofInt a - Int64.ofInt a / Int64.ofInt b * Int64.ofInt b = Int64.ofInt ((w64 a).tmod (w64 b)) := by
  rw [mt_divl, ← mt_w64 a, ← mt_w64 b, mt_mull, mt_subl, Int.tmod_def, Int.mul_comm]
theorem mt_i2l (a : Int) : (Int32.ofInt a).toInt64 = Int64.ofInt (w32 a) := by
  apply mt_injl
  rw [Int32.toInt_toInt64, mt_ti, mt_tl, w64_of (by have := w32_lo a; omega) (by have := w32_hi a; omega)]
theorem mt_l2i (a : Int) : (Int64.ofInt a).toInt32 = Int32.ofInt a := by
  apply mt_inj
  rw [Int64.toInt_toInt32, mt_ti, mt_tl]
  exact Int.bmod_bmod_of_dvd (by decide)
theorem mt_bi (n : Int) : (Int8.ofInt n).toInt32 = Int32.ofInt (Int8.ofInt n).toInt := by
  rw [← Int8.toInt_toInt32, mt_back]
theorem mt_si (n : Int) : (Int16.ofInt n).toInt32 = Int32.ofInt (Int16.ofInt n).toInt := by
  rw [← Int16.toInt_toInt32, mt_back]
theorem mt_lc (n : Nat) : Int64.ofNat n = Int64.ofInt (n : Int) := (Int64.ofInt_eq_ofNat).symm
theorem mt_z32 : w32 0 = 0 := by decide
theorem mt_eq0 (a : Int) : Int32.ofInt a = 0 ↔ w32 a = 0 := by
  rw [← mt_ti, ← Int32.toInt_inj]
  rfl
theorem mt_lt0 (a : Int) : Int32.ofInt a < 0 ↔ w32 a < 0 := by
  rw [← mt_ti, Int32.lt_iff_toInt_lt]
  rfl
theorem mt_le0 (a : Int) : Int32.ofInt a ≤ 0 ↔ w32 a ≤ 0 := by
  rw [← mt_ti, Int32.le_iff_toInt_le]
  rfl
theorem mt_eq (a b : Int) : Int32.ofInt a = Int32.ofInt b ↔ w32 a = w32 b := by
  rw [← mt_ti, ← mt_ti, Int32.toInt_inj]
theorem mt_lt (a b : Int) : Int32.ofInt a < Int32.ofInt b ↔ w32 a < w32 b := by
  rw [← mt_ti, ← mt_ti, Int32.lt_iff_toInt_lt]
theorem mt_le (a b : Int) : Int32.ofInt a ≤ Int32.ofInt b ↔ w32 a ≤ w32 b := by
  rw [← mt_ti, ← mt_ti, Int32.le_iff_toInt_le]
theorem mt_eql (a b : Int) : Int64.ofInt a = Int64.ofInt b ↔ w64 a = w64 b := by
  rw [← mt_tl, ← mt_tl, Int64.toInt_inj]
theorem mt_ltl (a b : Int) : Int64.ofInt a < Int64.ofInt b ↔ w64 a < w64 b := by
  rw [← mt_tl, ← mt_tl, Int64.lt_iff_toInt_lt]
theorem mt_eq0l (a : Int) : Int64.ofInt a = 0 ↔ w64 a = 0 := by
  rw [← mt_tl, ← Int64.toInt_inj]
  rfl
theorem mt_cmp (a b : Int) : lg_cmp (Int64.ofInt a) (Int64.ofInt b) = Int32.ofInt (l_cmp a b) := by
  unfold lg_cmp l_cmp
  by_cases h1 : w64 b < w64 a
  · rw [if_pos h1, if_pos (show Int64.ofInt a > Int64.ofInt b from (mt_ltl b a).mpr h1)]
    rfl
  · rw [if_neg h1, if_neg (show ¬ Int64.ofInt a > Int64.ofInt b from fun h => h1 ((mt_ltl b a).mp h))]
    by_cases h2 : w64 a = w64 b
    · rw [if_pos h2, if_pos ((mt_eql a b).mpr h2)]
      rfl
    · rw [if_neg h2, if_neg (fun h => h2 ((mt_eql a b).mp h))]
      rfl
theorem mt_cl (a : Int) : (Int32.ofInt a).toNatClampNeg = (w32 a).toNat := by
  rw [← mt_ti]
  rfl
theorem mt_in {a : Int} {n : Nat} (h0 : 0 ≤ w32 a) (h1 : w32 a < n) : vp_in (Int32.ofInt a) n := by
  rw [vp_in_iff, mt_ti]
  exact ⟨h0, h1⟩
theorem mt_bool {a : Int} (h : w32 a = 0 ∨ w32 a = 1) : Int32.ofInt a = 0 ∨ Int32.ofInt a = 1 := by
  rw [← mt_w32]
  rcases h with h | h <;> rw [h]
  · exact Or.inl rfl
  · exact Or.inr rfl
