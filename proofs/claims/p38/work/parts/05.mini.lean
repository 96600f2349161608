/-! THE SMALL MACHINE: the same bytecode over numbers. A value is (0, x) an int mod 2^32, (1, x) a long mod 2^64, (2, a) a cell of the small heap (-1 null), (3, j) the String constant j, (4, 0) the script, (9, 0) nothing. -/
abbrev mV : Type := Nat × Int
abbrev mK : Type := Nat × Nat × (Nat → Int)
/-- kinds of cells ((1, class, references), (2, n) ints, (3, n) longs, (4, n, references)), numbers, how many cells, how many exceptions, slots counted -/
abbrev mH : Type := (Nat → mK) × (Nat → Nat → Int) × Nat × Nat × Nat
abbrev mS : Type := Nat × Nat × List mV × List mV × mH
abbrev mZ : Type := Nat × (Nat → Int32)
abbrev mO : Type := (mV ⊕ Nat) × mH
abbrev mC : Type := Nat × List mV × mH × Nat × Nat × List mV × List mV
abbrev mR : Type := Option (mS ⊕ ((mV × mH) ⊕ mC))
def w32 (x : Int) : Int := x.bmod 4294967296
def w64 (x : Int) : Int := x.bmod 18446744073709551616
def m_up {α : Type} (f : Nat → α) (k : Nat) (v : α) : Nat → α := fun j => if j = k then v else f j
def m_up2 (f : Nat → Nat → Int) (a k : Nat) (v : Int) : Nat → Nat → Int := fun b j => if b = a ∧ j = k then v else f b j
def m_byt (m : Nat) : ByteArray := mm_bytL.getD m code
def m_nam (m : Nat) : MethodName := mm_namL.getD m x
def m_inf (m : Nat) : Nat × Nat × Nat × Nat × Nat := mm_infL.getD m (8, 0, 0, 0, 0)
def m_cls (m : Nat) : Nat := (m_inf m).1
def m_max (m : Nat) : Nat := (m_inf m).2.1
def m_ret (m : Nat) : Nat := (m_inf m).2.2.1
def m_fra (m : Nat) : Nat := (m_inf m).2.2.2.1
def m_loc (m : Nat) : Nat := (m_inf m).2.2.2.2
def m_fld (c i : Nat) : Option (Nat × Nat) := (mm_fldL.find? (fun r => r.1 == c && r.2.1 == i)).map (fun r => r.2.2)
def m_met (c i : Nat) : Option (Nat × Nat) := (mm_metL.find? (fun r => r.1 == c && r.2.1 == i)).map (fun r => r.2.2)
def m_new (c i : Nat) : Option Nat := (mm_clsL.find? (fun r => r.1 == c && r.2.1 == i)).map (fun r => r.2.2)
def m_con (c i : Nat) : Option mV := (mm_conL.find? (fun r => r.1 == c && r.2.1 == i)).map (fun r => r.2.2)
def m_tys (c : Nat) : List Nat := mm_tyL.getD c []
def m_ty (c k : Nat) : Nat := (m_tys c).getD k 9
def m_han (m : Nat) : List (Nat × Nat × Nat × Nat) := ((mm_hanL.find? (fun r => r.1 == m)).map (fun r => r.2)).getD []
/-- the exception of a handler's entry of the law's pool -/
def m_exc (i : Nat) : Nat := if i = 21 then 0 else if i = 15 then 1 else 2
/-- the handler of m for the exception E thrown at pc -/
def m_hdl (m pc E : Nat) : Option Nat := ((m_han m).find? (fun r => decide (r.1 ≤ pc ∧ pc < r.2.1 ∧ m_exc r.2.2.2 = E))).map (fun r => r.2.2.1)
def m_strL : List (List Nat) := [[119, 35, 61, 35, 59], [118, 35, 61, 35, 59], [120, 35, 58, 35, 45, 35, 59], [35, 45, 35, 58, 35, 59], []]
def m_str (j : Nat) : List Nat := m_strL.getD j []
def i_and (a b : Int) : Int := (Int32.ofInt a &&& Int32.ofInt b).toInt
def i_or (a b : Int) : Int := (Int32.ofInt a ||| Int32.ofInt b).toInt
def i_xor (a b : Int) : Int := (Int32.ofInt a ^^^ Int32.ofInt b).toInt
def i_shl (a b : Int) : Int := (Int32.ofInt a <<< (Int32.ofInt b &&& 31)).toInt
def i_shr (a b : Int) : Int := (Int32.ofInt a >>> (Int32.ofInt b &&& 31)).toInt
def i_ushr (a b : Int) : Int := ((Int32.ofInt a).toUInt32 >>> ((Int32.ofInt b).toUInt32 &&& Int32.toUInt32 31)).toInt32.toInt
def l_cmp (a b : Int) : Int := if w64 b < w64 a then 1 else if w64 a = w64 b then 0 else -1
def m_cat (v : mV) : Nat := if v.1 = 1 then 2 else 1
def m_sum (st : List mV) : Nat := (st.map m_cat).sum
/-- a long at the place ahead is cut in two -/
def m_kill (v : mV) : mV := if v.1 = 1 then (9, 0) else v
def m_get : List mV → Nat → mV
  | [], _ => (9, 0)
  | v :: _, 0 => v
  | _ :: l, k + 1 => m_get l k
def m_set1 : List mV → Nat → mV → List mV
  | [], _, _ => []
  | _ :: l, 0, v => v :: l
  | a :: l, 1, v => match l with
    | [] => [a]
    | _ :: l => m_kill a :: v :: l
  | a :: l, k + 2, v => a :: m_set1 l (k + 1) v
def m_set2 : List mV → Nat → mV → List mV
  | a :: _ :: l, 0, v => v :: (9, 0) :: l
  | a :: _ :: _ :: l, 1, v => m_kill a :: v :: (9, 0) :: l
  | a :: l, k + 2, v => a :: m_set2 l (k + 1) v
  | l, _, _ => l
def m_lay : List mV → List mV
  | [] => []
  | v :: l => if v.1 = 1 then v :: (9, 0) :: m_lay l else v :: m_lay l
def m_ent (n : Nat) (as : List mV) : List mV := m_lay as ++ List.replicate (n - (m_lay as).length) (9, 0)
def m_go (m pc : Nat) (ls st : List mV) (h : mH) : mR := some (.inl (m, pc, ls, st, h))
def m_st1 (m pc : Nat) (ls : List mV) (k : Nat) (v : mV) (st : List mV) (h : mH) : mR := if k < ls.length then m_go m pc (m_set1 ls k v) st h else none
def m_st2 (m pc : Nat) (ls : List mV) (k : Nat) (v : mV) (st : List mV) (h : mH) : mR := if k + 1 < ls.length then m_go m pc (m_set2 ls k v) st h else none
def m_jmp (m pc : Nat) (off : Int) (ls st : List mV) (h : mH) : mR := match (pc : Int) + off with
  | .ofNat t => m_go m t ls st h
  | .negSucc _ => none
def m_br (c : Bool) (m pc : Nat) (off : Int) (ls st : List mV) (h : mH) : mR := match (pc : Int) + off with
  | .ofNat t => m_go m (if c = true then t else pc + 3) ls st h
  | .negSucc _ => none
def m_ld (t : Nat) (m pc len k : Nat) (ls st : List mV) (h : mH) : mR := if (m_get ls k).1 = t then m_go m (pc + len) ls (m_get ls k :: st) h else none
def m_bin (f : Int → Int → Int) (m pc : Nat) (ls : List mV) (st : List mV) (h : mH) : mR := match st with
  | (0, b) :: (0, a) :: r => m_go m (pc + 1) ls ((0, f a b) :: r) h
  | _ => none
def m_binl (f : Int → Int → Int) (m pc : Nat) (ls : List mV) (st : List mV) (h : mH) : mR := match st with
  | (1, b) :: (1, a) :: r => m_go m (pc + 1) ls ((1, f a b) :: r) h
  | _ => none
/-- frames and locals below a method, its locals -/
def m_rom (m' : Nat) : Nat × Nat × Nat := if m' < 283 then (m_fra m', m_loc m', m_max m') else if m' < 1003 then (6, 90, 1) else if m' < 1005 then (0, 0, 3) else if m' = 1005 then (2, 60, 1) else if m' = 1006 then (4, 120, 2) else (0, 0, 1)
def m_rok (m m' : Nat) : Bool := decide ((m_rom m').1 + 1 ≤ m_fra m ∧ 8 + ((m_rom m').2.2 + 11) + (m_rom m').2.1 ≤ m_loc m)
/-- a receiver that fits the method -/
def m_rcv (m' : Nat) (as : List mV) (h : mH) : Bool := match as with
  | (2, .ofNat a) :: _ => decide (a < h.2.2.1 ∧ (h.1 a).1 = 1 ∧ (h.1 a).2.1 = m_cls m')
  | _ => false
/-- 0 static, 1 virtual, 2 a constructor -/
def m_kd (m' : Nat) : Nat := if m' < 283 then mm_kdL.getD m' 9 else if m' < 1003 then 0 else 1
/-- calls: how many parameters np, which kind k -/
def m_call (m' np k : Nat) (m pc : Nat) (ls st : List mV) (h : mH) : mR :=
  if m_kd m' = k ∧ m_rok m m' = true ∧ m_sum (st.drop (if k = 0 then np else np + 1)) ≤ 8 ∧ (if k = 0 then np else np + 1) ≤ st.length ∧ (k = 0 ∨ m_rcv m' (st.take (np + 1)).reverse h = true) then some (.inr (.inr (m', (st.take (if k = 0 then np else np + 1)).reverse, h, m, pc, ls, st.drop (if k = 0 then np else np + 1)))) else none
def m_newc (K : mK) (n : Nat) (h : mH) : mH := (m_up h.1 h.2.2.1 K, m_up h.2.1 h.2.2.1 (fun _ => 0), h.2.2.1 + 1, h.2.2.2.1, h.2.2.2.2 + n)
def m_ins (Z : mZ) (ins : Instr) (m pc : Nat) (ls st : List mV) (h : mH) : mR := match ins with
  | .iload_n k => m_ld 0 m pc 1 k ls st h
  | .iload k => m_ld 0 m pc 2 k ls st h
  | .lload_n k => m_ld 1 m pc 1 k ls st h
  | .lload k => m_ld 1 m pc 2 k ls st h
  | .aload_n k => if (m_get ls k).1 = 2 ∨ (m_get ls k).1 = 3 ∨ (m_get ls k).1 = 4 then m_go m (pc + 1) ls (m_get ls k :: st) h else none
  | .aload k => if (m_get ls k).1 = 2 ∨ (m_get ls k).1 = 3 ∨ (m_get ls k).1 = 4 then m_go m (pc + 2) ls (m_get ls k :: st) h else none
  | .istore_n k => match st with
    | (0, v) :: r => m_st1 m (pc + 1) ls k (0, v) r h
    | _ => none
  | .istore k => match st with
    | (0, v) :: r => m_st1 m (pc + 2) ls k (0, v) r h
    | _ => none
  | .lstore_n k => match st with
    | (1, v) :: r => m_st2 m (pc + 1) ls k (1, v) r h
    | _ => none
  | .lstore k => match st with
    | (1, v) :: r => m_st2 m (pc + 2) ls k (1, v) r h
    | _ => none
  | .astore_n k => match st with
    | (2, v) :: r => m_st1 m (pc + 1) ls k (2, v) r h
    | (3, v) :: r => m_st1 m (pc + 1) ls k (3, v) r h
    | _ => none
  | .astore k => match st with
    | (2, v) :: r => m_st1 m (pc + 2) ls k (2, v) r h
    | (3, v) :: r => m_st1 m (pc + 2) ls k (3, v) r h
    | _ => none
  | .iinc k n => if (m_get ls k).1 = 0 then m_st1 m (pc + 3) ls k (0, (m_get ls k).2 + n) st h else none
  | .iconst n => m_go m (pc + 1) ls ((0, n) :: st) h
  | .lconst n => m_go m (pc + 1) ls ((1, ((n : Nat) : Int)) :: st) h
  | .bipush n => m_go m (pc + 2) ls ((0, (Int8.ofInt n).toInt) :: st) h
  | .sipush n => m_go m (pc + 3) ls ((0, (Int16.ofInt n).toInt) :: st) h
  | .aconst_null => m_go m (pc + 1) ls ((2, -1) :: st) h
  | .ldc i => match m_con (m_cls m) i with
    | some (0, v) => m_go m (pc + 2) ls ((0, v) :: st) h
    | _ => none
  | .ldc2_w i => match m_con (m_cls m) i with
    | some (1, v) => m_go m (pc + 3) ls ((1, v) :: st) h
    | _ => none
  | .iadd => m_bin (fun a b => a + b) m pc ls st h
  | .isub => m_bin (fun a b => a - b) m pc ls st h
  | .imul => m_bin (fun a b => a * b) m pc ls st h
  | .iand => m_bin i_and m pc ls st h
  | .ior => m_bin i_or m pc ls st h
  | .ixor => m_bin i_xor m pc ls st h
  | .ishl => m_bin i_shl m pc ls st h
  | .ishr => m_bin i_shr m pc ls st h
  | .iushr => m_bin i_ushr m pc ls st h
  | .idiv => match st with
    | (0, b) :: (0, a) :: r => if w32 b = 0 then none else m_go m (pc + 1) ls ((0, (w32 a).tdiv (w32 b)) :: r) h
    | _ => none
  | .irem => match st with
    | (0, b) :: (0, a) :: r => if w32 b = 0 then none else m_go m (pc + 1) ls ((0, (w32 a).tmod (w32 b)) :: r) h
    | _ => none
  | .ineg => match st with
    | (0, a) :: r => m_go m (pc + 1) ls ((0, -a) :: r) h
    | _ => none
  | .ladd => m_binl (fun a b => a + b) m pc ls st h
  | .lsub => m_binl (fun a b => a - b) m pc ls st h
  | .lmul => m_binl (fun a b => a * b) m pc ls st h
  | .ldiv => match st with
    | (1, b) :: (1, a) :: r => if w64 b = 0 then none else m_go m (pc + 1) ls ((1, (w64 a).tdiv (w64 b)) :: r) h
    | _ => none
  | .lrem => match st with
    | (1, b) :: (1, a) :: r => if w64 b = 0 then none else m_go m (pc + 1) ls ((1, (w64 a).tmod (w64 b)) :: r) h
    | _ => none
  | .lcmp => match st with
    | (1, b) :: (1, a) :: r => m_go m (pc + 1) ls ((0, l_cmp a b) :: r) h
    | _ => none
  | .i2l => match st with
    | (0, a) :: r => m_go m (pc + 1) ls ((1, w32 a) :: r) h
    | _ => none
  | .l2i => match st with
    | (1, a) :: r => m_go m (pc + 1) ls ((0, a) :: r) h
    | _ => none
  | .dup => match st with
    | v :: r => if v.1 = 1 then none else m_go m (pc + 1) ls (v :: v :: r) h
    | _ => none
  | .dup_x1 => match st with
    | v :: w :: r => if v.1 = 1 ∨ w.1 = 1 then none else m_go m (pc + 1) ls (v :: w :: v :: r) h
    | _ => none
  | .dup2 => match st with
    | v :: r => if v.1 = 1 then m_go m (pc + 1) ls (v :: v :: r) h else match r with
      | w :: r => if w.1 = 1 then none else m_go m (pc + 1) ls (v :: w :: v :: w :: r) h
      | _ => none
    | _ => none
  | .pop => match st with
    | v :: r => if v.1 = 1 then none else m_go m (pc + 1) ls r h
    | _ => none
  | .goto off => m_jmp m pc off ls st h
  | .ifCond c off => match st with
    | (0, a) :: r => match c with
      | .eq => m_br (decide (w32 a = 0)) m pc off ls r h
      | .ne => m_br (decide (¬ w32 a = 0)) m pc off ls r h
      | .lt => m_br (decide (w32 a < 0)) m pc off ls r h
      | .ge => m_br (decide (0 ≤ w32 a)) m pc off ls r h
      | .gt => m_br (decide (0 < w32 a)) m pc off ls r h
      | .le => m_br (decide (w32 a ≤ 0)) m pc off ls r h
    | _ => none
  | .if_icmp c off => match st with
    | (0, b) :: (0, a) :: r => match c with
      | .eq => m_br (decide (w32 a = w32 b)) m pc off ls r h
      | .ne => m_br (decide (¬ w32 a = w32 b)) m pc off ls r h
      | .lt => m_br (decide (w32 a < w32 b)) m pc off ls r h
      | .ge => m_br (decide (w32 b ≤ w32 a)) m pc off ls r h
      | .gt => m_br (decide (w32 b < w32 a)) m pc off ls r h
      | .le => m_br (decide (w32 a ≤ w32 b)) m pc off ls r h
    | _ => none
  | .ifnull off => match st with
    | (2, a) :: r => m_br (decide (a < 0)) m pc off ls r h
    | _ => none
  | .tableswitch dflt lo hi offs => match st with
    | (0, a) :: r => if w32 a < lo ∨ hi < w32 a then m_jmp m pc dflt ls r h else match offs[(w32 a - lo).toNat]? with
      | some off => m_jmp m pc off ls r h
      | none => none
    | _ => none
  | .lookupswitch dflt ps => match st with
    | (0, a) :: r => if (ps.toList.zip (ps.toList.drop 1)).all (fun (a, next) => a.1 < next.1) = true then m_jmp m pc (Op.lookupswitch.offset ps.toList dflt (w32 a)) ls r h else none
    | _ => none
  | .ireturn => match st with
    | (0, a) :: [] => if m_ret m = 1 ∨ m_ret m = 2 ∧ (w32 a = 0 ∨ w32 a = 1) then some (.inr (.inl ((0, a), h))) else none
    | _ => none
  | .lreturn => match st with
    | (1, a) :: [] => if m_ret m = 3 then some (.inr (.inl ((1, a), h))) else none
    | _ => none
  | .areturn => match st with
    | (2, a) :: [] => if m_ret m = 4 then some (.inr (.inl ((2, a), h))) else none
    | (3, a) :: [] => if m_ret m = 5 then some (.inr (.inl ((3, a), h))) else none
    | _ => none
  | .return_ => match st with
    | [] => if m_ret m = 0 then some (.inr (.inl ((9, 0), h))) else none
    | _ => none
  | .getfield i => match st with
    | (2, .ofNat a) :: r => match m_fld (m_cls m) i with
      | some (ci, k) => if a < h.2.2.1 ∧ (h.1 a).1 = 1 ∧ (h.1 a).2.1 = ci ∧ k < (m_tys ci).length then
          (if m_ty ci k = 2 then m_go m (pc + 3) ls ((2, (h.1 a).2.2 k) :: r) h
          else if m_ty ci k = 1 then m_go m (pc + 3) ls ((1, h.2.1 a k) :: r) h
          else m_go m (pc + 3) ls ((0, h.2.1 a k) :: r) h) else none
      | none => none
    | _ => none
  | .putfield i => match st with
    | v :: (2, .ofNat a) :: r => match m_fld (m_cls m) i with
      | some (ci, k) => if a < h.2.2.1 ∧ (h.1 a).1 = 1 ∧ (h.1 a).2.1 = ci ∧ k < (m_tys ci).length then
          (if m_ty ci k = 2 then (if v.1 = 2 ∧ (m_nam m).name = "<init>" ∧ m_cls m = ci ∧ v.2 < h.2.2.1 then m_go m (pc + 3) ls r (m_up h.1 a (1, ci, m_up (h.1 a).2.2 k v.2), h.2) else none)
          else if m_ty ci k = 1 then (if v.1 = 1 then m_go m (pc + 3) ls r (h.1, m_up2 h.2.1 a k v.2, h.2.2) else none)
          else if v.1 = 0 ∧ (m_ty ci k = 0 ∨ m_ty ci k = 3 ∧ (w32 v.2 = 0 ∨ w32 v.2 = 1)) then m_go m (pc + 3) ls r (h.1, m_up2 h.2.1 a k v.2, h.2.2) else none) else none
      | none => none
    | _ => none
  | .new i => match m_new (m_cls m) i with
    | some ci => if h.2.2.2.1 = 0 ∧ ci < 7 then m_go m (pc + 3) ls ((2, (h.2.2.1 : Int)) :: st) (m_newc (1, ci, fun _ => -1) (m_tys ci).length h) else none
    | none => none
  | .newarray t => match st with
    | (0, n) :: r => if h.2.2.2.1 = 0 ∧ 0 ≤ w32 n ∧ w32 n ≤ 100000 then (match t with
      | .int => m_go m (pc + 2) ls ((2, (h.2.2.1 : Int)) :: r) (m_newc (2, (w32 n).toNat, fun _ => -1) (w32 n).toNat h)
      | _ => none) else none
    | _ => none
  | .anewarray i => match st with
    | (0, n) :: r => if h.2.2.2.1 = 0 ∧ 0 ≤ w32 n ∧ w32 n ≤ 100000 ∧ m_cls m = 6 ∧ i = 9 then m_go m (pc + 3) ls ((2, (h.2.2.1 : Int)) :: r) (m_newc (4, (w32 n).toNat, fun _ => -1) (w32 n).toNat h) else none
    | _ => none
  | .arraylength => match st with
    | (2, .ofNat a) :: r => if a < h.2.2.1 ∧ ((h.1 a).1 = 2 ∨ (h.1 a).1 = 4) then m_go m (pc + 1) ls ((0, ((h.1 a).2.1 : Int)) :: r) h else none
    | (4, _) :: r => m_go m (pc + 1) ls ((0, (Z.1 : Int)) :: r) h
    | _ => none
  | .iaload => match st with
    | (0, i) :: (2, .ofNat a) :: r => if a < h.2.2.1 ∧ (h.1 a).1 = 2 ∧ 0 ≤ w32 i ∧ w32 i < (h.1 a).2.1 then m_go m (pc + 1) ls ((0, h.2.1 a (w32 i).toNat) :: r) h else none
    | (0, i) :: (4, _) :: r => if 0 ≤ w32 i ∧ w32 i < Z.1 then m_go m (pc + 1) ls ((0, (Z.2 (w32 i).toNat).toInt) :: r) h else none
    | _ => none
  | .aaload => match st with
    | (0, i) :: (2, .ofNat a) :: r => if a < h.2.2.1 ∧ (h.1 a).1 = 4 ∧ 0 ≤ w32 i ∧ w32 i < (h.1 a).2.1 then m_go m (pc + 1) ls ((2, (h.1 a).2.2 (w32 i).toNat) :: r) h else none
    | _ => none
  | .iastore => match st with
    | (0, v) :: (0, i) :: (2, .ofNat a) :: r => if a < h.2.2.1 ∧ (h.1 a).1 = 2 ∧ 0 ≤ w32 i ∧ w32 i < (h.1 a).2.1 then m_go m (pc + 1) ls r (h.1, m_up2 h.2.1 a (w32 i).toNat v, h.2.2) else none
    | _ => none
  | .aastore => match st with
    | (2, .ofNat v) :: (0, i) :: (2, .ofNat a) :: r => if a < h.2.2.1 ∧ (h.1 a).1 = 4 ∧ 0 ≤ w32 i ∧ w32 i < (h.1 a).2.1 ∧ v < h.2.2.1 ∧ (h.1 v).1 = 1 ∧ (h.1 v).2.1 = 1 then m_go m (pc + 1) ls r (m_up h.1 a (4, (h.1 a).2.1, m_up (h.1 a).2.2 (w32 i).toNat v), h.2) else none
    | _ => none
  | .invokevirtual i => match m_met (m_cls m) i with
    | some (m', np) => m_call m' np 1 m pc ls st h
    | none => none
  | .invokespecial i => match m_met (m_cls m) i with
    | some (m', np) => if m' = 1007 then (match st with
        | (2, .ofNat _) :: r => if m_rok m m' = true ∧ m_sum r ≤ 8 then m_go m (pc + 3) ls r h else none
        | _ => none) else m_call m' np 2 m pc ls st h
    | none => none
  | .invokestatic i => match m_met (m_cls m) i with
    | some (m', np) => if m' = 1003 then (match st with
        | (0, b) :: (0, a) :: r => if m_rok m m' = true ∧ m_sum r ≤ 8 then m_go m (pc + 3) ls ((0, if w32 a < w32 b then b else a) :: r) h else none
        | _ => none) else if m' = 1004 then (match st with
        | (0, b) :: (0, a) :: r => if m_rok m m' = true ∧ m_sum r ≤ 8 then m_go m (pc + 3) ls ((0, if w32 b < w32 a then b else a) :: r) h else none
        | _ => none) else m_call m' np 0 m pc ls st h
    | none => none
  | _ => none
def m_okl (ins : Instr) (len : Nat) : Bool := match ins with
  | .iload _ => len == 2
  | .lload _ => len == 2
  | .aload _ => len == 2
  | .istore _ => len == 2
  | .lstore _ => len == 2
  | .astore _ => len == 2
  | .bipush _ => len == 2
  | .ldc _ => len == 2
  | .newarray _ => len == 2
  | .sipush _ => len == 3
  | .iinc _ _ => len == 3
  | .ifCond _ _ => len == 3
  | .if_icmp _ _ => len == 3
  | .ifnull _ => len == 3
  | .goto _ => len == 3
  | .getfield _ => len == 3
  | .putfield _ => len == 3
  | .invokevirtual _ => len == 3
  | .invokespecial _ => len == 3
  | .invokestatic _ => len == 3
  | .new _ => len == 3
  | .anewarray _ => len == 3
  | .ldc2_w _ => len == 3
  | .tableswitch _ _ _ _ => true
  | .lookupswitch _ _ => true
  | _ => len == 1
def m_step (Z : mZ) (s : mS) : mR := match decode (m_byt s.1) s.2.1 with
  | .ok (ins, len) => if m_okl ins len = true then m_ins Z ins s.1 s.2.1 s.2.2.1 s.2.2.2.1 s.2.2.2.2 else none
  | _ => none
def m_thr (h : mH) : mH := (h.1, h.2.1, h.2.2.1, h.2.2.2.1 + 1, h.2.2.2.2 + 6)
/-- the methods that are proved by hand: requireSuch, requireValid, requireNow -/
def m_prm (m : Nat) (as : List mV) (h : mH) : Option mO := match m, as with
  | 1000, [(0, b)] => some (if w32 b = 0 then (.inr 0, m_thr h) else (.inl (9, 0), h))
  | 1001, [(0, b)] => some (if w32 b = 0 then (.inr 1, m_thr h) else (.inl (9, 0), h))
  | 1002, [(0, b)] => some (if w32 b = 0 then (.inr 2, m_thr h) else (.inl (9, 0), h))
  | _, _ => none
/-- a handler's first row stores what was thrown -/
def m_hst (m pc : Nat) (ls : List mV) : Option (Nat × List mV) := match decode (m_byt m) pc with
  | .ok (.astore_n k, 1) => if k < ls.length then some (pc + 1, m_set1 ls k (9, 0)) else none
  | .ok (.astore k, 2) => if k < ls.length then some (pc + 2, m_set1 ls k (9, 0)) else none
  | _ => none
/-- what goes on behind a call that came to r -/
def m_aft (f : mS → Option mO) (m pc : Nat) (ls rest : List mV) (r : mO) : Option mO := match r with
  | (.inl v, h) => f (m, pc + 3, ls, (if v.1 = 9 then rest else v :: rest), h)
  | (.inr E, h) => match m_hdl m pc E with
    | none => if (m_han m).isEmpty = true then some (.inr E, h) else none
    | some q => match m_hst m q ls with
      | some (q', ls') => f (m, q', ls', [], h)
      | none => none
/-- a constructor doesn't throw -/
def m_chk (m : Nat) (o : Option mO) : Option mO := match o with
  | some (.inr E, h) => if m_kd m = 2 then none else some (.inr E, h)
  | o => o
def m_cal (f : mS → Option mO) (m : Nat) (as : List mV) (h : mH) : Option mO := if m < 283 then (if (m_lay as).length ≤ m_max m then m_chk m (f (m, 0, m_ent (m_max m) as, [], h)) else none) else m_prm m as h
def m_ev1 (Z : mZ) (f : mS → Option mO) (s : mS) : Option mO := match m_step Z s with
  | none => none
  | some (.inl s') => f s'
  | some (.inr (.inl r)) => some (.inl r.1, r.2)
  | some (.inr (.inr (m', as, h, m, pc, ls, rest))) => (m_cal f m' as h).bind (m_aft f m pc ls rest)
def m_ev (Z : mZ) : Nat → mS → Option mO
  | 0, _ => none
  | n + 1, s => m_ev1 Z (m_ev Z n) s
