/-! One instruction of the small machine (no call) is one of the machine's. -/
def mt_ws (m : Nat) : List Cond := (if m = 282 then [] else [m_cod m]) ++ lw_tbl.filter goodWord
/-- the exceptions -/
def m_exn (x : Nat) : String := if x = 0 then "java/lang/IndexOutOfBoundsException" else if x = 1 then "java/lang/IllegalArgumentException" else "java/lang/IllegalStateException"
def m_exi (x : Nat) : Nat := if x = 0 then 294 else if x = 1 then 301 else 306
def m_exs : List String := ["java/lang/RuntimeException", "java/lang/Exception"]
/-- the words of the exceptions that the tables alone don't give warm -/
def mt_fw : List Cond := [Cond.castable (m_exn 0) (m_exn 0), Cond.castable (m_exn 1) (m_exn 1), Cond.castable (m_exn 2) (m_exn 2)] ++ ((vx_atS RX6 294 (m_exn 0) m_exs ++ vx_atS RX6 301 (m_exn 1) m_exs ++ vx_atS RX6 306 (m_exn 2) m_exs).filter (fun w => !goodWord w))
def mt_X (E : mE) (Z : mZ) (U : State) (H : Heap) : Prop :=
  (va_X E.2.1 Z.1 Z.2 U H ∧ E.2.1 < E.1 ∧ E.1 ≤ H.size) ∧ va_AO RX1 U ∧ (va_Nw (.methodLinkNest RX6 25 yX5_init RX6) U ∧ va_Nw (.methodLinkNest RX6 48 yX4_init RX6) U) ∧
  (vx_Zq Bundle.tN "UNASSIGNED_STACK" Bundle.steD (mt_A E) U H ∧ vx_Zq Bundle.tN "SUPPRESSED_SENTINEL" Bundle.listD (mt_A E) U H ∧ (∃ a, vk_R RX6 292 "there is no such node, edge or stretch" a U) ∧ (∃ a, vk_R RX6 299 "an argument is out of range" a U) ∧ (∃ a, vk_R RX6 304 "not in this state" a U)) ∧
  ((∀ w ∈ mt_fw, va_Nw w U) ∧ (∀ x y : Nat, x < 3 → y < 3 → x ≠ y → va_Nc (m_exn x) (m_exn y) U))
def mt_K (E : mE) (Z : mZ) (U : State) : Prop := va_K E.2.2.2.2 vwCl (mt_tys E) U ∧ mt_X E Z U U.heap
def mt_n (h : mH) : Nat := h.2.2.1 + h.2.2.2.1
theorem mt_ge0 (a : Int) : 0 ≤ Int32.ofInt a ↔ 0 ≤ w32 a := by
  rw [← mt_ti, Int32.le_iff_toInt_le]
  rfl
theorem mt_gt0 (a : Int) : 0 < Int32.ofInt a ↔ 0 < w32 a := by
  rw [← mt_ti, Int32.lt_iff_toInt_lt]
  rfl
theorem mt_on (n : Nat) : Int32.ofNat n = Int32.ofInt (n : Int) := (Int32.ofInt_eq_ofNat).symm
theorem mt_updi (f : Nat → Int) (k : Nat) (v : Int) : upd (fun j => Int32.ofInt (f j)) k (Int32.ofInt v) = fun j => Int32.ofInt (m_up f k v j) := by
  funext j
  unfold upd m_up
  split <;> rfl
theorem mt_updl (f : Nat → Int) (k : Nat) (v : Int) : vp_updL (fun j => Int64.ofInt (f j)) k (Int64.ofInt v) = fun j => Int64.ofInt (m_up f k v j) := by
  funext j
  unfold vp_updL m_up
  split <;> rfl
theorem mt_updq (E : mE) (f : Nat → Int) (k v : Nat) : va_up (fun j => mt_rf E (f j)) k (some (E.1 + v)) = fun j => mt_rf E (m_up f k (v : Int) j) := by
  funext j
  unfold va_up m_up
  split <;> rfl
theorem mt_ite {c d : Prop} [Decidable c] [Decidable d] {a b : Int} (h : c ↔ d) : (if c then Int32.ofInt a else Int32.ofInt b) = Int32.ofInt (if d then a else b) := by
  by_cases q : c
  · rw [if_pos q, if_pos (h.mp q)]
  · rw [if_neg q, if_neg (fun z => q (h.mpr z))]
theorem mt_rfn (E : mE) : mt_rf E (-1) = none := rfl
theorem m_rok_of {m m' : Nat} (h : m_rok m m' = true) : (m_rom m').1 + 1 ≤ m_fra m ∧ 8 + ((m_rom m').2.2 + 11) + (m_rom m').2.1 ≤ m_loc m := of_decide_eq_true h
theorem mt_sumE (E : mE) : ∀ st : List mV, ((st.map (mt_v E)).map fun v => v.category).sum = m_sum st
  | [] => rfl
  | v :: l => by
    have ih := mt_sumE E l
    simp only [List.map_cons, List.sum_cons, m_sum, mt_cat] at ih ⊢
    rw [ih]
theorem mt_sum8 {E : mE} {st : List mV} (h : m_sum st ≤ 8) : ((st.map (mt_v E)).map fun v => v.category).sum ≤ 8 := by rw [mt_sumE]; exact h
theorem mt_arrK {D : va_G} {E : mE} {U : State} {cA : ClassId} {ty : FieldType} (h : va_K D vwCl (mt_tys E ++ [(cA, ty)]) U) : va_RA U cA ty := (h.2 2 (cA, ty) rfl).2
theorem mt_arr0 {D : va_G} {E : mE} {U : State} {cA : ClassId} (h : va_K D vwCl (mt_tys E) U) (h1 : va_K D vwCl (mt_tys E ++ [(cA, .int)]) U) : cA = E.2.2.2.1.1 := by
  have a1 : U.vm.findClass _ = some cA := mt_arrK h1
  have a2 : U.vm.findClass _ = some E.2.2.2.1.1 := (h.2 0 _ rfl).2
  exact Option.some.inj (a1.symm.trans a2)
theorem mt_arr2 {D : va_G} {E : mE} {U : State} {cA : ClassId} (h : va_K D vwCl (mt_tys E) U) (h1 : va_K D vwCl (mt_tys E ++ [(cA, .object RX1)]) U) : cA = E.2.2.2.1.2.2 := by
  obtain ⟨k1, c1, -, -, -, a1⟩ := mt_arrK h1
  obtain ⟨k2, c2, -, -, -, a2⟩ := (h.2 1 _ rfl).2
  exact Option.some.inj (a1.symm.trans a2)
theorem mw_arr0 : Cond.arrayClass (newarray.typeOf .int) ∈ lw_tbl ∧ goodWord (Cond.arrayClass (newarray.typeOf .int)) = true := mw_in (p := (1, 39)) (by decide +kernel)
theorem mw_obi1 : Cond.instanceMethod objectInit ∈ lw_tbl ∧ goodWord (Cond.instanceMethod objectInit) = true := mw_in (p := (1, 21)) (by decide +kernel)
theorem mw_obi2 : Cond.code objectInit ⟨#[0xb1]⟩ 1 none ∈ lw_tbl ∧ goodWord (Cond.code objectInit ⟨#[0xb1]⟩ 1 none) = true := mw_in (p := (1, 22)) (by decide +kernel)
theorem mw_max1 : Cond.static Lib.Math.max.name ∈ lw_tbl ∧ goodWord (Cond.static Lib.Math.max.name) = true := mw_in (p := (2, 139)) (by decide +kernel)
theorem mw_min1 : Cond.static Lib.Math.min.name ∈ lw_tbl ∧ goodWord (Cond.static Lib.Math.min.name) = true := mw_in (p := (3, 190)) (by decide +kernel)
theorem mw_max2 : Cond.initialized "java/lang/Math" ∈ lw_tbl ∧ goodWord (Cond.initialized "java/lang/Math") = true := mw_in (p := (1, 13)) (by decide +kernel)
theorem mw_max3 : Cond.code Lib.Math.max.name Lib.Math.max.code 2 (some .int) ∈ lw_tbl ∧ goodWord (Cond.code Lib.Math.max.name Lib.Math.max.code 2 (some .int)) = true := mw_in (p := (2, 140)) (by decide +kernel)
theorem mw_min3 : Cond.code Lib.Math.min.name Lib.Math.min.code 2 (some .int) ∈ lw_tbl ∧ goodWord (Cond.code Lib.Math.min.name Lib.Math.min.code 2 (some .int)) = true := mw_in (p := (3, 191)) (by decide +kernel)
theorem mt_metw {cl i m' np : Nat} (h : m_met cl i = some (m', np)) (h5 : m' ≠ mX5_init) (h4 : m' ≠ mX4_init) : (Cond.methodLink (m_cn cl) i (mw_pz m') ∈ lw_tbl ∧ goodWord (Cond.methodLink (m_cn cl) i (mw_pz m')) = true) ∧ (parseMethodDescriptor (mw_pz m').desc).map (fun d => d.parameters.length) = some np := by
  unfold m_met at h
  obtain ⟨r, h1, h2⟩ := Option.map_eq_some_iff.mp h
  have h3 := List.find?_some h1
  have h6 := List.mem_of_find?_eq_some h1
  simp only [Bool.and_eq_true, beq_iff_eq] at h3
  obtain ⟨a, b, cc, d⟩ := r
  dsimp only at h2 h3
  obtain ⟨rfl, rfl⟩ := h3
  cases h2
  obtain ⟨j, hj, e⟩ := List.mem_iff_getElem.mp h6
  have hl : mm_metL.length = 222 := by decide +kernel
  have h7 := mw_metA j (by omega)
  have e2 : mm_metL.getD j (0, 0, 0, 0) = (a, b, m', np) := by rw [List.getD_eq_getElem?_getD, List.getElem?_eq_getElem hj, e]; rfl
  rw [e2] at h7
  simp only [mw_ml1, Bool.and_eq_true, Bool.or_eq_true, decide_eq_true_eq, beq_iff_eq] at h7
  refine ⟨?_, h7.2⟩
  rcases h7.1 with ⟨-, h8⟩ | h8
  · rcases h8 with ⟨-, h8⟩ | ⟨-, h8⟩
    · exact absurd h8 h5
    · exact absurd h8 h4
  · exact mw_in h8
section MTS
variable {p : Program} {l : Launch} {e : Env} {R : Room} {s : State} {mid : MethodId} {args : Array Value} {below : List Frame} {meth : Method} {c : Code} {H : Heap} {locs : List Loc} {cells slots : Nat} {Q : State → Prop}
/-- a method's frame: the machine, the code, the words, the world that it began in -/
def mt_Cx (E : mE) (Z : mZ) (m : Nat) (p : Program) (R : Room) (s : State) (mid : MethodId) (args : Array Value) (meth : Method) (c : Code) : Prop :=
  (p.tables.exec = Jvm.exec ∧ c.code = m_byt m ∧ c.maxLocals = m_max m ∧ s.vm.findClass (m_cn (m_cls m)) = some mid.cls ∧ ∀ w ∈ mt_ws m, w.before args s = true) ∧
  meth.locks = false ∧ ((m_nam m).name = "<init>" → meth.name = "<init>") ∧ (m ≠ 282 → c.exceptionTable.toList = tableOf (m_han m)) ∧ (m_fra m ≤ R.frames ∧ m_loc m ≤ R.locals) ∧ mt_K E Z s ∧ meth.sig.returnType = m_rty m
theorem mt_size {g : JFrame} (k : H.size ≤ s.heap.size + cells → W p l e R s mid args below meth c H locs cells slots Q g) : W p l e R s mid args below meth c H locs cells slots Q g := by
  intro T hT X
  refine k ?_ T hT X
  obtain ⟨h1, h2, h3, h4, h5, h6⟩ := X.same
  rw [← hT]
  exact h3
theorem mt_tbl {m : Nat} {w : Cond} (h : w ∈ lw_tbl ∧ goodWord w = true) : w ∈ mt_ws m := List.mem_append_right _ (List.mem_filter.mpr h)
theorem mt_rm1 {E : mE} {r : List mV} {pc : Nat} {lsR : Array Slot} {st : List Value} (h : m_sum r ≤ 8) (h2 : 20 ≤ R.locals) : 2 * (F0 mid pc lsR st).monitorRoom + ((r.map (mt_v E)).map fun v => v.category).sum + 12 ≤ R.locals := by
  have h3 := lv_room (m := mid) (pc := pc) (ls := lsR) (rest := st) (mt_sum8 (E := E) h)
  omega
theorem mt_v0 (E : mE) {v : mV} (h : v.1 = 0) : mt_v E v = .int (Int32.ofInt v.2) := by obtain ⟨t, x⟩ := v; cases h; rfl
theorem mt_v1 (E : mE) {v : mV} (h : v.1 = 1) : mt_v E v = .long (Int64.ofInt v.2) := by obtain ⟨t, x⟩ := v; cases h; rfl
theorem mt_v2 (E : mE) {v : mV} (h : v.1 = 2 ∨ v.1 = 3 ∨ v.1 = 4) : (∃ a, mt_v E v = .ref a) ∨ mt_v E v = .null := by
  obtain ⟨t, x⟩ := v
  rcases h with h | h | h <;> cases h
  · cases x with
    | ofNat a => exact Or.inl ⟨_, rfl⟩
    | negSucc a => exact Or.inr rfl
  · exact Or.inl ⟨_, rfl⟩
  · exact Or.inl ⟨_, rfl⟩
theorem mt_fldw {cl i ci k : Nat} (h : m_fld cl i = some (ci, k)) : ci < 7 ∧ Cond.fieldLink (m_cn cl) i (m_cl3 ci).1 ((m_cl3 ci).2.1 k).2.1 ((m_cl3 ci).2.1 k).2.2.1 ∈ lw_tbl ∧ goodWord (Cond.fieldLink (m_cn cl) i (m_cl3 ci).1 ((m_cl3 ci).2.1 k).2.1 ((m_cl3 ci).2.1 k).2.2.1) = true := by
  unfold m_fld at h
  obtain ⟨r, h1, h2⟩ := Option.map_eq_some_iff.mp h
  have h3 := List.find?_some h1
  have h4 := List.mem_of_find?_eq_some h1
  simp only [Bool.and_eq_true, beq_iff_eq] at h3
  obtain ⟨a, b, cc, d⟩ := r
  dsimp only at h2 h3
  obtain ⟨rfl, rfl⟩ := h3
  cases h2
  refine ⟨?_, ?_⟩
  · have h5 : mm_fldL.all (fun r => decide (r.2.2.1 < 7)) = true := by decide +kernel
    exact of_decide_eq_true (List.all_eq_true.mp h5 _ h4)
  · obtain ⟨j, hj, e⟩ := List.mem_iff_getElem.mp h4
    have hl : mm_fldL.length = 90 := by decide +kernel
    have h6 := mw_fldA j (by omega)
    have e2 : mm_fldL.getD j (0, 0, 0, 0) = (a, b, ci, k) := by rw [List.getD_eq_getElem?_getD, List.getElem?_eq_getElem hj, e]; rfl
    rw [e2] at h6
    exact mw_in h6
theorem mt_layw {ci : Nat} (h : ci < 7) {m : Nat} : ∀ w ∈ u_ws (m_cl3 ci).1 (m_cl3 ci).2.1 (m_cl3 ci).2.2, w ∈ mt_ws m := by
  intro w hw
  obtain ⟨k, hk, rfl⟩ := List.mem_map.mp hw
  exact mt_tbl (mw_in (List.all_eq_true.mp (mw_layA ci h) k hk))
theorem mt_tyk {ci k : Nat} (h : ci < 7) (hk : k < (m_tys ci).length) : m_tyc (m_tyF ci k) = m_ty ci k ∧ ((m_cl3 ci).2.1 k).2.2.2 = (m_ty ci k == 2) ∧ ((m_cl3 ci).2.1 k).1 = m_cn ci := by
  have h1 := List.all_eq_true.mp (mt_tyck ci h) k (List.mem_range.mpr hk)
  simp only [Bool.and_eq_true, beq_iff_eq] at h1
  exact ⟨h1.1.1, h1.1.2, h1.2⟩
theorem m_tyc_i {t : FieldType} (h : m_tyc t = 0) : t = .int := by cases t <;> first | rfl | cases h
theorem m_tyc_l {t : FieldType} (h : m_tyc t = 1) : t = .long := by cases t <;> first | rfl | cases h
theorem m_tyc_z {t : FieldType} (h : m_tyc t = 3) : t = .boolean := by cases t <;> first | rfl | cases h
theorem mt_clw {cl i ci : Nat} (h : m_new cl i = some ci) : Cond.classLink (m_cn cl) i (m_cn ci) ∈ lw_tbl ∧ goodWord (Cond.classLink (m_cn cl) i (m_cn ci)) = true := by
  unfold m_new at h
  obtain ⟨r, h1, h2⟩ := Option.map_eq_some_iff.mp h
  have h3 := List.find?_some h1
  have h4 := List.mem_of_find?_eq_some h1
  simp only [Bool.and_eq_true, beq_iff_eq] at h3
  obtain ⟨a, b, d⟩ := r
  dsimp only at h2 h3
  obtain ⟨rfl, rfl⟩ := h3
  cases h2
  obtain ⟨j, hj, e⟩ := List.mem_iff_getElem.mp h4
  have hl : mm_clsL.length = mw_cls.length := by decide +kernel
  have h5 := List.all_eq_true.mp mw_clsA (mm_clsL[j], mw_cls[j]'(by omega)) (List.mem_iff_getElem.mpr ⟨j, by rw [List.length_zip]; omega, by rw [List.getElem_zip]⟩)
  dsimp only at h5
  rw [e] at h5
  exact mw_in h5
theorem mt_conw {cl i : Nat} {t : Nat} {v : Int} (h : m_con cl i = some (t, v)) (ht : t = 0 ∨ t = 1) : mw_cw (cl, i, t, v) ∈ lw_tbl ∧ goodWord (mw_cw (cl, i, t, v)) = true := by
  unfold m_con at h
  obtain ⟨r, h1, h2⟩ := Option.map_eq_some_iff.mp h
  have h3 := List.find?_some h1
  have h4 := List.mem_of_find?_eq_some h1
  simp only [Bool.and_eq_true, beq_iff_eq] at h3
  obtain ⟨a, b, d, d2⟩ := r
  dsimp only at h2 h3
  obtain ⟨rfl, rfl⟩ := h3
  cases h2
  obtain ⟨j, hj, e⟩ := List.mem_iff_getElem.mp h4
  have hl : mm_conL.length = mw_con.length := by decide +kernel
  have h5 := List.all_eq_true.mp mw_conA (mm_conL[j], mw_con[j]'(by omega)) (List.mem_iff_getElem.mpr ⟨j, by rw [List.length_zip]; omega, by rw [List.getElem_zip]⟩)
  dsimp only at h5
  rw [e] at h5
  dsimp only at h5
  rw [Bool.or_eq_true] at h5
  rcases h5 with h5 | h5
  · rw [beq_iff_eq] at h5; omega
  · exact mw_in h5
theorem m_br_inv {b : Bool} {m pc : Nat} {off : Int} {ls st : List mV} {h : mH} {s' : mS} (hm : m_br b m pc off ls st h = some (.inl s')) : ∃ t : Nat, (pc : Int) + off = (t : Int) ∧ s' = (m, (if b = true then t else pc + 3), ls, st, h) := by
  unfold m_br at hm
  split at hm
  · next t ht => cases hm; exact ⟨t, ht, rfl⟩
  · cases hm
theorem m_call_ni {m' np k m pc : Nat} {ls st : List mV} {h : mH} {s' : mS} : ¬ m_call m' np k m pc ls st h = some (.inl s') := by
  unfold m_call
  intro q
  by_cases c : m_kd m' = k ∧ m_rok m m' = true ∧ m_sum (st.drop (if k = 0 then np else np + 1)) ≤ 8 ∧ (if k = 0 then np else np + 1) ≤ st.length ∧ (k = 0 ∨ m_rcv m' (st.take (np + 1)).reverse h = true)
  · rw [if_pos c] at q; cases q
  · rw [if_neg c] at q; cases q
theorem m_jmp_inv {m pc : Nat} {off : Int} {ls st : List mV} {h : mH} {s' : mS} (hm : m_jmp m pc off ls st h = some (.inl s')) : ∃ t : Nat, (pc : Int) + off = (t : Int) ∧ s' = (m, t, ls, st, h) := by
  unfold m_jmp at hm
  split at hm
  · next t ht => cases hm; exact ⟨t, ht, rfl⟩
  · cases hm
theorem mt_dv {ci j : Nat} (h : ci < 7) (hj : j < (m_tys ci).length) (E : mE) : defaultValue (m_tyF ci j) = mt_f E (m_ty ci j) (-1) 0 := by
  have h1 := (mt_tyk h hj).1
  have h2 : m_ty ci j = 0 ∨ m_ty ci j = 1 ∨ m_ty ci j = 2 ∨ m_ty ci j = 3 := by
    have h5 : (List.range 7).all (fun ci => (List.range (m_tys ci).length).all (fun j => decide (m_ty ci j = 0 ∨ m_ty ci j = 1 ∨ m_ty ci j = 2 ∨ m_ty ci j = 3))) = true := by decide +kernel
    exact of_decide_eq_true (List.all_eq_true.mp (List.all_eq_true.mp h5 ci (List.mem_range.mpr h)) j (List.mem_range.mpr hj))
  rcases h2 with h2 | h2 | h2 | h2 <;> rw [h2] at h1 ⊢
  · rw [m_tyc_i h1]; rfl
  · rw [m_tyc_l h1]; rfl
  · generalize m_tyF ci j = t at h1 ⊢
    cases t <;> first | rfl | cases h1
  · rw [m_tyc_z h1]; rfl
theorem mt_new_at {E : mE} {h : mH} {q : Nat} {x : va_E} {H1 : Heap} {D : va_G} (hP : va_P D vwCl (mt_w E h ++ [(q, x)]) H1) (hD : va_D (mt_A E) (mt_w E h ++ [(q, x)])) (hz : H1.size ≤ E.1 + h.2.2.1 + 1) : q = E.1 + h.2.2.1 := by
  have e1 : (mt_w E h ++ [(q, x)])[h.2.2.1]? = some (q, x) := by rw [List.getElem?_append_right (by rw [mt_w_len]; exact Nat.le_refl _), mt_w_len]; simp
  have h1 : q < H1.size := (hP _ _ e1).lt
  have h2 : E.1 ≤ q := hD.2 _ _ e1
  rcases Nat.lt_or_ge q (E.1 + h.2.2.1) with z | z
  · have e2 : (mt_w E h ++ [(q, x)])[q - E.1]? = some (E.1 + (q - E.1), mt_c E (h.1 (q - E.1)) (h.2.1 (q - E.1))) := by
      rw [List.getElem?_append_left (by rw [mt_w_len]; omega)]
      exact mt_w_at (by omega)
    have h3 := hD.1 _ _ _ _ e1 e2 (by show q = E.1 + (q - E.1); omega)
    omega
  · omega

set_option maxHeartbeats 4000000 in
theorem mt_step {E : mE} {Z : mZ} {m pc len : Nat} {ins : Instr} {ls st : List mV} {h : mH} {s' : mS} {lsR : Array Slot} (C : mt_Cx E Z m p R s mid args meth c) (hd : decode (m_byt m) pc = .ok (ins, len)) (ho : m_okl ins len = true) (hm : m_ins Z ins m pc ls st h = some (.inl s'))
    (hL : mt_L E lsR (m_max m) ls) (hR : mt_R E h H) (hS : va_S (mt_A E) s.heap H locs) (hz : h.2.2.2.1 = 0 → s.heap.size + cells ≤ E.1 + h.2.2.1) (hc1 : cells + mt_n s'.2.2.2.2 ≤ R.cells + mt_n h) (hc2 : slots + s'.2.2.2.2.2.2.2.2 ≤ R.slots + h.2.2.2.2) (hc3 : cells ≤ R.cells ∧ slots ≤ R.slots)
    (K : ∀ (cells' slots' : Nat) (lsR' : Array Slot) (H' : Heap) (locs' : List Loc), cells' + mt_n h = cells + mt_n s'.2.2.2.2 → slots' + h.2.2.2.2 = slots + s'.2.2.2.2.2.2.2.2 → mt_L E lsR' (m_max m) s'.2.2.1 → mt_R E s'.2.2.2.2 H' → va_S (mt_A E) s.heap H' locs' → W p l e R s mid args below meth c H' locs' cells' slots' Q (F0 mid s'.2.1 lsR' (s'.2.2.2.1.map (mt_v E)))) :
    W p l e R s mid args below meth c H locs cells slots Q (F0 mid pc lsR (st.map (mt_v E))) := by
  obtain ⟨⟨hx, hb, hml, hown, hts⟩, hlk, hnm, hex, ⟨hRf, hRl⟩, ⟨hK, hXX⟩, hrt⟩ := C
  obtain ⟨⟨hX, hbl, hB⟩, hAO, -⟩ := hXX
  obtain ⟨hP, hD⟩ := hR
  have hA : ∀ q, s.heap.size ≤ q → mt_A E q := fun q h => Nat.le_trans hB h
  have hbs : E.2.1 < s.heap.size := Nat.lt_of_lt_of_le hbl hB
  have hbA : ¬ mt_A E E.2.1 := Nat.not_le.mpr hbl
  cases ins
  case iload_n k =>
    obtain rfl : len = 1 := by simpa [m_okl] using ho
    simp only [m_ins, m_ld] at hm
    split at hm
    · next hc =>
      unfold m_go at hm; cases hm
      have hg := hL.2.2.2 k (by rw [hc]; decide)
      have K' := K cells slots lsR H locs rfl rfl hL ⟨hP, hD⟩ hS
      rw [mt_v0 E hc] at hg
      simp only [List.map_cons, mt_v0 E hc] at K'
      exact lv_iload_n hx hb hd rfl hg K'
    · cases hm
  case iload k =>
    obtain rfl : len = 2 := by simpa [m_okl] using ho
    simp only [m_ins, m_ld] at hm
    split at hm
    · next hc =>
      unfold m_go at hm; cases hm
      have hg := hL.2.2.2 k (by rw [hc]; decide)
      have K' := K cells slots lsR H locs rfl rfl hL ⟨hP, hD⟩ hS
      rw [mt_v0 E hc] at hg
      simp only [List.map_cons, mt_v0 E hc] at K'
      exact lv_iload hx hb hd hg K'
    · cases hm
  case lload_n k =>
    obtain rfl : len = 1 := by simpa [m_okl] using ho
    simp only [m_ins, m_ld] at hm
    split at hm
    · next hc =>
      unfold m_go at hm; cases hm
      have hg := hL.2.2.2 k (by rw [hc]; decide)
      have K' := K cells slots lsR H locs rfl rfl hL ⟨hP, hD⟩ hS
      rw [mt_v1 E hc] at hg
      simp only [List.map_cons, mt_v1 E hc] at K'
      exact lv_lload_n hx hb hd rfl hg K'
    · cases hm
  case lload k =>
    obtain rfl : len = 2 := by simpa [m_okl] using ho
    simp only [m_ins, m_ld] at hm
    split at hm
    · next hc =>
      unfold m_go at hm; cases hm
      have hg := hL.2.2.2 k (by rw [hc]; decide)
      have K' := K cells slots lsR H locs rfl rfl hL ⟨hP, hD⟩ hS
      rw [mt_v1 E hc] at hg
      simp only [List.map_cons, mt_v1 E hc] at K'
      exact lv_lload hx hb hd hg K'
    · cases hm
  case aload_n k =>
    obtain rfl : len = 1 := by simpa [m_okl] using ho
    simp only [m_ins] at hm
    split at hm
    · next hc =>
      unfold m_go at hm; cases hm
      have hg := hL.2.2.2 k (by rcases hc with hc | hc | hc <;> rw [hc] <;> decide)
      have K' := K cells slots lsR H locs rfl rfl hL ⟨hP, hD⟩ hS
      rcases mt_v2 E hc with ⟨a, ha⟩ | ha
      · rw [ha] at hg
        simp only [List.map_cons, ha] at K'
        exact lv_aload_n hx hb hd rfl hg K'
      · rw [ha] at hg
        simp only [List.map_cons, ha] at K'
        exact lv_aload_nN hx hb hd rfl hg K'
    · cases hm
  case aload k =>
    obtain rfl : len = 2 := by simpa [m_okl] using ho
    simp only [m_ins] at hm
    split at hm
    · next hc =>
      unfold m_go at hm; cases hm
      have hg := hL.2.2.2 k (by rcases hc with hc | hc | hc <;> rw [hc] <;> decide)
      have K' := K cells slots lsR H locs rfl rfl hL ⟨hP, hD⟩ hS
      rcases mt_v2 E hc with ⟨a, ha⟩ | ha
      · rw [ha] at hg
        simp only [List.map_cons, ha] at K'
        exact lv_aload hx hb hd hg K'
      · rw [ha] at hg
        simp only [List.map_cons, ha] at K'
        exact lv_aloadN hx hb hd hg K'
    · cases hm
  case istore_n k =>
    obtain rfl : len = 1 := by simpa [m_okl] using ho
    simp only [m_ins] at hm
    split at hm
    · next v r =>
      unfold m_st1 m_go at hm
      split at hm
      · next hk =>
        cases hm
        rw [hL.2.1] at hk
        exact lv_istore_n hx hb hd rfl hL.has hk rfl (fun lsR' h' => K cells slots lsR' H locs rfl rfl (hL.set1 (v := (0, v)) hk h') ⟨hP, hD⟩ hS)
      · cases hm
    · cases hm
  case istore k =>
    obtain rfl : len = 2 := by simpa [m_okl] using ho
    simp only [m_ins] at hm
    split at hm
    · next v r =>
      unfold m_st1 m_go at hm
      split at hm
      · next hk =>
        cases hm
        rw [hL.2.1] at hk
        exact lv_istore hx hb hd hL.has hk rfl (fun lsR' h' => K cells slots lsR' H locs rfl rfl (hL.set1 (v := (0, v)) hk h') ⟨hP, hD⟩ hS)
      · cases hm
    · cases hm
  case lstore_n k =>
    obtain rfl : len = 1 := by simpa [m_okl] using ho
    simp only [m_ins] at hm
    split at hm
    · next v r =>
      unfold m_st2 m_go at hm
      split at hm
      · next hk =>
        cases hm
        rw [hL.2.1] at hk
        exact lv_lstore_n hx hb hd rfl hL.has hk rfl (fun lsR' h' => K cells slots lsR' H locs rfl rfl (hL.set2 (v := (1, v)) hk h') ⟨hP, hD⟩ hS)
      · cases hm
    · cases hm
  case lstore k =>
    obtain rfl : len = 2 := by simpa [m_okl] using ho
    simp only [m_ins] at hm
    split at hm
    · next v r =>
      unfold m_st2 m_go at hm
      split at hm
      · next hk =>
        cases hm
        rw [hL.2.1] at hk
        exact lv_lstore hx hb hd hL.has hk rfl (fun lsR' h' => K cells slots lsR' H locs rfl rfl (hL.set2 (v := (1, v)) hk h') ⟨hP, hD⟩ hS)
      · cases hm
    · cases hm
  case astore_n k =>
    obtain rfl : len = 1 := by simpa [m_okl] using ho
    simp only [m_ins] at hm
    split at hm
    · next v r =>
      unfold m_st1 m_go at hm
      split at hm
      · next hk =>
        cases hm
        rw [hL.2.1] at hk
        cases v with
        | ofNat a => exact lv_astore_n hx hb hd rfl hL.has hk rfl (fun lsR' h' => K cells slots lsR' H locs rfl rfl (hL.set1 (v := (2, .ofNat a)) hk h') ⟨hP, hD⟩ hS)
        | negSucc a => exact lv_astore_nN hx hb hd rfl hL.has hk rfl (fun lsR' h' => K cells slots lsR' H locs rfl rfl (hL.set1 (v := (2, .negSucc a)) hk h') ⟨hP, hD⟩ hS)
      · cases hm
    · next v r =>
      unfold m_st1 m_go at hm
      split at hm
      · next hk =>
        cases hm
        rw [hL.2.1] at hk
        exact lv_astore_n hx hb hd rfl hL.has hk rfl (fun lsR' h' => K cells slots lsR' H locs rfl rfl (hL.set1 (v := (3, v)) hk h') ⟨hP, hD⟩ hS)
      · cases hm
    · cases hm
  case astore k =>
    obtain rfl : len = 2 := by simpa [m_okl] using ho
    simp only [m_ins] at hm
    split at hm
    · next v r =>
      unfold m_st1 m_go at hm
      split at hm
      · next hk =>
        cases hm
        rw [hL.2.1] at hk
        cases v with
        | ofNat a => exact lv_astore hx hb hd hL.has hk rfl (fun lsR' h' => K cells slots lsR' H locs rfl rfl (hL.set1 (v := (2, .ofNat a)) hk h') ⟨hP, hD⟩ hS)
        | negSucc a => exact lv_astoreN hx hb hd hL.has hk rfl (fun lsR' h' => K cells slots lsR' H locs rfl rfl (hL.set1 (v := (2, .negSucc a)) hk h') ⟨hP, hD⟩ hS)
      · cases hm
    · next v r =>
      unfold m_st1 m_go at hm
      split at hm
      · next hk =>
        cases hm
        rw [hL.2.1] at hk
        exact lv_astore hx hb hd hL.has hk rfl (fun lsR' h' => K cells slots lsR' H locs rfl rfl (hL.set1 (v := (3, v)) hk h') ⟨hP, hD⟩ hS)
      · cases hm
    · cases hm
  case iinc k n =>
    obtain rfl : len = 3 := by simpa [m_okl] using ho
    simp only [m_ins] at hm
    split at hm
    · next hc =>
      unfold m_st1 m_go at hm
      split at hm
      · next hk =>
        cases hm
        rw [hL.2.1] at hk
        have hmem : (k, mt_v E (m_get ls k)) ∈ mt_ls E ls := mt_ls_mem.mpr ⟨by rw [hc]; decide, rfl⟩
        obtain ⟨j, hj⟩ := List.getElem?_of_mem hmem
        rw [mt_v0 E hc] at hj
        exact lv_iinc hx hb hd hL.has hj (mt_add _ _) hk rfl (fun lsR' h' => K cells slots lsR' H locs rfl rfl (hL.set1 (v := (0, (m_get ls k).2 + n)) hk h') ⟨hP, hD⟩ hS)
      · cases hm
    · cases hm
  case iconst n =>
    obtain rfl : len = 1 := by simpa [m_okl] using ho
    simp only [m_ins] at hm
    unfold m_go at hm; cases hm
    exact lv_iconst hx hb hd rfl (K cells slots lsR H locs rfl rfl hL ⟨hP, hD⟩ hS)
  case lconst n =>
    obtain rfl : len = 1 := by simpa [m_okl] using ho
    simp only [m_ins] at hm
    unfold m_go at hm; cases hm
    exact lv_lconst hx hb hd (mt_lc _) (K cells slots lsR H locs rfl rfl hL ⟨hP, hD⟩ hS)
  case bipush n =>
    obtain rfl : len = 2 := by simpa [m_okl] using ho
    simp only [m_ins] at hm
    unfold m_go at hm; cases hm
    exact lv_bipush hx hb hd (mt_bi _) (K cells slots lsR H locs rfl rfl hL ⟨hP, hD⟩ hS)
  case sipush n =>
    obtain rfl : len = 3 := by simpa [m_okl] using ho
    simp only [m_ins] at hm
    unfold m_go at hm; cases hm
    exact lv_sipush hx hb hd (mt_si _) (K cells slots lsR H locs rfl rfl hL ⟨hP, hD⟩ hS)
  case aconst_null =>
    obtain rfl : len = 1 := by simpa [m_okl] using ho
    simp only [m_ins] at hm
    unfold m_go at hm; cases hm
    exact lv_null hx hb hd (K cells slots lsR H locs rfl rfl hL ⟨hP, hD⟩ hS)
  case ldc i =>
    obtain rfl : len = 2 := by simpa [m_okl] using ho
    simp only [m_ins] at hm
    split at hm
    · next v hv =>
      unfold m_go at hm; cases hm
      exact lv_ldc hx hb hown (hts _ (mt_tbl (mt_conw hv (Or.inl rfl)))) hd (K cells slots lsR H locs rfl rfl hL ⟨hP, hD⟩ hS)
    · cases hm
  case ldc2_w i =>
    obtain rfl : len = 3 := by simpa [m_okl] using ho
    simp only [m_ins] at hm
    split at hm
    · next v hv =>
      unfold m_go at hm; cases hm
      exact lv_ldc2 hx hb hown (hts _ (mt_tbl (mt_conw hv (Or.inr rfl)))) hd (K cells slots lsR H locs rfl rfl hL ⟨hP, hD⟩ hS)
    · cases hm
  case iadd =>
    obtain rfl : len = 1 := by simpa [m_okl] using ho
    simp only [m_ins, m_bin] at hm
    split at hm
    · next b a r =>
      unfold m_go at hm; cases hm
      have K' := K cells slots lsR H locs rfl rfl hL ⟨hP, hD⟩ hS
      simp only [List.map_cons, mt_v] at K' ⊢
      rw [← mt_add] at K'
      exact lv_iadd hx hb hd K'
    · cases hm
  case isub =>
    obtain rfl : len = 1 := by simpa [m_okl] using ho
    simp only [m_ins, m_bin] at hm
    split at hm
    · next b a r =>
      unfold m_go at hm; cases hm
      have K' := K cells slots lsR H locs rfl rfl hL ⟨hP, hD⟩ hS
      simp only [List.map_cons, mt_v] at K' ⊢
      rw [← mt_sub] at K'
      exact lv_isub hx hb hd K'
    · cases hm
  case imul =>
    obtain rfl : len = 1 := by simpa [m_okl] using ho
    simp only [m_ins, m_bin] at hm
    split at hm
    · next b a r =>
      unfold m_go at hm; cases hm
      have K' := K cells slots lsR H locs rfl rfl hL ⟨hP, hD⟩ hS
      simp only [List.map_cons, mt_v] at K' ⊢
      rw [← mt_mul] at K'
      exact lv_imul hx hb hd K'
    · cases hm
  case iand =>
    obtain rfl : len = 1 := by simpa [m_okl] using ho
    simp only [m_ins, m_bin] at hm
    split at hm
    · next b a r =>
      unfold m_go at hm; cases hm
      have K' := K cells slots lsR H locs rfl rfl hL ⟨hP, hD⟩ hS
      simp only [List.map_cons, mt_v] at K' ⊢
      rw [← mt_and] at K'
      exact lv_iand hx hb hd K'
    · cases hm
  case ior =>
    obtain rfl : len = 1 := by simpa [m_okl] using ho
    simp only [m_ins, m_bin] at hm
    split at hm
    · next b a r =>
      unfold m_go at hm; cases hm
      have K' := K cells slots lsR H locs rfl rfl hL ⟨hP, hD⟩ hS
      simp only [List.map_cons, mt_v] at K' ⊢
      rw [← mt_or] at K'
      exact lv_ior hx hb hd K'
    · cases hm
  case ixor =>
    obtain rfl : len = 1 := by simpa [m_okl] using ho
    simp only [m_ins, m_bin] at hm
    split at hm
    · next b a r =>
      unfold m_go at hm; cases hm
      have K' := K cells slots lsR H locs rfl rfl hL ⟨hP, hD⟩ hS
      simp only [List.map_cons, mt_v] at K' ⊢
      rw [← mt_xor] at K'
      exact lv_ixor hx hb hd K'
    · cases hm
  case ishl =>
    obtain rfl : len = 1 := by simpa [m_okl] using ho
    simp only [m_ins, m_bin] at hm
    split at hm
    · next b a r =>
      unfold m_go at hm; cases hm
      have K' := K cells slots lsR H locs rfl rfl hL ⟨hP, hD⟩ hS
      simp only [List.map_cons, mt_v] at K' ⊢
      rw [← mt_shl] at K'
      exact lv_ishl hx hb hd K'
    · cases hm
  case ishr =>
    obtain rfl : len = 1 := by simpa [m_okl] using ho
    simp only [m_ins, m_bin] at hm
    split at hm
    · next b a r =>
      unfold m_go at hm; cases hm
      have K' := K cells slots lsR H locs rfl rfl hL ⟨hP, hD⟩ hS
      simp only [List.map_cons, mt_v] at K' ⊢
      rw [← mt_shr] at K'
      exact lv_ishr hx hb hd K'
    · cases hm
  case ladd =>
    obtain rfl : len = 1 := by simpa [m_okl] using ho
    simp only [m_ins, m_binl] at hm
    split at hm
    · next b a r =>
      unfold m_go at hm; cases hm
      have K' := K cells slots lsR H locs rfl rfl hL ⟨hP, hD⟩ hS
      simp only [List.map_cons, mt_v] at K' ⊢
      rw [← mt_addl] at K'
      exact lv_ladd hx hb hd K'
    · cases hm
  case lsub =>
    obtain rfl : len = 1 := by simpa [m_okl] using ho
    simp only [m_ins, m_binl] at hm
    split at hm
    · next b a r =>
      unfold m_go at hm; cases hm
      have K' := K cells slots lsR H locs rfl rfl hL ⟨hP, hD⟩ hS
      simp only [List.map_cons, mt_v] at K' ⊢
      rw [← mt_subl] at K'
      exact lv_lsub hx hb hd K'
    · cases hm
  case lmul =>
    obtain rfl : len = 1 := by simpa [m_okl] using ho
    simp only [m_ins, m_binl] at hm
    split at hm
    · next b a r =>
      unfold m_go at hm; cases hm
      have K' := K cells slots lsR H locs rfl rfl hL ⟨hP, hD⟩ hS
      simp only [List.map_cons, mt_v] at K' ⊢
      rw [← mt_mull] at K'
      exact lv_lmul hx hb hd K'
    · cases hm
  case iushr =>
    obtain rfl : len = 1 := by simpa [m_okl] using ho
    simp only [m_ins, m_bin] at hm
    split at hm
    · next b a r =>
      unfold m_go at hm; cases hm
      exact lv_iushr hx hb hd (mt_ushr a b) (K cells slots lsR H locs rfl rfl hL ⟨hP, hD⟩ hS)
    · cases hm
  case idiv =>
    obtain rfl : len = 1 := by simpa [m_okl] using ho
    simp only [m_ins] at hm
    split at hm
    · next b a r =>
      split at hm
      · cases hm
      · next hne =>
        unfold m_go at hm; cases hm
        have K' := K cells slots lsR H locs rfl rfl hL ⟨hP, hD⟩ hS
        simp only [List.map_cons, mt_v] at K' ⊢
        rw [← mt_div] at K'
        exact lv_idiv hx hb hd (fun q => hne ((mt_eq0 b).mp q)) K'
    · cases hm
  case irem =>
    obtain rfl : len = 1 := by simpa [m_okl] using ho
    simp only [m_ins] at hm
    split at hm
    · next b a r =>
      split at hm
      · cases hm
      · next hne =>
        unfold m_go at hm; cases hm
        have K' := K cells slots lsR H locs rfl rfl hL ⟨hP, hD⟩ hS
        simp only [List.map_cons, mt_v] at K' ⊢
        rw [← mt_rem] at K'
        exact lv_irem hx hb hd (fun q => hne ((mt_eq0 b).mp q)) K'
    · cases hm
  case ldiv =>
    obtain rfl : len = 1 := by simpa [m_okl] using ho
    simp only [m_ins] at hm
    split at hm
    · next b a r =>
      split at hm
      · cases hm
      · next hne =>
        unfold m_go at hm; cases hm
        have K' := K cells slots lsR H locs rfl rfl hL ⟨hP, hD⟩ hS
        simp only [List.map_cons, mt_v] at K' ⊢
        rw [← mt_divl] at K'
        exact lv_ldiv hx hb hd (fun q => hne ((mt_eq0l b).mp q)) K'
    · cases hm
  case lrem =>
    obtain rfl : len = 1 := by simpa [m_okl] using ho
    simp only [m_ins] at hm
    split at hm
    · next b a r =>
      split at hm
      · cases hm
      · next hne =>
        unfold m_go at hm; cases hm
        have K' := K cells slots lsR H locs rfl rfl hL ⟨hP, hD⟩ hS
        simp only [List.map_cons, mt_v] at K' ⊢
        rw [← mt_reml] at K'
        exact lv_lrem hx hb hd (fun q => hne ((mt_eq0l b).mp q)) K'
    · cases hm
  case ineg =>
    obtain rfl : len = 1 := by simpa [m_okl] using ho
    simp only [m_ins] at hm
    split at hm
    · next a r =>
      unfold m_go at hm; cases hm
      have K' := K cells slots lsR H locs rfl rfl hL ⟨hP, hD⟩ hS
      simp only [List.map_cons, mt_v] at K' ⊢
      rw [← mt_neg] at K'
      exact lv_ineg hx hb hd K'
    · cases hm
  case lcmp =>
    obtain rfl : len = 1 := by simpa [m_okl] using ho
    simp only [m_ins] at hm
    split at hm
    · next b a r =>
      unfold m_go at hm; cases hm
      have K' := K cells slots lsR H locs rfl rfl hL ⟨hP, hD⟩ hS
      simp only [List.map_cons, mt_v] at K' ⊢
      rw [← mt_cmp] at K'
      exact W.lcmp hx hb hd K'
    · cases hm
  case i2l =>
    obtain rfl : len = 1 := by simpa [m_okl] using ho
    simp only [m_ins] at hm
    split at hm
    · next a r =>
      unfold m_go at hm; cases hm
      exact lv_i2l hx hb hd (mt_i2l a) (K cells slots lsR H locs rfl rfl hL ⟨hP, hD⟩ hS)
    · cases hm
  case l2i =>
    obtain rfl : len = 1 := by simpa [m_okl] using ho
    simp only [m_ins] at hm
    split at hm
    · next a r =>
      unfold m_go at hm; cases hm
      exact lv_l2i hx hb hd (mt_l2i a) (K cells slots lsR H locs rfl rfl hL ⟨hP, hD⟩ hS)
    · cases hm
  case dup =>
    obtain rfl : len = 1 := by simpa [m_okl] using ho
    simp only [m_ins] at hm
    split at hm
    · next v r =>
      split at hm
      · cases hm
      · next hv =>
        unfold m_go at hm; cases hm
        exact lv_dup hx hb hd (by rw [mt_cat]; simp only [m_cat]; rw [if_neg hv]) (K cells slots lsR H locs rfl rfl hL ⟨hP, hD⟩ hS)
    · cases hm
  case pop =>
    obtain rfl : len = 1 := by simpa [m_okl] using ho
    simp only [m_ins] at hm
    split at hm
    · next v r =>
      split at hm
      · cases hm
      · next hv =>
        unfold m_go at hm; cases hm
        exact lv_pop hx hb hd (by rw [mt_cat]; simp only [m_cat]; rw [if_neg hv]) (K cells slots lsR H locs rfl rfl hL ⟨hP, hD⟩ hS)
    · cases hm
  case dup_x1 =>
    obtain rfl : len = 1 := by simpa [m_okl] using ho
    simp only [m_ins] at hm
    split at hm
    · next v w r =>
      split at hm
      · cases hm
      · next hv =>
        unfold m_go at hm; cases hm
        exact lv_dup_x1 hx hb hd (by rw [mt_cat]; simp only [m_cat]; rw [if_neg (fun q => hv (Or.inl q))]) (by rw [mt_cat]; simp only [m_cat]; rw [if_neg (fun q => hv (Or.inr q))]) (K cells slots lsR H locs rfl rfl hL ⟨hP, hD⟩ hS)
    · cases hm
  case dup2 =>
    obtain rfl : len = 1 := by simpa [m_okl] using ho
    simp only [m_ins] at hm
    split at hm
    · next v r =>
      split at hm
      · next hv =>
        unfold m_go at hm; cases hm
        exact lv_dup2_2 hx hb hd (by rw [mt_cat]; simp only [m_cat]; rw [if_pos hv]) (K cells slots lsR H locs rfl rfl hL ⟨hP, hD⟩ hS)
      · next hv =>
        split at hm
        · next w r =>
          split at hm
          · cases hm
          · next hw =>
            unfold m_go at hm; cases hm
            exact lv_dup2_11 hx hb hd (by rw [mt_cat]; simp only [m_cat]; rw [if_neg hv]) (by rw [mt_cat]; simp only [m_cat]; rw [if_neg hw]) (K cells slots lsR H locs rfl rfl hL ⟨hP, hD⟩ hS)
        · cases hm
    · cases hm
  case goto off =>
    obtain rfl : len = 3 := by simpa [m_okl] using ho
    simp only [m_ins] at hm
    obtain ⟨t, ht, rfl⟩ := m_jmp_inv hm
    exact lv_goto hx hb hd ht (K cells slots lsR H locs rfl rfl hL ⟨hP, hD⟩ hS)
  case ifCond cc off =>
    obtain rfl : len = 3 := by simpa [m_okl] using ho
    simp only [m_ins] at hm
    split at hm
    · next a r =>
      split at hm
      · obtain ⟨t, ht, rfl⟩ := m_br_inv hm
        have K' := K cells slots lsR H locs rfl rfl hL ⟨hP, hD⟩ hS
        dsimp only at K'
        exact lv_if_eq hx hb hd ht (fun q => by have q := (mt_eq0 a).mp q; rw [if_pos (decide_eq_true q)] at K'; exact K') (fun q => by have q : ¬ _ := fun z => q ((mt_eq0 a).mpr z); rw [if_neg (fun z => q (of_decide_eq_true z))] at K'; exact K')
      · obtain ⟨t, ht, rfl⟩ := m_br_inv hm
        have K' := K cells slots lsR H locs rfl rfl hL ⟨hP, hD⟩ hS
        dsimp only at K'
        exact lv_if_ne hx hb hd ht (fun q => by have q := (not_congr (mt_eq0 a)).mp q; rw [if_pos (decide_eq_true q)] at K'; exact K') (fun q => by have q := (mt_eq0 a).mp q; rw [if_neg (fun z => (of_decide_eq_true z) q)] at K'; exact K')
      · obtain ⟨t, ht, rfl⟩ := m_br_inv hm
        have K' := K cells slots lsR H locs rfl rfl hL ⟨hP, hD⟩ hS
        dsimp only at K'
        exact lv_if_lt hx hb hd ht (fun q => by have q := (mt_lt0 a).mp q; rw [if_pos (decide_eq_true q)] at K'; exact K') (fun q => by have q : ¬ _ := fun z => q ((mt_lt0 a).mpr z); rw [if_neg (fun z => q (of_decide_eq_true z))] at K'; exact K')
      · obtain ⟨t, ht, rfl⟩ := m_br_inv hm
        have K' := K cells slots lsR H locs rfl rfl hL ⟨hP, hD⟩ hS
        dsimp only at K'
        exact lv_if_ge hx hb hd ht (fun q => by have q := (mt_ge0 a).mp q; rw [if_pos (decide_eq_true q)] at K'; exact K') (fun q => by have q : ¬ _ := fun z => q ((mt_ge0 a).mpr z); rw [if_neg (fun z => q (of_decide_eq_true z))] at K'; exact K')
      · obtain ⟨t, ht, rfl⟩ := m_br_inv hm
        have K' := K cells slots lsR H locs rfl rfl hL ⟨hP, hD⟩ hS
        dsimp only at K'
        exact lv_if_gt hx hb hd ht (fun q => by have q := (mt_gt0 a).mp q; rw [if_pos (decide_eq_true q)] at K'; exact K') (fun q => by have q : ¬ _ := fun z => q ((mt_gt0 a).mpr z); rw [if_neg (fun z => q (of_decide_eq_true z))] at K'; exact K')
      · obtain ⟨t, ht, rfl⟩ := m_br_inv hm
        have K' := K cells slots lsR H locs rfl rfl hL ⟨hP, hD⟩ hS
        dsimp only at K'
        exact lv_if_le hx hb hd ht (fun q => by have q := (mt_le0 a).mp q; rw [if_pos (decide_eq_true q)] at K'; exact K') (fun q => by have q : ¬ _ := fun z => q ((mt_le0 a).mpr z); rw [if_neg (fun z => q (of_decide_eq_true z))] at K'; exact K')
    · cases hm
  case if_icmp cc off =>
    obtain rfl : len = 3 := by simpa [m_okl] using ho
    simp only [m_ins] at hm
    split at hm
    · next b a r =>
      split at hm
      · obtain ⟨t, ht, rfl⟩ := m_br_inv hm
        have K' := K cells slots lsR H locs rfl rfl hL ⟨hP, hD⟩ hS
        dsimp only at K'
        exact lv_icmp_eq hx hb hd ht (fun q => by have q := (mt_eq a b).mp q; rw [if_pos (decide_eq_true q)] at K'; exact K') (fun q => by have q : ¬ _ := fun z => q ((mt_eq a b).mpr z); rw [if_neg (fun z => q (of_decide_eq_true z))] at K'; exact K')
      · obtain ⟨t, ht, rfl⟩ := m_br_inv hm
        have K' := K cells slots lsR H locs rfl rfl hL ⟨hP, hD⟩ hS
        dsimp only at K'
        exact lv_icmp_ne hx hb hd ht (fun q => by have q := (not_congr (mt_eq a b)).mp q; rw [if_pos (decide_eq_true q)] at K'; exact K') (fun q => by have q := (mt_eq a b).mp q; rw [if_neg (fun z => (of_decide_eq_true z) q)] at K'; exact K')
      · obtain ⟨t, ht, rfl⟩ := m_br_inv hm
        have K' := K cells slots lsR H locs rfl rfl hL ⟨hP, hD⟩ hS
        dsimp only at K'
        exact lv_icmp_lt hx hb hd ht (fun q => by have q := (mt_lt a b).mp q; rw [if_pos (decide_eq_true q)] at K'; exact K') (fun q => by have q : ¬ _ := fun z => q ((mt_lt a b).mpr z); rw [if_neg (fun z => q (of_decide_eq_true z))] at K'; exact K')
      · obtain ⟨t, ht, rfl⟩ := m_br_inv hm
        have K' := K cells slots lsR H locs rfl rfl hL ⟨hP, hD⟩ hS
        dsimp only at K'
        exact lv_icmp_ge hx hb hd ht (fun q => by have q := (mt_le b a).mp q; rw [if_pos (decide_eq_true q)] at K'; exact K') (fun q => by have q : ¬ _ := fun z => q ((mt_le b a).mpr z); rw [if_neg (fun z => q (of_decide_eq_true z))] at K'; exact K')
      · obtain ⟨t, ht, rfl⟩ := m_br_inv hm
        have K' := K cells slots lsR H locs rfl rfl hL ⟨hP, hD⟩ hS
        dsimp only at K'
        exact lv_icmp_gt hx hb hd ht (fun q => by have q := (mt_lt b a).mp q; rw [if_pos (decide_eq_true q)] at K'; exact K') (fun q => by have q : ¬ _ := fun z => q ((mt_lt b a).mpr z); rw [if_neg (fun z => q (of_decide_eq_true z))] at K'; exact K')
      · obtain ⟨t, ht, rfl⟩ := m_br_inv hm
        have K' := K cells slots lsR H locs rfl rfl hL ⟨hP, hD⟩ hS
        dsimp only at K'
        exact lv_icmp_le hx hb hd ht (fun q => by have q := (mt_le a b).mp q; rw [if_pos (decide_eq_true q)] at K'; exact K') (fun q => by have q : ¬ _ := fun z => q ((mt_le a b).mpr z); rw [if_neg (fun z => q (of_decide_eq_true z))] at K'; exact K')
    · cases hm
  case ifnull off =>
    obtain rfl : len = 3 := by simpa [m_okl] using ho
    simp only [m_ins] at hm
    split at hm
    · next a r =>
      obtain ⟨t, ht, rfl⟩ := m_br_inv hm
      have K' := K cells slots lsR H locs rfl rfl hL ⟨hP, hD⟩ hS
      dsimp only at K'
      by_cases q : a < 0
      · rw [if_pos (decide_eq_true q)] at K'
        cases a with
        | ofNat a => exact absurd q (Int.not_lt.mpr (Int.natCast_nonneg a))
        | negSucc a => exact lv_ifnullN hx hb hd ht K'
      · rw [if_neg (fun z => q (of_decide_eq_true z))] at K'
        cases a with
        | ofNat a => exact lv_ifnull hx hb hd K'
        | negSucc a => exact absurd (Int.negSucc_lt_zero a) q
    · cases hm
  case tableswitch dflt lo hi offs =>
    simp only [m_ins] at hm
    split at hm
    · next a r =>
      split at hm
      · next hq =>
        obtain ⟨t, ht, rfl⟩ := m_jmp_inv hm
        exact lv_tableOut hx hb hd (by rw [mt_ti]; exact hq) ht (K cells slots lsR H locs rfl rfl hL ⟨hP, hD⟩ hS)
      · next hq =>
        split at hm
        · next off hoff =>
          obtain ⟨t, ht, rfl⟩ := m_jmp_inv hm
          exact lv_tableIn hx hb hd (by rw [mt_ti]; exact fun z => hq (Or.inl z)) (by rw [mt_ti]; exact fun z => hq (Or.inr z)) (by rw [mt_ti]; exact hoff) ht (K cells slots lsR H locs rfl rfl hL ⟨hP, hD⟩ hS)
        · cases hm
    · cases hm
  case lookupswitch dflt ps =>
    simp only [m_ins] at hm
    split at hm
    · next a r =>
      split at hm
      · next hq =>
        obtain ⟨t, ht, rfl⟩ := m_jmp_inv hm
        exact lv_lookup hx hb hd hq (by rw [mt_ti]) ht (K cells slots lsR H locs rfl rfl hL ⟨hP, hD⟩ hS)
      · cases hm
    · cases hm
  case ireturn =>
    simp only [m_ins] at hm
    repeat' split at hm
    all_goals cases hm
  case lreturn =>
    simp only [m_ins] at hm
    repeat' split at hm
    all_goals cases hm
  case areturn =>
    simp only [m_ins] at hm
    repeat' split at hm
    all_goals cases hm
  case return_ =>
    simp only [m_ins] at hm
    repeat' split at hm
    all_goals cases hm
  case getfield i =>
    obtain rfl : len = 3 := by simpa [m_okl] using ho
    simp only [m_ins] at hm
    split at hm
    · next a r =>
      split at hm
      · next ci k hf =>
        split at hm
        · next hq =>
          obtain ⟨ha, hk1, rfl, hkl⟩ := hq
          obtain ⟨hci, hw⟩ := mt_fldw hf
          obtain ⟨hcl, hn, hcn⟩ := mt_cls _ hci
          obtain ⟨ty1, ty2, ty3⟩ := mt_tyk hci hkl
          have hws := mt_w_at (E := E) ha
          simp only [mt_c, hk1, if_true] at hws
          have hv := mt_fs_at (E := E) (rf := (h.1 a).2.2) (s := h.2.1 a) hkl
          have G : ∀ v, mt_f E (m_ty (h.1 a).2.1 k) ((h.1 a).2.2 k) (h.2.1 a k) = v → W p l e R s mid args below meth c H locs cells slots Q (F0 mid (pc + 3) lsR (v :: r.map (mt_v E))) → W p l e R s mid args below meth c H locs cells slots Q (F0 mid pc lsR (.ref (E.1 + a) :: r.map (mt_v E))) := fun v hv2 kk =>
            va_get (ref := (m_cl3 (h.1 a).2.1).1) hx hb hts (mt_layw hci) hown hK hP a hws hcl k (by rw [hn]; exact hkl) (hts _ (mt_tbl hw)) (fun x hx9 => by rw [ty3, ← hcn] at hx9; exact hx9) (v := v) (by rw [hv, hv2]) hd kk
          split at hm
          · next h2 =>
            unfold m_go at hm; cases hm
            exact G _ (by rw [mt_f, if_pos h2]; rfl) (K cells slots lsR H locs rfl rfl hL ⟨hP, hD⟩ hS)
          · next h2 =>
            split at hm
            · next h3 =>
              unfold m_go at hm; cases hm
              exact G _ (by rw [mt_f, if_neg h2, if_pos h3]; rfl) (K cells slots lsR H locs rfl rfl hL ⟨hP, hD⟩ hS)
            · next h3 =>
              unfold m_go at hm; cases hm
              exact G _ (by rw [mt_f, if_neg h2, if_neg h3]; rfl) (K cells slots lsR H locs rfl rfl hL ⟨hP, hD⟩ hS)
        · cases hm
      · cases hm
    · cases hm
  case putfield i =>
    obtain rfl : len = 3 := by simpa [m_okl] using ho
    simp only [m_ins] at hm
    split at hm
    · next v a r =>
      split at hm
      · next ci k hf =>
        split at hm
        · next hq =>
          obtain ⟨ha, hk1, rfl, hkl⟩ := hq
          obtain ⟨hci, hw⟩ := mt_fldw hf
          obtain ⟨hcl, hn, hcn⟩ := mt_cls _ hci
          obtain ⟨ty1, ty2, ty3⟩ := mt_tyk hci hkl
          have hws := mt_w_at (E := E) ha
          simp only [mt_c, hk1, if_true] at hws
          have hsame : ∀ x, s.fieldFound? ((m_cl3 (h.1 a).2.1).2.1 k).1 ((m_cl3 (h.1 a).2.1).2.1 k).2.1 ((m_cl3 (h.1 a).2.1).2.1 k).2.2.1 = some x → s.fieldFound? (m_cl3 (h.1 a).2.1).1 ((m_cl3 (h.1 a).2.1).2.1 k).2.1 ((m_cl3 (h.1 a).2.1).2.1 k).2.2.1 = some x := fun x hx9 => by rw [ty3, ← hcn] at hx9; exact hx9
          have hkl2 : k < (m_cl3 (h.1 a).2.1).2.2 := by rw [hn]; exact hkl
          have hlen : k < (mt_fs E (h.1 a).2.1 (h.1 a).2.2 (h.2.1 a)).length := by rw [mt_fs_len]; exact hkl
          split at hm
          · next h2 =>
            split at hm
            · next hq2 =>
              obtain ⟨hv2, hin2, hcls, hlt⟩ := hq2
              unfold m_go at hm; cases hm
              obtain ⟨vt, vx⟩ := v
              dsimp only at hv2
              subst hv2
              have hfin : ((m_cl3 (h.1 a).2.1).2.1 k).2.2.2 = true := by rw [ty2, h2]; rfl
              have hnar : narrow (m_tyF (h.1 a).2.1 k) (va_rf (mt_rf E vx)) = va_rf (mt_rf E vx) ∧ fits (m_tyF (h.1 a).2.1 k) (va_rf (mt_rf E vx)) = true := by
                rw [h2] at ty1
                generalize m_tyF (h.1 a).2.1 k = t at ty1 ⊢
                cases t <;> first | (cases ty1; done) | (cases vx <;> exact ⟨rfl, rfl⟩)
              show W p l e R s mid args below meth c H locs cells slots Q (F0 mid pc lsR (va_rf (mt_rf E vx) :: .ref (E.1 + a) :: r.map (mt_v E)))
              refine va_putF (ref := (m_cl3 (h.1 a).2.1).1) hx hb hts (mt_layw hci) (m_tyF (h.1 a).2.1) (mt_tyok _ hci) (mt_nmok _ hci) hown hK hP hD hS a hws hcl k hkl2 (hts _ (mt_tbl hw)) hsame hfin (hnm hin2) (ty3.trans (by rw [hcls])) (mt_tyok _ hci k hkl2) hnar.1 hnar.2 hlen hd (fun H1 locs1 hP1 hD1 hS1 => ?_)
              have e1 : (mt_w E h).set a (E.1 + a, .inr ((h.1 a).2.1, (mt_fs E (h.1 a).2.1 (h.1 a).2.2 (h.2.1 a)).set k (va_rf (mt_rf E vx)))) = mt_w E (m_up h.1 a (1, (h.1 a).2.1, m_up (h.1 a).2.2 k vx), h.2) :=
                mt_w_setK (by
                  rw [mt_fs_set (rf' := m_up (h.1 a).2.2 k vx) (s' := h.2.1 a) (by simp [mt_f, h2, m_up]) (fun j hj => ⟨by simp [m_up, hj], rfl⟩)]
                  simp [mt_c])
              rw [e1] at hP1 hD1
              exact K cells slots lsR H1 locs1 rfl rfl hL ⟨hP1, hD1⟩ hS1
            · cases hm
          · next h2 =>
            have hfin : ((m_cl3 (h.1 a).2.1).2.1 k).2.2.2 = false := by rw [ty2]; exact beq_eq_false_iff_ne.mpr h2
            have G : ∀ (x : Int) (v : Value), mt_f E (m_ty (h.1 a).2.1 k) ((h.1 a).2.2 k) x = v → narrow (m_tyF (h.1 a).2.1 k) v = v → fits (m_tyF (h.1 a).2.1 k) v = true → (∀ (H1 : Heap) (locs1 : List Loc), mt_R E (h.1, m_up2 h.2.1 a k x, h.2.2) H1 → va_S (mt_A E) s.heap H1 locs1 → W p l e R s mid args below meth c H1 locs1 cells slots Q (F0 mid (pc + 3) lsR (r.map (mt_v E)))) → W p l e R s mid args below meth c H locs cells slots Q (F0 mid pc lsR (v :: .ref (E.1 + a) :: r.map (mt_v E))) := by
              intro x v hv hn1 hn2 kk
              refine va_put (ref := (m_cl3 (h.1 a).2.1).1) hx hb hts (mt_layw hci) (m_tyF (h.1 a).2.1) (mt_tyok _ hci) (mt_nmok _ hci) hown hK hP hD hS a hws hcl k hkl2 (hts _ (mt_tbl hw)) hsame hfin (mt_tyok _ hci k hkl2) hn1 hn2 hlen hd (fun H1 locs1 hP1 hD1 hS1 => ?_)
              have e1 : (mt_w E h).set a (E.1 + a, .inr ((h.1 a).2.1, (mt_fs E (h.1 a).2.1 (h.1 a).2.2 (h.2.1 a)).set k v)) = mt_w E (h.1, m_up2 h.2.1 a k x, h.2.2) :=
                mt_w_set2 (by
                  rw [mt_fs_set (rf' := (h.1 a).2.2) (s' := m_up (h.2.1 a) k x) (by rw [← hv]; simp [m_up]) (fun j hj => ⟨rfl, by simp [m_up, hj]⟩)]
                  simp [mt_c, hk1])
              rw [e1] at hP1 hD1
              exact kk H1 locs1 ⟨hP1, hD1⟩ hS1
            split at hm
            · next h3 =>
              split at hm
              · next hv1 =>
                unfold m_go at hm; cases hm
                obtain ⟨vt, vx⟩ := v
                dsimp only at hv1
                subst hv1
                rw [h3] at ty1
                exact G vx _ (by rw [mt_f, if_neg h2, if_pos h3]; rfl) (by rw [m_tyc_l ty1]; rfl) (by rw [m_tyc_l ty1]; rfl) (fun H1 locs1 hR1 hS1 => K cells slots lsR H1 locs1 rfl rfl hL hR1 hS1)
              · cases hm
            · next h3 =>
              split at hm
              · next hv0 =>
                obtain ⟨hv0, hty⟩ := hv0
                unfold m_go at hm; cases hm
                obtain ⟨vt, vx⟩ := v
                dsimp only at hv0 hty
                subst hv0
                have hnar : narrow (m_tyF (h.1 a).2.1 k) (.int (Int32.ofInt vx)) = .int (Int32.ofInt vx) ∧ fits (m_tyF (h.1 a).2.1 k) (.int (Int32.ofInt vx)) = true := by
                  rcases hty with hty | ⟨hty, hbb⟩
                  · rw [hty] at ty1; rw [m_tyc_i ty1]; exact ⟨rfl, rfl⟩
                  · rw [hty] at ty1; rw [m_tyc_z ty1]
                    rcases mt_bool hbb with q | q <;> rw [q] <;> exact ⟨by decide, by decide⟩
                exact G vx _ (by rw [mt_f, if_neg h2, if_neg h3]; rfl) hnar.1 hnar.2 (fun H1 locs1 hR1 hS1 => K cells slots lsR H1 locs1 rfl rfl hL hR1 hS1)
              · cases hm
        · cases hm
      · cases hm
    · cases hm
  case new i =>
    obtain rfl : len = 3 := by simpa [m_okl] using ho
    simp only [m_ins] at hm
    split at hm
    · next ci hci0 =>
      split at hm
      · next hq =>
        obtain ⟨he0, hci⟩ := hq
        unfold m_go at hm; cases hm
        obtain ⟨hcl, hn, hcn⟩ := mt_cls _ hci
        have hcw := mt_clw hci0
        rw [← hcn] at hcw
        have hini := mw_in (mw_iniA ci (by omega))
        rw [← hcn] at hini
        simp only [mt_n, m_newc] at hc1 hc2
        refine va_new hx hb hts (mt_layw hci) (m_tyF ci) (mt_tyok _ hci) hown (hts _ (mt_tbl hcw)) (hts _ (mt_tbl (mw_in (mw_istA ci hci)))) (hts _ (mt_tbl hini)) hK hP hD hS hA hcl (fs := mt_fs E ci (fun _ => -1) (fun _ => 0)) (fun j hj => ?_) (by omega) (by rw [hn]; omega) hd (fun q H1 hP1 hD1 hS1 => ?_)
        · rw [hn] at hj
          rw [mt_dv hci hj E]
          simp [vp_V, mt_fs, hj]
        · refine mt_size (fun hz1 => ?_)
          have hz0 := hz he0
          have hq := mt_new_at hP1 hD1 (by omega)
          subst hq
          have e1 : mt_w E h ++ [(E.1 + h.2.2.1, .inr (ci, mt_fs E ci (fun _ => -1) (fun _ => 0)))] = mt_w E (m_newc (1, ci, fun _ => -1) (m_tys ci).length h) := mt_w_push (by simp [mt_c])
          rw [e1] at hP1 hD1
          have K' := K (cells + 1) (slots + (m_cl3 ci).2.2) lsR H1 locs (by simp only [mt_n, m_newc]; omega) (by simp only [m_newc]; omega) hL ⟨hP1, hD1⟩ hS1
          exact K'
      · cases hm
    · cases hm
  case newarray t =>
    obtain rfl : len = 2 := by simpa [m_okl] using ho
    simp only [m_ins] at hm
    split at hm
    · next n r =>
      split at hm
      · next hq =>
        obtain ⟨he0, hn0, hn1⟩ := hq
        split at hm
        · unfold m_go at hm; cases hm
          simp only [mt_n, m_newc] at hc1 hc2
          refine va_newa (atype := .int) (ty := .int) (N' := (w32 n).toNat) (a0 := ((w32 n).toNat, .inl (fun _ => Int32.ofInt 0))) hx hb (hts _ (mt_tbl mw_arr0)) rfl hK hP hD hS hA (fun _ => rfl) (by rw [mt_lt0]; omega) (mt_cl n) (by simp only [componentBytes]; omega) (by omega) (by omega) hd (fun q cA H1 hK1 hP1 hD1 hS1 => ?_)
          refine mt_size (fun hz1 => ?_)
          have hz0 := hz he0
          have hq := mt_new_at hP1 hD1 (by omega)
          subst hq
          have hcA := mt_arr0 hK hK1
          subst hcA
          have e1 : mt_w E h ++ [(E.1 + h.2.2.1, .inl (E.2.2.2.1.1, (w32 n).toNat, .inl (fun _ => Int32.ofInt 0)))] = mt_w E (m_newc (2, (w32 n).toNat, fun _ => -1) (w32 n).toNat h) := mt_w_push (by simp [mt_c])
          rw [e1] at hP1 hD1
          exact K (cells + 1) (slots + (w32 n).toNat) lsR H1 locs (by simp only [mt_n, m_newc]; omega) (by simp only [m_newc]; omega) hL ⟨hP1, hD1⟩ hS1
        · cases hm
      · cases hm
    · cases hm
  case anewarray i =>
    obtain rfl : len = 3 := by simpa [m_okl] using ho
    simp only [m_ins] at hm
    split at hm
    · next n r =>
      split at hm
      · next hq =>
        obtain ⟨he0, hn0, hn1, hcl6, rfl⟩ := hq
        unfold m_go at hm; cases hm
        simp only [mt_n, m_newc] at hc1 hc2
        have hcw : Cond.classLink (m_cn (m_cls m)) 9 RX1 ∈ lw_tbl ∧ goodWord (Cond.classLink (m_cn (m_cls m)) 9 RX1) = true := by rw [hcl6]; exact mt_clw (cl := 6) (i := 9) (ci := 1) (by decide +kernel)
        refine va_newq (C := RX1) (N' := (w32 n).toNat) hx hb hown (hts _ (mt_tbl hcw)) hAO hK hP hD hS hA (by rw [mt_lt0]; omega) (mt_cl n) (by omega) (by omega) (by omega) hd (fun q cA H1 hK1 hP1 hD1 hS1 => ?_)
        refine mt_size (fun hz1 => ?_)
        have hz0 := hz he0
        have hq := mt_new_at hP1 hD1 (by omega)
        subst hq
        have hcA := mt_arr2 hK hK1
        subst hcA
        have e1 : mt_w E h ++ [(E.1 + h.2.2.1, .inl (E.2.2.2.1.2.2, (w32 n).toNat, .inr (.inr (.inr (.inr (fun _ => none))))))] = mt_w E (m_newc (4, (w32 n).toNat, fun _ => -1) (w32 n).toNat h) := mt_w_push (by simp [mt_c, mt_rfn])
        rw [e1] at hP1 hD1
        exact K (cells + 1) (slots + (w32 n).toNat) lsR H1 locs (by simp only [mt_n, m_newc]; omega) (by simp only [m_newc]; omega) hL ⟨hP1, hD1⟩ hS1
      · cases hm
    · cases hm
  case arraylength =>
    obtain rfl : len = 1 := by simpa [m_okl] using ho
    simp only [m_ins] at hm
    split at hm
    · next a r =>
      split at hm
      · next hq =>
        obtain ⟨ha, hk⟩ := hq
        unfold m_go at hm; cases hm
        have hws := mt_w_at (E := E) ha
        rcases hk with hk | hk <;> simp only [mt_c, hk] at hws
        · exact va_alen hx hb hK hP a 0 hws rfl (mt_on _) hd (K cells slots lsR H locs rfl rfl hL ⟨hP, hD⟩ hS)
        · exact va_alen hx hb hK hP a 1 hws rfl (mt_on _) hd (K cells slots lsR H locs rfl rfl hL ⟨hP, hD⟩ hS)
      · cases hm
    · next r =>
      unfold m_go at hm; cases hm
      have K' := K cells slots lsR H locs rfl rfl hL ⟨hP, hD⟩ hS
      simp only [List.map_cons, mt_v, ← mt_on] at K' ⊢
      exact va_slen hx hb hX hbs hbA hS hd K'
    · cases hm
  case iaload =>
    obtain rfl : len = 1 := by simpa [m_okl] using ho
    simp only [m_ins] at hm
    split at hm
    · next i a r =>
      split at hm
      · next hq =>
        obtain ⟨ha, hk, h0, h1⟩ := hq
        unfold m_go at hm; cases hm
        have hws := mt_w_at (E := E) ha
        simp only [mt_c, hk] at hws
        have K' := K cells slots lsR H locs rfl rfl hL ⟨hP, hD⟩ hS
        rw [← mt_cl] at K'
        exact va_iald hx hb hK hP a 0 hws rfl (mt_in h0 h1) hd K'
      · cases hm
    · next i r =>
      split at hm
      · next hq =>
        obtain ⟨h0, h1⟩ := hq
        unfold m_go at hm; cases hm
        have K' := K cells slots lsR H locs rfl rfl hL ⟨hP, hD⟩ hS
        simp only [List.map_cons, mt_v, mt_back] at K' ⊢
        rw [← mt_cl] at K'
        exact va_sld hx hb hX hbs hbA hS (mt_in h0 h1) hd K'
      · cases hm
    · cases hm
  case aaload =>
    obtain rfl : len = 1 := by simpa [m_okl] using ho
    simp only [m_ins] at hm
    split at hm
    · next i a r =>
      split at hm
      · next hq =>
        obtain ⟨ha, hk, h0, h1⟩ := hq
        unfold m_go at hm; cases hm
        have hws := mt_w_at (E := E) ha
        simp only [mt_c, hk] at hws
        have K' := K cells slots lsR H locs rfl rfl hL ⟨hP, hD⟩ hS
        rw [← mt_cl] at K'
        exact va_aldq hx hb hK hP a 1 hws rfl (mt_in h0 h1) hd K'
      · cases hm
    · cases hm
  case iastore =>
    obtain rfl : len = 1 := by simpa [m_okl] using ho
    simp only [m_ins] at hm
    split at hm
    · next v i a r =>
      split at hm
      · next hq =>
        obtain ⟨ha, hk, h0, h1⟩ := hq
        unfold m_go at hm; cases hm
        have hws := mt_w_at (E := E) ha
        simp only [mt_c, hk] at hws
        refine va_iast hx hb hK hP hD hS a 0 hws rfl (mt_in h0 h1) hd (fun H1 locs1 hP1 hD1 hS1 => ?_)
        rw [mt_w_set2 (k := (w32 i).toNat) (v := v) (by simp only [mt_c, hk]; rw [mt_cl, mt_updi]; rfl)] at hP1 hD1
        exact K cells slots lsR H1 locs1 rfl rfl hL ⟨hP1, hD1⟩ hS1
      · cases hm
    · cases hm
  case aastore =>
    obtain rfl : len = 1 := by simpa [m_okl] using ho
    simp only [m_ins] at hm
    split at hm
    · next v i a r =>
      split at hm
      · next hq =>
        obtain ⟨ha, hk, h0, h1, hv, hkv, hkc⟩ := hq
        unfold m_go at hm; cases hm
        have hws := mt_w_at (E := E) ha
        simp only [mt_c, hk] at hws
        have hwv := mt_w_at (E := E) hv
        simp only [mt_c, hkv, hkc, if_true] at hwv
        refine va_astq hx hb hK hP hD hS a 1 v 1 (r := (RX1, TX1, 11)) hws rfl hwv rfl (mt_in h0 h1) hd (fun H1 locs1 hP1 hD1 hS1 => ?_)
        rw [mt_w_setK (K := (4, (h.1 a).2.1, m_up (h.1 a).2.2 (w32 i).toNat v)) (by simp only [mt_c]; rw [mt_cl, mt_updq]; rfl)] at hP1 hD1
        exact K cells slots lsR H1 locs1 rfl rfl hL ⟨hP1, hD1⟩ hS1
      · cases hm
    · cases hm
  case invokevirtual i =>
    obtain rfl : len = 3 := by simpa [m_okl] using ho
    simp only [m_ins] at hm
    split at hm
    · exact absurd hm m_call_ni
    · cases hm
  case invokespecial i =>
    obtain rfl : len = 3 := by simpa [m_okl] using ho
    simp only [m_ins] at hm
    split at hm
    · next m' np hmt =>
      split at hm
      · next h7 =>
        subst h7
        split at hm
        · next a r =>
          split at hm
          · next hq =>
            unfold m_go at hm; cases hm
            have hrk := m_rok_of hq.1
            refine W.objInit hx hb hown (hts _ (mt_tbl (mt_metw hmt (by decide) (by decide)).1)) (hts _ (mt_tbl mw_obi1)) (hts _ (mt_tbl mw_obi2)) rfl (by rw [hml]; exact hL.1) rfl hd (by have := hrk.1; omega) (mt_rm1 hq.2 (by have := hrk.2; rw [show m_rom 1007 = (0, 0, 1) from rfl] at this; dsimp only at this; omega)) (K cells slots lsR H locs rfl rfl hL ⟨hP, hD⟩ hS)
          · cases hm
        · cases hm
      · exact absurd hm m_call_ni
    · cases hm
  case invokestatic i =>
    obtain rfl : len = 3 := by simpa [m_okl] using ho
    simp only [m_ins] at hm
    split at hm
    · next m' np hmt =>
      split at hm
      · next h7 =>
        subst h7
        split at hm
        · next b a r =>
          split at hm
          · next hq =>
            unfold m_go at hm; cases hm
            have hrk := m_rok_of hq.1
            have K' := K cells slots lsR H locs rfl rfl hL ⟨hP, hD⟩ hS
            simp only [List.map_cons, mt_v] at K' ⊢
            refine va_mmax hx hb (by rw [hml]; exact hL.1.symm) hown (hts _ (mt_tbl (mt_metw hmt (by decide) (by decide)).1)) (hts _ (mt_tbl mw_max1)) (hts _ (mt_tbl mw_max2)) (hts _ (mt_tbl mw_max3)) (by have := hrk.1; omega) (by have := mt_sum8 (E := E) hq.2; have h9 := hrk.2; rw [show m_rom 1003 = (0, 0, 3) from rfl] at h9; dsimp only at h9; omega) hc3.1 hc3.2 hd ?_
            rw [mt_ite (mt_lt a b)]
            exact K'
          · cases hm
        · cases hm
      · split at hm
        · next h7 =>
          subst h7
          split at hm
          · next b a r =>
            split at hm
            · next hq =>
              unfold m_go at hm; cases hm
              have hrk := m_rok_of hq.1
              have K' := K cells slots lsR H locs rfl rfl hL ⟨hP, hD⟩ hS
              simp only [List.map_cons, mt_v] at K' ⊢
              refine va_mmin hx hb (by rw [hml]; exact hL.1.symm) hown (hts _ (mt_tbl (mt_metw hmt (by decide) (by decide)).1)) (hts _ (mt_tbl mw_min1)) (hts _ (mt_tbl mw_max2)) (hts _ (mt_tbl mw_min3)) (by have := hrk.1; omega) (by have := mt_sum8 (E := E) hq.2; have h9 := hrk.2; rw [show m_rom 1004 = (0, 0, 3) from rfl] at h9; dsimp only at h9; omega) hc3.1 hc3.2 hd ?_
              rw [mt_ite (mt_lt b a)]
              exact K'
            · cases hm
          · cases hm
        · exact absurd hm m_call_ni
    · cases hm
  all_goals (simp only [m_ins] at hm; cases hm)
end MTS
