section
/-! String.length, String.charAt. -/
theorem mj_coC : Cond.code yJ0_coder_7d493 cJ0_coder_7d493 1 (some .byte) ∈ lw_tbl ∧ goodWord (Cond.code yJ0_coder_7d493 cJ0_coder_7d493 1 (some .byte)) = true := mw_in (p := (2, 208)) (by decide +kernel)
theorem mj_laC : Cond.code yJ0_isLatin1_aae02 cJ0_isLatin1_aae02 1 (some .boolean) ∈ lw_tbl ∧ goodWord (Cond.code yJ0_isLatin1_aae02 cJ0_isLatin1_aae02 1 (some .boolean)) = true := mw_in (p := (2, 218)) (by decide +kernel)
theorem mj_ciC : Cond.code yJ0_checkIndex_df160 cJ0_checkIndex_df160 2 (none) ∈ lw_tbl ∧ goodWord (Cond.code yJ0_checkIndex_df160 cJ0_checkIndex_df160 2 (none)) = true := mw_in (p := (2, 224)) (by decide +kernel)
theorem mj_lcC : Cond.code yJ1_charAt_3b067 cJ1_charAt_3b067 2 (some .char) ∈ lw_tbl ∧ goodWord (Cond.code yJ1_charAt_3b067 cJ1_charAt_3b067 2 (some .char)) = true := mw_in (p := (2, 221)) (by decide +kernel)
theorem mj_pcC : Cond.code yJ3_checkIndex_8e157 cJ3_checkIndex_8e157 3 (some .int) ∈ lw_tbl ∧ goodWord (Cond.code yJ3_checkIndex_8e157 cJ3_checkIndex_8e157 3 (some .int)) = true := mw_in (p := (2, 229)) (by decide +kernel)
theorem mj_coI : Cond.instanceMethod yJ0_coder_7d493 ∈ lw_tbl ∧ goodWord (Cond.instanceMethod yJ0_coder_7d493) = true := mw_in (p := (2, 206)) (by decide +kernel)
theorem mj_coS : Cond.selects RJ0 yJ0_coder_7d493 yJ0_coder_7d493 ∈ lw_tbl ∧ goodWord (Cond.selects RJ0 yJ0_coder_7d493 yJ0_coder_7d493) = true := mw_in (p := (2, 207)) (by decide +kernel)
theorem mj_laI : Cond.instanceMethod yJ0_isLatin1_aae02 ∈ lw_tbl ∧ goodWord (Cond.instanceMethod yJ0_isLatin1_aae02) = true := mw_in (p := (2, 216)) (by decide +kernel)
theorem mj_laS : Cond.selects RJ0 yJ0_isLatin1_aae02 yJ0_isLatin1_aae02 ∈ lw_tbl ∧ goodWord (Cond.selects RJ0 yJ0_isLatin1_aae02 yJ0_isLatin1_aae02) = true := mw_in (p := (2, 217)) (by decide +kernel)
theorem mj_ciS : Cond.static yJ0_checkIndex_df160 ∈ lw_tbl ∧ goodWord (Cond.static yJ0_checkIndex_df160) = true := mw_in (p := (2, 223)) (by decide +kernel)
theorem mj_lcS : Cond.static yJ1_charAt_3b067 ∈ lw_tbl ∧ goodWord (Cond.static yJ1_charAt_3b067) = true := mw_in (p := (2, 220)) (by decide +kernel)
theorem mj_pcS : Cond.static yJ3_checkIndex_8e157 ∈ lw_tbl ∧ goodWord (Cond.static yJ3_checkIndex_8e157) = true := mw_in (p := (2, 228)) (by decide +kernel)
theorem mj_coL : Cond.methodLink RJ0 335 yJ0_coder_7d493 ∈ lw_tbl ∧ goodWord (Cond.methodLink RJ0 335 yJ0_coder_7d493) = true := mw_in (p := (2, 205)) (by decide +kernel)
theorem mj_laL : Cond.methodLink RJ0 492 yJ0_isLatin1_aae02 ∈ lw_tbl ∧ goodWord (Cond.methodLink RJ0 492 yJ0_isLatin1_aae02) = true := mw_in (p := (2, 215)) (by decide +kernel)
theorem mj_ciL : Cond.methodLink RJ1 9 yJ0_checkIndex_df160 ∈ lw_tbl ∧ goodWord (Cond.methodLink RJ1 9 yJ0_checkIndex_df160) = true := mw_in (p := (2, 222)) (by decide +kernel)
theorem mj_lcL : Cond.methodLink RJ0 495 yJ1_charAt_3b067 ∈ lw_tbl ∧ goodWord (Cond.methodLink RJ0 495 yJ1_charAt_3b067) = true := mw_in (p := (2, 219)) (by decide +kernel)
theorem mj_pcL : Cond.methodLink RJ0 1059 yJ3_checkIndex_8e157 ∈ lw_tbl ∧ goodWord (Cond.methodLink RJ0 1059 yJ3_checkIndex_8e157) = true := mw_in (p := (2, 227)) (by decide +kernel)
theorem mj_fv : Cond.fieldLink RJ0 9 "java/lang/String" "value" "[B" ∈ lw_tbl ∧ goodWord (Cond.fieldLink RJ0 9 "java/lang/String" "value" "[B") = true := mw_in (p := (7, 202)) (by decide +kernel)
theorem mj_fc : Cond.fieldLink RJ0 15 "java/lang/String" "coder" "B" ∈ lw_tbl ∧ goodWord (Cond.fieldLink RJ0 15 "java/lang/String" "coder" "B") = true := mw_in (p := (7, 203)) (by decide +kernel)
theorem mj_fz : Cond.fieldLink RJ0 38 "java/lang/String" "COMPACT_STRINGS" "Z" ∈ lw_tbl ∧ goodWord (Cond.fieldLink RJ0 38 "java/lang/String" "COMPACT_STRINGS" "Z") = true := mw_in (p := (2, 209)) (by decide +kernel)
theorem mj_ff : Cond.fieldLink RJ0 1053 "jdk/internal/util/Preconditions" "SIOOBE_FORMATTER" "Ljava/util/function/BiFunction;" ∈ lw_tbl ∧ goodWord (Cond.fieldLink RJ0 1053 "jdk/internal/util/Preconditions" "SIOOBE_FORMATTER" "Ljava/util/function/BiFunction;") = true := mw_in (p := (2, 225)) (by decide +kernel)
theorem mj_i0 : Cond.initialized RJ0 ∈ lw_tbl ∧ goodWord (Cond.initialized RJ0) = true := mw_in (p := (1, 16)) (by decide +kernel)
theorem mj_i1 : Cond.initialized RJ1 ∈ lw_tbl ∧ goodWord (Cond.initialized RJ1) = true := mw_in (p := (1, 17)) (by decide +kernel)
theorem mj_i3 : Cond.initialized RJ3 ∈ lw_tbl ∧ goodWord (Cond.initialized RJ3) = true := mw_in (p := (1, 18)) (by decide +kernel)
theorem dj_co_0 : decode cJ0_coder_7d493 0 = .ok (.getstatic 38, 3) := by decide +kernel
theorem dj_co_3 : decode cJ0_coder_7d493 3 = .ok (.ifCond .eq 10, 3) := by decide +kernel
theorem dj_co_6 : decode cJ0_coder_7d493 6 = .ok (.aload_n 0, 1) := by decide +kernel
theorem dj_co_7 : decode cJ0_coder_7d493 7 = .ok (.getfield 15, 3) := by decide +kernel
theorem dj_co_10 : decode cJ0_coder_7d493 10 = .ok (.goto 4, 3) := by decide +kernel
theorem dj_co_13 : decode cJ0_coder_7d493 13 = .ok (.iconst 1, 1) := by decide +kernel
theorem dj_co_14 : decode cJ0_coder_7d493 14 = .ok (.ireturn, 1) := by decide +kernel
theorem dj_la_0 : decode cJ0_isLatin1_aae02 0 = .ok (.getstatic 38, 3) := by decide +kernel
theorem dj_la_3 : decode cJ0_isLatin1_aae02 3 = .ok (.ifCond .eq 14, 3) := by decide +kernel
theorem dj_la_6 : decode cJ0_isLatin1_aae02 6 = .ok (.aload_n 0, 1) := by decide +kernel
theorem dj_la_7 : decode cJ0_isLatin1_aae02 7 = .ok (.getfield 15, 3) := by decide +kernel
theorem dj_la_10 : decode cJ0_isLatin1_aae02 10 = .ok (.ifCond .ne 7, 3) := by decide +kernel
theorem dj_la_13 : decode cJ0_isLatin1_aae02 13 = .ok (.iconst 1, 1) := by decide +kernel
theorem dj_la_14 : decode cJ0_isLatin1_aae02 14 = .ok (.goto 4, 3) := by decide +kernel
theorem dj_la_17 : decode cJ0_isLatin1_aae02 17 = .ok (.iconst 0, 1) := by decide +kernel
theorem dj_la_18 : decode cJ0_isLatin1_aae02 18 = .ok (.ireturn, 1) := by decide +kernel
theorem dj_ci_0 : decode cJ0_checkIndex_df160 0 = .ok (.iload_n 0, 1) := by decide +kernel
theorem dj_ci_1 : decode cJ0_checkIndex_df160 1 = .ok (.iload_n 1, 1) := by decide +kernel
theorem dj_ci_2 : decode cJ0_checkIndex_df160 2 = .ok (.getstatic 1053, 3) := by decide +kernel
theorem dj_ci_5 : decode cJ0_checkIndex_df160 5 = .ok (.invokestatic 1059, 3) := by decide +kernel
theorem dj_ci_8 : decode cJ0_checkIndex_df160 8 = .ok (.pop, 1) := by decide +kernel
theorem dj_ci_9 : decode cJ0_checkIndex_df160 9 = .ok (.return_, 1) := by decide +kernel
theorem dj_lc_0 : decode cJ1_charAt_3b067 0 = .ok (.iload_n 1, 1) := by decide +kernel
theorem dj_lc_1 : decode cJ1_charAt_3b067 1 = .ok (.aload_n 0, 1) := by decide +kernel
theorem dj_lc_2 : decode cJ1_charAt_3b067 2 = .ok (.arraylength, 1) := by decide +kernel
theorem dj_lc_3 : decode cJ1_charAt_3b067 3 = .ok (.invokestatic 9, 3) := by decide +kernel
theorem dj_lc_6 : decode cJ1_charAt_3b067 6 = .ok (.aload_n 0, 1) := by decide +kernel
theorem dj_lc_7 : decode cJ1_charAt_3b067 7 = .ok (.iload_n 1, 1) := by decide +kernel
theorem dj_lc_8 : decode cJ1_charAt_3b067 8 = .ok (.baload, 1) := by decide +kernel
theorem dj_lc_9 : decode cJ1_charAt_3b067 9 = .ok (.sipush 255, 3) := by decide +kernel
theorem dj_lc_12 : decode cJ1_charAt_3b067 12 = .ok (.iand, 1) := by decide +kernel
theorem dj_lc_13 : decode cJ1_charAt_3b067 13 = .ok (.i2c, 1) := by decide +kernel
theorem dj_lc_14 : decode cJ1_charAt_3b067 14 = .ok (.ireturn, 1) := by decide +kernel
theorem dj_pc_0 : decode cJ3_checkIndex_8e157 0 = .ok (.iload_n 0, 1) := by decide +kernel
theorem dj_pc_1 : decode cJ3_checkIndex_8e157 1 = .ok (.ifCond .lt 8, 3) := by decide +kernel
theorem dj_pc_4 : decode cJ3_checkIndex_8e157 4 = .ok (.iload_n 0, 1) := by decide +kernel
theorem dj_pc_5 : decode cJ3_checkIndex_8e157 5 = .ok (.iload_n 1, 1) := by decide +kernel
theorem dj_pc_6 : decode cJ3_checkIndex_8e157 6 = .ok (.if_icmp .lt 10, 3) := by decide +kernel
theorem dj_pc_9 : decode cJ3_checkIndex_8e157 9 = .ok (.aload_n 2, 1) := by decide +kernel
theorem dj_pc_10 : decode cJ3_checkIndex_8e157 10 = .ok (.iload_n 0, 1) := by decide +kernel
theorem dj_pc_11 : decode cJ3_checkIndex_8e157 11 = .ok (.iload_n 1, 1) := by decide +kernel
theorem dj_pc_12 : decode cJ3_checkIndex_8e157 12 = .ok (.invokestatic 95, 3) := by decide +kernel
theorem dj_pc_15 : decode cJ3_checkIndex_8e157 15 = .ok (.athrow, 1) := by decide +kernel
theorem dj_pc_16 : decode cJ3_checkIndex_8e157 16 = .ok (.iload_n 0, 1) := by decide +kernel
theorem dj_pc_17 : decode cJ3_checkIndex_8e157 17 = .ok (.ireturn, 1) := by decide +kernel
theorem dj_ln_0 : decode cJ0_length_8abf5 0 = .ok (.aload_n 0, 1) := by decide +kernel
theorem dj_ln_1 : decode cJ0_length_8abf5 1 = .ok (.getfield 9, 3) := by decide +kernel
theorem dj_ln_4 : decode cJ0_length_8abf5 4 = .ok (.arraylength, 1) := by decide +kernel
theorem dj_ln_5 : decode cJ0_length_8abf5 5 = .ok (.aload_n 0, 1) := by decide +kernel
theorem dj_ln_6 : decode cJ0_length_8abf5 6 = .ok (.invokevirtual 335, 3) := by decide +kernel
theorem dj_ln_9 : decode cJ0_length_8abf5 9 = .ok (.ishr, 1) := by decide +kernel
theorem dj_ln_10 : decode cJ0_length_8abf5 10 = .ok (.ireturn, 1) := by decide +kernel
theorem dj_ch_0 : decode cJ0_charAt_5068e 0 = .ok (.aload_n 0, 1) := by decide +kernel
theorem dj_ch_1 : decode cJ0_charAt_5068e 1 = .ok (.invokevirtual 492, 3) := by decide +kernel
theorem dj_ch_4 : decode cJ0_charAt_5068e 4 = .ok (.ifCond .eq 12, 3) := by decide +kernel
theorem dj_ch_7 : decode cJ0_charAt_5068e 7 = .ok (.aload_n 0, 1) := by decide +kernel
theorem dj_ch_8 : decode cJ0_charAt_5068e 8 = .ok (.getfield 9, 3) := by decide +kernel
theorem dj_ch_11 : decode cJ0_charAt_5068e 11 = .ok (.iload_n 1, 1) := by decide +kernel
theorem dj_ch_12 : decode cJ0_charAt_5068e 12 = .ok (.invokestatic 495, 3) := by decide +kernel
theorem dj_ch_15 : decode cJ0_charAt_5068e 15 = .ok (.ireturn, 1) := by decide +kernel
theorem dj_ch_16 : decode cJ0_charAt_5068e 16 = .ok (.aload_n 0, 1) := by decide +kernel
theorem dj_ch_17 : decode cJ0_charAt_5068e 17 = .ok (.getfield 9, 3) := by decide +kernel
theorem dj_ch_20 : decode cJ0_charAt_5068e 20 = .ok (.iload_n 1, 1) := by decide +kernel
theorem dj_ch_21 : decode cJ0_charAt_5068e 21 = .ok (.invokestatic 498, 3) := by decide +kernel
theorem dj_ch_24 : decode cJ0_charAt_5068e 24 = .ok (.ireturn, 1) := by decide +kernel
def mj_wc (cd : Cond) : List Cond := cd :: lw_tbl.filter goodWord
def mj_len : List Nat := [5, 5, 7, 6, 0]
def mj_byt : List (List Int32) := [[119, 35, 61, 35, 59], [118, 35, 61, 35, 59], [120, 35, 58, 35, 45, 35, 59], [35, 45, 35, 58, 35, 59], []]
def mj_B (E : mE) (o : Option (Nat × Nat)) (U : State) : Prop := match o with
  | none => True
  | some q => va_T .byte q.1 (mj_len.getD q.2 0) (fun j => .int ((mj_byt.getD q.2 []).getD j 0)) (mt_A E) U U.heap
theorem mj_B_next {E : mE} {o : Option (Nat × Nat)} {s U : State} {locs : List Loc} (h : mj_B E o s) (hS : va_S (mt_A E) s.heap U.heap locs) (hW : s.WarmedH U.vm) : mj_B E o U := by
  match o with
  | none => trivial
  | some q => exact va_T.moved hW.alike (va_T.kept h hS.2.1)
def mj_Pc (E : mE) (Z : mZ) (o : Option (Nat × Nat)) (as : List Value) : Array Value → State → Prop := va_Pc as (fun U => mt_K E Z U ∧ mj_B E o U)
def mj_Qc (v : Option Value) : Array Value → State → Outcome → State → Prop := fun _ st o t => o = .returned v ∧ t.heap = st.heap
def mj_rm (fr lo : Nat) : Room := { frames := fr, locals := lo, cells := 0, slots := 0 }
/-- a method of the JDK that changes nothing -/
def mj_ok (E : mE) (Z : mZ) (l : Launch) (o : Option (Nat × Nat)) (y : MethodName) (cd : Cond) (fr lo : Nat) (as : List Value) (v : Option Value) : Prop := Met l y (mj_wc cd) (mj_rm fr lo) (mj_Pc E Z o as) (mj_Qc v) 0 0 (fun _ => False)
theorem mj_blind {E : mE} {Z : mZ} {o : Option (Nat × Nat)} {as : List Value} : FrameBlind (mj_Pc E Z o as) := by
  intro a U g mk hP
  obtain ⟨h1, h2, h3⟩ := hP
  exact ⟨h1, mt_K_next (U := U.calling g mk a) h2 va_S.rf (State.WarmedH.refl U), mj_B_next (U := U.calling g mk a) h3 va_S.rf (State.WarmedH.refl U)⟩
theorem mj_pre {E : mE} {Z : mZ} {o : Option (Nat × Nat)} {as : List Value} {s : State} (hK : mt_K E Z s) (hB : mj_B E o s) : PreS s s.heap (mj_Pc E Z o as) as := ⟨mj_blind, fun U hU hW => ⟨rfl, mt_K_next (locs := []) hK (by rw [hU]; exact va_S.rf) hW, mj_B_next (locs := []) hB (by rw [hU]; exact va_S.rf) hW⟩⟩
theorem mj_r8 {mid : MethodId} {pc : Nat} {ls : Array Slot} {st rest : List Value} (h : ((rest).map fun v => v.category).sum ≤ 8) : 2 * (F0 mid pc ls st).monitorRoom + (rest.map fun v => v.category).sum ≤ 8 := by
  have h3 := lv_room (m := mid) (pc := pc) (ls := ls) (rest := st) h
  omega
theorem mj_good {cd w : Cond} (h : w ∈ lw_tbl ∧ goodWord w = true) : w ∈ mj_wc cd ∧ ((w.onTables && w.keeps) = true ∨ ∃ ty, w = .arrayClass ty) := ⟨List.mem_cons_of_mem _ (List.mem_filter.mpr h), good_of_word h.2⟩
theorem mj_goodC {cd cd' : Cond} (h : cd' ∈ lw_tbl ∧ goodWord cd' = true) : GoodIn (mj_wc cd) (mj_wc cd') := by
  intro w hw
  rcases List.mem_cons.mp hw with rfl | hw
  · exact mj_good h
  · exact mj_good (List.mem_filter.mp hw)
theorem mj_goodV {cd cd' : Cond} {own C : String} {i : Nat} {y : MethodName} (h : cd' ∈ lw_tbl ∧ goodWord cd' = true) (h1 : Cond.methodLink own i y ∈ lw_tbl ∧ goodWord (Cond.methodLink own i y) = true) (h2 : Cond.instanceMethod y ∈ lw_tbl ∧ goodWord (Cond.instanceMethod y) = true) (h3 : Cond.selects C y y ∈ lw_tbl ∧ goodWord (Cond.selects C y y) = true) (h4 : Cond.initialized C ∈ lw_tbl ∧ goodWord (Cond.initialized C) = true) : GoodIn (mj_wc cd) (wsV own i C y (mj_wc cd')) := by
  intro w hw
  unfold wsV at hw
  rcases List.mem_append.mp hw with hw | hw
  · simp only [List.mem_cons, List.not_mem_nil, or_false] at hw
    rcases hw with rfl | rfl | rfl | rfl
    · exact mj_good h1
    · exact mj_good h2
    · exact mj_good h3
    · exact mj_good h4
  · exact mj_goodC h w hw
theorem mj_goodS {cd cd' : Cond} {own : String} {i : Nat} {y : MethodName} (h : cd' ∈ lw_tbl ∧ goodWord cd' = true) (h1 : Cond.methodLink own i y ∈ lw_tbl ∧ goodWord (Cond.methodLink own i y) = true) (h2 : Cond.static y ∈ lw_tbl ∧ goodWord (Cond.static y) = true) (h4 : Cond.initialized y.cls ∈ lw_tbl ∧ goodWord (Cond.initialized y.cls) = true) : GoodIn (mj_wc cd) (va_wsS own i y (mj_wc cd')) := by
  intro w hw
  unfold va_wsS at hw
  rcases List.mem_append.mp hw with hw | hw
  · simp only [List.mem_cons, List.not_mem_nil, or_false] at hw
    rcases hw with rfl | rfl | rfl
    · exact mj_good h1
    · exact mj_good h2
    · exact mj_good h4
  · exact mj_goodC h w hw
section MJC
variable {p : Program} {l : Launch} {e : Env} {R : Room} {s : State} {mid : MethodId} {args : Array Value} {below : List Frame} {meth : Method} {c : Code} {H : Heap} {locs : List Loc} {cells slots : Nat} {Q : State → Prop}
theorem mj_call {v : Option Value} {pc : Nat} {lsR : Array Slot} {st0 rest : List Value} {a : Array Value} (hr : va_Run p l e R s mid args below meth c H locs cells slots 0 0 (F0 mid pc lsR st0) rest (mj_Qc v a) (fun _ => False)) (kk : W p l e R s mid args below meth c H locs cells slots Q (F0 mid (pc + 3) lsR (v.toList ++ rest))) : W p l e R s mid args below meth c H locs cells slots Q (F0 mid pc lsR st0) := by
  intro T hT X
  obtain ⟨v', st₀, t, T', L, h0, X', hL, e1, e2, ⟨hv, hh⟩, st⟩ := hr T hT X
  cases hv
  obtain ⟨t2, a1, b1⟩ := kk T' (by rw [e1, hh, h0]) (Stand.forget X' (fun q h => (hL q h).elim))
  exact ⟨t2, st t2 a1, b1⟩
end MJC
/-- what a body may lean on -/
theorem mj_of {E : mE} {Z : mZ} {l : Launch} {o : Option (Nat × Nat)} {y : MethodName} {cc : ByteArray} {maxL fr lo : Nat} {ret : Option FieldType} {as : List Value} {v : Option Value} (hy : plainName y.cls = true)
    (body : ∀ (p : Program) (e : Env) (s : State) (mid : MethodId) (below : List Frame) (meth : Method) (c : Code), CallFix p mid c cc maxL s as.toArray (mj_wc (.code y cc maxL ret)) y.cls → meth.locks = false → meth.sig.returnType = ret → mt_K E Z s → mj_B E o s →
      W p l e (mj_rm fr lo) s mid as.toArray below meth c s.heap [] 0 0 (MQ below (mj_Qc v) as.toArray s 0 0 (fun _ => False)) (F0 mid 0 ((lg_sl as ++ List.replicate (maxL - (lg_sl as).length) Slot.unset).toArray) [])) :
    mj_ok E Z l o y (.code y cc maxL ret) fr lo as v := by
  unfold mj_ok
  refine Met.ofW (ws' := lw_tbl.filter goodWord) (cc := cc) (maxL := maxL) (ret := ret) hy rfl ?_
  intro p e9 s mid args below meth c s₁ B hml hP
  obtain ⟨rfl, hK, hB⟩ := hP
  rw [lg_entry_eq]
  exact body p e9 s mid below meth c ⟨B.exec, B.bytes, hml, findClass_of_methodNamed B.named, fun w hw => atoms_spec (ws := mj_wc (.code y cc maxL ret)) B.pre _ hw⟩ B.notSynchronized B.returns hK hB
theorem mj_K {E : mE} {Z : mZ} {s : State} (hK : mt_K E Z s) : (∃ adV : Nat → Nat, vk_S 5 mj_len mj_byt E.2.2.1 adV (mt_A E) s s.heap) ∧ va_Z "java/lang/String" "COMPACT_STRINGS" "Z" (.int 1) (mt_A E) s s.heap ∧ va_Zq "jdk/internal/util/Preconditions" "SIOOBE_FORMATTER" "Ljava/util/function/BiFunction;" (mt_A E) s s.heap := by
  obtain ⟨-, -, -, ⟨hk, -, -, -, -, -, hz⟩, -, -, -, hf⟩ := hK.2
  exact ⟨hk, hz, hf⟩
theorem mj_co {E : mE} {Z : mZ} {l : Launch} {i : Nat} (hi : i < 5) : mj_ok E Z l none yJ0_coder_7d493 (.code yJ0_coder_7d493 cJ0_coder_7d493 1 (some .byte)) 1 20 [.ref (E.2.2.1 i)] (some (.int 0)) := by
  refine mj_of (by decide +kernel) ?_
  intro p e s mid below meth c ⟨hx, hb, hml, hown, hts⟩ hlk hr hK hB
  obtain ⟨⟨adV, hk⟩, hz, -⟩ := mj_K hK
  have hw : ∀ w, w ∈ lw_tbl ∧ goodWord w = true → w.before _ s = true := fun w h => hts w (mj_good h).1
  refine va_gets (own := RJ0) hx hb hz va_S.rf hown (hw _ mj_fz) (fun x h => h) dj_co_0 ?_
  refine lv_if_eq (tgt := 13) hx hb dj_co_3 (by decide) (fun q => absurd q (by decide)) (fun _ => ?_)
  refine lv_aload_n (i := 0) hx hb dj_co_6 rfl (x := E.2.2.1 i) rfl ?_
  refine vk_getf (own := RJ0) hx hb (hk.1 i hi).2.1 va_S.rf hown (hw _ mj_fc) (fun x h => h) dj_co_7 ?_
  refine lv_goto (tgt := 14) hx hb dj_co_10 (by decide) ?_
  exact W.zret (ty := .byte) hx hb hr rfl (fun t ht _ => ⟨rfl, ht⟩) (fun q h => nomatch h) dj_co_14 hlk
theorem mj_la {E : mE} {Z : mZ} {l : Launch} {i : Nat} (hi : i < 5) : mj_ok E Z l none yJ0_isLatin1_aae02 (.code yJ0_isLatin1_aae02 cJ0_isLatin1_aae02 1 (some .boolean)) 1 20 [.ref (E.2.2.1 i)] (some (.int 1)) := by
  refine mj_of (by decide +kernel) ?_
  intro p e s mid below meth c ⟨hx, hb, hml, hown, hts⟩ hlk hr hK hB
  obtain ⟨⟨adV, hk⟩, hz, -⟩ := mj_K hK
  have hw : ∀ w, w ∈ lw_tbl ∧ goodWord w = true → w.before _ s = true := fun w h => hts w (mj_good h).1
  refine va_gets (own := RJ0) hx hb hz va_S.rf hown (hw _ mj_fz) (fun x h => h) dj_la_0 ?_
  refine lv_if_eq (tgt := 17) hx hb dj_la_3 (by decide) (fun q => absurd q (by decide)) (fun _ => ?_)
  refine lv_aload_n (i := 0) hx hb dj_la_6 rfl (x := E.2.2.1 i) rfl ?_
  refine vk_getf (own := RJ0) hx hb (hk.1 i hi).2.1 va_S.rf hown (hw _ mj_fc) (fun x h => h) dj_la_7 ?_
  refine lv_if_ne (tgt := 17) hx hb dj_la_10 (by decide) (fun q => absurd rfl q) (fun _ => ?_)
  refine lv_iconst hx hb dj_la_13 (v := 1) rfl ?_
  refine lv_goto (tgt := 18) hx hb dj_la_14 (by decide) ?_
  exact W.zret (ty := .boolean) hx hb hr rfl (fun t ht _ => ⟨rfl, ht⟩) (fun q h => nomatch h) dj_la_18 hlk
theorem mj_pc {E : mE} {Z : mZ} {l : Launch} {i n : Int32} {v9 : Value} (h9 : v9 = .null ∨ ∃ t, v9 = .ref t) (h0 : ¬ i < 0) (h1 : i < n) : mj_ok E Z l none yJ3_checkIndex_8e157 (.code yJ3_checkIndex_8e157 cJ3_checkIndex_8e157 3 (some .int)) 1 20 [.int i, .int n, v9] (some (.int i)) := by
  refine mj_of (by decide +kernel) ?_
  intro p e s mid below meth c ⟨hx, hb, hml, hown, hts⟩ hlk hr hK hB
  have l0 : ((lg_sl [Value.int i, .int n, v9] ++ List.replicate (3 - (lg_sl [Value.int i, .int n, v9]).length) Slot.unset).toArray)[0]? = some (.val (.int i)) := by rcases h9 with rfl | ⟨t, rfl⟩ <;> rfl
  have l1 : ((lg_sl [Value.int i, .int n, v9] ++ List.replicate (3 - (lg_sl [Value.int i, .int n, v9]).length) Slot.unset).toArray)[1]? = some (.val (.int n)) := by rcases h9 with rfl | ⟨t, rfl⟩ <;> rfl
  refine lv_iload_n (i := 0) hx hb dj_pc_0 rfl l0 ?_
  refine lv_if_lt (tgt := 9) hx hb dj_pc_1 (by decide) (fun q => absurd q h0) (fun _ => ?_)
  refine lv_iload_n (i := 0) hx hb dj_pc_4 rfl l0 ?_
  refine lv_iload_n (i := 1) hx hb dj_pc_5 rfl l1 ?_
  refine lv_icmp_lt (tgt := 16) hx hb dj_pc_6 (by decide) (fun _ => ?_) (fun q => absurd h1 q)
  refine lv_iload_n (i := 0) hx hb dj_pc_16 rfl l0 ?_
  exact W.iret hx hb hr (fun t ht _ => ⟨rfl, ht⟩) (fun q h => nomatch h) dj_pc_17 hlk
theorem mj_ci {E : mE} {Z : mZ} {l : Launch} {i n : Int32} (h0 : ¬ i < 0) (h1 : i < n) : mj_ok E Z l none yJ0_checkIndex_df160 (.code yJ0_checkIndex_df160 cJ0_checkIndex_df160 2 none) 2 42 [.int i, .int n] none := by
  refine mj_of (by decide +kernel) ?_
  intro p e s mid below meth c hC hlk hr hK hB
  have ⟨hx, hb, hml, hown, hts⟩ := hC
  obtain ⟨-, -, hz⟩ := mj_K hK
  have hw : ∀ w, w ∈ lw_tbl ∧ goodWord w = true → w.before _ s = true := fun w h => hts w (mj_good h).1
  have hz2 : ∃ v9 : Value, (v9 = .null ∨ ∃ t, v9 = .ref t) ∧ va_Z "jdk/internal/util/Preconditions" "SIOOBE_FORMATTER" "Ljava/util/function/BiFunction;" v9 (mt_A E) s s.heap := by
    rcases hz with hz | ⟨t, hz⟩
    · exact ⟨_, Or.inl rfl, hz⟩
    · exact ⟨_, Or.inr ⟨t, rfl⟩, hz⟩
  obtain ⟨v9, h9, hz⟩ := hz2
  refine lv_iload_n (i := 0) hx hb dj_ci_0 rfl (x := i) rfl ?_
  refine lv_iload_n (i := 1) hx hb dj_ci_1 rfl (x := n) rfl ?_
  refine va_gets (own := RJ0) hx hb hz va_S.rf hown (hw _ mj_ff) (fun x h => h) dj_ci_2 ?_
  refine mj_call (v := some (.int i)) (rest := []) (a := [Value.int i, .int n, v9].toArray) (va_runS hC (mj_pc h9 h0 h1) (va_cwS 3 hts (mj_goodS mj_pcC mj_pcL mj_pcS mj_i3) rfl rfl rfl ⟨by decide, by decide, by decide +kernel⟩ ⟨by decide, by decide⟩) (mj_pre hK trivial) rfl rfl rfl rfl (mj_r8 (Nat.zero_le _)) dj_ci_5 ⟨Nat.le_refl _, Nat.le_refl _⟩) ?_
  refine lv_pop hx hb (va := .int i) dj_ci_8 rfl ?_
  exact W.vret hx hb hr (fun t ht _ => ⟨rfl, ht⟩) (fun q h => nomatch h) dj_ci_9 hlk
theorem mj_b8 : ∀ i, i < 5 → ∀ k, k < mj_len.getD i 0 → (((((mj_byt.getD i []).getD k 0) &&& 255).toUInt32 % 65536).toInt32 = Int32.ofInt (((m_str i).getD k 0 : Nat) : Int)) ∧ narrow .char (.int (Int32.ofInt (((m_str i).getD k 0 : Nat) : Int))) = .int (Int32.ofInt (((m_str i).getD k 0 : Nat) : Int)) := by
  intro i hi
  rcases (show i = 0 ∨ i = 1 ∨ i = 2 ∨ i = 3 ∨ i = 4 by omega) with rfl | rfl | rfl | rfl | rfl
  · intro k hk
    have hk : k < 5 := hk
    rcases (show k = 0 ∨ k = 1 ∨ k = 2 ∨ k = 3 ∨ k = 4 by omega) with rfl | rfl | rfl | rfl | rfl <;> exact ⟨by decide +kernel, rfl⟩
  · intro k hk
    have hk : k < 5 := hk
    rcases (show k = 0 ∨ k = 1 ∨ k = 2 ∨ k = 3 ∨ k = 4 by omega) with rfl | rfl | rfl | rfl | rfl <;> exact ⟨by decide +kernel, rfl⟩
  · intro k hk
    have hk : k < 7 := hk
    rcases (show k = 0 ∨ k = 1 ∨ k = 2 ∨ k = 3 ∨ k = 4 ∨ k = 5 ∨ k = 6 by omega) with rfl | rfl | rfl | rfl | rfl | rfl | rfl <;> exact ⟨by decide +kernel, rfl⟩
  · intro k hk
    have hk : k < 6 := hk
    rcases (show k = 0 ∨ k = 1 ∨ k = 2 ∨ k = 3 ∨ k = 4 ∨ k = 5 by omega) with rfl | rfl | rfl | rfl | rfl | rfl <;> exact ⟨by decide +kernel, rfl⟩
  · intro k hk
    exact absurd hk (Nat.not_lt_zero _)
theorem mj_lc {E : mE} {Z : mZ} {l : Launch} {i : Nat} {k : Int32} {ad : Nat} (hi : i < 5) (h0 : ¬ k < 0) (hk : k.toNatClampNeg < mj_len.getD i 0) (h1 : k < Int32.ofNat (mj_len.getD i 0)) :
    mj_ok E Z l (some (ad, i)) yJ1_charAt_3b067 (.code yJ1_charAt_3b067 cJ1_charAt_3b067 2 (some .char)) 3 63 [.ref ad, .int k] (some (.int (Int32.ofInt (((m_str i).getD k.toNatClampNeg 0 : Nat) : Int)))) := by
  refine mj_of (by decide +kernel) ?_
  intro p e s mid below meth c hC hlk hr hK hB
  have ⟨hx, hb, hml, hown, hts⟩ := hC
  have hT : va_T .byte ad (mj_len.getD i 0) (fun j => .int ((mj_byt.getD i []).getD j 0)) (mt_A E) s s.heap := hB
  obtain ⟨b1, b2⟩ := mj_b8 i hi _ hk
  refine lv_iload_n (i := 1) hx hb dj_lc_0 rfl (x := k) rfl ?_
  refine lv_aload_n (i := 0) hx hb dj_lc_1 rfl (x := ad) rfl ?_
  refine va_tlen hx hb hT va_S.rf rfl dj_lc_2 ?_
  refine mj_call (v := none) (rest := []) (a := [Value.int k, .int (Int32.ofNat (mj_len.getD i 0))].toArray) (va_runS hC (mj_ci h0 h1) (va_cwS 2 hts (mj_goodS mj_ciC mj_ciL mj_ciS mj_i0) rfl rfl rfl ⟨by decide, by decide, by decide +kernel⟩ ⟨by decide, by decide⟩) (mj_pre hK trivial) rfl rfl rfl rfl (mj_r8 (Nat.zero_le _)) dj_lc_3 ⟨Nat.le_refl _, Nat.le_refl _⟩) ?_
  refine lv_aload_n (i := 0) hx hb dj_lc_6 rfl (x := ad) rfl ?_
  refine lv_iload_n (i := 1) hx hb dj_lc_7 rfl (x := k) rfl ?_
  refine va_tb hx hb hT va_S.rf (fun q => q.elim h0 (fun z => absurd hk (Nat.not_lt.mpr z))) rfl dj_lc_8 ?_
  refine lv_sipush hx hb dj_lc_9 (v := 255) rfl ?_
  refine lv_iand hx hb dj_lc_12 ?_
  refine lv_i2c hx hb dj_lc_13 b1 ?_
  exact W.zret (ty := .char) hx hb hr b2 (fun t ht _ => ⟨rfl, ht⟩) (fun q h => nomatch h) dj_lc_14 hlk
theorem mj_shr : ∀ i, i < 5 → Int32.ofNat (mj_len.getD i 0) >>> ((0 : Int32) &&& 31) = Int32.ofInt ((m_str i).length : Int) := by
  intro i hi
  rcases (show i = 0 ∨ i = 1 ∨ i = 2 ∨ i = 3 ∨ i = 4 by omega) with rfl | rfl | rfl | rfl | rfl <;> decide +kernel
theorem mj_lens : ∀ i, i < 5 → (m_str i).length = mj_len.getD i 0 ∧ (Int32.ofNat (mj_len.getD i 0)).toInt = (mj_len.getD i 0 : Int) := by
  intro i hi
  rcases (show i = 0 ∨ i = 1 ∨ i = 2 ∨ i = 3 ∨ i = 4 by omega) with rfl | rfl | rfl | rfl | rfl <;> decide +kernel
theorem mt_length {E : mE} {Z : mZ} {l : Launch} {i : Nat} {h : mH} (hi : i < 5) : mt_ok E Z l 1005 [(3, .ofNat i)] h (.inl (0, ((m_str i).length : Int)), h) := by
  unfold mt_ok
  refine vx_ofW (ws' := lw_tbl.filter goodWord) (cc := cJ0_length_8abf5) (maxL := 1) (ret := some .int) (by decide +kernel) rfl ?_
  intro p e9 s mid args below meth c s₁ B hml ht hP
  obtain ⟨rfl, hK, hR, hz⟩ := hP
  have hC : CallFix p mid c cJ0_length_8abf5 1 s (mt_as E [(3, .ofNat i)]).toArray (mj_wc (m_cd 1005)) RJ0 := ⟨B.exec, B.bytes, hml, findClass_of_methodNamed B.named, fun w hw => atoms_spec (ws := mt_wc 1005) B.pre _ hw⟩
  have ⟨hx, hb, _, hown, hts⟩ := hC
  rw [lg_entry_eq]
  rw [show mt_n ((.inl (0, ((m_str i).length : Int)), h) : mO).2 - mt_n h = 0 from Nat.sub_self _, show ((.inl (0, ((m_str i).length : Int)), h) : mO).2.2.2.2.2 - h.2.2.2.2 = 0 from Nat.sub_self _]
  obtain ⟨⟨adV, hk⟩, -, -⟩ := mj_K hK
  have hw : ∀ w, w ∈ lw_tbl ∧ goodWord w = true → w.before _ s = true := fun w h => hts w (mj_good h).1
  refine lv_aload_n (i := 0) hx hb (k := 0) dj_ln_0 rfl (x := E.2.2.1 i) rfl ?_
  refine vk_getf (own := RJ0) hx hb (hk.1 i hi).2.2.1 va_S.rf hown (hw _ mj_fv) (fun x h => h) dj_ln_1 ?_
  refine va_tlen hx hb (hk.1 i hi).2.2.2 va_S.rf rfl dj_ln_4 ?_
  refine lv_aload_n (i := 0) hx hb (k := 0) dj_ln_5 rfl (x := E.2.2.1 i) rfl ?_
  refine mj_call (v := some (.int 0)) (rest := [.int (Int32.ofNat (mj_len.getD i 0))]) (a := [Value.ref (E.2.2.1 i)].toArray) (va_runV (As := []) (b := E.2.2.1 i) hC (mj_co hi) (cwV 0 hts (mj_goodV mj_coC mj_coL mj_coI mj_coS mj_i0) rfl rfl rfl ⟨rfl, by decide, by decide, by decide +kernel⟩ ⟨(by decide : 1 + 1 ≤ 2), (by decide : 8 + (1 + 11) + 20 ≤ 60)⟩) ⟨mj_blind, vk_recv hk hi va_S.rf, (mj_pre (o := none) (as := [Value.ref (E.2.2.1 i)]) hK trivial).2⟩ rfl rfl rfl rfl (mj_r8 (by decide : (1 : Nat) ≤ 8)) dj_ln_6 ⟨Nat.zero_le _, Nat.zero_le _⟩) ?_
  refine lv_ishr hx hb dj_ln_9 ?_
  rw [mj_shr i hi]
  exact vx_ret (W.iret hx hb B.returns (fun t ht9 _ => ⟨(0, ((m_str i).length : Int)), rfl, rfl, by rw [ht9]; exact hR, va_S.rf.F ht9⟩) (fun q h => nomatch h) dj_ln_10 B.notSynchronized)
theorem mt_charAt {E : mE} {Z : mZ} {l : Launch} {j : Nat} {i : Int} {h : mH} (hj : j < 5) (h0 : 0 ≤ w32 i) (h1 : w32 i < (m_str j).length) : mt_ok E Z l 1006 [(3, .ofNat j), (0, i)] h (.inl (0, (((m_str j).getD (w32 i).toNat 0 : Nat) : Int)), h) := by
  unfold mt_ok
  refine vx_ofW (ws' := lw_tbl.filter goodWord) (cc := cJ0_charAt_5068e) (maxL := 2) (ret := some .char) (by decide +kernel) rfl ?_
  intro p e9 s mid args below meth c s₁ B hml ht hP
  obtain ⟨rfl, hK, hR, hz⟩ := hP
  have hC : CallFix p mid c cJ0_charAt_5068e 2 s (mt_as E [(3, .ofNat j), (0, i)]).toArray (mj_wc (m_cd 1006)) RJ0 := ⟨B.exec, B.bytes, hml, findClass_of_methodNamed B.named, fun w hw => atoms_spec (ws := mt_wc 1006) B.pre _ hw⟩
  have ⟨hx, hb, _, hown, hts⟩ := hC
  rw [lg_entry_eq]
  rw [show mt_n ((.inl (0, (((m_str j).getD (w32 i).toNat 0 : Nat) : Int)), h) : mO).2 - mt_n h = 0 from Nat.sub_self _, show ((.inl (0, (((m_str j).getD (w32 i).toNat 0 : Nat) : Int)), h) : mO).2.2.2.2.2 - h.2.2.2.2 = 0 from Nat.sub_self _]
  obtain ⟨⟨adV, hk⟩, -, -⟩ := mj_K hK
  obtain ⟨e1, e2⟩ := mj_lens j hj
  have hw : ∀ w, w ∈ lw_tbl ∧ goodWord w = true → w.before _ s = true := fun w h => hts w (mj_good h).1
  have hin := mt_in (a := i) (n := mj_len.getD j 0) h0 (by rw [← e1]; exact h1)
  have hk0 : ¬ Int32.ofInt i < 0 := fun q => hin (Or.inl q)
  have hk1 : (Int32.ofInt i).toNatClampNeg < mj_len.getD j 0 := Nat.not_le.mp fun q => hin (Or.inr q)
  have hk2 : Int32.ofInt i < Int32.ofNat (mj_len.getD j 0) := by rw [Int32.lt_iff_toInt_lt, mt_ti, e2, ← e1]; exact h1
  refine lv_aload_n (i := 0) hx hb (k := 0) dj_ch_0 rfl (x := E.2.2.1 j) rfl ?_
  refine mj_call (v := some (.int 1)) (rest := []) (a := [Value.ref (E.2.2.1 j)].toArray) (va_runV (As := []) (b := E.2.2.1 j) hC (mj_la hj) (cwV 0 hts (mj_goodV mj_laC mj_laL mj_laI mj_laS mj_i0) rfl rfl rfl ⟨rfl, by decide, by decide, by decide +kernel⟩ ⟨(by decide : 1 + 1 ≤ 4), (by decide : 8 + (1 + 11) + 20 ≤ 120)⟩) ⟨mj_blind, vk_recv hk hj va_S.rf, (mj_pre (o := none) (as := [Value.ref (E.2.2.1 j)]) hK trivial).2⟩ rfl rfl rfl rfl (mj_r8 (Nat.zero_le _)) dj_ch_1 ⟨Nat.zero_le _, Nat.zero_le _⟩) ?_
  refine lv_if_eq (tgt := 16) hx hb dj_ch_4 (by decide) (fun q => absurd q (by decide)) (fun _ => ?_)
  refine lv_aload_n (i := 0) hx hb (k := 0) dj_ch_7 rfl (x := E.2.2.1 j) rfl ?_
  refine vk_getf (own := RJ0) hx hb (hk.1 j hj).2.2.1 va_S.rf hown (hw _ mj_fv) (fun x h => h) dj_ch_8 ?_
  refine lv_iload_n (i := 1) hx hb (k := 1) dj_ch_11 rfl (x := Int32.ofInt i) rfl ?_
  refine mj_call (v := some (.int (Int32.ofInt (((m_str j).getD (Int32.ofInt i).toNatClampNeg 0 : Nat) : Int)))) (rest := []) (a := [Value.ref (adV j), .int (Int32.ofInt i)].toArray) (va_runS hC (mj_lc (ad := adV j) hj hk0 hk1 hk2) (va_cwS 2 hts (mj_goodS mj_lcC mj_lcL mj_lcS mj_i1) rfl rfl rfl ⟨by decide, by decide, by decide +kernel⟩ ⟨(by decide : 3 + 1 ≤ 4), (by decide : 8 + (2 + 11) + 63 ≤ 120)⟩) (mj_pre hK (hk.1 j hj).2.2.2) rfl rfl rfl rfl (mj_r8 (Nat.zero_le _)) dj_ch_12 ⟨Nat.zero_le _, Nat.zero_le _⟩) ?_
  rw [mt_cl]
  have hn : narrow .char (.int (Int32.ofInt (((m_str j).getD (w32 i).toNat 0 : Nat) : Int))) = .int (Int32.ofInt (((m_str j).getD (w32 i).toNat 0 : Nat) : Int)) := by
    have := (mj_b8 j hj _ hk1).2
    rw [mt_cl] at this
    exact this
  exact vx_ret (W.zret (ty := .char) hx hb B.returns hn (fun t ht9 _ => ⟨(0, (((m_str j).getD (w32 i).toNat 0 : Nat) : Int)), rfl, rfl, by rw [ht9]; exact hR, va_S.rf.F ht9⟩) (fun q h => nomatch h) dj_ch_15 B.notSynchronized)
theorem mt_primsA {E : mE} {Z : mZ} {l : Launch} (hl : l.stackTraces = false) : mt_prims E Z l := by
  intro m as h q hm e
  unfold m_prm at e
  split at e
  · next b => cases e; exact mt_rq0 hl
  · next b => cases e; exact mt_rq1 hl
  · next b => cases e; exact mt_rq2 hl
  · next j =>
    split at e
    · next hj => cases e; exact mt_length hj
    · cases e
  · next j i =>
    split at e
    · next hj => cases e; exact mt_charAt hj.1 hj.2.1 hj.2.2
    · cases e
  · cases e
/-- the small machine's runs are the machine's -/
theorem mt_WA {E : mE} {Z : mZ} {l : Launch} (hl : l.stackTraces = false) : ∀ n, mt_Wn E Z l n := mt_W (mt_primsA hl)
end
