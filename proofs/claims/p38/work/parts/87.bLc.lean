section
theorem e_278 {Z : mZ} {r0 : Nat} {x1 : Int} {x2 : Int} {x3 : Int} {h : mH} : m_cl Z 278 [(2, ((r0 : Nat) : Int)), (0, x1), (0, x2), (0, x3)] h = m_run Z (278, 0, [(2, ((r0 : Nat) : Int)), (0, x1), (0, x2), (0, x3), (9, 0), (9, 0), (9, 0), (9, 0), (9, 0), (9, 0), (9, 0), (9, 0), (9, 0), (9, 0)], [], h) := g_ent (k := 14) (by decide) (by decide +kernel) (Nat.le_of_ble_eq_true rfl) (by decide +kernel) rfl
theorem b_278_0 {Z : mZ} {l2 l3 l4 l5 l6 l7 l8 l9 l10 l11 l12 l13 : mV} {x1 : Int} {r0 : Nat} {h : mH} : m_run Z (278, 0, [(2, ((r0 : Nat) : Int)), (0, x1), l2, l3, l4, l5, l6, l7, l8, l9, l10, l11, l12, l13], [], h) = (m_cl Z 261 [(2, ((r0 : Nat) : Int)), (0, x1), (0, 0)] h).bind (m_aft (m_run Z) 278 3 [(2, ((r0 : Nat) : Int)), (0, x1), l2, l3, l4, l5, l6, l7, l8, l9, l10, l11, l12, l13] []) := by
  refine g_aload_n (k := 0) (v := (2, ((r0 : Nat) : Int))) (by decide +kernel : decode (m_byt 278) 0 = .ok (.aload_n 0, 1)) rfl (Or.inl rfl) ?_
  refine g_iload_n (k := 1) (x := x1) (by decide +kernel : decode (m_byt 278) 1 = .ok (.iload_n 1, 1)) rfl ?_
  refine g_base (by decide +kernel : decode (m_byt 278) 2 = .ok (.iconst 0, 1)) rfl rfl ?_
  show m_run Z (278, 3, [(2, ((r0 : Nat) : Int)), (0, x1), l2, l3, l4, l5, l6, l7, l8, l9, l10, l11, l12, l13], [(0, 0), (0, x1), (2, ((r0 : Nat) : Int))], h) = _
  exact g_inv (k := 0) (m' := 261) (np := 3) (as := [(2, ((r0 : Nat) : Int)), (0, x1), (0, 0)]) (by decide +kernel : decode (m_byt 278) 3 = .ok (.invokestatic 171, 3)) (Or.inr (Or.inr ⟨rfl, rfl, by decide, by decide⟩)) (by decide +kernel) (by decide +kernel) (by decide +kernel) (Nat.le_of_ble_eq_true rfl) rfl (Or.inl rfl)
theorem b_278_6 {Z : mZ} {l2 l4 l5 l6 l7 l8 l9 l10 l11 l12 l13 : mV} {s0 x3 x1 : Int} {r0 : Nat} {h : mH} : m_run Z (278, 6, [(2, ((r0 : Nat) : Int)), (0, x1), l2, (0, x3), l4, l5, l6, l7, l8, l9, l10, l11, l12, l13], [(0, s0)], h) = (m_cl Z 261 [(2, ((r0 : Nat) : Int)), (0, x1), (0, 1)] h).bind (m_aft (m_run Z) 278 11 [(2, ((r0 : Nat) : Int)), (0, x1), l2, (0, x3), (0, s0), l5, l6, l7, l8, l9, l10, l11, l12, l13] []) := by
  refine g_istore (k := 4) (by decide +kernel : decode (m_byt 278) 6 = .ok (.istore 4, 2)) (Nat.le_of_ble_eq_true rfl) ?_
  show m_run Z (278, 8, [(2, ((r0 : Nat) : Int)), (0, x1), l2, (0, x3), (0, s0), l5, l6, l7, l8, l9, l10, l11, l12, l13], [], h) = _
  refine g_aload_n (k := 0) (v := (2, ((r0 : Nat) : Int))) (by decide +kernel : decode (m_byt 278) 8 = .ok (.aload_n 0, 1)) rfl (Or.inl rfl) ?_
  refine g_iload_n (k := 1) (x := x1) (by decide +kernel : decode (m_byt 278) 9 = .ok (.iload_n 1, 1)) rfl ?_
  refine g_base (by decide +kernel : decode (m_byt 278) 10 = .ok (.iconst 1, 1)) rfl rfl ?_
  show m_run Z (278, 11, [(2, ((r0 : Nat) : Int)), (0, x1), l2, (0, x3), (0, s0), l5, l6, l7, l8, l9, l10, l11, l12, l13], [(0, 1), (0, x1), (2, ((r0 : Nat) : Int))], h) = _
  exact g_inv (k := 0) (m' := 261) (np := 3) (as := [(2, ((r0 : Nat) : Int)), (0, x1), (0, 1)]) (by decide +kernel : decode (m_byt 278) 11 = .ok (.invokestatic 171, 3)) (Or.inr (Or.inr ⟨rfl, rfl, by decide, by decide⟩)) (by decide +kernel) (by decide +kernel) (by decide +kernel) (Nat.le_of_ble_eq_true rfl) rfl (Or.inl rfl)
theorem b_278_14 {Z : mZ} {l1 l2 l3 l5 l6 l7 l8 l9 l10 l11 l12 l13 : mV} {s0 x4 : Int} {r0 : Nat} {h : mH} : m_run Z (278, 14, [(2, ((r0 : Nat) : Int)), l1, l2, l3, (0, x4), l5, l6, l7, l8, l9, l10, l11, l12, l13], [(0, s0)], h) = (m_cl Z 250 [(2, ((r0 : Nat) : Int)), (0, 3)] h).bind (m_aft (m_run Z) 278 18 [(2, ((r0 : Nat) : Int)), l1, l2, l3, (0, x4), (0, s0), l6, l7, l8, l9, l10, l11, l12, l13] []) := by
  refine g_istore (k := 5) (by decide +kernel : decode (m_byt 278) 14 = .ok (.istore 5, 2)) (Nat.le_of_ble_eq_true rfl) ?_
  show m_run Z (278, 16, [(2, ((r0 : Nat) : Int)), l1, l2, l3, (0, x4), (0, s0), l6, l7, l8, l9, l10, l11, l12, l13], [], h) = _
  refine g_aload_n (k := 0) (v := (2, ((r0 : Nat) : Int))) (by decide +kernel : decode (m_byt 278) 16 = .ok (.aload_n 0, 1)) rfl (Or.inl rfl) ?_
  refine g_base (by decide +kernel : decode (m_byt 278) 17 = .ok (.iconst 3, 1)) rfl rfl ?_
  show m_run Z (278, 18, [(2, ((r0 : Nat) : Int)), l1, l2, l3, (0, x4), (0, s0), l6, l7, l8, l9, l10, l11, l12, l13], [(0, 3), (2, ((r0 : Nat) : Int))], h) = _
  exact g_inv (k := 0) (m' := 250) (np := 2) (as := [(2, ((r0 : Nat) : Int)), (0, 3)]) (by decide +kernel : decode (m_byt 278) 18 = .ok (.invokestatic 149, 3)) (Or.inr (Or.inr ⟨rfl, rfl, by decide, by decide⟩)) (by decide +kernel) (by decide +kernel) (by decide +kernel) (Nat.le_of_ble_eq_true rfl) rfl (Or.inl rfl)
theorem b_278_21 {Z : mZ} {l0 l1 l2 l3 l4 l5 l6 l7 l8 l9 l10 l11 l12 l13 : mV} {s0 : Int} {h : mH} : m_run Z (278, 21, [l0, l1, l2, l3, l4, l5, l6, l7, l8, l9, l10, l11, l12, l13], [(0, s0)], h) = if w32 s0 = 0 then m_run Z (278, 32, [l0, l1, l2, l3, l4, l5, l6, l7, l8, l9, l10, l11, l12, l13], [], h) else m_run Z (278, 24, [l0, l1, l2, l3, l4, l5, l6, l7, l8, l9, l10, l11, l12, l13], [], h) := by
  exact g_brq (t := 32) (off := 11) (by decide +kernel : decode (m_byt 278) 21 = .ok (.ifCond .eq 11, 3)) rfl rfl (by decide)
theorem b_278_24 {Z : mZ} {l1 l2 l3 l4 l5 l6 l7 l8 l9 l10 l11 l12 l13 : mV} {r0 : Nat} {h : mH} : m_run Z (278, 24, [(2, ((r0 : Nat) : Int)), l1, l2, l3, l4, l5, l6, l7, l8, l9, l10, l11, l12, l13], [], h) = (m_cl Z 250 [(2, ((r0 : Nat) : Int)), (0, 1)] h).bind (m_aft (m_run Z) 278 26 [(2, ((r0 : Nat) : Int)), l1, l2, l3, l4, l5, l6, l7, l8, l9, l10, l11, l12, l13] []) := by
  refine g_aload_n (k := 0) (v := (2, ((r0 : Nat) : Int))) (by decide +kernel : decode (m_byt 278) 24 = .ok (.aload_n 0, 1)) rfl (Or.inl rfl) ?_
  refine g_base (by decide +kernel : decode (m_byt 278) 25 = .ok (.iconst 1, 1)) rfl rfl ?_
  show m_run Z (278, 26, [(2, ((r0 : Nat) : Int)), l1, l2, l3, l4, l5, l6, l7, l8, l9, l10, l11, l12, l13], [(0, 1), (2, ((r0 : Nat) : Int))], h) = _
  exact g_inv (k := 0) (m' := 250) (np := 2) (as := [(2, ((r0 : Nat) : Int)), (0, 1)]) (by decide +kernel : decode (m_byt 278) 26 = .ok (.invokestatic 149, 3)) (Or.inr (Or.inr ⟨rfl, rfl, by decide, by decide⟩)) (by decide +kernel) (by decide +kernel) (by decide +kernel) (Nat.le_of_ble_eq_true rfl) rfl (Or.inl rfl)
theorem b_278_29 {Z : mZ} {l0 l1 l2 l3 l4 l5 l6 l7 l8 l9 l10 l11 l12 l13 : mV} {s0 : Int} {h : mH} : m_run Z (278, 29, [l0, l1, l2, l3, l4, l5, l6, l7, l8, l9, l10, l11, l12, l13], [(0, s0)], h) = if w32 s0 = 0 then m_run Z (278, 32, [l0, l1, l2, l3, l4, l5, l6, l7, l8, l9, l10, l11, l12, l13], [], h) else m_run Z (278, 83, [l0, l1, l2, l3, l4, l5, l6, l7, l8, l9, l10, l11, l12, l13], [], h) := by
  exact g_brn (t := 83) (off := 54) (by decide +kernel : decode (m_byt 278) 29 = .ok (.ifCond .ne 54, 3)) rfl rfl (by decide)
theorem b_278_32 {Z : mZ} {l0 l1 l2 l3 l5 l6 l7 l8 l9 l10 l11 l12 l13 : mV} {x4 : Int} {h : mH} : m_run Z (278, 32, [l0, l1, l2, l3, (0, x4), l5, l6, l7, l8, l9, l10, l11, l12, l13], [], h) = if w32 x4 = w32 (-52) then m_run Z (278, 39, [l0, l1, l2, l3, (0, x4), l5, l6, l7, l8, l9, l10, l11, l12, l13], [], h) else m_run Z (278, 81, [l0, l1, l2, l3, (0, x4), l5, l6, l7, l8, l9, l10, l11, l12, l13], [], h) := by
  refine g_iload (k := 4) (x := x4) (by decide +kernel : decode (m_byt 278) 32 = .ok (.iload 4, 2)) rfl ?_
  refine g_base (by decide +kernel : decode (m_byt 278) 34 = .ok (.bipush (-52), 2)) rfl rfl ?_
  show m_run Z (278, 36, [l0, l1, l2, l3, (0, x4), l5, l6, l7, l8, l9, l10, l11, l12, l13], [(0, (-52)), (0, x4)], h) = _
  exact g_brn (t := 81) (off := 45) (by decide +kernel : decode (m_byt 278) 36 = .ok (.if_icmp .ne 45, 3)) rfl rfl (by decide)
theorem b_278_39 {Z : mZ} {l0 l1 l2 l3 l4 l6 l7 l8 l9 l10 l11 l12 l13 : mV} {x5 : Int} {h : mH} : m_run Z (278, 39, [l0, l1, l2, l3, l4, (0, x5), l6, l7, l8, l9, l10, l11, l12, l13], [], h) = if w32 x5 = w32 (-52) then m_run Z (278, 46, [l0, l1, l2, l3, l4, (0, x5), l6, l7, l8, l9, l10, l11, l12, l13], [], h) else m_run Z (278, 81, [l0, l1, l2, l3, l4, (0, x5), l6, l7, l8, l9, l10, l11, l12, l13], [], h) := by
  refine g_iload (k := 5) (x := x5) (by decide +kernel : decode (m_byt 278) 39 = .ok (.iload 5, 2)) rfl ?_
  refine g_base (by decide +kernel : decode (m_byt 278) 41 = .ok (.bipush (-52), 2)) rfl rfl ?_
  show m_run Z (278, 43, [l0, l1, l2, l3, l4, (0, x5), l6, l7, l8, l9, l10, l11, l12, l13], [(0, (-52)), (0, x5)], h) = _
  exact g_brn (t := 81) (off := 38) (by decide +kernel : decode (m_byt 278) 43 = .ok (.if_icmp .ne 38, 3)) rfl rfl (by decide)
theorem b_278_46 {Z : mZ} {l2 l3 l4 l5 l6 l7 l8 l9 l10 l11 l12 l13 : mV} {x1 : Int} {r0 : Nat} {h : mH} : m_run Z (278, 46, [(2, ((r0 : Nat) : Int)), (0, x1), l2, l3, l4, l5, l6, l7, l8, l9, l10, l11, l12, l13], [], h) = (m_cl Z 263 [(2, ((r0 : Nat) : Int)), (0, x1)] h).bind (m_aft (m_run Z) 278 48 [(2, ((r0 : Nat) : Int)), (0, x1), l2, l3, l4, l5, l6, l7, l8, l9, l10, l11, l12, l13] []) := by
  refine g_aload_n (k := 0) (v := (2, ((r0 : Nat) : Int))) (by decide +kernel : decode (m_byt 278) 46 = .ok (.aload_n 0, 1)) rfl (Or.inl rfl) ?_
  refine g_iload_n (k := 1) (x := x1) (by decide +kernel : decode (m_byt 278) 47 = .ok (.iload_n 1, 1)) rfl ?_
  exact g_inv (k := 0) (m' := 263) (np := 2) (as := [(2, ((r0 : Nat) : Int)), (0, x1)]) (by decide +kernel : decode (m_byt 278) 48 = .ok (.invokestatic 175, 3)) (Or.inr (Or.inr ⟨rfl, rfl, by decide, by decide⟩)) (by decide +kernel) (by decide +kernel) (by decide +kernel) (Nat.le_of_ble_eq_true rfl) rfl (Or.inl rfl)
theorem b_278_51 {Z : mZ} {l0 l1 l2 l3 l4 l5 l6 l7 l8 l9 l10 l11 l12 l13 : mV} {s0 : Int} {h : mH} : m_run Z (278, 51, [l0, l1, l2, l3, l4, l5, l6, l7, l8, l9, l10, l11, l12, l13], [(0, s0)], h) = if w32 s0 = w32 (-52) then m_run Z (278, 56, [l0, l1, l2, l3, l4, l5, l6, l7, l8, l9, l10, l11, l12, l13], [], h) else m_run Z (278, 81, [l0, l1, l2, l3, l4, l5, l6, l7, l8, l9, l10, l11, l12, l13], [], h) := by
  refine g_base (by decide +kernel : decode (m_byt 278) 51 = .ok (.bipush (-52), 2)) rfl rfl ?_
  show m_run Z (278, 53, [l0, l1, l2, l3, l4, l5, l6, l7, l8, l9, l10, l11, l12, l13], [(0, (-52)), (0, s0)], h) = _
  exact g_brn (t := 81) (off := 28) (by decide +kernel : decode (m_byt 278) 53 = .ok (.if_icmp .ne 28, 3)) rfl rfl (by decide)
theorem b_278_56 {Z : mZ} {l1 l2 l3 l4 l5 l6 l7 l8 l9 l10 l11 l12 l13 : mV} {r0 : Nat} {h : mH} : m_run Z (278, 56, [(2, ((r0 : Nat) : Int)), l1, l2, l3, l4, l5, l6, l7, l8, l9, l10, l11, l12, l13], [], h) = (m_cl Z 264 [(2, ((r0 : Nat) : Int)), (0, 0)] h).bind (m_aft (m_run Z) 278 58 [(2, ((r0 : Nat) : Int)), l1, l2, l3, l4, l5, l6, l7, l8, l9, l10, l11, l12, l13] []) := by
  refine g_aload_n (k := 0) (v := (2, ((r0 : Nat) : Int))) (by decide +kernel : decode (m_byt 278) 56 = .ok (.aload_n 0, 1)) rfl (Or.inl rfl) ?_
  refine g_base (by decide +kernel : decode (m_byt 278) 57 = .ok (.iconst 0, 1)) rfl rfl ?_
  show m_run Z (278, 58, [(2, ((r0 : Nat) : Int)), l1, l2, l3, l4, l5, l6, l7, l8, l9, l10, l11, l12, l13], [(0, 0), (2, ((r0 : Nat) : Int))], h) = _
  exact g_inv (k := 0) (m' := 264) (np := 2) (as := [(2, ((r0 : Nat) : Int)), (0, 0)]) (by decide +kernel : decode (m_byt 278) 58 = .ok (.invokestatic 177, 3)) (Or.inr (Or.inr ⟨rfl, rfl, by decide, by decide⟩)) (by decide +kernel) (by decide +kernel) (by decide +kernel) (Nat.le_of_ble_eq_true rfl) rfl (Or.inl rfl)
theorem b_278_61 {Z : mZ} {l0 l1 l2 l3 l4 l5 l6 l7 l8 l9 l10 l11 l12 l13 : mV} {s0 : Int} {h : mH} : m_run Z (278, 61, [l0, l1, l2, l3, l4, l5, l6, l7, l8, l9, l10, l11, l12, l13], [(0, s0)], h) = if w32 s0 = w32 (-52) then m_run Z (278, 66, [l0, l1, l2, l3, l4, l5, l6, l7, l8, l9, l10, l11, l12, l13], [], h) else m_run Z (278, 81, [l0, l1, l2, l3, l4, l5, l6, l7, l8, l9, l10, l11, l12, l13], [], h) := by
  refine g_base (by decide +kernel : decode (m_byt 278) 61 = .ok (.bipush (-52), 2)) rfl rfl ?_
  show m_run Z (278, 63, [l0, l1, l2, l3, l4, l5, l6, l7, l8, l9, l10, l11, l12, l13], [(0, (-52)), (0, s0)], h) = _
  exact g_brn (t := 81) (off := 18) (by decide +kernel : decode (m_byt 278) 63 = .ok (.if_icmp .ne 18, 3)) rfl rfl (by decide)
theorem b_278_66 {Z : mZ} {l1 l2 l3 l4 l5 l6 l7 l8 l9 l10 l11 l12 l13 : mV} {r0 : Nat} {h : mH} : m_run Z (278, 66, [(2, ((r0 : Nat) : Int)), l1, l2, l3, l4, l5, l6, l7, l8, l9, l10, l11, l12, l13], [], h) = (m_cl Z 265 [(2, ((r0 : Nat) : Int)), (0, 2), (0, 0)] h).bind (m_aft (m_run Z) 278 69 [(2, ((r0 : Nat) : Int)), l1, l2, l3, l4, l5, l6, l7, l8, l9, l10, l11, l12, l13] []) := by
  refine g_aload_n (k := 0) (v := (2, ((r0 : Nat) : Int))) (by decide +kernel : decode (m_byt 278) 66 = .ok (.aload_n 0, 1)) rfl (Or.inl rfl) ?_
  refine g_base (by decide +kernel : decode (m_byt 278) 67 = .ok (.iconst 2, 1)) rfl rfl ?_
  show m_run Z (278, 68, [(2, ((r0 : Nat) : Int)), l1, l2, l3, l4, l5, l6, l7, l8, l9, l10, l11, l12, l13], [(0, 2), (2, ((r0 : Nat) : Int))], h) = _
  refine g_base (by decide +kernel : decode (m_byt 278) 68 = .ok (.iconst 0, 1)) rfl rfl ?_
  show m_run Z (278, 69, [(2, ((r0 : Nat) : Int)), l1, l2, l3, l4, l5, l6, l7, l8, l9, l10, l11, l12, l13], [(0, 0), (0, 2), (2, ((r0 : Nat) : Int))], h) = _
  exact g_inv (k := 0) (m' := 265) (np := 3) (as := [(2, ((r0 : Nat) : Int)), (0, 2), (0, 0)]) (by decide +kernel : decode (m_byt 278) 69 = .ok (.invokestatic 179, 3)) (Or.inr (Or.inr ⟨rfl, rfl, by decide, by decide⟩)) (by decide +kernel) (by decide +kernel) (by decide +kernel) (Nat.le_of_ble_eq_true rfl) rfl (Or.inl rfl)
theorem b_278_72 {Z : mZ} {l0 l1 l2 l3 l4 l5 l6 l7 l8 l9 l10 l11 l12 l13 : mV} {s0 : Int} {h : mH} : m_run Z (278, 72, [l0, l1, l2, l3, l4, l5, l6, l7, l8, l9, l10, l11, l12, l13], [(0, s0)], h) = if w32 s0 = w32 (-52) then m_run Z (278, 77, [l0, l1, l2, l3, l4, l5, l6, l7, l8, l9, l10, l11, l12, l13], [], h) else m_run Z (278, 81, [l0, l1, l2, l3, l4, l5, l6, l7, l8, l9, l10, l11, l12, l13], [], h) := by
  refine g_base (by decide +kernel : decode (m_byt 278) 72 = .ok (.bipush (-52), 2)) rfl rfl ?_
  show m_run Z (278, 74, [l0, l1, l2, l3, l4, l5, l6, l7, l8, l9, l10, l11, l12, l13], [(0, (-52)), (0, s0)], h) = _
  exact g_brn (t := 81) (off := 7) (by decide +kernel : decode (m_byt 278) 74 = .ok (.if_icmp .ne 7, 3)) rfl rfl (by decide)
theorem b_278_77 {Z : mZ} {l0 l1 l2 l3 l4 l5 l6 l7 l8 l9 l10 l11 l12 l13 : mV} {h : mH} : m_run Z (278, 77, [l0, l1, l2, l3, l4, l5, l6, l7, l8, l9, l10, l11, l12, l13], [], h) = some (.inl (0, 1), h) := by
  refine g_base (by decide +kernel : decode (m_byt 278) 77 = .ok (.iconst 1, 1)) rfl rfl ?_
  show m_run Z (278, 78, [l0, l1, l2, l3, l4, l5, l6, l7, l8, l9, l10, l11, l12, l13], [(0, 1)], h) = _
  refine g_jmp (t := 82) (by decide +kernel : decode (m_byt 278) 78 = .ok (.goto 4, 3)) (by decide) ?_
  exact g_zret (by decide +kernel : decode (m_byt 278) 82 = .ok (.ireturn, 1)) (by decide +kernel) (by decide)
theorem b_278_81 {Z : mZ} {l0 l1 l2 l3 l4 l5 l6 l7 l8 l9 l10 l11 l12 l13 : mV} {h : mH} : m_run Z (278, 81, [l0, l1, l2, l3, l4, l5, l6, l7, l8, l9, l10, l11, l12, l13], [], h) = m_run Z (278, 82, [l0, l1, l2, l3, l4, l5, l6, l7, l8, l9, l10, l11, l12, l13], [(0, 0)], h) := by
  refine g_base (by decide +kernel : decode (m_byt 278) 81 = .ok (.iconst 0, 1)) rfl rfl ?_
  show m_run Z (278, 82, [l0, l1, l2, l3, l4, l5, l6, l7, l8, l9, l10, l11, l12, l13], [(0, 0)], h) = _
  rfl
theorem b_278_82 {Z : mZ} {l0 l1 l2 l3 l4 l5 l6 l7 l8 l9 l10 l11 l12 l13 : mV} {s0 : Int} {h : mH} (h0 : w32 s0 = 0 ∨ w32 s0 = 1) : m_run Z (278, 82, [l0, l1, l2, l3, l4, l5, l6, l7, l8, l9, l10, l11, l12, l13], [(0, s0)], h) = some (.inl (0, s0), h) := by
  exact g_zret (by decide +kernel : decode (m_byt 278) 82 = .ok (.ireturn, 1)) (by decide +kernel) h0
theorem b_278_83 {Z : mZ} {l2 l3 l4 l5 l6 l7 l8 l9 l10 l11 l12 l13 : mV} {x1 : Int} {r0 : Nat} {h : mH} : m_run Z (278, 83, [(2, ((r0 : Nat) : Int)), (0, x1), l2, l3, l4, l5, l6, l7, l8, l9, l10, l11, l12, l13], [], h) = (m_cl Z 262 [(2, ((r0 : Nat) : Int)), (0, x1), (0, 0)] h).bind (m_aft (m_run Z) 278 86 [(2, ((r0 : Nat) : Int)), (0, x1), l2, l3, l4, l5, l6, l7, l8, l9, l10, l11, l12, l13] []) := by
  refine g_aload_n (k := 0) (v := (2, ((r0 : Nat) : Int))) (by decide +kernel : decode (m_byt 278) 83 = .ok (.aload_n 0, 1)) rfl (Or.inl rfl) ?_
  refine g_iload_n (k := 1) (x := x1) (by decide +kernel : decode (m_byt 278) 84 = .ok (.iload_n 1, 1)) rfl ?_
  refine g_base (by decide +kernel : decode (m_byt 278) 85 = .ok (.iconst 0, 1)) rfl rfl ?_
  show m_run Z (278, 86, [(2, ((r0 : Nat) : Int)), (0, x1), l2, l3, l4, l5, l6, l7, l8, l9, l10, l11, l12, l13], [(0, 0), (0, x1), (2, ((r0 : Nat) : Int))], h) = _
  exact g_inv (k := 0) (m' := 262) (np := 3) (as := [(2, ((r0 : Nat) : Int)), (0, x1), (0, 0)]) (by decide +kernel : decode (m_byt 278) 86 = .ok (.invokestatic 173, 3)) (Or.inr (Or.inr ⟨rfl, rfl, by decide, by decide⟩)) (by decide +kernel) (by decide +kernel) (by decide +kernel) (Nat.le_of_ble_eq_true rfl) rfl (Or.inl rfl)
theorem b_278_89 {Z : mZ} {l2 l3 l4 l6 l7 l8 l9 l10 l11 l12 l13 : mV} {s0 x5 x1 : Int} {r0 : Nat} {h : mH} : m_run Z (278, 89, [(2, ((r0 : Nat) : Int)), (0, x1), l2, l3, l4, (0, x5), l6, l7, l8, l9, l10, l11, l12, l13], [(0, s0)], h) = (m_cl Z 262 [(2, ((r0 : Nat) : Int)), (0, x1), (0, 1)] h).bind (m_aft (m_run Z) 278 94 [(2, ((r0 : Nat) : Int)), (0, x1), l2, l3, l4, (0, x5), (0, s0), l7, l8, l9, l10, l11, l12, l13] []) := by
  refine g_istore (k := 6) (by decide +kernel : decode (m_byt 278) 89 = .ok (.istore 6, 2)) (Nat.le_of_ble_eq_true rfl) ?_
  show m_run Z (278, 91, [(2, ((r0 : Nat) : Int)), (0, x1), l2, l3, l4, (0, x5), (0, s0), l7, l8, l9, l10, l11, l12, l13], [], h) = _
  refine g_aload_n (k := 0) (v := (2, ((r0 : Nat) : Int))) (by decide +kernel : decode (m_byt 278) 91 = .ok (.aload_n 0, 1)) rfl (Or.inl rfl) ?_
  refine g_iload_n (k := 1) (x := x1) (by decide +kernel : decode (m_byt 278) 92 = .ok (.iload_n 1, 1)) rfl ?_
  refine g_base (by decide +kernel : decode (m_byt 278) 93 = .ok (.iconst 1, 1)) rfl rfl ?_
  show m_run Z (278, 94, [(2, ((r0 : Nat) : Int)), (0, x1), l2, l3, l4, (0, x5), (0, s0), l7, l8, l9, l10, l11, l12, l13], [(0, 1), (0, x1), (2, ((r0 : Nat) : Int))], h) = _
  exact g_inv (k := 0) (m' := 262) (np := 3) (as := [(2, ((r0 : Nat) : Int)), (0, x1), (0, 1)]) (by decide +kernel : decode (m_byt 278) 94 = .ok (.invokestatic 173, 3)) (Or.inr (Or.inr ⟨rfl, rfl, by decide, by decide⟩)) (by decide +kernel) (by decide +kernel) (by decide +kernel) (Nat.le_of_ble_eq_true rfl) rfl (Or.inl rfl)
theorem b_278_97 {Z : mZ} {l2 l3 l4 l5 l7 l8 l9 l10 l11 l12 l13 : mV} {s0 x6 x1 : Int} {r0 : Nat} {h : mH} : m_run Z (278, 97, [(2, ((r0 : Nat) : Int)), (0, x1), l2, l3, l4, l5, (0, x6), l7, l8, l9, l10, l11, l12, l13], [(0, s0)], h) = (m_cl Z 262 [(2, ((r0 : Nat) : Int)), (0, x1), (0, 2)] h).bind (m_aft (m_run Z) 278 102 [(2, ((r0 : Nat) : Int)), (0, x1), l2, l3, l4, l5, (0, x6), (0, s0), l8, l9, l10, l11, l12, l13] []) := by
  refine g_istore (k := 7) (by decide +kernel : decode (m_byt 278) 97 = .ok (.istore 7, 2)) (Nat.le_of_ble_eq_true rfl) ?_
  show m_run Z (278, 99, [(2, ((r0 : Nat) : Int)), (0, x1), l2, l3, l4, l5, (0, x6), (0, s0), l8, l9, l10, l11, l12, l13], [], h) = _
  refine g_aload_n (k := 0) (v := (2, ((r0 : Nat) : Int))) (by decide +kernel : decode (m_byt 278) 99 = .ok (.aload_n 0, 1)) rfl (Or.inl rfl) ?_
  refine g_iload_n (k := 1) (x := x1) (by decide +kernel : decode (m_byt 278) 100 = .ok (.iload_n 1, 1)) rfl ?_
  refine g_base (by decide +kernel : decode (m_byt 278) 101 = .ok (.iconst 2, 1)) rfl rfl ?_
  show m_run Z (278, 102, [(2, ((r0 : Nat) : Int)), (0, x1), l2, l3, l4, l5, (0, x6), (0, s0), l8, l9, l10, l11, l12, l13], [(0, 2), (0, x1), (2, ((r0 : Nat) : Int))], h) = _
  exact g_inv (k := 0) (m' := 262) (np := 3) (as := [(2, ((r0 : Nat) : Int)), (0, x1), (0, 2)]) (by decide +kernel : decode (m_byt 278) 102 = .ok (.invokestatic 173, 3)) (Or.inr (Or.inr ⟨rfl, rfl, by decide, by decide⟩)) (by decide +kernel) (by decide +kernel) (by decide +kernel) (Nat.le_of_ble_eq_true rfl) rfl (Or.inl rfl)
theorem b_278_105 {Z : mZ} {l0 l1 l2 l3 l4 l6 l8 l9 l10 l11 l12 l13 : mV} {s0 x7 x5 : Int} {h : mH} : m_run Z (278, 105, [l0, l1, l2, l3, l4, (0, x5), l6, (0, x7), l8, l9, l10, l11, l12, l13], [(0, s0)], h) = if w32 x5 ≤ 0 then m_run Z (278, 164, [l0, l1, l2, l3, l4, (0, x5), l6, (0, x7), (0, s0), l9, l10, l11, l12, l13], [], h) else m_run Z (278, 112, [l0, l1, l2, l3, l4, (0, x5), l6, (0, x7), (0, s0), l9, l10, l11, l12, l13], [], h) := by
  refine g_istore (k := 8) (by decide +kernel : decode (m_byt 278) 105 = .ok (.istore 8, 2)) (Nat.le_of_ble_eq_true rfl) ?_
  show m_run Z (278, 107, [l0, l1, l2, l3, l4, (0, x5), l6, (0, x7), (0, s0), l9, l10, l11, l12, l13], [], h) = _
  refine g_iload (k := 5) (x := x5) (by decide +kernel : decode (m_byt 278) 107 = .ok (.iload 5, 2)) rfl ?_
  exact g_brq (t := 164) (off := 55) (by decide +kernel : decode (m_byt 278) 109 = .ok (.ifCond .le 55, 3)) rfl rfl (by decide)
theorem b_278_112 {Z : mZ} {l1 l2 l3 l4 l5 l9 l10 l11 l12 l13 : mV} {x6 x7 x8 : Int} {r0 : Nat} {h : mH} : m_run Z (278, 112, [(2, ((r0 : Nat) : Int)), l1, l2, l3, l4, l5, (0, x6), (0, x7), (0, x8), l9, l10, l11, l12, l13], [], h) = (m_cl Z 257 [(2, ((r0 : Nat) : Int)), (0, x6), (0, x7), (0, x8)] h).bind (m_aft (m_run Z) 278 119 [(2, ((r0 : Nat) : Int)), l1, l2, l3, l4, l5, (0, x6), (0, x7), (0, x8), l9, l10, l11, l12, l13] []) := by
  refine g_aload_n (k := 0) (v := (2, ((r0 : Nat) : Int))) (by decide +kernel : decode (m_byt 278) 112 = .ok (.aload_n 0, 1)) rfl (Or.inl rfl) ?_
  refine g_iload (k := 6) (x := x6) (by decide +kernel : decode (m_byt 278) 113 = .ok (.iload 6, 2)) rfl ?_
  refine g_iload (k := 7) (x := x7) (by decide +kernel : decode (m_byt 278) 115 = .ok (.iload 7, 2)) rfl ?_
  refine g_iload (k := 8) (x := x8) (by decide +kernel : decode (m_byt 278) 117 = .ok (.iload 8, 2)) rfl ?_
  exact g_inv (k := 0) (m' := 257) (np := 4) (as := [(2, ((r0 : Nat) : Int)), (0, x6), (0, x7), (0, x8)]) (by decide +kernel : decode (m_byt 278) 119 = .ok (.invokestatic 162, 3)) (Or.inr (Or.inr ⟨rfl, rfl, by decide, by decide⟩)) (by decide +kernel) (by decide +kernel) (by decide +kernel) (Nat.le_of_ble_eq_true rfl) rfl (Or.inl rfl)
theorem b_278_122 {Z : mZ} {l0 l1 l2 l3 l4 l5 l6 l7 l8 l9 l10 l11 l12 l13 : mV} {s0 : Int} {h : mH} : m_run Z (278, 122, [l0, l1, l2, l3, l4, l5, l6, l7, l8, l9, l10, l11, l12, l13], [(0, s0)], h) = if w32 s0 = w32 1 then m_run Z (278, 126, [l0, l1, l2, l3, l4, l5, l6, l7, l8, l9, l10, l11, l12, l13], [], h) else m_run Z (278, 164, [l0, l1, l2, l3, l4, l5, l6, l7, l8, l9, l10, l11, l12, l13], [], h) := by
  refine g_base (by decide +kernel : decode (m_byt 278) 122 = .ok (.iconst 1, 1)) rfl rfl ?_
  show m_run Z (278, 123, [l0, l1, l2, l3, l4, l5, l6, l7, l8, l9, l10, l11, l12, l13], [(0, 1), (0, s0)], h) = _
  exact g_brn (t := 164) (off := 41) (by decide +kernel : decode (m_byt 278) 123 = .ok (.if_icmp .ne 41, 3)) rfl rfl (by decide)
theorem b_278_126 {Z : mZ} {l2 l3 l4 l5 l9 l10 l11 l12 l13 : mV} {x1 x6 x7 x8 : Int} {r0 : Nat} {h : mH} : m_run Z (278, 126, [(2, ((r0 : Nat) : Int)), (0, x1), l2, l3, l4, l5, (0, x6), (0, x7), (0, x8), l9, l10, l11, l12, l13], [], h) = (m_cl Z 258 [(2, ((r0 : Nat) : Int)), (0, x1), (0, x6), (0, x7), (0, x8), (0, 0)] h).bind (m_aft (m_run Z) 278 135 [(2, ((r0 : Nat) : Int)), (0, x1), l2, l3, l4, l5, (0, x6), (0, x7), (0, x8), l9, l10, l11, l12, l13] []) := by
  refine g_aload_n (k := 0) (v := (2, ((r0 : Nat) : Int))) (by decide +kernel : decode (m_byt 278) 126 = .ok (.aload_n 0, 1)) rfl (Or.inl rfl) ?_
  refine g_iload_n (k := 1) (x := x1) (by decide +kernel : decode (m_byt 278) 127 = .ok (.iload_n 1, 1)) rfl ?_
  refine g_iload (k := 6) (x := x6) (by decide +kernel : decode (m_byt 278) 128 = .ok (.iload 6, 2)) rfl ?_
  refine g_iload (k := 7) (x := x7) (by decide +kernel : decode (m_byt 278) 130 = .ok (.iload 7, 2)) rfl ?_
  refine g_iload (k := 8) (x := x8) (by decide +kernel : decode (m_byt 278) 132 = .ok (.iload 8, 2)) rfl ?_
  refine g_base (by decide +kernel : decode (m_byt 278) 134 = .ok (.iconst 0, 1)) rfl rfl ?_
  show m_run Z (278, 135, [(2, ((r0 : Nat) : Int)), (0, x1), l2, l3, l4, l5, (0, x6), (0, x7), (0, x8), l9, l10, l11, l12, l13], [(0, 0), (0, x8), (0, x7), (0, x6), (0, x1), (2, ((r0 : Nat) : Int))], h) = _
  exact g_inv (k := 0) (m' := 258) (np := 6) (as := [(2, ((r0 : Nat) : Int)), (0, x1), (0, x6), (0, x7), (0, x8), (0, 0)]) (by decide +kernel : decode (m_byt 278) 135 = .ok (.invokestatic 164, 3)) (Or.inr (Or.inr ⟨rfl, rfl, by decide, by decide⟩)) (by decide +kernel) (by decide +kernel) (by decide +kernel) (Nat.le_of_ble_eq_true rfl) rfl (Or.inl rfl)
theorem b_278_138 {Z : mZ} {l0 l1 l2 l3 l5 l6 l7 l8 l9 l10 l11 l12 l13 : mV} {s0 x4 : Int} {h : mH} : m_run Z (278, 138, [l0, l1, l2, l3, (0, x4), l5, l6, l7, l8, l9, l10, l11, l12, l13], [(0, s0)], h) = if w32 s0 = w32 x4 then m_run Z (278, 143, [l0, l1, l2, l3, (0, x4), l5, l6, l7, l8, l9, l10, l11, l12, l13], [], h) else m_run Z (278, 164, [l0, l1, l2, l3, (0, x4), l5, l6, l7, l8, l9, l10, l11, l12, l13], [], h) := by
  refine g_iload (k := 4) (x := x4) (by decide +kernel : decode (m_byt 278) 138 = .ok (.iload 4, 2)) rfl ?_
  exact g_brn (t := 164) (off := 24) (by decide +kernel : decode (m_byt 278) 140 = .ok (.if_icmp .ne 24, 3)) rfl rfl (by decide)
theorem b_278_143 {Z : mZ} {l2 l3 l4 l5 l9 l10 l11 l12 l13 : mV} {x1 x6 x7 x8 : Int} {r0 : Nat} {h : mH} : m_run Z (278, 143, [(2, ((r0 : Nat) : Int)), (0, x1), l2, l3, l4, l5, (0, x6), (0, x7), (0, x8), l9, l10, l11, l12, l13], [], h) = (m_cl Z 258 [(2, ((r0 : Nat) : Int)), (0, x1), (0, x6), (0, x7), (0, x8), (0, 1)] h).bind (m_aft (m_run Z) 278 152 [(2, ((r0 : Nat) : Int)), (0, x1), l2, l3, l4, l5, (0, x6), (0, x7), (0, x8), l9, l10, l11, l12, l13] []) := by
  refine g_aload_n (k := 0) (v := (2, ((r0 : Nat) : Int))) (by decide +kernel : decode (m_byt 278) 143 = .ok (.aload_n 0, 1)) rfl (Or.inl rfl) ?_
  refine g_iload_n (k := 1) (x := x1) (by decide +kernel : decode (m_byt 278) 144 = .ok (.iload_n 1, 1)) rfl ?_
  refine g_iload (k := 6) (x := x6) (by decide +kernel : decode (m_byt 278) 145 = .ok (.iload 6, 2)) rfl ?_
  refine g_iload (k := 7) (x := x7) (by decide +kernel : decode (m_byt 278) 147 = .ok (.iload 7, 2)) rfl ?_
  refine g_iload (k := 8) (x := x8) (by decide +kernel : decode (m_byt 278) 149 = .ok (.iload 8, 2)) rfl ?_
  refine g_base (by decide +kernel : decode (m_byt 278) 151 = .ok (.iconst 1, 1)) rfl rfl ?_
  show m_run Z (278, 152, [(2, ((r0 : Nat) : Int)), (0, x1), l2, l3, l4, l5, (0, x6), (0, x7), (0, x8), l9, l10, l11, l12, l13], [(0, 1), (0, x8), (0, x7), (0, x6), (0, x1), (2, ((r0 : Nat) : Int))], h) = _
  exact g_inv (k := 0) (m' := 258) (np := 6) (as := [(2, ((r0 : Nat) : Int)), (0, x1), (0, x6), (0, x7), (0, x8), (0, 1)]) (by decide +kernel : decode (m_byt 278) 152 = .ok (.invokestatic 164, 3)) (Or.inr (Or.inr ⟨rfl, rfl, by decide, by decide⟩)) (by decide +kernel) (by decide +kernel) (by decide +kernel) (Nat.le_of_ble_eq_true rfl) rfl (Or.inl rfl)
theorem b_278_155 {Z : mZ} {l0 l1 l2 l3 l4 l6 l7 l8 l9 l10 l11 l12 l13 : mV} {s0 x5 : Int} {h : mH} : m_run Z (278, 155, [l0, l1, l2, l3, l4, (0, x5), l6, l7, l8, l9, l10, l11, l12, l13], [(0, s0)], h) = if w32 s0 = w32 x5 then m_run Z (278, 160, [l0, l1, l2, l3, l4, (0, x5), l6, l7, l8, l9, l10, l11, l12, l13], [], h) else m_run Z (278, 164, [l0, l1, l2, l3, l4, (0, x5), l6, l7, l8, l9, l10, l11, l12, l13], [], h) := by
  refine g_iload (k := 5) (x := x5) (by decide +kernel : decode (m_byt 278) 155 = .ok (.iload 5, 2)) rfl ?_
  exact g_brn (t := 164) (off := 7) (by decide +kernel : decode (m_byt 278) 157 = .ok (.if_icmp .ne 7, 3)) rfl rfl (by decide)
theorem b_278_160 {Z : mZ} {l2 l3 l4 l5 l6 l7 l9 l10 l11 l12 l13 : mV} {x8 x1 : Int} {r0 : Nat} {h : mH} : m_run Z (278, 160, [(2, ((r0 : Nat) : Int)), (0, x1), l2, l3, l4, l5, l6, l7, (0, x8), l9, l10, l11, l12, l13], [], h) = (m_cl Z 263 [(2, ((r0 : Nat) : Int)), (0, x1)] h).bind (m_aft (m_run Z) 278 169 [(2, ((r0 : Nat) : Int)), (0, x1), l2, l3, l4, l5, l6, l7, (0, x8), (0, 1), l10, l11, l12, l13] []) := by
  refine g_base (by decide +kernel : decode (m_byt 278) 160 = .ok (.iconst 1, 1)) rfl rfl ?_
  show m_run Z (278, 161, [(2, ((r0 : Nat) : Int)), (0, x1), l2, l3, l4, l5, l6, l7, (0, x8), l9, l10, l11, l12, l13], [(0, 1)], h) = _
  refine g_jmp (t := 165) (by decide +kernel : decode (m_byt 278) 161 = .ok (.goto 4, 3)) (by decide) ?_
  refine g_istore (k := 9) (by decide +kernel : decode (m_byt 278) 165 = .ok (.istore 9, 2)) (Nat.le_of_ble_eq_true rfl) ?_
  show m_run Z (278, 167, [(2, ((r0 : Nat) : Int)), (0, x1), l2, l3, l4, l5, l6, l7, (0, x8), (0, 1), l10, l11, l12, l13], [], h) = _
  refine g_aload_n (k := 0) (v := (2, ((r0 : Nat) : Int))) (by decide +kernel : decode (m_byt 278) 167 = .ok (.aload_n 0, 1)) rfl (Or.inl rfl) ?_
  refine g_iload_n (k := 1) (x := x1) (by decide +kernel : decode (m_byt 278) 168 = .ok (.iload_n 1, 1)) rfl ?_
  exact g_inv (k := 0) (m' := 263) (np := 2) (as := [(2, ((r0 : Nat) : Int)), (0, x1)]) (by decide +kernel : decode (m_byt 278) 169 = .ok (.invokestatic 175, 3)) (Or.inr (Or.inr ⟨rfl, rfl, by decide, by decide⟩)) (by decide +kernel) (by decide +kernel) (by decide +kernel) (Nat.le_of_ble_eq_true rfl) rfl (Or.inl rfl)
theorem b_278_164 {Z : mZ} {l0 l1 l2 l3 l4 l5 l6 l7 l8 l9 l10 l11 l12 l13 : mV} {h : mH} : m_run Z (278, 164, [l0, l1, l2, l3, l4, l5, l6, l7, l8, l9, l10, l11, l12, l13], [], h) = m_run Z (278, 165, [l0, l1, l2, l3, l4, l5, l6, l7, l8, l9, l10, l11, l12, l13], [(0, 0)], h) := by
  refine g_base (by decide +kernel : decode (m_byt 278) 164 = .ok (.iconst 0, 1)) rfl rfl ?_
  show m_run Z (278, 165, [l0, l1, l2, l3, l4, l5, l6, l7, l8, l9, l10, l11, l12, l13], [(0, 0)], h) = _
  rfl
theorem b_278_165 {Z : mZ} {l2 l3 l4 l5 l6 l7 l9 l10 l11 l12 l13 : mV} {s0 x8 x1 : Int} {r0 : Nat} {h : mH} : m_run Z (278, 165, [(2, ((r0 : Nat) : Int)), (0, x1), l2, l3, l4, l5, l6, l7, (0, x8), l9, l10, l11, l12, l13], [(0, s0)], h) = (m_cl Z 263 [(2, ((r0 : Nat) : Int)), (0, x1)] h).bind (m_aft (m_run Z) 278 169 [(2, ((r0 : Nat) : Int)), (0, x1), l2, l3, l4, l5, l6, l7, (0, x8), (0, s0), l10, l11, l12, l13] []) := by
  refine g_istore (k := 9) (by decide +kernel : decode (m_byt 278) 165 = .ok (.istore 9, 2)) (Nat.le_of_ble_eq_true rfl) ?_
  show m_run Z (278, 167, [(2, ((r0 : Nat) : Int)), (0, x1), l2, l3, l4, l5, l6, l7, (0, x8), (0, s0), l10, l11, l12, l13], [], h) = _
  refine g_aload_n (k := 0) (v := (2, ((r0 : Nat) : Int))) (by decide +kernel : decode (m_byt 278) 167 = .ok (.aload_n 0, 1)) rfl (Or.inl rfl) ?_
  refine g_iload_n (k := 1) (x := x1) (by decide +kernel : decode (m_byt 278) 168 = .ok (.iload_n 1, 1)) rfl ?_
  exact g_inv (k := 0) (m' := 263) (np := 2) (as := [(2, ((r0 : Nat) : Int)), (0, x1)]) (by decide +kernel : decode (m_byt 278) 169 = .ok (.invokestatic 175, 3)) (Or.inr (Or.inr ⟨rfl, rfl, by decide, by decide⟩)) (by decide +kernel) (by decide +kernel) (by decide +kernel) (Nat.le_of_ble_eq_true rfl) rfl (Or.inl rfl)
theorem b_278_172 {Z : mZ} {l0 l1 l2 l3 l4 l5 l6 l7 l8 l10 l11 l12 l13 : mV} {s0 x9 : Int} {h : mH} : m_run Z (278, 172, [l0, l1, l2, l3, l4, l5, l6, l7, l8, (0, x9), l10, l11, l12, l13], [(0, s0)], h) = if w32 x9 = 0 then m_run Z (278, 201, [l0, l1, l2, l3, l4, l5, l6, l7, l8, (0, x9), (0, s0), l11, l12, l13], [], h) else m_run Z (278, 179, [l0, l1, l2, l3, l4, l5, l6, l7, l8, (0, x9), (0, s0), l11, l12, l13], [], h) := by
  refine g_istore (k := 10) (by decide +kernel : decode (m_byt 278) 172 = .ok (.istore 10, 2)) (Nat.le_of_ble_eq_true rfl) ?_
  show m_run Z (278, 174, [l0, l1, l2, l3, l4, l5, l6, l7, l8, (0, x9), (0, s0), l11, l12, l13], [], h) = _
  refine g_iload (k := 9) (x := x9) (by decide +kernel : decode (m_byt 278) 174 = .ok (.iload 9, 2)) rfl ?_
  exact g_brq (t := 201) (off := 25) (by decide +kernel : decode (m_byt 278) 176 = .ok (.ifCond .eq 25, 3)) rfl rfl (by decide)
theorem b_278_179 {Z : mZ} {l0 l2 l3 l4 l5 l6 l7 l8 l9 l11 l12 l13 : mV} {x10 x1 : Int} {h : mH} : m_run Z (278, 179, [l0, (0, x1), l2, l3, l4, l5, l6, l7, l8, l9, (0, x10), l11, l12, l13], [], h) = if w32 (i_and x10 (i_xor x1 (-1))) = 0 then m_run Z (278, 188, [l0, (0, x1), l2, l3, l4, l5, l6, l7, l8, l9, (0, x10), l11, l12, l13], [], h) else m_run Z (278, 201, [l0, (0, x1), l2, l3, l4, l5, l6, l7, l8, l9, (0, x10), l11, l12, l13], [], h) := by
  refine g_iload (k := 10) (x := x10) (by decide +kernel : decode (m_byt 278) 179 = .ok (.iload 10, 2)) rfl ?_
  refine g_iload_n (k := 1) (x := x1) (by decide +kernel : decode (m_byt 278) 181 = .ok (.iload_n 1, 1)) rfl ?_
  refine g_base (by decide +kernel : decode (m_byt 278) 182 = .ok (.iconst (-1), 1)) rfl rfl ?_
  show m_run Z (278, 183, [l0, (0, x1), l2, l3, l4, l5, l6, l7, l8, l9, (0, x10), l11, l12, l13], [(0, (-1)), (0, x1), (0, x10)], h) = _
  refine g_base (by decide +kernel : decode (m_byt 278) 183 = .ok (.ixor, 1)) rfl rfl ?_
  show m_run Z (278, 184, [l0, (0, x1), l2, l3, l4, l5, l6, l7, l8, l9, (0, x10), l11, l12, l13], [(0, (i_xor x1 (-1))), (0, x10)], h) = _
  refine g_base (by decide +kernel : decode (m_byt 278) 184 = .ok (.iand, 1)) rfl rfl ?_
  show m_run Z (278, 185, [l0, (0, x1), l2, l3, l4, l5, l6, l7, l8, l9, (0, x10), l11, l12, l13], [(0, (i_and x10 (i_xor x1 (-1))))], h) = _
  exact g_brn (t := 201) (off := 16) (by decide +kernel : decode (m_byt 278) 185 = .ok (.ifCond .ne 16, 3)) rfl rfl (by decide)
theorem b_278_188 {Z : mZ} {l0 l1 l2 l3 l4 l5 l6 l7 l8 l9 l11 l12 l13 : mV} {x10 : Int} {h : mH} : m_run Z (278, 188, [l0, l1, l2, l3, l4, l5, l6, l7, l8, l9, (0, x10), l11, l12, l13], [], h) = if w32 x10 = 0 then m_run Z (278, 193, [l0, l1, l2, l3, l4, l5, l6, l7, l8, l9, (0, x10), l11, l12, l13], [], h) else m_run Z (278, 197, [l0, l1, l2, l3, l4, l5, l6, l7, l8, l9, (0, x10), l11, l12, l13], [], h) := by
  refine g_iload (k := 10) (x := x10) (by decide +kernel : decode (m_byt 278) 188 = .ok (.iload 10, 2)) rfl ?_
  exact g_brn (t := 197) (off := 7) (by decide +kernel : decode (m_byt 278) 190 = .ok (.ifCond .ne 7, 3)) rfl rfl (by decide)
theorem b_278_193 {Z : mZ} {l0 l2 l3 l4 l5 l6 l7 l8 l9 l10 l11 l12 l13 : mV} {x1 : Int} {h : mH} : m_run Z (278, 193, [l0, (0, x1), l2, l3, l4, l5, l6, l7, l8, l9, l10, l11, l12, l13], [], h) = if w32 x1 = 0 then m_run Z (278, 197, [l0, (0, x1), l2, l3, l4, l5, l6, l7, l8, l9, l10, l11, l12, l13], [], h) else m_run Z (278, 201, [l0, (0, x1), l2, l3, l4, l5, l6, l7, l8, l9, l10, l11, l12, l13], [], h) := by
  refine g_iload_n (k := 1) (x := x1) (by decide +kernel : decode (m_byt 278) 193 = .ok (.iload_n 1, 1)) rfl ?_
  exact g_brn (t := 201) (off := 7) (by decide +kernel : decode (m_byt 278) 194 = .ok (.ifCond .ne 7, 3)) rfl rfl (by decide)
theorem b_278_197 {Z : mZ} {l0 l1 l2 l3 l4 l5 l6 l7 l9 l11 l12 l13 : mV} {x8 x10 : Int} {h : mH} : m_run Z (278, 197, [l0, l1, l2, l3, l4, l5, l6, l7, (0, x8), l9, (0, x10), l11, l12, l13], [], h) = m_run Z (278, 207, [l0, l1, l2, l3, l4, l5, l6, l7, (0, x8), (0, 1), (0, x10), (0, 0), l12, l13], [], h) := by
  refine g_base (by decide +kernel : decode (m_byt 278) 197 = .ok (.iconst 1, 1)) rfl rfl ?_
  show m_run Z (278, 198, [l0, l1, l2, l3, l4, l5, l6, l7, (0, x8), l9, (0, x10), l11, l12, l13], [(0, 1)], h) = _
  refine g_jmp (t := 202) (by decide +kernel : decode (m_byt 278) 198 = .ok (.goto 4, 3)) (by decide) ?_
  refine g_istore (k := 9) (by decide +kernel : decode (m_byt 278) 202 = .ok (.istore 9, 2)) (Nat.le_of_ble_eq_true rfl) ?_
  show m_run Z (278, 204, [l0, l1, l2, l3, l4, l5, l6, l7, (0, x8), (0, 1), (0, x10), l11, l12, l13], [], h) = _
  refine g_base (by decide +kernel : decode (m_byt 278) 204 = .ok (.iconst 0, 1)) rfl rfl ?_
  show m_run Z (278, 205, [l0, l1, l2, l3, l4, l5, l6, l7, (0, x8), (0, 1), (0, x10), l11, l12, l13], [(0, 0)], h) = _
  refine g_istore (k := 11) (by decide +kernel : decode (m_byt 278) 205 = .ok (.istore 11, 2)) (Nat.le_of_ble_eq_true rfl) ?_
  show m_run Z (278, 207, [l0, l1, l2, l3, l4, l5, l6, l7, (0, x8), (0, 1), (0, x10), (0, 0), l12, l13], [], h) = _
  rfl
theorem b_278_201 {Z : mZ} {l0 l1 l2 l3 l4 l5 l6 l7 l8 l9 l10 l11 l12 l13 : mV} {h : mH} : m_run Z (278, 201, [l0, l1, l2, l3, l4, l5, l6, l7, l8, l9, l10, l11, l12, l13], [], h) = m_run Z (278, 202, [l0, l1, l2, l3, l4, l5, l6, l7, l8, l9, l10, l11, l12, l13], [(0, 0)], h) := by
  refine g_base (by decide +kernel : decode (m_byt 278) 201 = .ok (.iconst 0, 1)) rfl rfl ?_
  show m_run Z (278, 202, [l0, l1, l2, l3, l4, l5, l6, l7, l8, l9, l10, l11, l12, l13], [(0, 0)], h) = _
  rfl
theorem b_278_202 {Z : mZ} {l0 l1 l2 l3 l4 l5 l6 l7 l9 l11 l12 l13 : mV} {s0 x8 x10 : Int} {h : mH} : m_run Z (278, 202, [l0, l1, l2, l3, l4, l5, l6, l7, (0, x8), l9, (0, x10), l11, l12, l13], [(0, s0)], h) = m_run Z (278, 207, [l0, l1, l2, l3, l4, l5, l6, l7, (0, x8), (0, s0), (0, x10), (0, 0), l12, l13], [], h) := by
  refine g_istore (k := 9) (by decide +kernel : decode (m_byt 278) 202 = .ok (.istore 9, 2)) (Nat.le_of_ble_eq_true rfl) ?_
  show m_run Z (278, 204, [l0, l1, l2, l3, l4, l5, l6, l7, (0, x8), (0, s0), (0, x10), l11, l12, l13], [], h) = _
  refine g_base (by decide +kernel : decode (m_byt 278) 204 = .ok (.iconst 0, 1)) rfl rfl ?_
  show m_run Z (278, 205, [l0, l1, l2, l3, l4, l5, l6, l7, (0, x8), (0, s0), (0, x10), l11, l12, l13], [(0, 0)], h) = _
  refine g_istore (k := 11) (by decide +kernel : decode (m_byt 278) 205 = .ok (.istore 11, 2)) (Nat.le_of_ble_eq_true rfl) ?_
  show m_run Z (278, 207, [l0, l1, l2, l3, l4, l5, l6, l7, (0, x8), (0, s0), (0, x10), (0, 0), l12, l13], [], h) = _
  rfl
theorem b_278_207 {Z : mZ} {l1 l2 l3 l4 l5 l6 l7 l8 l9 l10 l12 l13 : mV} {x11 : Int} {r0 : Nat} {h : mH} : m_run Z (278, 207, [(2, ((r0 : Nat) : Int)), l1, l2, l3, l4, l5, l6, l7, l8, l9, l10, (0, x11), l12, l13], [], h) = (m_cl Z 250 [(2, ((r0 : Nat) : Int)), (0, 0)] h).bind (m_aft (m_run Z) 278 211 [(2, ((r0 : Nat) : Int)), l1, l2, l3, l4, l5, l6, l7, l8, l9, l10, (0, x11), l12, l13] [(0, x11)]) := by
  refine g_iload (k := 11) (x := x11) (by decide +kernel : decode (m_byt 278) 207 = .ok (.iload 11, 2)) rfl ?_
  refine g_aload_n (k := 0) (v := (2, ((r0 : Nat) : Int))) (by decide +kernel : decode (m_byt 278) 209 = .ok (.aload_n 0, 1)) rfl (Or.inl rfl) ?_
  refine g_base (by decide +kernel : decode (m_byt 278) 210 = .ok (.iconst 0, 1)) rfl rfl ?_
  show m_run Z (278, 211, [(2, ((r0 : Nat) : Int)), l1, l2, l3, l4, l5, l6, l7, l8, l9, l10, (0, x11), l12, l13], [(0, 0), (2, ((r0 : Nat) : Int)), (0, x11)], h) = _
  exact g_inv (k := 0) (m' := 250) (np := 2) (as := [(2, ((r0 : Nat) : Int)), (0, 0)]) (by decide +kernel : decode (m_byt 278) 211 = .ok (.invokestatic 149, 3)) (Or.inr (Or.inr ⟨rfl, rfl, by decide, by decide⟩)) (by decide +kernel) (by decide +kernel) (by decide +kernel) (Nat.le_of_ble_eq_true rfl) rfl (Or.inl rfl)
theorem b_278_214 {Z : mZ} {l0 l1 l2 l3 l4 l5 l6 l7 l8 l9 l10 l11 l12 l13 : mV} {s0 s1 : Int} {h : mH} : m_run Z (278, 214, [l0, l1, l2, l3, l4, l5, l6, l7, l8, l9, l10, l11, l12, l13], [(0, s0), (0, s1)], h) = if w32 s0 ≤ w32 s1 then m_run Z (278, 294, [l0, l1, l2, l3, l4, l5, l6, l7, l8, l9, l10, l11, l12, l13], [], h) else m_run Z (278, 217, [l0, l1, l2, l3, l4, l5, l6, l7, l8, l9, l10, l11, l12, l13], [], h) := by
  exact g_brq (t := 294) (off := 80) (by decide +kernel : decode (m_byt 278) 214 = .ok (.if_icmp .ge 80, 3)) rfl rfl (by decide)
theorem b_278_217 {Z : mZ} {l0 l1 l2 l3 l4 l5 l6 l7 l8 l10 l11 l12 l13 : mV} {x9 : Int} {h : mH} : m_run Z (278, 217, [l0, l1, l2, l3, l4, l5, l6, l7, l8, (0, x9), l10, l11, l12, l13], [], h) = if w32 x9 = 0 then m_run Z (278, 294, [l0, l1, l2, l3, l4, l5, l6, l7, l8, (0, x9), l10, l11, l12, l13], [], h) else m_run Z (278, 222, [l0, l1, l2, l3, l4, l5, l6, l7, l8, (0, x9), l10, l11, l12, l13], [], h) := by
  refine g_iload (k := 9) (x := x9) (by decide +kernel : decode (m_byt 278) 217 = .ok (.iload 9, 2)) rfl ?_
  exact g_brq (t := 294) (off := 75) (by decide +kernel : decode (m_byt 278) 219 = .ok (.ifCond .eq 75, 3)) rfl rfl (by decide)
theorem b_278_222 {Z : mZ} {l0 l1 l2 l3 l4 l5 l6 l7 l8 l9 l12 l13 : mV} {x10 x11 : Int} {h : mH} : m_run Z (278, 222, [l0, l1, l2, l3, l4, l5, l6, l7, l8, l9, (0, x10), (0, x11), l12, l13], [], h) = (m_cl Z 275 [(0, x10), (0, x11)] h).bind (m_aft (m_run Z) 278 226 [l0, l1, l2, l3, l4, l5, l6, l7, l8, l9, (0, x10), (0, x11), l12, l13] []) := by
  refine g_iload (k := 10) (x := x10) (by decide +kernel : decode (m_byt 278) 222 = .ok (.iload 10, 2)) rfl ?_
  refine g_iload (k := 11) (x := x11) (by decide +kernel : decode (m_byt 278) 224 = .ok (.iload 11, 2)) rfl ?_
  exact g_inv (k := 0) (m' := 275) (np := 2) (as := [(0, x10), (0, x11)]) (by decide +kernel : decode (m_byt 278) 226 = .ok (.invokestatic 196, 3)) (Or.inr (Or.inr ⟨rfl, rfl, by decide, by decide⟩)) (by decide +kernel) (by decide +kernel) (by decide +kernel) (Nat.le_of_ble_eq_true rfl) rfl (Or.inl rfl)
theorem b_278_229 {Z : mZ} {l0 l1 l2 l3 l4 l5 l6 l7 l8 l9 l10 l11 l12 l13 : mV} {s0 : Int} {h : mH} : m_run Z (278, 229, [l0, l1, l2, l3, l4, l5, l6, l7, l8, l9, l10, l11, l12, l13], [(0, s0)], h) = if w32 s0 = 0 then m_run Z (278, 288, [l0, l1, l2, l3, l4, l5, l6, l7, l8, l9, l10, l11, l12, l13], [], h) else m_run Z (278, 232, [l0, l1, l2, l3, l4, l5, l6, l7, l8, l9, l10, l11, l12, l13], [], h) := by
  exact g_brq (t := 288) (off := 59) (by decide +kernel : decode (m_byt 278) 229 = .ok (.ifCond .eq 59, 3)) rfl rfl (by decide)
theorem b_278_232 {Z : mZ} {l1 l2 l3 l4 l5 l6 l7 l8 l9 l10 l12 l13 : mV} {x11 : Int} {r0 : Nat} {h : mH} : m_run Z (278, 232, [(2, ((r0 : Nat) : Int)), l1, l2, l3, l4, l5, l6, l7, l8, l9, l10, (0, x11), l12, l13], [], h) = (m_cl Z 252 [(2, ((r0 : Nat) : Int)), (0, x11), (0, 0)] h).bind (m_aft (m_run Z) 278 236 [(2, ((r0 : Nat) : Int)), l1, l2, l3, l4, l5, l6, l7, l8, l9, l10, (0, x11), l12, l13] []) := by
  refine g_aload_n (k := 0) (v := (2, ((r0 : Nat) : Int))) (by decide +kernel : decode (m_byt 278) 232 = .ok (.aload_n 0, 1)) rfl (Or.inl rfl) ?_
  refine g_iload (k := 11) (x := x11) (by decide +kernel : decode (m_byt 278) 233 = .ok (.iload 11, 2)) rfl ?_
  refine g_base (by decide +kernel : decode (m_byt 278) 235 = .ok (.iconst 0, 1)) rfl rfl ?_
  show m_run Z (278, 236, [(2, ((r0 : Nat) : Int)), l1, l2, l3, l4, l5, l6, l7, l8, l9, l10, (0, x11), l12, l13], [(0, 0), (0, x11), (2, ((r0 : Nat) : Int))], h) = _
  exact g_inv (k := 0) (m' := 252) (np := 3) (as := [(2, ((r0 : Nat) : Int)), (0, x11), (0, 0)]) (by decide +kernel : decode (m_byt 278) 236 = .ok (.invokestatic 117, 3)) (Or.inr (Or.inr ⟨rfl, rfl, by decide, by decide⟩)) (by decide +kernel) (by decide +kernel) (by decide +kernel) (Nat.le_of_ble_eq_true rfl) rfl (Or.inl rfl)
theorem b_278_239 {Z : mZ} {l1 l2 l3 l4 l5 l9 l10 l12 l13 : mV} {s0 x11 x6 x7 x8 : Int} {r0 : Nat} {h : mH} : m_run Z (278, 239, [(2, ((r0 : Nat) : Int)), l1, l2, l3, l4, l5, (0, x6), (0, x7), (0, x8), l9, l10, (0, x11), l12, l13], [(0, s0)], h) = (m_cl Z 256 [(2, ((r0 : Nat) : Int)), (0, x11), (0, x6), (0, x7), (0, x8), (0, 0)] h).bind (m_aft (m_run Z) 278 250 [(2, ((r0 : Nat) : Int)), l1, l2, l3, l4, l5, (0, x6), (0, x7), (0, x8), l9, l10, (0, x11), l12, l13] [(1, (w32 s0))]) := by
  refine g_base (by decide +kernel : decode (m_byt 278) 239 = .ok (.i2l, 1)) rfl rfl ?_
  show m_run Z (278, 240, [(2, ((r0 : Nat) : Int)), l1, l2, l3, l4, l5, (0, x6), (0, x7), (0, x8), l9, l10, (0, x11), l12, l13], [(1, (w32 s0))], h) = _
  refine g_aload_n (k := 0) (v := (2, ((r0 : Nat) : Int))) (by decide +kernel : decode (m_byt 278) 240 = .ok (.aload_n 0, 1)) rfl (Or.inl rfl) ?_
  refine g_iload (k := 11) (x := x11) (by decide +kernel : decode (m_byt 278) 241 = .ok (.iload 11, 2)) rfl ?_
  refine g_iload (k := 6) (x := x6) (by decide +kernel : decode (m_byt 278) 243 = .ok (.iload 6, 2)) rfl ?_
  refine g_iload (k := 7) (x := x7) (by decide +kernel : decode (m_byt 278) 245 = .ok (.iload 7, 2)) rfl ?_
  refine g_iload (k := 8) (x := x8) (by decide +kernel : decode (m_byt 278) 247 = .ok (.iload 8, 2)) rfl ?_
  refine g_base (by decide +kernel : decode (m_byt 278) 249 = .ok (.iconst 0, 1)) rfl rfl ?_
  show m_run Z (278, 250, [(2, ((r0 : Nat) : Int)), l1, l2, l3, l4, l5, (0, x6), (0, x7), (0, x8), l9, l10, (0, x11), l12, l13], [(0, 0), (0, x8), (0, x7), (0, x6), (0, x11), (2, ((r0 : Nat) : Int)), (1, (w32 s0))], h) = _
  exact g_inv (k := 0) (m' := 256) (np := 6) (as := [(2, ((r0 : Nat) : Int)), (0, x11), (0, x6), (0, x7), (0, x8), (0, 0)]) (by decide +kernel : decode (m_byt 278) 250 = .ok (.invokestatic 159, 3)) (Or.inr (Or.inr ⟨rfl, rfl, by decide, by decide⟩)) (by decide +kernel) (by decide +kernel) (by decide +kernel) (Nat.le_of_ble_eq_true rfl) rfl (Or.inl rfl)
theorem b_278_253 {Z : mZ} {l1 l2 l3 l9 l10 l12 l13 : mV} {s0 s1 x5 x4 x11 x6 x7 x8 : Int} {r0 : Nat} {h : mH} : m_run Z (278, 253, [(2, ((r0 : Nat) : Int)), l1, l2, l3, (0, x4), (0, x5), (0, x6), (0, x7), (0, x8), l9, l10, (0, x11), l12, l13], [(0, s0), (1, s1)], h) = (m_cl Z 256 [(2, ((r0 : Nat) : Int)), (0, x11), (0, x6), (0, x7), (0, x8), (0, 1)] h).bind (m_aft (m_run Z) 278 272 [(2, ((r0 : Nat) : Int)), l1, l2, l3, (0, x4), (0, x5), (0, x6), (0, x7), (0, x8), l9, l10, (0, x11), l12, l13] [(1, (w32 x4)), (1, ((s1 * (w32 s0)) * (w32 x5)))]) := by
  refine g_base (by decide +kernel : decode (m_byt 278) 253 = .ok (.i2l, 1)) rfl rfl ?_
  show m_run Z (278, 254, [(2, ((r0 : Nat) : Int)), l1, l2, l3, (0, x4), (0, x5), (0, x6), (0, x7), (0, x8), l9, l10, (0, x11), l12, l13], [(1, (w32 s0)), (1, s1)], h) = _
  refine g_base (by decide +kernel : decode (m_byt 278) 254 = .ok (.lmul, 1)) rfl rfl ?_
  show m_run Z (278, 255, [(2, ((r0 : Nat) : Int)), l1, l2, l3, (0, x4), (0, x5), (0, x6), (0, x7), (0, x8), l9, l10, (0, x11), l12, l13], [(1, (s1 * (w32 s0)))], h) = _
  refine g_iload (k := 5) (x := x5) (by decide +kernel : decode (m_byt 278) 255 = .ok (.iload 5, 2)) rfl ?_
  refine g_base (by decide +kernel : decode (m_byt 278) 257 = .ok (.i2l, 1)) rfl rfl ?_
  show m_run Z (278, 258, [(2, ((r0 : Nat) : Int)), l1, l2, l3, (0, x4), (0, x5), (0, x6), (0, x7), (0, x8), l9, l10, (0, x11), l12, l13], [(1, (w32 x5)), (1, (s1 * (w32 s0)))], h) = _
  refine g_base (by decide +kernel : decode (m_byt 278) 258 = .ok (.lmul, 1)) rfl rfl ?_
  show m_run Z (278, 259, [(2, ((r0 : Nat) : Int)), l1, l2, l3, (0, x4), (0, x5), (0, x6), (0, x7), (0, x8), l9, l10, (0, x11), l12, l13], [(1, ((s1 * (w32 s0)) * (w32 x5)))], h) = _
  refine g_iload (k := 4) (x := x4) (by decide +kernel : decode (m_byt 278) 259 = .ok (.iload 4, 2)) rfl ?_
  refine g_base (by decide +kernel : decode (m_byt 278) 261 = .ok (.i2l, 1)) rfl rfl ?_
  show m_run Z (278, 262, [(2, ((r0 : Nat) : Int)), l1, l2, l3, (0, x4), (0, x5), (0, x6), (0, x7), (0, x8), l9, l10, (0, x11), l12, l13], [(1, (w32 x4)), (1, ((s1 * (w32 s0)) * (w32 x5)))], h) = _
  refine g_aload_n (k := 0) (v := (2, ((r0 : Nat) : Int))) (by decide +kernel : decode (m_byt 278) 262 = .ok (.aload_n 0, 1)) rfl (Or.inl rfl) ?_
  refine g_iload (k := 11) (x := x11) (by decide +kernel : decode (m_byt 278) 263 = .ok (.iload 11, 2)) rfl ?_
  refine g_iload (k := 6) (x := x6) (by decide +kernel : decode (m_byt 278) 265 = .ok (.iload 6, 2)) rfl ?_
  refine g_iload (k := 7) (x := x7) (by decide +kernel : decode (m_byt 278) 267 = .ok (.iload 7, 2)) rfl ?_
  refine g_iload (k := 8) (x := x8) (by decide +kernel : decode (m_byt 278) 269 = .ok (.iload 8, 2)) rfl ?_
  refine g_base (by decide +kernel : decode (m_byt 278) 271 = .ok (.iconst 1, 1)) rfl rfl ?_
  show m_run Z (278, 272, [(2, ((r0 : Nat) : Int)), l1, l2, l3, (0, x4), (0, x5), (0, x6), (0, x7), (0, x8), l9, l10, (0, x11), l12, l13], [(0, 1), (0, x8), (0, x7), (0, x6), (0, x11), (2, ((r0 : Nat) : Int)), (1, (w32 x4)), (1, ((s1 * (w32 s0)) * (w32 x5)))], h) = _
  exact g_inv (k := 0) (m' := 256) (np := 6) (as := [(2, ((r0 : Nat) : Int)), (0, x11), (0, x6), (0, x7), (0, x8), (0, 1)]) (by decide +kernel : decode (m_byt 278) 272 = .ok (.invokestatic 159, 3)) (Or.inr (Or.inr ⟨rfl, rfl, by decide, by decide⟩)) (by decide +kernel) (by decide +kernel) (by decide +kernel) (Nat.le_of_ble_eq_true rfl) rfl (Or.inl rfl)
theorem b_278_275 {Z : mZ} {l0 l1 l2 l3 l4 l5 l6 l7 l8 l9 l10 l11 l12 l13 : mV} {s0 s1 s2 : Int} {h : mH} : m_run Z (278, 275, [l0, l1, l2, l3, l4, l5, l6, l7, l8, l9, l10, l11, l12, l13], [(0, s0), (1, s1), (1, s2)], h) = if w32 (l_cmp s2 (s1 * (w32 s0))) = 0 then m_run Z (278, 281, [l0, l1, l2, l3, l4, l5, l6, l7, l8, l9, l10, l11, l12, l13], [], h) else m_run Z (278, 285, [l0, l1, l2, l3, l4, l5, l6, l7, l8, l9, l10, l11, l12, l13], [], h) := by
  refine g_base (by decide +kernel : decode (m_byt 278) 275 = .ok (.i2l, 1)) rfl rfl ?_
  show m_run Z (278, 276, [l0, l1, l2, l3, l4, l5, l6, l7, l8, l9, l10, l11, l12, l13], [(1, (w32 s0)), (1, s1), (1, s2)], h) = _
  refine g_base (by decide +kernel : decode (m_byt 278) 276 = .ok (.lmul, 1)) rfl rfl ?_
  show m_run Z (278, 277, [l0, l1, l2, l3, l4, l5, l6, l7, l8, l9, l10, l11, l12, l13], [(1, (s1 * (w32 s0))), (1, s2)], h) = _
  refine g_base (by decide +kernel : decode (m_byt 278) 277 = .ok (.lcmp, 1)) rfl rfl ?_
  show m_run Z (278, 278, [l0, l1, l2, l3, l4, l5, l6, l7, l8, l9, l10, l11, l12, l13], [(0, (l_cmp s2 (s1 * (w32 s0))))], h) = _
  exact g_brn (t := 285) (off := 7) (by decide +kernel : decode (m_byt 278) 278 = .ok (.ifCond .ne 7, 3)) rfl rfl (by decide)
theorem b_278_281 {Z : mZ} {l0 l1 l2 l3 l4 l5 l6 l7 l9 l10 l11 l12 l13 : mV} {x8 : Int} {h : mH} : m_run Z (278, 281, [l0, l1, l2, l3, l4, l5, l6, l7, (0, x8), l9, l10, l11, l12, l13], [], h) = m_run Z (278, 288, [l0, l1, l2, l3, l4, l5, l6, l7, (0, x8), (0, 1), l10, l11, l12, l13], [], h) := by
  refine g_base (by decide +kernel : decode (m_byt 278) 281 = .ok (.iconst 1, 1)) rfl rfl ?_
  show m_run Z (278, 282, [l0, l1, l2, l3, l4, l5, l6, l7, (0, x8), l9, l10, l11, l12, l13], [(0, 1)], h) = _
  refine g_jmp (t := 286) (by decide +kernel : decode (m_byt 278) 282 = .ok (.goto 4, 3)) (by decide) ?_
  refine g_istore (k := 9) (by decide +kernel : decode (m_byt 278) 286 = .ok (.istore 9, 2)) (Nat.le_of_ble_eq_true rfl) ?_
  show m_run Z (278, 288, [l0, l1, l2, l3, l4, l5, l6, l7, (0, x8), (0, 1), l10, l11, l12, l13], [], h) = _
  rfl
theorem b_278_285 {Z : mZ} {l0 l1 l2 l3 l4 l5 l6 l7 l8 l9 l10 l11 l12 l13 : mV} {h : mH} : m_run Z (278, 285, [l0, l1, l2, l3, l4, l5, l6, l7, l8, l9, l10, l11, l12, l13], [], h) = m_run Z (278, 286, [l0, l1, l2, l3, l4, l5, l6, l7, l8, l9, l10, l11, l12, l13], [(0, 0)], h) := by
  refine g_base (by decide +kernel : decode (m_byt 278) 285 = .ok (.iconst 0, 1)) rfl rfl ?_
  show m_run Z (278, 286, [l0, l1, l2, l3, l4, l5, l6, l7, l8, l9, l10, l11, l12, l13], [(0, 0)], h) = _
  rfl
theorem b_278_286 {Z : mZ} {l0 l1 l2 l3 l4 l5 l6 l7 l9 l10 l11 l12 l13 : mV} {s0 x8 : Int} {h : mH} : m_run Z (278, 286, [l0, l1, l2, l3, l4, l5, l6, l7, (0, x8), l9, l10, l11, l12, l13], [(0, s0)], h) = m_run Z (278, 288, [l0, l1, l2, l3, l4, l5, l6, l7, (0, x8), (0, s0), l10, l11, l12, l13], [], h) := by
  refine g_istore (k := 9) (by decide +kernel : decode (m_byt 278) 286 = .ok (.istore 9, 2)) (Nat.le_of_ble_eq_true rfl) ?_
  show m_run Z (278, 288, [l0, l1, l2, l3, l4, l5, l6, l7, (0, x8), (0, s0), l10, l11, l12, l13], [], h) = _
  rfl
theorem b_278_288 {Z : mZ} {l0 l1 l2 l3 l4 l5 l6 l7 l8 l9 l12 l13 : mV} {x11 x10 : Int} {h : mH} : m_run Z (278, 288, [l0, l1, l2, l3, l4, l5, l6, l7, l8, l9, (0, x10), (0, x11), l12, l13], [], h) = m_run Z (278, 207, [l0, l1, l2, l3, l4, l5, l6, l7, l8, l9, (0, x10), (0, x11 + 1), l12, l13], [], h) := by
  refine g_iinc (k := 11) (x := x11) (by decide +kernel : decode (m_byt 278) 288 = .ok (.iinc 11 1, 3)) rfl (Nat.le_of_ble_eq_true rfl) ?_
  show m_run Z (278, 291, [l0, l1, l2, l3, l4, l5, l6, l7, l8, l9, (0, x10), (0, x11 + 1), l12, l13], [], h) = _
  refine g_jmp (t := 207) (by decide +kernel : decode (m_byt 278) 291 = .ok (.goto (-84), 3)) (by decide) ?_
  rfl
theorem b_278_294 {Z : mZ} {l0 l1 l2 l3 l4 l5 l6 l7 l8 l9 l11 l12 l13 : mV} {x10 : Int} {h : mH} : m_run Z (278, 294, [l0, l1, l2, l3, l4, l5, l6, l7, l8, l9, (0, x10), l11, l12, l13], [], h) = m_run Z (278, 297, [l0, l1, l2, l3, l4, l5, l6, l7, l8, l9, (0, x10), (0, 0), l12, l13], [], h) := by
  refine g_base (by decide +kernel : decode (m_byt 278) 294 = .ok (.iconst 0, 1)) rfl rfl ?_
  show m_run Z (278, 295, [l0, l1, l2, l3, l4, l5, l6, l7, l8, l9, (0, x10), l11, l12, l13], [(0, 0)], h) = _
  refine g_istore (k := 11) (by decide +kernel : decode (m_byt 278) 295 = .ok (.istore 11, 2)) (Nat.le_of_ble_eq_true rfl) ?_
  show m_run Z (278, 297, [l0, l1, l2, l3, l4, l5, l6, l7, l8, l9, (0, x10), (0, 0), l12, l13], [], h) = _
  rfl
theorem b_278_297 {Z : mZ} {l1 l2 l3 l4 l5 l6 l7 l8 l9 l10 l12 l13 : mV} {x11 : Int} {r0 : Nat} {h : mH} : m_run Z (278, 297, [(2, ((r0 : Nat) : Int)), l1, l2, l3, l4, l5, l6, l7, l8, l9, l10, (0, x11), l12, l13], [], h) = (m_cl Z 250 [(2, ((r0 : Nat) : Int)), (0, 1)] h).bind (m_aft (m_run Z) 278 301 [(2, ((r0 : Nat) : Int)), l1, l2, l3, l4, l5, l6, l7, l8, l9, l10, (0, x11), l12, l13] [(0, x11)]) := by
  refine g_iload (k := 11) (x := x11) (by decide +kernel : decode (m_byt 278) 297 = .ok (.iload 11, 2)) rfl ?_
  refine g_aload_n (k := 0) (v := (2, ((r0 : Nat) : Int))) (by decide +kernel : decode (m_byt 278) 299 = .ok (.aload_n 0, 1)) rfl (Or.inl rfl) ?_
  refine g_base (by decide +kernel : decode (m_byt 278) 300 = .ok (.iconst 1, 1)) rfl rfl ?_
  show m_run Z (278, 301, [(2, ((r0 : Nat) : Int)), l1, l2, l3, l4, l5, l6, l7, l8, l9, l10, (0, x11), l12, l13], [(0, 1), (2, ((r0 : Nat) : Int)), (0, x11)], h) = _
  exact g_inv (k := 0) (m' := 250) (np := 2) (as := [(2, ((r0 : Nat) : Int)), (0, 1)]) (by decide +kernel : decode (m_byt 278) 301 = .ok (.invokestatic 149, 3)) (Or.inr (Or.inr ⟨rfl, rfl, by decide, by decide⟩)) (by decide +kernel) (by decide +kernel) (by decide +kernel) (Nat.le_of_ble_eq_true rfl) rfl (Or.inl rfl)
theorem b_278_304 {Z : mZ} {l0 l1 l2 l3 l4 l5 l6 l7 l8 l9 l10 l11 l12 l13 : mV} {s0 s1 : Int} {h : mH} : m_run Z (278, 304, [l0, l1, l2, l3, l4, l5, l6, l7, l8, l9, l10, l11, l12, l13], [(0, s0), (0, s1)], h) = if w32 s0 ≤ w32 s1 then m_run Z (278, 432, [l0, l1, l2, l3, l4, l5, l6, l7, l8, l9, l10, l11, l12, l13], [], h) else m_run Z (278, 307, [l0, l1, l2, l3, l4, l5, l6, l7, l8, l9, l10, l11, l12, l13], [], h) := by
  exact g_brq (t := 432) (off := 128) (by decide +kernel : decode (m_byt 278) 304 = .ok (.if_icmp .ge 128, 3)) rfl rfl (by decide)
theorem b_278_307 {Z : mZ} {l0 l1 l2 l3 l4 l5 l6 l7 l8 l10 l11 l12 l13 : mV} {x9 : Int} {h : mH} : m_run Z (278, 307, [l0, l1, l2, l3, l4, l5, l6, l7, l8, (0, x9), l10, l11, l12, l13], [], h) = if w32 x9 = 0 then m_run Z (278, 432, [l0, l1, l2, l3, l4, l5, l6, l7, l8, (0, x9), l10, l11, l12, l13], [], h) else m_run Z (278, 312, [l0, l1, l2, l3, l4, l5, l6, l7, l8, (0, x9), l10, l11, l12, l13], [], h) := by
  refine g_iload (k := 9) (x := x9) (by decide +kernel : decode (m_byt 278) 307 = .ok (.iload 9, 2)) rfl ?_
  exact g_brq (t := 432) (off := 123) (by decide +kernel : decode (m_byt 278) 309 = .ok (.ifCond .eq 123, 3)) rfl rfl (by decide)
theorem b_278_312 {Z : mZ} {l1 l2 l3 l4 l5 l6 l7 l8 l9 l10 l12 l13 : mV} {x11 : Int} {r0 : Nat} {h : mH} : m_run Z (278, 312, [(2, ((r0 : Nat) : Int)), l1, l2, l3, l4, l5, l6, l7, l8, l9, l10, (0, x11), l12, l13], [], h) = (m_cl Z 251 [(2, ((r0 : Nat) : Int)), (0, x11), (0, 2)] h).bind (m_aft (m_run Z) 278 316 [(2, ((r0 : Nat) : Int)), l1, l2, l3, l4, l5, l6, l7, l8, l9, l10, (0, x11), l12, l13] []) := by
  refine g_aload_n (k := 0) (v := (2, ((r0 : Nat) : Int))) (by decide +kernel : decode (m_byt 278) 312 = .ok (.aload_n 0, 1)) rfl (Or.inl rfl) ?_
  refine g_iload (k := 11) (x := x11) (by decide +kernel : decode (m_byt 278) 313 = .ok (.iload 11, 2)) rfl ?_
  refine g_base (by decide +kernel : decode (m_byt 278) 315 = .ok (.iconst 2, 1)) rfl rfl ?_
  show m_run Z (278, 316, [(2, ((r0 : Nat) : Int)), l1, l2, l3, l4, l5, l6, l7, l8, l9, l10, (0, x11), l12, l13], [(0, 2), (0, x11), (2, ((r0 : Nat) : Int))], h) = _
  exact g_inv (k := 0) (m' := 251) (np := 3) (as := [(2, ((r0 : Nat) : Int)), (0, x11), (0, 2)]) (by decide +kernel : decode (m_byt 278) 316 = .ok (.invokestatic 151, 3)) (Or.inr (Or.inr ⟨rfl, rfl, by decide, by decide⟩)) (by decide +kernel) (by decide +kernel) (by decide +kernel) (Nat.le_of_ble_eq_true rfl) rfl (Or.inl rfl)
theorem b_278_319 {Z : mZ} {l1 l4 l5 l6 l7 l8 l9 l10 l12 l13 : mV} {s0 x3 x11 x2 : Int} {r0 : Nat} {h : mH} (h0 : ¬ w32 ((s0 * x3) + 1) = 0) : m_run Z (278, 319, [(2, ((r0 : Nat) : Int)), l1, (0, x2), (0, x3), l4, l5, l6, l7, l8, l9, l10, (0, x11), l12, l13], [(0, s0)], h) = (m_cl Z 257 [(2, ((r0 : Nat) : Int)), (0, x11), (0, ((w32 x2).tmod (w32 ((s0 * x3) + 1)))), (0, x3)] h).bind (m_aft (m_run Z) 278 337 [(2, ((r0 : Nat) : Int)), l1, (0, x2), (0, x3), l4, l5, l6, l7, l8, l9, l10, (0, x11), (0, (s0 * x3)), (0, ((w32 x2).tmod (w32 ((s0 * x3) + 1))))] []) := by
  refine g_iload_n (k := 3) (x := x3) (by decide +kernel : decode (m_byt 278) 319 = .ok (.iload_n 3, 1)) rfl ?_
  refine g_base (by decide +kernel : decode (m_byt 278) 320 = .ok (.imul, 1)) rfl rfl ?_
  show m_run Z (278, 321, [(2, ((r0 : Nat) : Int)), l1, (0, x2), (0, x3), l4, l5, l6, l7, l8, l9, l10, (0, x11), l12, l13], [(0, (s0 * x3))], h) = _
  refine g_istore (k := 12) (by decide +kernel : decode (m_byt 278) 321 = .ok (.istore 12, 2)) (Nat.le_of_ble_eq_true rfl) ?_
  show m_run Z (278, 323, [(2, ((r0 : Nat) : Int)), l1, (0, x2), (0, x3), l4, l5, l6, l7, l8, l9, l10, (0, x11), (0, (s0 * x3)), l13], [], h) = _
  refine g_iload_n (k := 2) (x := x2) (by decide +kernel : decode (m_byt 278) 323 = .ok (.iload_n 2, 1)) rfl ?_
  refine g_iload (k := 12) (x := (s0 * x3)) (by decide +kernel : decode (m_byt 278) 324 = .ok (.iload 12, 2)) rfl ?_
  refine g_base (by decide +kernel : decode (m_byt 278) 326 = .ok (.iconst 1, 1)) rfl rfl ?_
  show m_run Z (278, 327, [(2, ((r0 : Nat) : Int)), l1, (0, x2), (0, x3), l4, l5, l6, l7, l8, l9, l10, (0, x11), (0, (s0 * x3)), l13], [(0, 1), (0, (s0 * x3)), (0, x2)], h) = _
  refine g_base (by decide +kernel : decode (m_byt 278) 327 = .ok (.iadd, 1)) rfl rfl ?_
  show m_run Z (278, 328, [(2, ((r0 : Nat) : Int)), l1, (0, x2), (0, x3), l4, l5, l6, l7, l8, l9, l10, (0, x11), (0, (s0 * x3)), l13], [(0, ((s0 * x3) + 1)), (0, x2)], h) = _
  refine g_rem (by decide +kernel : decode (m_byt 278) 328 = .ok (.irem, 1)) h0 ?_
  show m_run Z (278, 329, [(2, ((r0 : Nat) : Int)), l1, (0, x2), (0, x3), l4, l5, l6, l7, l8, l9, l10, (0, x11), (0, (s0 * x3)), l13], [(0, ((w32 x2).tmod (w32 ((s0 * x3) + 1))))], h) = _
  refine g_istore (k := 13) (by decide +kernel : decode (m_byt 278) 329 = .ok (.istore 13, 2)) (Nat.le_of_ble_eq_true rfl) ?_
  show m_run Z (278, 331, [(2, ((r0 : Nat) : Int)), l1, (0, x2), (0, x3), l4, l5, l6, l7, l8, l9, l10, (0, x11), (0, (s0 * x3)), (0, ((w32 x2).tmod (w32 ((s0 * x3) + 1))))], [], h) = _
  refine g_aload_n (k := 0) (v := (2, ((r0 : Nat) : Int))) (by decide +kernel : decode (m_byt 278) 331 = .ok (.aload_n 0, 1)) rfl (Or.inl rfl) ?_
  refine g_iload (k := 11) (x := x11) (by decide +kernel : decode (m_byt 278) 332 = .ok (.iload 11, 2)) rfl ?_
  refine g_iload (k := 13) (x := ((w32 x2).tmod (w32 ((s0 * x3) + 1)))) (by decide +kernel : decode (m_byt 278) 334 = .ok (.iload 13, 2)) rfl ?_
  refine g_iload_n (k := 3) (x := x3) (by decide +kernel : decode (m_byt 278) 336 = .ok (.iload_n 3, 1)) rfl ?_
  exact g_inv (k := 0) (m' := 257) (np := 4) (as := [(2, ((r0 : Nat) : Int)), (0, x11), (0, ((w32 x2).tmod (w32 ((s0 * x3) + 1)))), (0, x3)]) (by decide +kernel : decode (m_byt 278) 337 = .ok (.invokestatic 162, 3)) (Or.inr (Or.inr ⟨rfl, rfl, by decide, by decide⟩)) (by decide +kernel) (by decide +kernel) (by decide +kernel) (Nat.le_of_ble_eq_true rfl) rfl (Or.inl rfl)
theorem b_278_340 {Z : mZ} {l0 l1 l2 l3 l4 l5 l6 l7 l8 l9 l10 l11 l12 l13 : mV} {s0 : Int} {h : mH} : m_run Z (278, 340, [l0, l1, l2, l3, l4, l5, l6, l7, l8, l9, l10, l11, l12, l13], [(0, s0)], h) = if w32 s0 = 0 then m_run Z (278, 419, [l0, l1, l2, l3, l4, l5, l6, l7, l8, l9, l10, l11, l12, l13], [], h) else m_run Z (278, 343, [l0, l1, l2, l3, l4, l5, l6, l7, l8, l9, l10, l11, l12, l13], [], h) := by
  exact g_brq (t := 419) (off := 79) (by decide +kernel : decode (m_byt 278) 340 = .ok (.ifCond .eq 79, 3)) rfl rfl (by decide)
theorem b_278_343 {Z : mZ} {l2 l6 l7 l8 l9 l10 l12 : mV} {x4 x5 x1 x11 x13 x3 : Int} {r0 : Nat} {h : mH} : m_run Z (278, 343, [(2, ((r0 : Nat) : Int)), (0, x1), l2, (0, x3), (0, x4), (0, x5), l6, l7, l8, l9, l10, (0, x11), l12, (0, x13)], [], h) = (m_cl Z 258 [(2, ((r0 : Nat) : Int)), (0, x1), (0, x11), (0, x13), (0, x3), (0, 0)] h).bind (m_aft (m_run Z) 278 357 [(2, ((r0 : Nat) : Int)), (0, x1), l2, (0, x3), (0, x4), (0, x5), l6, l7, l8, l9, l10, (0, x11), l12, (0, x13)] [(1, (w32 x5)), (1, (w32 x4))]) := by
  refine g_iload (k := 4) (x := x4) (by decide +kernel : decode (m_byt 278) 343 = .ok (.iload 4, 2)) rfl ?_
  refine g_base (by decide +kernel : decode (m_byt 278) 345 = .ok (.i2l, 1)) rfl rfl ?_
  show m_run Z (278, 346, [(2, ((r0 : Nat) : Int)), (0, x1), l2, (0, x3), (0, x4), (0, x5), l6, l7, l8, l9, l10, (0, x11), l12, (0, x13)], [(1, (w32 x4))], h) = _
  refine g_iload (k := 5) (x := x5) (by decide +kernel : decode (m_byt 278) 346 = .ok (.iload 5, 2)) rfl ?_
  refine g_base (by decide +kernel : decode (m_byt 278) 348 = .ok (.i2l, 1)) rfl rfl ?_
  show m_run Z (278, 349, [(2, ((r0 : Nat) : Int)), (0, x1), l2, (0, x3), (0, x4), (0, x5), l6, l7, l8, l9, l10, (0, x11), l12, (0, x13)], [(1, (w32 x5)), (1, (w32 x4))], h) = _
  refine g_aload_n (k := 0) (v := (2, ((r0 : Nat) : Int))) (by decide +kernel : decode (m_byt 278) 349 = .ok (.aload_n 0, 1)) rfl (Or.inl rfl) ?_
  refine g_iload_n (k := 1) (x := x1) (by decide +kernel : decode (m_byt 278) 350 = .ok (.iload_n 1, 1)) rfl ?_
  refine g_iload (k := 11) (x := x11) (by decide +kernel : decode (m_byt 278) 351 = .ok (.iload 11, 2)) rfl ?_
  refine g_iload (k := 13) (x := x13) (by decide +kernel : decode (m_byt 278) 353 = .ok (.iload 13, 2)) rfl ?_
  refine g_iload_n (k := 3) (x := x3) (by decide +kernel : decode (m_byt 278) 355 = .ok (.iload_n 3, 1)) rfl ?_
  refine g_base (by decide +kernel : decode (m_byt 278) 356 = .ok (.iconst 0, 1)) rfl rfl ?_
  show m_run Z (278, 357, [(2, ((r0 : Nat) : Int)), (0, x1), l2, (0, x3), (0, x4), (0, x5), l6, l7, l8, l9, l10, (0, x11), l12, (0, x13)], [(0, 0), (0, x3), (0, x13), (0, x11), (0, x1), (2, ((r0 : Nat) : Int)), (1, (w32 x5)), (1, (w32 x4))], h) = _
  exact g_inv (k := 0) (m' := 258) (np := 6) (as := [(2, ((r0 : Nat) : Int)), (0, x1), (0, x11), (0, x13), (0, x3), (0, 0)]) (by decide +kernel : decode (m_byt 278) 357 = .ok (.invokestatic 164, 3)) (Or.inr (Or.inr ⟨rfl, rfl, by decide, by decide⟩)) (by decide +kernel) (by decide +kernel) (by decide +kernel) (Nat.le_of_ble_eq_true rfl) rfl (Or.inl rfl)
theorem b_278_360 {Z : mZ} {l2 l4 l5 l6 l7 l8 l9 l10 l12 : mV} {s0 s1 s2 x1 x11 x13 x3 : Int} {r0 : Nat} {h : mH} : m_run Z (278, 360, [(2, ((r0 : Nat) : Int)), (0, x1), l2, (0, x3), l4, l5, l6, l7, l8, l9, l10, (0, x11), l12, (0, x13)], [(0, s0), (1, s1), (1, s2)], h) = (m_cl Z 258 [(2, ((r0 : Nat) : Int)), (0, x1), (0, x11), (0, x13), (0, x3), (0, 1)] h).bind (m_aft (m_run Z) 278 369 [(2, ((r0 : Nat) : Int)), (0, x1), l2, (0, x3), l4, l5, l6, l7, l8, l9, l10, (0, x11), l12, (0, x13)] [(1, (w32 s0)), (1, s1), (1, s2)]) := by
  refine g_base (by decide +kernel : decode (m_byt 278) 360 = .ok (.i2l, 1)) rfl rfl ?_
  show m_run Z (278, 361, [(2, ((r0 : Nat) : Int)), (0, x1), l2, (0, x3), l4, l5, l6, l7, l8, l9, l10, (0, x11), l12, (0, x13)], [(1, (w32 s0)), (1, s1), (1, s2)], h) = _
  refine g_aload_n (k := 0) (v := (2, ((r0 : Nat) : Int))) (by decide +kernel : decode (m_byt 278) 361 = .ok (.aload_n 0, 1)) rfl (Or.inl rfl) ?_
  refine g_iload_n (k := 1) (x := x1) (by decide +kernel : decode (m_byt 278) 362 = .ok (.iload_n 1, 1)) rfl ?_
  refine g_iload (k := 11) (x := x11) (by decide +kernel : decode (m_byt 278) 363 = .ok (.iload 11, 2)) rfl ?_
  refine g_iload (k := 13) (x := x13) (by decide +kernel : decode (m_byt 278) 365 = .ok (.iload 13, 2)) rfl ?_
  refine g_iload_n (k := 3) (x := x3) (by decide +kernel : decode (m_byt 278) 367 = .ok (.iload_n 3, 1)) rfl ?_
  refine g_base (by decide +kernel : decode (m_byt 278) 368 = .ok (.iconst 1, 1)) rfl rfl ?_
  show m_run Z (278, 369, [(2, ((r0 : Nat) : Int)), (0, x1), l2, (0, x3), l4, l5, l6, l7, l8, l9, l10, (0, x11), l12, (0, x13)], [(0, 1), (0, x3), (0, x13), (0, x11), (0, x1), (2, ((r0 : Nat) : Int)), (1, (w32 s0)), (1, s1), (1, s2)], h) = _
  exact g_inv (k := 0) (m' := 258) (np := 6) (as := [(2, ((r0 : Nat) : Int)), (0, x1), (0, x11), (0, x13), (0, x3), (0, 1)]) (by decide +kernel : decode (m_byt 278) 369 = .ok (.invokestatic 164, 3)) (Or.inr (Or.inr ⟨rfl, rfl, by decide, by decide⟩)) (by decide +kernel) (by decide +kernel) (by decide +kernel) (Nat.le_of_ble_eq_true rfl) rfl (Or.inl rfl)
theorem b_278_372 {Z : mZ} {l0 l1 l2 l3 l4 l5 l6 l7 l8 l9 l10 l11 l12 l13 : mV} {s0 s1 s2 s3 : Int} {h : mH} : m_run Z (278, 372, [l0, l1, l2, l3, l4, l5, l6, l7, l8, l9, l10, l11, l12, l13], [(0, s0), (1, s1), (1, s2), (1, s3)], h) = (m_cl Z 276 [(1, s3), (1, s2), (1, s1), (1, (w32 s0))] h).bind (m_aft (m_run Z) 278 373 [l0, l1, l2, l3, l4, l5, l6, l7, l8, l9, l10, l11, l12, l13] []) := by
  refine g_base (by decide +kernel : decode (m_byt 278) 372 = .ok (.i2l, 1)) rfl rfl ?_
  show m_run Z (278, 373, [l0, l1, l2, l3, l4, l5, l6, l7, l8, l9, l10, l11, l12, l13], [(1, (w32 s0)), (1, s1), (1, s2), (1, s3)], h) = _
  exact g_inv (k := 0) (m' := 276) (np := 4) (as := [(1, s3), (1, s2), (1, s1), (1, (w32 s0))]) (by decide +kernel : decode (m_byt 278) 373 = .ok (.invokestatic 200, 3)) (Or.inr (Or.inr ⟨rfl, rfl, by decide, by decide⟩)) (by decide +kernel) (by decide +kernel) (by decide +kernel) (Nat.le_of_ble_eq_true rfl) rfl (Or.inl rfl)
theorem b_278_376 {Z : mZ} {l0 l1 l2 l3 l4 l5 l6 l7 l8 l9 l10 l11 l12 l13 : mV} {s0 : Int} {h : mH} : m_run Z (278, 376, [l0, l1, l2, l3, l4, l5, l6, l7, l8, l9, l10, l11, l12, l13], [(0, s0)], h) = if w32 s0 = 0 then m_run Z (278, 423, [l0, l1, l2, l3, l4, l5, l6, l7, l8, l9, l10, l11, l12, l13], [], h) else m_run Z (278, 379, [l0, l1, l2, l3, l4, l5, l6, l7, l8, l9, l10, l11, l12, l13], [], h) := by
  exact g_brq (t := 423) (off := 47) (by decide +kernel : decode (m_byt 278) 376 = .ok (.ifCond .eq 47, 3)) rfl rfl (by decide)
theorem b_278_379 {Z : mZ} {l1 l2 l3 l4 l5 l6 l7 l8 l9 l10 l11 l12 l13 : mV} {r0 : Nat} {h : mH} : m_run Z (278, 379, [(2, ((r0 : Nat) : Int)), l1, l2, l3, l4, l5, l6, l7, l8, l9, l10, l11, l12, l13], [], h) = (m_cl Z 264 [(2, ((r0 : Nat) : Int)), (0, 3)] h).bind (m_aft (m_run Z) 278 381 [(2, ((r0 : Nat) : Int)), l1, l2, l3, l4, l5, l6, l7, l8, l9, l10, l11, l12, l13] []) := by
  refine g_aload_n (k := 0) (v := (2, ((r0 : Nat) : Int))) (by decide +kernel : decode (m_byt 278) 379 = .ok (.aload_n 0, 1)) rfl (Or.inl rfl) ?_
  refine g_base (by decide +kernel : decode (m_byt 278) 380 = .ok (.iconst 3, 1)) rfl rfl ?_
  show m_run Z (278, 381, [(2, ((r0 : Nat) : Int)), l1, l2, l3, l4, l5, l6, l7, l8, l9, l10, l11, l12, l13], [(0, 3), (2, ((r0 : Nat) : Int))], h) = _
  exact g_inv (k := 0) (m' := 264) (np := 2) (as := [(2, ((r0 : Nat) : Int)), (0, 3)]) (by decide +kernel : decode (m_byt 278) 381 = .ok (.invokestatic 177, 3)) (Or.inr (Or.inr ⟨rfl, rfl, by decide, by decide⟩)) (by decide +kernel) (by decide +kernel) (by decide +kernel) (Nat.le_of_ble_eq_true rfl) rfl (Or.inl rfl)
theorem b_278_384 {Z : mZ} {l1 l2 l3 l4 l5 l6 l7 l8 l9 l10 l11 l12 l13 : mV} {s0 : Int} {r0 : Nat} {h : mH} : m_run Z (278, 384, [(2, ((r0 : Nat) : Int)), l1, l2, l3, l4, l5, l6, l7, l8, l9, l10, l11, l12, l13], [(0, s0)], h) = (m_cl Z 264 [(2, ((r0 : Nat) : Int)), (0, 4)] h).bind (m_aft (m_run Z) 278 387 [(2, ((r0 : Nat) : Int)), l1, l2, l3, l4, l5, l6, l7, l8, l9, l10, l11, l12, l13] [(1, (w32 s0))]) := by
  refine g_base (by decide +kernel : decode (m_byt 278) 384 = .ok (.i2l, 1)) rfl rfl ?_
  show m_run Z (278, 385, [(2, ((r0 : Nat) : Int)), l1, l2, l3, l4, l5, l6, l7, l8, l9, l10, l11, l12, l13], [(1, (w32 s0))], h) = _
  refine g_aload_n (k := 0) (v := (2, ((r0 : Nat) : Int))) (by decide +kernel : decode (m_byt 278) 385 = .ok (.aload_n 0, 1)) rfl (Or.inl rfl) ?_
  refine g_base (by decide +kernel : decode (m_byt 278) 386 = .ok (.iconst 4, 1)) rfl rfl ?_
  show m_run Z (278, 387, [(2, ((r0 : Nat) : Int)), l1, l2, l3, l4, l5, l6, l7, l8, l9, l10, l11, l12, l13], [(0, 4), (2, ((r0 : Nat) : Int)), (1, (w32 s0))], h) = _
  exact g_inv (k := 0) (m' := 264) (np := 2) (as := [(2, ((r0 : Nat) : Int)), (0, 4)]) (by decide +kernel : decode (m_byt 278) 387 = .ok (.invokestatic 177, 3)) (Or.inr (Or.inr ⟨rfl, rfl, by decide, by decide⟩)) (by decide +kernel) (by decide +kernel) (by decide +kernel) (Nat.le_of_ble_eq_true rfl) rfl (Or.inl rfl)
theorem b_278_390 {Z : mZ} {l1 l2 l4 l5 l6 l7 l8 l9 l10 l12 : mV} {s0 s1 x11 x13 x3 : Int} {r0 : Nat} {h : mH} : m_run Z (278, 390, [(2, ((r0 : Nat) : Int)), l1, l2, (0, x3), l4, l5, l6, l7, l8, l9, l10, (0, x11), l12, (0, x13)], [(0, s0), (1, s1)], h) = (m_cl Z 259 [(2, ((r0 : Nat) : Int)), (0, x11), (0, x13), (0, x3), (0, 0)] h).bind (m_aft (m_run Z) 278 398 [(2, ((r0 : Nat) : Int)), l1, l2, (0, x3), l4, l5, l6, l7, l8, l9, l10, (0, x11), l12, (0, x13)] [(1, (w32 s0)), (1, s1)]) := by
  refine g_base (by decide +kernel : decode (m_byt 278) 390 = .ok (.i2l, 1)) rfl rfl ?_
  show m_run Z (278, 391, [(2, ((r0 : Nat) : Int)), l1, l2, (0, x3), l4, l5, l6, l7, l8, l9, l10, (0, x11), l12, (0, x13)], [(1, (w32 s0)), (1, s1)], h) = _
  refine g_aload_n (k := 0) (v := (2, ((r0 : Nat) : Int))) (by decide +kernel : decode (m_byt 278) 391 = .ok (.aload_n 0, 1)) rfl (Or.inl rfl) ?_
  refine g_iload (k := 11) (x := x11) (by decide +kernel : decode (m_byt 278) 392 = .ok (.iload 11, 2)) rfl ?_
  refine g_iload (k := 13) (x := x13) (by decide +kernel : decode (m_byt 278) 394 = .ok (.iload 13, 2)) rfl ?_
  refine g_iload_n (k := 3) (x := x3) (by decide +kernel : decode (m_byt 278) 396 = .ok (.iload_n 3, 1)) rfl ?_
  refine g_base (by decide +kernel : decode (m_byt 278) 397 = .ok (.iconst 0, 1)) rfl rfl ?_
  show m_run Z (278, 398, [(2, ((r0 : Nat) : Int)), l1, l2, (0, x3), l4, l5, l6, l7, l8, l9, l10, (0, x11), l12, (0, x13)], [(0, 0), (0, x3), (0, x13), (0, x11), (2, ((r0 : Nat) : Int)), (1, (w32 s0)), (1, s1)], h) = _
  exact g_inv (k := 0) (m' := 259) (np := 5) (as := [(2, ((r0 : Nat) : Int)), (0, x11), (0, x13), (0, x3), (0, 0)]) (by decide +kernel : decode (m_byt 278) 398 = .ok (.invokestatic 166, 3)) (Or.inr (Or.inr ⟨rfl, rfl, by decide, by decide⟩)) (by decide +kernel) (by decide +kernel) (by decide +kernel) (Nat.le_of_ble_eq_true rfl) rfl (Or.inl rfl)
theorem b_278_401 {Z : mZ} {l1 l2 l4 l5 l6 l7 l8 l9 l10 l12 : mV} {s0 s1 s2 x11 x13 x3 : Int} {r0 : Nat} {h : mH} : m_run Z (278, 401, [(2, ((r0 : Nat) : Int)), l1, l2, (0, x3), l4, l5, l6, l7, l8, l9, l10, (0, x11), l12, (0, x13)], [(0, s0), (1, s1), (1, s2)], h) = (m_cl Z 259 [(2, ((r0 : Nat) : Int)), (0, x11), (0, x13), (0, x3), (0, 1)] h).bind (m_aft (m_run Z) 278 409 [(2, ((r0 : Nat) : Int)), l1, l2, (0, x3), l4, l5, l6, l7, l8, l9, l10, (0, x11), l12, (0, x13)] [(1, (w32 s0)), (1, s1), (1, s2)]) := by
  refine g_base (by decide +kernel : decode (m_byt 278) 401 = .ok (.i2l, 1)) rfl rfl ?_
  show m_run Z (278, 402, [(2, ((r0 : Nat) : Int)), l1, l2, (0, x3), l4, l5, l6, l7, l8, l9, l10, (0, x11), l12, (0, x13)], [(1, (w32 s0)), (1, s1), (1, s2)], h) = _
  refine g_aload_n (k := 0) (v := (2, ((r0 : Nat) : Int))) (by decide +kernel : decode (m_byt 278) 402 = .ok (.aload_n 0, 1)) rfl (Or.inl rfl) ?_
  refine g_iload (k := 11) (x := x11) (by decide +kernel : decode (m_byt 278) 403 = .ok (.iload 11, 2)) rfl ?_
  refine g_iload (k := 13) (x := x13) (by decide +kernel : decode (m_byt 278) 405 = .ok (.iload 13, 2)) rfl ?_
  refine g_iload_n (k := 3) (x := x3) (by decide +kernel : decode (m_byt 278) 407 = .ok (.iload_n 3, 1)) rfl ?_
  refine g_base (by decide +kernel : decode (m_byt 278) 408 = .ok (.iconst 1, 1)) rfl rfl ?_
  show m_run Z (278, 409, [(2, ((r0 : Nat) : Int)), l1, l2, (0, x3), l4, l5, l6, l7, l8, l9, l10, (0, x11), l12, (0, x13)], [(0, 1), (0, x3), (0, x13), (0, x11), (2, ((r0 : Nat) : Int)), (1, (w32 s0)), (1, s1), (1, s2)], h) = _
  exact g_inv (k := 0) (m' := 259) (np := 5) (as := [(2, ((r0 : Nat) : Int)), (0, x11), (0, x13), (0, x3), (0, 1)]) (by decide +kernel : decode (m_byt 278) 409 = .ok (.invokestatic 166, 3)) (Or.inr (Or.inr ⟨rfl, rfl, by decide, by decide⟩)) (by decide +kernel) (by decide +kernel) (by decide +kernel) (Nat.le_of_ble_eq_true rfl) rfl (Or.inl rfl)
theorem b_278_412 {Z : mZ} {l0 l1 l2 l3 l4 l5 l6 l7 l8 l9 l10 l11 l12 l13 : mV} {s0 s1 s2 s3 : Int} {h : mH} : m_run Z (278, 412, [l0, l1, l2, l3, l4, l5, l6, l7, l8, l9, l10, l11, l12, l13], [(0, s0), (1, s1), (1, s2), (1, s3)], h) = (m_cl Z 276 [(1, s3), (1, s2), (1, s1), (1, (w32 s0))] h).bind (m_aft (m_run Z) 278 413 [l0, l1, l2, l3, l4, l5, l6, l7, l8, l9, l10, l11, l12, l13] []) := by
  refine g_base (by decide +kernel : decode (m_byt 278) 412 = .ok (.i2l, 1)) rfl rfl ?_
  show m_run Z (278, 413, [l0, l1, l2, l3, l4, l5, l6, l7, l8, l9, l10, l11, l12, l13], [(1, (w32 s0)), (1, s1), (1, s2), (1, s3)], h) = _
  exact g_inv (k := 0) (m' := 276) (np := 4) (as := [(1, s3), (1, s2), (1, s1), (1, (w32 s0))]) (by decide +kernel : decode (m_byt 278) 413 = .ok (.invokestatic 200, 3)) (Or.inr (Or.inr ⟨rfl, rfl, by decide, by decide⟩)) (by decide +kernel) (by decide +kernel) (by decide +kernel) (Nat.le_of_ble_eq_true rfl) rfl (Or.inl rfl)
theorem b_278_416 {Z : mZ} {l0 l1 l2 l3 l4 l5 l6 l7 l8 l9 l10 l11 l12 l13 : mV} {s0 : Int} {h : mH} : m_run Z (278, 416, [l0, l1, l2, l3, l4, l5, l6, l7, l8, l9, l10, l11, l12, l13], [(0, s0)], h) = if w32 s0 = 0 then m_run Z (278, 423, [l0, l1, l2, l3, l4, l5, l6, l7, l8, l9, l10, l11, l12, l13], [], h) else m_run Z (278, 419, [l0, l1, l2, l3, l4, l5, l6, l7, l8, l9, l10, l11, l12, l13], [], h) := by
  exact g_brq (t := 423) (off := 7) (by decide +kernel : decode (m_byt 278) 416 = .ok (.ifCond .eq 7, 3)) rfl rfl (by decide)
theorem b_278_419 {Z : mZ} {l0 l1 l2 l3 l4 l5 l6 l7 l9 l12 l13 : mV} {x8 x11 x10 : Int} {h : mH} : m_run Z (278, 419, [l0, l1, l2, l3, l4, l5, l6, l7, (0, x8), l9, (0, x10), (0, x11), l12, l13], [], h) = m_run Z (278, 297, [l0, l1, l2, l3, l4, l5, l6, l7, (0, x8), (0, 1), (0, x10), (0, x11 + 1), l12, l13], [], h) := by
  refine g_base (by decide +kernel : decode (m_byt 278) 419 = .ok (.iconst 1, 1)) rfl rfl ?_
  show m_run Z (278, 420, [l0, l1, l2, l3, l4, l5, l6, l7, (0, x8), l9, (0, x10), (0, x11), l12, l13], [(0, 1)], h) = _
  refine g_jmp (t := 424) (by decide +kernel : decode (m_byt 278) 420 = .ok (.goto 4, 3)) (by decide) ?_
  refine g_istore (k := 9) (by decide +kernel : decode (m_byt 278) 424 = .ok (.istore 9, 2)) (Nat.le_of_ble_eq_true rfl) ?_
  show m_run Z (278, 426, [l0, l1, l2, l3, l4, l5, l6, l7, (0, x8), (0, 1), (0, x10), (0, x11), l12, l13], [], h) = _
  refine g_iinc (k := 11) (x := x11) (by decide +kernel : decode (m_byt 278) 426 = .ok (.iinc 11 1, 3)) rfl (Nat.le_of_ble_eq_true rfl) ?_
  show m_run Z (278, 429, [l0, l1, l2, l3, l4, l5, l6, l7, (0, x8), (0, 1), (0, x10), (0, x11 + 1), l12, l13], [], h) = _
  refine g_jmp (t := 297) (by decide +kernel : decode (m_byt 278) 429 = .ok (.goto (-132), 3)) (by decide) ?_
  rfl
theorem b_278_423 {Z : mZ} {l0 l1 l2 l3 l4 l5 l6 l7 l8 l9 l10 l11 l12 l13 : mV} {h : mH} : m_run Z (278, 423, [l0, l1, l2, l3, l4, l5, l6, l7, l8, l9, l10, l11, l12, l13], [], h) = m_run Z (278, 424, [l0, l1, l2, l3, l4, l5, l6, l7, l8, l9, l10, l11, l12, l13], [(0, 0)], h) := by
  refine g_base (by decide +kernel : decode (m_byt 278) 423 = .ok (.iconst 0, 1)) rfl rfl ?_
  show m_run Z (278, 424, [l0, l1, l2, l3, l4, l5, l6, l7, l8, l9, l10, l11, l12, l13], [(0, 0)], h) = _
  rfl
theorem b_278_424 {Z : mZ} {l0 l1 l2 l3 l4 l5 l6 l7 l9 l12 l13 : mV} {s0 x8 x11 x10 : Int} {h : mH} : m_run Z (278, 424, [l0, l1, l2, l3, l4, l5, l6, l7, (0, x8), l9, (0, x10), (0, x11), l12, l13], [(0, s0)], h) = m_run Z (278, 297, [l0, l1, l2, l3, l4, l5, l6, l7, (0, x8), (0, s0), (0, x10), (0, x11 + 1), l12, l13], [], h) := by
  refine g_istore (k := 9) (by decide +kernel : decode (m_byt 278) 424 = .ok (.istore 9, 2)) (Nat.le_of_ble_eq_true rfl) ?_
  show m_run Z (278, 426, [l0, l1, l2, l3, l4, l5, l6, l7, (0, x8), (0, s0), (0, x10), (0, x11), l12, l13], [], h) = _
  refine g_iinc (k := 11) (x := x11) (by decide +kernel : decode (m_byt 278) 426 = .ok (.iinc 11 1, 3)) rfl (Nat.le_of_ble_eq_true rfl) ?_
  show m_run Z (278, 429, [l0, l1, l2, l3, l4, l5, l6, l7, (0, x8), (0, s0), (0, x10), (0, x11 + 1), l12, l13], [], h) = _
  refine g_jmp (t := 297) (by decide +kernel : decode (m_byt 278) 429 = .ok (.goto (-132), 3)) (by decide) ?_
  rfl
theorem b_278_432 {Z : mZ} {l0 l1 l2 l3 l4 l5 l6 l7 l8 l10 l11 l12 l13 : mV} {x9 : Int} {h : mH} : m_run Z (278, 432, [l0, l1, l2, l3, l4, l5, l6, l7, l8, (0, x9), l10, l11, l12, l13], [], h) = if w32 x9 = 0 then m_run Z (278, 530, [l0, l1, l2, l3, l4, l5, l6, l7, l8, (0, x9), l10, l11, l12, l13], [], h) else m_run Z (278, 437, [l0, l1, l2, l3, l4, l5, l6, l7, l8, (0, x9), l10, l11, l12, l13], [], h) := by
  refine g_iload (k := 9) (x := x9) (by decide +kernel : decode (m_byt 278) 432 = .ok (.iload 9, 2)) rfl ?_
  exact g_brq (t := 530) (off := 96) (by decide +kernel : decode (m_byt 278) 434 = .ok (.ifCond .eq 96, 3)) rfl rfl (by decide)
theorem b_278_437 {Z : mZ} {l1 l2 l3 l4 l5 l6 l7 l8 l9 l10 l11 l12 l13 : mV} {r0 : Nat} {h : mH} : m_run Z (278, 437, [(2, ((r0 : Nat) : Int)), l1, l2, l3, l4, l5, l6, l7, l8, l9, l10, l11, l12, l13], [], h) = (m_cl Z 264 [(2, ((r0 : Nat) : Int)), (0, 0)] h).bind (m_aft (m_run Z) 278 440 [(2, ((r0 : Nat) : Int)), l1, l2, l3, l4, l5, l6, l7, l8, l9, l10, l11, l12, l13] [(2, ((r0 : Nat) : Int))]) := by
  refine g_aload_n (k := 0) (v := (2, ((r0 : Nat) : Int))) (by decide +kernel : decode (m_byt 278) 437 = .ok (.aload_n 0, 1)) rfl (Or.inl rfl) ?_
  refine g_aload_n (k := 0) (v := (2, ((r0 : Nat) : Int))) (by decide +kernel : decode (m_byt 278) 438 = .ok (.aload_n 0, 1)) rfl (Or.inl rfl) ?_
  refine g_base (by decide +kernel : decode (m_byt 278) 439 = .ok (.iconst 0, 1)) rfl rfl ?_
  show m_run Z (278, 440, [(2, ((r0 : Nat) : Int)), l1, l2, l3, l4, l5, l6, l7, l8, l9, l10, l11, l12, l13], [(0, 0), (2, ((r0 : Nat) : Int)), (2, ((r0 : Nat) : Int))], h) = _
  exact g_inv (k := 0) (m' := 264) (np := 2) (as := [(2, ((r0 : Nat) : Int)), (0, 0)]) (by decide +kernel : decode (m_byt 278) 440 = .ok (.invokestatic 177, 3)) (Or.inr (Or.inr ⟨rfl, rfl, by decide, by decide⟩)) (by decide +kernel) (by decide +kernel) (by decide +kernel) (Nat.le_of_ble_eq_true rfl) rfl (Or.inl rfl)
theorem b_278_443 {Z : mZ} {l1 l2 l3 l4 l5 l6 l7 l8 l9 l10 l11 l12 l13 : mV} {s0 : Int} {s1 r0 : Nat} {h : mH} : m_run Z (278, 443, [(2, ((r0 : Nat) : Int)), l1, l2, l3, l4, l5, l6, l7, l8, l9, l10, l11, l12, l13], [(0, s0), (2, ((s1 : Nat) : Int))], h) = (m_cl Z 264 [(2, ((r0 : Nat) : Int)), (0, 1)] h).bind (m_aft (m_run Z) 278 445 [(2, ((r0 : Nat) : Int)), l1, l2, l3, l4, l5, l6, l7, l8, l9, l10, l11, l12, l13] [(0, s0), (2, ((s1 : Nat) : Int))]) := by
  refine g_aload_n (k := 0) (v := (2, ((r0 : Nat) : Int))) (by decide +kernel : decode (m_byt 278) 443 = .ok (.aload_n 0, 1)) rfl (Or.inl rfl) ?_
  refine g_base (by decide +kernel : decode (m_byt 278) 444 = .ok (.iconst 1, 1)) rfl rfl ?_
  show m_run Z (278, 445, [(2, ((r0 : Nat) : Int)), l1, l2, l3, l4, l5, l6, l7, l8, l9, l10, l11, l12, l13], [(0, 1), (2, ((r0 : Nat) : Int)), (0, s0), (2, ((s1 : Nat) : Int))], h) = _
  exact g_inv (k := 0) (m' := 264) (np := 2) (as := [(2, ((r0 : Nat) : Int)), (0, 1)]) (by decide +kernel : decode (m_byt 278) 445 = .ok (.invokestatic 177, 3)) (Or.inr (Or.inr ⟨rfl, rfl, by decide, by decide⟩)) (by decide +kernel) (by decide +kernel) (by decide +kernel) (Nat.le_of_ble_eq_true rfl) rfl (Or.inl rfl)
theorem b_278_448 {Z : mZ} {l1 l2 l3 l4 l5 l6 l7 l8 l9 l10 l11 l12 l13 : mV} {s0 s1 : Int} {s2 r0 : Nat} {h : mH} : m_run Z (278, 448, [(2, ((r0 : Nat) : Int)), l1, l2, l3, l4, l5, l6, l7, l8, l9, l10, l11, l12, l13], [(0, s0), (0, s1), (2, ((s2 : Nat) : Int))], h) = (m_cl Z 264 [(2, ((r0 : Nat) : Int)), (0, 2)] h).bind (m_aft (m_run Z) 278 450 [(2, ((r0 : Nat) : Int)), l1, l2, l3, l4, l5, l6, l7, l8, l9, l10, l11, l12, l13] [(0, s0), (0, s1), (2, ((s2 : Nat) : Int))]) := by
  refine g_aload_n (k := 0) (v := (2, ((r0 : Nat) : Int))) (by decide +kernel : decode (m_byt 278) 448 = .ok (.aload_n 0, 1)) rfl (Or.inl rfl) ?_
  refine g_base (by decide +kernel : decode (m_byt 278) 449 = .ok (.iconst 2, 1)) rfl rfl ?_
  show m_run Z (278, 450, [(2, ((r0 : Nat) : Int)), l1, l2, l3, l4, l5, l6, l7, l8, l9, l10, l11, l12, l13], [(0, 2), (2, ((r0 : Nat) : Int)), (0, s0), (0, s1), (2, ((s2 : Nat) : Int))], h) = _
  exact g_inv (k := 0) (m' := 264) (np := 2) (as := [(2, ((r0 : Nat) : Int)), (0, 2)]) (by decide +kernel : decode (m_byt 278) 450 = .ok (.invokestatic 177, 3)) (Or.inr (Or.inr ⟨rfl, rfl, by decide, by decide⟩)) (by decide +kernel) (by decide +kernel) (by decide +kernel) (Nat.le_of_ble_eq_true rfl) rfl (Or.inl rfl)
theorem b_278_453 {Z : mZ} {l0 l1 l2 l3 l4 l5 l6 l7 l8 l9 l10 l11 l12 l13 : mV} {s0 s1 s2 : Int} {s3 : Nat} {h : mH} : m_run Z (278, 453, [l0, l1, l2, l3, l4, l5, l6, l7, l8, l9, l10, l11, l12, l13], [(0, s0), (0, s1), (0, s2), (2, ((s3 : Nat) : Int))], h) = (m_cl Z 259 [(2, ((s3 : Nat) : Int)), (0, s2), (0, s1), (0, s0), (0, 0)] h).bind (m_aft (m_run Z) 278 454 [l0, l1, l2, l3, l4, l5, l6, l7, l8, l9, l10, l11, l12, l13] []) := by
  refine g_base (by decide +kernel : decode (m_byt 278) 453 = .ok (.iconst 0, 1)) rfl rfl ?_
  show m_run Z (278, 454, [l0, l1, l2, l3, l4, l5, l6, l7, l8, l9, l10, l11, l12, l13], [(0, 0), (0, s0), (0, s1), (0, s2), (2, ((s3 : Nat) : Int))], h) = _
  exact g_inv (k := 0) (m' := 259) (np := 5) (as := [(2, ((s3 : Nat) : Int)), (0, s2), (0, s1), (0, s0), (0, 0)]) (by decide +kernel : decode (m_byt 278) 454 = .ok (.invokestatic 166, 3)) (Or.inr (Or.inr ⟨rfl, rfl, by decide, by decide⟩)) (by decide +kernel) (by decide +kernel) (by decide +kernel) (Nat.le_of_ble_eq_true rfl) rfl (Or.inl rfl)
theorem b_278_457 {Z : mZ} {l1 l2 l3 l4 l5 l6 l7 l8 l9 l10 l11 l12 l13 : mV} {s0 : Int} {r0 : Nat} {h : mH} : m_run Z (278, 457, [(2, ((r0 : Nat) : Int)), l1, l2, l3, l4, l5, l6, l7, l8, l9, l10, l11, l12, l13], [(0, s0)], h) = (m_cl Z 264 [(2, ((r0 : Nat) : Int)), (0, 3)] h).bind (m_aft (m_run Z) 278 459 [(2, ((r0 : Nat) : Int)), l1, l2, l3, l4, l5, l6, l7, l8, l9, l10, l11, l12, l13] [(0, s0)]) := by
  refine g_aload_n (k := 0) (v := (2, ((r0 : Nat) : Int))) (by decide +kernel : decode (m_byt 278) 457 = .ok (.aload_n 0, 1)) rfl (Or.inl rfl) ?_
  refine g_base (by decide +kernel : decode (m_byt 278) 458 = .ok (.iconst 3, 1)) rfl rfl ?_
  show m_run Z (278, 459, [(2, ((r0 : Nat) : Int)), l1, l2, l3, l4, l5, l6, l7, l8, l9, l10, l11, l12, l13], [(0, 3), (2, ((r0 : Nat) : Int)), (0, s0)], h) = _
  exact g_inv (k := 0) (m' := 264) (np := 2) (as := [(2, ((r0 : Nat) : Int)), (0, 3)]) (by decide +kernel : decode (m_byt 278) 459 = .ok (.invokestatic 177, 3)) (Or.inr (Or.inr ⟨rfl, rfl, by decide, by decide⟩)) (by decide +kernel) (by decide +kernel) (by decide +kernel) (Nat.le_of_ble_eq_true rfl) rfl (Or.inl rfl)
theorem b_278_462 {Z : mZ} {l0 l1 l2 l3 l4 l5 l6 l7 l8 l9 l10 l11 l12 l13 : mV} {s0 s1 : Int} {h : mH} : m_run Z (278, 462, [l0, l1, l2, l3, l4, l5, l6, l7, l8, l9, l10, l11, l12, l13], [(0, s0), (0, s1)], h) = if w32 s1 = w32 s0 then m_run Z (278, 465, [l0, l1, l2, l3, l4, l5, l6, l7, l8, l9, l10, l11, l12, l13], [], h) else m_run Z (278, 530, [l0, l1, l2, l3, l4, l5, l6, l7, l8, l9, l10, l11, l12, l13], [], h) := by
  exact g_brn (t := 530) (off := 68) (by decide +kernel : decode (m_byt 278) 462 = .ok (.if_icmp .ne 68, 3)) rfl rfl (by decide)
theorem b_278_465 {Z : mZ} {l1 l2 l3 l4 l5 l6 l7 l8 l9 l10 l11 l12 l13 : mV} {r0 : Nat} {h : mH} : m_run Z (278, 465, [(2, ((r0 : Nat) : Int)), l1, l2, l3, l4, l5, l6, l7, l8, l9, l10, l11, l12, l13], [], h) = (m_cl Z 264 [(2, ((r0 : Nat) : Int)), (0, 0)] h).bind (m_aft (m_run Z) 278 468 [(2, ((r0 : Nat) : Int)), l1, l2, l3, l4, l5, l6, l7, l8, l9, l10, l11, l12, l13] [(2, ((r0 : Nat) : Int))]) := by
  refine g_aload_n (k := 0) (v := (2, ((r0 : Nat) : Int))) (by decide +kernel : decode (m_byt 278) 465 = .ok (.aload_n 0, 1)) rfl (Or.inl rfl) ?_
  refine g_aload_n (k := 0) (v := (2, ((r0 : Nat) : Int))) (by decide +kernel : decode (m_byt 278) 466 = .ok (.aload_n 0, 1)) rfl (Or.inl rfl) ?_
  refine g_base (by decide +kernel : decode (m_byt 278) 467 = .ok (.iconst 0, 1)) rfl rfl ?_
  show m_run Z (278, 468, [(2, ((r0 : Nat) : Int)), l1, l2, l3, l4, l5, l6, l7, l8, l9, l10, l11, l12, l13], [(0, 0), (2, ((r0 : Nat) : Int)), (2, ((r0 : Nat) : Int))], h) = _
  exact g_inv (k := 0) (m' := 264) (np := 2) (as := [(2, ((r0 : Nat) : Int)), (0, 0)]) (by decide +kernel : decode (m_byt 278) 468 = .ok (.invokestatic 177, 3)) (Or.inr (Or.inr ⟨rfl, rfl, by decide, by decide⟩)) (by decide +kernel) (by decide +kernel) (by decide +kernel) (Nat.le_of_ble_eq_true rfl) rfl (Or.inl rfl)
theorem b_278_471 {Z : mZ} {l1 l2 l3 l4 l5 l6 l7 l8 l9 l10 l11 l12 l13 : mV} {s0 : Int} {s1 r0 : Nat} {h : mH} : m_run Z (278, 471, [(2, ((r0 : Nat) : Int)), l1, l2, l3, l4, l5, l6, l7, l8, l9, l10, l11, l12, l13], [(0, s0), (2, ((s1 : Nat) : Int))], h) = (m_cl Z 264 [(2, ((r0 : Nat) : Int)), (0, 1)] h).bind (m_aft (m_run Z) 278 473 [(2, ((r0 : Nat) : Int)), l1, l2, l3, l4, l5, l6, l7, l8, l9, l10, l11, l12, l13] [(0, s0), (2, ((s1 : Nat) : Int))]) := by
  refine g_aload_n (k := 0) (v := (2, ((r0 : Nat) : Int))) (by decide +kernel : decode (m_byt 278) 471 = .ok (.aload_n 0, 1)) rfl (Or.inl rfl) ?_
  refine g_base (by decide +kernel : decode (m_byt 278) 472 = .ok (.iconst 1, 1)) rfl rfl ?_
  show m_run Z (278, 473, [(2, ((r0 : Nat) : Int)), l1, l2, l3, l4, l5, l6, l7, l8, l9, l10, l11, l12, l13], [(0, 1), (2, ((r0 : Nat) : Int)), (0, s0), (2, ((s1 : Nat) : Int))], h) = _
  exact g_inv (k := 0) (m' := 264) (np := 2) (as := [(2, ((r0 : Nat) : Int)), (0, 1)]) (by decide +kernel : decode (m_byt 278) 473 = .ok (.invokestatic 177, 3)) (Or.inr (Or.inr ⟨rfl, rfl, by decide, by decide⟩)) (by decide +kernel) (by decide +kernel) (by decide +kernel) (Nat.le_of_ble_eq_true rfl) rfl (Or.inl rfl)
theorem b_278_476 {Z : mZ} {l1 l2 l3 l4 l5 l6 l7 l8 l9 l10 l11 l12 l13 : mV} {s0 s1 : Int} {s2 r0 : Nat} {h : mH} : m_run Z (278, 476, [(2, ((r0 : Nat) : Int)), l1, l2, l3, l4, l5, l6, l7, l8, l9, l10, l11, l12, l13], [(0, s0), (0, s1), (2, ((s2 : Nat) : Int))], h) = (m_cl Z 264 [(2, ((r0 : Nat) : Int)), (0, 2)] h).bind (m_aft (m_run Z) 278 478 [(2, ((r0 : Nat) : Int)), l1, l2, l3, l4, l5, l6, l7, l8, l9, l10, l11, l12, l13] [(0, s0), (0, s1), (2, ((s2 : Nat) : Int))]) := by
  refine g_aload_n (k := 0) (v := (2, ((r0 : Nat) : Int))) (by decide +kernel : decode (m_byt 278) 476 = .ok (.aload_n 0, 1)) rfl (Or.inl rfl) ?_
  refine g_base (by decide +kernel : decode (m_byt 278) 477 = .ok (.iconst 2, 1)) rfl rfl ?_
  show m_run Z (278, 478, [(2, ((r0 : Nat) : Int)), l1, l2, l3, l4, l5, l6, l7, l8, l9, l10, l11, l12, l13], [(0, 2), (2, ((r0 : Nat) : Int)), (0, s0), (0, s1), (2, ((s2 : Nat) : Int))], h) = _
  exact g_inv (k := 0) (m' := 264) (np := 2) (as := [(2, ((r0 : Nat) : Int)), (0, 2)]) (by decide +kernel : decode (m_byt 278) 478 = .ok (.invokestatic 177, 3)) (Or.inr (Or.inr ⟨rfl, rfl, by decide, by decide⟩)) (by decide +kernel) (by decide +kernel) (by decide +kernel) (Nat.le_of_ble_eq_true rfl) rfl (Or.inl rfl)
theorem b_278_481 {Z : mZ} {l0 l1 l2 l3 l4 l5 l6 l7 l8 l9 l10 l11 l12 l13 : mV} {s0 s1 s2 : Int} {s3 : Nat} {h : mH} : m_run Z (278, 481, [l0, l1, l2, l3, l4, l5, l6, l7, l8, l9, l10, l11, l12, l13], [(0, s0), (0, s1), (0, s2), (2, ((s3 : Nat) : Int))], h) = (m_cl Z 257 [(2, ((s3 : Nat) : Int)), (0, s2), (0, s1), (0, s0)] h).bind (m_aft (m_run Z) 278 481 [l0, l1, l2, l3, l4, l5, l6, l7, l8, l9, l10, l11, l12, l13] []) := by
  exact g_inv (k := 0) (m' := 257) (np := 4) (as := [(2, ((s3 : Nat) : Int)), (0, s2), (0, s1), (0, s0)]) (by decide +kernel : decode (m_byt 278) 481 = .ok (.invokestatic 162, 3)) (Or.inr (Or.inr ⟨rfl, rfl, by decide, by decide⟩)) (by decide +kernel) (by decide +kernel) (by decide +kernel) (Nat.le_of_ble_eq_true rfl) rfl (Or.inl rfl)
theorem b_278_484 {Z : mZ} {l0 l1 l2 l3 l4 l5 l6 l7 l8 l9 l10 l11 l12 l13 : mV} {s0 : Int} {h : mH} : m_run Z (278, 484, [l0, l1, l2, l3, l4, l5, l6, l7, l8, l9, l10, l11, l12, l13], [(0, s0)], h) = if w32 s0 = w32 1 then m_run Z (278, 488, [l0, l1, l2, l3, l4, l5, l6, l7, l8, l9, l10, l11, l12, l13], [], h) else m_run Z (278, 530, [l0, l1, l2, l3, l4, l5, l6, l7, l8, l9, l10, l11, l12, l13], [], h) := by
  refine g_base (by decide +kernel : decode (m_byt 278) 484 = .ok (.iconst 1, 1)) rfl rfl ?_
  show m_run Z (278, 485, [l0, l1, l2, l3, l4, l5, l6, l7, l8, l9, l10, l11, l12, l13], [(0, 1), (0, s0)], h) = _
  exact g_brn (t := 530) (off := 45) (by decide +kernel : decode (m_byt 278) 485 = .ok (.if_icmp .ne 45, 3)) rfl rfl (by decide)
theorem b_278_488 {Z : mZ} {l0 l2 l3 l4 l5 l6 l7 l8 l9 l10 l11 l12 l13 : mV} {x1 : Int} {h : mH} : m_run Z (278, 488, [l0, (0, x1), l2, l3, l4, l5, l6, l7, l8, l9, l10, l11, l12, l13], [], h) = if w32 x1 = 0 then m_run Z (278, 526, [l0, (0, x1), l2, l3, l4, l5, l6, l7, l8, l9, l10, l11, l12, l13], [], h) else m_run Z (278, 492, [l0, (0, x1), l2, l3, l4, l5, l6, l7, l8, l9, l10, l11, l12, l13], [], h) := by
  refine g_iload_n (k := 1) (x := x1) (by decide +kernel : decode (m_byt 278) 488 = .ok (.iload_n 1, 1)) rfl ?_
  exact g_brq (t := 526) (off := 37) (by decide +kernel : decode (m_byt 278) 489 = .ok (.ifCond .eq 37, 3)) rfl rfl (by decide)
theorem b_278_492 {Z : mZ} {l2 l3 l4 l5 l6 l7 l8 l9 l10 l11 l12 l13 : mV} {x1 : Int} {r0 : Nat} {h : mH} : m_run Z (278, 492, [(2, ((r0 : Nat) : Int)), (0, x1), l2, l3, l4, l5, l6, l7, l8, l9, l10, l11, l12, l13], [], h) = (m_cl Z 261 [(2, ((r0 : Nat) : Int)), (0, (i_and x1 (x1 - 1))), (0, 0)] h).bind (m_aft (m_run Z) 278 499 [(2, ((r0 : Nat) : Int)), (0, x1), l2, l3, l4, l5, l6, l7, l8, l9, l10, l11, l12, l13] []) := by
  refine g_aload_n (k := 0) (v := (2, ((r0 : Nat) : Int))) (by decide +kernel : decode (m_byt 278) 492 = .ok (.aload_n 0, 1)) rfl (Or.inl rfl) ?_
  refine g_iload_n (k := 1) (x := x1) (by decide +kernel : decode (m_byt 278) 493 = .ok (.iload_n 1, 1)) rfl ?_
  refine g_iload_n (k := 1) (x := x1) (by decide +kernel : decode (m_byt 278) 494 = .ok (.iload_n 1, 1)) rfl ?_
  refine g_base (by decide +kernel : decode (m_byt 278) 495 = .ok (.iconst 1, 1)) rfl rfl ?_
  show m_run Z (278, 496, [(2, ((r0 : Nat) : Int)), (0, x1), l2, l3, l4, l5, l6, l7, l8, l9, l10, l11, l12, l13], [(0, 1), (0, x1), (0, x1), (2, ((r0 : Nat) : Int))], h) = _
  refine g_base (by decide +kernel : decode (m_byt 278) 496 = .ok (.isub, 1)) rfl rfl ?_
  show m_run Z (278, 497, [(2, ((r0 : Nat) : Int)), (0, x1), l2, l3, l4, l5, l6, l7, l8, l9, l10, l11, l12, l13], [(0, (x1 - 1)), (0, x1), (2, ((r0 : Nat) : Int))], h) = _
  refine g_base (by decide +kernel : decode (m_byt 278) 497 = .ok (.iand, 1)) rfl rfl ?_
  show m_run Z (278, 498, [(2, ((r0 : Nat) : Int)), (0, x1), l2, l3, l4, l5, l6, l7, l8, l9, l10, l11, l12, l13], [(0, (i_and x1 (x1 - 1))), (2, ((r0 : Nat) : Int))], h) = _
  refine g_base (by decide +kernel : decode (m_byt 278) 498 = .ok (.iconst 0, 1)) rfl rfl ?_
  show m_run Z (278, 499, [(2, ((r0 : Nat) : Int)), (0, x1), l2, l3, l4, l5, l6, l7, l8, l9, l10, l11, l12, l13], [(0, 0), (0, (i_and x1 (x1 - 1))), (2, ((r0 : Nat) : Int))], h) = _
  exact g_inv (k := 0) (m' := 261) (np := 3) (as := [(2, ((r0 : Nat) : Int)), (0, (i_and x1 (x1 - 1))), (0, 0)]) (by decide +kernel : decode (m_byt 278) 499 = .ok (.invokestatic 171, 3)) (Or.inr (Or.inr ⟨rfl, rfl, by decide, by decide⟩)) (by decide +kernel) (by decide +kernel) (by decide +kernel) (Nat.le_of_ble_eq_true rfl) rfl (Or.inl rfl)
theorem b_278_502 {Z : mZ} {l2 l3 l4 l5 l6 l7 l8 l9 l10 l11 l12 l13 : mV} {s0 x1 : Int} {r0 : Nat} {h : mH} : m_run Z (278, 502, [(2, ((r0 : Nat) : Int)), (0, x1), l2, l3, l4, l5, l6, l7, l8, l9, l10, l11, l12, l13], [(0, s0)], h) = (m_cl Z 261 [(2, ((r0 : Nat) : Int)), (0, (i_and x1 (x1 - 1))), (0, 1)] h).bind (m_aft (m_run Z) 278 510 [(2, ((r0 : Nat) : Int)), (0, x1), l2, l3, l4, l5, l6, l7, l8, l9, l10, l11, l12, l13] [(1, (w32 s0))]) := by
  refine g_base (by decide +kernel : decode (m_byt 278) 502 = .ok (.i2l, 1)) rfl rfl ?_
  show m_run Z (278, 503, [(2, ((r0 : Nat) : Int)), (0, x1), l2, l3, l4, l5, l6, l7, l8, l9, l10, l11, l12, l13], [(1, (w32 s0))], h) = _
  refine g_aload_n (k := 0) (v := (2, ((r0 : Nat) : Int))) (by decide +kernel : decode (m_byt 278) 503 = .ok (.aload_n 0, 1)) rfl (Or.inl rfl) ?_
  refine g_iload_n (k := 1) (x := x1) (by decide +kernel : decode (m_byt 278) 504 = .ok (.iload_n 1, 1)) rfl ?_
  refine g_iload_n (k := 1) (x := x1) (by decide +kernel : decode (m_byt 278) 505 = .ok (.iload_n 1, 1)) rfl ?_
  refine g_base (by decide +kernel : decode (m_byt 278) 506 = .ok (.iconst 1, 1)) rfl rfl ?_
  show m_run Z (278, 507, [(2, ((r0 : Nat) : Int)), (0, x1), l2, l3, l4, l5, l6, l7, l8, l9, l10, l11, l12, l13], [(0, 1), (0, x1), (0, x1), (2, ((r0 : Nat) : Int)), (1, (w32 s0))], h) = _
  refine g_base (by decide +kernel : decode (m_byt 278) 507 = .ok (.isub, 1)) rfl rfl ?_
  show m_run Z (278, 508, [(2, ((r0 : Nat) : Int)), (0, x1), l2, l3, l4, l5, l6, l7, l8, l9, l10, l11, l12, l13], [(0, (x1 - 1)), (0, x1), (2, ((r0 : Nat) : Int)), (1, (w32 s0))], h) = _
  refine g_base (by decide +kernel : decode (m_byt 278) 508 = .ok (.iand, 1)) rfl rfl ?_
  show m_run Z (278, 509, [(2, ((r0 : Nat) : Int)), (0, x1), l2, l3, l4, l5, l6, l7, l8, l9, l10, l11, l12, l13], [(0, (i_and x1 (x1 - 1))), (2, ((r0 : Nat) : Int)), (1, (w32 s0))], h) = _
  refine g_base (by decide +kernel : decode (m_byt 278) 509 = .ok (.iconst 1, 1)) rfl rfl ?_
  show m_run Z (278, 510, [(2, ((r0 : Nat) : Int)), (0, x1), l2, l3, l4, l5, l6, l7, l8, l9, l10, l11, l12, l13], [(0, 1), (0, (i_and x1 (x1 - 1))), (2, ((r0 : Nat) : Int)), (1, (w32 s0))], h) = _
  exact g_inv (k := 0) (m' := 261) (np := 3) (as := [(2, ((r0 : Nat) : Int)), (0, (i_and x1 (x1 - 1))), (0, 1)]) (by decide +kernel : decode (m_byt 278) 510 = .ok (.invokestatic 171, 3)) (Or.inr (Or.inr ⟨rfl, rfl, by decide, by decide⟩)) (by decide +kernel) (by decide +kernel) (by decide +kernel) (Nat.le_of_ble_eq_true rfl) rfl (Or.inl rfl)
theorem b_278_513 {Z : mZ} {l0 l1 l2 l3 l6 l7 l8 l9 l10 l11 l12 l13 : mV} {s0 s1 x4 x5 : Int} {h : mH} : m_run Z (278, 513, [l0, l1, l2, l3, (0, x4), (0, x5), l6, l7, l8, l9, l10, l11, l12, l13], [(0, s0), (1, s1)], h) = (m_cl Z 276 [(1, s1), (1, (w32 s0)), (1, (w32 x4)), (1, (w32 x5))] h).bind (m_aft (m_run Z) 278 520 [l0, l1, l2, l3, (0, x4), (0, x5), l6, l7, l8, l9, l10, l11, l12, l13] []) := by
  refine g_base (by decide +kernel : decode (m_byt 278) 513 = .ok (.i2l, 1)) rfl rfl ?_
  show m_run Z (278, 514, [l0, l1, l2, l3, (0, x4), (0, x5), l6, l7, l8, l9, l10, l11, l12, l13], [(1, (w32 s0)), (1, s1)], h) = _
  refine g_iload (k := 4) (x := x4) (by decide +kernel : decode (m_byt 278) 514 = .ok (.iload 4, 2)) rfl ?_
  refine g_base (by decide +kernel : decode (m_byt 278) 516 = .ok (.i2l, 1)) rfl rfl ?_
  show m_run Z (278, 517, [l0, l1, l2, l3, (0, x4), (0, x5), l6, l7, l8, l9, l10, l11, l12, l13], [(1, (w32 x4)), (1, (w32 s0)), (1, s1)], h) = _
  refine g_iload (k := 5) (x := x5) (by decide +kernel : decode (m_byt 278) 517 = .ok (.iload 5, 2)) rfl ?_
  refine g_base (by decide +kernel : decode (m_byt 278) 519 = .ok (.i2l, 1)) rfl rfl ?_
  show m_run Z (278, 520, [l0, l1, l2, l3, (0, x4), (0, x5), l6, l7, l8, l9, l10, l11, l12, l13], [(1, (w32 x5)), (1, (w32 x4)), (1, (w32 s0)), (1, s1)], h) = _
  exact g_inv (k := 0) (m' := 276) (np := 4) (as := [(1, s1), (1, (w32 s0)), (1, (w32 x4)), (1, (w32 x5))]) (by decide +kernel : decode (m_byt 278) 520 = .ok (.invokestatic 200, 3)) (Or.inr (Or.inr ⟨rfl, rfl, by decide, by decide⟩)) (by decide +kernel) (by decide +kernel) (by decide +kernel) (Nat.le_of_ble_eq_true rfl) rfl (Or.inl rfl)
theorem b_278_523 {Z : mZ} {l0 l1 l2 l3 l4 l5 l6 l7 l8 l9 l10 l11 l12 l13 : mV} {s0 : Int} {h : mH} : m_run Z (278, 523, [l0, l1, l2, l3, l4, l5, l6, l7, l8, l9, l10, l11, l12, l13], [(0, s0)], h) = if w32 s0 = 0 then m_run Z (278, 530, [l0, l1, l2, l3, l4, l5, l6, l7, l8, l9, l10, l11, l12, l13], [], h) else m_run Z (278, 526, [l0, l1, l2, l3, l4, l5, l6, l7, l8, l9, l10, l11, l12, l13], [], h) := by
  exact g_brq (t := 530) (off := 7) (by decide +kernel : decode (m_byt 278) 523 = .ok (.ifCond .eq 7, 3)) rfl rfl (by decide)
theorem b_278_526 {Z : mZ} {l0 l1 l2 l3 l4 l5 l6 l7 l8 l9 l10 l11 l12 l13 : mV} {h : mH} : m_run Z (278, 526, [l0, l1, l2, l3, l4, l5, l6, l7, l8, l9, l10, l11, l12, l13], [], h) = some (.inl (0, 1), h) := by
  refine g_base (by decide +kernel : decode (m_byt 278) 526 = .ok (.iconst 1, 1)) rfl rfl ?_
  show m_run Z (278, 527, [l0, l1, l2, l3, l4, l5, l6, l7, l8, l9, l10, l11, l12, l13], [(0, 1)], h) = _
  refine g_jmp (t := 531) (by decide +kernel : decode (m_byt 278) 527 = .ok (.goto 4, 3)) (by decide) ?_
  exact g_zret (by decide +kernel : decode (m_byt 278) 531 = .ok (.ireturn, 1)) (by decide +kernel) (by decide)
theorem b_278_530 {Z : mZ} {l0 l1 l2 l3 l4 l5 l6 l7 l8 l9 l10 l11 l12 l13 : mV} {h : mH} : m_run Z (278, 530, [l0, l1, l2, l3, l4, l5, l6, l7, l8, l9, l10, l11, l12, l13], [], h) = m_run Z (278, 531, [l0, l1, l2, l3, l4, l5, l6, l7, l8, l9, l10, l11, l12, l13], [(0, 0)], h) := by
  refine g_base (by decide +kernel : decode (m_byt 278) 530 = .ok (.iconst 0, 1)) rfl rfl ?_
  show m_run Z (278, 531, [l0, l1, l2, l3, l4, l5, l6, l7, l8, l9, l10, l11, l12, l13], [(0, 0)], h) = _
  rfl
theorem b_278_531 {Z : mZ} {l0 l1 l2 l3 l4 l5 l6 l7 l8 l9 l10 l11 l12 l13 : mV} {s0 : Int} {h : mH} (h0 : w32 s0 = 0 ∨ w32 s0 = 1) : m_run Z (278, 531, [l0, l1, l2, l3, l4, l5, l6, l7, l8, l9, l10, l11, l12, l13], [(0, s0)], h) = some (.inl (0, s0), h) := by
  exact g_zret (by decide +kernel : decode (m_byt 278) 531 = .ok (.ireturn, 1)) (by decide +kernel) h0
end
