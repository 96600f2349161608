section
theorem e_279 {Z : mZ} {r0 : Nat} {x1 : Int} {h : mH} : m_cl Z 279 [(2, ((r0 : Nat) : Int)), (0, x1)] h = m_run Z (279, 0, [(2, ((r0 : Nat) : Int)), (0, x1), (9, 0), (9, 0), (9, 0), (9, 0), (9, 0), (9, 0), (9, 0), (9, 0)], [], h) := g_ent (k := 10) (by decide) (by decide +kernel) (Nat.le_of_ble_eq_true rfl) (by decide +kernel) rfl
theorem b_279_0 {Z : mZ} {l1 l2 l3 l4 l5 l6 l7 l8 l9 : mV} {r0 : Nat} {h : mH} : m_run Z (279, 0, [(2, ((r0 : Nat) : Int)), l1, l2, l3, l4, l5, l6, l7, l8, l9], [], h) = (m_cl Z 250 [(2, ((r0 : Nat) : Int)), (0, 0)] h).bind (m_aft (m_run Z) 279 3 [(2, ((r0 : Nat) : Int)), l1, l2, l3, l4, l5, l6, l7, l8, l9] [(0, 1)]) := by
  refine g_base (by decide +kernel : decode (m_byt 279) 0 = .ok (.iconst 1, 1)) rfl rfl ?_
  show m_run Z (279, 1, [(2, ((r0 : Nat) : Int)), l1, l2, l3, l4, l5, l6, l7, l8, l9], [(0, 1)], h) = _
  refine g_aload_n (k := 0) (v := (2, ((r0 : Nat) : Int))) (by decide +kernel : decode (m_byt 279) 1 = .ok (.aload_n 0, 1)) rfl (Or.inl rfl) ?_
  refine g_base (by decide +kernel : decode (m_byt 279) 2 = .ok (.iconst 0, 1)) rfl rfl ?_
  show m_run Z (279, 3, [(2, ((r0 : Nat) : Int)), l1, l2, l3, l4, l5, l6, l7, l8, l9], [(0, 0), (2, ((r0 : Nat) : Int)), (0, 1)], h) = _
  exact g_inv (k := 0) (m' := 250) (np := 2) (as := [(2, ((r0 : Nat) : Int)), (0, 0)]) (by decide +kernel : decode (m_byt 279) 3 = .ok (.invokestatic 149, 3)) (Or.inr (Or.inr ⟨rfl, rfl, by decide, by decide⟩)) (by decide +kernel) (by decide +kernel) (by decide +kernel) (Nat.le_of_ble_eq_true rfl) rfl (Or.inl rfl)
theorem b_279_6 {Z : mZ} {l2 l3 l4 l5 l6 l7 l8 l9 : mV} {s0 s1 x1 : Int} {r0 : Nat} {h : mH} : m_run Z (279, 6, [(2, ((r0 : Nat) : Int)), (0, x1), l2, l3, l4, l5, l6, l7, l8, l9], [(0, s0), (0, s1)], h) = (m_cl Z 265 [(2, ((r0 : Nat) : Int)), (0, x1), (0, 0)] h).bind (m_aft (m_run Z) 279 13 [(2, ((r0 : Nat) : Int)), (0, x1), (0, ((i_shl s1 s0) - 1)), l3, l4, l5, l6, l7, l8, l9] []) := by
  refine g_base (by decide +kernel : decode (m_byt 279) 6 = .ok (.ishl, 1)) rfl rfl ?_
  show m_run Z (279, 7, [(2, ((r0 : Nat) : Int)), (0, x1), l2, l3, l4, l5, l6, l7, l8, l9], [(0, (i_shl s1 s0))], h) = _
  refine g_base (by decide +kernel : decode (m_byt 279) 7 = .ok (.iconst 1, 1)) rfl rfl ?_
  show m_run Z (279, 8, [(2, ((r0 : Nat) : Int)), (0, x1), l2, l3, l4, l5, l6, l7, l8, l9], [(0, 1), (0, (i_shl s1 s0))], h) = _
  refine g_base (by decide +kernel : decode (m_byt 279) 8 = .ok (.isub, 1)) rfl rfl ?_
  show m_run Z (279, 9, [(2, ((r0 : Nat) : Int)), (0, x1), l2, l3, l4, l5, l6, l7, l8, l9], [(0, ((i_shl s1 s0) - 1))], h) = _
  refine g_istore_n (k := 2) (by decide +kernel : decode (m_byt 279) 9 = .ok (.istore_n 2, 1)) (Nat.le_of_ble_eq_true rfl) ?_
  show m_run Z (279, 10, [(2, ((r0 : Nat) : Int)), (0, x1), (0, ((i_shl s1 s0) - 1)), l3, l4, l5, l6, l7, l8, l9], [], h) = _
  refine g_aload_n (k := 0) (v := (2, ((r0 : Nat) : Int))) (by decide +kernel : decode (m_byt 279) 10 = .ok (.aload_n 0, 1)) rfl (Or.inl rfl) ?_
  refine g_iload_n (k := 1) (x := x1) (by decide +kernel : decode (m_byt 279) 11 = .ok (.iload_n 1, 1)) rfl ?_
  refine g_base (by decide +kernel : decode (m_byt 279) 12 = .ok (.iconst 0, 1)) rfl rfl ?_
  show m_run Z (279, 13, [(2, ((r0 : Nat) : Int)), (0, x1), (0, ((i_shl s1 s0) - 1)), l3, l4, l5, l6, l7, l8, l9], [(0, 0), (0, x1), (2, ((r0 : Nat) : Int))], h) = _
  exact g_inv (k := 0) (m' := 265) (np := 3) (as := [(2, ((r0 : Nat) : Int)), (0, x1), (0, 0)]) (by decide +kernel : decode (m_byt 279) 13 = .ok (.invokestatic 179, 3)) (Or.inr (Or.inr ⟨rfl, rfl, by decide, by decide⟩)) (by decide +kernel) (by decide +kernel) (by decide +kernel) (Nat.le_of_ble_eq_true rfl) rfl (Or.inl rfl)
theorem b_279_16 {Z : mZ} {l3 l4 l5 l6 l7 l8 l9 : mV} {s0 x2 x1 : Int} {r0 : Nat} {h : mH} : m_run Z (279, 16, [(2, ((r0 : Nat) : Int)), (0, x1), (0, x2), l3, l4, l5, l6, l7, l8, l9], [(0, s0)], h) = (m_cl Z 265 [(2, ((r0 : Nat) : Int)), (0, x1), (0, 1)] h).bind (m_aft (m_run Z) 279 20 [(2, ((r0 : Nat) : Int)), (0, x1), (0, x2), (0, s0), l4, l5, l6, l7, l8, l9] []) := by
  refine g_istore_n (k := 3) (by decide +kernel : decode (m_byt 279) 16 = .ok (.istore_n 3, 1)) (Nat.le_of_ble_eq_true rfl) ?_
  show m_run Z (279, 17, [(2, ((r0 : Nat) : Int)), (0, x1), (0, x2), (0, s0), l4, l5, l6, l7, l8, l9], [], h) = _
  refine g_aload_n (k := 0) (v := (2, ((r0 : Nat) : Int))) (by decide +kernel : decode (m_byt 279) 17 = .ok (.aload_n 0, 1)) rfl (Or.inl rfl) ?_
  refine g_iload_n (k := 1) (x := x1) (by decide +kernel : decode (m_byt 279) 18 = .ok (.iload_n 1, 1)) rfl ?_
  refine g_base (by decide +kernel : decode (m_byt 279) 19 = .ok (.iconst 1, 1)) rfl rfl ?_
  show m_run Z (279, 20, [(2, ((r0 : Nat) : Int)), (0, x1), (0, x2), (0, s0), l4, l5, l6, l7, l8, l9], [(0, 1), (0, x1), (2, ((r0 : Nat) : Int))], h) = _
  exact g_inv (k := 0) (m' := 265) (np := 3) (as := [(2, ((r0 : Nat) : Int)), (0, x1), (0, 1)]) (by decide +kernel : decode (m_byt 279) 20 = .ok (.invokestatic 179, 3)) (Or.inr (Or.inr ⟨rfl, rfl, by decide, by decide⟩)) (by decide +kernel) (by decide +kernel) (by decide +kernel) (Nat.le_of_ble_eq_true rfl) rfl (Or.inl rfl)
theorem b_279_23 {Z : mZ} {l0 l2 l4 l5 l6 l7 l8 l9 : mV} {s0 x3 x1 : Int} {h : mH} : m_run Z (279, 23, [l0, (0, x1), l2, (0, x3), l4, l5, l6, l7, l8, l9], [(0, s0)], h) = if w32 x1 ≤ w32 1 then m_run Z (279, 62, [l0, (0, x1), l2, (0, x3), (0, s0), (0, 0), l6, l7, l8, l9], [], h) else m_run Z (279, 33, [l0, (0, x1), l2, (0, x3), (0, s0), (0, 0), l6, l7, l8, l9], [], h) := by
  refine g_istore (k := 4) (by decide +kernel : decode (m_byt 279) 23 = .ok (.istore 4, 2)) (Nat.le_of_ble_eq_true rfl) ?_
  show m_run Z (279, 25, [l0, (0, x1), l2, (0, x3), (0, s0), l5, l6, l7, l8, l9], [], h) = _
  refine g_base (by decide +kernel : decode (m_byt 279) 25 = .ok (.iconst 0, 1)) rfl rfl ?_
  show m_run Z (279, 26, [l0, (0, x1), l2, (0, x3), (0, s0), l5, l6, l7, l8, l9], [(0, 0)], h) = _
  refine g_istore (k := 5) (by decide +kernel : decode (m_byt 279) 26 = .ok (.istore 5, 2)) (Nat.le_of_ble_eq_true rfl) ?_
  show m_run Z (279, 28, [l0, (0, x1), l2, (0, x3), (0, s0), (0, 0), l6, l7, l8, l9], [], h) = _
  refine g_iload_n (k := 1) (x := x1) (by decide +kernel : decode (m_byt 279) 28 = .ok (.iload_n 1, 1)) rfl ?_
  refine g_base (by decide +kernel : decode (m_byt 279) 29 = .ok (.iconst 1, 1)) rfl rfl ?_
  show m_run Z (279, 30, [l0, (0, x1), l2, (0, x3), (0, s0), (0, 0), l6, l7, l8, l9], [(0, 1), (0, x1)], h) = _
  exact g_brq (t := 62) (off := 32) (by decide +kernel : decode (m_byt 279) 30 = .ok (.if_icmp .le 32, 3)) rfl rfl (by decide)
theorem b_279_33 {Z : mZ} {l2 l5 l6 l7 l8 l9 : mV} {x3 x4 x1 : Int} {r0 : Nat} {h : mH} : m_run Z (279, 33, [(2, ((r0 : Nat) : Int)), (0, x1), l2, (0, x3), (0, x4), l5, l6, l7, l8, l9], [], h) = (m_cl Z 265 [(2, ((r0 : Nat) : Int)), (0, (x1 - 1)), (0, 0)] h).bind (m_aft (m_run Z) 279 43 [(2, ((r0 : Nat) : Int)), (0, x1), l2, (0, x3), (0, x4), l5, l6, l7, l8, l9] [(1, (w32 x4)), (1, (w32 x3))]) := by
  refine g_iload_n (k := 3) (x := x3) (by decide +kernel : decode (m_byt 279) 33 = .ok (.iload_n 3, 1)) rfl ?_
  refine g_base (by decide +kernel : decode (m_byt 279) 34 = .ok (.i2l, 1)) rfl rfl ?_
  show m_run Z (279, 35, [(2, ((r0 : Nat) : Int)), (0, x1), l2, (0, x3), (0, x4), l5, l6, l7, l8, l9], [(1, (w32 x3))], h) = _
  refine g_iload (k := 4) (x := x4) (by decide +kernel : decode (m_byt 279) 35 = .ok (.iload 4, 2)) rfl ?_
  refine g_base (by decide +kernel : decode (m_byt 279) 37 = .ok (.i2l, 1)) rfl rfl ?_
  show m_run Z (279, 38, [(2, ((r0 : Nat) : Int)), (0, x1), l2, (0, x3), (0, x4), l5, l6, l7, l8, l9], [(1, (w32 x4)), (1, (w32 x3))], h) = _
  refine g_aload_n (k := 0) (v := (2, ((r0 : Nat) : Int))) (by decide +kernel : decode (m_byt 279) 38 = .ok (.aload_n 0, 1)) rfl (Or.inl rfl) ?_
  refine g_iload_n (k := 1) (x := x1) (by decide +kernel : decode (m_byt 279) 39 = .ok (.iload_n 1, 1)) rfl ?_
  refine g_base (by decide +kernel : decode (m_byt 279) 40 = .ok (.iconst 1, 1)) rfl rfl ?_
  show m_run Z (279, 41, [(2, ((r0 : Nat) : Int)), (0, x1), l2, (0, x3), (0, x4), l5, l6, l7, l8, l9], [(0, 1), (0, x1), (2, ((r0 : Nat) : Int)), (1, (w32 x4)), (1, (w32 x3))], h) = _
  refine g_base (by decide +kernel : decode (m_byt 279) 41 = .ok (.isub, 1)) rfl rfl ?_
  show m_run Z (279, 42, [(2, ((r0 : Nat) : Int)), (0, x1), l2, (0, x3), (0, x4), l5, l6, l7, l8, l9], [(0, (x1 - 1)), (2, ((r0 : Nat) : Int)), (1, (w32 x4)), (1, (w32 x3))], h) = _
  refine g_base (by decide +kernel : decode (m_byt 279) 42 = .ok (.iconst 0, 1)) rfl rfl ?_
  show m_run Z (279, 43, [(2, ((r0 : Nat) : Int)), (0, x1), l2, (0, x3), (0, x4), l5, l6, l7, l8, l9], [(0, 0), (0, (x1 - 1)), (2, ((r0 : Nat) : Int)), (1, (w32 x4)), (1, (w32 x3))], h) = _
  exact g_inv (k := 0) (m' := 265) (np := 3) (as := [(2, ((r0 : Nat) : Int)), (0, (x1 - 1)), (0, 0)]) (by decide +kernel : decode (m_byt 279) 43 = .ok (.invokestatic 179, 3)) (Or.inr (Or.inr ⟨rfl, rfl, by decide, by decide⟩)) (by decide +kernel) (by decide +kernel) (by decide +kernel) (Nat.le_of_ble_eq_true rfl) rfl (Or.inl rfl)
theorem b_279_46 {Z : mZ} {l2 l3 l4 l5 l6 l7 l8 l9 : mV} {s0 s1 s2 x1 : Int} {r0 : Nat} {h : mH} : m_run Z (279, 46, [(2, ((r0 : Nat) : Int)), (0, x1), l2, l3, l4, l5, l6, l7, l8, l9], [(0, s0), (1, s1), (1, s2)], h) = (m_cl Z 265 [(2, ((r0 : Nat) : Int)), (0, (x1 - 1)), (0, 1)] h).bind (m_aft (m_run Z) 279 52 [(2, ((r0 : Nat) : Int)), (0, x1), l2, l3, l4, l5, l6, l7, l8, l9] [(1, (w32 s0)), (1, s1), (1, s2)]) := by
  refine g_base (by decide +kernel : decode (m_byt 279) 46 = .ok (.i2l, 1)) rfl rfl ?_
  show m_run Z (279, 47, [(2, ((r0 : Nat) : Int)), (0, x1), l2, l3, l4, l5, l6, l7, l8, l9], [(1, (w32 s0)), (1, s1), (1, s2)], h) = _
  refine g_aload_n (k := 0) (v := (2, ((r0 : Nat) : Int))) (by decide +kernel : decode (m_byt 279) 47 = .ok (.aload_n 0, 1)) rfl (Or.inl rfl) ?_
  refine g_iload_n (k := 1) (x := x1) (by decide +kernel : decode (m_byt 279) 48 = .ok (.iload_n 1, 1)) rfl ?_
  refine g_base (by decide +kernel : decode (m_byt 279) 49 = .ok (.iconst 1, 1)) rfl rfl ?_
  show m_run Z (279, 50, [(2, ((r0 : Nat) : Int)), (0, x1), l2, l3, l4, l5, l6, l7, l8, l9], [(0, 1), (0, x1), (2, ((r0 : Nat) : Int)), (1, (w32 s0)), (1, s1), (1, s2)], h) = _
  refine g_base (by decide +kernel : decode (m_byt 279) 50 = .ok (.isub, 1)) rfl rfl ?_
  show m_run Z (279, 51, [(2, ((r0 : Nat) : Int)), (0, x1), l2, l3, l4, l5, l6, l7, l8, l9], [(0, (x1 - 1)), (2, ((r0 : Nat) : Int)), (1, (w32 s0)), (1, s1), (1, s2)], h) = _
  refine g_base (by decide +kernel : decode (m_byt 279) 51 = .ok (.iconst 1, 1)) rfl rfl ?_
  show m_run Z (279, 52, [(2, ((r0 : Nat) : Int)), (0, x1), l2, l3, l4, l5, l6, l7, l8, l9], [(0, 1), (0, (x1 - 1)), (2, ((r0 : Nat) : Int)), (1, (w32 s0)), (1, s1), (1, s2)], h) = _
  exact g_inv (k := 0) (m' := 265) (np := 3) (as := [(2, ((r0 : Nat) : Int)), (0, (x1 - 1)), (0, 1)]) (by decide +kernel : decode (m_byt 279) 52 = .ok (.invokestatic 179, 3)) (Or.inr (Or.inr ⟨rfl, rfl, by decide, by decide⟩)) (by decide +kernel) (by decide +kernel) (by decide +kernel) (Nat.le_of_ble_eq_true rfl) rfl (Or.inl rfl)
theorem b_279_55 {Z : mZ} {l0 l1 l2 l3 l4 l5 l6 l7 l8 l9 : mV} {s0 s1 s2 s3 : Int} {h : mH} : m_run Z (279, 55, [l0, l1, l2, l3, l4, l5, l6, l7, l8, l9], [(0, s0), (1, s1), (1, s2), (1, s3)], h) = (m_cl Z 276 [(1, s3), (1, s2), (1, s1), (1, (w32 s0))] h).bind (m_aft (m_run Z) 279 56 [l0, l1, l2, l3, l4, l5, l6, l7, l8, l9] []) := by
  refine g_base (by decide +kernel : decode (m_byt 279) 55 = .ok (.i2l, 1)) rfl rfl ?_
  show m_run Z (279, 56, [l0, l1, l2, l3, l4, l5, l6, l7, l8, l9], [(1, (w32 s0)), (1, s1), (1, s2), (1, s3)], h) = _
  exact g_inv (k := 0) (m' := 276) (np := 4) (as := [(1, s3), (1, s2), (1, s1), (1, (w32 s0))]) (by decide +kernel : decode (m_byt 279) 56 = .ok (.invokestatic 200, 3)) (Or.inr (Or.inr ⟨rfl, rfl, by decide, by decide⟩)) (by decide +kernel) (by decide +kernel) (by decide +kernel) (Nat.le_of_ble_eq_true rfl) rfl (Or.inl rfl)
theorem b_279_59 {Z : mZ} {l0 l1 l2 l3 l4 l6 l7 l8 l9 : mV} {s0 x5 : Int} {h : mH} : m_run Z (279, 59, [l0, l1, l2, l3, l4, (0, x5), l6, l7, l8, l9], [(0, s0)], h) = m_run Z (279, 96, [l0, l1, l2, l3, l4, (0, x5), (0, s0), (0, 0), (0, 0), l9], [], h) := by
  refine g_jmp (t := 88) (by decide +kernel : decode (m_byt 279) 59 = .ok (.goto 29, 3)) (by decide) ?_
  refine g_istore (k := 6) (by decide +kernel : decode (m_byt 279) 88 = .ok (.istore 6, 2)) (Nat.le_of_ble_eq_true rfl) ?_
  show m_run Z (279, 90, [l0, l1, l2, l3, l4, (0, x5), (0, s0), l7, l8, l9], [], h) = _
  refine g_base (by decide +kernel : decode (m_byt 279) 90 = .ok (.iconst 0, 1)) rfl rfl ?_
  show m_run Z (279, 91, [l0, l1, l2, l3, l4, (0, x5), (0, s0), l7, l8, l9], [(0, 0)], h) = _
  refine g_istore (k := 7) (by decide +kernel : decode (m_byt 279) 91 = .ok (.istore 7, 2)) (Nat.le_of_ble_eq_true rfl) ?_
  show m_run Z (279, 93, [l0, l1, l2, l3, l4, (0, x5), (0, s0), (0, 0), l8, l9], [], h) = _
  refine g_base (by decide +kernel : decode (m_byt 279) 93 = .ok (.iconst 0, 1)) rfl rfl ?_
  show m_run Z (279, 94, [l0, l1, l2, l3, l4, (0, x5), (0, s0), (0, 0), l8, l9], [(0, 0)], h) = _
  refine g_istore (k := 8) (by decide +kernel : decode (m_byt 279) 94 = .ok (.istore 8, 2)) (Nat.le_of_ble_eq_true rfl) ?_
  show m_run Z (279, 96, [l0, l1, l2, l3, l4, (0, x5), (0, s0), (0, 0), (0, 0), l9], [], h) = _
  rfl
theorem b_279_62 {Z : mZ} {l1 l4 l5 l6 l7 l8 l9 : mV} {x3 x2 : Int} {r0 : Nat} {h : mH} : m_run Z (279, 62, [(2, ((r0 : Nat) : Int)), l1, (0, x2), (0, x3), l4, l5, l6, l7, l8, l9], [], h) = (m_cl Z 261 [(2, ((r0 : Nat) : Int)), (0, x2), (0, 0)] h).bind (m_aft (m_run Z) 279 66 [(2, ((r0 : Nat) : Int)), l1, (0, x2), (0, x3), l4, l5, l6, l7, l8, l9] [(0, x3)]) := by
  refine g_iload_n (k := 3) (x := x3) (by decide +kernel : decode (m_byt 279) 62 = .ok (.iload_n 3, 1)) rfl ?_
  refine g_aload_n (k := 0) (v := (2, ((r0 : Nat) : Int))) (by decide +kernel : decode (m_byt 279) 63 = .ok (.aload_n 0, 1)) rfl (Or.inl rfl) ?_
  refine g_iload_n (k := 2) (x := x2) (by decide +kernel : decode (m_byt 279) 64 = .ok (.iload_n 2, 1)) rfl ?_
  refine g_base (by decide +kernel : decode (m_byt 279) 65 = .ok (.iconst 0, 1)) rfl rfl ?_
  show m_run Z (279, 66, [(2, ((r0 : Nat) : Int)), l1, (0, x2), (0, x3), l4, l5, l6, l7, l8, l9], [(0, 0), (0, x2), (2, ((r0 : Nat) : Int)), (0, x3)], h) = _
  exact g_inv (k := 0) (m' := 261) (np := 3) (as := [(2, ((r0 : Nat) : Int)), (0, x2), (0, 0)]) (by decide +kernel : decode (m_byt 279) 66 = .ok (.invokestatic 171, 3)) (Or.inr (Or.inr ⟨rfl, rfl, by decide, by decide⟩)) (by decide +kernel) (by decide +kernel) (by decide +kernel) (Nat.le_of_ble_eq_true rfl) rfl (Or.inl rfl)
theorem b_279_69 {Z : mZ} {l0 l1 l2 l3 l4 l5 l6 l7 l8 l9 : mV} {s0 s1 : Int} {h : mH} : m_run Z (279, 69, [l0, l1, l2, l3, l4, l5, l6, l7, l8, l9], [(0, s0), (0, s1)], h) = if w32 s1 = w32 s0 then m_run Z (279, 72, [l0, l1, l2, l3, l4, l5, l6, l7, l8, l9], [], h) else m_run Z (279, 87, [l0, l1, l2, l3, l4, l5, l6, l7, l8, l9], [], h) := by
  exact g_brn (t := 87) (off := 18) (by decide +kernel : decode (m_byt 279) 69 = .ok (.if_icmp .ne 18, 3)) rfl rfl (by decide)
theorem b_279_72 {Z : mZ} {l1 l3 l5 l6 l7 l8 l9 : mV} {x4 x2 : Int} {r0 : Nat} {h : mH} : m_run Z (279, 72, [(2, ((r0 : Nat) : Int)), l1, (0, x2), l3, (0, x4), l5, l6, l7, l8, l9], [], h) = (m_cl Z 261 [(2, ((r0 : Nat) : Int)), (0, x2), (0, 1)] h).bind (m_aft (m_run Z) 279 77 [(2, ((r0 : Nat) : Int)), l1, (0, x2), l3, (0, x4), l5, l6, l7, l8, l9] [(0, x4)]) := by
  refine g_iload (k := 4) (x := x4) (by decide +kernel : decode (m_byt 279) 72 = .ok (.iload 4, 2)) rfl ?_
  refine g_aload_n (k := 0) (v := (2, ((r0 : Nat) : Int))) (by decide +kernel : decode (m_byt 279) 74 = .ok (.aload_n 0, 1)) rfl (Or.inl rfl) ?_
  refine g_iload_n (k := 2) (x := x2) (by decide +kernel : decode (m_byt 279) 75 = .ok (.iload_n 2, 1)) rfl ?_
  refine g_base (by decide +kernel : decode (m_byt 279) 76 = .ok (.iconst 1, 1)) rfl rfl ?_
  show m_run Z (279, 77, [(2, ((r0 : Nat) : Int)), l1, (0, x2), l3, (0, x4), l5, l6, l7, l8, l9], [(0, 1), (0, x2), (2, ((r0 : Nat) : Int)), (0, x4)], h) = _
  exact g_inv (k := 0) (m' := 261) (np := 3) (as := [(2, ((r0 : Nat) : Int)), (0, x2), (0, 1)]) (by decide +kernel : decode (m_byt 279) 77 = .ok (.invokestatic 171, 3)) (Or.inr (Or.inr ⟨rfl, rfl, by decide, by decide⟩)) (by decide +kernel) (by decide +kernel) (by decide +kernel) (Nat.le_of_ble_eq_true rfl) rfl (Or.inl rfl)
theorem b_279_80 {Z : mZ} {l0 l1 l2 l3 l4 l5 l6 l7 l8 l9 : mV} {s0 s1 : Int} {h : mH} : m_run Z (279, 80, [l0, l1, l2, l3, l4, l5, l6, l7, l8, l9], [(0, s0), (0, s1)], h) = if w32 s1 = w32 s0 then m_run Z (279, 83, [l0, l1, l2, l3, l4, l5, l6, l7, l8, l9], [], h) else m_run Z (279, 87, [l0, l1, l2, l3, l4, l5, l6, l7, l8, l9], [], h) := by
  exact g_brn (t := 87) (off := 7) (by decide +kernel : decode (m_byt 279) 80 = .ok (.if_icmp .ne 7, 3)) rfl rfl (by decide)
theorem b_279_83 {Z : mZ} {l0 l1 l2 l3 l4 l6 l7 l8 l9 : mV} {x5 : Int} {h : mH} : m_run Z (279, 83, [l0, l1, l2, l3, l4, (0, x5), l6, l7, l8, l9], [], h) = m_run Z (279, 96, [l0, l1, l2, l3, l4, (0, x5), (0, 1), (0, 0), (0, 0), l9], [], h) := by
  refine g_base (by decide +kernel : decode (m_byt 279) 83 = .ok (.iconst 1, 1)) rfl rfl ?_
  show m_run Z (279, 84, [l0, l1, l2, l3, l4, (0, x5), l6, l7, l8, l9], [(0, 1)], h) = _
  refine g_jmp (t := 88) (by decide +kernel : decode (m_byt 279) 84 = .ok (.goto 4, 3)) (by decide) ?_
  refine g_istore (k := 6) (by decide +kernel : decode (m_byt 279) 88 = .ok (.istore 6, 2)) (Nat.le_of_ble_eq_true rfl) ?_
  show m_run Z (279, 90, [l0, l1, l2, l3, l4, (0, x5), (0, 1), l7, l8, l9], [], h) = _
  refine g_base (by decide +kernel : decode (m_byt 279) 90 = .ok (.iconst 0, 1)) rfl rfl ?_
  show m_run Z (279, 91, [l0, l1, l2, l3, l4, (0, x5), (0, 1), l7, l8, l9], [(0, 0)], h) = _
  refine g_istore (k := 7) (by decide +kernel : decode (m_byt 279) 91 = .ok (.istore 7, 2)) (Nat.le_of_ble_eq_true rfl) ?_
  show m_run Z (279, 93, [l0, l1, l2, l3, l4, (0, x5), (0, 1), (0, 0), l8, l9], [], h) = _
  refine g_base (by decide +kernel : decode (m_byt 279) 93 = .ok (.iconst 0, 1)) rfl rfl ?_
  show m_run Z (279, 94, [l0, l1, l2, l3, l4, (0, x5), (0, 1), (0, 0), l8, l9], [(0, 0)], h) = _
  refine g_istore (k := 8) (by decide +kernel : decode (m_byt 279) 94 = .ok (.istore 8, 2)) (Nat.le_of_ble_eq_true rfl) ?_
  show m_run Z (279, 96, [l0, l1, l2, l3, l4, (0, x5), (0, 1), (0, 0), (0, 0), l9], [], h) = _
  rfl
theorem b_279_87 {Z : mZ} {l0 l1 l2 l3 l4 l5 l6 l7 l8 l9 : mV} {h : mH} : m_run Z (279, 87, [l0, l1, l2, l3, l4, l5, l6, l7, l8, l9], [], h) = m_run Z (279, 88, [l0, l1, l2, l3, l4, l5, l6, l7, l8, l9], [(0, 0)], h) := by
  refine g_base (by decide +kernel : decode (m_byt 279) 87 = .ok (.iconst 0, 1)) rfl rfl ?_
  show m_run Z (279, 88, [l0, l1, l2, l3, l4, l5, l6, l7, l8, l9], [(0, 0)], h) = _
  rfl
theorem b_279_88 {Z : mZ} {l0 l1 l2 l3 l4 l6 l7 l8 l9 : mV} {s0 x5 : Int} {h : mH} : m_run Z (279, 88, [l0, l1, l2, l3, l4, (0, x5), l6, l7, l8, l9], [(0, s0)], h) = m_run Z (279, 96, [l0, l1, l2, l3, l4, (0, x5), (0, s0), (0, 0), (0, 0), l9], [], h) := by
  refine g_istore (k := 6) (by decide +kernel : decode (m_byt 279) 88 = .ok (.istore 6, 2)) (Nat.le_of_ble_eq_true rfl) ?_
  show m_run Z (279, 90, [l0, l1, l2, l3, l4, (0, x5), (0, s0), l7, l8, l9], [], h) = _
  refine g_base (by decide +kernel : decode (m_byt 279) 90 = .ok (.iconst 0, 1)) rfl rfl ?_
  show m_run Z (279, 91, [l0, l1, l2, l3, l4, (0, x5), (0, s0), l7, l8, l9], [(0, 0)], h) = _
  refine g_istore (k := 7) (by decide +kernel : decode (m_byt 279) 91 = .ok (.istore 7, 2)) (Nat.le_of_ble_eq_true rfl) ?_
  show m_run Z (279, 93, [l0, l1, l2, l3, l4, (0, x5), (0, s0), (0, 0), l8, l9], [], h) = _
  refine g_base (by decide +kernel : decode (m_byt 279) 93 = .ok (.iconst 0, 1)) rfl rfl ?_
  show m_run Z (279, 94, [l0, l1, l2, l3, l4, (0, x5), (0, s0), (0, 0), l8, l9], [(0, 0)], h) = _
  refine g_istore (k := 8) (by decide +kernel : decode (m_byt 279) 94 = .ok (.istore 8, 2)) (Nat.le_of_ble_eq_true rfl) ?_
  show m_run Z (279, 96, [l0, l1, l2, l3, l4, (0, x5), (0, s0), (0, 0), (0, 0), l9], [], h) = _
  rfl
theorem b_279_96 {Z : mZ} {l0 l2 l3 l4 l5 l6 l7 l9 : mV} {x8 x1 : Int} {h : mH} : m_run Z (279, 96, [l0, (0, x1), l2, l3, l4, l5, l6, l7, (0, x8), l9], [], h) = if w32 x1 ≤ w32 x8 then m_run Z (279, 215, [l0, (0, x1), l2, l3, l4, l5, l6, l7, (0, x8), l9], [], h) else m_run Z (279, 102, [l0, (0, x1), l2, l3, l4, l5, l6, l7, (0, x8), l9], [], h) := by
  refine g_iload (k := 8) (x := x8) (by decide +kernel : decode (m_byt 279) 96 = .ok (.iload 8, 2)) rfl ?_
  refine g_iload_n (k := 1) (x := x1) (by decide +kernel : decode (m_byt 279) 98 = .ok (.iload_n 1, 1)) rfl ?_
  exact g_brq (t := 215) (off := 116) (by decide +kernel : decode (m_byt 279) 99 = .ok (.if_icmp .ge 116, 3)) rfl rfl (by decide)
theorem b_279_102 {Z : mZ} {l0 l1 l2 l3 l4 l5 l7 l8 l9 : mV} {x6 : Int} {h : mH} : m_run Z (279, 102, [l0, l1, l2, l3, l4, l5, (0, x6), l7, l8, l9], [], h) = if w32 x6 = 0 then m_run Z (279, 215, [l0, l1, l2, l3, l4, l5, (0, x6), l7, l8, l9], [], h) else m_run Z (279, 107, [l0, l1, l2, l3, l4, l5, (0, x6), l7, l8, l9], [], h) := by
  refine g_iload (k := 6) (x := x6) (by decide +kernel : decode (m_byt 279) 102 = .ok (.iload 6, 2)) rfl ?_
  exact g_brq (t := 215) (off := 111) (by decide +kernel : decode (m_byt 279) 104 = .ok (.ifCond .eq 111, 3)) rfl rfl (by decide)
theorem b_279_107 {Z : mZ} {l2 l3 l4 l5 l6 l7 l9 : mV} {x1 x8 : Int} {r0 : Nat} {h : mH} : m_run Z (279, 107, [(2, ((r0 : Nat) : Int)), (0, x1), l2, l3, l4, l5, l6, l7, (0, x8), l9], [], h) = (m_cl Z 266 [(2, ((r0 : Nat) : Int)), (0, x1), (0, x8)] h).bind (m_aft (m_run Z) 279 111 [(2, ((r0 : Nat) : Int)), (0, x1), l2, l3, l4, l5, l6, l7, (0, x8), l9] []) := by
  refine g_aload_n (k := 0) (v := (2, ((r0 : Nat) : Int))) (by decide +kernel : decode (m_byt 279) 107 = .ok (.aload_n 0, 1)) rfl (Or.inl rfl) ?_
  refine g_iload_n (k := 1) (x := x1) (by decide +kernel : decode (m_byt 279) 108 = .ok (.iload_n 1, 1)) rfl ?_
  refine g_iload (k := 8) (x := x8) (by decide +kernel : decode (m_byt 279) 109 = .ok (.iload 8, 2)) rfl ?_
  exact g_inv (k := 0) (m' := 266) (np := 3) (as := [(2, ((r0 : Nat) : Int)), (0, x1), (0, x8)]) (by decide +kernel : decode (m_byt 279) 111 = .ok (.invokestatic 181, 3)) (Or.inr (Or.inr ⟨rfl, rfl, by decide, by decide⟩)) (by decide +kernel) (by decide +kernel) (by decide +kernel) (Nat.le_of_ble_eq_true rfl) rfl (Or.inl rfl)
theorem b_279_114 {Z : mZ} {l0 l1 l2 l3 l4 l6 l7 l9 : mV} {s0 x8 x5 : Int} {h : mH} : m_run Z (279, 114, [l0, l1, l2, l3, l4, (0, x5), l6, l7, (0, x8), l9], [(0, s0)], h) = if w32 (i_and s0 x5) = 0 then m_run Z (279, 124, [l0, l1, l2, l3, l4, (0, x5), l6, l7, (0, x8), (0, s0)], [], h) else m_run Z (279, 164, [l0, l1, l2, l3, l4, (0, x5), l6, l7, (0, x8), (0, s0)], [], h) := by
  refine g_istore (k := 9) (by decide +kernel : decode (m_byt 279) 114 = .ok (.istore 9, 2)) (Nat.le_of_ble_eq_true rfl) ?_
  show m_run Z (279, 116, [l0, l1, l2, l3, l4, (0, x5), l6, l7, (0, x8), (0, s0)], [], h) = _
  refine g_iload (k := 9) (x := s0) (by decide +kernel : decode (m_byt 279) 116 = .ok (.iload 9, 2)) rfl ?_
  refine g_iload (k := 5) (x := x5) (by decide +kernel : decode (m_byt 279) 118 = .ok (.iload 5, 2)) rfl ?_
  refine g_base (by decide +kernel : decode (m_byt 279) 120 = .ok (.iand, 1)) rfl rfl ?_
  show m_run Z (279, 121, [l0, l1, l2, l3, l4, (0, x5), l6, l7, (0, x8), (0, s0)], [(0, (i_and s0 x5))], h) = _
  exact g_brn (t := 164) (off := 43) (by decide +kernel : decode (m_byt 279) 121 = .ok (.ifCond .ne 43, 3)) rfl rfl (by decide)
theorem b_279_124 {Z : mZ} {l0 l1 l3 l4 l5 l6 l7 l8 : mV} {x9 x2 : Int} {h : mH} : m_run Z (279, 124, [l0, l1, (0, x2), l3, l4, l5, l6, l7, l8, (0, x9)], [], h) = if w32 (i_and x9 (i_xor x2 (-1))) = 0 then m_run Z (279, 133, [l0, l1, (0, x2), l3, l4, l5, l6, l7, l8, (0, x9)], [], h) else m_run Z (279, 164, [l0, l1, (0, x2), l3, l4, l5, l6, l7, l8, (0, x9)], [], h) := by
  refine g_iload (k := 9) (x := x9) (by decide +kernel : decode (m_byt 279) 124 = .ok (.iload 9, 2)) rfl ?_
  refine g_iload_n (k := 2) (x := x2) (by decide +kernel : decode (m_byt 279) 126 = .ok (.iload_n 2, 1)) rfl ?_
  refine g_base (by decide +kernel : decode (m_byt 279) 127 = .ok (.iconst (-1), 1)) rfl rfl ?_
  show m_run Z (279, 128, [l0, l1, (0, x2), l3, l4, l5, l6, l7, l8, (0, x9)], [(0, (-1)), (0, x2), (0, x9)], h) = _
  refine g_base (by decide +kernel : decode (m_byt 279) 128 = .ok (.ixor, 1)) rfl rfl ?_
  show m_run Z (279, 129, [l0, l1, (0, x2), l3, l4, l5, l6, l7, l8, (0, x9)], [(0, (i_xor x2 (-1))), (0, x9)], h) = _
  refine g_base (by decide +kernel : decode (m_byt 279) 129 = .ok (.iand, 1)) rfl rfl ?_
  show m_run Z (279, 130, [l0, l1, (0, x2), l3, l4, l5, l6, l7, l8, (0, x9)], [(0, (i_and x9 (i_xor x2 (-1))))], h) = _
  exact g_brn (t := 164) (off := 34) (by decide +kernel : decode (m_byt 279) 130 = .ok (.ifCond .ne 34, 3)) rfl rfl (by decide)
theorem b_279_133 {Z : mZ} {l1 l2 l3 l4 l5 l6 l7 l8 : mV} {x9 : Int} {r0 : Nat} {h : mH} : m_run Z (279, 133, [(2, ((r0 : Nat) : Int)), l1, l2, l3, l4, l5, l6, l7, l8, (0, x9)], [], h) = (m_cl Z 261 [(2, ((r0 : Nat) : Int)), (0, x9), (0, 0)] h).bind (m_aft (m_run Z) 279 137 [(2, ((r0 : Nat) : Int)), l1, l2, l3, l4, l5, l6, l7, l8, (0, x9)] []) := by
  refine g_aload_n (k := 0) (v := (2, ((r0 : Nat) : Int))) (by decide +kernel : decode (m_byt 279) 133 = .ok (.aload_n 0, 1)) rfl (Or.inl rfl) ?_
  refine g_iload (k := 9) (x := x9) (by decide +kernel : decode (m_byt 279) 134 = .ok (.iload 9, 2)) rfl ?_
  refine g_base (by decide +kernel : decode (m_byt 279) 136 = .ok (.iconst 0, 1)) rfl rfl ?_
  show m_run Z (279, 137, [(2, ((r0 : Nat) : Int)), l1, l2, l3, l4, l5, l6, l7, l8, (0, x9)], [(0, 0), (0, x9), (2, ((r0 : Nat) : Int))], h) = _
  exact g_inv (k := 0) (m' := 261) (np := 3) (as := [(2, ((r0 : Nat) : Int)), (0, x9), (0, 0)]) (by decide +kernel : decode (m_byt 279) 137 = .ok (.invokestatic 171, 3)) (Or.inr (Or.inr ⟨rfl, rfl, by decide, by decide⟩)) (by decide +kernel) (by decide +kernel) (by decide +kernel) (Nat.le_of_ble_eq_true rfl) rfl (Or.inl rfl)
theorem b_279_140 {Z : mZ} {l1 l2 l3 l4 l5 l6 l7 l8 : mV} {s0 x9 : Int} {r0 : Nat} {h : mH} : m_run Z (279, 140, [(2, ((r0 : Nat) : Int)), l1, l2, l3, l4, l5, l6, l7, l8, (0, x9)], [(0, s0)], h) = (m_cl Z 261 [(2, ((r0 : Nat) : Int)), (0, x9), (0, 1)] h).bind (m_aft (m_run Z) 279 145 [(2, ((r0 : Nat) : Int)), l1, l2, l3, l4, l5, l6, l7, l8, (0, x9)] [(1, (w32 s0))]) := by
  refine g_base (by decide +kernel : decode (m_byt 279) 140 = .ok (.i2l, 1)) rfl rfl ?_
  show m_run Z (279, 141, [(2, ((r0 : Nat) : Int)), l1, l2, l3, l4, l5, l6, l7, l8, (0, x9)], [(1, (w32 s0))], h) = _
  refine g_aload_n (k := 0) (v := (2, ((r0 : Nat) : Int))) (by decide +kernel : decode (m_byt 279) 141 = .ok (.aload_n 0, 1)) rfl (Or.inl rfl) ?_
  refine g_iload (k := 9) (x := x9) (by decide +kernel : decode (m_byt 279) 142 = .ok (.iload 9, 2)) rfl ?_
  refine g_base (by decide +kernel : decode (m_byt 279) 144 = .ok (.iconst 1, 1)) rfl rfl ?_
  show m_run Z (279, 145, [(2, ((r0 : Nat) : Int)), l1, l2, l3, l4, l5, l6, l7, l8, (0, x9)], [(0, 1), (0, x9), (2, ((r0 : Nat) : Int)), (1, (w32 s0))], h) = _
  exact g_inv (k := 0) (m' := 261) (np := 3) (as := [(2, ((r0 : Nat) : Int)), (0, x9), (0, 1)]) (by decide +kernel : decode (m_byt 279) 145 = .ok (.invokestatic 171, 3)) (Or.inr (Or.inr ⟨rfl, rfl, by decide, by decide⟩)) (by decide +kernel) (by decide +kernel) (by decide +kernel) (Nat.le_of_ble_eq_true rfl) rfl (Or.inl rfl)
theorem b_279_148 {Z : mZ} {l0 l1 l2 l5 l6 l7 l8 l9 : mV} {s0 s1 x3 x4 : Int} {h : mH} : m_run Z (279, 148, [l0, l1, l2, (0, x3), (0, x4), l5, l6, l7, l8, l9], [(0, s0), (1, s1)], h) = (m_cl Z 276 [(1, s1), (1, (w32 s0)), (1, (w32 x3)), (1, (w32 x4))] h).bind (m_aft (m_run Z) 279 154 [l0, l1, l2, (0, x3), (0, x4), l5, l6, l7, l8, l9] []) := by
  refine g_base (by decide +kernel : decode (m_byt 279) 148 = .ok (.i2l, 1)) rfl rfl ?_
  show m_run Z (279, 149, [l0, l1, l2, (0, x3), (0, x4), l5, l6, l7, l8, l9], [(1, (w32 s0)), (1, s1)], h) = _
  refine g_iload_n (k := 3) (x := x3) (by decide +kernel : decode (m_byt 279) 149 = .ok (.iload_n 3, 1)) rfl ?_
  refine g_base (by decide +kernel : decode (m_byt 279) 150 = .ok (.i2l, 1)) rfl rfl ?_
  show m_run Z (279, 151, [l0, l1, l2, (0, x3), (0, x4), l5, l6, l7, l8, l9], [(1, (w32 x3)), (1, (w32 s0)), (1, s1)], h) = _
  refine g_iload (k := 4) (x := x4) (by decide +kernel : decode (m_byt 279) 151 = .ok (.iload 4, 2)) rfl ?_
  refine g_base (by decide +kernel : decode (m_byt 279) 153 = .ok (.i2l, 1)) rfl rfl ?_
  show m_run Z (279, 154, [l0, l1, l2, (0, x3), (0, x4), l5, l6, l7, l8, l9], [(1, (w32 x4)), (1, (w32 x3)), (1, (w32 s0)), (1, s1)], h) = _
  exact g_inv (k := 0) (m' := 276) (np := 4) (as := [(1, s1), (1, (w32 s0)), (1, (w32 x3)), (1, (w32 x4))]) (by decide +kernel : decode (m_byt 279) 154 = .ok (.invokestatic 200, 3)) (Or.inr (Or.inr ⟨rfl, rfl, by decide, by decide⟩)) (by decide +kernel) (by decide +kernel) (by decide +kernel) (Nat.le_of_ble_eq_true rfl) rfl (Or.inl rfl)
theorem b_279_157 {Z : mZ} {l0 l1 l2 l3 l4 l5 l6 l7 l8 l9 : mV} {s0 : Int} {h : mH} : m_run Z (279, 157, [l0, l1, l2, l3, l4, l5, l6, l7, l8, l9], [(0, s0)], h) = if w32 s0 = 0 then m_run Z (279, 164, [l0, l1, l2, l3, l4, l5, l6, l7, l8, l9], [], h) else m_run Z (279, 160, [l0, l1, l2, l3, l4, l5, l6, l7, l8, l9], [], h) := by
  exact g_brq (t := 164) (off := 7) (by decide +kernel : decode (m_byt 279) 157 = .ok (.ifCond .eq 7, 3)) rfl rfl (by decide)
theorem b_279_160 {Z : mZ} {l0 l1 l2 l3 l4 l6 l8 l9 : mV} {x5 x7 : Int} {h : mH} : m_run Z (279, 160, [l0, l1, l2, l3, l4, (0, x5), l6, (0, x7), l8, l9], [], h) = if w32 x7 = 0 then m_run Z (279, 172, [l0, l1, l2, l3, l4, (0, x5), (0, 1), (0, x7), l8, l9], [], h) else m_run Z (279, 195, [l0, l1, l2, l3, l4, (0, x5), (0, 1), (0, x7), l8, l9], [], h) := by
  refine g_base (by decide +kernel : decode (m_byt 279) 160 = .ok (.iconst 1, 1)) rfl rfl ?_
  show m_run Z (279, 161, [l0, l1, l2, l3, l4, (0, x5), l6, (0, x7), l8, l9], [(0, 1)], h) = _
  refine g_jmp (t := 165) (by decide +kernel : decode (m_byt 279) 161 = .ok (.goto 4, 3)) (by decide) ?_
  refine g_istore (k := 6) (by decide +kernel : decode (m_byt 279) 165 = .ok (.istore 6, 2)) (Nat.le_of_ble_eq_true rfl) ?_
  show m_run Z (279, 167, [l0, l1, l2, l3, l4, (0, x5), (0, 1), (0, x7), l8, l9], [], h) = _
  refine g_iload (k := 7) (x := x7) (by decide +kernel : decode (m_byt 279) 167 = .ok (.iload 7, 2)) rfl ?_
  exact g_brn (t := 195) (off := 26) (by decide +kernel : decode (m_byt 279) 169 = .ok (.ifCond .ne 26, 3)) rfl rfl (by decide)
theorem b_279_164 {Z : mZ} {l0 l1 l2 l3 l4 l5 l6 l7 l8 l9 : mV} {h : mH} : m_run Z (279, 164, [l0, l1, l2, l3, l4, l5, l6, l7, l8, l9], [], h) = m_run Z (279, 165, [l0, l1, l2, l3, l4, l5, l6, l7, l8, l9], [(0, 0)], h) := by
  refine g_base (by decide +kernel : decode (m_byt 279) 164 = .ok (.iconst 0, 1)) rfl rfl ?_
  show m_run Z (279, 165, [l0, l1, l2, l3, l4, l5, l6, l7, l8, l9], [(0, 0)], h) = _
  rfl
theorem b_279_165 {Z : mZ} {l0 l1 l2 l3 l4 l6 l8 l9 : mV} {s0 x5 x7 : Int} {h : mH} : m_run Z (279, 165, [l0, l1, l2, l3, l4, (0, x5), l6, (0, x7), l8, l9], [(0, s0)], h) = if w32 x7 = 0 then m_run Z (279, 172, [l0, l1, l2, l3, l4, (0, x5), (0, s0), (0, x7), l8, l9], [], h) else m_run Z (279, 195, [l0, l1, l2, l3, l4, (0, x5), (0, s0), (0, x7), l8, l9], [], h) := by
  refine g_istore (k := 6) (by decide +kernel : decode (m_byt 279) 165 = .ok (.istore 6, 2)) (Nat.le_of_ble_eq_true rfl) ?_
  show m_run Z (279, 167, [l0, l1, l2, l3, l4, (0, x5), (0, s0), (0, x7), l8, l9], [], h) = _
  refine g_iload (k := 7) (x := x7) (by decide +kernel : decode (m_byt 279) 167 = .ok (.iload 7, 2)) rfl ?_
  exact g_brn (t := 195) (off := 26) (by decide +kernel : decode (m_byt 279) 169 = .ok (.ifCond .ne 26, 3)) rfl rfl (by decide)
theorem b_279_172 {Z : mZ} {l1 l2 l3 l4 l5 l6 l7 l8 : mV} {x9 : Int} {r0 : Nat} {h : mH} : m_run Z (279, 172, [(2, ((r0 : Nat) : Int)), l1, l2, l3, l4, l5, l6, l7, l8, (0, x9)], [], h) = (m_cl Z 261 [(2, ((r0 : Nat) : Int)), (0, x9), (0, 0)] h).bind (m_aft (m_run Z) 279 176 [(2, ((r0 : Nat) : Int)), l1, l2, l3, l4, l5, l6, l7, l8, (0, x9)] []) := by
  refine g_aload_n (k := 0) (v := (2, ((r0 : Nat) : Int))) (by decide +kernel : decode (m_byt 279) 172 = .ok (.aload_n 0, 1)) rfl (Or.inl rfl) ?_
  refine g_iload (k := 9) (x := x9) (by decide +kernel : decode (m_byt 279) 173 = .ok (.iload 9, 2)) rfl ?_
  refine g_base (by decide +kernel : decode (m_byt 279) 175 = .ok (.iconst 0, 1)) rfl rfl ?_
  show m_run Z (279, 176, [(2, ((r0 : Nat) : Int)), l1, l2, l3, l4, l5, l6, l7, l8, (0, x9)], [(0, 0), (0, x9), (2, ((r0 : Nat) : Int))], h) = _
  exact g_inv (k := 0) (m' := 261) (np := 3) (as := [(2, ((r0 : Nat) : Int)), (0, x9), (0, 0)]) (by decide +kernel : decode (m_byt 279) 176 = .ok (.invokestatic 171, 3)) (Or.inr (Or.inr ⟨rfl, rfl, by decide, by decide⟩)) (by decide +kernel) (by decide +kernel) (by decide +kernel) (Nat.le_of_ble_eq_true rfl) rfl (Or.inl rfl)
theorem b_279_179 {Z : mZ} {l0 l1 l2 l4 l5 l6 l7 l8 l9 : mV} {s0 x3 : Int} {h : mH} : m_run Z (279, 179, [l0, l1, l2, (0, x3), l4, l5, l6, l7, l8, l9], [(0, s0)], h) = if w32 s0 = w32 x3 then m_run Z (279, 183, [l0, l1, l2, (0, x3), l4, l5, l6, l7, l8, l9], [], h) else m_run Z (279, 199, [l0, l1, l2, (0, x3), l4, l5, l6, l7, l8, l9], [], h) := by
  refine g_iload_n (k := 3) (x := x3) (by decide +kernel : decode (m_byt 279) 179 = .ok (.iload_n 3, 1)) rfl ?_
  exact g_brn (t := 199) (off := 19) (by decide +kernel : decode (m_byt 279) 180 = .ok (.if_icmp .ne 19, 3)) rfl rfl (by decide)
theorem b_279_183 {Z : mZ} {l1 l2 l3 l4 l5 l6 l7 l8 : mV} {x9 : Int} {r0 : Nat} {h : mH} : m_run Z (279, 183, [(2, ((r0 : Nat) : Int)), l1, l2, l3, l4, l5, l6, l7, l8, (0, x9)], [], h) = (m_cl Z 261 [(2, ((r0 : Nat) : Int)), (0, x9), (0, 1)] h).bind (m_aft (m_run Z) 279 187 [(2, ((r0 : Nat) : Int)), l1, l2, l3, l4, l5, l6, l7, l8, (0, x9)] []) := by
  refine g_aload_n (k := 0) (v := (2, ((r0 : Nat) : Int))) (by decide +kernel : decode (m_byt 279) 183 = .ok (.aload_n 0, 1)) rfl (Or.inl rfl) ?_
  refine g_iload (k := 9) (x := x9) (by decide +kernel : decode (m_byt 279) 184 = .ok (.iload 9, 2)) rfl ?_
  refine g_base (by decide +kernel : decode (m_byt 279) 186 = .ok (.iconst 1, 1)) rfl rfl ?_
  show m_run Z (279, 187, [(2, ((r0 : Nat) : Int)), l1, l2, l3, l4, l5, l6, l7, l8, (0, x9)], [(0, 1), (0, x9), (2, ((r0 : Nat) : Int))], h) = _
  exact g_inv (k := 0) (m' := 261) (np := 3) (as := [(2, ((r0 : Nat) : Int)), (0, x9), (0, 1)]) (by decide +kernel : decode (m_byt 279) 187 = .ok (.invokestatic 171, 3)) (Or.inr (Or.inr ⟨rfl, rfl, by decide, by decide⟩)) (by decide +kernel) (by decide +kernel) (by decide +kernel) (Nat.le_of_ble_eq_true rfl) rfl (Or.inl rfl)
theorem b_279_190 {Z : mZ} {l0 l1 l2 l3 l5 l6 l7 l8 l9 : mV} {s0 x4 : Int} {h : mH} : m_run Z (279, 190, [l0, l1, l2, l3, (0, x4), l5, l6, l7, l8, l9], [(0, s0)], h) = if w32 s0 = w32 x4 then m_run Z (279, 195, [l0, l1, l2, l3, (0, x4), l5, l6, l7, l8, l9], [], h) else m_run Z (279, 199, [l0, l1, l2, l3, (0, x4), l5, l6, l7, l8, l9], [], h) := by
  refine g_iload (k := 4) (x := x4) (by decide +kernel : decode (m_byt 279) 190 = .ok (.iload 4, 2)) rfl ?_
  exact g_brn (t := 199) (off := 7) (by decide +kernel : decode (m_byt 279) 192 = .ok (.if_icmp .ne 7, 3)) rfl rfl (by decide)
theorem b_279_195 {Z : mZ} {l0 l1 l2 l3 l7 : mV} {x6 x5 x9 x4 x8 : Int} {h : mH} : m_run Z (279, 195, [l0, l1, l2, l3, (0, x4), (0, x5), (0, x6), l7, (0, x8), (0, x9)], [], h) = m_run Z (279, 96, [l0, l1, l2, l3, (0, x4), (0, (i_or x5 x9)), (0, x6), (0, 1), (0, x8 + 1), (0, x9)], [], h) := by
  refine g_base (by decide +kernel : decode (m_byt 279) 195 = .ok (.iconst 1, 1)) rfl rfl ?_
  show m_run Z (279, 196, [l0, l1, l2, l3, (0, x4), (0, x5), (0, x6), l7, (0, x8), (0, x9)], [(0, 1)], h) = _
  refine g_jmp (t := 200) (by decide +kernel : decode (m_byt 279) 196 = .ok (.goto 4, 3)) (by decide) ?_
  refine g_istore (k := 7) (by decide +kernel : decode (m_byt 279) 200 = .ok (.istore 7, 2)) (Nat.le_of_ble_eq_true rfl) ?_
  show m_run Z (279, 202, [l0, l1, l2, l3, (0, x4), (0, x5), (0, x6), (0, 1), (0, x8), (0, x9)], [], h) = _
  refine g_iload (k := 5) (x := x5) (by decide +kernel : decode (m_byt 279) 202 = .ok (.iload 5, 2)) rfl ?_
  refine g_iload (k := 9) (x := x9) (by decide +kernel : decode (m_byt 279) 204 = .ok (.iload 9, 2)) rfl ?_
  refine g_base (by decide +kernel : decode (m_byt 279) 206 = .ok (.ior, 1)) rfl rfl ?_
  show m_run Z (279, 207, [l0, l1, l2, l3, (0, x4), (0, x5), (0, x6), (0, 1), (0, x8), (0, x9)], [(0, (i_or x5 x9))], h) = _
  refine g_istore (k := 5) (by decide +kernel : decode (m_byt 279) 207 = .ok (.istore 5, 2)) (Nat.le_of_ble_eq_true rfl) ?_
  show m_run Z (279, 209, [l0, l1, l2, l3, (0, x4), (0, (i_or x5 x9)), (0, x6), (0, 1), (0, x8), (0, x9)], [], h) = _
  refine g_iinc (k := 8) (x := x8) (by decide +kernel : decode (m_byt 279) 209 = .ok (.iinc 8 1, 3)) rfl (Nat.le_of_ble_eq_true rfl) ?_
  show m_run Z (279, 212, [l0, l1, l2, l3, (0, x4), (0, (i_or x5 x9)), (0, x6), (0, 1), (0, x8 + 1), (0, x9)], [], h) = _
  refine g_jmp (t := 96) (by decide +kernel : decode (m_byt 279) 212 = .ok (.goto (-116), 3)) (by decide) ?_
  rfl
theorem b_279_199 {Z : mZ} {l0 l1 l2 l3 l4 l5 l6 l7 l8 l9 : mV} {h : mH} : m_run Z (279, 199, [l0, l1, l2, l3, l4, l5, l6, l7, l8, l9], [], h) = m_run Z (279, 200, [l0, l1, l2, l3, l4, l5, l6, l7, l8, l9], [(0, 0)], h) := by
  refine g_base (by decide +kernel : decode (m_byt 279) 199 = .ok (.iconst 0, 1)) rfl rfl ?_
  show m_run Z (279, 200, [l0, l1, l2, l3, l4, l5, l6, l7, l8, l9], [(0, 0)], h) = _
  rfl
theorem b_279_200 {Z : mZ} {l0 l1 l2 l3 l7 : mV} {s0 x6 x5 x9 x4 x8 : Int} {h : mH} : m_run Z (279, 200, [l0, l1, l2, l3, (0, x4), (0, x5), (0, x6), l7, (0, x8), (0, x9)], [(0, s0)], h) = m_run Z (279, 96, [l0, l1, l2, l3, (0, x4), (0, (i_or x5 x9)), (0, x6), (0, s0), (0, x8 + 1), (0, x9)], [], h) := by
  refine g_istore (k := 7) (by decide +kernel : decode (m_byt 279) 200 = .ok (.istore 7, 2)) (Nat.le_of_ble_eq_true rfl) ?_
  show m_run Z (279, 202, [l0, l1, l2, l3, (0, x4), (0, x5), (0, x6), (0, s0), (0, x8), (0, x9)], [], h) = _
  refine g_iload (k := 5) (x := x5) (by decide +kernel : decode (m_byt 279) 202 = .ok (.iload 5, 2)) rfl ?_
  refine g_iload (k := 9) (x := x9) (by decide +kernel : decode (m_byt 279) 204 = .ok (.iload 9, 2)) rfl ?_
  refine g_base (by decide +kernel : decode (m_byt 279) 206 = .ok (.ior, 1)) rfl rfl ?_
  show m_run Z (279, 207, [l0, l1, l2, l3, (0, x4), (0, x5), (0, x6), (0, s0), (0, x8), (0, x9)], [(0, (i_or x5 x9))], h) = _
  refine g_istore (k := 5) (by decide +kernel : decode (m_byt 279) 207 = .ok (.istore 5, 2)) (Nat.le_of_ble_eq_true rfl) ?_
  show m_run Z (279, 209, [l0, l1, l2, l3, (0, x4), (0, (i_or x5 x9)), (0, x6), (0, s0), (0, x8), (0, x9)], [], h) = _
  refine g_iinc (k := 8) (x := x8) (by decide +kernel : decode (m_byt 279) 209 = .ok (.iinc 8 1, 3)) rfl (Nat.le_of_ble_eq_true rfl) ?_
  show m_run Z (279, 212, [l0, l1, l2, l3, (0, x4), (0, (i_or x5 x9)), (0, x6), (0, s0), (0, x8 + 1), (0, x9)], [], h) = _
  refine g_jmp (t := 96) (by decide +kernel : decode (m_byt 279) 212 = .ok (.goto (-116), 3)) (by decide) ?_
  rfl
theorem b_279_215 {Z : mZ} {l1 l2 l5 l6 l7 l8 l9 : mV} {x3 x4 : Int} {r0 : Nat} {h : mH} : m_run Z (279, 215, [(2, ((r0 : Nat) : Int)), l1, l2, (0, x3), (0, x4), l5, l6, l7, l8, l9], [], h) = if w32 x4 ≤ w32 1000 then m_run Z (279, 231, [(2, ((r0 : Nat) : Int)), l1, l2, (0, x3), (0, x4), l5, l6, l7, l8, l9], [(0, x3), (2, ((r0 : Nat) : Int))], h) else m_run Z (279, 225, [(2, ((r0 : Nat) : Int)), l1, l2, (0, x3), (0, x4), l5, l6, l7, l8, l9], [(0, x3), (2, ((r0 : Nat) : Int))], h) := by
  refine g_aload_n (k := 0) (v := (2, ((r0 : Nat) : Int))) (by decide +kernel : decode (m_byt 279) 215 = .ok (.aload_n 0, 1)) rfl (Or.inl rfl) ?_
  refine g_iload_n (k := 3) (x := x3) (by decide +kernel : decode (m_byt 279) 216 = .ok (.iload_n 3, 1)) rfl ?_
  refine g_iload (k := 4) (x := x4) (by decide +kernel : decode (m_byt 279) 217 = .ok (.iload 4, 2)) rfl ?_
  refine g_base (by decide +kernel : decode (m_byt 279) 219 = .ok (.sipush 1000, 3)) rfl rfl ?_
  show m_run Z (279, 222, [(2, ((r0 : Nat) : Int)), l1, l2, (0, x3), (0, x4), l5, l6, l7, l8, l9], [(0, 1000), (0, x4), (0, x3), (2, ((r0 : Nat) : Int))], h) = _
  exact g_brq (t := 231) (off := 9) (by decide +kernel : decode (m_byt 279) 222 = .ok (.if_icmp .le 9, 3)) rfl rfl (by decide)
theorem b_279_225 {Z : mZ} {l0 l1 l2 l3 l4 l5 l6 l7 l8 l9 : mV} {s0 : Int} {s1 : Nat} {h : mH} : m_run Z (279, 225, [l0, l1, l2, l3, l4, l5, l6, l7, l8, l9], [(0, s0), (2, ((s1 : Nat) : Int))], h) = (m_cl Z 267 [(2, ((s1 : Nat) : Int)), (0, s0), (0, 1000)] h).bind (m_aft (m_run Z) 279 233 [l0, l1, l2, l3, l4, l5, l6, l7, l8, l9] []) := by
  refine g_base (by decide +kernel : decode (m_byt 279) 225 = .ok (.sipush 1000, 3)) rfl rfl ?_
  show m_run Z (279, 228, [l0, l1, l2, l3, l4, l5, l6, l7, l8, l9], [(0, 1000), (0, s0), (2, ((s1 : Nat) : Int))], h) = _
  refine g_jmp (t := 233) (by decide +kernel : decode (m_byt 279) 228 = .ok (.goto 5, 3)) (by decide) ?_
  exact g_inv (k := 0) (m' := 267) (np := 3) (as := [(2, ((s1 : Nat) : Int)), (0, s0), (0, 1000)]) (by decide +kernel : decode (m_byt 279) 233 = .ok (.invokestatic 183, 3)) (Or.inr (Or.inr ⟨rfl, rfl, by decide, by decide⟩)) (by decide +kernel) (by decide +kernel) (by decide +kernel) (Nat.le_of_ble_eq_true rfl) rfl (Or.inl rfl)
theorem b_279_231 {Z : mZ} {l0 l1 l2 l3 l5 l6 l7 l8 l9 : mV} {s0 x4 : Int} {s1 : Nat} {h : mH} : m_run Z (279, 231, [l0, l1, l2, l3, (0, x4), l5, l6, l7, l8, l9], [(0, s0), (2, ((s1 : Nat) : Int))], h) = m_run Z (279, 233, [l0, l1, l2, l3, (0, x4), l5, l6, l7, l8, l9], [(0, x4), (0, s0), (2, ((s1 : Nat) : Int))], h) := by
  refine g_iload (k := 4) (x := x4) (by decide +kernel : decode (m_byt 279) 231 = .ok (.iload 4, 2)) rfl ?_
  rfl
theorem b_279_233 {Z : mZ} {l0 l1 l2 l3 l4 l5 l6 l7 l8 l9 : mV} {s0 s1 : Int} {s2 : Nat} {h : mH} : m_run Z (279, 233, [l0, l1, l2, l3, l4, l5, l6, l7, l8, l9], [(0, s0), (0, s1), (2, ((s2 : Nat) : Int))], h) = (m_cl Z 267 [(2, ((s2 : Nat) : Int)), (0, s1), (0, s0)] h).bind (m_aft (m_run Z) 279 233 [l0, l1, l2, l3, l4, l5, l6, l7, l8, l9] []) := by
  exact g_inv (k := 0) (m' := 267) (np := 3) (as := [(2, ((s2 : Nat) : Int)), (0, s1), (0, s0)]) (by decide +kernel : decode (m_byt 279) 233 = .ok (.invokestatic 183, 3)) (Or.inr (Or.inr ⟨rfl, rfl, by decide, by decide⟩)) (by decide +kernel) (by decide +kernel) (by decide +kernel) (Nat.le_of_ble_eq_true rfl) rfl (Or.inl rfl)
theorem b_279_236 {Z : mZ} {l0 l1 l2 l3 l4 l5 l8 l9 : mV} {s0 x7 x6 : Int} {h : mH} : m_run Z (279, 236, [l0, l1, l2, l3, l4, l5, (0, x6), (0, x7), l8, l9], [(0, s0)], h) = if w32 x6 = 0 then m_run Z (279, 301, [l0, l1, l2, l3, l4, l5, (0, x6), (0, x7), (0, s0), l9], [], h) else m_run Z (279, 243, [l0, l1, l2, l3, l4, l5, (0, x6), (0, x7), (0, s0), l9], [], h) := by
  refine g_istore (k := 8) (by decide +kernel : decode (m_byt 279) 236 = .ok (.istore 8, 2)) (Nat.le_of_ble_eq_true rfl) ?_
  show m_run Z (279, 238, [l0, l1, l2, l3, l4, l5, (0, x6), (0, x7), (0, s0), l9], [], h) = _
  refine g_iload (k := 6) (x := x6) (by decide +kernel : decode (m_byt 279) 238 = .ok (.iload 6, 2)) rfl ?_
  exact g_brq (t := 301) (off := 61) (by decide +kernel : decode (m_byt 279) 240 = .ok (.ifCond .eq 61, 3)) rfl rfl (by decide)
theorem b_279_243 {Z : mZ} {l0 l1 l2 l3 l4 l5 l6 l8 l9 : mV} {x7 : Int} {h : mH} : m_run Z (279, 243, [l0, l1, l2, l3, l4, l5, l6, (0, x7), l8, l9], [], h) = if w32 x7 = 0 then m_run Z (279, 301, [l0, l1, l2, l3, l4, l5, l6, (0, x7), l8, l9], [], h) else m_run Z (279, 248, [l0, l1, l2, l3, l4, l5, l6, (0, x7), l8, l9], [], h) := by
  refine g_iload (k := 7) (x := x7) (by decide +kernel : decode (m_byt 279) 243 = .ok (.iload 7, 2)) rfl ?_
  exact g_brq (t := 301) (off := 56) (by decide +kernel : decode (m_byt 279) 245 = .ok (.ifCond .eq 56, 3)) rfl rfl (by decide)
theorem b_279_248 {Z : mZ} {l0 l1 l3 l4 l6 l7 l8 l9 : mV} {x5 x2 : Int} {h : mH} : m_run Z (279, 248, [l0, l1, (0, x2), l3, l4, (0, x5), l6, l7, l8, l9], [], h) = if w32 x5 = w32 x2 then m_run Z (279, 254, [l0, l1, (0, x2), l3, l4, (0, x5), l6, l7, l8, l9], [], h) else m_run Z (279, 301, [l0, l1, (0, x2), l3, l4, (0, x5), l6, l7, l8, l9], [], h) := by
  refine g_iload (k := 5) (x := x5) (by decide +kernel : decode (m_byt 279) 248 = .ok (.iload 5, 2)) rfl ?_
  refine g_iload_n (k := 2) (x := x2) (by decide +kernel : decode (m_byt 279) 250 = .ok (.iload_n 2, 1)) rfl ?_
  exact g_brn (t := 301) (off := 50) (by decide +kernel : decode (m_byt 279) 251 = .ok (.if_icmp .ne 50, 3)) rfl rfl (by decide)
theorem b_279_254 {Z : mZ} {l0 l1 l2 l3 l5 l6 l7 l8 l9 : mV} {x4 : Int} {h : mH} : m_run Z (279, 254, [l0, l1, l2, l3, (0, x4), l5, l6, l7, l8, l9], [], h) = if w32 1000 < w32 x4 then m_run Z (279, 268, [l0, l1, l2, l3, (0, x4), l5, l6, l7, l8, l9], [], h) else m_run Z (279, 262, [l0, l1, l2, l3, (0, x4), l5, l6, l7, l8, l9], [], h) := by
  refine g_iload (k := 4) (x := x4) (by decide +kernel : decode (m_byt 279) 254 = .ok (.iload 4, 2)) rfl ?_
  refine g_base (by decide +kernel : decode (m_byt 279) 256 = .ok (.sipush 1000, 3)) rfl rfl ?_
  show m_run Z (279, 259, [l0, l1, l2, l3, (0, x4), l5, l6, l7, l8, l9], [(0, 1000), (0, x4)], h) = _
  exact g_brq (t := 268) (off := 9) (by decide +kernel : decode (m_byt 279) 259 = .ok (.if_icmp .gt 9, 3)) rfl rfl (by decide)
theorem b_279_262 {Z : mZ} {l0 l2 l3 l4 l5 l6 l7 l9 : mV} {x8 x1 : Int} {h : mH} : m_run Z (279, 262, [l0, (0, x1), l2, l3, l4, l5, l6, l7, (0, x8), l9], [], h) = if w32 x1 < w32 x8 then m_run Z (279, 301, [l0, (0, x1), l2, l3, l4, l5, l6, l7, (0, x8), l9], [], h) else m_run Z (279, 268, [l0, (0, x1), l2, l3, l4, l5, l6, l7, (0, x8), l9], [], h) := by
  refine g_iload (k := 8) (x := x8) (by decide +kernel : decode (m_byt 279) 262 = .ok (.iload 8, 2)) rfl ?_
  refine g_iload_n (k := 1) (x := x1) (by decide +kernel : decode (m_byt 279) 264 = .ok (.iload_n 1, 1)) rfl ?_
  exact g_brq (t := 301) (off := 36) (by decide +kernel : decode (m_byt 279) 265 = .ok (.if_icmp .gt 36, 3)) rfl rfl (by decide)
theorem b_279_268 {Z : mZ} {l0 l1 l2 l5 l6 l7 l8 l9 : mV} {x3 x4 : Int} {h : mH} : m_run Z (279, 268, [l0, l1, l2, (0, x3), (0, x4), l5, l6, l7, l8, l9], [], h) = if w32 x3 < w32 x4 then m_run Z (279, 297, [l0, l1, l2, (0, x3), (0, x4), l5, l6, l7, l8, l9], [], h) else m_run Z (279, 274, [l0, l1, l2, (0, x3), (0, x4), l5, l6, l7, l8, l9], [], h) := by
  refine g_iload_n (k := 3) (x := x3) (by decide +kernel : decode (m_byt 279) 268 = .ok (.iload_n 3, 1)) rfl ?_
  refine g_iload (k := 4) (x := x4) (by decide +kernel : decode (m_byt 279) 269 = .ok (.iload 4, 2)) rfl ?_
  exact g_brq (t := 297) (off := 26) (by decide +kernel : decode (m_byt 279) 271 = .ok (.if_icmp .lt 26, 3)) rfl rfl (by decide)
theorem b_279_274 {Z : mZ} {l0 l1 l2 l3 l5 l6 l7 l8 l9 : mV} {x4 : Int} {h : mH} : m_run Z (279, 274, [l0, l1, l2, l3, (0, x4), l5, l6, l7, l8, l9], [], h) = if w32 1000 < w32 x4 then m_run Z (279, 297, [l0, l1, l2, l3, (0, x4), l5, l6, l7, l8, l9], [], h) else m_run Z (279, 282, [l0, l1, l2, l3, (0, x4), l5, l6, l7, l8, l9], [], h) := by
  refine g_iload (k := 4) (x := x4) (by decide +kernel : decode (m_byt 279) 274 = .ok (.iload 4, 2)) rfl ?_
  refine g_base (by decide +kernel : decode (m_byt 279) 276 = .ok (.sipush 1000, 3)) rfl rfl ?_
  show m_run Z (279, 279, [l0, l1, l2, l3, (0, x4), l5, l6, l7, l8, l9], [(0, 1000), (0, x4)], h) = _
  exact g_brq (t := 297) (off := 18) (by decide +kernel : decode (m_byt 279) 279 = .ok (.if_icmp .gt 18, 3)) rfl rfl (by decide)
theorem b_279_282 {Z : mZ} {l1 l2 l5 l6 l7 l8 l9 : mV} {x3 x4 : Int} {r0 : Nat} {h : mH} : m_run Z (279, 282, [(2, ((r0 : Nat) : Int)), l1, l2, (0, x3), (0, x4), l5, l6, l7, l8, l9], [], h) = (m_cl Z 267 [(2, ((r0 : Nat) : Int)), (0, (x3 - x4)), (0, x4)] h).bind (m_aft (m_run Z) 279 289 [(2, ((r0 : Nat) : Int)), l1, l2, (0, x3), (0, x4), l5, l6, l7, l8, l9] []) := by
  refine g_aload_n (k := 0) (v := (2, ((r0 : Nat) : Int))) (by decide +kernel : decode (m_byt 279) 282 = .ok (.aload_n 0, 1)) rfl (Or.inl rfl) ?_
  refine g_iload_n (k := 3) (x := x3) (by decide +kernel : decode (m_byt 279) 283 = .ok (.iload_n 3, 1)) rfl ?_
  refine g_iload (k := 4) (x := x4) (by decide +kernel : decode (m_byt 279) 284 = .ok (.iload 4, 2)) rfl ?_
  refine g_base (by decide +kernel : decode (m_byt 279) 286 = .ok (.isub, 1)) rfl rfl ?_
  show m_run Z (279, 287, [(2, ((r0 : Nat) : Int)), l1, l2, (0, x3), (0, x4), l5, l6, l7, l8, l9], [(0, (x3 - x4)), (2, ((r0 : Nat) : Int))], h) = _
  refine g_iload (k := 4) (x := x4) (by decide +kernel : decode (m_byt 279) 287 = .ok (.iload 4, 2)) rfl ?_
  exact g_inv (k := 0) (m' := 267) (np := 3) (as := [(2, ((r0 : Nat) : Int)), (0, (x3 - x4)), (0, x4)]) (by decide +kernel : decode (m_byt 279) 289 = .ok (.invokestatic 183, 3)) (Or.inr (Or.inr ⟨rfl, rfl, by decide, by decide⟩)) (by decide +kernel) (by decide +kernel) (by decide +kernel) (Nat.le_of_ble_eq_true rfl) rfl (Or.inl rfl)
theorem b_279_292 {Z : mZ} {l0 l1 l2 l3 l4 l5 l6 l7 l9 : mV} {s0 x8 : Int} {h : mH} : m_run Z (279, 292, [l0, l1, l2, l3, l4, l5, l6, l7, (0, x8), l9], [(0, s0)], h) = if w32 s0 < w32 x8 then m_run Z (279, 301, [l0, l1, l2, l3, l4, l5, l6, l7, (0, x8), l9], [], h) else m_run Z (279, 297, [l0, l1, l2, l3, l4, l5, l6, l7, (0, x8), l9], [], h) := by
  refine g_iload (k := 8) (x := x8) (by decide +kernel : decode (m_byt 279) 292 = .ok (.iload 8, 2)) rfl ?_
  exact g_brq (t := 301) (off := 7) (by decide +kernel : decode (m_byt 279) 294 = .ok (.if_icmp .lt 7, 3)) rfl rfl (by decide)
theorem b_279_297 {Z : mZ} {l0 l1 l2 l3 l4 l5 l6 l7 l8 l9 : mV} {h : mH} : m_run Z (279, 297, [l0, l1, l2, l3, l4, l5, l6, l7, l8, l9], [], h) = some (.inl (0, 1), h) := by
  refine g_base (by decide +kernel : decode (m_byt 279) 297 = .ok (.iconst 1, 1)) rfl rfl ?_
  show m_run Z (279, 298, [l0, l1, l2, l3, l4, l5, l6, l7, l8, l9], [(0, 1)], h) = _
  refine g_jmp (t := 302) (by decide +kernel : decode (m_byt 279) 298 = .ok (.goto 4, 3)) (by decide) ?_
  exact g_zret (by decide +kernel : decode (m_byt 279) 302 = .ok (.ireturn, 1)) (by decide +kernel) (by decide)
theorem b_279_301 {Z : mZ} {l0 l1 l2 l3 l4 l5 l6 l7 l8 l9 : mV} {h : mH} : m_run Z (279, 301, [l0, l1, l2, l3, l4, l5, l6, l7, l8, l9], [], h) = m_run Z (279, 302, [l0, l1, l2, l3, l4, l5, l6, l7, l8, l9], [(0, 0)], h) := by
  refine g_base (by decide +kernel : decode (m_byt 279) 301 = .ok (.iconst 0, 1)) rfl rfl ?_
  show m_run Z (279, 302, [l0, l1, l2, l3, l4, l5, l6, l7, l8, l9], [(0, 0)], h) = _
  rfl
theorem b_279_302 {Z : mZ} {l0 l1 l2 l3 l4 l5 l6 l7 l8 l9 : mV} {s0 : Int} {h : mH} (h0 : w32 s0 = 0 ∨ w32 s0 = 1) : m_run Z (279, 302, [l0, l1, l2, l3, l4, l5, l6, l7, l8, l9], [(0, s0)], h) = some (.inl (0, s0), h) := by
  exact g_zret (by decide +kernel : decode (m_byt 279) 302 = .ok (.ireturn, 1)) (by decide +kernel) h0
theorem e_280 {Z : mZ} {r0 : Nat} {x1 : Int} {h : mH} : m_cl Z 280 [(2, ((r0 : Nat) : Int)), (0, x1)] h = m_run Z (280, 0, [(2, ((r0 : Nat) : Int)), (0, x1), (9, 0), (9, 0), (9, 0), (9, 0), (9, 0)], [], h) := g_ent (k := 7) (by decide) (by decide +kernel) (Nat.le_of_ble_eq_true rfl) (by decide +kernel) rfl
theorem b_280_0 {Z : mZ} {l1 l2 l3 l4 l5 l6 : mV} {r0 : Nat} {h : mH} : m_run Z (280, 0, [(2, ((r0 : Nat) : Int)), l1, l2, l3, l4, l5, l6], [], h) = (m_cl Z 250 [(2, ((r0 : Nat) : Int)), (0, 0)] h).bind (m_aft (m_run Z) 280 3 [(2, ((r0 : Nat) : Int)), l1, l2, l3, l4, l5, l6] [(0, 1)]) := by
  refine g_base (by decide +kernel : decode (m_byt 280) 0 = .ok (.iconst 1, 1)) rfl rfl ?_
  show m_run Z (280, 1, [(2, ((r0 : Nat) : Int)), l1, l2, l3, l4, l5, l6], [(0, 1)], h) = _
  refine g_aload_n (k := 0) (v := (2, ((r0 : Nat) : Int))) (by decide +kernel : decode (m_byt 280) 1 = .ok (.aload_n 0, 1)) rfl (Or.inl rfl) ?_
  refine g_base (by decide +kernel : decode (m_byt 280) 2 = .ok (.iconst 0, 1)) rfl rfl ?_
  show m_run Z (280, 3, [(2, ((r0 : Nat) : Int)), l1, l2, l3, l4, l5, l6], [(0, 0), (2, ((r0 : Nat) : Int)), (0, 1)], h) = _
  exact g_inv (k := 0) (m' := 250) (np := 2) (as := [(2, ((r0 : Nat) : Int)), (0, 0)]) (by decide +kernel : decode (m_byt 280) 3 = .ok (.invokestatic 149, 3)) (Or.inr (Or.inr ⟨rfl, rfl, by decide, by decide⟩)) (by decide +kernel) (by decide +kernel) (by decide +kernel) (Nat.le_of_ble_eq_true rfl) rfl (Or.inl rfl)
theorem b_280_6 {Z : mZ} {l2 l3 l4 l5 l6 : mV} {s0 s1 x1 : Int} {r0 : Nat} {h : mH} : m_run Z (280, 6, [(2, ((r0 : Nat) : Int)), (0, x1), l2, l3, l4, l5, l6], [(0, s0), (0, s1)], h) = (m_cl Z 260 [(2, ((r0 : Nat) : Int)), (0, x1), (0, 0), (0, 0)] h).bind (m_aft (m_run Z) 280 14 [(2, ((r0 : Nat) : Int)), (0, x1), (0, ((i_shl s1 s0) - 1)), l3, l4, l5, l6] []) := by
  refine g_base (by decide +kernel : decode (m_byt 280) 6 = .ok (.ishl, 1)) rfl rfl ?_
  show m_run Z (280, 7, [(2, ((r0 : Nat) : Int)), (0, x1), l2, l3, l4, l5, l6], [(0, (i_shl s1 s0))], h) = _
  refine g_base (by decide +kernel : decode (m_byt 280) 7 = .ok (.iconst 1, 1)) rfl rfl ?_
  show m_run Z (280, 8, [(2, ((r0 : Nat) : Int)), (0, x1), l2, l3, l4, l5, l6], [(0, 1), (0, (i_shl s1 s0))], h) = _
  refine g_base (by decide +kernel : decode (m_byt 280) 8 = .ok (.isub, 1)) rfl rfl ?_
  show m_run Z (280, 9, [(2, ((r0 : Nat) : Int)), (0, x1), l2, l3, l4, l5, l6], [(0, ((i_shl s1 s0) - 1))], h) = _
  refine g_istore_n (k := 2) (by decide +kernel : decode (m_byt 280) 9 = .ok (.istore_n 2, 1)) (Nat.le_of_ble_eq_true rfl) ?_
  show m_run Z (280, 10, [(2, ((r0 : Nat) : Int)), (0, x1), (0, ((i_shl s1 s0) - 1)), l3, l4, l5, l6], [], h) = _
  refine g_aload_n (k := 0) (v := (2, ((r0 : Nat) : Int))) (by decide +kernel : decode (m_byt 280) 10 = .ok (.aload_n 0, 1)) rfl (Or.inl rfl) ?_
  refine g_iload_n (k := 1) (x := x1) (by decide +kernel : decode (m_byt 280) 11 = .ok (.iload_n 1, 1)) rfl ?_
  refine g_base (by decide +kernel : decode (m_byt 280) 12 = .ok (.iconst 0, 1)) rfl rfl ?_
  show m_run Z (280, 13, [(2, ((r0 : Nat) : Int)), (0, x1), (0, ((i_shl s1 s0) - 1)), l3, l4, l5, l6], [(0, 0), (0, x1), (2, ((r0 : Nat) : Int))], h) = _
  refine g_base (by decide +kernel : decode (m_byt 280) 13 = .ok (.iconst 0, 1)) rfl rfl ?_
  show m_run Z (280, 14, [(2, ((r0 : Nat) : Int)), (0, x1), (0, ((i_shl s1 s0) - 1)), l3, l4, l5, l6], [(0, 0), (0, 0), (0, x1), (2, ((r0 : Nat) : Int))], h) = _
  exact g_inv (k := 0) (m' := 260) (np := 4) (as := [(2, ((r0 : Nat) : Int)), (0, x1), (0, 0), (0, 0)]) (by decide +kernel : decode (m_byt 280) 14 = .ok (.invokestatic 169, 3)) (Or.inr (Or.inr ⟨rfl, rfl, by decide, by decide⟩)) (by decide +kernel) (by decide +kernel) (by decide +kernel) (Nat.le_of_ble_eq_true rfl) rfl (Or.inl rfl)
theorem b_280_17 {Z : mZ} {l0 l1 l2 l3 l4 l5 l6 : mV} {s0 : Int} {h : mH} : m_run Z (280, 17, [l0, l1, l2, l3, l4, l5, l6], [(0, s0)], h) = if w32 s0 = 0 then m_run Z (280, 20, [l0, l1, l2, l3, l4, l5, l6], [], h) else m_run Z (280, 56, [l0, l1, l2, l3, l4, l5, l6], [], h) := by
  exact g_brn (t := 56) (off := 39) (by decide +kernel : decode (m_byt 280) 17 = .ok (.ifCond .ne 39, 3)) rfl rfl (by decide)
theorem b_280_20 {Z : mZ} {l2 l3 l4 l5 l6 : mV} {x1 : Int} {r0 : Nat} {h : mH} : m_run Z (280, 20, [(2, ((r0 : Nat) : Int)), (0, x1), l2, l3, l4, l5, l6], [], h) = (m_cl Z 260 [(2, ((r0 : Nat) : Int)), (0, x1), (0, 0), (0, 1)] h).bind (m_aft (m_run Z) 280 24 [(2, ((r0 : Nat) : Int)), (0, x1), l2, l3, l4, l5, l6] []) := by
  refine g_aload_n (k := 0) (v := (2, ((r0 : Nat) : Int))) (by decide +kernel : decode (m_byt 280) 20 = .ok (.aload_n 0, 1)) rfl (Or.inl rfl) ?_
  refine g_iload_n (k := 1) (x := x1) (by decide +kernel : decode (m_byt 280) 21 = .ok (.iload_n 1, 1)) rfl ?_
  refine g_base (by decide +kernel : decode (m_byt 280) 22 = .ok (.iconst 0, 1)) rfl rfl ?_
  show m_run Z (280, 23, [(2, ((r0 : Nat) : Int)), (0, x1), l2, l3, l4, l5, l6], [(0, 0), (0, x1), (2, ((r0 : Nat) : Int))], h) = _
  refine g_base (by decide +kernel : decode (m_byt 280) 23 = .ok (.iconst 1, 1)) rfl rfl ?_
  show m_run Z (280, 24, [(2, ((r0 : Nat) : Int)), (0, x1), l2, l3, l4, l5, l6], [(0, 1), (0, 0), (0, x1), (2, ((r0 : Nat) : Int))], h) = _
  exact g_inv (k := 0) (m' := 260) (np := 4) (as := [(2, ((r0 : Nat) : Int)), (0, x1), (0, 0), (0, 1)]) (by decide +kernel : decode (m_byt 280) 24 = .ok (.invokestatic 169, 3)) (Or.inr (Or.inr ⟨rfl, rfl, by decide, by decide⟩)) (by decide +kernel) (by decide +kernel) (by decide +kernel) (Nat.le_of_ble_eq_true rfl) rfl (Or.inl rfl)
theorem b_280_27 {Z : mZ} {l0 l1 l2 l3 l4 l5 l6 : mV} {s0 : Int} {h : mH} : m_run Z (280, 27, [l0, l1, l2, l3, l4, l5, l6], [(0, s0)], h) = if w32 s0 = w32 1 then m_run Z (280, 31, [l0, l1, l2, l3, l4, l5, l6], [], h) else m_run Z (280, 56, [l0, l1, l2, l3, l4, l5, l6], [], h) := by
  refine g_base (by decide +kernel : decode (m_byt 280) 27 = .ok (.iconst 1, 1)) rfl rfl ?_
  show m_run Z (280, 28, [l0, l1, l2, l3, l4, l5, l6], [(0, 1), (0, s0)], h) = _
  exact g_brn (t := 56) (off := 28) (by decide +kernel : decode (m_byt 280) 28 = .ok (.if_icmp .ne 28, 3)) rfl rfl (by decide)
theorem b_280_31 {Z : mZ} {l2 l3 l4 l5 l6 : mV} {x1 : Int} {r0 : Nat} {h : mH} : m_run Z (280, 31, [(2, ((r0 : Nat) : Int)), (0, x1), l2, l3, l4, l5, l6], [], h) = (m_cl Z 260 [(2, ((r0 : Nat) : Int)), (0, x1), (0, 1), (0, 0)] h).bind (m_aft (m_run Z) 280 35 [(2, ((r0 : Nat) : Int)), (0, x1), l2, l3, l4, l5, l6] []) := by
  refine g_aload_n (k := 0) (v := (2, ((r0 : Nat) : Int))) (by decide +kernel : decode (m_byt 280) 31 = .ok (.aload_n 0, 1)) rfl (Or.inl rfl) ?_
  refine g_iload_n (k := 1) (x := x1) (by decide +kernel : decode (m_byt 280) 32 = .ok (.iload_n 1, 1)) rfl ?_
  refine g_base (by decide +kernel : decode (m_byt 280) 33 = .ok (.iconst 1, 1)) rfl rfl ?_
  show m_run Z (280, 34, [(2, ((r0 : Nat) : Int)), (0, x1), l2, l3, l4, l5, l6], [(0, 1), (0, x1), (2, ((r0 : Nat) : Int))], h) = _
  refine g_base (by decide +kernel : decode (m_byt 280) 34 = .ok (.iconst 0, 1)) rfl rfl ?_
  show m_run Z (280, 35, [(2, ((r0 : Nat) : Int)), (0, x1), l2, l3, l4, l5, l6], [(0, 0), (0, 1), (0, x1), (2, ((r0 : Nat) : Int))], h) = _
  exact g_inv (k := 0) (m' := 260) (np := 4) (as := [(2, ((r0 : Nat) : Int)), (0, x1), (0, 1), (0, 0)]) (by decide +kernel : decode (m_byt 280) 35 = .ok (.invokestatic 169, 3)) (Or.inr (Or.inr ⟨rfl, rfl, by decide, by decide⟩)) (by decide +kernel) (by decide +kernel) (by decide +kernel) (Nat.le_of_ble_eq_true rfl) rfl (Or.inl rfl)
theorem b_280_38 {Z : mZ} {l0 l1 l2 l3 l4 l5 l6 : mV} {s0 : Int} {h : mH} : m_run Z (280, 38, [l0, l1, l2, l3, l4, l5, l6], [(0, s0)], h) = if w32 s0 ≤ 0 then m_run Z (280, 56, [l0, l1, l2, l3, l4, l5, l6], [], h) else m_run Z (280, 41, [l0, l1, l2, l3, l4, l5, l6], [], h) := by
  exact g_brq (t := 56) (off := 18) (by decide +kernel : decode (m_byt 280) 38 = .ok (.ifCond .le 18, 3)) rfl rfl (by decide)
theorem b_280_41 {Z : mZ} {l2 l3 l4 l5 l6 : mV} {x1 : Int} {r0 : Nat} {h : mH} : m_run Z (280, 41, [(2, ((r0 : Nat) : Int)), (0, x1), l2, l3, l4, l5, l6], [], h) = (m_cl Z 260 [(2, ((r0 : Nat) : Int)), (0, x1), (0, (-1)), (0, 0)] h).bind (m_aft (m_run Z) 280 45 [(2, ((r0 : Nat) : Int)), (0, x1), l2, l3, l4, l5, l6] []) := by
  refine g_aload_n (k := 0) (v := (2, ((r0 : Nat) : Int))) (by decide +kernel : decode (m_byt 280) 41 = .ok (.aload_n 0, 1)) rfl (Or.inl rfl) ?_
  refine g_iload_n (k := 1) (x := x1) (by decide +kernel : decode (m_byt 280) 42 = .ok (.iload_n 1, 1)) rfl ?_
  refine g_base (by decide +kernel : decode (m_byt 280) 43 = .ok (.iconst (-1), 1)) rfl rfl ?_
  show m_run Z (280, 44, [(2, ((r0 : Nat) : Int)), (0, x1), l2, l3, l4, l5, l6], [(0, (-1)), (0, x1), (2, ((r0 : Nat) : Int))], h) = _
  refine g_base (by decide +kernel : decode (m_byt 280) 44 = .ok (.iconst 0, 1)) rfl rfl ?_
  show m_run Z (280, 45, [(2, ((r0 : Nat) : Int)), (0, x1), l2, l3, l4, l5, l6], [(0, 0), (0, (-1)), (0, x1), (2, ((r0 : Nat) : Int))], h) = _
  exact g_inv (k := 0) (m' := 260) (np := 4) (as := [(2, ((r0 : Nat) : Int)), (0, x1), (0, (-1)), (0, 0)]) (by decide +kernel : decode (m_byt 280) 45 = .ok (.invokestatic 169, 3)) (Or.inr (Or.inr ⟨rfl, rfl, by decide, by decide⟩)) (by decide +kernel) (by decide +kernel) (by decide +kernel) (Nat.le_of_ble_eq_true rfl) rfl (Or.inl rfl)
theorem b_280_48 {Z : mZ} {l0 l1 l2 l3 l4 l5 l6 : mV} {s0 : Int} {h : mH} : m_run Z (280, 48, [l0, l1, l2, l3, l4, l5, l6], [(0, s0)], h) = if w32 s0 = w32 (-1) then m_run Z (280, 52, [l0, l1, l2, l3, l4, l5, l6], [], h) else m_run Z (280, 56, [l0, l1, l2, l3, l4, l5, l6], [], h) := by
  refine g_base (by decide +kernel : decode (m_byt 280) 48 = .ok (.iconst (-1), 1)) rfl rfl ?_
  show m_run Z (280, 49, [l0, l1, l2, l3, l4, l5, l6], [(0, (-1)), (0, s0)], h) = _
  exact g_brn (t := 56) (off := 7) (by decide +kernel : decode (m_byt 280) 49 = .ok (.if_icmp .ne 7, 3)) rfl rfl (by decide)
theorem b_280_52 {Z : mZ} {l0 l1 l3 l4 l5 l6 : mV} {x2 : Int} {h : mH} : m_run Z (280, 52, [l0, l1, (0, x2), l3, l4, l5, l6], [], h) = m_run Z (280, 61, [l0, l1, (0, x2), (0, 1), (0, 0), l5, l6], [], h) := by
  refine g_base (by decide +kernel : decode (m_byt 280) 52 = .ok (.iconst 1, 1)) rfl rfl ?_
  show m_run Z (280, 53, [l0, l1, (0, x2), l3, l4, l5, l6], [(0, 1)], h) = _
  refine g_jmp (t := 57) (by decide +kernel : decode (m_byt 280) 53 = .ok (.goto 4, 3)) (by decide) ?_
  refine g_istore_n (k := 3) (by decide +kernel : decode (m_byt 280) 57 = .ok (.istore_n 3, 1)) (Nat.le_of_ble_eq_true rfl) ?_
  show m_run Z (280, 58, [l0, l1, (0, x2), (0, 1), l4, l5, l6], [], h) = _
  refine g_base (by decide +kernel : decode (m_byt 280) 58 = .ok (.iconst 0, 1)) rfl rfl ?_
  show m_run Z (280, 59, [l0, l1, (0, x2), (0, 1), l4, l5, l6], [(0, 0)], h) = _
  refine g_istore (k := 4) (by decide +kernel : decode (m_byt 280) 59 = .ok (.istore 4, 2)) (Nat.le_of_ble_eq_true rfl) ?_
  show m_run Z (280, 61, [l0, l1, (0, x2), (0, 1), (0, 0), l5, l6], [], h) = _
  rfl
theorem b_280_56 {Z : mZ} {l0 l1 l2 l3 l4 l5 l6 : mV} {h : mH} : m_run Z (280, 56, [l0, l1, l2, l3, l4, l5, l6], [], h) = m_run Z (280, 57, [l0, l1, l2, l3, l4, l5, l6], [(0, 0)], h) := by
  refine g_base (by decide +kernel : decode (m_byt 280) 56 = .ok (.iconst 0, 1)) rfl rfl ?_
  show m_run Z (280, 57, [l0, l1, l2, l3, l4, l5, l6], [(0, 0)], h) = _
  rfl
theorem b_280_57 {Z : mZ} {l0 l1 l3 l4 l5 l6 : mV} {s0 x2 : Int} {h : mH} : m_run Z (280, 57, [l0, l1, (0, x2), l3, l4, l5, l6], [(0, s0)], h) = m_run Z (280, 61, [l0, l1, (0, x2), (0, s0), (0, 0), l5, l6], [], h) := by
  refine g_istore_n (k := 3) (by decide +kernel : decode (m_byt 280) 57 = .ok (.istore_n 3, 1)) (Nat.le_of_ble_eq_true rfl) ?_
  show m_run Z (280, 58, [l0, l1, (0, x2), (0, s0), l4, l5, l6], [], h) = _
  refine g_base (by decide +kernel : decode (m_byt 280) 58 = .ok (.iconst 0, 1)) rfl rfl ?_
  show m_run Z (280, 59, [l0, l1, (0, x2), (0, s0), l4, l5, l6], [(0, 0)], h) = _
  refine g_istore (k := 4) (by decide +kernel : decode (m_byt 280) 59 = .ok (.istore 4, 2)) (Nat.le_of_ble_eq_true rfl) ?_
  show m_run Z (280, 61, [l0, l1, (0, x2), (0, s0), (0, 0), l5, l6], [], h) = _
  rfl
theorem b_280_61 {Z : mZ} {l0 l1 l2 l4 l5 l6 : mV} {x3 : Int} {h : mH} : m_run Z (280, 61, [l0, l1, l2, (0, x3), l4, l5, l6], [], h) = if w32 x3 = 0 then m_run Z (280, 210, [l0, l1, l2, (0, x3), l4, l5, l6], [], h) else m_run Z (280, 65, [l0, l1, l2, (0, x3), l4, l5, l6], [], h) := by
  refine g_iload_n (k := 3) (x := x3) (by decide +kernel : decode (m_byt 280) 61 = .ok (.iload_n 3, 1)) rfl ?_
  exact g_brq (t := 210) (off := 148) (by decide +kernel : decode (m_byt 280) 62 = .ok (.ifCond .eq 148, 3)) rfl rfl (by decide)
theorem b_280_65 {Z : mZ} {l2 l3 l5 l6 : mV} {x1 x4 : Int} {r0 : Nat} {h : mH} : m_run Z (280, 65, [(2, ((r0 : Nat) : Int)), (0, x1), l2, l3, (0, x4), l5, l6], [], h) = (m_cl Z 260 [(2, ((r0 : Nat) : Int)), (0, x1), (0, x4), (0, 0)] h).bind (m_aft (m_run Z) 280 70 [(2, ((r0 : Nat) : Int)), (0, x1), l2, l3, (0, x4), l5, l6] []) := by
  refine g_aload_n (k := 0) (v := (2, ((r0 : Nat) : Int))) (by decide +kernel : decode (m_byt 280) 65 = .ok (.aload_n 0, 1)) rfl (Or.inl rfl) ?_
  refine g_iload_n (k := 1) (x := x1) (by decide +kernel : decode (m_byt 280) 66 = .ok (.iload_n 1, 1)) rfl ?_
  refine g_iload (k := 4) (x := x4) (by decide +kernel : decode (m_byt 280) 67 = .ok (.iload 4, 2)) rfl ?_
  refine g_base (by decide +kernel : decode (m_byt 280) 69 = .ok (.iconst 0, 1)) rfl rfl ?_
  show m_run Z (280, 70, [(2, ((r0 : Nat) : Int)), (0, x1), l2, l3, (0, x4), l5, l6], [(0, 0), (0, x4), (0, x1), (2, ((r0 : Nat) : Int))], h) = _
  exact g_inv (k := 0) (m' := 260) (np := 4) (as := [(2, ((r0 : Nat) : Int)), (0, x1), (0, x4), (0, 0)]) (by decide +kernel : decode (m_byt 280) 70 = .ok (.invokestatic 169, 3)) (Or.inr (Or.inr ⟨rfl, rfl, by decide, by decide⟩)) (by decide +kernel) (by decide +kernel) (by decide +kernel) (Nat.le_of_ble_eq_true rfl) rfl (Or.inl rfl)
theorem b_280_73 {Z : mZ} {l0 l1 l2 l3 l4 l5 l6 : mV} {s0 : Int} {h : mH} : m_run Z (280, 73, [l0, l1, l2, l3, l4, l5, l6], [(0, s0)], h) = if w32 s0 = w32 (-1) then m_run Z (280, 210, [l0, l1, l2, l3, l4, l5, l6], [], h) else m_run Z (280, 77, [l0, l1, l2, l3, l4, l5, l6], [], h) := by
  refine g_base (by decide +kernel : decode (m_byt 280) 73 = .ok (.iconst (-1), 1)) rfl rfl ?_
  show m_run Z (280, 74, [l0, l1, l2, l3, l4, l5, l6], [(0, (-1)), (0, s0)], h) = _
  exact g_brq (t := 210) (off := 136) (by decide +kernel : decode (m_byt 280) 74 = .ok (.if_icmp .eq 136, 3)) rfl rfl (by decide)
theorem b_280_77 {Z : mZ} {l2 l3 l5 l6 : mV} {x1 x4 : Int} {r0 : Nat} {h : mH} : m_run Z (280, 77, [(2, ((r0 : Nat) : Int)), (0, x1), l2, l3, (0, x4), l5, l6], [], h) = (m_cl Z 260 [(2, ((r0 : Nat) : Int)), (0, x1), (0, x4), (0, 0)] h).bind (m_aft (m_run Z) 280 82 [(2, ((r0 : Nat) : Int)), (0, x1), l2, l3, (0, x4), l5, l6] []) := by
  refine g_aload_n (k := 0) (v := (2, ((r0 : Nat) : Int))) (by decide +kernel : decode (m_byt 280) 77 = .ok (.aload_n 0, 1)) rfl (Or.inl rfl) ?_
  refine g_iload_n (k := 1) (x := x1) (by decide +kernel : decode (m_byt 280) 78 = .ok (.iload_n 1, 1)) rfl ?_
  refine g_iload (k := 4) (x := x4) (by decide +kernel : decode (m_byt 280) 79 = .ok (.iload 4, 2)) rfl ?_
  refine g_base (by decide +kernel : decode (m_byt 280) 81 = .ok (.iconst 0, 1)) rfl rfl ?_
  show m_run Z (280, 82, [(2, ((r0 : Nat) : Int)), (0, x1), l2, l3, (0, x4), l5, l6], [(0, 0), (0, x4), (0, x1), (2, ((r0 : Nat) : Int))], h) = _
  exact g_inv (k := 0) (m' := 260) (np := 4) (as := [(2, ((r0 : Nat) : Int)), (0, x1), (0, x4), (0, 0)]) (by decide +kernel : decode (m_byt 280) 82 = .ok (.invokestatic 169, 3)) (Or.inr (Or.inr ⟨rfl, rfl, by decide, by decide⟩)) (by decide +kernel) (by decide +kernel) (by decide +kernel) (Nat.le_of_ble_eq_true rfl) rfl (Or.inl rfl)
theorem b_280_85 {Z : mZ} {l2 l3 l5 l6 : mV} {s0 x4 x1 : Int} {r0 : Nat} {h : mH} : m_run Z (280, 85, [(2, ((r0 : Nat) : Int)), (0, x1), l2, l3, (0, x4), l5, l6], [(0, s0)], h) = (m_cl Z 260 [(2, ((r0 : Nat) : Int)), (0, x1), (0, x4), (0, 1)] h).bind (m_aft (m_run Z) 280 92 [(2, ((r0 : Nat) : Int)), (0, x1), l2, l3, (0, x4), (0, s0), l6] []) := by
  refine g_istore (k := 5) (by decide +kernel : decode (m_byt 280) 85 = .ok (.istore 5, 2)) (Nat.le_of_ble_eq_true rfl) ?_
  show m_run Z (280, 87, [(2, ((r0 : Nat) : Int)), (0, x1), l2, l3, (0, x4), (0, s0), l6], [], h) = _
  refine g_aload_n (k := 0) (v := (2, ((r0 : Nat) : Int))) (by decide +kernel : decode (m_byt 280) 87 = .ok (.aload_n 0, 1)) rfl (Or.inl rfl) ?_
  refine g_iload_n (k := 1) (x := x1) (by decide +kernel : decode (m_byt 280) 88 = .ok (.iload_n 1, 1)) rfl ?_
  refine g_iload (k := 4) (x := x4) (by decide +kernel : decode (m_byt 280) 89 = .ok (.iload 4, 2)) rfl ?_
  refine g_base (by decide +kernel : decode (m_byt 280) 91 = .ok (.iconst 1, 1)) rfl rfl ?_
  show m_run Z (280, 92, [(2, ((r0 : Nat) : Int)), (0, x1), l2, l3, (0, x4), (0, s0), l6], [(0, 1), (0, x4), (0, x1), (2, ((r0 : Nat) : Int))], h) = _
  exact g_inv (k := 0) (m' := 260) (np := 4) (as := [(2, ((r0 : Nat) : Int)), (0, x1), (0, x4), (0, 1)]) (by decide +kernel : decode (m_byt 280) 92 = .ok (.invokestatic 169, 3)) (Or.inr (Or.inr ⟨rfl, rfl, by decide, by decide⟩)) (by decide +kernel) (by decide +kernel) (by decide +kernel) (Nat.le_of_ble_eq_true rfl) rfl (Or.inl rfl)
theorem b_280_95 {Z : mZ} {l0 l1 l2 l3 l4 l6 : mV} {s0 x5 : Int} {h : mH} : m_run Z (280, 95, [l0, l1, l2, l3, l4, (0, x5), l6], [(0, s0)], h) = if w32 1000 < w32 s0 then m_run Z (280, 149, [l0, l1, l2, l3, l4, (0, x5), (0, s0)], [], h) else m_run Z (280, 105, [l0, l1, l2, l3, l4, (0, x5), (0, s0)], [], h) := by
  refine g_istore (k := 6) (by decide +kernel : decode (m_byt 280) 95 = .ok (.istore 6, 2)) (Nat.le_of_ble_eq_true rfl) ?_
  show m_run Z (280, 97, [l0, l1, l2, l3, l4, (0, x5), (0, s0)], [], h) = _
  refine g_iload (k := 6) (x := s0) (by decide +kernel : decode (m_byt 280) 97 = .ok (.iload 6, 2)) rfl ?_
  refine g_base (by decide +kernel : decode (m_byt 280) 99 = .ok (.sipush 1000, 3)) rfl rfl ?_
  show m_run Z (280, 102, [l0, l1, l2, l3, l4, (0, x5), (0, s0)], [(0, 1000), (0, s0)], h) = _
  exact g_brq (t := 149) (off := 47) (by decide +kernel : decode (m_byt 280) 102 = .ok (.if_icmp .gt 47, 3)) rfl rfl (by decide)
theorem b_280_105 {Z : mZ} {l3 l4 : mV} {x2 x1 x5 x6 : Int} {r0 : Nat} {h : mH} : m_run Z (280, 105, [(2, ((r0 : Nat) : Int)), (0, x1), (0, x2), l3, l4, (0, x5), (0, x6)], [], h) = (m_cl Z 258 [(2, ((r0 : Nat) : Int)), (0, x2), (0, x1), (0, x5), (0, x6), (0, 0)] h).bind (m_aft (m_run Z) 280 113 [(2, ((r0 : Nat) : Int)), (0, x1), (0, x2), l3, l4, (0, x5), (0, x6)] []) := by
  refine g_aload_n (k := 0) (v := (2, ((r0 : Nat) : Int))) (by decide +kernel : decode (m_byt 280) 105 = .ok (.aload_n 0, 1)) rfl (Or.inl rfl) ?_
  refine g_iload_n (k := 2) (x := x2) (by decide +kernel : decode (m_byt 280) 106 = .ok (.iload_n 2, 1)) rfl ?_
  refine g_iload_n (k := 1) (x := x1) (by decide +kernel : decode (m_byt 280) 107 = .ok (.iload_n 1, 1)) rfl ?_
  refine g_iload (k := 5) (x := x5) (by decide +kernel : decode (m_byt 280) 108 = .ok (.iload 5, 2)) rfl ?_
  refine g_iload (k := 6) (x := x6) (by decide +kernel : decode (m_byt 280) 110 = .ok (.iload 6, 2)) rfl ?_
  refine g_base (by decide +kernel : decode (m_byt 280) 112 = .ok (.iconst 0, 1)) rfl rfl ?_
  show m_run Z (280, 113, [(2, ((r0 : Nat) : Int)), (0, x1), (0, x2), l3, l4, (0, x5), (0, x6)], [(0, 0), (0, x6), (0, x5), (0, x1), (0, x2), (2, ((r0 : Nat) : Int))], h) = _
  exact g_inv (k := 0) (m' := 258) (np := 6) (as := [(2, ((r0 : Nat) : Int)), (0, x2), (0, x1), (0, x5), (0, x6), (0, 0)]) (by decide +kernel : decode (m_byt 280) 113 = .ok (.invokestatic 164, 3)) (Or.inr (Or.inr ⟨rfl, rfl, by decide, by decide⟩)) (by decide +kernel) (by decide +kernel) (by decide +kernel) (Nat.le_of_ble_eq_true rfl) rfl (Or.inl rfl)
theorem b_280_116 {Z : mZ} {l2 l3 l5 l6 : mV} {s0 x1 x4 : Int} {r0 : Nat} {h : mH} : m_run Z (280, 116, [(2, ((r0 : Nat) : Int)), (0, x1), l2, l3, (0, x4), l5, l6], [(0, s0)], h) = (m_cl Z 260 [(2, ((r0 : Nat) : Int)), (0, x1), (0, x4), (0, 2)] h).bind (m_aft (m_run Z) 280 121 [(2, ((r0 : Nat) : Int)), (0, x1), l2, l3, (0, x4), l5, l6] [(0, s0)]) := by
  refine g_aload_n (k := 0) (v := (2, ((r0 : Nat) : Int))) (by decide +kernel : decode (m_byt 280) 116 = .ok (.aload_n 0, 1)) rfl (Or.inl rfl) ?_
  refine g_iload_n (k := 1) (x := x1) (by decide +kernel : decode (m_byt 280) 117 = .ok (.iload_n 1, 1)) rfl ?_
  refine g_iload (k := 4) (x := x4) (by decide +kernel : decode (m_byt 280) 118 = .ok (.iload 4, 2)) rfl ?_
  refine g_base (by decide +kernel : decode (m_byt 280) 120 = .ok (.iconst 2, 1)) rfl rfl ?_
  show m_run Z (280, 121, [(2, ((r0 : Nat) : Int)), (0, x1), l2, l3, (0, x4), l5, l6], [(0, 2), (0, x4), (0, x1), (2, ((r0 : Nat) : Int)), (0, s0)], h) = _
  exact g_inv (k := 0) (m' := 260) (np := 4) (as := [(2, ((r0 : Nat) : Int)), (0, x1), (0, x4), (0, 2)]) (by decide +kernel : decode (m_byt 280) 121 = .ok (.invokestatic 169, 3)) (Or.inr (Or.inr ⟨rfl, rfl, by decide, by decide⟩)) (by decide +kernel) (by decide +kernel) (by decide +kernel) (Nat.le_of_ble_eq_true rfl) rfl (Or.inl rfl)
theorem b_280_124 {Z : mZ} {l0 l1 l2 l3 l4 l5 l6 : mV} {s0 s1 : Int} {h : mH} : m_run Z (280, 124, [l0, l1, l2, l3, l4, l5, l6], [(0, s0), (0, s1)], h) = if w32 s1 = w32 s0 then m_run Z (280, 127, [l0, l1, l2, l3, l4, l5, l6], [], h) else m_run Z (280, 153, [l0, l1, l2, l3, l4, l5, l6], [], h) := by
  exact g_brn (t := 153) (off := 29) (by decide +kernel : decode (m_byt 280) 124 = .ok (.if_icmp .ne 29, 3)) rfl rfl (by decide)
theorem b_280_127 {Z : mZ} {l3 l4 : mV} {x2 x1 x5 x6 : Int} {r0 : Nat} {h : mH} : m_run Z (280, 127, [(2, ((r0 : Nat) : Int)), (0, x1), (0, x2), l3, l4, (0, x5), (0, x6)], [], h) = (m_cl Z 258 [(2, ((r0 : Nat) : Int)), (0, x2), (0, x1), (0, x5), (0, x6), (0, 1)] h).bind (m_aft (m_run Z) 280 135 [(2, ((r0 : Nat) : Int)), (0, x1), (0, x2), l3, l4, (0, x5), (0, x6)] []) := by
  refine g_aload_n (k := 0) (v := (2, ((r0 : Nat) : Int))) (by decide +kernel : decode (m_byt 280) 127 = .ok (.aload_n 0, 1)) rfl (Or.inl rfl) ?_
  refine g_iload_n (k := 2) (x := x2) (by decide +kernel : decode (m_byt 280) 128 = .ok (.iload_n 2, 1)) rfl ?_
  refine g_iload_n (k := 1) (x := x1) (by decide +kernel : decode (m_byt 280) 129 = .ok (.iload_n 1, 1)) rfl ?_
  refine g_iload (k := 5) (x := x5) (by decide +kernel : decode (m_byt 280) 130 = .ok (.iload 5, 2)) rfl ?_
  refine g_iload (k := 6) (x := x6) (by decide +kernel : decode (m_byt 280) 132 = .ok (.iload 6, 2)) rfl ?_
  refine g_base (by decide +kernel : decode (m_byt 280) 134 = .ok (.iconst 1, 1)) rfl rfl ?_
  show m_run Z (280, 135, [(2, ((r0 : Nat) : Int)), (0, x1), (0, x2), l3, l4, (0, x5), (0, x6)], [(0, 1), (0, x6), (0, x5), (0, x1), (0, x2), (2, ((r0 : Nat) : Int))], h) = _
  exact g_inv (k := 0) (m' := 258) (np := 6) (as := [(2, ((r0 : Nat) : Int)), (0, x2), (0, x1), (0, x5), (0, x6), (0, 1)]) (by decide +kernel : decode (m_byt 280) 135 = .ok (.invokestatic 164, 3)) (Or.inr (Or.inr ⟨rfl, rfl, by decide, by decide⟩)) (by decide +kernel) (by decide +kernel) (by decide +kernel) (Nat.le_of_ble_eq_true rfl) rfl (Or.inl rfl)
theorem b_280_138 {Z : mZ} {l2 l3 l5 l6 : mV} {s0 x1 x4 : Int} {r0 : Nat} {h : mH} : m_run Z (280, 138, [(2, ((r0 : Nat) : Int)), (0, x1), l2, l3, (0, x4), l5, l6], [(0, s0)], h) = (m_cl Z 260 [(2, ((r0 : Nat) : Int)), (0, x1), (0, x4), (0, 3)] h).bind (m_aft (m_run Z) 280 143 [(2, ((r0 : Nat) : Int)), (0, x1), l2, l3, (0, x4), l5, l6] [(0, s0)]) := by
  refine g_aload_n (k := 0) (v := (2, ((r0 : Nat) : Int))) (by decide +kernel : decode (m_byt 280) 138 = .ok (.aload_n 0, 1)) rfl (Or.inl rfl) ?_
  refine g_iload_n (k := 1) (x := x1) (by decide +kernel : decode (m_byt 280) 139 = .ok (.iload_n 1, 1)) rfl ?_
  refine g_iload (k := 4) (x := x4) (by decide +kernel : decode (m_byt 280) 140 = .ok (.iload 4, 2)) rfl ?_
  refine g_base (by decide +kernel : decode (m_byt 280) 142 = .ok (.iconst 3, 1)) rfl rfl ?_
  show m_run Z (280, 143, [(2, ((r0 : Nat) : Int)), (0, x1), l2, l3, (0, x4), l5, l6], [(0, 3), (0, x4), (0, x1), (2, ((r0 : Nat) : Int)), (0, s0)], h) = _
  exact g_inv (k := 0) (m' := 260) (np := 4) (as := [(2, ((r0 : Nat) : Int)), (0, x1), (0, x4), (0, 3)]) (by decide +kernel : decode (m_byt 280) 143 = .ok (.invokestatic 169, 3)) (Or.inr (Or.inr ⟨rfl, rfl, by decide, by decide⟩)) (by decide +kernel) (by decide +kernel) (by decide +kernel) (Nat.le_of_ble_eq_true rfl) rfl (Or.inl rfl)
theorem b_280_146 {Z : mZ} {l0 l1 l2 l3 l4 l5 l6 : mV} {s0 s1 : Int} {h : mH} : m_run Z (280, 146, [l0, l1, l2, l3, l4, l5, l6], [(0, s0), (0, s1)], h) = if w32 s1 = w32 s0 then m_run Z (280, 149, [l0, l1, l2, l3, l4, l5, l6], [], h) else m_run Z (280, 153, [l0, l1, l2, l3, l4, l5, l6], [], h) := by
  exact g_brn (t := 153) (off := 7) (by decide +kernel : decode (m_byt 280) 146 = .ok (.if_icmp .ne 7, 3)) rfl rfl (by decide)
theorem b_280_149 {Z : mZ} {l0 l1 l3 l4 l5 l6 : mV} {x2 : Int} {h : mH} : m_run Z (280, 149, [l0, l1, (0, x2), l3, l4, l5, l6], [], h) = if w32 1 = 0 then m_run Z (280, 202, [l0, l1, (0, x2), (0, 1), l4, l5, l6], [], h) else m_run Z (280, 159, [l0, l1, (0, x2), (0, 1), l4, l5, l6], [], h) := by
  refine g_base (by decide +kernel : decode (m_byt 280) 149 = .ok (.iconst 1, 1)) rfl rfl ?_
  show m_run Z (280, 150, [l0, l1, (0, x2), l3, l4, l5, l6], [(0, 1)], h) = _
  refine g_jmp (t := 154) (by decide +kernel : decode (m_byt 280) 150 = .ok (.goto 4, 3)) (by decide) ?_
  refine g_istore_n (k := 3) (by decide +kernel : decode (m_byt 280) 154 = .ok (.istore_n 3, 1)) (Nat.le_of_ble_eq_true rfl) ?_
  show m_run Z (280, 155, [l0, l1, (0, x2), (0, 1), l4, l5, l6], [], h) = _
  refine g_iload_n (k := 3) (x := 1) (by decide +kernel : decode (m_byt 280) 155 = .ok (.iload_n 3, 1)) rfl ?_
  exact g_brq (t := 202) (off := 46) (by decide +kernel : decode (m_byt 280) 156 = .ok (.ifCond .eq 46, 3)) rfl rfl (by decide)
theorem b_280_153 {Z : mZ} {l0 l1 l2 l3 l4 l5 l6 : mV} {h : mH} : m_run Z (280, 153, [l0, l1, l2, l3, l4, l5, l6], [], h) = m_run Z (280, 154, [l0, l1, l2, l3, l4, l5, l6], [(0, 0)], h) := by
  refine g_base (by decide +kernel : decode (m_byt 280) 153 = .ok (.iconst 0, 1)) rfl rfl ?_
  show m_run Z (280, 154, [l0, l1, l2, l3, l4, l5, l6], [(0, 0)], h) = _
  rfl
theorem b_280_154 {Z : mZ} {l0 l1 l3 l4 l5 l6 : mV} {s0 x2 : Int} {h : mH} : m_run Z (280, 154, [l0, l1, (0, x2), l3, l4, l5, l6], [(0, s0)], h) = if w32 s0 = 0 then m_run Z (280, 202, [l0, l1, (0, x2), (0, s0), l4, l5, l6], [], h) else m_run Z (280, 159, [l0, l1, (0, x2), (0, s0), l4, l5, l6], [], h) := by
  refine g_istore_n (k := 3) (by decide +kernel : decode (m_byt 280) 154 = .ok (.istore_n 3, 1)) (Nat.le_of_ble_eq_true rfl) ?_
  show m_run Z (280, 155, [l0, l1, (0, x2), (0, s0), l4, l5, l6], [], h) = _
  refine g_iload_n (k := 3) (x := s0) (by decide +kernel : decode (m_byt 280) 155 = .ok (.iload_n 3, 1)) rfl ?_
  exact g_brq (t := 202) (off := 46) (by decide +kernel : decode (m_byt 280) 156 = .ok (.ifCond .eq 46, 3)) rfl rfl (by decide)
theorem b_280_159 {Z : mZ} {l0 l1 l2 l3 l5 l6 : mV} {x4 : Int} {h : mH} : m_run Z (280, 159, [l0, l1, l2, l3, (0, x4), l5, l6], [], h) = if w32 x4 = 0 then m_run Z (280, 198, [l0, l1, l2, l3, (0, x4), l5, l6], [], h) else m_run Z (280, 164, [l0, l1, l2, l3, (0, x4), l5, l6], [], h) := by
  refine g_iload (k := 4) (x := x4) (by decide +kernel : decode (m_byt 280) 159 = .ok (.iload 4, 2)) rfl ?_
  exact g_brq (t := 198) (off := 37) (by decide +kernel : decode (m_byt 280) 161 = .ok (.ifCond .eq 37, 3)) rfl rfl (by decide)
theorem b_280_164 {Z : mZ} {l2 l3 l5 l6 : mV} {x1 x4 : Int} {r0 : Nat} {h : mH} : m_run Z (280, 164, [(2, ((r0 : Nat) : Int)), (0, x1), l2, l3, (0, x4), l5, l6], [], h) = (m_cl Z 260 [(2, ((r0 : Nat) : Int)), (0, x1), (0, (x4 - 1)), (0, 0)] h).bind (m_aft (m_run Z) 280 171 [(2, ((r0 : Nat) : Int)), (0, x1), l2, l3, (0, x4), l5, l6] []) := by
  refine g_aload_n (k := 0) (v := (2, ((r0 : Nat) : Int))) (by decide +kernel : decode (m_byt 280) 164 = .ok (.aload_n 0, 1)) rfl (Or.inl rfl) ?_
  refine g_iload_n (k := 1) (x := x1) (by decide +kernel : decode (m_byt 280) 165 = .ok (.iload_n 1, 1)) rfl ?_
  refine g_iload (k := 4) (x := x4) (by decide +kernel : decode (m_byt 280) 166 = .ok (.iload 4, 2)) rfl ?_
  refine g_base (by decide +kernel : decode (m_byt 280) 168 = .ok (.iconst 1, 1)) rfl rfl ?_
  show m_run Z (280, 169, [(2, ((r0 : Nat) : Int)), (0, x1), l2, l3, (0, x4), l5, l6], [(0, 1), (0, x4), (0, x1), (2, ((r0 : Nat) : Int))], h) = _
  refine g_base (by decide +kernel : decode (m_byt 280) 169 = .ok (.isub, 1)) rfl rfl ?_
  show m_run Z (280, 170, [(2, ((r0 : Nat) : Int)), (0, x1), l2, l3, (0, x4), l5, l6], [(0, (x4 - 1)), (0, x1), (2, ((r0 : Nat) : Int))], h) = _
  refine g_base (by decide +kernel : decode (m_byt 280) 170 = .ok (.iconst 0, 1)) rfl rfl ?_
  show m_run Z (280, 171, [(2, ((r0 : Nat) : Int)), (0, x1), l2, l3, (0, x4), l5, l6], [(0, 0), (0, (x4 - 1)), (0, x1), (2, ((r0 : Nat) : Int))], h) = _
  exact g_inv (k := 0) (m' := 260) (np := 4) (as := [(2, ((r0 : Nat) : Int)), (0, x1), (0, (x4 - 1)), (0, 0)]) (by decide +kernel : decode (m_byt 280) 171 = .ok (.invokestatic 169, 3)) (Or.inr (Or.inr ⟨rfl, rfl, by decide, by decide⟩)) (by decide +kernel) (by decide +kernel) (by decide +kernel) (Nat.le_of_ble_eq_true rfl) rfl (Or.inl rfl)
theorem b_280_174 {Z : mZ} {l2 l3 : mV} {s0 x6 x5 x1 x4 : Int} {r0 : Nat} {h : mH} : m_run Z (280, 174, [(2, ((r0 : Nat) : Int)), (0, x1), l2, l3, (0, x4), (0, x5), (0, x6)], [(0, s0)], h) = (m_cl Z 260 [(2, ((r0 : Nat) : Int)), (0, x1), (0, (x4 - 1)), (0, 1)] h).bind (m_aft (m_run Z) 280 189 [(2, ((r0 : Nat) : Int)), (0, x1), l2, l3, (0, x4), (0, x5), (0, x6)] [(1, (w32 x5)), (1, ((w32 s0) * (w32 x6)))]) := by
  refine g_base (by decide +kernel : decode (m_byt 280) 174 = .ok (.i2l, 1)) rfl rfl ?_
  show m_run Z (280, 175, [(2, ((r0 : Nat) : Int)), (0, x1), l2, l3, (0, x4), (0, x5), (0, x6)], [(1, (w32 s0))], h) = _
  refine g_iload (k := 6) (x := x6) (by decide +kernel : decode (m_byt 280) 175 = .ok (.iload 6, 2)) rfl ?_
  refine g_base (by decide +kernel : decode (m_byt 280) 177 = .ok (.i2l, 1)) rfl rfl ?_
  show m_run Z (280, 178, [(2, ((r0 : Nat) : Int)), (0, x1), l2, l3, (0, x4), (0, x5), (0, x6)], [(1, (w32 x6)), (1, (w32 s0))], h) = _
  refine g_base (by decide +kernel : decode (m_byt 280) 178 = .ok (.lmul, 1)) rfl rfl ?_
  show m_run Z (280, 179, [(2, ((r0 : Nat) : Int)), (0, x1), l2, l3, (0, x4), (0, x5), (0, x6)], [(1, ((w32 s0) * (w32 x6)))], h) = _
  refine g_iload (k := 5) (x := x5) (by decide +kernel : decode (m_byt 280) 179 = .ok (.iload 5, 2)) rfl ?_
  refine g_base (by decide +kernel : decode (m_byt 280) 181 = .ok (.i2l, 1)) rfl rfl ?_
  show m_run Z (280, 182, [(2, ((r0 : Nat) : Int)), (0, x1), l2, l3, (0, x4), (0, x5), (0, x6)], [(1, (w32 x5)), (1, ((w32 s0) * (w32 x6)))], h) = _
  refine g_aload_n (k := 0) (v := (2, ((r0 : Nat) : Int))) (by decide +kernel : decode (m_byt 280) 182 = .ok (.aload_n 0, 1)) rfl (Or.inl rfl) ?_
  refine g_iload_n (k := 1) (x := x1) (by decide +kernel : decode (m_byt 280) 183 = .ok (.iload_n 1, 1)) rfl ?_
  refine g_iload (k := 4) (x := x4) (by decide +kernel : decode (m_byt 280) 184 = .ok (.iload 4, 2)) rfl ?_
  refine g_base (by decide +kernel : decode (m_byt 280) 186 = .ok (.iconst 1, 1)) rfl rfl ?_
  show m_run Z (280, 187, [(2, ((r0 : Nat) : Int)), (0, x1), l2, l3, (0, x4), (0, x5), (0, x6)], [(0, 1), (0, x4), (0, x1), (2, ((r0 : Nat) : Int)), (1, (w32 x5)), (1, ((w32 s0) * (w32 x6)))], h) = _
  refine g_base (by decide +kernel : decode (m_byt 280) 187 = .ok (.isub, 1)) rfl rfl ?_
  show m_run Z (280, 188, [(2, ((r0 : Nat) : Int)), (0, x1), l2, l3, (0, x4), (0, x5), (0, x6)], [(0, (x4 - 1)), (0, x1), (2, ((r0 : Nat) : Int)), (1, (w32 x5)), (1, ((w32 s0) * (w32 x6)))], h) = _
  refine g_base (by decide +kernel : decode (m_byt 280) 188 = .ok (.iconst 1, 1)) rfl rfl ?_
  show m_run Z (280, 189, [(2, ((r0 : Nat) : Int)), (0, x1), l2, l3, (0, x4), (0, x5), (0, x6)], [(0, 1), (0, (x4 - 1)), (0, x1), (2, ((r0 : Nat) : Int)), (1, (w32 x5)), (1, ((w32 s0) * (w32 x6)))], h) = _
  exact g_inv (k := 0) (m' := 260) (np := 4) (as := [(2, ((r0 : Nat) : Int)), (0, x1), (0, (x4 - 1)), (0, 1)]) (by decide +kernel : decode (m_byt 280) 189 = .ok (.invokestatic 169, 3)) (Or.inr (Or.inr ⟨rfl, rfl, by decide, by decide⟩)) (by decide +kernel) (by decide +kernel) (by decide +kernel) (Nat.le_of_ble_eq_true rfl) rfl (Or.inl rfl)
theorem b_280_192 {Z : mZ} {l0 l1 l2 l3 l4 l5 l6 : mV} {s0 s1 s2 : Int} {h : mH} : m_run Z (280, 192, [l0, l1, l2, l3, l4, l5, l6], [(0, s0), (1, s1), (1, s2)], h) = if 0 ≤ w32 (l_cmp s2 (s1 * (w32 s0))) then m_run Z (280, 202, [l0, l1, l2, l3, l4, l5, l6], [], h) else m_run Z (280, 198, [l0, l1, l2, l3, l4, l5, l6], [], h) := by
  refine g_base (by decide +kernel : decode (m_byt 280) 192 = .ok (.i2l, 1)) rfl rfl ?_
  show m_run Z (280, 193, [l0, l1, l2, l3, l4, l5, l6], [(1, (w32 s0)), (1, s1), (1, s2)], h) = _
  refine g_base (by decide +kernel : decode (m_byt 280) 193 = .ok (.lmul, 1)) rfl rfl ?_
  show m_run Z (280, 194, [l0, l1, l2, l3, l4, l5, l6], [(1, (s1 * (w32 s0))), (1, s2)], h) = _
  refine g_base (by decide +kernel : decode (m_byt 280) 194 = .ok (.lcmp, 1)) rfl rfl ?_
  show m_run Z (280, 195, [l0, l1, l2, l3, l4, l5, l6], [(0, (l_cmp s2 (s1 * (w32 s0))))], h) = _
  exact g_brq (t := 202) (off := 7) (by decide +kernel : decode (m_byt 280) 195 = .ok (.ifCond .ge 7, 3)) rfl rfl (by decide)
theorem b_280_198 {Z : mZ} {l0 l1 l3 l5 l6 : mV} {x2 x4 : Int} {h : mH} : m_run Z (280, 198, [l0, l1, (0, x2), l3, (0, x4), l5, l6], [], h) = m_run Z (280, 61, [l0, l1, (0, x2), (0, 1), (0, x4 + 1), l5, l6], [], h) := by
  refine g_base (by decide +kernel : decode (m_byt 280) 198 = .ok (.iconst 1, 1)) rfl rfl ?_
  show m_run Z (280, 199, [l0, l1, (0, x2), l3, (0, x4), l5, l6], [(0, 1)], h) = _
  refine g_jmp (t := 203) (by decide +kernel : decode (m_byt 280) 199 = .ok (.goto 4, 3)) (by decide) ?_
  refine g_istore_n (k := 3) (by decide +kernel : decode (m_byt 280) 203 = .ok (.istore_n 3, 1)) (Nat.le_of_ble_eq_true rfl) ?_
  show m_run Z (280, 204, [l0, l1, (0, x2), (0, 1), (0, x4), l5, l6], [], h) = _
  refine g_iinc (k := 4) (x := x4) (by decide +kernel : decode (m_byt 280) 204 = .ok (.iinc 4 1, 3)) rfl (Nat.le_of_ble_eq_true rfl) ?_
  show m_run Z (280, 207, [l0, l1, (0, x2), (0, 1), (0, x4 + 1), l5, l6], [], h) = _
  refine g_jmp (t := 61) (by decide +kernel : decode (m_byt 280) 207 = .ok (.goto (-146), 3)) (by decide) ?_
  rfl
theorem b_280_202 {Z : mZ} {l0 l1 l2 l3 l4 l5 l6 : mV} {h : mH} : m_run Z (280, 202, [l0, l1, l2, l3, l4, l5, l6], [], h) = m_run Z (280, 203, [l0, l1, l2, l3, l4, l5, l6], [(0, 0)], h) := by
  refine g_base (by decide +kernel : decode (m_byt 280) 202 = .ok (.iconst 0, 1)) rfl rfl ?_
  show m_run Z (280, 203, [l0, l1, l2, l3, l4, l5, l6], [(0, 0)], h) = _
  rfl
theorem b_280_203 {Z : mZ} {l0 l1 l3 l5 l6 : mV} {s0 x2 x4 : Int} {h : mH} : m_run Z (280, 203, [l0, l1, (0, x2), l3, (0, x4), l5, l6], [(0, s0)], h) = m_run Z (280, 61, [l0, l1, (0, x2), (0, s0), (0, x4 + 1), l5, l6], [], h) := by
  refine g_istore_n (k := 3) (by decide +kernel : decode (m_byt 280) 203 = .ok (.istore_n 3, 1)) (Nat.le_of_ble_eq_true rfl) ?_
  show m_run Z (280, 204, [l0, l1, (0, x2), (0, s0), (0, x4), l5, l6], [], h) = _
  refine g_iinc (k := 4) (x := x4) (by decide +kernel : decode (m_byt 280) 204 = .ok (.iinc 4 1, 3)) rfl (Nat.le_of_ble_eq_true rfl) ?_
  show m_run Z (280, 207, [l0, l1, (0, x2), (0, s0), (0, x4 + 1), l5, l6], [], h) = _
  refine g_jmp (t := 61) (by decide +kernel : decode (m_byt 280) 207 = .ok (.goto (-146), 3)) (by decide) ?_
  rfl
theorem b_280_210 {Z : mZ} {l0 l1 l2 l4 l5 l6 : mV} {x3 : Int} {h : mH} : m_run Z (280, 210, [l0, l1, l2, (0, x3), l4, l5, l6], [], h) = if w32 x3 = 0 then m_run Z (280, 269, [l0, l1, l2, (0, x3), l4, l5, l6], [], h) else m_run Z (280, 214, [l0, l1, l2, (0, x3), l4, l5, l6], [], h) := by
  refine g_iload_n (k := 3) (x := x3) (by decide +kernel : decode (m_byt 280) 210 = .ok (.iload_n 3, 1)) rfl ?_
  exact g_brq (t := 269) (off := 58) (by decide +kernel : decode (m_byt 280) 211 = .ok (.ifCond .eq 58, 3)) rfl rfl (by decide)
theorem b_280_214 {Z : mZ} {l0 l1 l2 l3 l5 l6 : mV} {x4 : Int} {h : mH} : m_run Z (280, 214, [l0, l1, l2, l3, (0, x4), l5, l6], [], h) = if w32 x4 ≤ w32 1 then m_run Z (280, 269, [l0, l1, l2, l3, (0, x4), l5, l6], [], h) else m_run Z (280, 220, [l0, l1, l2, l3, (0, x4), l5, l6], [], h) := by
  refine g_iload (k := 4) (x := x4) (by decide +kernel : decode (m_byt 280) 214 = .ok (.iload 4, 2)) rfl ?_
  refine g_base (by decide +kernel : decode (m_byt 280) 216 = .ok (.iconst 1, 1)) rfl rfl ?_
  show m_run Z (280, 217, [l0, l1, l2, l3, (0, x4), l5, l6], [(0, 1), (0, x4)], h) = _
  exact g_brq (t := 269) (off := 52) (by decide +kernel : decode (m_byt 280) 217 = .ok (.if_icmp .le 52, 3)) rfl rfl (by decide)
theorem b_280_220 {Z : mZ} {l2 l3 l5 l6 : mV} {x1 x4 : Int} {r0 : Nat} {h : mH} : m_run Z (280, 220, [(2, ((r0 : Nat) : Int)), (0, x1), l2, l3, (0, x4), l5, l6], [], h) = (m_cl Z 260 [(2, ((r0 : Nat) : Int)), (0, x1), (0, (x4 - 1)), (0, 0)] h).bind (m_aft (m_run Z) 280 227 [(2, ((r0 : Nat) : Int)), (0, x1), l2, l3, (0, x4), l5, l6] []) := by
  refine g_aload_n (k := 0) (v := (2, ((r0 : Nat) : Int))) (by decide +kernel : decode (m_byt 280) 220 = .ok (.aload_n 0, 1)) rfl (Or.inl rfl) ?_
  refine g_iload_n (k := 1) (x := x1) (by decide +kernel : decode (m_byt 280) 221 = .ok (.iload_n 1, 1)) rfl ?_
  refine g_iload (k := 4) (x := x4) (by decide +kernel : decode (m_byt 280) 222 = .ok (.iload 4, 2)) rfl ?_
  refine g_base (by decide +kernel : decode (m_byt 280) 224 = .ok (.iconst 1, 1)) rfl rfl ?_
  show m_run Z (280, 225, [(2, ((r0 : Nat) : Int)), (0, x1), l2, l3, (0, x4), l5, l6], [(0, 1), (0, x4), (0, x1), (2, ((r0 : Nat) : Int))], h) = _
  refine g_base (by decide +kernel : decode (m_byt 280) 225 = .ok (.isub, 1)) rfl rfl ?_
  show m_run Z (280, 226, [(2, ((r0 : Nat) : Int)), (0, x1), l2, l3, (0, x4), l5, l6], [(0, (x4 - 1)), (0, x1), (2, ((r0 : Nat) : Int))], h) = _
  refine g_base (by decide +kernel : decode (m_byt 280) 226 = .ok (.iconst 0, 1)) rfl rfl ?_
  show m_run Z (280, 227, [(2, ((r0 : Nat) : Int)), (0, x1), l2, l3, (0, x4), l5, l6], [(0, 0), (0, (x4 - 1)), (0, x1), (2, ((r0 : Nat) : Int))], h) = _
  exact g_inv (k := 0) (m' := 260) (np := 4) (as := [(2, ((r0 : Nat) : Int)), (0, x1), (0, (x4 - 1)), (0, 0)]) (by decide +kernel : decode (m_byt 280) 227 = .ok (.invokestatic 169, 3)) (Or.inr (Or.inr ⟨rfl, rfl, by decide, by decide⟩)) (by decide +kernel) (by decide +kernel) (by decide +kernel) (Nat.le_of_ble_eq_true rfl) rfl (Or.inl rfl)
theorem b_280_230 {Z : mZ} {l2 l3 l4 l5 l6 : mV} {s0 x1 : Int} {r0 : Nat} {h : mH} : m_run Z (280, 230, [(2, ((r0 : Nat) : Int)), (0, x1), l2, l3, l4, l5, l6], [(0, s0)], h) = (m_cl Z 251 [(2, ((r0 : Nat) : Int)), (0, x1), (0, 2)] h).bind (m_aft (m_run Z) 280 233 [(2, ((r0 : Nat) : Int)), (0, x1), l2, l3, l4, l5, l6] [(0, s0)]) := by
  refine g_aload_n (k := 0) (v := (2, ((r0 : Nat) : Int))) (by decide +kernel : decode (m_byt 280) 230 = .ok (.aload_n 0, 1)) rfl (Or.inl rfl) ?_
  refine g_iload_n (k := 1) (x := x1) (by decide +kernel : decode (m_byt 280) 231 = .ok (.iload_n 1, 1)) rfl ?_
  refine g_base (by decide +kernel : decode (m_byt 280) 232 = .ok (.iconst 2, 1)) rfl rfl ?_
  show m_run Z (280, 233, [(2, ((r0 : Nat) : Int)), (0, x1), l2, l3, l4, l5, l6], [(0, 2), (0, x1), (2, ((r0 : Nat) : Int)), (0, s0)], h) = _
  exact g_inv (k := 0) (m' := 251) (np := 3) (as := [(2, ((r0 : Nat) : Int)), (0, x1), (0, 2)]) (by decide +kernel : decode (m_byt 280) 233 = .ok (.invokestatic 151, 3)) (Or.inr (Or.inr ⟨rfl, rfl, by decide, by decide⟩)) (by decide +kernel) (by decide +kernel) (by decide +kernel) (Nat.le_of_ble_eq_true rfl) rfl (Or.inl rfl)
theorem b_280_236 {Z : mZ} {l0 l1 l2 l3 l4 l5 l6 : mV} {s0 s1 : Int} {h : mH} : m_run Z (280, 236, [l0, l1, l2, l3, l4, l5, l6], [(0, s0), (0, s1)], h) = if w32 s1 = w32 s0 then m_run Z (280, 239, [l0, l1, l2, l3, l4, l5, l6], [], h) else m_run Z (280, 269, [l0, l1, l2, l3, l4, l5, l6], [], h) := by
  exact g_brn (t := 269) (off := 33) (by decide +kernel : decode (m_byt 280) 236 = .ok (.if_icmp .ne 33, 3)) rfl rfl (by decide)
theorem b_280_239 {Z : mZ} {l2 l3 l5 l6 : mV} {x1 x4 : Int} {r0 : Nat} {h : mH} : m_run Z (280, 239, [(2, ((r0 : Nat) : Int)), (0, x1), l2, l3, (0, x4), l5, l6], [], h) = (m_cl Z 260 [(2, ((r0 : Nat) : Int)), (0, x1), (0, (x4 - 1)), (0, 1)] h).bind (m_aft (m_run Z) 280 246 [(2, ((r0 : Nat) : Int)), (0, x1), l2, l3, (0, x4), l5, l6] []) := by
  refine g_aload_n (k := 0) (v := (2, ((r0 : Nat) : Int))) (by decide +kernel : decode (m_byt 280) 239 = .ok (.aload_n 0, 1)) rfl (Or.inl rfl) ?_
  refine g_iload_n (k := 1) (x := x1) (by decide +kernel : decode (m_byt 280) 240 = .ok (.iload_n 1, 1)) rfl ?_
  refine g_iload (k := 4) (x := x4) (by decide +kernel : decode (m_byt 280) 241 = .ok (.iload 4, 2)) rfl ?_
  refine g_base (by decide +kernel : decode (m_byt 280) 243 = .ok (.iconst 1, 1)) rfl rfl ?_
  show m_run Z (280, 244, [(2, ((r0 : Nat) : Int)), (0, x1), l2, l3, (0, x4), l5, l6], [(0, 1), (0, x4), (0, x1), (2, ((r0 : Nat) : Int))], h) = _
  refine g_base (by decide +kernel : decode (m_byt 280) 244 = .ok (.isub, 1)) rfl rfl ?_
  show m_run Z (280, 245, [(2, ((r0 : Nat) : Int)), (0, x1), l2, l3, (0, x4), l5, l6], [(0, (x4 - 1)), (0, x1), (2, ((r0 : Nat) : Int))], h) = _
  refine g_base (by decide +kernel : decode (m_byt 280) 245 = .ok (.iconst 1, 1)) rfl rfl ?_
  show m_run Z (280, 246, [(2, ((r0 : Nat) : Int)), (0, x1), l2, l3, (0, x4), l5, l6], [(0, 1), (0, (x4 - 1)), (0, x1), (2, ((r0 : Nat) : Int))], h) = _
  exact g_inv (k := 0) (m' := 260) (np := 4) (as := [(2, ((r0 : Nat) : Int)), (0, x1), (0, (x4 - 1)), (0, 1)]) (by decide +kernel : decode (m_byt 280) 246 = .ok (.invokestatic 169, 3)) (Or.inr (Or.inr ⟨rfl, rfl, by decide, by decide⟩)) (by decide +kernel) (by decide +kernel) (by decide +kernel) (Nat.le_of_ble_eq_true rfl) rfl (Or.inl rfl)
theorem b_280_249 {Z : mZ} {l0 l1 l2 l3 l4 l5 l6 : mV} {s0 : Int} {h : mH} : m_run Z (280, 249, [l0, l1, l2, l3, l4, l5, l6], [(0, s0)], h) = if w32 s0 = w32 1 then m_run Z (280, 253, [l0, l1, l2, l3, l4, l5, l6], [], h) else m_run Z (280, 269, [l0, l1, l2, l3, l4, l5, l6], [], h) := by
  refine g_base (by decide +kernel : decode (m_byt 280) 249 = .ok (.iconst 1, 1)) rfl rfl ?_
  show m_run Z (280, 250, [l0, l1, l2, l3, l4, l5, l6], [(0, 1), (0, s0)], h) = _
  exact g_brn (t := 269) (off := 19) (by decide +kernel : decode (m_byt 280) 250 = .ok (.if_icmp .ne 19, 3)) rfl rfl (by decide)
theorem b_280_253 {Z : mZ} {l2 l3 l5 l6 : mV} {x1 x4 : Int} {r0 : Nat} {h : mH} : m_run Z (280, 253, [(2, ((r0 : Nat) : Int)), (0, x1), l2, l3, (0, x4), l5, l6], [], h) = (m_cl Z 260 [(2, ((r0 : Nat) : Int)), (0, x1), (0, x4), (0, 3)] h).bind (m_aft (m_run Z) 280 258 [(2, ((r0 : Nat) : Int)), (0, x1), l2, l3, (0, x4), l5, l6] []) := by
  refine g_aload_n (k := 0) (v := (2, ((r0 : Nat) : Int))) (by decide +kernel : decode (m_byt 280) 253 = .ok (.aload_n 0, 1)) rfl (Or.inl rfl) ?_
  refine g_iload_n (k := 1) (x := x1) (by decide +kernel : decode (m_byt 280) 254 = .ok (.iload_n 1, 1)) rfl ?_
  refine g_iload (k := 4) (x := x4) (by decide +kernel : decode (m_byt 280) 255 = .ok (.iload 4, 2)) rfl ?_
  refine g_base (by decide +kernel : decode (m_byt 280) 257 = .ok (.iconst 3, 1)) rfl rfl ?_
  show m_run Z (280, 258, [(2, ((r0 : Nat) : Int)), (0, x1), l2, l3, (0, x4), l5, l6], [(0, 3), (0, x4), (0, x1), (2, ((r0 : Nat) : Int))], h) = _
  exact g_inv (k := 0) (m' := 260) (np := 4) (as := [(2, ((r0 : Nat) : Int)), (0, x1), (0, x4), (0, 3)]) (by decide +kernel : decode (m_byt 280) 258 = .ok (.invokestatic 169, 3)) (Or.inr (Or.inr ⟨rfl, rfl, by decide, by decide⟩)) (by decide +kernel) (by decide +kernel) (by decide +kernel) (Nat.le_of_ble_eq_true rfl) rfl (Or.inl rfl)
theorem b_280_261 {Z : mZ} {l0 l1 l2 l3 l4 l5 l6 : mV} {s0 : Int} {h : mH} : m_run Z (280, 261, [l0, l1, l2, l3, l4, l5, l6], [(0, s0)], h) = if w32 s0 = w32 (-1) then m_run Z (280, 265, [l0, l1, l2, l3, l4, l5, l6], [], h) else m_run Z (280, 269, [l0, l1, l2, l3, l4, l5, l6], [], h) := by
  refine g_base (by decide +kernel : decode (m_byt 280) 261 = .ok (.iconst (-1), 1)) rfl rfl ?_
  show m_run Z (280, 262, [l0, l1, l2, l3, l4, l5, l6], [(0, (-1)), (0, s0)], h) = _
  exact g_brn (t := 269) (off := 7) (by decide +kernel : decode (m_byt 280) 262 = .ok (.if_icmp .ne 7, 3)) rfl rfl (by decide)
theorem b_280_265 {Z : mZ} {l0 l1 l2 l3 l4 l5 l6 : mV} {h : mH} : m_run Z (280, 265, [l0, l1, l2, l3, l4, l5, l6], [], h) = some (.inl (0, 1), h) := by
  refine g_base (by decide +kernel : decode (m_byt 280) 265 = .ok (.iconst 1, 1)) rfl rfl ?_
  show m_run Z (280, 266, [l0, l1, l2, l3, l4, l5, l6], [(0, 1)], h) = _
  refine g_jmp (t := 270) (by decide +kernel : decode (m_byt 280) 266 = .ok (.goto 4, 3)) (by decide) ?_
  exact g_zret (by decide +kernel : decode (m_byt 280) 270 = .ok (.ireturn, 1)) (by decide +kernel) (by decide)
theorem b_280_269 {Z : mZ} {l0 l1 l2 l3 l4 l5 l6 : mV} {h : mH} : m_run Z (280, 269, [l0, l1, l2, l3, l4, l5, l6], [], h) = m_run Z (280, 270, [l0, l1, l2, l3, l4, l5, l6], [(0, 0)], h) := by
  refine g_base (by decide +kernel : decode (m_byt 280) 269 = .ok (.iconst 0, 1)) rfl rfl ?_
  show m_run Z (280, 270, [l0, l1, l2, l3, l4, l5, l6], [(0, 0)], h) = _
  rfl
theorem b_280_270 {Z : mZ} {l0 l1 l2 l3 l4 l5 l6 : mV} {s0 : Int} {h : mH} (h0 : w32 s0 = 0 ∨ w32 s0 = 1) : m_run Z (280, 270, [l0, l1, l2, l3, l4, l5, l6], [(0, s0)], h) = some (.inl (0, s0), h) := by
  exact g_zret (by decide +kernel : decode (m_byt 280) 270 = .ok (.ireturn, 1)) (by decide +kernel) h0
theorem e_281 {Z : mZ} {r0 : Nat} {x1 : Int} {h : mH} : m_cl Z 281 [(2, ((r0 : Nat) : Int)), (0, x1)] h = m_run Z (281, 0, [(2, ((r0 : Nat) : Int)), (0, x1), (9, 0), (9, 0), (9, 0), (9, 0), (9, 0), (9, 0)], [], h) := g_ent (k := 8) (by decide) (by decide +kernel) (Nat.le_of_ble_eq_true rfl) (by decide +kernel) rfl
theorem b_281_0 {Z : mZ} {l1 l2 l3 l4 l5 l6 l7 : mV} {r0 : Nat} {h : mH} : m_run Z (281, 0, [(2, ((r0 : Nat) : Int)), l1, l2, l3, l4, l5, l6, l7], [], h) = (m_cl Z 273 [(2, ((r0 : Nat) : Int))] h).bind (m_aft (m_run Z) 281 1 [(2, ((r0 : Nat) : Int)), l1, l2, l3, l4, l5, l6, l7] []) := by
  refine g_aload_n (k := 0) (v := (2, ((r0 : Nat) : Int))) (by decide +kernel : decode (m_byt 281) 0 = .ok (.aload_n 0, 1)) rfl (Or.inl rfl) ?_
  exact g_inv (k := 0) (m' := 273) (np := 1) (as := [(2, ((r0 : Nat) : Int))]) (by decide +kernel : decode (m_byt 281) 1 = .ok (.invokestatic 131, 3)) (Or.inr (Or.inr ⟨rfl, rfl, by decide, by decide⟩)) (by decide +kernel) (by decide +kernel) (by decide +kernel) (Nat.le_of_ble_eq_true rfl) rfl (Or.inl rfl)
theorem b_281_4 {Z : mZ} {l2 l3 l4 l5 l6 l7 : mV} {s0 x1 : Int} {r0 : Nat} {h : mH} : m_run Z (281, 4, [(2, ((r0 : Nat) : Int)), (0, x1), l2, l3, l4, l5, l6, l7], [(1, s0)], h) = (m_cl Z 270 [(2, ((r0 : Nat) : Int)), (0, x1), (0, 0)] h).bind (m_aft (m_run Z) 281 8 [(2, ((r0 : Nat) : Int)), (0, x1), (1, s0), (9, 0), l4, l5, l6, l7] []) := by
  refine g_lstore_n (k := 2) (by decide +kernel : decode (m_byt 281) 4 = .ok (.lstore_n 2, 1)) (Nat.le_of_ble_eq_true rfl) ?_
  show m_run Z (281, 5, [(2, ((r0 : Nat) : Int)), (0, x1), (1, s0), (9, 0), l4, l5, l6, l7], [], h) = _
  refine g_aload_n (k := 0) (v := (2, ((r0 : Nat) : Int))) (by decide +kernel : decode (m_byt 281) 5 = .ok (.aload_n 0, 1)) rfl (Or.inl rfl) ?_
  refine g_iload_n (k := 1) (x := x1) (by decide +kernel : decode (m_byt 281) 6 = .ok (.iload_n 1, 1)) rfl ?_
  refine g_base (by decide +kernel : decode (m_byt 281) 7 = .ok (.iconst 0, 1)) rfl rfl ?_
  show m_run Z (281, 8, [(2, ((r0 : Nat) : Int)), (0, x1), (1, s0), (9, 0), l4, l5, l6, l7], [(0, 0), (0, x1), (2, ((r0 : Nat) : Int))], h) = _
  exact g_inv (k := 0) (m' := 270) (np := 3) (as := [(2, ((r0 : Nat) : Int)), (0, x1), (0, 0)]) (by decide +kernel : decode (m_byt 281) 8 = .ok (.invokestatic 189, 3)) (Or.inr (Or.inr ⟨rfl, rfl, by decide, by decide⟩)) (by decide +kernel) (by decide +kernel) (by decide +kernel) (Nat.le_of_ble_eq_true rfl) rfl (Or.inl rfl)
theorem b_281_11 {Z : mZ} {l2 l3 l4 l5 l6 l7 : mV} {s0 x1 : Int} {r0 : Nat} {h : mH} : m_run Z (281, 11, [(2, ((r0 : Nat) : Int)), (0, x1), l2, l3, l4, l5, l6, l7], [(0, s0)], h) = (m_cl Z 270 [(2, ((r0 : Nat) : Int)), (0, x1), (0, 1)] h).bind (m_aft (m_run Z) 281 16 [(2, ((r0 : Nat) : Int)), (0, x1), l2, m_kill l3, (0, s0), l5, l6, l7] []) := by
  refine g_istore (k := 4) (by decide +kernel : decode (m_byt 281) 11 = .ok (.istore 4, 2)) (Nat.le_of_ble_eq_true rfl) ?_
  show m_run Z (281, 13, [(2, ((r0 : Nat) : Int)), (0, x1), l2, m_kill l3, (0, s0), l5, l6, l7], [], h) = _
  refine g_aload_n (k := 0) (v := (2, ((r0 : Nat) : Int))) (by decide +kernel : decode (m_byt 281) 13 = .ok (.aload_n 0, 1)) rfl (Or.inl rfl) ?_
  refine g_iload_n (k := 1) (x := x1) (by decide +kernel : decode (m_byt 281) 14 = .ok (.iload_n 1, 1)) rfl ?_
  refine g_base (by decide +kernel : decode (m_byt 281) 15 = .ok (.iconst 1, 1)) rfl rfl ?_
  show m_run Z (281, 16, [(2, ((r0 : Nat) : Int)), (0, x1), l2, m_kill l3, (0, s0), l5, l6, l7], [(0, 1), (0, x1), (2, ((r0 : Nat) : Int))], h) = _
  exact g_inv (k := 0) (m' := 270) (np := 3) (as := [(2, ((r0 : Nat) : Int)), (0, x1), (0, 1)]) (by decide +kernel : decode (m_byt 281) 16 = .ok (.invokestatic 189, 3)) (Or.inr (Or.inr ⟨rfl, rfl, by decide, by decide⟩)) (by decide +kernel) (by decide +kernel) (by decide +kernel) (Nat.le_of_ble_eq_true rfl) rfl (Or.inl rfl)
theorem b_281_19 {Z : mZ} {l1 l2 l3 l5 l6 l7 : mV} {s0 x4 : Int} {r0 : Nat} {h : mH} : m_run Z (281, 19, [(2, ((r0 : Nat) : Int)), l1, l2, l3, (0, x4), l5, l6, l7], [(0, s0)], h) = (m_cl Z 250 [(2, ((r0 : Nat) : Int)), (0, 0)] h).bind (m_aft (m_run Z) 281 24 [(2, ((r0 : Nat) : Int)), l1, l2, l3, (0, x4), (0, s0), l6, l7] [(0, 1)]) := by
  refine g_istore (k := 5) (by decide +kernel : decode (m_byt 281) 19 = .ok (.istore 5, 2)) (Nat.le_of_ble_eq_true rfl) ?_
  show m_run Z (281, 21, [(2, ((r0 : Nat) : Int)), l1, l2, l3, (0, x4), (0, s0), l6, l7], [], h) = _
  refine g_base (by decide +kernel : decode (m_byt 281) 21 = .ok (.iconst 1, 1)) rfl rfl ?_
  show m_run Z (281, 22, [(2, ((r0 : Nat) : Int)), l1, l2, l3, (0, x4), (0, s0), l6, l7], [(0, 1)], h) = _
  refine g_aload_n (k := 0) (v := (2, ((r0 : Nat) : Int))) (by decide +kernel : decode (m_byt 281) 22 = .ok (.aload_n 0, 1)) rfl (Or.inl rfl) ?_
  refine g_base (by decide +kernel : decode (m_byt 281) 23 = .ok (.iconst 0, 1)) rfl rfl ?_
  show m_run Z (281, 24, [(2, ((r0 : Nat) : Int)), l1, l2, l3, (0, x4), (0, s0), l6, l7], [(0, 0), (2, ((r0 : Nat) : Int)), (0, 1)], h) = _
  exact g_inv (k := 0) (m' := 250) (np := 2) (as := [(2, ((r0 : Nat) : Int)), (0, 0)]) (by decide +kernel : decode (m_byt 281) 24 = .ok (.invokestatic 149, 3)) (Or.inr (Or.inr ⟨rfl, rfl, by decide, by decide⟩)) (by decide +kernel) (by decide +kernel) (by decide +kernel) (Nat.le_of_ble_eq_true rfl) rfl (Or.inl rfl)
theorem b_281_27 {Z : mZ} {l1 l2 l3 l4 l6 l7 : mV} {s0 s1 x5 : Int} {r0 : Nat} {h : mH} : m_run Z (281, 27, [(2, ((r0 : Nat) : Int)), l1, l2, l3, l4, (0, x5), l6, l7], [(0, s0), (0, s1)], h) = (m_cl Z 273 [(2, ((r0 : Nat) : Int))] h).bind (m_aft (m_run Z) 281 33 [(2, ((r0 : Nat) : Int)), l1, l2, l3, l4, (0, x5), (0, ((i_shl s1 s0) - 1)), l7] []) := by
  refine g_base (by decide +kernel : decode (m_byt 281) 27 = .ok (.ishl, 1)) rfl rfl ?_
  show m_run Z (281, 28, [(2, ((r0 : Nat) : Int)), l1, l2, l3, l4, (0, x5), l6, l7], [(0, (i_shl s1 s0))], h) = _
  refine g_base (by decide +kernel : decode (m_byt 281) 28 = .ok (.iconst 1, 1)) rfl rfl ?_
  show m_run Z (281, 29, [(2, ((r0 : Nat) : Int)), l1, l2, l3, l4, (0, x5), l6, l7], [(0, 1), (0, (i_shl s1 s0))], h) = _
  refine g_base (by decide +kernel : decode (m_byt 281) 29 = .ok (.isub, 1)) rfl rfl ?_
  show m_run Z (281, 30, [(2, ((r0 : Nat) : Int)), l1, l2, l3, l4, (0, x5), l6, l7], [(0, ((i_shl s1 s0) - 1))], h) = _
  refine g_istore (k := 6) (by decide +kernel : decode (m_byt 281) 30 = .ok (.istore 6, 2)) (Nat.le_of_ble_eq_true rfl) ?_
  show m_run Z (281, 32, [(2, ((r0 : Nat) : Int)), l1, l2, l3, l4, (0, x5), (0, ((i_shl s1 s0) - 1)), l7], [], h) = _
  refine g_aload_n (k := 0) (v := (2, ((r0 : Nat) : Int))) (by decide +kernel : decode (m_byt 281) 32 = .ok (.aload_n 0, 1)) rfl (Or.inl rfl) ?_
  exact g_inv (k := 0) (m' := 273) (np := 1) (as := [(2, ((r0 : Nat) : Int))]) (by decide +kernel : decode (m_byt 281) 33 = .ok (.invokestatic 131, 3)) (Or.inr (Or.inr ⟨rfl, rfl, by decide, by decide⟩)) (by decide +kernel) (by decide +kernel) (by decide +kernel) (Nat.le_of_ble_eq_true rfl) rfl (Or.inl rfl)
theorem b_281_36 {Z : mZ} {l0 l1 l3 l4 l5 l6 l7 : mV} {s0 x2 : Int} {h : mH} : m_run Z (281, 36, [l0, l1, (1, x2), l3, l4, l5, l6, l7], [(1, s0)], h) = if w32 (l_cmp s0 x2) = 0 then m_run Z (281, 41, [l0, l1, (1, x2), l3, l4, l5, l6, l7], [], h) else m_run Z (281, 53, [l0, l1, (1, x2), l3, l4, l5, l6, l7], [], h) := by
  refine g_lload_n (k := 2) (x := x2) (by decide +kernel : decode (m_byt 281) 36 = .ok (.lload_n 2, 1)) rfl ?_
  refine g_base (by decide +kernel : decode (m_byt 281) 37 = .ok (.lcmp, 1)) rfl rfl ?_
  show m_run Z (281, 38, [l0, l1, (1, x2), l3, l4, l5, l6, l7], [(0, (l_cmp s0 x2))], h) = _
  exact g_brn (t := 53) (off := 15) (by decide +kernel : decode (m_byt 281) 38 = .ok (.ifCond .ne 15, 3)) rfl rfl (by decide)
theorem b_281_41 {Z : mZ} {l2 l3 l4 l5 l6 l7 : mV} {x1 : Int} {r0 : Nat} {h : mH} : m_run Z (281, 41, [(2, ((r0 : Nat) : Int)), (0, x1), l2, l3, l4, l5, l6, l7], [], h) = (m_cl Z 245 [(2, ((r0 : Nat) : Int)), (0, x1)] h).bind (m_aft (m_run Z) 281 43 [(2, ((r0 : Nat) : Int)), (0, x1), l2, l3, l4, l5, l6, l7] []) := by
  refine g_aload_n (k := 0) (v := (2, ((r0 : Nat) : Int))) (by decide +kernel : decode (m_byt 281) 41 = .ok (.aload_n 0, 1)) rfl (Or.inl rfl) ?_
  refine g_iload_n (k := 1) (x := x1) (by decide +kernel : decode (m_byt 281) 42 = .ok (.iload_n 1, 1)) rfl ?_
  exact g_inv (k := 0) (m' := 245) (np := 2) (as := [(2, ((r0 : Nat) : Int)), (0, x1)]) (by decide +kernel : decode (m_byt 281) 43 = .ok (.invokestatic 141, 3)) (Or.inr (Or.inr ⟨rfl, rfl, by decide, by decide⟩)) (by decide +kernel) (by decide +kernel) (by decide +kernel) (Nat.le_of_ble_eq_true rfl) rfl (Or.inl rfl)
theorem b_281_46 {Z : mZ} {l0 l1 l2 l3 l4 l5 l6 l7 : mV} {s0 : Int} {h : mH} : m_run Z (281, 46, [l0, l1, l2, l3, l4, l5, l6, l7], [(0, s0)], h) = if w32 s0 < 0 then m_run Z (281, 53, [l0, l1, l2, l3, l4, l5, l6, l7], [], h) else m_run Z (281, 49, [l0, l1, l2, l3, l4, l5, l6, l7], [], h) := by
  exact g_brq (t := 53) (off := 7) (by decide +kernel : decode (m_byt 281) 46 = .ok (.ifCond .lt 7, 3)) rfl rfl (by decide)
theorem b_281_49 {Z : mZ} {l0 l1 l2 l3 l4 l5 l7 : mV} {x6 : Int} {h : mH} : m_run Z (281, 49, [l0, l1, l2, l3, l4, l5, (0, x6), l7], [], h) = if w32 1 = 0 then m_run Z (281, 116, [l0, l1, l2, l3, l4, l5, (0, x6), (0, 1)], [], h) else m_run Z (281, 61, [l0, l1, l2, l3, l4, l5, (0, x6), (0, 1)], [], h) := by
  refine g_base (by decide +kernel : decode (m_byt 281) 49 = .ok (.iconst 1, 1)) rfl rfl ?_
  show m_run Z (281, 50, [l0, l1, l2, l3, l4, l5, (0, x6), l7], [(0, 1)], h) = _
  refine g_jmp (t := 54) (by decide +kernel : decode (m_byt 281) 50 = .ok (.goto 4, 3)) (by decide) ?_
  refine g_istore (k := 7) (by decide +kernel : decode (m_byt 281) 54 = .ok (.istore 7, 2)) (Nat.le_of_ble_eq_true rfl) ?_
  show m_run Z (281, 56, [l0, l1, l2, l3, l4, l5, (0, x6), (0, 1)], [], h) = _
  refine g_iload (k := 7) (x := 1) (by decide +kernel : decode (m_byt 281) 56 = .ok (.iload 7, 2)) rfl ?_
  exact g_brq (t := 116) (off := 58) (by decide +kernel : decode (m_byt 281) 58 = .ok (.ifCond .eq 58, 3)) rfl rfl (by decide)
theorem b_281_53 {Z : mZ} {l0 l1 l2 l3 l4 l5 l6 l7 : mV} {h : mH} : m_run Z (281, 53, [l0, l1, l2, l3, l4, l5, l6, l7], [], h) = m_run Z (281, 54, [l0, l1, l2, l3, l4, l5, l6, l7], [(0, 0)], h) := by
  refine g_base (by decide +kernel : decode (m_byt 281) 53 = .ok (.iconst 0, 1)) rfl rfl ?_
  show m_run Z (281, 54, [l0, l1, l2, l3, l4, l5, l6, l7], [(0, 0)], h) = _
  rfl
theorem b_281_54 {Z : mZ} {l0 l1 l2 l3 l4 l5 l7 : mV} {s0 x6 : Int} {h : mH} : m_run Z (281, 54, [l0, l1, l2, l3, l4, l5, (0, x6), l7], [(0, s0)], h) = if w32 s0 = 0 then m_run Z (281, 116, [l0, l1, l2, l3, l4, l5, (0, x6), (0, s0)], [], h) else m_run Z (281, 61, [l0, l1, l2, l3, l4, l5, (0, x6), (0, s0)], [], h) := by
  refine g_istore (k := 7) (by decide +kernel : decode (m_byt 281) 54 = .ok (.istore 7, 2)) (Nat.le_of_ble_eq_true rfl) ?_
  show m_run Z (281, 56, [l0, l1, l2, l3, l4, l5, (0, x6), (0, s0)], [], h) = _
  refine g_iload (k := 7) (x := s0) (by decide +kernel : decode (m_byt 281) 56 = .ok (.iload 7, 2)) rfl ?_
  exact g_brq (t := 116) (off := 58) (by decide +kernel : decode (m_byt 281) 58 = .ok (.ifCond .eq 58, 3)) rfl rfl (by decide)
theorem b_281_61 {Z : mZ} {l0 l1 l2 l3 l5 l6 l7 : mV} {x4 : Int} {h : mH} : m_run Z (281, 61, [l0, l1, l2, l3, (0, x4), l5, l6, l7], [], h) = if w32 x4 = w32 (-1) then m_run Z (281, 67, [l0, l1, l2, l3, (0, x4), l5, l6, l7], [], h) else m_run Z (281, 88, [l0, l1, l2, l3, (0, x4), l5, l6, l7], [], h) := by
  refine g_iload (k := 4) (x := x4) (by decide +kernel : decode (m_byt 281) 61 = .ok (.iload 4, 2)) rfl ?_
  refine g_base (by decide +kernel : decode (m_byt 281) 63 = .ok (.iconst (-1), 1)) rfl rfl ?_
  show m_run Z (281, 64, [l0, l1, l2, l3, (0, x4), l5, l6, l7], [(0, (-1)), (0, x4)], h) = _
  exact g_brn (t := 88) (off := 24) (by decide +kernel : decode (m_byt 281) 64 = .ok (.if_icmp .ne 24, 3)) rfl rfl (by decide)
theorem b_281_67 {Z : mZ} {l0 l1 l2 l3 l4 l6 l7 : mV} {x5 : Int} {h : mH} : m_run Z (281, 67, [l0, l1, l2, l3, l4, (0, x5), l6, l7], [], h) = if w32 x5 = w32 (-1) then m_run Z (281, 73, [l0, l1, l2, l3, l4, (0, x5), l6, l7], [], h) else m_run Z (281, 116, [l0, l1, l2, l3, l4, (0, x5), l6, l7], [], h) := by
  refine g_iload (k := 5) (x := x5) (by decide +kernel : decode (m_byt 281) 67 = .ok (.iload 5, 2)) rfl ?_
  refine g_base (by decide +kernel : decode (m_byt 281) 69 = .ok (.iconst (-1), 1)) rfl rfl ?_
  show m_run Z (281, 70, [l0, l1, l2, l3, l4, (0, x5), l6, l7], [(0, (-1)), (0, x5)], h) = _
  exact g_brn (t := 116) (off := 46) (by decide +kernel : decode (m_byt 281) 70 = .ok (.if_icmp .ne 46, 3)) rfl rfl (by decide)
theorem b_281_73 {Z : mZ} {l1 l2 l3 l4 l5 l7 : mV} {x6 : Int} {r0 : Nat} {h : mH} : m_run Z (281, 73, [(2, ((r0 : Nat) : Int)), l1, l2, l3, l4, l5, (0, x6), l7], [], h) = (m_cl Z 261 [(2, ((r0 : Nat) : Int)), (0, x6), (0, 0)] h).bind (m_aft (m_run Z) 281 77 [(2, ((r0 : Nat) : Int)), l1, l2, l3, l4, l5, (0, x6), l7] []) := by
  refine g_aload_n (k := 0) (v := (2, ((r0 : Nat) : Int))) (by decide +kernel : decode (m_byt 281) 73 = .ok (.aload_n 0, 1)) rfl (Or.inl rfl) ?_
  refine g_iload (k := 6) (x := x6) (by decide +kernel : decode (m_byt 281) 74 = .ok (.iload 6, 2)) rfl ?_
  refine g_base (by decide +kernel : decode (m_byt 281) 76 = .ok (.iconst 0, 1)) rfl rfl ?_
  show m_run Z (281, 77, [(2, ((r0 : Nat) : Int)), l1, l2, l3, l4, l5, (0, x6), l7], [(0, 0), (0, x6), (2, ((r0 : Nat) : Int))], h) = _
  exact g_inv (k := 0) (m' := 261) (np := 3) (as := [(2, ((r0 : Nat) : Int)), (0, x6), (0, 0)]) (by decide +kernel : decode (m_byt 281) 77 = .ok (.invokestatic 171, 3)) (Or.inr (Or.inr ⟨rfl, rfl, by decide, by decide⟩)) (by decide +kernel) (by decide +kernel) (by decide +kernel) (Nat.le_of_ble_eq_true rfl) rfl (Or.inl rfl)
theorem b_281_80 {Z : mZ} {l0 l1 l2 l3 l4 l5 l6 l7 : mV} {s0 : Int} {h : mH} : m_run Z (281, 80, [l0, l1, l2, l3, l4, l5, l6, l7], [(0, s0)], h) = if w32 s0 = w32 (-52) then m_run Z (281, 85, [l0, l1, l2, l3, l4, l5, l6, l7], [], h) else m_run Z (281, 116, [l0, l1, l2, l3, l4, l5, l6, l7], [], h) := by
  refine g_base (by decide +kernel : decode (m_byt 281) 80 = .ok (.bipush (-52), 2)) rfl rfl ?_
  show m_run Z (281, 82, [l0, l1, l2, l3, l4, l5, l6, l7], [(0, (-52)), (0, s0)], h) = _
  exact g_brn (t := 116) (off := 34) (by decide +kernel : decode (m_byt 281) 82 = .ok (.if_icmp .ne 34, 3)) rfl rfl (by decide)
theorem b_281_85 {Z : mZ} {l0 l1 l2 l3 l4 l5 l7 : mV} {x6 : Int} {h : mH} : m_run Z (281, 85, [l0, l1, l2, l3, l4, l5, (0, x6), l7], [], h) = if w32 1 = 0 then m_run Z (281, 144, [l0, l1, l2, l3, l4, l5, (0, x6), (0, 1)], [], h) else m_run Z (281, 124, [l0, l1, l2, l3, l4, l5, (0, x6), (0, 1)], [], h) := by
  refine g_jmp (t := 112) (by decide +kernel : decode (m_byt 281) 85 = .ok (.goto 27, 3)) (by decide) ?_
  refine g_base (by decide +kernel : decode (m_byt 281) 112 = .ok (.iconst 1, 1)) rfl rfl ?_
  show m_run Z (281, 113, [l0, l1, l2, l3, l4, l5, (0, x6), l7], [(0, 1)], h) = _
  refine g_jmp (t := 117) (by decide +kernel : decode (m_byt 281) 113 = .ok (.goto 4, 3)) (by decide) ?_
  refine g_istore (k := 7) (by decide +kernel : decode (m_byt 281) 117 = .ok (.istore 7, 2)) (Nat.le_of_ble_eq_true rfl) ?_
  show m_run Z (281, 119, [l0, l1, l2, l3, l4, l5, (0, x6), (0, 1)], [], h) = _
  refine g_iload (k := 7) (x := 1) (by decide +kernel : decode (m_byt 281) 119 = .ok (.iload 7, 2)) rfl ?_
  exact g_brq (t := 144) (off := 23) (by decide +kernel : decode (m_byt 281) 121 = .ok (.ifCond .eq 23, 3)) rfl rfl (by decide)
theorem b_281_88 {Z : mZ} {l1 l2 l3 l4 l5 l7 : mV} {x6 : Int} {r0 : Nat} {h : mH} : m_run Z (281, 88, [(2, ((r0 : Nat) : Int)), l1, l2, l3, l4, l5, (0, x6), l7], [], h) = (m_cl Z 261 [(2, ((r0 : Nat) : Int)), (0, x6), (0, 0)] h).bind (m_aft (m_run Z) 281 92 [(2, ((r0 : Nat) : Int)), l1, l2, l3, l4, l5, (0, x6), l7] []) := by
  refine g_aload_n (k := 0) (v := (2, ((r0 : Nat) : Int))) (by decide +kernel : decode (m_byt 281) 88 = .ok (.aload_n 0, 1)) rfl (Or.inl rfl) ?_
  refine g_iload (k := 6) (x := x6) (by decide +kernel : decode (m_byt 281) 89 = .ok (.iload 6, 2)) rfl ?_
  refine g_base (by decide +kernel : decode (m_byt 281) 91 = .ok (.iconst 0, 1)) rfl rfl ?_
  show m_run Z (281, 92, [(2, ((r0 : Nat) : Int)), l1, l2, l3, l4, l5, (0, x6), l7], [(0, 0), (0, x6), (2, ((r0 : Nat) : Int))], h) = _
  exact g_inv (k := 0) (m' := 261) (np := 3) (as := [(2, ((r0 : Nat) : Int)), (0, x6), (0, 0)]) (by decide +kernel : decode (m_byt 281) 92 = .ok (.invokestatic 171, 3)) (Or.inr (Or.inr ⟨rfl, rfl, by decide, by decide⟩)) (by decide +kernel) (by decide +kernel) (by decide +kernel) (Nat.le_of_ble_eq_true rfl) rfl (Or.inl rfl)
theorem b_281_95 {Z : mZ} {l0 l1 l2 l3 l5 l6 l7 : mV} {s0 x4 : Int} {h : mH} : m_run Z (281, 95, [l0, l1, l2, l3, (0, x4), l5, l6, l7], [(0, s0)], h) = if w32 s0 = w32 x4 then m_run Z (281, 100, [l0, l1, l2, l3, (0, x4), l5, l6, l7], [], h) else m_run Z (281, 116, [l0, l1, l2, l3, (0, x4), l5, l6, l7], [], h) := by
  refine g_iload (k := 4) (x := x4) (by decide +kernel : decode (m_byt 281) 95 = .ok (.iload 4, 2)) rfl ?_
  exact g_brn (t := 116) (off := 19) (by decide +kernel : decode (m_byt 281) 97 = .ok (.if_icmp .ne 19, 3)) rfl rfl (by decide)
theorem b_281_100 {Z : mZ} {l1 l2 l3 l4 l5 l7 : mV} {x6 : Int} {r0 : Nat} {h : mH} : m_run Z (281, 100, [(2, ((r0 : Nat) : Int)), l1, l2, l3, l4, l5, (0, x6), l7], [], h) = (m_cl Z 261 [(2, ((r0 : Nat) : Int)), (0, x6), (0, 1)] h).bind (m_aft (m_run Z) 281 104 [(2, ((r0 : Nat) : Int)), l1, l2, l3, l4, l5, (0, x6), l7] []) := by
  refine g_aload_n (k := 0) (v := (2, ((r0 : Nat) : Int))) (by decide +kernel : decode (m_byt 281) 100 = .ok (.aload_n 0, 1)) rfl (Or.inl rfl) ?_
  refine g_iload (k := 6) (x := x6) (by decide +kernel : decode (m_byt 281) 101 = .ok (.iload 6, 2)) rfl ?_
  refine g_base (by decide +kernel : decode (m_byt 281) 103 = .ok (.iconst 1, 1)) rfl rfl ?_
  show m_run Z (281, 104, [(2, ((r0 : Nat) : Int)), l1, l2, l3, l4, l5, (0, x6), l7], [(0, 1), (0, x6), (2, ((r0 : Nat) : Int))], h) = _
  exact g_inv (k := 0) (m' := 261) (np := 3) (as := [(2, ((r0 : Nat) : Int)), (0, x6), (0, 1)]) (by decide +kernel : decode (m_byt 281) 104 = .ok (.invokestatic 171, 3)) (Or.inr (Or.inr ⟨rfl, rfl, by decide, by decide⟩)) (by decide +kernel) (by decide +kernel) (by decide +kernel) (Nat.le_of_ble_eq_true rfl) rfl (Or.inl rfl)
theorem b_281_107 {Z : mZ} {l0 l1 l2 l3 l4 l6 l7 : mV} {s0 x5 : Int} {h : mH} : m_run Z (281, 107, [l0, l1, l2, l3, l4, (0, x5), l6, l7], [(0, s0)], h) = if w32 s0 = w32 x5 then m_run Z (281, 112, [l0, l1, l2, l3, l4, (0, x5), l6, l7], [], h) else m_run Z (281, 116, [l0, l1, l2, l3, l4, (0, x5), l6, l7], [], h) := by
  refine g_iload (k := 5) (x := x5) (by decide +kernel : decode (m_byt 281) 107 = .ok (.iload 5, 2)) rfl ?_
  exact g_brn (t := 116) (off := 7) (by decide +kernel : decode (m_byt 281) 109 = .ok (.if_icmp .ne 7, 3)) rfl rfl (by decide)
theorem b_281_112 {Z : mZ} {l0 l1 l2 l3 l4 l5 l7 : mV} {x6 : Int} {h : mH} : m_run Z (281, 112, [l0, l1, l2, l3, l4, l5, (0, x6), l7], [], h) = if w32 1 = 0 then m_run Z (281, 144, [l0, l1, l2, l3, l4, l5, (0, x6), (0, 1)], [], h) else m_run Z (281, 124, [l0, l1, l2, l3, l4, l5, (0, x6), (0, 1)], [], h) := by
  refine g_base (by decide +kernel : decode (m_byt 281) 112 = .ok (.iconst 1, 1)) rfl rfl ?_
  show m_run Z (281, 113, [l0, l1, l2, l3, l4, l5, (0, x6), l7], [(0, 1)], h) = _
  refine g_jmp (t := 117) (by decide +kernel : decode (m_byt 281) 113 = .ok (.goto 4, 3)) (by decide) ?_
  refine g_istore (k := 7) (by decide +kernel : decode (m_byt 281) 117 = .ok (.istore 7, 2)) (Nat.le_of_ble_eq_true rfl) ?_
  show m_run Z (281, 119, [l0, l1, l2, l3, l4, l5, (0, x6), (0, 1)], [], h) = _
  refine g_iload (k := 7) (x := 1) (by decide +kernel : decode (m_byt 281) 119 = .ok (.iload 7, 2)) rfl ?_
  exact g_brq (t := 144) (off := 23) (by decide +kernel : decode (m_byt 281) 121 = .ok (.ifCond .eq 23, 3)) rfl rfl (by decide)
theorem b_281_116 {Z : mZ} {l0 l1 l2 l3 l4 l5 l6 l7 : mV} {h : mH} : m_run Z (281, 116, [l0, l1, l2, l3, l4, l5, l6, l7], [], h) = m_run Z (281, 117, [l0, l1, l2, l3, l4, l5, l6, l7], [(0, 0)], h) := by
  refine g_base (by decide +kernel : decode (m_byt 281) 116 = .ok (.iconst 0, 1)) rfl rfl ?_
  show m_run Z (281, 117, [l0, l1, l2, l3, l4, l5, l6, l7], [(0, 0)], h) = _
  rfl
theorem b_281_117 {Z : mZ} {l0 l1 l2 l3 l4 l5 l7 : mV} {s0 x6 : Int} {h : mH} : m_run Z (281, 117, [l0, l1, l2, l3, l4, l5, (0, x6), l7], [(0, s0)], h) = if w32 s0 = 0 then m_run Z (281, 144, [l0, l1, l2, l3, l4, l5, (0, x6), (0, s0)], [], h) else m_run Z (281, 124, [l0, l1, l2, l3, l4, l5, (0, x6), (0, s0)], [], h) := by
  refine g_istore (k := 7) (by decide +kernel : decode (m_byt 281) 117 = .ok (.istore 7, 2)) (Nat.le_of_ble_eq_true rfl) ?_
  show m_run Z (281, 119, [l0, l1, l2, l3, l4, l5, (0, x6), (0, s0)], [], h) = _
  refine g_iload (k := 7) (x := s0) (by decide +kernel : decode (m_byt 281) 119 = .ok (.iload 7, 2)) rfl ?_
  exact g_brq (t := 144) (off := 23) (by decide +kernel : decode (m_byt 281) 121 = .ok (.ifCond .eq 23, 3)) rfl rfl (by decide)
theorem b_281_124 {Z : mZ} {l1 l2 l3 l4 l5 l6 l7 : mV} {r0 : Nat} {h : mH} : m_run Z (281, 124, [(2, ((r0 : Nat) : Int)), l1, l2, l3, l4, l5, l6, l7], [], h) = (m_cl Z 272 [(2, ((r0 : Nat) : Int))] h).bind (m_aft (m_run Z) 281 125 [(2, ((r0 : Nat) : Int)), l1, l2, l3, l4, l5, l6, l7] []) := by
  refine g_aload_n (k := 0) (v := (2, ((r0 : Nat) : Int))) (by decide +kernel : decode (m_byt 281) 124 = .ok (.aload_n 0, 1)) rfl (Or.inl rfl) ?_
  exact g_inv (k := 0) (m' := 272) (np := 1) (as := [(2, ((r0 : Nat) : Int))]) (by decide +kernel : decode (m_byt 281) 125 = .ok (.invokestatic 124, 3)) (Or.inr (Or.inr ⟨rfl, rfl, by decide, by decide⟩)) (by decide +kernel) (by decide +kernel) (by decide +kernel) (Nat.le_of_ble_eq_true rfl) rfl (Or.inl rfl)
theorem b_281_128 {Z : mZ} {l0 l1 l2 l3 l4 l5 l6 l7 : mV} {s0 : Int} {h : mH} : m_run Z (281, 128, [l0, l1, l2, l3, l4, l5, l6, l7], [(0, s0)], h) = if w32 s0 < 0 then m_run Z (281, 144, [l0, l1, l2, l3, l4, l5, l6, l7], [], h) else m_run Z (281, 131, [l0, l1, l2, l3, l4, l5, l6, l7], [], h) := by
  exact g_brq (t := 144) (off := 16) (by decide +kernel : decode (m_byt 281) 128 = .ok (.ifCond .lt 16, 3)) rfl rfl (by decide)
theorem b_281_131 {Z : mZ} {l1 l2 l3 l4 l5 l6 l7 : mV} {r0 : Nat} {h : mH} : m_run Z (281, 131, [(2, ((r0 : Nat) : Int)), l1, l2, l3, l4, l5, l6, l7], [], h) = (m_cl Z 273 [(2, ((r0 : Nat) : Int))] h).bind (m_aft (m_run Z) 281 132 [(2, ((r0 : Nat) : Int)), l1, l2, l3, l4, l5, l6, l7] []) := by
  refine g_aload_n (k := 0) (v := (2, ((r0 : Nat) : Int))) (by decide +kernel : decode (m_byt 281) 131 = .ok (.aload_n 0, 1)) rfl (Or.inl rfl) ?_
  exact g_inv (k := 0) (m' := 273) (np := 1) (as := [(2, ((r0 : Nat) : Int))]) (by decide +kernel : decode (m_byt 281) 132 = .ok (.invokestatic 131, 3)) (Or.inr (Or.inr ⟨rfl, rfl, by decide, by decide⟩)) (by decide +kernel) (by decide +kernel) (by decide +kernel) (Nat.le_of_ble_eq_true rfl) rfl (Or.inl rfl)
theorem b_281_135 {Z : mZ} {l0 l1 l3 l4 l5 l6 l7 : mV} {s0 x2 : Int} {h : mH} : m_run Z (281, 135, [l0, l1, (1, x2), l3, l4, l5, l6, l7], [(1, s0)], h) = if w32 (l_cmp s0 x2) = 0 then m_run Z (281, 140, [l0, l1, (1, x2), l3, l4, l5, l6, l7], [], h) else m_run Z (281, 144, [l0, l1, (1, x2), l3, l4, l5, l6, l7], [], h) := by
  refine g_lload_n (k := 2) (x := x2) (by decide +kernel : decode (m_byt 281) 135 = .ok (.lload_n 2, 1)) rfl ?_
  refine g_base (by decide +kernel : decode (m_byt 281) 136 = .ok (.lcmp, 1)) rfl rfl ?_
  show m_run Z (281, 137, [l0, l1, (1, x2), l3, l4, l5, l6, l7], [(0, (l_cmp s0 x2))], h) = _
  exact g_brn (t := 144) (off := 7) (by decide +kernel : decode (m_byt 281) 137 = .ok (.ifCond .ne 7, 3)) rfl rfl (by decide)
theorem b_281_140 {Z : mZ} {l0 l1 l2 l3 l4 l5 l6 l7 : mV} {h : mH} : m_run Z (281, 140, [l0, l1, l2, l3, l4, l5, l6, l7], [], h) = some (.inl (0, 1), h) := by
  refine g_base (by decide +kernel : decode (m_byt 281) 140 = .ok (.iconst 1, 1)) rfl rfl ?_
  show m_run Z (281, 141, [l0, l1, l2, l3, l4, l5, l6, l7], [(0, 1)], h) = _
  refine g_jmp (t := 145) (by decide +kernel : decode (m_byt 281) 141 = .ok (.goto 4, 3)) (by decide) ?_
  exact g_zret (by decide +kernel : decode (m_byt 281) 145 = .ok (.ireturn, 1)) (by decide +kernel) (by decide)
theorem b_281_144 {Z : mZ} {l0 l1 l2 l3 l4 l5 l6 l7 : mV} {h : mH} : m_run Z (281, 144, [l0, l1, l2, l3, l4, l5, l6, l7], [], h) = m_run Z (281, 145, [l0, l1, l2, l3, l4, l5, l6, l7], [(0, 0)], h) := by
  refine g_base (by decide +kernel : decode (m_byt 281) 144 = .ok (.iconst 0, 1)) rfl rfl ?_
  show m_run Z (281, 145, [l0, l1, l2, l3, l4, l5, l6, l7], [(0, 0)], h) = _
  rfl
theorem b_281_145 {Z : mZ} {l0 l1 l2 l3 l4 l5 l6 l7 : mV} {s0 : Int} {h : mH} (h0 : w32 s0 = 0 ∨ w32 s0 = 1) : m_run Z (281, 145, [l0, l1, l2, l3, l4, l5, l6, l7], [(0, s0)], h) = some (.inl (0, s0), h) := by
  exact g_zret (by decide +kernel : decode (m_byt 281) 145 = .ok (.ireturn, 1)) (by decide +kernel) h0
end
