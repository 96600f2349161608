section
theorem e_241 {Z : mZ} {x0 : Int} {x1 : Int} {h : mH} : m_cl Z 241 [(4, x0), (0, x1)] h = m_run Z (241, 0, [(4, x0), (0, x1)], [], h) := g_ent (k := 2) (by decide) (by decide +kernel) (Nat.le_of_ble_eq_true rfl) (by decide +kernel) rfl
theorem b_241_0 {Z : mZ} {x1 x0 : Int} {h : mH} : m_run Z (241, 0, [(4, x0), (0, x1)], [], h) = if w32 (Z.1 : Int) ≤ w32 x1 then m_run Z (241, 12, [(4, x0), (0, x1)], [], h) else m_run Z (241, 6, [(4, x0), (0, x1)], [], h) := by
  refine g_iload_n (k := 1) (x := x1) (by decide +kernel : decode (m_byt 241) 0 = .ok (.iload_n 1, 1)) rfl ?_
  refine g_aload_n (k := 0) (v := (4, x0)) (by decide +kernel : decode (m_byt 241) 1 = .ok (.aload_n 0, 1)) rfl (Or.inr (Or.inr rfl)) ?_
  refine g_base (by decide +kernel : decode (m_byt 241) 2 = .ok (.arraylength, 1)) rfl rfl ?_
  show m_run Z (241, 3, [(4, x0), (0, x1)], [(0, (Z.1 : Int)), (0, x1)], h) = _
  exact g_brq (t := 12) (off := 9) (by decide +kernel : decode (m_byt 241) 3 = .ok (.if_icmp .ge 9, 3)) rfl rfl (by decide)
theorem b_241_6 {Z : mZ} {x0 x1 : Int} {h : mH} (h0 : 0 ≤ w32 x1) (h1 : w32 x1 < (Z.1 : Int)) : m_run Z (241, 6, [(4, x0), (0, x1)], [], h) = some (.inl (0, (Z.2 (w32 x1).toNat).toInt), h) := by
  refine g_aload_n (k := 0) (v := (4, x0)) (by decide +kernel : decode (m_byt 241) 6 = .ok (.aload_n 0, 1)) rfl (Or.inr (Or.inr rfl)) ?_
  refine g_iload_n (k := 1) (x := x1) (by decide +kernel : decode (m_byt 241) 7 = .ok (.iload_n 1, 1)) rfl ?_
  refine g_sald (by decide +kernel : decode (m_byt 241) 8 = .ok (.iaload, 1)) h0 h1 ?_
  refine g_jmp (t := 18) (by decide +kernel : decode (m_byt 241) 9 = .ok (.goto 9, 3)) (by decide) ?_
  exact g_iret (by decide +kernel : decode (m_byt 241) 18 = .ok (.ireturn, 1)) (by decide +kernel)
theorem b_241_12 {Z : mZ} {l0 : mV} {x1 : Int} {h : mH} : m_run Z (241, 12, [l0, (0, x1)], [], h) = m_run Z (241, 18, [l0, (0, x1)], [(0, (1779033703 * (x1 + 1)))], h) := by
  refine g_base (by decide +kernel : decode (m_byt 241) 12 = .ok (.ldc 7, 2)) rfl rfl ?_
  show m_run Z (241, 14, [l0, (0, x1)], [(0, 1779033703)], h) = _
  refine g_iload_n (k := 1) (x := x1) (by decide +kernel : decode (m_byt 241) 14 = .ok (.iload_n 1, 1)) rfl ?_
  refine g_base (by decide +kernel : decode (m_byt 241) 15 = .ok (.iconst 1, 1)) rfl rfl ?_
  show m_run Z (241, 16, [l0, (0, x1)], [(0, 1), (0, x1), (0, 1779033703)], h) = _
  refine g_base (by decide +kernel : decode (m_byt 241) 16 = .ok (.iadd, 1)) rfl rfl ?_
  show m_run Z (241, 17, [l0, (0, x1)], [(0, (x1 + 1)), (0, 1779033703)], h) = _
  refine g_base (by decide +kernel : decode (m_byt 241) 17 = .ok (.imul, 1)) rfl rfl ?_
  show m_run Z (241, 18, [l0, (0, x1)], [(0, (1779033703 * (x1 + 1)))], h) = _
  rfl
theorem b_241_18 {Z : mZ} {l0 l1 : mV} {s0 : Int} {h : mH} : m_run Z (241, 18, [l0, l1], [(0, s0)], h) = some (.inl (0, s0), h) := by
  exact g_iret (by decide +kernel : decode (m_byt 241) 18 = .ok (.ireturn, 1)) (by decide +kernel)
theorem e_242 {Z : mZ} {x0 : Int} {x1 : Int} {h : mH} : m_cl Z 242 [(0, x0), (0, x1)] h = m_run Z (242, 0, [(0, x0), (0, x1)], [], h) := g_ent (k := 2) (by decide) (by decide +kernel) (Nat.le_of_ble_eq_true rfl) (by decide +kernel) rfl
theorem b_242_0 {Z : mZ} {x0 x1 : Int} {h : mH} (h0 : ¬ w32 x1 = 0) : m_run Z (242, 0, [(0, x0), (0, x1)], [], h) = some (.inl (0, ((w32 (i_and x0 2147483647)).tmod (w32 x1))), h) := by
  refine g_iload_n (k := 0) (x := x0) (by decide +kernel : decode (m_byt 242) 0 = .ok (.iload_n 0, 1)) rfl ?_
  refine g_base (by decide +kernel : decode (m_byt 242) 1 = .ok (.ldc 8, 2)) rfl rfl ?_
  show m_run Z (242, 3, [(0, x0), (0, x1)], [(0, 2147483647), (0, x0)], h) = _
  refine g_base (by decide +kernel : decode (m_byt 242) 3 = .ok (.iand, 1)) rfl rfl ?_
  show m_run Z (242, 4, [(0, x0), (0, x1)], [(0, (i_and x0 2147483647))], h) = _
  refine g_iload_n (k := 1) (x := x1) (by decide +kernel : decode (m_byt 242) 4 = .ok (.iload_n 1, 1)) rfl ?_
  refine g_rem (by decide +kernel : decode (m_byt 242) 5 = .ok (.irem, 1)) h0 ?_
  show m_run Z (242, 6, [(0, x0), (0, x1)], [(0, ((w32 (i_and x0 2147483647)).tmod (w32 x1)))], h) = _
  exact g_iret (by decide +kernel : decode (m_byt 242) 6 = .ok (.ireturn, 1)) (by decide +kernel)
theorem e_243 {Z : mZ} {r0 : Nat} {x1 : Int} {h : mH} : m_cl Z 243 [(2, ((r0 : Nat) : Int)), (0, x1)] h = m_run Z (243, 0, [(2, ((r0 : Nat) : Int)), (0, x1), (9, 0), (9, 0)], [], h) := g_ent (k := 4) (by decide) (by decide +kernel) (Nat.le_of_ble_eq_true rfl) (by decide +kernel) rfl
theorem b_243_0 {Z : mZ} {l2 l3 : mV} {x1 : Int} {r0 : Nat} {K : Nat → mK} {σ : Nat → Nat → Int} {n e s : Nat} (h0 : q_ob K n r0 6) : m_run Z (243, 0, [(2, ((r0 : Nat) : Int)), (0, x1), l2, l3], [], (K, σ, n, e, s)) = (m_cl Z 95 [(2, ((r0 : Nat) : Int)), (0, x1)] (K, σ, n, e, s)).bind (m_aft (m_run Z) 243 2 [(2, ((r0 : Nat) : Int)), (0, x1), l2, l3] []) := by
  refine g_aload_n (k := 0) (v := (2, ((r0 : Nat) : Int))) (by decide +kernel : decode (m_byt 243) 0 = .ok (.aload_n 0, 1)) rfl (Or.inl rfl) ?_
  refine g_iload_n (k := 1) (x := x1) (by decide +kernel : decode (m_byt 243) 1 = .ok (.iload_n 1, 1)) rfl ?_
  exact g_inv (k := 1) (m' := 95) (np := 1) (as := [(2, ((r0 : Nat) : Int)), (0, x1)]) (by decide +kernel : decode (m_byt 243) 2 = .ok (.invokevirtual 9, 3)) (Or.inl ⟨rfl, rfl⟩) (by decide +kernel) (by decide +kernel) (by decide +kernel) (Nat.le_of_ble_eq_true rfl) rfl (Or.inr (g_rcv (by decide +kernel) h0))
theorem b_243_5 {Z : mZ} {l0 l2 l3 : mV} {s0 x1 : Int} {h : mH} : m_run Z (243, 5, [l0, (0, x1), l2, l3], [(0, s0)], h) = some (.inl (0, s0), h) := by
  refine g_istore_n (k := 2) (by decide +kernel : decode (m_byt 243) 5 = .ok (.istore_n 2, 1)) (Nat.le_of_ble_eq_true rfl) ?_
  show m_run Z (243, 6, [l0, (0, x1), (0, s0), l3], [], h) = _
  refine g_jmp (t := 13) (by decide +kernel : decode (m_byt 243) 6 = .ok (.goto 7, 3)) (by decide) ?_
  refine g_iload_n (k := 2) (x := s0) (by decide +kernel : decode (m_byt 243) 13 = .ok (.iload_n 2, 1)) rfl ?_
  exact g_iret (by decide +kernel : decode (m_byt 243) 14 = .ok (.ireturn, 1)) (by decide +kernel)
theorem b_243_10 {Z : mZ} {l0 l1 l2 l3 : mV} {h : mH} : m_run Z (243, 10, [l0, l1, l2, l3], [], h) = some (.inl (0, (-51)), h) := by
  refine g_base (by decide +kernel : decode (m_byt 243) 10 = .ok (.bipush (-51), 2)) rfl rfl ?_
  show m_run Z (243, 12, [l0, l1, l2, l3], [(0, (-51))], h) = _
  exact g_iret (by decide +kernel : decode (m_byt 243) 12 = .ok (.ireturn, 1)) (by decide +kernel)
theorem b_243_13 {Z : mZ} {l0 l1 l3 : mV} {x2 : Int} {h : mH} : m_run Z (243, 13, [l0, l1, (0, x2), l3], [], h) = some (.inl (0, x2), h) := by
  refine g_iload_n (k := 2) (x := x2) (by decide +kernel : decode (m_byt 243) 13 = .ok (.iload_n 2, 1)) rfl ?_
  exact g_iret (by decide +kernel : decode (m_byt 243) 14 = .ok (.ireturn, 1)) (by decide +kernel)
theorem e_244 {Z : mZ} {r0 : Nat} {x1 : Int} {x2 : Int} {x3 : Int} {h : mH} : m_cl Z 244 [(2, ((r0 : Nat) : Int)), (0, x1), (0, x2), (0, x3)] h = m_run Z (244, 0, [(2, ((r0 : Nat) : Int)), (0, x1), (0, x2), (0, x3), (9, 0), (9, 0)], [], h) := g_ent (k := 6) (by decide) (by decide +kernel) (Nat.le_of_ble_eq_true rfl) (by decide +kernel) rfl
theorem b_244_0 {Z : mZ} {l4 l5 : mV} {x1 x2 x3 : Int} {r0 : Nat} {K : Nat → mK} {σ : Nat → Nat → Int} {n e s : Nat} (h0 : q_ob K n r0 6) : m_run Z (244, 0, [(2, ((r0 : Nat) : Int)), (0, x1), (0, x2), (0, x3), l4, l5], [], (K, σ, n, e, s)) = (m_cl Z 96 [(2, ((r0 : Nat) : Int)), (0, x1), (0, x2), (0, x3)] (K, σ, n, e, s)).bind (m_aft (m_run Z) 244 4 [(2, ((r0 : Nat) : Int)), (0, x1), (0, x2), (0, x3), l4, l5] []) := by
  refine g_aload_n (k := 0) (v := (2, ((r0 : Nat) : Int))) (by decide +kernel : decode (m_byt 244) 0 = .ok (.aload_n 0, 1)) rfl (Or.inl rfl) ?_
  refine g_iload_n (k := 1) (x := x1) (by decide +kernel : decode (m_byt 244) 1 = .ok (.iload_n 1, 1)) rfl ?_
  refine g_iload_n (k := 2) (x := x2) (by decide +kernel : decode (m_byt 244) 2 = .ok (.iload_n 2, 1)) rfl ?_
  refine g_iload_n (k := 3) (x := x3) (by decide +kernel : decode (m_byt 244) 3 = .ok (.iload_n 3, 1)) rfl ?_
  exact g_inv (k := 1) (m' := 96) (np := 3) (as := [(2, ((r0 : Nat) : Int)), (0, x1), (0, x2), (0, x3)]) (by decide +kernel : decode (m_byt 244) 4 = .ok (.invokevirtual 17, 3)) (Or.inl ⟨rfl, rfl⟩) (by decide +kernel) (by decide +kernel) (by decide +kernel) (Nat.le_of_ble_eq_true rfl) rfl (Or.inr (g_rcv (by decide +kernel) h0))
theorem b_244_7 {Z : mZ} {l0 l1 l2 l4 l5 : mV} {s0 x3 : Int} {h : mH} : m_run Z (244, 7, [l0, l1, l2, (0, x3), l4, l5], [(0, s0)], h) = some (.inl (0, s0), h) := by
  refine g_istore (k := 4) (by decide +kernel : decode (m_byt 244) 7 = .ok (.istore 4, 2)) (Nat.le_of_ble_eq_true rfl) ?_
  show m_run Z (244, 9, [l0, l1, l2, (0, x3), (0, s0), l5], [], h) = _
  refine g_jmp (t := 27) (by decide +kernel : decode (m_byt 244) 9 = .ok (.goto 18, 3)) (by decide) ?_
  refine g_iload (k := 4) (x := s0) (by decide +kernel : decode (m_byt 244) 27 = .ok (.iload 4, 2)) rfl ?_
  exact g_iret (by decide +kernel : decode (m_byt 244) 29 = .ok (.ireturn, 1)) (by decide +kernel)
theorem b_244_14 {Z : mZ} {l0 l1 l2 l3 l4 l5 : mV} {h : mH} : m_run Z (244, 14, [l0, l1, l2, l3, l4, l5], [], h) = some (.inl (0, (-53)), h) := by
  refine g_base (by decide +kernel : decode (m_byt 244) 14 = .ok (.bipush (-53), 2)) rfl rfl ?_
  show m_run Z (244, 16, [l0, l1, l2, l3, l4, l5], [(0, (-53))], h) = _
  exact g_iret (by decide +kernel : decode (m_byt 244) 16 = .ok (.ireturn, 1)) (by decide +kernel)
theorem b_244_19 {Z : mZ} {l0 l1 l2 l3 l4 l5 : mV} {h : mH} : m_run Z (244, 19, [l0, l1, l2, l3, l4, l5], [], h) = some (.inl (0, (-51)), h) := by
  refine g_base (by decide +kernel : decode (m_byt 244) 19 = .ok (.bipush (-51), 2)) rfl rfl ?_
  show m_run Z (244, 21, [l0, l1, l2, l3, l4, l5], [(0, (-51))], h) = _
  exact g_iret (by decide +kernel : decode (m_byt 244) 21 = .ok (.ireturn, 1)) (by decide +kernel)
theorem b_244_24 {Z : mZ} {l0 l1 l2 l3 l4 l5 : mV} {h : mH} : m_run Z (244, 24, [l0, l1, l2, l3, l4, l5], [], h) = some (.inl (0, (-52)), h) := by
  refine g_base (by decide +kernel : decode (m_byt 244) 24 = .ok (.bipush (-52), 2)) rfl rfl ?_
  show m_run Z (244, 26, [l0, l1, l2, l3, l4, l5], [(0, (-52))], h) = _
  exact g_iret (by decide +kernel : decode (m_byt 244) 26 = .ok (.ireturn, 1)) (by decide +kernel)
theorem b_244_27 {Z : mZ} {l0 l1 l2 l3 l5 : mV} {x4 : Int} {h : mH} : m_run Z (244, 27, [l0, l1, l2, l3, (0, x4), l5], [], h) = some (.inl (0, x4), h) := by
  refine g_iload (k := 4) (x := x4) (by decide +kernel : decode (m_byt 244) 27 = .ok (.iload 4, 2)) rfl ?_
  exact g_iret (by decide +kernel : decode (m_byt 244) 29 = .ok (.ireturn, 1)) (by decide +kernel)
theorem e_245 {Z : mZ} {r0 : Nat} {x1 : Int} {h : mH} : m_cl Z 245 [(2, ((r0 : Nat) : Int)), (0, x1)] h = m_run Z (245, 0, [(2, ((r0 : Nat) : Int)), (0, x1), (9, 0), (9, 0)], [], h) := g_ent (k := 4) (by decide) (by decide +kernel) (Nat.le_of_ble_eq_true rfl) (by decide +kernel) rfl
theorem b_245_0 {Z : mZ} {l2 l3 : mV} {x1 : Int} {r0 : Nat} {K : Nat → mK} {σ : Nat → Nat → Int} {n e s : Nat} (h0 : q_ob K n r0 6) : m_run Z (245, 0, [(2, ((r0 : Nat) : Int)), (0, x1), l2, l3], [], (K, σ, n, e, s)) = (m_cl Z 97 [(2, ((r0 : Nat) : Int)), (0, x1)] (K, σ, n, e, s)).bind (m_aft (m_run Z) 245 2 [(2, ((r0 : Nat) : Int)), (0, x1), l2, l3] []) := by
  refine g_aload_n (k := 0) (v := (2, ((r0 : Nat) : Int))) (by decide +kernel : decode (m_byt 245) 0 = .ok (.aload_n 0, 1)) rfl (Or.inl rfl) ?_
  refine g_iload_n (k := 1) (x := x1) (by decide +kernel : decode (m_byt 245) 1 = .ok (.iload_n 1, 1)) rfl ?_
  exact g_inv (k := 1) (m' := 97) (np := 1) (as := [(2, ((r0 : Nat) : Int)), (0, x1)]) (by decide +kernel : decode (m_byt 245) 2 = .ok (.invokevirtual 25, 3)) (Or.inl ⟨rfl, rfl⟩) (by decide +kernel) (by decide +kernel) (by decide +kernel) (Nat.le_of_ble_eq_true rfl) rfl (Or.inr (g_rcv (by decide +kernel) h0))
theorem b_245_5 {Z : mZ} {l0 l2 l3 : mV} {s0 x1 : Int} {h : mH} : m_run Z (245, 5, [l0, (0, x1), l2, l3], [(0, s0)], h) = some (.inl (0, s0), h) := by
  refine g_istore_n (k := 2) (by decide +kernel : decode (m_byt 245) 5 = .ok (.istore_n 2, 1)) (Nat.le_of_ble_eq_true rfl) ?_
  show m_run Z (245, 6, [l0, (0, x1), (0, s0), l3], [], h) = _
  refine g_jmp (t := 13) (by decide +kernel : decode (m_byt 245) 6 = .ok (.goto 7, 3)) (by decide) ?_
  refine g_iload_n (k := 2) (x := s0) (by decide +kernel : decode (m_byt 245) 13 = .ok (.iload_n 2, 1)) rfl ?_
  exact g_iret (by decide +kernel : decode (m_byt 245) 14 = .ok (.ireturn, 1)) (by decide +kernel)
theorem b_245_10 {Z : mZ} {l0 l1 l2 l3 : mV} {h : mH} : m_run Z (245, 10, [l0, l1, l2, l3], [], h) = some (.inl (0, (-53)), h) := by
  refine g_base (by decide +kernel : decode (m_byt 245) 10 = .ok (.bipush (-53), 2)) rfl rfl ?_
  show m_run Z (245, 12, [l0, l1, l2, l3], [(0, (-53))], h) = _
  exact g_iret (by decide +kernel : decode (m_byt 245) 12 = .ok (.ireturn, 1)) (by decide +kernel)
theorem b_245_13 {Z : mZ} {l0 l1 l3 : mV} {x2 : Int} {h : mH} : m_run Z (245, 13, [l0, l1, (0, x2), l3], [], h) = some (.inl (0, x2), h) := by
  refine g_iload_n (k := 2) (x := x2) (by decide +kernel : decode (m_byt 245) 13 = .ok (.iload_n 2, 1)) rfl ?_
  exact g_iret (by decide +kernel : decode (m_byt 245) 14 = .ok (.ireturn, 1)) (by decide +kernel)
theorem e_246 {Z : mZ} {r0 : Nat} {x1 : Int} {x2 : Int} {h : mH} : m_cl Z 246 [(2, ((r0 : Nat) : Int)), (0, x1), (0, x2)] h = m_run Z (246, 0, [(2, ((r0 : Nat) : Int)), (0, x1), (0, x2), (9, 0), (9, 0)], [], h) := g_ent (k := 5) (by decide) (by decide +kernel) (Nat.le_of_ble_eq_true rfl) (by decide +kernel) rfl
theorem b_246_0 {Z : mZ} {l3 l4 : mV} {x1 x2 : Int} {r0 : Nat} {K : Nat → mK} {σ : Nat → Nat → Int} {n e s : Nat} (h0 : q_ob K n r0 6) : m_run Z (246, 0, [(2, ((r0 : Nat) : Int)), (0, x1), (0, x2), l3, l4], [], (K, σ, n, e, s)) = (m_cl Z 98 [(2, ((r0 : Nat) : Int)), (0, x1), (0, x2)] (K, σ, n, e, s)).bind (m_aft (m_run Z) 246 3 [(2, ((r0 : Nat) : Int)), (0, x1), (0, x2), l3, l4] []) := by
  refine g_aload_n (k := 0) (v := (2, ((r0 : Nat) : Int))) (by decide +kernel : decode (m_byt 246) 0 = .ok (.aload_n 0, 1)) rfl (Or.inl rfl) ?_
  refine g_iload_n (k := 1) (x := x1) (by decide +kernel : decode (m_byt 246) 1 = .ok (.iload_n 1, 1)) rfl ?_
  refine g_iload_n (k := 2) (x := x2) (by decide +kernel : decode (m_byt 246) 2 = .ok (.iload_n 2, 1)) rfl ?_
  exact g_inv (k := 1) (m' := 98) (np := 2) (as := [(2, ((r0 : Nat) : Int)), (0, x1), (0, x2)]) (by decide +kernel : decode (m_byt 246) 3 = .ok (.invokevirtual 28, 3)) (Or.inl ⟨rfl, rfl⟩) (by decide +kernel) (by decide +kernel) (by decide +kernel) (Nat.le_of_ble_eq_true rfl) rfl (Or.inr (g_rcv (by decide +kernel) h0))
theorem b_246_6 {Z : mZ} {l0 l1 l3 l4 : mV} {s0 x2 : Int} {h : mH} : m_run Z (246, 6, [l0, l1, (0, x2), l3, l4], [(0, s0)], h) = some (.inl (0, s0), h) := by
  refine g_istore_n (k := 3) (by decide +kernel : decode (m_byt 246) 6 = .ok (.istore_n 3, 1)) (Nat.le_of_ble_eq_true rfl) ?_
  show m_run Z (246, 7, [l0, l1, (0, x2), (0, s0), l4], [], h) = _
  refine g_jmp (t := 20) (by decide +kernel : decode (m_byt 246) 7 = .ok (.goto 13, 3)) (by decide) ?_
  refine g_iload_n (k := 3) (x := s0) (by decide +kernel : decode (m_byt 246) 20 = .ok (.iload_n 3, 1)) rfl ?_
  exact g_iret (by decide +kernel : decode (m_byt 246) 21 = .ok (.ireturn, 1)) (by decide +kernel)
theorem b_246_12 {Z : mZ} {l0 l1 l2 l3 l4 : mV} {h : mH} : m_run Z (246, 12, [l0, l1, l2, l3, l4], [], h) = some (.inl (0, (-53)), h) := by
  refine g_base (by decide +kernel : decode (m_byt 246) 12 = .ok (.bipush (-53), 2)) rfl rfl ?_
  show m_run Z (246, 14, [l0, l1, l2, l3, l4], [(0, (-53))], h) = _
  exact g_iret (by decide +kernel : decode (m_byt 246) 14 = .ok (.ireturn, 1)) (by decide +kernel)
theorem b_246_17 {Z : mZ} {l0 l1 l2 l3 l4 : mV} {h : mH} : m_run Z (246, 17, [l0, l1, l2, l3, l4], [], h) = some (.inl (0, (-51)), h) := by
  refine g_base (by decide +kernel : decode (m_byt 246) 17 = .ok (.bipush (-51), 2)) rfl rfl ?_
  show m_run Z (246, 19, [l0, l1, l2, l3, l4], [(0, (-51))], h) = _
  exact g_iret (by decide +kernel : decode (m_byt 246) 19 = .ok (.ireturn, 1)) (by decide +kernel)
theorem b_246_20 {Z : mZ} {l0 l1 l2 l4 : mV} {x3 : Int} {h : mH} : m_run Z (246, 20, [l0, l1, l2, (0, x3), l4], [], h) = some (.inl (0, x3), h) := by
  refine g_iload_n (k := 3) (x := x3) (by decide +kernel : decode (m_byt 246) 20 = .ok (.iload_n 3, 1)) rfl ?_
  exact g_iret (by decide +kernel : decode (m_byt 246) 21 = .ok (.ireturn, 1)) (by decide +kernel)
theorem e_247 {Z : mZ} {r0 : Nat} {x1 : Int} {x2 : Int} {h : mH} : m_cl Z 247 [(2, ((r0 : Nat) : Int)), (0, x1), (0, x2)] h = m_run Z (247, 0, [(2, ((r0 : Nat) : Int)), (0, x1), (0, x2), (9, 0), (9, 0)], [], h) := g_ent (k := 5) (by decide) (by decide +kernel) (Nat.le_of_ble_eq_true rfl) (by decide +kernel) rfl
theorem b_247_0 {Z : mZ} {l3 l4 : mV} {x1 x2 : Int} {r0 : Nat} {K : Nat → mK} {σ : Nat → Nat → Int} {n e s : Nat} (h0 : q_ob K n r0 6) : m_run Z (247, 0, [(2, ((r0 : Nat) : Int)), (0, x1), (0, x2), l3, l4], [], (K, σ, n, e, s)) = (m_cl Z 99 [(2, ((r0 : Nat) : Int)), (0, x1), (0, x2)] (K, σ, n, e, s)).bind (m_aft (m_run Z) 247 3 [(2, ((r0 : Nat) : Int)), (0, x1), (0, x2), l3, l4] []) := by
  refine g_aload_n (k := 0) (v := (2, ((r0 : Nat) : Int))) (by decide +kernel : decode (m_byt 247) 0 = .ok (.aload_n 0, 1)) rfl (Or.inl rfl) ?_
  refine g_iload_n (k := 1) (x := x1) (by decide +kernel : decode (m_byt 247) 1 = .ok (.iload_n 1, 1)) rfl ?_
  refine g_iload_n (k := 2) (x := x2) (by decide +kernel : decode (m_byt 247) 2 = .ok (.iload_n 2, 1)) rfl ?_
  exact g_inv (k := 1) (m' := 99) (np := 2) (as := [(2, ((r0 : Nat) : Int)), (0, x1), (0, x2)]) (by decide +kernel : decode (m_byt 247) 3 = .ok (.invokevirtual 32, 3)) (Or.inl ⟨rfl, rfl⟩) (by decide +kernel) (by decide +kernel) (by decide +kernel) (Nat.le_of_ble_eq_true rfl) rfl (Or.inr (g_rcv (by decide +kernel) h0))
theorem b_247_6 {Z : mZ} {l0 l1 l3 l4 : mV} {s0 x2 : Int} {h : mH} : m_run Z (247, 6, [l0, l1, (0, x2), l3, l4], [(0, s0)], h) = some (.inl (0, s0), h) := by
  refine g_istore_n (k := 3) (by decide +kernel : decode (m_byt 247) 6 = .ok (.istore_n 3, 1)) (Nat.le_of_ble_eq_true rfl) ?_
  show m_run Z (247, 7, [l0, l1, (0, x2), (0, s0), l4], [], h) = _
  refine g_jmp (t := 20) (by decide +kernel : decode (m_byt 247) 7 = .ok (.goto 13, 3)) (by decide) ?_
  refine g_iload_n (k := 3) (x := s0) (by decide +kernel : decode (m_byt 247) 20 = .ok (.iload_n 3, 1)) rfl ?_
  exact g_iret (by decide +kernel : decode (m_byt 247) 21 = .ok (.ireturn, 1)) (by decide +kernel)
theorem b_247_12 {Z : mZ} {l0 l1 l2 l3 l4 : mV} {h : mH} : m_run Z (247, 12, [l0, l1, l2, l3, l4], [], h) = some (.inl (0, (-53)), h) := by
  refine g_base (by decide +kernel : decode (m_byt 247) 12 = .ok (.bipush (-53), 2)) rfl rfl ?_
  show m_run Z (247, 14, [l0, l1, l2, l3, l4], [(0, (-53))], h) = _
  exact g_iret (by decide +kernel : decode (m_byt 247) 14 = .ok (.ireturn, 1)) (by decide +kernel)
theorem b_247_17 {Z : mZ} {l0 l1 l2 l3 l4 : mV} {h : mH} : m_run Z (247, 17, [l0, l1, l2, l3, l4], [], h) = some (.inl (0, (-51)), h) := by
  refine g_base (by decide +kernel : decode (m_byt 247) 17 = .ok (.bipush (-51), 2)) rfl rfl ?_
  show m_run Z (247, 19, [l0, l1, l2, l3, l4], [(0, (-51))], h) = _
  exact g_iret (by decide +kernel : decode (m_byt 247) 19 = .ok (.ireturn, 1)) (by decide +kernel)
theorem b_247_20 {Z : mZ} {l0 l1 l2 l4 : mV} {x3 : Int} {h : mH} : m_run Z (247, 20, [l0, l1, l2, (0, x3), l4], [], h) = some (.inl (0, x3), h) := by
  refine g_iload_n (k := 3) (x := x3) (by decide +kernel : decode (m_byt 247) 20 = .ok (.iload_n 3, 1)) rfl ?_
  exact g_iret (by decide +kernel : decode (m_byt 247) 21 = .ok (.ireturn, 1)) (by decide +kernel)
theorem e_248 {Z : mZ} {r0 : Nat} {x1 : Int} {x2 : Int} {x3 : Int} {h : mH} : m_cl Z 248 [(2, ((r0 : Nat) : Int)), (0, x1), (0, x2), (0, x3)] h = m_run Z (248, 0, [(2, ((r0 : Nat) : Int)), (0, x1), (0, x2), (0, x3), (9, 0), (9, 0)], [], h) := g_ent (k := 6) (by decide) (by decide +kernel) (Nat.le_of_ble_eq_true rfl) (by decide +kernel) rfl
theorem b_248_0 {Z : mZ} {l4 l5 : mV} {x1 x2 x3 : Int} {r0 : Nat} {K : Nat → mK} {σ : Nat → Nat → Int} {n e s : Nat} (h0 : q_ob K n r0 6) : m_run Z (248, 0, [(2, ((r0 : Nat) : Int)), (0, x1), (0, x2), (0, x3), l4, l5], [], (K, σ, n, e, s)) = (m_cl Z 100 [(2, ((r0 : Nat) : Int)), (0, x1), (0, x2), (0, x3)] (K, σ, n, e, s)).bind (m_aft (m_run Z) 248 4 [(2, ((r0 : Nat) : Int)), (0, x1), (0, x2), (0, x3), l4, l5] []) := by
  refine g_aload_n (k := 0) (v := (2, ((r0 : Nat) : Int))) (by decide +kernel : decode (m_byt 248) 0 = .ok (.aload_n 0, 1)) rfl (Or.inl rfl) ?_
  refine g_iload_n (k := 1) (x := x1) (by decide +kernel : decode (m_byt 248) 1 = .ok (.iload_n 1, 1)) rfl ?_
  refine g_iload_n (k := 2) (x := x2) (by decide +kernel : decode (m_byt 248) 2 = .ok (.iload_n 2, 1)) rfl ?_
  refine g_iload_n (k := 3) (x := x3) (by decide +kernel : decode (m_byt 248) 3 = .ok (.iload_n 3, 1)) rfl ?_
  exact g_inv (k := 1) (m' := 100) (np := 3) (as := [(2, ((r0 : Nat) : Int)), (0, x1), (0, x2), (0, x3)]) (by decide +kernel : decode (m_byt 248) 4 = .ok (.invokevirtual 35, 3)) (Or.inl ⟨rfl, rfl⟩) (by decide +kernel) (by decide +kernel) (by decide +kernel) (Nat.le_of_ble_eq_true rfl) rfl (Or.inr (g_rcv (by decide +kernel) h0))
theorem b_248_7 {Z : mZ} {l0 l1 l2 l4 l5 : mV} {s0 x3 : Int} {h : mH} : m_run Z (248, 7, [l0, l1, l2, (0, x3), l4, l5], [(0, s0)], h) = some (.inl (0, s0), h) := by
  refine g_istore (k := 4) (by decide +kernel : decode (m_byt 248) 7 = .ok (.istore 4, 2)) (Nat.le_of_ble_eq_true rfl) ?_
  show m_run Z (248, 9, [l0, l1, l2, (0, x3), (0, s0), l5], [], h) = _
  refine g_jmp (t := 27) (by decide +kernel : decode (m_byt 248) 9 = .ok (.goto 18, 3)) (by decide) ?_
  refine g_iload (k := 4) (x := s0) (by decide +kernel : decode (m_byt 248) 27 = .ok (.iload 4, 2)) rfl ?_
  exact g_iret (by decide +kernel : decode (m_byt 248) 29 = .ok (.ireturn, 1)) (by decide +kernel)
theorem b_248_14 {Z : mZ} {l0 l1 l2 l3 l4 l5 : mV} {h : mH} : m_run Z (248, 14, [l0, l1, l2, l3, l4, l5], [], h) = some (.inl (0, (-53)), h) := by
  refine g_base (by decide +kernel : decode (m_byt 248) 14 = .ok (.bipush (-53), 2)) rfl rfl ?_
  show m_run Z (248, 16, [l0, l1, l2, l3, l4, l5], [(0, (-53))], h) = _
  exact g_iret (by decide +kernel : decode (m_byt 248) 16 = .ok (.ireturn, 1)) (by decide +kernel)
theorem b_248_19 {Z : mZ} {l0 l1 l2 l3 l4 l5 : mV} {h : mH} : m_run Z (248, 19, [l0, l1, l2, l3, l4, l5], [], h) = some (.inl (0, (-51)), h) := by
  refine g_base (by decide +kernel : decode (m_byt 248) 19 = .ok (.bipush (-51), 2)) rfl rfl ?_
  show m_run Z (248, 21, [l0, l1, l2, l3, l4, l5], [(0, (-51))], h) = _
  exact g_iret (by decide +kernel : decode (m_byt 248) 21 = .ok (.ireturn, 1)) (by decide +kernel)
theorem b_248_24 {Z : mZ} {l0 l1 l2 l3 l4 l5 : mV} {h : mH} : m_run Z (248, 24, [l0, l1, l2, l3, l4, l5], [], h) = some (.inl (0, (-52)), h) := by
  refine g_base (by decide +kernel : decode (m_byt 248) 24 = .ok (.bipush (-52), 2)) rfl rfl ?_
  show m_run Z (248, 26, [l0, l1, l2, l3, l4, l5], [(0, (-52))], h) = _
  exact g_iret (by decide +kernel : decode (m_byt 248) 26 = .ok (.ireturn, 1)) (by decide +kernel)
theorem b_248_27 {Z : mZ} {l0 l1 l2 l3 l5 : mV} {x4 : Int} {h : mH} : m_run Z (248, 27, [l0, l1, l2, l3, (0, x4), l5], [], h) = some (.inl (0, x4), h) := by
  refine g_iload (k := 4) (x := x4) (by decide +kernel : decode (m_byt 248) 27 = .ok (.iload 4, 2)) rfl ?_
  exact g_iret (by decide +kernel : decode (m_byt 248) 29 = .ok (.ireturn, 1)) (by decide +kernel)
theorem e_249 {Z : mZ} {r0 : Nat} {x1 : Int} {h : mH} : m_cl Z 249 [(2, ((r0 : Nat) : Int)), (0, x1)] h = m_run Z (249, 0, [(2, ((r0 : Nat) : Int)), (0, x1), (9, 0), (9, 0)], [], h) := g_ent (k := 4) (by decide) (by decide +kernel) (Nat.le_of_ble_eq_true rfl) (by decide +kernel) rfl
theorem b_249_0 {Z : mZ} {l2 l3 : mV} {x1 : Int} {r0 : Nat} {K : Nat → mK} {σ : Nat → Nat → Int} {n e s : Nat} (h0 : q_ob K n r0 6) : m_run Z (249, 0, [(2, ((r0 : Nat) : Int)), (0, x1), l2, l3], [], (K, σ, n, e, s)) = (m_cl Z 101 [(2, ((r0 : Nat) : Int)), (0, x1)] (K, σ, n, e, s)).bind (m_aft (m_run Z) 249 2 [(2, ((r0 : Nat) : Int)), (0, x1), l2, l3] []) := by
  refine g_aload_n (k := 0) (v := (2, ((r0 : Nat) : Int))) (by decide +kernel : decode (m_byt 249) 0 = .ok (.aload_n 0, 1)) rfl (Or.inl rfl) ?_
  refine g_iload_n (k := 1) (x := x1) (by decide +kernel : decode (m_byt 249) 1 = .ok (.iload_n 1, 1)) rfl ?_
  exact g_inv (k := 1) (m' := 101) (np := 1) (as := [(2, ((r0 : Nat) : Int)), (0, x1)]) (by decide +kernel : decode (m_byt 249) 2 = .ok (.invokevirtual 38, 3)) (Or.inl ⟨rfl, rfl⟩) (by decide +kernel) (by decide +kernel) (by decide +kernel) (Nat.le_of_ble_eq_true rfl) rfl (Or.inr (g_rcv (by decide +kernel) h0))
theorem b_249_5 {Z : mZ} {l0 l2 l3 : mV} {s0 x1 : Int} {h : mH} : m_run Z (249, 5, [l0, (0, x1), l2, l3], [(0, s0)], h) = some (.inl (0, s0), h) := by
  refine g_istore_n (k := 2) (by decide +kernel : decode (m_byt 249) 5 = .ok (.istore_n 2, 1)) (Nat.le_of_ble_eq_true rfl) ?_
  show m_run Z (249, 6, [l0, (0, x1), (0, s0), l3], [], h) = _
  refine g_jmp (t := 13) (by decide +kernel : decode (m_byt 249) 6 = .ok (.goto 7, 3)) (by decide) ?_
  refine g_iload_n (k := 2) (x := s0) (by decide +kernel : decode (m_byt 249) 13 = .ok (.iload_n 2, 1)) rfl ?_
  exact g_iret (by decide +kernel : decode (m_byt 249) 14 = .ok (.ireturn, 1)) (by decide +kernel)
theorem b_249_10 {Z : mZ} {l0 l1 l2 l3 : mV} {h : mH} : m_run Z (249, 10, [l0, l1, l2, l3], [], h) = some (.inl (0, (-53)), h) := by
  refine g_base (by decide +kernel : decode (m_byt 249) 10 = .ok (.bipush (-53), 2)) rfl rfl ?_
  show m_run Z (249, 12, [l0, l1, l2, l3], [(0, (-53))], h) = _
  exact g_iret (by decide +kernel : decode (m_byt 249) 12 = .ok (.ireturn, 1)) (by decide +kernel)
theorem b_249_13 {Z : mZ} {l0 l1 l3 : mV} {x2 : Int} {h : mH} : m_run Z (249, 13, [l0, l1, (0, x2), l3], [], h) = some (.inl (0, x2), h) := by
  refine g_iload_n (k := 2) (x := x2) (by decide +kernel : decode (m_byt 249) 13 = .ok (.iload_n 2, 1)) rfl ?_
  exact g_iret (by decide +kernel : decode (m_byt 249) 14 = .ok (.ireturn, 1)) (by decide +kernel)
theorem e_250 {Z : mZ} {r0 : Nat} {x1 : Int} {h : mH} : m_cl Z 250 [(2, ((r0 : Nat) : Int)), (0, x1)] h = m_run Z (250, 0, [(2, ((r0 : Nat) : Int)), (0, x1), (9, 0), (9, 0)], [], h) := g_ent (k := 4) (by decide) (by decide +kernel) (Nat.le_of_ble_eq_true rfl) (by decide +kernel) rfl
theorem b_250_0 {Z : mZ} {l2 l3 : mV} {x1 : Int} {r0 : Nat} {K : Nat → mK} {σ : Nat → Nat → Int} {n e s : Nat} (h0 : q_ob K n r0 6) : m_run Z (250, 0, [(2, ((r0 : Nat) : Int)), (0, x1), l2, l3], [], (K, σ, n, e, s)) = (m_cl Z 102 [(2, ((r0 : Nat) : Int)), (0, x1)] (K, σ, n, e, s)).bind (m_aft (m_run Z) 250 2 [(2, ((r0 : Nat) : Int)), (0, x1), l2, l3] []) := by
  refine g_aload_n (k := 0) (v := (2, ((r0 : Nat) : Int))) (by decide +kernel : decode (m_byt 250) 0 = .ok (.aload_n 0, 1)) rfl (Or.inl rfl) ?_
  refine g_iload_n (k := 1) (x := x1) (by decide +kernel : decode (m_byt 250) 1 = .ok (.iload_n 1, 1)) rfl ?_
  exact g_inv (k := 1) (m' := 102) (np := 1) (as := [(2, ((r0 : Nat) : Int)), (0, x1)]) (by decide +kernel : decode (m_byt 250) 2 = .ok (.invokevirtual 41, 3)) (Or.inl ⟨rfl, rfl⟩) (by decide +kernel) (by decide +kernel) (by decide +kernel) (Nat.le_of_ble_eq_true rfl) rfl (Or.inr (g_rcv (by decide +kernel) h0))
theorem b_250_5 {Z : mZ} {l0 l2 l3 : mV} {s0 x1 : Int} {h : mH} : m_run Z (250, 5, [l0, (0, x1), l2, l3], [(0, s0)], h) = some (.inl (0, s0), h) := by
  refine g_istore_n (k := 2) (by decide +kernel : decode (m_byt 250) 5 = .ok (.istore_n 2, 1)) (Nat.le_of_ble_eq_true rfl) ?_
  show m_run Z (250, 6, [l0, (0, x1), (0, s0), l3], [], h) = _
  refine g_jmp (t := 13) (by decide +kernel : decode (m_byt 250) 6 = .ok (.goto 7, 3)) (by decide) ?_
  refine g_iload_n (k := 2) (x := s0) (by decide +kernel : decode (m_byt 250) 13 = .ok (.iload_n 2, 1)) rfl ?_
  exact g_iret (by decide +kernel : decode (m_byt 250) 14 = .ok (.ireturn, 1)) (by decide +kernel)
theorem b_250_10 {Z : mZ} {l0 l1 l2 l3 : mV} {h : mH} : m_run Z (250, 10, [l0, l1, l2, l3], [], h) = some (.inl (0, (-51)), h) := by
  refine g_base (by decide +kernel : decode (m_byt 250) 10 = .ok (.bipush (-51), 2)) rfl rfl ?_
  show m_run Z (250, 12, [l0, l1, l2, l3], [(0, (-51))], h) = _
  exact g_iret (by decide +kernel : decode (m_byt 250) 12 = .ok (.ireturn, 1)) (by decide +kernel)
theorem b_250_13 {Z : mZ} {l0 l1 l3 : mV} {x2 : Int} {h : mH} : m_run Z (250, 13, [l0, l1, (0, x2), l3], [], h) = some (.inl (0, x2), h) := by
  refine g_iload_n (k := 2) (x := x2) (by decide +kernel : decode (m_byt 250) 13 = .ok (.iload_n 2, 1)) rfl ?_
  exact g_iret (by decide +kernel : decode (m_byt 250) 14 = .ok (.ireturn, 1)) (by decide +kernel)
theorem e_251 {Z : mZ} {r0 : Nat} {x1 : Int} {x2 : Int} {h : mH} : m_cl Z 251 [(2, ((r0 : Nat) : Int)), (0, x1), (0, x2)] h = m_run Z (251, 0, [(2, ((r0 : Nat) : Int)), (0, x1), (0, x2), (9, 0), (9, 0)], [], h) := g_ent (k := 5) (by decide) (by decide +kernel) (Nat.le_of_ble_eq_true rfl) (by decide +kernel) rfl
theorem b_251_0 {Z : mZ} {l3 l4 : mV} {x1 x2 : Int} {r0 : Nat} {K : Nat → mK} {σ : Nat → Nat → Int} {n e s : Nat} (h0 : q_ob K n r0 6) : m_run Z (251, 0, [(2, ((r0 : Nat) : Int)), (0, x1), (0, x2), l3, l4], [], (K, σ, n, e, s)) = (m_cl Z 103 [(2, ((r0 : Nat) : Int)), (0, x1), (0, x2)] (K, σ, n, e, s)).bind (m_aft (m_run Z) 251 3 [(2, ((r0 : Nat) : Int)), (0, x1), (0, x2), l3, l4] []) := by
  refine g_aload_n (k := 0) (v := (2, ((r0 : Nat) : Int))) (by decide +kernel : decode (m_byt 251) 0 = .ok (.aload_n 0, 1)) rfl (Or.inl rfl) ?_
  refine g_iload_n (k := 1) (x := x1) (by decide +kernel : decode (m_byt 251) 1 = .ok (.iload_n 1, 1)) rfl ?_
  refine g_iload_n (k := 2) (x := x2) (by decide +kernel : decode (m_byt 251) 2 = .ok (.iload_n 2, 1)) rfl ?_
  exact g_inv (k := 1) (m' := 103) (np := 2) (as := [(2, ((r0 : Nat) : Int)), (0, x1), (0, x2)]) (by decide +kernel : decode (m_byt 251) 3 = .ok (.invokevirtual 44, 3)) (Or.inl ⟨rfl, rfl⟩) (by decide +kernel) (by decide +kernel) (by decide +kernel) (Nat.le_of_ble_eq_true rfl) rfl (Or.inr (g_rcv (by decide +kernel) h0))
theorem b_251_6 {Z : mZ} {l0 l1 l3 l4 : mV} {s0 x2 : Int} {h : mH} : m_run Z (251, 6, [l0, l1, (0, x2), l3, l4], [(0, s0)], h) = some (.inl (0, s0), h) := by
  refine g_istore_n (k := 3) (by decide +kernel : decode (m_byt 251) 6 = .ok (.istore_n 3, 1)) (Nat.le_of_ble_eq_true rfl) ?_
  show m_run Z (251, 7, [l0, l1, (0, x2), (0, s0), l4], [], h) = _
  refine g_jmp (t := 20) (by decide +kernel : decode (m_byt 251) 7 = .ok (.goto 13, 3)) (by decide) ?_
  refine g_iload_n (k := 3) (x := s0) (by decide +kernel : decode (m_byt 251) 20 = .ok (.iload_n 3, 1)) rfl ?_
  exact g_iret (by decide +kernel : decode (m_byt 251) 21 = .ok (.ireturn, 1)) (by decide +kernel)
theorem b_251_12 {Z : mZ} {l0 l1 l2 l3 l4 : mV} {h : mH} : m_run Z (251, 12, [l0, l1, l2, l3, l4], [], h) = some (.inl (0, (-53)), h) := by
  refine g_base (by decide +kernel : decode (m_byt 251) 12 = .ok (.bipush (-53), 2)) rfl rfl ?_
  show m_run Z (251, 14, [l0, l1, l2, l3, l4], [(0, (-53))], h) = _
  exact g_iret (by decide +kernel : decode (m_byt 251) 14 = .ok (.ireturn, 1)) (by decide +kernel)
theorem b_251_17 {Z : mZ} {l0 l1 l2 l3 l4 : mV} {h : mH} : m_run Z (251, 17, [l0, l1, l2, l3, l4], [], h) = some (.inl (0, (-51)), h) := by
  refine g_base (by decide +kernel : decode (m_byt 251) 17 = .ok (.bipush (-51), 2)) rfl rfl ?_
  show m_run Z (251, 19, [l0, l1, l2, l3, l4], [(0, (-51))], h) = _
  exact g_iret (by decide +kernel : decode (m_byt 251) 19 = .ok (.ireturn, 1)) (by decide +kernel)
theorem b_251_20 {Z : mZ} {l0 l1 l2 l4 : mV} {x3 : Int} {h : mH} : m_run Z (251, 20, [l0, l1, l2, (0, x3), l4], [], h) = some (.inl (0, x3), h) := by
  refine g_iload_n (k := 3) (x := x3) (by decide +kernel : decode (m_byt 251) 20 = .ok (.iload_n 3, 1)) rfl ?_
  exact g_iret (by decide +kernel : decode (m_byt 251) 21 = .ok (.ireturn, 1)) (by decide +kernel)
theorem e_252 {Z : mZ} {r0 : Nat} {x1 : Int} {x2 : Int} {h : mH} : m_cl Z 252 [(2, ((r0 : Nat) : Int)), (0, x1), (0, x2)] h = m_run Z (252, 0, [(2, ((r0 : Nat) : Int)), (0, x1), (0, x2), (9, 0), (9, 0)], [], h) := g_ent (k := 5) (by decide) (by decide +kernel) (Nat.le_of_ble_eq_true rfl) (by decide +kernel) rfl
theorem b_252_0 {Z : mZ} {l3 l4 : mV} {x1 x2 : Int} {r0 : Nat} {K : Nat → mK} {σ : Nat → Nat → Int} {n e s : Nat} (h0 : q_ob K n r0 6) : m_run Z (252, 0, [(2, ((r0 : Nat) : Int)), (0, x1), (0, x2), l3, l4], [], (K, σ, n, e, s)) = (m_cl Z 104 [(2, ((r0 : Nat) : Int)), (0, x1), (0, x2)] (K, σ, n, e, s)).bind (m_aft (m_run Z) 252 3 [(2, ((r0 : Nat) : Int)), (0, x1), (0, x2), l3, l4] []) := by
  refine g_aload_n (k := 0) (v := (2, ((r0 : Nat) : Int))) (by decide +kernel : decode (m_byt 252) 0 = .ok (.aload_n 0, 1)) rfl (Or.inl rfl) ?_
  refine g_iload_n (k := 1) (x := x1) (by decide +kernel : decode (m_byt 252) 1 = .ok (.iload_n 1, 1)) rfl ?_
  refine g_iload_n (k := 2) (x := x2) (by decide +kernel : decode (m_byt 252) 2 = .ok (.iload_n 2, 1)) rfl ?_
  exact g_inv (k := 1) (m' := 104) (np := 2) (as := [(2, ((r0 : Nat) : Int)), (0, x1), (0, x2)]) (by decide +kernel : decode (m_byt 252) 3 = .ok (.invokevirtual 47, 3)) (Or.inl ⟨rfl, rfl⟩) (by decide +kernel) (by decide +kernel) (by decide +kernel) (Nat.le_of_ble_eq_true rfl) rfl (Or.inr (g_rcv (by decide +kernel) h0))
theorem b_252_6 {Z : mZ} {l0 l1 l3 l4 : mV} {s0 x2 : Int} {h : mH} : m_run Z (252, 6, [l0, l1, (0, x2), l3, l4], [(0, s0)], h) = some (.inl (0, s0), h) := by
  refine g_istore_n (k := 3) (by decide +kernel : decode (m_byt 252) 6 = .ok (.istore_n 3, 1)) (Nat.le_of_ble_eq_true rfl) ?_
  show m_run Z (252, 7, [l0, l1, (0, x2), (0, s0), l4], [], h) = _
  refine g_jmp (t := 20) (by decide +kernel : decode (m_byt 252) 7 = .ok (.goto 13, 3)) (by decide) ?_
  refine g_iload_n (k := 3) (x := s0) (by decide +kernel : decode (m_byt 252) 20 = .ok (.iload_n 3, 1)) rfl ?_
  exact g_iret (by decide +kernel : decode (m_byt 252) 21 = .ok (.ireturn, 1)) (by decide +kernel)
theorem b_252_12 {Z : mZ} {l0 l1 l2 l3 l4 : mV} {h : mH} : m_run Z (252, 12, [l0, l1, l2, l3, l4], [], h) = some (.inl (0, (-53)), h) := by
  refine g_base (by decide +kernel : decode (m_byt 252) 12 = .ok (.bipush (-53), 2)) rfl rfl ?_
  show m_run Z (252, 14, [l0, l1, l2, l3, l4], [(0, (-53))], h) = _
  exact g_iret (by decide +kernel : decode (m_byt 252) 14 = .ok (.ireturn, 1)) (by decide +kernel)
theorem b_252_17 {Z : mZ} {l0 l1 l2 l3 l4 : mV} {h : mH} : m_run Z (252, 17, [l0, l1, l2, l3, l4], [], h) = some (.inl (0, (-51)), h) := by
  refine g_base (by decide +kernel : decode (m_byt 252) 17 = .ok (.bipush (-51), 2)) rfl rfl ?_
  show m_run Z (252, 19, [l0, l1, l2, l3, l4], [(0, (-51))], h) = _
  exact g_iret (by decide +kernel : decode (m_byt 252) 19 = .ok (.ireturn, 1)) (by decide +kernel)
theorem b_252_20 {Z : mZ} {l0 l1 l2 l4 : mV} {x3 : Int} {h : mH} : m_run Z (252, 20, [l0, l1, l2, (0, x3), l4], [], h) = some (.inl (0, x3), h) := by
  refine g_iload_n (k := 3) (x := x3) (by decide +kernel : decode (m_byt 252) 20 = .ok (.iload_n 3, 1)) rfl ?_
  exact g_iret (by decide +kernel : decode (m_byt 252) 21 = .ok (.ireturn, 1)) (by decide +kernel)
theorem e_253 {Z : mZ} {r0 : Nat} {x1 : Int} {x2 : Int} {h : mH} : m_cl Z 253 [(2, ((r0 : Nat) : Int)), (0, x1), (0, x2)] h = m_run Z (253, 0, [(2, ((r0 : Nat) : Int)), (0, x1), (0, x2), (9, 0), (9, 0)], [], h) := g_ent (k := 5) (by decide) (by decide +kernel) (Nat.le_of_ble_eq_true rfl) (by decide +kernel) rfl
theorem b_253_0 {Z : mZ} {l3 l4 : mV} {x1 x2 : Int} {r0 : Nat} {K : Nat → mK} {σ : Nat → Nat → Int} {n e s : Nat} (h0 : q_ob K n r0 6) : m_run Z (253, 0, [(2, ((r0 : Nat) : Int)), (0, x1), (0, x2), l3, l4], [], (K, σ, n, e, s)) = (m_cl Z 105 [(2, ((r0 : Nat) : Int)), (0, x1), (0, x2)] (K, σ, n, e, s)).bind (m_aft (m_run Z) 253 3 [(2, ((r0 : Nat) : Int)), (0, x1), (0, x2), l3, l4] []) := by
  refine g_aload_n (k := 0) (v := (2, ((r0 : Nat) : Int))) (by decide +kernel : decode (m_byt 253) 0 = .ok (.aload_n 0, 1)) rfl (Or.inl rfl) ?_
  refine g_iload_n (k := 1) (x := x1) (by decide +kernel : decode (m_byt 253) 1 = .ok (.iload_n 1, 1)) rfl ?_
  refine g_iload_n (k := 2) (x := x2) (by decide +kernel : decode (m_byt 253) 2 = .ok (.iload_n 2, 1)) rfl ?_
  exact g_inv (k := 1) (m' := 105) (np := 2) (as := [(2, ((r0 : Nat) : Int)), (0, x1), (0, x2)]) (by decide +kernel : decode (m_byt 253) 3 = .ok (.invokevirtual 50, 3)) (Or.inl ⟨rfl, rfl⟩) (by decide +kernel) (by decide +kernel) (by decide +kernel) (Nat.le_of_ble_eq_true rfl) rfl (Or.inr (g_rcv (by decide +kernel) h0))
theorem b_253_6 {Z : mZ} {l0 l1 l3 l4 : mV} {s0 x2 : Int} {h : mH} : m_run Z (253, 6, [l0, l1, (0, x2), l3, l4], [(0, s0)], h) = some (.inl (0, s0), h) := by
  refine g_istore_n (k := 3) (by decide +kernel : decode (m_byt 253) 6 = .ok (.istore_n 3, 1)) (Nat.le_of_ble_eq_true rfl) ?_
  show m_run Z (253, 7, [l0, l1, (0, x2), (0, s0), l4], [], h) = _
  refine g_jmp (t := 20) (by decide +kernel : decode (m_byt 253) 7 = .ok (.goto 13, 3)) (by decide) ?_
  refine g_iload_n (k := 3) (x := s0) (by decide +kernel : decode (m_byt 253) 20 = .ok (.iload_n 3, 1)) rfl ?_
  exact g_iret (by decide +kernel : decode (m_byt 253) 21 = .ok (.ireturn, 1)) (by decide +kernel)
theorem b_253_12 {Z : mZ} {l0 l1 l2 l3 l4 : mV} {h : mH} : m_run Z (253, 12, [l0, l1, l2, l3, l4], [], h) = some (.inl (0, (-53)), h) := by
  refine g_base (by decide +kernel : decode (m_byt 253) 12 = .ok (.bipush (-53), 2)) rfl rfl ?_
  show m_run Z (253, 14, [l0, l1, l2, l3, l4], [(0, (-53))], h) = _
  exact g_iret (by decide +kernel : decode (m_byt 253) 14 = .ok (.ireturn, 1)) (by decide +kernel)
theorem b_253_17 {Z : mZ} {l0 l1 l2 l3 l4 : mV} {h : mH} : m_run Z (253, 17, [l0, l1, l2, l3, l4], [], h) = some (.inl (0, (-51)), h) := by
  refine g_base (by decide +kernel : decode (m_byt 253) 17 = .ok (.bipush (-51), 2)) rfl rfl ?_
  show m_run Z (253, 19, [l0, l1, l2, l3, l4], [(0, (-51))], h) = _
  exact g_iret (by decide +kernel : decode (m_byt 253) 19 = .ok (.ireturn, 1)) (by decide +kernel)
theorem b_253_20 {Z : mZ} {l0 l1 l2 l4 : mV} {x3 : Int} {h : mH} : m_run Z (253, 20, [l0, l1, l2, (0, x3), l4], [], h) = some (.inl (0, x3), h) := by
  refine g_iload_n (k := 3) (x := x3) (by decide +kernel : decode (m_byt 253) 20 = .ok (.iload_n 3, 1)) rfl ?_
  exact g_iret (by decide +kernel : decode (m_byt 253) 21 = .ok (.ireturn, 1)) (by decide +kernel)
theorem e_254 {Z : mZ} {r0 : Nat} {x1 : Int} {x2 : Int} {h : mH} : m_cl Z 254 [(2, ((r0 : Nat) : Int)), (0, x1), (0, x2)] h = m_run Z (254, 0, [(2, ((r0 : Nat) : Int)), (0, x1), (0, x2), (9, 0), (9, 0)], [], h) := g_ent (k := 5) (by decide) (by decide +kernel) (Nat.le_of_ble_eq_true rfl) (by decide +kernel) rfl
theorem b_254_0 {Z : mZ} {l3 l4 : mV} {x1 x2 : Int} {r0 : Nat} {K : Nat → mK} {σ : Nat → Nat → Int} {n e s : Nat} (h0 : q_ob K n r0 6) : m_run Z (254, 0, [(2, ((r0 : Nat) : Int)), (0, x1), (0, x2), l3, l4], [], (K, σ, n, e, s)) = (m_cl Z 106 [(2, ((r0 : Nat) : Int)), (0, x1), (0, x2)] (K, σ, n, e, s)).bind (m_aft (m_run Z) 254 3 [(2, ((r0 : Nat) : Int)), (0, x1), (0, x2), l3, l4] []) := by
  refine g_aload_n (k := 0) (v := (2, ((r0 : Nat) : Int))) (by decide +kernel : decode (m_byt 254) 0 = .ok (.aload_n 0, 1)) rfl (Or.inl rfl) ?_
  refine g_iload_n (k := 1) (x := x1) (by decide +kernel : decode (m_byt 254) 1 = .ok (.iload_n 1, 1)) rfl ?_
  refine g_iload_n (k := 2) (x := x2) (by decide +kernel : decode (m_byt 254) 2 = .ok (.iload_n 2, 1)) rfl ?_
  exact g_inv (k := 1) (m' := 106) (np := 2) (as := [(2, ((r0 : Nat) : Int)), (0, x1), (0, x2)]) (by decide +kernel : decode (m_byt 254) 3 = .ok (.invokevirtual 53, 3)) (Or.inl ⟨rfl, rfl⟩) (by decide +kernel) (by decide +kernel) (by decide +kernel) (Nat.le_of_ble_eq_true rfl) rfl (Or.inr (g_rcv (by decide +kernel) h0))
theorem b_254_6 {Z : mZ} {l0 l1 l3 l4 : mV} {s0 x2 : Int} {h : mH} : m_run Z (254, 6, [l0, l1, (0, x2), l3, l4], [(0, s0)], h) = some (.inl (0, s0), h) := by
  refine g_istore_n (k := 3) (by decide +kernel : decode (m_byt 254) 6 = .ok (.istore_n 3, 1)) (Nat.le_of_ble_eq_true rfl) ?_
  show m_run Z (254, 7, [l0, l1, (0, x2), (0, s0), l4], [], h) = _
  refine g_jmp (t := 15) (by decide +kernel : decode (m_byt 254) 7 = .ok (.goto 8, 3)) (by decide) ?_
  refine g_iload_n (k := 3) (x := s0) (by decide +kernel : decode (m_byt 254) 15 = .ok (.iload_n 3, 1)) rfl ?_
  exact g_iret (by decide +kernel : decode (m_byt 254) 16 = .ok (.ireturn, 1)) (by decide +kernel)
theorem b_254_12 {Z : mZ} {l0 l1 l2 l3 l4 : mV} {h : mH} : m_run Z (254, 12, [l0, l1, l2, l3, l4], [], h) = some (.inl (0, (-53)), h) := by
  refine g_base (by decide +kernel : decode (m_byt 254) 12 = .ok (.bipush (-53), 2)) rfl rfl ?_
  show m_run Z (254, 14, [l0, l1, l2, l3, l4], [(0, (-53))], h) = _
  exact g_iret (by decide +kernel : decode (m_byt 254) 14 = .ok (.ireturn, 1)) (by decide +kernel)
theorem b_254_15 {Z : mZ} {l0 l1 l2 l4 : mV} {x3 : Int} {h : mH} : m_run Z (254, 15, [l0, l1, l2, (0, x3), l4], [], h) = some (.inl (0, x3), h) := by
  refine g_iload_n (k := 3) (x := x3) (by decide +kernel : decode (m_byt 254) 15 = .ok (.iload_n 3, 1)) rfl ?_
  exact g_iret (by decide +kernel : decode (m_byt 254) 16 = .ok (.ireturn, 1)) (by decide +kernel)
theorem e_255 {Z : mZ} {r0 : Nat} {x1 : Int} {x2 : Int} {h : mH} : m_cl Z 255 [(2, ((r0 : Nat) : Int)), (0, x1), (0, x2)] h = m_run Z (255, 0, [(2, ((r0 : Nat) : Int)), (0, x1), (0, x2), (9, 0), (9, 0)], [], h) := g_ent (k := 5) (by decide) (by decide +kernel) (Nat.le_of_ble_eq_true rfl) (by decide +kernel) rfl
theorem b_255_0 {Z : mZ} {l3 l4 : mV} {x1 x2 : Int} {r0 : Nat} {K : Nat → mK} {σ : Nat → Nat → Int} {n e s : Nat} (h0 : q_ob K n r0 6) : m_run Z (255, 0, [(2, ((r0 : Nat) : Int)), (0, x1), (0, x2), l3, l4], [], (K, σ, n, e, s)) = (m_cl Z 107 [(2, ((r0 : Nat) : Int)), (0, x1), (0, x2)] (K, σ, n, e, s)).bind (m_aft (m_run Z) 255 3 [(2, ((r0 : Nat) : Int)), (0, x1), (0, x2), l3, l4] []) := by
  refine g_aload_n (k := 0) (v := (2, ((r0 : Nat) : Int))) (by decide +kernel : decode (m_byt 255) 0 = .ok (.aload_n 0, 1)) rfl (Or.inl rfl) ?_
  refine g_iload_n (k := 1) (x := x1) (by decide +kernel : decode (m_byt 255) 1 = .ok (.iload_n 1, 1)) rfl ?_
  refine g_iload_n (k := 2) (x := x2) (by decide +kernel : decode (m_byt 255) 2 = .ok (.iload_n 2, 1)) rfl ?_
  exact g_inv (k := 1) (m' := 107) (np := 2) (as := [(2, ((r0 : Nat) : Int)), (0, x1), (0, x2)]) (by decide +kernel : decode (m_byt 255) 3 = .ok (.invokevirtual 56, 3)) (Or.inl ⟨rfl, rfl⟩) (by decide +kernel) (by decide +kernel) (by decide +kernel) (Nat.le_of_ble_eq_true rfl) rfl (Or.inr (g_rcv (by decide +kernel) h0))
theorem b_255_6 {Z : mZ} {l0 l1 l3 l4 : mV} {s0 x2 : Int} {h : mH} : m_run Z (255, 6, [l0, l1, (0, x2), l3, l4], [(0, s0)], h) = some (.inl (0, s0), h) := by
  refine g_istore_n (k := 3) (by decide +kernel : decode (m_byt 255) 6 = .ok (.istore_n 3, 1)) (Nat.le_of_ble_eq_true rfl) ?_
  show m_run Z (255, 7, [l0, l1, (0, x2), (0, s0), l4], [], h) = _
  refine g_jmp (t := 15) (by decide +kernel : decode (m_byt 255) 7 = .ok (.goto 8, 3)) (by decide) ?_
  refine g_iload_n (k := 3) (x := s0) (by decide +kernel : decode (m_byt 255) 15 = .ok (.iload_n 3, 1)) rfl ?_
  exact g_iret (by decide +kernel : decode (m_byt 255) 16 = .ok (.ireturn, 1)) (by decide +kernel)
theorem b_255_12 {Z : mZ} {l0 l1 l2 l3 l4 : mV} {h : mH} : m_run Z (255, 12, [l0, l1, l2, l3, l4], [], h) = some (.inl (0, (-53)), h) := by
  refine g_base (by decide +kernel : decode (m_byt 255) 12 = .ok (.bipush (-53), 2)) rfl rfl ?_
  show m_run Z (255, 14, [l0, l1, l2, l3, l4], [(0, (-53))], h) = _
  exact g_iret (by decide +kernel : decode (m_byt 255) 14 = .ok (.ireturn, 1)) (by decide +kernel)
theorem b_255_15 {Z : mZ} {l0 l1 l2 l4 : mV} {x3 : Int} {h : mH} : m_run Z (255, 15, [l0, l1, l2, (0, x3), l4], [], h) = some (.inl (0, x3), h) := by
  refine g_iload_n (k := 3) (x := x3) (by decide +kernel : decode (m_byt 255) 15 = .ok (.iload_n 3, 1)) rfl ?_
  exact g_iret (by decide +kernel : decode (m_byt 255) 16 = .ok (.ireturn, 1)) (by decide +kernel)
theorem e_256 {Z : mZ} {r0 : Nat} {x1 : Int} {x2 : Int} {x3 : Int} {x4 : Int} {x5 : Int} {h : mH} : m_cl Z 256 [(2, ((r0 : Nat) : Int)), (0, x1), (0, x2), (0, x3), (0, x4), (0, x5)] h = m_run Z (256, 0, [(2, ((r0 : Nat) : Int)), (0, x1), (0, x2), (0, x3), (0, x4), (0, x5), (9, 0), (9, 0)], [], h) := g_ent (k := 8) (by decide) (by decide +kernel) (Nat.le_of_ble_eq_true rfl) (by decide +kernel) rfl
theorem b_256_0 {Z : mZ} {l6 l7 : mV} {x1 x2 x3 x4 x5 : Int} {r0 : Nat} {K : Nat → mK} {σ : Nat → Nat → Int} {n e s : Nat} (h0 : q_ob K n r0 6) : m_run Z (256, 0, [(2, ((r0 : Nat) : Int)), (0, x1), (0, x2), (0, x3), (0, x4), (0, x5), l6, l7], [], (K, σ, n, e, s)) = (m_cl Z 109 [(2, ((r0 : Nat) : Int)), (0, x1), (0, x2), (0, x3), (0, x4), (0, x5)] (K, σ, n, e, s)).bind (m_aft (m_run Z) 256 8 [(2, ((r0 : Nat) : Int)), (0, x1), (0, x2), (0, x3), (0, x4), (0, x5), l6, l7] []) := by
  refine g_aload_n (k := 0) (v := (2, ((r0 : Nat) : Int))) (by decide +kernel : decode (m_byt 256) 0 = .ok (.aload_n 0, 1)) rfl (Or.inl rfl) ?_
  refine g_iload_n (k := 1) (x := x1) (by decide +kernel : decode (m_byt 256) 1 = .ok (.iload_n 1, 1)) rfl ?_
  refine g_iload_n (k := 2) (x := x2) (by decide +kernel : decode (m_byt 256) 2 = .ok (.iload_n 2, 1)) rfl ?_
  refine g_iload_n (k := 3) (x := x3) (by decide +kernel : decode (m_byt 256) 3 = .ok (.iload_n 3, 1)) rfl ?_
  refine g_iload (k := 4) (x := x4) (by decide +kernel : decode (m_byt 256) 4 = .ok (.iload 4, 2)) rfl ?_
  refine g_iload (k := 5) (x := x5) (by decide +kernel : decode (m_byt 256) 6 = .ok (.iload 5, 2)) rfl ?_
  exact g_inv (k := 1) (m' := 109) (np := 5) (as := [(2, ((r0 : Nat) : Int)), (0, x1), (0, x2), (0, x3), (0, x4), (0, x5)]) (by decide +kernel : decode (m_byt 256) 8 = .ok (.invokevirtual 59, 3)) (Or.inl ⟨rfl, rfl⟩) (by decide +kernel) (by decide +kernel) (by decide +kernel) (Nat.le_of_ble_eq_true rfl) rfl (Or.inr (g_rcv (by decide +kernel) h0))
theorem b_256_11 {Z : mZ} {l0 l1 l2 l3 l4 l6 l7 : mV} {s0 x5 : Int} {h : mH} : m_run Z (256, 11, [l0, l1, l2, l3, l4, (0, x5), l6, l7], [(0, s0)], h) = some (.inl (0, s0), h) := by
  refine g_istore (k := 6) (by decide +kernel : decode (m_byt 256) 11 = .ok (.istore 6, 2)) (Nat.le_of_ble_eq_true rfl) ?_
  show m_run Z (256, 13, [l0, l1, l2, l3, l4, (0, x5), (0, s0), l7], [], h) = _
  refine g_jmp (t := 31) (by decide +kernel : decode (m_byt 256) 13 = .ok (.goto 18, 3)) (by decide) ?_
  refine g_iload (k := 6) (x := s0) (by decide +kernel : decode (m_byt 256) 31 = .ok (.iload 6, 2)) rfl ?_
  exact g_iret (by decide +kernel : decode (m_byt 256) 33 = .ok (.ireturn, 1)) (by decide +kernel)
theorem b_256_18 {Z : mZ} {l0 l1 l2 l3 l4 l5 l6 l7 : mV} {h : mH} : m_run Z (256, 18, [l0, l1, l2, l3, l4, l5, l6, l7], [], h) = some (.inl (0, (-53)), h) := by
  refine g_base (by decide +kernel : decode (m_byt 256) 18 = .ok (.bipush (-53), 2)) rfl rfl ?_
  show m_run Z (256, 20, [l0, l1, l2, l3, l4, l5, l6, l7], [(0, (-53))], h) = _
  exact g_iret (by decide +kernel : decode (m_byt 256) 20 = .ok (.ireturn, 1)) (by decide +kernel)
theorem b_256_23 {Z : mZ} {l0 l1 l2 l3 l4 l5 l6 l7 : mV} {h : mH} : m_run Z (256, 23, [l0, l1, l2, l3, l4, l5, l6, l7], [], h) = some (.inl (0, (-51)), h) := by
  refine g_base (by decide +kernel : decode (m_byt 256) 23 = .ok (.bipush (-51), 2)) rfl rfl ?_
  show m_run Z (256, 25, [l0, l1, l2, l3, l4, l5, l6, l7], [(0, (-51))], h) = _
  exact g_iret (by decide +kernel : decode (m_byt 256) 25 = .ok (.ireturn, 1)) (by decide +kernel)
theorem b_256_28 {Z : mZ} {l0 l1 l2 l3 l4 l5 l6 l7 : mV} {h : mH} : m_run Z (256, 28, [l0, l1, l2, l3, l4, l5, l6, l7], [], h) = some (.inl (0, (-52)), h) := by
  refine g_base (by decide +kernel : decode (m_byt 256) 28 = .ok (.bipush (-52), 2)) rfl rfl ?_
  show m_run Z (256, 30, [l0, l1, l2, l3, l4, l5, l6, l7], [(0, (-52))], h) = _
  exact g_iret (by decide +kernel : decode (m_byt 256) 30 = .ok (.ireturn, 1)) (by decide +kernel)
theorem b_256_31 {Z : mZ} {l0 l1 l2 l3 l4 l5 l7 : mV} {x6 : Int} {h : mH} : m_run Z (256, 31, [l0, l1, l2, l3, l4, l5, (0, x6), l7], [], h) = some (.inl (0, x6), h) := by
  refine g_iload (k := 6) (x := x6) (by decide +kernel : decode (m_byt 256) 31 = .ok (.iload 6, 2)) rfl ?_
  exact g_iret (by decide +kernel : decode (m_byt 256) 33 = .ok (.ireturn, 1)) (by decide +kernel)
theorem e_257 {Z : mZ} {r0 : Nat} {x1 : Int} {x2 : Int} {x3 : Int} {h : mH} : m_cl Z 257 [(2, ((r0 : Nat) : Int)), (0, x1), (0, x2), (0, x3)] h = m_run Z (257, 0, [(2, ((r0 : Nat) : Int)), (0, x1), (0, x2), (0, x3), (9, 0), (9, 0)], [], h) := g_ent (k := 6) (by decide) (by decide +kernel) (Nat.le_of_ble_eq_true rfl) (by decide +kernel) rfl
theorem b_257_0 {Z : mZ} {l4 l5 : mV} {x1 x2 x3 : Int} {r0 : Nat} {K : Nat → mK} {σ : Nat → Nat → Int} {n e s : Nat} (h0 : q_ob K n r0 6) : m_run Z (257, 0, [(2, ((r0 : Nat) : Int)), (0, x1), (0, x2), (0, x3), l4, l5], [], (K, σ, n, e, s)) = (m_cl Z 110 [(2, ((r0 : Nat) : Int)), (0, x1), (0, x2), (0, x3)] (K, σ, n, e, s)).bind (m_aft (m_run Z) 257 4 [(2, ((r0 : Nat) : Int)), (0, x1), (0, x2), (0, x3), l4, l5] []) := by
  refine g_aload_n (k := 0) (v := (2, ((r0 : Nat) : Int))) (by decide +kernel : decode (m_byt 257) 0 = .ok (.aload_n 0, 1)) rfl (Or.inl rfl) ?_
  refine g_iload_n (k := 1) (x := x1) (by decide +kernel : decode (m_byt 257) 1 = .ok (.iload_n 1, 1)) rfl ?_
  refine g_iload_n (k := 2) (x := x2) (by decide +kernel : decode (m_byt 257) 2 = .ok (.iload_n 2, 1)) rfl ?_
  refine g_iload_n (k := 3) (x := x3) (by decide +kernel : decode (m_byt 257) 3 = .ok (.iload_n 3, 1)) rfl ?_
  exact g_inv (k := 1) (m' := 110) (np := 3) (as := [(2, ((r0 : Nat) : Int)), (0, x1), (0, x2), (0, x3)]) (by decide +kernel : decode (m_byt 257) 4 = .ok (.invokevirtual 63, 3)) (Or.inl ⟨rfl, rfl⟩) (by decide +kernel) (by decide +kernel) (by decide +kernel) (Nat.le_of_ble_eq_true rfl) rfl (Or.inr (g_rcv (by decide +kernel) h0))
theorem b_257_7 {Z : mZ} {l0 l1 l2 l4 l5 : mV} {s0 x3 : Int} {h : mH} : m_run Z (257, 7, [l0, l1, l2, (0, x3), l4, l5], [(0, s0)], h) = if w32 s0 = 0 then m_run Z (257, 31, [l0, l1, l2, (0, x3), (0, s0), l5], [], h) else m_run Z (257, 27, [l0, l1, l2, (0, x3), (0, s0), l5], [], h) := by
  refine g_istore (k := 4) (by decide +kernel : decode (m_byt 257) 7 = .ok (.istore 4, 2)) (Nat.le_of_ble_eq_true rfl) ?_
  show m_run Z (257, 9, [l0, l1, l2, (0, x3), (0, s0), l5], [], h) = _
  refine g_jmp (t := 22) (by decide +kernel : decode (m_byt 257) 9 = .ok (.goto 13, 3)) (by decide) ?_
  refine g_iload (k := 4) (x := s0) (by decide +kernel : decode (m_byt 257) 22 = .ok (.iload 4, 2)) rfl ?_
  exact g_brq (t := 31) (off := 7) (by decide +kernel : decode (m_byt 257) 24 = .ok (.ifCond .eq 7, 3)) rfl rfl (by decide)
theorem b_257_14 {Z : mZ} {l0 l1 l2 l3 l4 l5 : mV} {h : mH} : m_run Z (257, 14, [l0, l1, l2, l3, l4, l5], [], h) = some (.inl (0, (-53)), h) := by
  refine g_base (by decide +kernel : decode (m_byt 257) 14 = .ok (.bipush (-53), 2)) rfl rfl ?_
  show m_run Z (257, 16, [l0, l1, l2, l3, l4, l5], [(0, (-53))], h) = _
  exact g_iret (by decide +kernel : decode (m_byt 257) 16 = .ok (.ireturn, 1)) (by decide +kernel)
theorem b_257_19 {Z : mZ} {l0 l1 l2 l3 l4 l5 : mV} {h : mH} : m_run Z (257, 19, [l0, l1, l2, l3, l4, l5], [], h) = some (.inl (0, (-51)), h) := by
  refine g_base (by decide +kernel : decode (m_byt 257) 19 = .ok (.bipush (-51), 2)) rfl rfl ?_
  show m_run Z (257, 21, [l0, l1, l2, l3, l4, l5], [(0, (-51))], h) = _
  exact g_iret (by decide +kernel : decode (m_byt 257) 21 = .ok (.ireturn, 1)) (by decide +kernel)
theorem b_257_22 {Z : mZ} {l0 l1 l2 l3 l5 : mV} {x4 : Int} {h : mH} : m_run Z (257, 22, [l0, l1, l2, l3, (0, x4), l5], [], h) = if w32 x4 = 0 then m_run Z (257, 31, [l0, l1, l2, l3, (0, x4), l5], [], h) else m_run Z (257, 27, [l0, l1, l2, l3, (0, x4), l5], [], h) := by
  refine g_iload (k := 4) (x := x4) (by decide +kernel : decode (m_byt 257) 22 = .ok (.iload 4, 2)) rfl ?_
  exact g_brq (t := 31) (off := 7) (by decide +kernel : decode (m_byt 257) 24 = .ok (.ifCond .eq 7, 3)) rfl rfl (by decide)
theorem b_257_27 {Z : mZ} {l0 l1 l2 l3 l4 l5 : mV} {h : mH} : m_run Z (257, 27, [l0, l1, l2, l3, l4, l5], [], h) = some (.inl (0, 1), h) := by
  refine g_base (by decide +kernel : decode (m_byt 257) 27 = .ok (.iconst 1, 1)) rfl rfl ?_
  show m_run Z (257, 28, [l0, l1, l2, l3, l4, l5], [(0, 1)], h) = _
  refine g_jmp (t := 32) (by decide +kernel : decode (m_byt 257) 28 = .ok (.goto 4, 3)) (by decide) ?_
  exact g_iret (by decide +kernel : decode (m_byt 257) 32 = .ok (.ireturn, 1)) (by decide +kernel)
theorem b_257_31 {Z : mZ} {l0 l1 l2 l3 l4 l5 : mV} {h : mH} : m_run Z (257, 31, [l0, l1, l2, l3, l4, l5], [], h) = m_run Z (257, 32, [l0, l1, l2, l3, l4, l5], [(0, 0)], h) := by
  refine g_base (by decide +kernel : decode (m_byt 257) 31 = .ok (.iconst 0, 1)) rfl rfl ?_
  show m_run Z (257, 32, [l0, l1, l2, l3, l4, l5], [(0, 0)], h) = _
  rfl
theorem b_257_32 {Z : mZ} {l0 l1 l2 l3 l4 l5 : mV} {s0 : Int} {h : mH} : m_run Z (257, 32, [l0, l1, l2, l3, l4, l5], [(0, s0)], h) = some (.inl (0, s0), h) := by
  exact g_iret (by decide +kernel : decode (m_byt 257) 32 = .ok (.ireturn, 1)) (by decide +kernel)
theorem e_258 {Z : mZ} {r0 : Nat} {x1 : Int} {x2 : Int} {x3 : Int} {x4 : Int} {x5 : Int} {h : mH} : m_cl Z 258 [(2, ((r0 : Nat) : Int)), (0, x1), (0, x2), (0, x3), (0, x4), (0, x5)] h = m_run Z (258, 0, [(2, ((r0 : Nat) : Int)), (0, x1), (0, x2), (0, x3), (0, x4), (0, x5), (9, 0), (9, 0)], [], h) := g_ent (k := 8) (by decide) (by decide +kernel) (Nat.le_of_ble_eq_true rfl) (by decide +kernel) rfl
theorem b_258_0 {Z : mZ} {l6 l7 : mV} {x1 x2 x3 x4 x5 : Int} {r0 : Nat} {K : Nat → mK} {σ : Nat → Nat → Int} {n e s : Nat} (h0 : q_ob K n r0 6) : m_run Z (258, 0, [(2, ((r0 : Nat) : Int)), (0, x1), (0, x2), (0, x3), (0, x4), (0, x5), l6, l7], [], (K, σ, n, e, s)) = (m_cl Z 111 [(2, ((r0 : Nat) : Int)), (0, x1), (0, x2), (0, x3), (0, x4), (0, x5)] (K, σ, n, e, s)).bind (m_aft (m_run Z) 258 8 [(2, ((r0 : Nat) : Int)), (0, x1), (0, x2), (0, x3), (0, x4), (0, x5), l6, l7] []) := by
  refine g_aload_n (k := 0) (v := (2, ((r0 : Nat) : Int))) (by decide +kernel : decode (m_byt 258) 0 = .ok (.aload_n 0, 1)) rfl (Or.inl rfl) ?_
  refine g_iload_n (k := 1) (x := x1) (by decide +kernel : decode (m_byt 258) 1 = .ok (.iload_n 1, 1)) rfl ?_
  refine g_iload_n (k := 2) (x := x2) (by decide +kernel : decode (m_byt 258) 2 = .ok (.iload_n 2, 1)) rfl ?_
  refine g_iload_n (k := 3) (x := x3) (by decide +kernel : decode (m_byt 258) 3 = .ok (.iload_n 3, 1)) rfl ?_
  refine g_iload (k := 4) (x := x4) (by decide +kernel : decode (m_byt 258) 4 = .ok (.iload 4, 2)) rfl ?_
  refine g_iload (k := 5) (x := x5) (by decide +kernel : decode (m_byt 258) 6 = .ok (.iload 5, 2)) rfl ?_
  exact g_inv (k := 1) (m' := 111) (np := 5) (as := [(2, ((r0 : Nat) : Int)), (0, x1), (0, x2), (0, x3), (0, x4), (0, x5)]) (by decide +kernel : decode (m_byt 258) 8 = .ok (.invokevirtual 67, 3)) (Or.inl ⟨rfl, rfl⟩) (by decide +kernel) (by decide +kernel) (by decide +kernel) (Nat.le_of_ble_eq_true rfl) rfl (Or.inr (g_rcv (by decide +kernel) h0))
theorem b_258_11 {Z : mZ} {l0 l1 l2 l3 l4 l6 l7 : mV} {s0 x5 : Int} {h : mH} : m_run Z (258, 11, [l0, l1, l2, l3, l4, (0, x5), l6, l7], [(0, s0)], h) = some (.inl (0, s0), h) := by
  refine g_istore (k := 6) (by decide +kernel : decode (m_byt 258) 11 = .ok (.istore 6, 2)) (Nat.le_of_ble_eq_true rfl) ?_
  show m_run Z (258, 13, [l0, l1, l2, l3, l4, (0, x5), (0, s0), l7], [], h) = _
  refine g_jmp (t := 31) (by decide +kernel : decode (m_byt 258) 13 = .ok (.goto 18, 3)) (by decide) ?_
  refine g_iload (k := 6) (x := s0) (by decide +kernel : decode (m_byt 258) 31 = .ok (.iload 6, 2)) rfl ?_
  exact g_iret (by decide +kernel : decode (m_byt 258) 33 = .ok (.ireturn, 1)) (by decide +kernel)
theorem b_258_18 {Z : mZ} {l0 l1 l2 l3 l4 l5 l6 l7 : mV} {h : mH} : m_run Z (258, 18, [l0, l1, l2, l3, l4, l5, l6, l7], [], h) = some (.inl (0, (-53)), h) := by
  refine g_base (by decide +kernel : decode (m_byt 258) 18 = .ok (.bipush (-53), 2)) rfl rfl ?_
  show m_run Z (258, 20, [l0, l1, l2, l3, l4, l5, l6, l7], [(0, (-53))], h) = _
  exact g_iret (by decide +kernel : decode (m_byt 258) 20 = .ok (.ireturn, 1)) (by decide +kernel)
theorem b_258_23 {Z : mZ} {l0 l1 l2 l3 l4 l5 l6 l7 : mV} {h : mH} : m_run Z (258, 23, [l0, l1, l2, l3, l4, l5, l6, l7], [], h) = some (.inl (0, (-51)), h) := by
  refine g_base (by decide +kernel : decode (m_byt 258) 23 = .ok (.bipush (-51), 2)) rfl rfl ?_
  show m_run Z (258, 25, [l0, l1, l2, l3, l4, l5, l6, l7], [(0, (-51))], h) = _
  exact g_iret (by decide +kernel : decode (m_byt 258) 25 = .ok (.ireturn, 1)) (by decide +kernel)
theorem b_258_28 {Z : mZ} {l0 l1 l2 l3 l4 l5 l6 l7 : mV} {h : mH} : m_run Z (258, 28, [l0, l1, l2, l3, l4, l5, l6, l7], [], h) = some (.inl (0, (-52)), h) := by
  refine g_base (by decide +kernel : decode (m_byt 258) 28 = .ok (.bipush (-52), 2)) rfl rfl ?_
  show m_run Z (258, 30, [l0, l1, l2, l3, l4, l5, l6, l7], [(0, (-52))], h) = _
  exact g_iret (by decide +kernel : decode (m_byt 258) 30 = .ok (.ireturn, 1)) (by decide +kernel)
theorem b_258_31 {Z : mZ} {l0 l1 l2 l3 l4 l5 l7 : mV} {x6 : Int} {h : mH} : m_run Z (258, 31, [l0, l1, l2, l3, l4, l5, (0, x6), l7], [], h) = some (.inl (0, x6), h) := by
  refine g_iload (k := 6) (x := x6) (by decide +kernel : decode (m_byt 258) 31 = .ok (.iload 6, 2)) rfl ?_
  exact g_iret (by decide +kernel : decode (m_byt 258) 33 = .ok (.ireturn, 1)) (by decide +kernel)
theorem e_259 {Z : mZ} {r0 : Nat} {x1 : Int} {x2 : Int} {x3 : Int} {x4 : Int} {h : mH} : m_cl Z 259 [(2, ((r0 : Nat) : Int)), (0, x1), (0, x2), (0, x3), (0, x4)] h = m_run Z (259, 0, [(2, ((r0 : Nat) : Int)), (0, x1), (0, x2), (0, x3), (0, x4), (9, 0), (9, 0)], [], h) := g_ent (k := 7) (by decide) (by decide +kernel) (Nat.le_of_ble_eq_true rfl) (by decide +kernel) rfl
theorem b_259_0 {Z : mZ} {l5 l6 : mV} {x1 x2 x3 x4 : Int} {r0 : Nat} {K : Nat → mK} {σ : Nat → Nat → Int} {n e s : Nat} (h0 : q_ob K n r0 6) : m_run Z (259, 0, [(2, ((r0 : Nat) : Int)), (0, x1), (0, x2), (0, x3), (0, x4), l5, l6], [], (K, σ, n, e, s)) = (m_cl Z 112 [(2, ((r0 : Nat) : Int)), (0, x1), (0, x2), (0, x3), (0, x4)] (K, σ, n, e, s)).bind (m_aft (m_run Z) 259 6 [(2, ((r0 : Nat) : Int)), (0, x1), (0, x2), (0, x3), (0, x4), l5, l6] []) := by
  refine g_aload_n (k := 0) (v := (2, ((r0 : Nat) : Int))) (by decide +kernel : decode (m_byt 259) 0 = .ok (.aload_n 0, 1)) rfl (Or.inl rfl) ?_
  refine g_iload_n (k := 1) (x := x1) (by decide +kernel : decode (m_byt 259) 1 = .ok (.iload_n 1, 1)) rfl ?_
  refine g_iload_n (k := 2) (x := x2) (by decide +kernel : decode (m_byt 259) 2 = .ok (.iload_n 2, 1)) rfl ?_
  refine g_iload_n (k := 3) (x := x3) (by decide +kernel : decode (m_byt 259) 3 = .ok (.iload_n 3, 1)) rfl ?_
  refine g_iload (k := 4) (x := x4) (by decide +kernel : decode (m_byt 259) 4 = .ok (.iload 4, 2)) rfl ?_
  exact g_inv (k := 1) (m' := 112) (np := 4) (as := [(2, ((r0 : Nat) : Int)), (0, x1), (0, x2), (0, x3), (0, x4)]) (by decide +kernel : decode (m_byt 259) 6 = .ok (.invokevirtual 70, 3)) (Or.inl ⟨rfl, rfl⟩) (by decide +kernel) (by decide +kernel) (by decide +kernel) (Nat.le_of_ble_eq_true rfl) rfl (Or.inr (g_rcv (by decide +kernel) h0))
theorem b_259_9 {Z : mZ} {l0 l1 l2 l3 l5 l6 : mV} {s0 x4 : Int} {h : mH} : m_run Z (259, 9, [l0, l1, l2, l3, (0, x4), l5, l6], [(0, s0)], h) = some (.inl (0, s0), h) := by
  refine g_istore (k := 5) (by decide +kernel : decode (m_byt 259) 9 = .ok (.istore 5, 2)) (Nat.le_of_ble_eq_true rfl) ?_
  show m_run Z (259, 11, [l0, l1, l2, l3, (0, x4), (0, s0), l6], [], h) = _
  refine g_jmp (t := 29) (by decide +kernel : decode (m_byt 259) 11 = .ok (.goto 18, 3)) (by decide) ?_
  refine g_iload (k := 5) (x := s0) (by decide +kernel : decode (m_byt 259) 29 = .ok (.iload 5, 2)) rfl ?_
  exact g_iret (by decide +kernel : decode (m_byt 259) 31 = .ok (.ireturn, 1)) (by decide +kernel)
theorem b_259_16 {Z : mZ} {l0 l1 l2 l3 l4 l5 l6 : mV} {h : mH} : m_run Z (259, 16, [l0, l1, l2, l3, l4, l5, l6], [], h) = some (.inl (0, (-53)), h) := by
  refine g_base (by decide +kernel : decode (m_byt 259) 16 = .ok (.bipush (-53), 2)) rfl rfl ?_
  show m_run Z (259, 18, [l0, l1, l2, l3, l4, l5, l6], [(0, (-53))], h) = _
  exact g_iret (by decide +kernel : decode (m_byt 259) 18 = .ok (.ireturn, 1)) (by decide +kernel)
theorem b_259_21 {Z : mZ} {l0 l1 l2 l3 l4 l5 l6 : mV} {h : mH} : m_run Z (259, 21, [l0, l1, l2, l3, l4, l5, l6], [], h) = some (.inl (0, (-51)), h) := by
  refine g_base (by decide +kernel : decode (m_byt 259) 21 = .ok (.bipush (-51), 2)) rfl rfl ?_
  show m_run Z (259, 23, [l0, l1, l2, l3, l4, l5, l6], [(0, (-51))], h) = _
  exact g_iret (by decide +kernel : decode (m_byt 259) 23 = .ok (.ireturn, 1)) (by decide +kernel)
theorem b_259_26 {Z : mZ} {l0 l1 l2 l3 l4 l5 l6 : mV} {h : mH} : m_run Z (259, 26, [l0, l1, l2, l3, l4, l5, l6], [], h) = some (.inl (0, (-52)), h) := by
  refine g_base (by decide +kernel : decode (m_byt 259) 26 = .ok (.bipush (-52), 2)) rfl rfl ?_
  show m_run Z (259, 28, [l0, l1, l2, l3, l4, l5, l6], [(0, (-52))], h) = _
  exact g_iret (by decide +kernel : decode (m_byt 259) 28 = .ok (.ireturn, 1)) (by decide +kernel)
theorem b_259_29 {Z : mZ} {l0 l1 l2 l3 l4 l6 : mV} {x5 : Int} {h : mH} : m_run Z (259, 29, [l0, l1, l2, l3, l4, (0, x5), l6], [], h) = some (.inl (0, x5), h) := by
  refine g_iload (k := 5) (x := x5) (by decide +kernel : decode (m_byt 259) 29 = .ok (.iload 5, 2)) rfl ?_
  exact g_iret (by decide +kernel : decode (m_byt 259) 31 = .ok (.ireturn, 1)) (by decide +kernel)
theorem e_260 {Z : mZ} {r0 : Nat} {x1 : Int} {x2 : Int} {x3 : Int} {h : mH} : m_cl Z 260 [(2, ((r0 : Nat) : Int)), (0, x1), (0, x2), (0, x3)] h = m_run Z (260, 0, [(2, ((r0 : Nat) : Int)), (0, x1), (0, x2), (0, x3), (9, 0), (9, 0)], [], h) := g_ent (k := 6) (by decide) (by decide +kernel) (Nat.le_of_ble_eq_true rfl) (by decide +kernel) rfl
theorem b_260_0 {Z : mZ} {l4 l5 : mV} {x1 x2 x3 : Int} {r0 : Nat} {K : Nat → mK} {σ : Nat → Nat → Int} {n e s : Nat} (h0 : q_ob K n r0 6) : m_run Z (260, 0, [(2, ((r0 : Nat) : Int)), (0, x1), (0, x2), (0, x3), l4, l5], [], (K, σ, n, e, s)) = (m_cl Z 113 [(2, ((r0 : Nat) : Int)), (0, x1), (0, x2), (0, x3)] (K, σ, n, e, s)).bind (m_aft (m_run Z) 260 4 [(2, ((r0 : Nat) : Int)), (0, x1), (0, x2), (0, x3), l4, l5] []) := by
  refine g_aload_n (k := 0) (v := (2, ((r0 : Nat) : Int))) (by decide +kernel : decode (m_byt 260) 0 = .ok (.aload_n 0, 1)) rfl (Or.inl rfl) ?_
  refine g_iload_n (k := 1) (x := x1) (by decide +kernel : decode (m_byt 260) 1 = .ok (.iload_n 1, 1)) rfl ?_
  refine g_iload_n (k := 2) (x := x2) (by decide +kernel : decode (m_byt 260) 2 = .ok (.iload_n 2, 1)) rfl ?_
  refine g_iload_n (k := 3) (x := x3) (by decide +kernel : decode (m_byt 260) 3 = .ok (.iload_n 3, 1)) rfl ?_
  exact g_inv (k := 1) (m' := 113) (np := 3) (as := [(2, ((r0 : Nat) : Int)), (0, x1), (0, x2), (0, x3)]) (by decide +kernel : decode (m_byt 260) 4 = .ok (.invokevirtual 74, 3)) (Or.inl ⟨rfl, rfl⟩) (by decide +kernel) (by decide +kernel) (by decide +kernel) (Nat.le_of_ble_eq_true rfl) rfl (Or.inr (g_rcv (by decide +kernel) h0))
theorem b_260_7 {Z : mZ} {l0 l1 l2 l4 l5 : mV} {s0 x3 : Int} {h : mH} : m_run Z (260, 7, [l0, l1, l2, (0, x3), l4, l5], [(0, s0)], h) = some (.inl (0, s0), h) := by
  refine g_istore (k := 4) (by decide +kernel : decode (m_byt 260) 7 = .ok (.istore 4, 2)) (Nat.le_of_ble_eq_true rfl) ?_
  show m_run Z (260, 9, [l0, l1, l2, (0, x3), (0, s0), l5], [], h) = _
  refine g_jmp (t := 27) (by decide +kernel : decode (m_byt 260) 9 = .ok (.goto 18, 3)) (by decide) ?_
  refine g_iload (k := 4) (x := s0) (by decide +kernel : decode (m_byt 260) 27 = .ok (.iload 4, 2)) rfl ?_
  exact g_iret (by decide +kernel : decode (m_byt 260) 29 = .ok (.ireturn, 1)) (by decide +kernel)
theorem b_260_14 {Z : mZ} {l0 l1 l2 l3 l4 l5 : mV} {h : mH} : m_run Z (260, 14, [l0, l1, l2, l3, l4, l5], [], h) = some (.inl (0, (-53)), h) := by
  refine g_base (by decide +kernel : decode (m_byt 260) 14 = .ok (.bipush (-53), 2)) rfl rfl ?_
  show m_run Z (260, 16, [l0, l1, l2, l3, l4, l5], [(0, (-53))], h) = _
  exact g_iret (by decide +kernel : decode (m_byt 260) 16 = .ok (.ireturn, 1)) (by decide +kernel)
theorem b_260_19 {Z : mZ} {l0 l1 l2 l3 l4 l5 : mV} {h : mH} : m_run Z (260, 19, [l0, l1, l2, l3, l4, l5], [], h) = some (.inl (0, (-51)), h) := by
  refine g_base (by decide +kernel : decode (m_byt 260) 19 = .ok (.bipush (-51), 2)) rfl rfl ?_
  show m_run Z (260, 21, [l0, l1, l2, l3, l4, l5], [(0, (-51))], h) = _
  exact g_iret (by decide +kernel : decode (m_byt 260) 21 = .ok (.ireturn, 1)) (by decide +kernel)
theorem b_260_24 {Z : mZ} {l0 l1 l2 l3 l4 l5 : mV} {h : mH} : m_run Z (260, 24, [l0, l1, l2, l3, l4, l5], [], h) = some (.inl (0, (-52)), h) := by
  refine g_base (by decide +kernel : decode (m_byt 260) 24 = .ok (.bipush (-52), 2)) rfl rfl ?_
  show m_run Z (260, 26, [l0, l1, l2, l3, l4, l5], [(0, (-52))], h) = _
  exact g_iret (by decide +kernel : decode (m_byt 260) 26 = .ok (.ireturn, 1)) (by decide +kernel)
theorem b_260_27 {Z : mZ} {l0 l1 l2 l3 l5 : mV} {x4 : Int} {h : mH} : m_run Z (260, 27, [l0, l1, l2, l3, (0, x4), l5], [], h) = some (.inl (0, x4), h) := by
  refine g_iload (k := 4) (x := x4) (by decide +kernel : decode (m_byt 260) 27 = .ok (.iload 4, 2)) rfl ?_
  exact g_iret (by decide +kernel : decode (m_byt 260) 29 = .ok (.ireturn, 1)) (by decide +kernel)
theorem e_261 {Z : mZ} {r0 : Nat} {x1 : Int} {x2 : Int} {h : mH} : m_cl Z 261 [(2, ((r0 : Nat) : Int)), (0, x1), (0, x2)] h = m_run Z (261, 0, [(2, ((r0 : Nat) : Int)), (0, x1), (0, x2), (9, 0), (9, 0)], [], h) := g_ent (k := 5) (by decide) (by decide +kernel) (Nat.le_of_ble_eq_true rfl) (by decide +kernel) rfl
theorem b_261_0 {Z : mZ} {l3 l4 : mV} {x1 x2 : Int} {r0 : Nat} {K : Nat → mK} {σ : Nat → Nat → Int} {n e s : Nat} (h0 : q_ob K n r0 6) : m_run Z (261, 0, [(2, ((r0 : Nat) : Int)), (0, x1), (0, x2), l3, l4], [], (K, σ, n, e, s)) = (m_cl Z 114 [(2, ((r0 : Nat) : Int)), (0, x1), (0, x2)] (K, σ, n, e, s)).bind (m_aft (m_run Z) 261 3 [(2, ((r0 : Nat) : Int)), (0, x1), (0, x2), l3, l4] []) := by
  refine g_aload_n (k := 0) (v := (2, ((r0 : Nat) : Int))) (by decide +kernel : decode (m_byt 261) 0 = .ok (.aload_n 0, 1)) rfl (Or.inl rfl) ?_
  refine g_iload_n (k := 1) (x := x1) (by decide +kernel : decode (m_byt 261) 1 = .ok (.iload_n 1, 1)) rfl ?_
  refine g_iload_n (k := 2) (x := x2) (by decide +kernel : decode (m_byt 261) 2 = .ok (.iload_n 2, 1)) rfl ?_
  exact g_inv (k := 1) (m' := 114) (np := 2) (as := [(2, ((r0 : Nat) : Int)), (0, x1), (0, x2)]) (by decide +kernel : decode (m_byt 261) 3 = .ok (.invokevirtual 77, 3)) (Or.inl ⟨rfl, rfl⟩) (by decide +kernel) (by decide +kernel) (by decide +kernel) (Nat.le_of_ble_eq_true rfl) rfl (Or.inr (g_rcv (by decide +kernel) h0))
theorem b_261_6 {Z : mZ} {l0 l1 l3 l4 : mV} {s0 x2 : Int} {h : mH} : m_run Z (261, 6, [l0, l1, (0, x2), l3, l4], [(0, s0)], h) = some (.inl (0, s0), h) := by
  refine g_istore_n (k := 3) (by decide +kernel : decode (m_byt 261) 6 = .ok (.istore_n 3, 1)) (Nat.le_of_ble_eq_true rfl) ?_
  show m_run Z (261, 7, [l0, l1, (0, x2), (0, s0), l4], [], h) = _
  refine g_jmp (t := 20) (by decide +kernel : decode (m_byt 261) 7 = .ok (.goto 13, 3)) (by decide) ?_
  refine g_iload_n (k := 3) (x := s0) (by decide +kernel : decode (m_byt 261) 20 = .ok (.iload_n 3, 1)) rfl ?_
  exact g_iret (by decide +kernel : decode (m_byt 261) 21 = .ok (.ireturn, 1)) (by decide +kernel)
theorem b_261_12 {Z : mZ} {l0 l1 l2 l3 l4 : mV} {h : mH} : m_run Z (261, 12, [l0, l1, l2, l3, l4], [], h) = some (.inl (0, (-51)), h) := by
  refine g_base (by decide +kernel : decode (m_byt 261) 12 = .ok (.bipush (-51), 2)) rfl rfl ?_
  show m_run Z (261, 14, [l0, l1, l2, l3, l4], [(0, (-51))], h) = _
  exact g_iret (by decide +kernel : decode (m_byt 261) 14 = .ok (.ireturn, 1)) (by decide +kernel)
theorem b_261_17 {Z : mZ} {l0 l1 l2 l3 l4 : mV} {h : mH} : m_run Z (261, 17, [l0, l1, l2, l3, l4], [], h) = some (.inl (0, (-52)), h) := by
  refine g_base (by decide +kernel : decode (m_byt 261) 17 = .ok (.bipush (-52), 2)) rfl rfl ?_
  show m_run Z (261, 19, [l0, l1, l2, l3, l4], [(0, (-52))], h) = _
  exact g_iret (by decide +kernel : decode (m_byt 261) 19 = .ok (.ireturn, 1)) (by decide +kernel)
theorem b_261_20 {Z : mZ} {l0 l1 l2 l4 : mV} {x3 : Int} {h : mH} : m_run Z (261, 20, [l0, l1, l2, (0, x3), l4], [], h) = some (.inl (0, x3), h) := by
  refine g_iload_n (k := 3) (x := x3) (by decide +kernel : decode (m_byt 261) 20 = .ok (.iload_n 3, 1)) rfl ?_
  exact g_iret (by decide +kernel : decode (m_byt 261) 21 = .ok (.ireturn, 1)) (by decide +kernel)
theorem e_262 {Z : mZ} {r0 : Nat} {x1 : Int} {x2 : Int} {h : mH} : m_cl Z 262 [(2, ((r0 : Nat) : Int)), (0, x1), (0, x2)] h = m_run Z (262, 0, [(2, ((r0 : Nat) : Int)), (0, x1), (0, x2), (9, 0), (9, 0)], [], h) := g_ent (k := 5) (by decide) (by decide +kernel) (Nat.le_of_ble_eq_true rfl) (by decide +kernel) rfl
theorem b_262_0 {Z : mZ} {l3 l4 : mV} {x1 x2 : Int} {r0 : Nat} {K : Nat → mK} {σ : Nat → Nat → Int} {n e s : Nat} (h0 : q_ob K n r0 6) : m_run Z (262, 0, [(2, ((r0 : Nat) : Int)), (0, x1), (0, x2), l3, l4], [], (K, σ, n, e, s)) = (m_cl Z 115 [(2, ((r0 : Nat) : Int)), (0, x1), (0, x2)] (K, σ, n, e, s)).bind (m_aft (m_run Z) 262 3 [(2, ((r0 : Nat) : Int)), (0, x1), (0, x2), l3, l4] []) := by
  refine g_aload_n (k := 0) (v := (2, ((r0 : Nat) : Int))) (by decide +kernel : decode (m_byt 262) 0 = .ok (.aload_n 0, 1)) rfl (Or.inl rfl) ?_
  refine g_iload_n (k := 1) (x := x1) (by decide +kernel : decode (m_byt 262) 1 = .ok (.iload_n 1, 1)) rfl ?_
  refine g_iload_n (k := 2) (x := x2) (by decide +kernel : decode (m_byt 262) 2 = .ok (.iload_n 2, 1)) rfl ?_
  exact g_inv (k := 1) (m' := 115) (np := 2) (as := [(2, ((r0 : Nat) : Int)), (0, x1), (0, x2)]) (by decide +kernel : decode (m_byt 262) 3 = .ok (.invokevirtual 80, 3)) (Or.inl ⟨rfl, rfl⟩) (by decide +kernel) (by decide +kernel) (by decide +kernel) (Nat.le_of_ble_eq_true rfl) rfl (Or.inr (g_rcv (by decide +kernel) h0))
theorem b_262_6 {Z : mZ} {l0 l1 l3 l4 : mV} {s0 x2 : Int} {h : mH} : m_run Z (262, 6, [l0, l1, (0, x2), l3, l4], [(0, s0)], h) = some (.inl (0, s0), h) := by
  refine g_istore_n (k := 3) (by decide +kernel : decode (m_byt 262) 6 = .ok (.istore_n 3, 1)) (Nat.le_of_ble_eq_true rfl) ?_
  show m_run Z (262, 7, [l0, l1, (0, x2), (0, s0), l4], [], h) = _
  refine g_jmp (t := 20) (by decide +kernel : decode (m_byt 262) 7 = .ok (.goto 13, 3)) (by decide) ?_
  refine g_iload_n (k := 3) (x := s0) (by decide +kernel : decode (m_byt 262) 20 = .ok (.iload_n 3, 1)) rfl ?_
  exact g_iret (by decide +kernel : decode (m_byt 262) 21 = .ok (.ireturn, 1)) (by decide +kernel)
theorem b_262_12 {Z : mZ} {l0 l1 l2 l3 l4 : mV} {h : mH} : m_run Z (262, 12, [l0, l1, l2, l3, l4], [], h) = some (.inl (0, (-51)), h) := by
  refine g_base (by decide +kernel : decode (m_byt 262) 12 = .ok (.bipush (-51), 2)) rfl rfl ?_
  show m_run Z (262, 14, [l0, l1, l2, l3, l4], [(0, (-51))], h) = _
  exact g_iret (by decide +kernel : decode (m_byt 262) 14 = .ok (.ireturn, 1)) (by decide +kernel)
theorem b_262_17 {Z : mZ} {l0 l1 l2 l3 l4 : mV} {h : mH} : m_run Z (262, 17, [l0, l1, l2, l3, l4], [], h) = some (.inl (0, (-52)), h) := by
  refine g_base (by decide +kernel : decode (m_byt 262) 17 = .ok (.bipush (-52), 2)) rfl rfl ?_
  show m_run Z (262, 19, [l0, l1, l2, l3, l4], [(0, (-52))], h) = _
  exact g_iret (by decide +kernel : decode (m_byt 262) 19 = .ok (.ireturn, 1)) (by decide +kernel)
theorem b_262_20 {Z : mZ} {l0 l1 l2 l4 : mV} {x3 : Int} {h : mH} : m_run Z (262, 20, [l0, l1, l2, (0, x3), l4], [], h) = some (.inl (0, x3), h) := by
  refine g_iload_n (k := 3) (x := x3) (by decide +kernel : decode (m_byt 262) 20 = .ok (.iload_n 3, 1)) rfl ?_
  exact g_iret (by decide +kernel : decode (m_byt 262) 21 = .ok (.ireturn, 1)) (by decide +kernel)
theorem e_263 {Z : mZ} {r0 : Nat} {x1 : Int} {h : mH} : m_cl Z 263 [(2, ((r0 : Nat) : Int)), (0, x1)] h = m_run Z (263, 0, [(2, ((r0 : Nat) : Int)), (0, x1), (9, 0), (9, 0)], [], h) := g_ent (k := 4) (by decide) (by decide +kernel) (Nat.le_of_ble_eq_true rfl) (by decide +kernel) rfl
theorem b_263_0 {Z : mZ} {l2 l3 : mV} {x1 : Int} {r0 : Nat} {K : Nat → mK} {σ : Nat → Nat → Int} {n e s : Nat} (h0 : q_ob K n r0 6) : m_run Z (263, 0, [(2, ((r0 : Nat) : Int)), (0, x1), l2, l3], [], (K, σ, n, e, s)) = (m_cl Z 116 [(2, ((r0 : Nat) : Int)), (0, x1)] (K, σ, n, e, s)).bind (m_aft (m_run Z) 263 2 [(2, ((r0 : Nat) : Int)), (0, x1), l2, l3] []) := by
  refine g_aload_n (k := 0) (v := (2, ((r0 : Nat) : Int))) (by decide +kernel : decode (m_byt 263) 0 = .ok (.aload_n 0, 1)) rfl (Or.inl rfl) ?_
  refine g_iload_n (k := 1) (x := x1) (by decide +kernel : decode (m_byt 263) 1 = .ok (.iload_n 1, 1)) rfl ?_
  exact g_inv (k := 1) (m' := 116) (np := 1) (as := [(2, ((r0 : Nat) : Int)), (0, x1)]) (by decide +kernel : decode (m_byt 263) 2 = .ok (.invokevirtual 83, 3)) (Or.inl ⟨rfl, rfl⟩) (by decide +kernel) (by decide +kernel) (by decide +kernel) (Nat.le_of_ble_eq_true rfl) rfl (Or.inr (g_rcv (by decide +kernel) h0))
theorem b_263_5 {Z : mZ} {l0 l2 l3 : mV} {s0 x1 : Int} {h : mH} : m_run Z (263, 5, [l0, (0, x1), l2, l3], [(0, s0)], h) = some (.inl (0, s0), h) := by
  refine g_istore_n (k := 2) (by decide +kernel : decode (m_byt 263) 5 = .ok (.istore_n 2, 1)) (Nat.le_of_ble_eq_true rfl) ?_
  show m_run Z (263, 6, [l0, (0, x1), (0, s0), l3], [], h) = _
  refine g_jmp (t := 17) (by decide +kernel : decode (m_byt 263) 6 = .ok (.goto 11, 3)) (by decide) ?_
  refine g_iload_n (k := 2) (x := s0) (by decide +kernel : decode (m_byt 263) 17 = .ok (.iload_n 2, 1)) rfl ?_
  exact g_iret (by decide +kernel : decode (m_byt 263) 18 = .ok (.ireturn, 1)) (by decide +kernel)
theorem b_263_10 {Z : mZ} {l0 l1 l2 l3 : mV} {h : mH} : m_run Z (263, 10, [l0, l1, l2, l3], [], h) = some (.inl (0, (-51)), h) := by
  refine g_base (by decide +kernel : decode (m_byt 263) 10 = .ok (.bipush (-51), 2)) rfl rfl ?_
  show m_run Z (263, 12, [l0, l1, l2, l3], [(0, (-51))], h) = _
  exact g_iret (by decide +kernel : decode (m_byt 263) 12 = .ok (.ireturn, 1)) (by decide +kernel)
theorem b_263_14 {Z : mZ} {l0 l1 l2 l3 : mV} {h : mH} : m_run Z (263, 14, [l0, l1, l2, l3], [], h) = some (.inl (0, (-52)), h) := by
  refine g_base (by decide +kernel : decode (m_byt 263) 14 = .ok (.bipush (-52), 2)) rfl rfl ?_
  show m_run Z (263, 16, [l0, l1, l2, l3], [(0, (-52))], h) = _
  exact g_iret (by decide +kernel : decode (m_byt 263) 16 = .ok (.ireturn, 1)) (by decide +kernel)
theorem b_263_17 {Z : mZ} {l0 l1 l3 : mV} {x2 : Int} {h : mH} : m_run Z (263, 17, [l0, l1, (0, x2), l3], [], h) = some (.inl (0, x2), h) := by
  refine g_iload_n (k := 2) (x := x2) (by decide +kernel : decode (m_byt 263) 17 = .ok (.iload_n 2, 1)) rfl ?_
  exact g_iret (by decide +kernel : decode (m_byt 263) 18 = .ok (.ireturn, 1)) (by decide +kernel)
theorem e_264 {Z : mZ} {r0 : Nat} {x1 : Int} {h : mH} : m_cl Z 264 [(2, ((r0 : Nat) : Int)), (0, x1)] h = m_run Z (264, 0, [(2, ((r0 : Nat) : Int)), (0, x1), (9, 0), (9, 0)], [], h) := g_ent (k := 4) (by decide) (by decide +kernel) (Nat.le_of_ble_eq_true rfl) (by decide +kernel) rfl
theorem b_264_0 {Z : mZ} {l2 l3 : mV} {x1 : Int} {r0 : Nat} {K : Nat → mK} {σ : Nat → Nat → Int} {n e s : Nat} (h0 : q_ob K n r0 6) : m_run Z (264, 0, [(2, ((r0 : Nat) : Int)), (0, x1), l2, l3], [], (K, σ, n, e, s)) = (m_cl Z 117 [(2, ((r0 : Nat) : Int)), (0, x1)] (K, σ, n, e, s)).bind (m_aft (m_run Z) 264 2 [(2, ((r0 : Nat) : Int)), (0, x1), l2, l3] []) := by
  refine g_aload_n (k := 0) (v := (2, ((r0 : Nat) : Int))) (by decide +kernel : decode (m_byt 264) 0 = .ok (.aload_n 0, 1)) rfl (Or.inl rfl) ?_
  refine g_iload_n (k := 1) (x := x1) (by decide +kernel : decode (m_byt 264) 1 = .ok (.iload_n 1, 1)) rfl ?_
  exact g_inv (k := 1) (m' := 117) (np := 1) (as := [(2, ((r0 : Nat) : Int)), (0, x1)]) (by decide +kernel : decode (m_byt 264) 2 = .ok (.invokevirtual 86, 3)) (Or.inl ⟨rfl, rfl⟩) (by decide +kernel) (by decide +kernel) (by decide +kernel) (Nat.le_of_ble_eq_true rfl) rfl (Or.inr (g_rcv (by decide +kernel) h0))
theorem b_264_5 {Z : mZ} {l0 l2 l3 : mV} {s0 x1 : Int} {h : mH} : m_run Z (264, 5, [l0, (0, x1), l2, l3], [(0, s0)], h) = some (.inl (0, s0), h) := by
  refine g_istore_n (k := 2) (by decide +kernel : decode (m_byt 264) 5 = .ok (.istore_n 2, 1)) (Nat.le_of_ble_eq_true rfl) ?_
  show m_run Z (264, 6, [l0, (0, x1), (0, s0), l3], [], h) = _
  refine g_jmp (t := 17) (by decide +kernel : decode (m_byt 264) 6 = .ok (.goto 11, 3)) (by decide) ?_
  refine g_iload_n (k := 2) (x := s0) (by decide +kernel : decode (m_byt 264) 17 = .ok (.iload_n 2, 1)) rfl ?_
  exact g_iret (by decide +kernel : decode (m_byt 264) 18 = .ok (.ireturn, 1)) (by decide +kernel)
theorem b_264_10 {Z : mZ} {l0 l1 l2 l3 : mV} {h : mH} : m_run Z (264, 10, [l0, l1, l2, l3], [], h) = some (.inl (0, (-51)), h) := by
  refine g_base (by decide +kernel : decode (m_byt 264) 10 = .ok (.bipush (-51), 2)) rfl rfl ?_
  show m_run Z (264, 12, [l0, l1, l2, l3], [(0, (-51))], h) = _
  exact g_iret (by decide +kernel : decode (m_byt 264) 12 = .ok (.ireturn, 1)) (by decide +kernel)
theorem b_264_14 {Z : mZ} {l0 l1 l2 l3 : mV} {h : mH} : m_run Z (264, 14, [l0, l1, l2, l3], [], h) = some (.inl (0, (-52)), h) := by
  refine g_base (by decide +kernel : decode (m_byt 264) 14 = .ok (.bipush (-52), 2)) rfl rfl ?_
  show m_run Z (264, 16, [l0, l1, l2, l3], [(0, (-52))], h) = _
  exact g_iret (by decide +kernel : decode (m_byt 264) 16 = .ok (.ireturn, 1)) (by decide +kernel)
theorem b_264_17 {Z : mZ} {l0 l1 l3 : mV} {x2 : Int} {h : mH} : m_run Z (264, 17, [l0, l1, (0, x2), l3], [], h) = some (.inl (0, x2), h) := by
  refine g_iload_n (k := 2) (x := x2) (by decide +kernel : decode (m_byt 264) 17 = .ok (.iload_n 2, 1)) rfl ?_
  exact g_iret (by decide +kernel : decode (m_byt 264) 18 = .ok (.ireturn, 1)) (by decide +kernel)
theorem e_265 {Z : mZ} {r0 : Nat} {x1 : Int} {x2 : Int} {h : mH} : m_cl Z 265 [(2, ((r0 : Nat) : Int)), (0, x1), (0, x2)] h = m_run Z (265, 0, [(2, ((r0 : Nat) : Int)), (0, x1), (0, x2), (9, 0), (9, 0)], [], h) := g_ent (k := 5) (by decide) (by decide +kernel) (Nat.le_of_ble_eq_true rfl) (by decide +kernel) rfl
theorem b_265_0 {Z : mZ} {l3 l4 : mV} {x1 x2 : Int} {r0 : Nat} {K : Nat → mK} {σ : Nat → Nat → Int} {n e s : Nat} (h0 : q_ob K n r0 6) : m_run Z (265, 0, [(2, ((r0 : Nat) : Int)), (0, x1), (0, x2), l3, l4], [], (K, σ, n, e, s)) = (m_cl Z 118 [(2, ((r0 : Nat) : Int)), (0, x1), (0, x2)] (K, σ, n, e, s)).bind (m_aft (m_run Z) 265 3 [(2, ((r0 : Nat) : Int)), (0, x1), (0, x2), l3, l4] []) := by
  refine g_aload_n (k := 0) (v := (2, ((r0 : Nat) : Int))) (by decide +kernel : decode (m_byt 265) 0 = .ok (.aload_n 0, 1)) rfl (Or.inl rfl) ?_
  refine g_iload_n (k := 1) (x := x1) (by decide +kernel : decode (m_byt 265) 1 = .ok (.iload_n 1, 1)) rfl ?_
  refine g_iload_n (k := 2) (x := x2) (by decide +kernel : decode (m_byt 265) 2 = .ok (.iload_n 2, 1)) rfl ?_
  exact g_inv (k := 1) (m' := 118) (np := 2) (as := [(2, ((r0 : Nat) : Int)), (0, x1), (0, x2)]) (by decide +kernel : decode (m_byt 265) 3 = .ok (.invokevirtual 89, 3)) (Or.inl ⟨rfl, rfl⟩) (by decide +kernel) (by decide +kernel) (by decide +kernel) (Nat.le_of_ble_eq_true rfl) rfl (Or.inr (g_rcv (by decide +kernel) h0))
theorem b_265_6 {Z : mZ} {l0 l1 l3 l4 : mV} {s0 x2 : Int} {h : mH} : m_run Z (265, 6, [l0, l1, (0, x2), l3, l4], [(0, s0)], h) = some (.inl (0, s0), h) := by
  refine g_istore_n (k := 3) (by decide +kernel : decode (m_byt 265) 6 = .ok (.istore_n 3, 1)) (Nat.le_of_ble_eq_true rfl) ?_
  show m_run Z (265, 7, [l0, l1, (0, x2), (0, s0), l4], [], h) = _
  refine g_jmp (t := 20) (by decide +kernel : decode (m_byt 265) 7 = .ok (.goto 13, 3)) (by decide) ?_
  refine g_iload_n (k := 3) (x := s0) (by decide +kernel : decode (m_byt 265) 20 = .ok (.iload_n 3, 1)) rfl ?_
  exact g_iret (by decide +kernel : decode (m_byt 265) 21 = .ok (.ireturn, 1)) (by decide +kernel)
theorem b_265_12 {Z : mZ} {l0 l1 l2 l3 l4 : mV} {h : mH} : m_run Z (265, 12, [l0, l1, l2, l3, l4], [], h) = some (.inl (0, (-51)), h) := by
  refine g_base (by decide +kernel : decode (m_byt 265) 12 = .ok (.bipush (-51), 2)) rfl rfl ?_
  show m_run Z (265, 14, [l0, l1, l2, l3, l4], [(0, (-51))], h) = _
  exact g_iret (by decide +kernel : decode (m_byt 265) 14 = .ok (.ireturn, 1)) (by decide +kernel)
theorem b_265_17 {Z : mZ} {l0 l1 l2 l3 l4 : mV} {h : mH} : m_run Z (265, 17, [l0, l1, l2, l3, l4], [], h) = some (.inl (0, (-52)), h) := by
  refine g_base (by decide +kernel : decode (m_byt 265) 17 = .ok (.bipush (-52), 2)) rfl rfl ?_
  show m_run Z (265, 19, [l0, l1, l2, l3, l4], [(0, (-52))], h) = _
  exact g_iret (by decide +kernel : decode (m_byt 265) 19 = .ok (.ireturn, 1)) (by decide +kernel)
theorem b_265_20 {Z : mZ} {l0 l1 l2 l4 : mV} {x3 : Int} {h : mH} : m_run Z (265, 20, [l0, l1, l2, (0, x3), l4], [], h) = some (.inl (0, x3), h) := by
  refine g_iload_n (k := 3) (x := x3) (by decide +kernel : decode (m_byt 265) 20 = .ok (.iload_n 3, 1)) rfl ?_
  exact g_iret (by decide +kernel : decode (m_byt 265) 21 = .ok (.ireturn, 1)) (by decide +kernel)
theorem e_266 {Z : mZ} {r0 : Nat} {x1 : Int} {x2 : Int} {h : mH} : m_cl Z 266 [(2, ((r0 : Nat) : Int)), (0, x1), (0, x2)] h = m_run Z (266, 0, [(2, ((r0 : Nat) : Int)), (0, x1), (0, x2), (9, 0), (9, 0)], [], h) := g_ent (k := 5) (by decide) (by decide +kernel) (Nat.le_of_ble_eq_true rfl) (by decide +kernel) rfl
theorem b_266_0 {Z : mZ} {l3 l4 : mV} {x1 x2 : Int} {r0 : Nat} {K : Nat → mK} {σ : Nat → Nat → Int} {n e s : Nat} (h0 : q_ob K n r0 6) : m_run Z (266, 0, [(2, ((r0 : Nat) : Int)), (0, x1), (0, x2), l3, l4], [], (K, σ, n, e, s)) = (m_cl Z 119 [(2, ((r0 : Nat) : Int)), (0, x1), (0, x2)] (K, σ, n, e, s)).bind (m_aft (m_run Z) 266 3 [(2, ((r0 : Nat) : Int)), (0, x1), (0, x2), l3, l4] []) := by
  refine g_aload_n (k := 0) (v := (2, ((r0 : Nat) : Int))) (by decide +kernel : decode (m_byt 266) 0 = .ok (.aload_n 0, 1)) rfl (Or.inl rfl) ?_
  refine g_iload_n (k := 1) (x := x1) (by decide +kernel : decode (m_byt 266) 1 = .ok (.iload_n 1, 1)) rfl ?_
  refine g_iload_n (k := 2) (x := x2) (by decide +kernel : decode (m_byt 266) 2 = .ok (.iload_n 2, 1)) rfl ?_
  exact g_inv (k := 1) (m' := 119) (np := 2) (as := [(2, ((r0 : Nat) : Int)), (0, x1), (0, x2)]) (by decide +kernel : decode (m_byt 266) 3 = .ok (.invokevirtual 92, 3)) (Or.inl ⟨rfl, rfl⟩) (by decide +kernel) (by decide +kernel) (by decide +kernel) (Nat.le_of_ble_eq_true rfl) rfl (Or.inr (g_rcv (by decide +kernel) h0))
theorem b_266_6 {Z : mZ} {l0 l1 l3 l4 : mV} {s0 x2 : Int} {h : mH} : m_run Z (266, 6, [l0, l1, (0, x2), l3, l4], [(0, s0)], h) = some (.inl (0, s0), h) := by
  refine g_istore_n (k := 3) (by decide +kernel : decode (m_byt 266) 6 = .ok (.istore_n 3, 1)) (Nat.le_of_ble_eq_true rfl) ?_
  show m_run Z (266, 7, [l0, l1, (0, x2), (0, s0), l4], [], h) = _
  refine g_jmp (t := 20) (by decide +kernel : decode (m_byt 266) 7 = .ok (.goto 13, 3)) (by decide) ?_
  refine g_iload_n (k := 3) (x := s0) (by decide +kernel : decode (m_byt 266) 20 = .ok (.iload_n 3, 1)) rfl ?_
  exact g_iret (by decide +kernel : decode (m_byt 266) 21 = .ok (.ireturn, 1)) (by decide +kernel)
theorem b_266_12 {Z : mZ} {l0 l1 l2 l3 l4 : mV} {h : mH} : m_run Z (266, 12, [l0, l1, l2, l3, l4], [], h) = some (.inl (0, (-51)), h) := by
  refine g_base (by decide +kernel : decode (m_byt 266) 12 = .ok (.bipush (-51), 2)) rfl rfl ?_
  show m_run Z (266, 14, [l0, l1, l2, l3, l4], [(0, (-51))], h) = _
  exact g_iret (by decide +kernel : decode (m_byt 266) 14 = .ok (.ireturn, 1)) (by decide +kernel)
theorem b_266_17 {Z : mZ} {l0 l1 l2 l3 l4 : mV} {h : mH} : m_run Z (266, 17, [l0, l1, l2, l3, l4], [], h) = some (.inl (0, (-52)), h) := by
  refine g_base (by decide +kernel : decode (m_byt 266) 17 = .ok (.bipush (-52), 2)) rfl rfl ?_
  show m_run Z (266, 19, [l0, l1, l2, l3, l4], [(0, (-52))], h) = _
  exact g_iret (by decide +kernel : decode (m_byt 266) 19 = .ok (.ireturn, 1)) (by decide +kernel)
theorem b_266_20 {Z : mZ} {l0 l1 l2 l4 : mV} {x3 : Int} {h : mH} : m_run Z (266, 20, [l0, l1, l2, (0, x3), l4], [], h) = some (.inl (0, x3), h) := by
  refine g_iload_n (k := 3) (x := x3) (by decide +kernel : decode (m_byt 266) 20 = .ok (.iload_n 3, 1)) rfl ?_
  exact g_iret (by decide +kernel : decode (m_byt 266) 21 = .ok (.ireturn, 1)) (by decide +kernel)
theorem e_267 {Z : mZ} {r0 : Nat} {x1 : Int} {x2 : Int} {h : mH} : m_cl Z 267 [(2, ((r0 : Nat) : Int)), (0, x1), (0, x2)] h = m_run Z (267, 0, [(2, ((r0 : Nat) : Int)), (0, x1), (0, x2), (9, 0), (9, 0)], [], h) := g_ent (k := 5) (by decide) (by decide +kernel) (Nat.le_of_ble_eq_true rfl) (by decide +kernel) rfl
theorem b_267_0 {Z : mZ} {l3 l4 : mV} {x1 x2 : Int} {r0 : Nat} {K : Nat → mK} {σ : Nat → Nat → Int} {n e s : Nat} (h0 : q_ob K n r0 6) : m_run Z (267, 0, [(2, ((r0 : Nat) : Int)), (0, x1), (0, x2), l3, l4], [], (K, σ, n, e, s)) = (m_cl Z 120 [(2, ((r0 : Nat) : Int)), (0, x1), (0, x2)] (K, σ, n, e, s)).bind (m_aft (m_run Z) 267 3 [(2, ((r0 : Nat) : Int)), (0, x1), (0, x2), l3, l4] []) := by
  refine g_aload_n (k := 0) (v := (2, ((r0 : Nat) : Int))) (by decide +kernel : decode (m_byt 267) 0 = .ok (.aload_n 0, 1)) rfl (Or.inl rfl) ?_
  refine g_iload_n (k := 1) (x := x1) (by decide +kernel : decode (m_byt 267) 1 = .ok (.iload_n 1, 1)) rfl ?_
  refine g_iload_n (k := 2) (x := x2) (by decide +kernel : decode (m_byt 267) 2 = .ok (.iload_n 2, 1)) rfl ?_
  exact g_inv (k := 1) (m' := 120) (np := 2) (as := [(2, ((r0 : Nat) : Int)), (0, x1), (0, x2)]) (by decide +kernel : decode (m_byt 267) 3 = .ok (.invokevirtual 95, 3)) (Or.inl ⟨rfl, rfl⟩) (by decide +kernel) (by decide +kernel) (by decide +kernel) (Nat.le_of_ble_eq_true rfl) rfl (Or.inr (g_rcv (by decide +kernel) h0))
theorem b_267_6 {Z : mZ} {l0 l1 l3 l4 : mV} {s0 x2 : Int} {h : mH} : m_run Z (267, 6, [l0, l1, (0, x2), l3, l4], [(0, s0)], h) = some (.inl (0, s0), h) := by
  refine g_istore_n (k := 3) (by decide +kernel : decode (m_byt 267) 6 = .ok (.istore_n 3, 1)) (Nat.le_of_ble_eq_true rfl) ?_
  show m_run Z (267, 7, [l0, l1, (0, x2), (0, s0), l4], [], h) = _
  refine g_jmp (t := 20) (by decide +kernel : decode (m_byt 267) 7 = .ok (.goto 13, 3)) (by decide) ?_
  refine g_iload_n (k := 3) (x := s0) (by decide +kernel : decode (m_byt 267) 20 = .ok (.iload_n 3, 1)) rfl ?_
  exact g_iret (by decide +kernel : decode (m_byt 267) 21 = .ok (.ireturn, 1)) (by decide +kernel)
theorem b_267_12 {Z : mZ} {l0 l1 l2 l3 l4 : mV} {h : mH} : m_run Z (267, 12, [l0, l1, l2, l3, l4], [], h) = some (.inl (0, (-51)), h) := by
  refine g_base (by decide +kernel : decode (m_byt 267) 12 = .ok (.bipush (-51), 2)) rfl rfl ?_
  show m_run Z (267, 14, [l0, l1, l2, l3, l4], [(0, (-51))], h) = _
  exact g_iret (by decide +kernel : decode (m_byt 267) 14 = .ok (.ireturn, 1)) (by decide +kernel)
theorem b_267_17 {Z : mZ} {l0 l1 l2 l3 l4 : mV} {h : mH} : m_run Z (267, 17, [l0, l1, l2, l3, l4], [], h) = some (.inl (0, (-52)), h) := by
  refine g_base (by decide +kernel : decode (m_byt 267) 17 = .ok (.bipush (-52), 2)) rfl rfl ?_
  show m_run Z (267, 19, [l0, l1, l2, l3, l4], [(0, (-52))], h) = _
  exact g_iret (by decide +kernel : decode (m_byt 267) 19 = .ok (.ireturn, 1)) (by decide +kernel)
theorem b_267_20 {Z : mZ} {l0 l1 l2 l4 : mV} {x3 : Int} {h : mH} : m_run Z (267, 20, [l0, l1, l2, (0, x3), l4], [], h) = some (.inl (0, x3), h) := by
  refine g_iload_n (k := 3) (x := x3) (by decide +kernel : decode (m_byt 267) 20 = .ok (.iload_n 3, 1)) rfl ?_
  exact g_iret (by decide +kernel : decode (m_byt 267) 21 = .ok (.ireturn, 1)) (by decide +kernel)
theorem e_268 {Z : mZ} {r0 : Nat} {x1 : Int} {x2 : Int} {x3 : Int} {h : mH} : m_cl Z 268 [(2, ((r0 : Nat) : Int)), (0, x1), (0, x2), (0, x3)] h = m_run Z (268, 0, [(2, ((r0 : Nat) : Int)), (0, x1), (0, x2), (0, x3), (9, 0), (9, 0)], [], h) := g_ent (k := 6) (by decide) (by decide +kernel) (Nat.le_of_ble_eq_true rfl) (by decide +kernel) rfl
theorem b_268_0 {Z : mZ} {l4 l5 : mV} {x1 x2 x3 : Int} {r0 : Nat} {K : Nat → mK} {σ : Nat → Nat → Int} {n e s : Nat} (h0 : q_ob K n r0 6) : m_run Z (268, 0, [(2, ((r0 : Nat) : Int)), (0, x1), (0, x2), (0, x3), l4, l5], [], (K, σ, n, e, s)) = (m_cl Z 121 [(2, ((r0 : Nat) : Int)), (0, x1), (0, x2), (0, x3)] (K, σ, n, e, s)).bind (m_aft (m_run Z) 268 4 [(2, ((r0 : Nat) : Int)), (0, x1), (0, x2), (0, x3), l4, l5] []) := by
  refine g_aload_n (k := 0) (v := (2, ((r0 : Nat) : Int))) (by decide +kernel : decode (m_byt 268) 0 = .ok (.aload_n 0, 1)) rfl (Or.inl rfl) ?_
  refine g_iload_n (k := 1) (x := x1) (by decide +kernel : decode (m_byt 268) 1 = .ok (.iload_n 1, 1)) rfl ?_
  refine g_iload_n (k := 2) (x := x2) (by decide +kernel : decode (m_byt 268) 2 = .ok (.iload_n 2, 1)) rfl ?_
  refine g_iload_n (k := 3) (x := x3) (by decide +kernel : decode (m_byt 268) 3 = .ok (.iload_n 3, 1)) rfl ?_
  exact g_inv (k := 1) (m' := 121) (np := 3) (as := [(2, ((r0 : Nat) : Int)), (0, x1), (0, x2), (0, x3)]) (by decide +kernel : decode (m_byt 268) 4 = .ok (.invokevirtual 98, 3)) (Or.inl ⟨rfl, rfl⟩) (by decide +kernel) (by decide +kernel) (by decide +kernel) (Nat.le_of_ble_eq_true rfl) rfl (Or.inr (g_rcv (by decide +kernel) h0))
theorem b_268_7 {Z : mZ} {l0 l1 l2 l4 l5 : mV} {s0 x3 : Int} {h : mH} : m_run Z (268, 7, [l0, l1, l2, (0, x3), l4, l5], [(0, s0)], h) = some (.inl (0, s0), h) := by
  refine g_istore (k := 4) (by decide +kernel : decode (m_byt 268) 7 = .ok (.istore 4, 2)) (Nat.le_of_ble_eq_true rfl) ?_
  show m_run Z (268, 9, [l0, l1, l2, (0, x3), (0, s0), l5], [], h) = _
  refine g_jmp (t := 27) (by decide +kernel : decode (m_byt 268) 9 = .ok (.goto 18, 3)) (by decide) ?_
  refine g_iload (k := 4) (x := s0) (by decide +kernel : decode (m_byt 268) 27 = .ok (.iload 4, 2)) rfl ?_
  exact g_iret (by decide +kernel : decode (m_byt 268) 29 = .ok (.ireturn, 1)) (by decide +kernel)
theorem b_268_14 {Z : mZ} {l0 l1 l2 l3 l4 l5 : mV} {h : mH} : m_run Z (268, 14, [l0, l1, l2, l3, l4, l5], [], h) = some (.inl (0, (-53)), h) := by
  refine g_base (by decide +kernel : decode (m_byt 268) 14 = .ok (.bipush (-53), 2)) rfl rfl ?_
  show m_run Z (268, 16, [l0, l1, l2, l3, l4, l5], [(0, (-53))], h) = _
  exact g_iret (by decide +kernel : decode (m_byt 268) 16 = .ok (.ireturn, 1)) (by decide +kernel)
theorem b_268_19 {Z : mZ} {l0 l1 l2 l3 l4 l5 : mV} {h : mH} : m_run Z (268, 19, [l0, l1, l2, l3, l4, l5], [], h) = some (.inl (0, (-51)), h) := by
  refine g_base (by decide +kernel : decode (m_byt 268) 19 = .ok (.bipush (-51), 2)) rfl rfl ?_
  show m_run Z (268, 21, [l0, l1, l2, l3, l4, l5], [(0, (-51))], h) = _
  exact g_iret (by decide +kernel : decode (m_byt 268) 21 = .ok (.ireturn, 1)) (by decide +kernel)
theorem b_268_24 {Z : mZ} {l0 l1 l2 l3 l4 l5 : mV} {h : mH} : m_run Z (268, 24, [l0, l1, l2, l3, l4, l5], [], h) = some (.inl (0, (-52)), h) := by
  refine g_base (by decide +kernel : decode (m_byt 268) 24 = .ok (.bipush (-52), 2)) rfl rfl ?_
  show m_run Z (268, 26, [l0, l1, l2, l3, l4, l5], [(0, (-52))], h) = _
  exact g_iret (by decide +kernel : decode (m_byt 268) 26 = .ok (.ireturn, 1)) (by decide +kernel)
theorem b_268_27 {Z : mZ} {l0 l1 l2 l3 l5 : mV} {x4 : Int} {h : mH} : m_run Z (268, 27, [l0, l1, l2, l3, (0, x4), l5], [], h) = some (.inl (0, x4), h) := by
  refine g_iload (k := 4) (x := x4) (by decide +kernel : decode (m_byt 268) 27 = .ok (.iload 4, 2)) rfl ?_
  exact g_iret (by decide +kernel : decode (m_byt 268) 29 = .ok (.ireturn, 1)) (by decide +kernel)
theorem e_269 {Z : mZ} {r0 : Nat} {x1 : Int} {x2 : Int} {h : mH} : m_cl Z 269 [(2, ((r0 : Nat) : Int)), (0, x1), (0, x2)] h = m_run Z (269, 0, [(2, ((r0 : Nat) : Int)), (0, x1), (0, x2), (9, 0), (9, 0)], [], h) := g_ent (k := 5) (by decide) (by decide +kernel) (Nat.le_of_ble_eq_true rfl) (by decide +kernel) rfl
theorem b_269_0 {Z : mZ} {l3 l4 : mV} {x1 x2 : Int} {r0 : Nat} {K : Nat → mK} {σ : Nat → Nat → Int} {n e s : Nat} (h0 : q_ob K n r0 6) : m_run Z (269, 0, [(2, ((r0 : Nat) : Int)), (0, x1), (0, x2), l3, l4], [], (K, σ, n, e, s)) = (m_cl Z 122 [(2, ((r0 : Nat) : Int)), (0, x1), (0, x2)] (K, σ, n, e, s)).bind (m_aft (m_run Z) 269 3 [(2, ((r0 : Nat) : Int)), (0, x1), (0, x2), l3, l4] []) := by
  refine g_aload_n (k := 0) (v := (2, ((r0 : Nat) : Int))) (by decide +kernel : decode (m_byt 269) 0 = .ok (.aload_n 0, 1)) rfl (Or.inl rfl) ?_
  refine g_iload_n (k := 1) (x := x1) (by decide +kernel : decode (m_byt 269) 1 = .ok (.iload_n 1, 1)) rfl ?_
  refine g_iload_n (k := 2) (x := x2) (by decide +kernel : decode (m_byt 269) 2 = .ok (.iload_n 2, 1)) rfl ?_
  exact g_inv (k := 1) (m' := 122) (np := 2) (as := [(2, ((r0 : Nat) : Int)), (0, x1), (0, x2)]) (by decide +kernel : decode (m_byt 269) 3 = .ok (.invokevirtual 101, 3)) (Or.inl ⟨rfl, rfl⟩) (by decide +kernel) (by decide +kernel) (by decide +kernel) (Nat.le_of_ble_eq_true rfl) rfl (Or.inr (g_rcv (by decide +kernel) h0))
theorem b_269_6 {Z : mZ} {l0 l1 l3 l4 : mV} {s0 x2 : Int} {h : mH} : m_run Z (269, 6, [l0, l1, (0, x2), l3, l4], [(0, s0)], h) = some (.inl (0, s0), h) := by
  refine g_istore_n (k := 3) (by decide +kernel : decode (m_byt 269) 6 = .ok (.istore_n 3, 1)) (Nat.le_of_ble_eq_true rfl) ?_
  show m_run Z (269, 7, [l0, l1, (0, x2), (0, s0), l4], [], h) = _
  refine g_jmp (t := 20) (by decide +kernel : decode (m_byt 269) 7 = .ok (.goto 13, 3)) (by decide) ?_
  refine g_iload_n (k := 3) (x := s0) (by decide +kernel : decode (m_byt 269) 20 = .ok (.iload_n 3, 1)) rfl ?_
  exact g_iret (by decide +kernel : decode (m_byt 269) 21 = .ok (.ireturn, 1)) (by decide +kernel)
theorem b_269_12 {Z : mZ} {l0 l1 l2 l3 l4 : mV} {h : mH} : m_run Z (269, 12, [l0, l1, l2, l3, l4], [], h) = some (.inl (0, (-51)), h) := by
  refine g_base (by decide +kernel : decode (m_byt 269) 12 = .ok (.bipush (-51), 2)) rfl rfl ?_
  show m_run Z (269, 14, [l0, l1, l2, l3, l4], [(0, (-51))], h) = _
  exact g_iret (by decide +kernel : decode (m_byt 269) 14 = .ok (.ireturn, 1)) (by decide +kernel)
theorem b_269_17 {Z : mZ} {l0 l1 l2 l3 l4 : mV} {h : mH} : m_run Z (269, 17, [l0, l1, l2, l3, l4], [], h) = some (.inl (0, (-52)), h) := by
  refine g_base (by decide +kernel : decode (m_byt 269) 17 = .ok (.bipush (-52), 2)) rfl rfl ?_
  show m_run Z (269, 19, [l0, l1, l2, l3, l4], [(0, (-52))], h) = _
  exact g_iret (by decide +kernel : decode (m_byt 269) 19 = .ok (.ireturn, 1)) (by decide +kernel)
theorem b_269_20 {Z : mZ} {l0 l1 l2 l4 : mV} {x3 : Int} {h : mH} : m_run Z (269, 20, [l0, l1, l2, (0, x3), l4], [], h) = some (.inl (0, x3), h) := by
  refine g_iload_n (k := 3) (x := x3) (by decide +kernel : decode (m_byt 269) 20 = .ok (.iload_n 3, 1)) rfl ?_
  exact g_iret (by decide +kernel : decode (m_byt 269) 21 = .ok (.ireturn, 1)) (by decide +kernel)
theorem e_270 {Z : mZ} {r0 : Nat} {x1 : Int} {x2 : Int} {h : mH} : m_cl Z 270 [(2, ((r0 : Nat) : Int)), (0, x1), (0, x2)] h = m_run Z (270, 0, [(2, ((r0 : Nat) : Int)), (0, x1), (0, x2), (9, 0), (9, 0)], [], h) := g_ent (k := 5) (by decide) (by decide +kernel) (Nat.le_of_ble_eq_true rfl) (by decide +kernel) rfl
theorem b_270_0 {Z : mZ} {l3 l4 : mV} {x1 x2 : Int} {r0 : Nat} {K : Nat → mK} {σ : Nat → Nat → Int} {n e s : Nat} (h0 : q_ob K n r0 6) : m_run Z (270, 0, [(2, ((r0 : Nat) : Int)), (0, x1), (0, x2), l3, l4], [], (K, σ, n, e, s)) = (m_cl Z 123 [(2, ((r0 : Nat) : Int)), (0, x1), (0, x2)] (K, σ, n, e, s)).bind (m_aft (m_run Z) 270 3 [(2, ((r0 : Nat) : Int)), (0, x1), (0, x2), l3, l4] []) := by
  refine g_aload_n (k := 0) (v := (2, ((r0 : Nat) : Int))) (by decide +kernel : decode (m_byt 270) 0 = .ok (.aload_n 0, 1)) rfl (Or.inl rfl) ?_
  refine g_iload_n (k := 1) (x := x1) (by decide +kernel : decode (m_byt 270) 1 = .ok (.iload_n 1, 1)) rfl ?_
  refine g_iload_n (k := 2) (x := x2) (by decide +kernel : decode (m_byt 270) 2 = .ok (.iload_n 2, 1)) rfl ?_
  exact g_inv (k := 1) (m' := 123) (np := 2) (as := [(2, ((r0 : Nat) : Int)), (0, x1), (0, x2)]) (by decide +kernel : decode (m_byt 270) 3 = .ok (.invokevirtual 104, 3)) (Or.inl ⟨rfl, rfl⟩) (by decide +kernel) (by decide +kernel) (by decide +kernel) (Nat.le_of_ble_eq_true rfl) rfl (Or.inr (g_rcv (by decide +kernel) h0))
theorem b_270_6 {Z : mZ} {l0 l1 l3 l4 : mV} {s0 x2 : Int} {h : mH} : m_run Z (270, 6, [l0, l1, (0, x2), l3, l4], [(0, s0)], h) = some (.inl (0, s0), h) := by
  refine g_istore_n (k := 3) (by decide +kernel : decode (m_byt 270) 6 = .ok (.istore_n 3, 1)) (Nat.le_of_ble_eq_true rfl) ?_
  show m_run Z (270, 7, [l0, l1, (0, x2), (0, s0), l4], [], h) = _
  refine g_jmp (t := 20) (by decide +kernel : decode (m_byt 270) 7 = .ok (.goto 13, 3)) (by decide) ?_
  refine g_iload_n (k := 3) (x := s0) (by decide +kernel : decode (m_byt 270) 20 = .ok (.iload_n 3, 1)) rfl ?_
  exact g_iret (by decide +kernel : decode (m_byt 270) 21 = .ok (.ireturn, 1)) (by decide +kernel)
theorem b_270_12 {Z : mZ} {l0 l1 l2 l3 l4 : mV} {h : mH} : m_run Z (270, 12, [l0, l1, l2, l3, l4], [], h) = some (.inl (0, (-53)), h) := by
  refine g_base (by decide +kernel : decode (m_byt 270) 12 = .ok (.bipush (-53), 2)) rfl rfl ?_
  show m_run Z (270, 14, [l0, l1, l2, l3, l4], [(0, (-53))], h) = _
  exact g_iret (by decide +kernel : decode (m_byt 270) 14 = .ok (.ireturn, 1)) (by decide +kernel)
theorem b_270_17 {Z : mZ} {l0 l1 l2 l3 l4 : mV} {h : mH} : m_run Z (270, 17, [l0, l1, l2, l3, l4], [], h) = some (.inl (0, (-51)), h) := by
  refine g_base (by decide +kernel : decode (m_byt 270) 17 = .ok (.bipush (-51), 2)) rfl rfl ?_
  show m_run Z (270, 19, [l0, l1, l2, l3, l4], [(0, (-51))], h) = _
  exact g_iret (by decide +kernel : decode (m_byt 270) 19 = .ok (.ireturn, 1)) (by decide +kernel)
theorem b_270_20 {Z : mZ} {l0 l1 l2 l4 : mV} {x3 : Int} {h : mH} : m_run Z (270, 20, [l0, l1, l2, (0, x3), l4], [], h) = some (.inl (0, x3), h) := by
  refine g_iload_n (k := 3) (x := x3) (by decide +kernel : decode (m_byt 270) 20 = .ok (.iload_n 3, 1)) rfl ?_
  exact g_iret (by decide +kernel : decode (m_byt 270) 21 = .ok (.ireturn, 1)) (by decide +kernel)
theorem e_271 {Z : mZ} {r0 : Nat} {x1 : Int} {h : mH} : m_cl Z 271 [(2, ((r0 : Nat) : Int)), (0, x1)] h = m_run Z (271, 0, [(2, ((r0 : Nat) : Int)), (0, x1), (9, 0), (9, 0)], [], h) := g_ent (k := 4) (by decide) (by decide +kernel) (Nat.le_of_ble_eq_true rfl) (by decide +kernel) rfl
theorem b_271_0 {Z : mZ} {l2 l3 : mV} {x1 : Int} {r0 : Nat} {K : Nat → mK} {σ : Nat → Nat → Int} {n e s : Nat} (h0 : q_ob K n r0 6) : m_run Z (271, 0, [(2, ((r0 : Nat) : Int)), (0, x1), l2, l3], [], (K, σ, n, e, s)) = (m_cl Z 124 [(2, ((r0 : Nat) : Int)), (0, x1)] (K, σ, n, e, s)).bind (m_aft (m_run Z) 271 2 [(2, ((r0 : Nat) : Int)), (0, x1), l2, l3] []) := by
  refine g_aload_n (k := 0) (v := (2, ((r0 : Nat) : Int))) (by decide +kernel : decode (m_byt 271) 0 = .ok (.aload_n 0, 1)) rfl (Or.inl rfl) ?_
  refine g_iload_n (k := 1) (x := x1) (by decide +kernel : decode (m_byt 271) 1 = .ok (.iload_n 1, 1)) rfl ?_
  exact g_inv (k := 1) (m' := 124) (np := 1) (as := [(2, ((r0 : Nat) : Int)), (0, x1)]) (by decide +kernel : decode (m_byt 271) 2 = .ok (.invokevirtual 107, 3)) (Or.inl ⟨rfl, rfl⟩) (by decide +kernel) (by decide +kernel) (by decide +kernel) (Nat.le_of_ble_eq_true rfl) rfl (Or.inr (g_rcv (by decide +kernel) h0))
theorem b_271_5 {Z : mZ} {l0 l2 l3 : mV} {s0 x1 : Int} {h : mH} : m_run Z (271, 5, [l0, (0, x1), l2, l3], [(0, s0)], h) = some (.inl (0, s0), h) := by
  refine g_istore_n (k := 2) (by decide +kernel : decode (m_byt 271) 5 = .ok (.istore_n 2, 1)) (Nat.le_of_ble_eq_true rfl) ?_
  show m_run Z (271, 6, [l0, (0, x1), (0, s0), l3], [], h) = _
  refine g_jmp (t := 17) (by decide +kernel : decode (m_byt 271) 6 = .ok (.goto 11, 3)) (by decide) ?_
  refine g_iload_n (k := 2) (x := s0) (by decide +kernel : decode (m_byt 271) 17 = .ok (.iload_n 2, 1)) rfl ?_
  exact g_iret (by decide +kernel : decode (m_byt 271) 18 = .ok (.ireturn, 1)) (by decide +kernel)
theorem b_271_10 {Z : mZ} {l0 l1 l2 l3 : mV} {h : mH} : m_run Z (271, 10, [l0, l1, l2, l3], [], h) = some (.inl (0, (-51)), h) := by
  refine g_base (by decide +kernel : decode (m_byt 271) 10 = .ok (.bipush (-51), 2)) rfl rfl ?_
  show m_run Z (271, 12, [l0, l1, l2, l3], [(0, (-51))], h) = _
  exact g_iret (by decide +kernel : decode (m_byt 271) 12 = .ok (.ireturn, 1)) (by decide +kernel)
theorem b_271_14 {Z : mZ} {l0 l1 l2 l3 : mV} {h : mH} : m_run Z (271, 14, [l0, l1, l2, l3], [], h) = some (.inl (0, (-52)), h) := by
  refine g_base (by decide +kernel : decode (m_byt 271) 14 = .ok (.bipush (-52), 2)) rfl rfl ?_
  show m_run Z (271, 16, [l0, l1, l2, l3], [(0, (-52))], h) = _
  exact g_iret (by decide +kernel : decode (m_byt 271) 16 = .ok (.ireturn, 1)) (by decide +kernel)
theorem b_271_17 {Z : mZ} {l0 l1 l3 : mV} {x2 : Int} {h : mH} : m_run Z (271, 17, [l0, l1, (0, x2), l3], [], h) = some (.inl (0, x2), h) := by
  refine g_iload_n (k := 2) (x := x2) (by decide +kernel : decode (m_byt 271) 17 = .ok (.iload_n 2, 1)) rfl ?_
  exact g_iret (by decide +kernel : decode (m_byt 271) 18 = .ok (.ireturn, 1)) (by decide +kernel)
theorem e_272 {Z : mZ} {r0 : Nat} {h : mH} : m_cl Z 272 [(2, ((r0 : Nat) : Int))] h = m_run Z (272, 0, [(2, ((r0 : Nat) : Int)), (9, 0), (9, 0)], [], h) := g_ent (k := 3) (by decide) (by decide +kernel) (Nat.le_of_ble_eq_true rfl) (by decide +kernel) rfl
theorem b_272_0 {Z : mZ} {l1 l2 : mV} {r0 : Nat} {K : Nat → mK} {σ : Nat → Nat → Int} {n e s : Nat} (h0 : q_ob K n r0 6) : m_run Z (272, 0, [(2, ((r0 : Nat) : Int)), l1, l2], [], (K, σ, n, e, s)) = (m_cl Z 128 [(2, ((r0 : Nat) : Int))] (K, σ, n, e, s)).bind (m_aft (m_run Z) 272 1 [(2, ((r0 : Nat) : Int)), l1, l2] []) := by
  refine g_aload_n (k := 0) (v := (2, ((r0 : Nat) : Int))) (by decide +kernel : decode (m_byt 272) 0 = .ok (.aload_n 0, 1)) rfl (Or.inl rfl) ?_
  exact g_inv (k := 1) (m' := 128) (np := 0) (as := [(2, ((r0 : Nat) : Int))]) (by decide +kernel : decode (m_byt 272) 1 = .ok (.invokevirtual 114, 3)) (Or.inl ⟨rfl, rfl⟩) (by decide +kernel) (by decide +kernel) (by decide +kernel) (Nat.le_of_ble_eq_true rfl) rfl (Or.inr (g_rcv (by decide +kernel) h0))
theorem b_272_4 {Z : mZ} {l1 l2 : mV} {s0 : Int} {r0 : Nat} {h : mH} : m_run Z (272, 4, [(2, ((r0 : Nat) : Int)), l1, l2], [(0, s0)], h) = some (.inl (0, s0), h) := by
  refine g_istore_n (k := 1) (by decide +kernel : decode (m_byt 272) 4 = .ok (.istore_n 1, 1)) (Nat.le_of_ble_eq_true rfl) ?_
  show m_run Z (272, 5, [(2, ((r0 : Nat) : Int)), (0, s0), l2], [], h) = _
  refine g_jmp (t := 12) (by decide +kernel : decode (m_byt 272) 5 = .ok (.goto 7, 3)) (by decide) ?_
  refine g_iload_n (k := 1) (x := s0) (by decide +kernel : decode (m_byt 272) 12 = .ok (.iload_n 1, 1)) rfl ?_
  exact g_iret (by decide +kernel : decode (m_byt 272) 13 = .ok (.ireturn, 1)) (by decide +kernel)
theorem b_272_9 {Z : mZ} {l0 l1 l2 : mV} {h : mH} : m_run Z (272, 9, [l0, l1, l2], [], h) = some (.inl (0, (-52)), h) := by
  refine g_base (by decide +kernel : decode (m_byt 272) 9 = .ok (.bipush (-52), 2)) rfl rfl ?_
  show m_run Z (272, 11, [l0, l1, l2], [(0, (-52))], h) = _
  exact g_iret (by decide +kernel : decode (m_byt 272) 11 = .ok (.ireturn, 1)) (by decide +kernel)
theorem b_272_12 {Z : mZ} {l0 l2 : mV} {x1 : Int} {h : mH} : m_run Z (272, 12, [l0, (0, x1), l2], [], h) = some (.inl (0, x1), h) := by
  refine g_iload_n (k := 1) (x := x1) (by decide +kernel : decode (m_byt 272) 12 = .ok (.iload_n 1, 1)) rfl ?_
  exact g_iret (by decide +kernel : decode (m_byt 272) 13 = .ok (.ireturn, 1)) (by decide +kernel)
end
