section
theorem e_251 {Z : mZ} {r0 : Nat} {x1 : Int} {r2 : Nat} {h : mH} : m_cl Z 251 [(2, ((r0 : Nat) : Int)), (0, x1), (2, ((r2 : Nat) : Int))] h = m_run Z (251, 0, [(2, ((r0 : Nat) : Int)), (0, x1), (2, ((r2 : Nat) : Int)), (9, 0)], [], h) := g_ent (k := 4) (by decide) (by decide +kernel) (Nat.le_of_ble_eq_true rfl) (by decide +kernel) rfl
theorem b_251_0 {Z : mZ} {l3 : mV} {x1 : Int} {r2 r0 : Nat} {K : Nat → mK} {σ : Nat → Nat → Int} {n e s : Nat} (h0 : q_ob K n r0 6) : m_run Z (251, 0, [(2, ((r0 : Nat) : Int)), (0, x1), (2, ((r2 : Nat) : Int)), l3], [], (K, σ, n, e, s)) = (m_cl Z 95 [(2, ((r0 : Nat) : Int)), (0, x1)] (K, σ, n, e, s)).bind (m_aft (m_run Z) 251 4 [(2, ((r0 : Nat) : Int)), (0, x1), (2, ((r2 : Nat) : Int)), l3] [(0, 0), (2, ((r2 : Nat) : Int))]) := by
  refine g_aload_n (k := 2) (v := (2, ((r2 : Nat) : Int))) (by decide +kernel : decode (m_byt 251) 0 = .ok (.aload_n 2, 1)) rfl (Or.inl rfl) ?_
  refine g_base (by decide +kernel : decode (m_byt 251) 1 = .ok (.iconst 0, 1)) rfl rfl ?_
  show m_run Z (251, 2, [(2, ((r0 : Nat) : Int)), (0, x1), (2, ((r2 : Nat) : Int)), l3], [(0, 0), (2, ((r2 : Nat) : Int))], (K, σ, n, e, s)) = _
  refine g_aload_n (k := 0) (v := (2, ((r0 : Nat) : Int))) (by decide +kernel : decode (m_byt 251) 2 = .ok (.aload_n 0, 1)) rfl (Or.inl rfl) ?_
  refine g_iload_n (k := 1) (x := x1) (by decide +kernel : decode (m_byt 251) 3 = .ok (.iload_n 1, 1)) rfl ?_
  exact g_inv (k := 1) (m' := 95) (np := 1) (as := [(2, ((r0 : Nat) : Int)), (0, x1)]) (by decide +kernel : decode (m_byt 251) 4 = .ok (.invokevirtual 7, 3)) (Or.inl ⟨rfl, rfl⟩) (by decide +kernel) (by decide +kernel) (by decide +kernel) (Nat.le_of_ble_eq_true rfl) rfl (Or.inr (g_rcv (by decide +kernel) h0))
theorem b_251_7 {Z : mZ} {l0 l1 l2 l3 : mV} {s0 s1 : Int} {s2 : Nat} {K : Nat → mK} {σ : Nat → Nat → Int} {n e s : Nat} (h0 : 0 ≤ w32 s1) (h1 : w32 s1 < (q_ln K s2 : Int)) (h2 : q_ak K n s2 3) : m_run Z (251, 7, [l0, l1, l2, l3], [(0, s0), (0, s1), (2, ((s2 : Nat) : Int))], (K, σ, n, e, s)) = some (.inl (0, 0), (K, (m_up2 σ s2 (w32 s1).toNat (w32 s0)), n, e, s)) := by
  refine g_base (by decide +kernel : decode (m_byt 251) 7 = .ok (.i2l, 1)) rfl rfl ?_
  show m_run Z (251, 8, [l0, l1, l2, l3], [(1, (w32 s0)), (0, s1), (2, ((s2 : Nat) : Int))], (K, σ, n, e, s)) = _
  refine g_last (by decide +kernel : decode (m_byt 251) 8 = .ok (.lastore, 1)) h2 h0 h1 ?_
  show m_run Z (251, 9, [l0, l1, l2, l3], [], (K, (m_up2 σ s2 (w32 s1).toNat (w32 s0)), n, e, s)) = _
  refine g_jmp (t := 15) (by decide +kernel : decode (m_byt 251) 9 = .ok (.goto 6, 3)) (by decide) ?_
  refine g_base (by decide +kernel : decode (m_byt 251) 15 = .ok (.iconst 0, 1)) rfl rfl ?_
  show m_run Z (251, 16, [l0, l1, l2, l3], [(0, 0)], (K, (m_up2 σ s2 (w32 s1).toNat (w32 s0)), n, e, s)) = _
  exact g_iret (by decide +kernel : decode (m_byt 251) 16 = .ok (.ireturn, 1)) (by decide +kernel)
theorem b_251_13 {Z : mZ} {l0 l1 l2 l3 : mV} {h : mH} : m_run Z (251, 13, [l0, l1, l2, l3], [], h) = some (.inl (0, 1), h) := by
  refine g_base (by decide +kernel : decode (m_byt 251) 13 = .ok (.iconst 1, 1)) rfl rfl ?_
  show m_run Z (251, 14, [l0, l1, l2, l3], [(0, 1)], h) = _
  exact g_iret (by decide +kernel : decode (m_byt 251) 14 = .ok (.ireturn, 1)) (by decide +kernel)
theorem b_251_15 {Z : mZ} {l0 l1 l2 l3 : mV} {h : mH} : m_run Z (251, 15, [l0, l1, l2, l3], [], h) = some (.inl (0, 0), h) := by
  refine g_base (by decide +kernel : decode (m_byt 251) 15 = .ok (.iconst 0, 1)) rfl rfl ?_
  show m_run Z (251, 16, [l0, l1, l2, l3], [(0, 0)], h) = _
  exact g_iret (by decide +kernel : decode (m_byt 251) 16 = .ok (.ireturn, 1)) (by decide +kernel)
theorem e_252 {Z : mZ} {r0 : Nat} {x1 : Int} {x2 : Int} {x3 : Int} {r4 : Nat} {h : mH} : m_cl Z 252 [(2, ((r0 : Nat) : Int)), (0, x1), (0, x2), (0, x3), (2, ((r4 : Nat) : Int))] h = m_run Z (252, 0, [(2, ((r0 : Nat) : Int)), (0, x1), (0, x2), (0, x3), (2, ((r4 : Nat) : Int)), (9, 0)], [], h) := g_ent (k := 6) (by decide) (by decide +kernel) (Nat.le_of_ble_eq_true rfl) (by decide +kernel) rfl
theorem b_252_0 {Z : mZ} {l5 : mV} {x1 x2 x3 : Int} {r4 r0 : Nat} {K : Nat → mK} {σ : Nat → Nat → Int} {n e s : Nat} (h0 : q_ob K n r0 6) : m_run Z (252, 0, [(2, ((r0 : Nat) : Int)), (0, x1), (0, x2), (0, x3), (2, ((r4 : Nat) : Int)), l5], [], (K, σ, n, e, s)) = (m_cl Z 96 [(2, ((r0 : Nat) : Int)), (0, x1), (0, x2), (0, x3)] (K, σ, n, e, s)).bind (m_aft (m_run Z) 252 7 [(2, ((r0 : Nat) : Int)), (0, x1), (0, x2), (0, x3), (2, ((r4 : Nat) : Int)), l5] [(0, 0), (2, ((r4 : Nat) : Int))]) := by
  refine g_aload (k := 4) (v := (2, ((r4 : Nat) : Int))) (by decide +kernel : decode (m_byt 252) 0 = .ok (.aload 4, 2)) rfl (Or.inl rfl) ?_
  refine g_base (by decide +kernel : decode (m_byt 252) 2 = .ok (.iconst 0, 1)) rfl rfl ?_
  show m_run Z (252, 3, [(2, ((r0 : Nat) : Int)), (0, x1), (0, x2), (0, x3), (2, ((r4 : Nat) : Int)), l5], [(0, 0), (2, ((r4 : Nat) : Int))], (K, σ, n, e, s)) = _
  refine g_aload_n (k := 0) (v := (2, ((r0 : Nat) : Int))) (by decide +kernel : decode (m_byt 252) 3 = .ok (.aload_n 0, 1)) rfl (Or.inl rfl) ?_
  refine g_iload_n (k := 1) (x := x1) (by decide +kernel : decode (m_byt 252) 4 = .ok (.iload_n 1, 1)) rfl ?_
  refine g_iload_n (k := 2) (x := x2) (by decide +kernel : decode (m_byt 252) 5 = .ok (.iload_n 2, 1)) rfl ?_
  refine g_iload_n (k := 3) (x := x3) (by decide +kernel : decode (m_byt 252) 6 = .ok (.iload_n 3, 1)) rfl ?_
  exact g_inv (k := 1) (m' := 96) (np := 3) (as := [(2, ((r0 : Nat) : Int)), (0, x1), (0, x2), (0, x3)]) (by decide +kernel : decode (m_byt 252) 7 = .ok (.invokevirtual 15, 3)) (Or.inl ⟨rfl, rfl⟩) (by decide +kernel) (by decide +kernel) (by decide +kernel) (Nat.le_of_ble_eq_true rfl) rfl (Or.inr (g_rcv (by decide +kernel) h0))
theorem b_252_10 {Z : mZ} {l0 l1 l2 l3 l4 l5 : mV} {s0 s1 : Int} {s2 : Nat} {K : Nat → mK} {σ : Nat → Nat → Int} {n e s : Nat} (h0 : 0 ≤ w32 s1) (h1 : w32 s1 < (q_ln K s2 : Int)) (h2 : q_ak K n s2 3) : m_run Z (252, 10, [l0, l1, l2, l3, l4, l5], [(0, s0), (0, s1), (2, ((s2 : Nat) : Int))], (K, σ, n, e, s)) = some (.inl (0, 0), (K, (m_up2 σ s2 (w32 s1).toNat (w32 s0)), n, e, s)) := by
  refine g_base (by decide +kernel : decode (m_byt 252) 10 = .ok (.i2l, 1)) rfl rfl ?_
  show m_run Z (252, 11, [l0, l1, l2, l3, l4, l5], [(1, (w32 s0)), (0, s1), (2, ((s2 : Nat) : Int))], (K, σ, n, e, s)) = _
  refine g_last (by decide +kernel : decode (m_byt 252) 11 = .ok (.lastore, 1)) h2 h0 h1 ?_
  show m_run Z (252, 12, [l0, l1, l2, l3, l4, l5], [], (K, (m_up2 σ s2 (w32 s1).toNat (w32 s0)), n, e, s)) = _
  refine g_jmp (t := 27) (by decide +kernel : decode (m_byt 252) 12 = .ok (.goto 15, 3)) (by decide) ?_
  refine g_base (by decide +kernel : decode (m_byt 252) 27 = .ok (.iconst 0, 1)) rfl rfl ?_
  show m_run Z (252, 28, [l0, l1, l2, l3, l4, l5], [(0, 0)], (K, (m_up2 σ s2 (w32 s1).toNat (w32 s0)), n, e, s)) = _
  exact g_iret (by decide +kernel : decode (m_byt 252) 28 = .ok (.ireturn, 1)) (by decide +kernel)
theorem b_252_17 {Z : mZ} {l0 l1 l2 l3 l4 l5 : mV} {h : mH} : m_run Z (252, 17, [l0, l1, l2, l3, l4, l5], [], h) = some (.inl (0, 1), h) := by
  refine g_base (by decide +kernel : decode (m_byt 252) 17 = .ok (.iconst 1, 1)) rfl rfl ?_
  show m_run Z (252, 18, [l0, l1, l2, l3, l4, l5], [(0, 1)], h) = _
  exact g_iret (by decide +kernel : decode (m_byt 252) 18 = .ok (.ireturn, 1)) (by decide +kernel)
theorem b_252_21 {Z : mZ} {l0 l1 l2 l3 l4 l5 : mV} {h : mH} : m_run Z (252, 21, [l0, l1, l2, l3, l4, l5], [], h) = some (.inl (0, 2), h) := by
  refine g_base (by decide +kernel : decode (m_byt 252) 21 = .ok (.iconst 2, 1)) rfl rfl ?_
  show m_run Z (252, 22, [l0, l1, l2, l3, l4, l5], [(0, 2)], h) = _
  exact g_iret (by decide +kernel : decode (m_byt 252) 22 = .ok (.ireturn, 1)) (by decide +kernel)
theorem b_252_25 {Z : mZ} {l0 l1 l2 l3 l4 l5 : mV} {h : mH} : m_run Z (252, 25, [l0, l1, l2, l3, l4, l5], [], h) = some (.inl (0, 3), h) := by
  refine g_base (by decide +kernel : decode (m_byt 252) 25 = .ok (.iconst 3, 1)) rfl rfl ?_
  show m_run Z (252, 26, [l0, l1, l2, l3, l4, l5], [(0, 3)], h) = _
  exact g_iret (by decide +kernel : decode (m_byt 252) 26 = .ok (.ireturn, 1)) (by decide +kernel)
theorem b_252_27 {Z : mZ} {l0 l1 l2 l3 l4 l5 : mV} {h : mH} : m_run Z (252, 27, [l0, l1, l2, l3, l4, l5], [], h) = some (.inl (0, 0), h) := by
  refine g_base (by decide +kernel : decode (m_byt 252) 27 = .ok (.iconst 0, 1)) rfl rfl ?_
  show m_run Z (252, 28, [l0, l1, l2, l3, l4, l5], [(0, 0)], h) = _
  exact g_iret (by decide +kernel : decode (m_byt 252) 28 = .ok (.ireturn, 1)) (by decide +kernel)
theorem e_253 {Z : mZ} {r0 : Nat} {x1 : Int} {r2 : Nat} {h : mH} : m_cl Z 253 [(2, ((r0 : Nat) : Int)), (0, x1), (2, ((r2 : Nat) : Int))] h = m_run Z (253, 0, [(2, ((r0 : Nat) : Int)), (0, x1), (2, ((r2 : Nat) : Int)), (9, 0)], [], h) := g_ent (k := 4) (by decide) (by decide +kernel) (Nat.le_of_ble_eq_true rfl) (by decide +kernel) rfl
theorem b_253_0 {Z : mZ} {l3 : mV} {x1 : Int} {r2 r0 : Nat} {K : Nat → mK} {σ : Nat → Nat → Int} {n e s : Nat} (h0 : q_ob K n r0 6) : m_run Z (253, 0, [(2, ((r0 : Nat) : Int)), (0, x1), (2, ((r2 : Nat) : Int)), l3], [], (K, σ, n, e, s)) = (m_cl Z 97 [(2, ((r0 : Nat) : Int)), (0, x1)] (K, σ, n, e, s)).bind (m_aft (m_run Z) 253 4 [(2, ((r0 : Nat) : Int)), (0, x1), (2, ((r2 : Nat) : Int)), l3] [(0, 0), (2, ((r2 : Nat) : Int))]) := by
  refine g_aload_n (k := 2) (v := (2, ((r2 : Nat) : Int))) (by decide +kernel : decode (m_byt 253) 0 = .ok (.aload_n 2, 1)) rfl (Or.inl rfl) ?_
  refine g_base (by decide +kernel : decode (m_byt 253) 1 = .ok (.iconst 0, 1)) rfl rfl ?_
  show m_run Z (253, 2, [(2, ((r0 : Nat) : Int)), (0, x1), (2, ((r2 : Nat) : Int)), l3], [(0, 0), (2, ((r2 : Nat) : Int))], (K, σ, n, e, s)) = _
  refine g_aload_n (k := 0) (v := (2, ((r0 : Nat) : Int))) (by decide +kernel : decode (m_byt 253) 2 = .ok (.aload_n 0, 1)) rfl (Or.inl rfl) ?_
  refine g_iload_n (k := 1) (x := x1) (by decide +kernel : decode (m_byt 253) 3 = .ok (.iload_n 1, 1)) rfl ?_
  exact g_inv (k := 1) (m' := 97) (np := 1) (as := [(2, ((r0 : Nat) : Int)), (0, x1)]) (by decide +kernel : decode (m_byt 253) 4 = .ok (.invokevirtual 23, 3)) (Or.inl ⟨rfl, rfl⟩) (by decide +kernel) (by decide +kernel) (by decide +kernel) (Nat.le_of_ble_eq_true rfl) rfl (Or.inr (g_rcv (by decide +kernel) h0))
theorem b_253_7 {Z : mZ} {l0 l1 l2 l3 : mV} {s0 s1 : Int} {s2 : Nat} {K : Nat → mK} {σ : Nat → Nat → Int} {n e s : Nat} (h0 : 0 ≤ w32 s1) (h1 : w32 s1 < (q_ln K s2 : Int)) (h2 : q_ak K n s2 3) : m_run Z (253, 7, [l0, l1, l2, l3], [(0, s0), (0, s1), (2, ((s2 : Nat) : Int))], (K, σ, n, e, s)) = some (.inl (0, 0), (K, (m_up2 σ s2 (w32 s1).toNat (w32 s0)), n, e, s)) := by
  refine g_base (by decide +kernel : decode (m_byt 253) 7 = .ok (.i2l, 1)) rfl rfl ?_
  show m_run Z (253, 8, [l0, l1, l2, l3], [(1, (w32 s0)), (0, s1), (2, ((s2 : Nat) : Int))], (K, σ, n, e, s)) = _
  refine g_last (by decide +kernel : decode (m_byt 253) 8 = .ok (.lastore, 1)) h2 h0 h1 ?_
  show m_run Z (253, 9, [l0, l1, l2, l3], [], (K, (m_up2 σ s2 (w32 s1).toNat (w32 s0)), n, e, s)) = _
  refine g_jmp (t := 15) (by decide +kernel : decode (m_byt 253) 9 = .ok (.goto 6, 3)) (by decide) ?_
  refine g_base (by decide +kernel : decode (m_byt 253) 15 = .ok (.iconst 0, 1)) rfl rfl ?_
  show m_run Z (253, 16, [l0, l1, l2, l3], [(0, 0)], (K, (m_up2 σ s2 (w32 s1).toNat (w32 s0)), n, e, s)) = _
  exact g_iret (by decide +kernel : decode (m_byt 253) 16 = .ok (.ireturn, 1)) (by decide +kernel)
theorem b_253_13 {Z : mZ} {l0 l1 l2 l3 : mV} {h : mH} : m_run Z (253, 13, [l0, l1, l2, l3], [], h) = some (.inl (0, 1), h) := by
  refine g_base (by decide +kernel : decode (m_byt 253) 13 = .ok (.iconst 1, 1)) rfl rfl ?_
  show m_run Z (253, 14, [l0, l1, l2, l3], [(0, 1)], h) = _
  exact g_iret (by decide +kernel : decode (m_byt 253) 14 = .ok (.ireturn, 1)) (by decide +kernel)
theorem b_253_15 {Z : mZ} {l0 l1 l2 l3 : mV} {h : mH} : m_run Z (253, 15, [l0, l1, l2, l3], [], h) = some (.inl (0, 0), h) := by
  refine g_base (by decide +kernel : decode (m_byt 253) 15 = .ok (.iconst 0, 1)) rfl rfl ?_
  show m_run Z (253, 16, [l0, l1, l2, l3], [(0, 0)], h) = _
  exact g_iret (by decide +kernel : decode (m_byt 253) 16 = .ok (.ireturn, 1)) (by decide +kernel)
theorem e_254 {Z : mZ} {r0 : Nat} {x1 : Int} {x2 : Int} {r3 : Nat} {h : mH} : m_cl Z 254 [(2, ((r0 : Nat) : Int)), (0, x1), (0, x2), (2, ((r3 : Nat) : Int))] h = m_run Z (254, 0, [(2, ((r0 : Nat) : Int)), (0, x1), (0, x2), (2, ((r3 : Nat) : Int)), (9, 0)], [], h) := g_ent (k := 5) (by decide) (by decide +kernel) (Nat.le_of_ble_eq_true rfl) (by decide +kernel) rfl
theorem b_254_0 {Z : mZ} {l4 : mV} {x1 x2 : Int} {r3 r0 : Nat} {K : Nat → mK} {σ : Nat → Nat → Int} {n e s : Nat} (h0 : q_ob K n r0 6) : m_run Z (254, 0, [(2, ((r0 : Nat) : Int)), (0, x1), (0, x2), (2, ((r3 : Nat) : Int)), l4], [], (K, σ, n, e, s)) = (m_cl Z 98 [(2, ((r0 : Nat) : Int)), (0, x1), (0, x2)] (K, σ, n, e, s)).bind (m_aft (m_run Z) 254 5 [(2, ((r0 : Nat) : Int)), (0, x1), (0, x2), (2, ((r3 : Nat) : Int)), l4] [(0, 0), (2, ((r3 : Nat) : Int))]) := by
  refine g_aload_n (k := 3) (v := (2, ((r3 : Nat) : Int))) (by decide +kernel : decode (m_byt 254) 0 = .ok (.aload_n 3, 1)) rfl (Or.inl rfl) ?_
  refine g_base (by decide +kernel : decode (m_byt 254) 1 = .ok (.iconst 0, 1)) rfl rfl ?_
  show m_run Z (254, 2, [(2, ((r0 : Nat) : Int)), (0, x1), (0, x2), (2, ((r3 : Nat) : Int)), l4], [(0, 0), (2, ((r3 : Nat) : Int))], (K, σ, n, e, s)) = _
  refine g_aload_n (k := 0) (v := (2, ((r0 : Nat) : Int))) (by decide +kernel : decode (m_byt 254) 2 = .ok (.aload_n 0, 1)) rfl (Or.inl rfl) ?_
  refine g_iload_n (k := 1) (x := x1) (by decide +kernel : decode (m_byt 254) 3 = .ok (.iload_n 1, 1)) rfl ?_
  refine g_iload_n (k := 2) (x := x2) (by decide +kernel : decode (m_byt 254) 4 = .ok (.iload_n 2, 1)) rfl ?_
  exact g_inv (k := 1) (m' := 98) (np := 2) (as := [(2, ((r0 : Nat) : Int)), (0, x1), (0, x2)]) (by decide +kernel : decode (m_byt 254) 5 = .ok (.invokevirtual 26, 3)) (Or.inl ⟨rfl, rfl⟩) (by decide +kernel) (by decide +kernel) (by decide +kernel) (Nat.le_of_ble_eq_true rfl) rfl (Or.inr (g_rcv (by decide +kernel) h0))
theorem b_254_8 {Z : mZ} {l0 l1 l2 l3 l4 : mV} {s0 s1 : Int} {s2 : Nat} {K : Nat → mK} {σ : Nat → Nat → Int} {n e s : Nat} (h0 : 0 ≤ w32 s1) (h1 : w32 s1 < (q_ln K s2 : Int)) (h2 : q_ak K n s2 3) : m_run Z (254, 8, [l0, l1, l2, l3, l4], [(0, s0), (0, s1), (2, ((s2 : Nat) : Int))], (K, σ, n, e, s)) = some (.inl (0, 0), (K, (m_up2 σ s2 (w32 s1).toNat (w32 s0)), n, e, s)) := by
  refine g_base (by decide +kernel : decode (m_byt 254) 8 = .ok (.i2l, 1)) rfl rfl ?_
  show m_run Z (254, 9, [l0, l1, l2, l3, l4], [(1, (w32 s0)), (0, s1), (2, ((s2 : Nat) : Int))], (K, σ, n, e, s)) = _
  refine g_last (by decide +kernel : decode (m_byt 254) 9 = .ok (.lastore, 1)) h2 h0 h1 ?_
  show m_run Z (254, 10, [l0, l1, l2, l3, l4], [], (K, (m_up2 σ s2 (w32 s1).toNat (w32 s0)), n, e, s)) = _
  refine g_jmp (t := 21) (by decide +kernel : decode (m_byt 254) 10 = .ok (.goto 11, 3)) (by decide) ?_
  refine g_base (by decide +kernel : decode (m_byt 254) 21 = .ok (.iconst 0, 1)) rfl rfl ?_
  show m_run Z (254, 22, [l0, l1, l2, l3, l4], [(0, 0)], (K, (m_up2 σ s2 (w32 s1).toNat (w32 s0)), n, e, s)) = _
  exact g_iret (by decide +kernel : decode (m_byt 254) 22 = .ok (.ireturn, 1)) (by decide +kernel)
theorem b_254_15 {Z : mZ} {l0 l1 l2 l3 l4 : mV} {h : mH} : m_run Z (254, 15, [l0, l1, l2, l3, l4], [], h) = some (.inl (0, 1), h) := by
  refine g_base (by decide +kernel : decode (m_byt 254) 15 = .ok (.iconst 1, 1)) rfl rfl ?_
  show m_run Z (254, 16, [l0, l1, l2, l3, l4], [(0, 1)], h) = _
  exact g_iret (by decide +kernel : decode (m_byt 254) 16 = .ok (.ireturn, 1)) (by decide +kernel)
theorem b_254_19 {Z : mZ} {l0 l1 l2 l3 l4 : mV} {h : mH} : m_run Z (254, 19, [l0, l1, l2, l3, l4], [], h) = some (.inl (0, 2), h) := by
  refine g_base (by decide +kernel : decode (m_byt 254) 19 = .ok (.iconst 2, 1)) rfl rfl ?_
  show m_run Z (254, 20, [l0, l1, l2, l3, l4], [(0, 2)], h) = _
  exact g_iret (by decide +kernel : decode (m_byt 254) 20 = .ok (.ireturn, 1)) (by decide +kernel)
theorem b_254_21 {Z : mZ} {l0 l1 l2 l3 l4 : mV} {h : mH} : m_run Z (254, 21, [l0, l1, l2, l3, l4], [], h) = some (.inl (0, 0), h) := by
  refine g_base (by decide +kernel : decode (m_byt 254) 21 = .ok (.iconst 0, 1)) rfl rfl ?_
  show m_run Z (254, 22, [l0, l1, l2, l3, l4], [(0, 0)], h) = _
  exact g_iret (by decide +kernel : decode (m_byt 254) 22 = .ok (.ireturn, 1)) (by decide +kernel)
theorem e_255 {Z : mZ} {r0 : Nat} {x1 : Int} {x2 : Int} {r3 : Nat} {h : mH} : m_cl Z 255 [(2, ((r0 : Nat) : Int)), (0, x1), (0, x2), (2, ((r3 : Nat) : Int))] h = m_run Z (255, 0, [(2, ((r0 : Nat) : Int)), (0, x1), (0, x2), (2, ((r3 : Nat) : Int)), (9, 0)], [], h) := g_ent (k := 5) (by decide) (by decide +kernel) (Nat.le_of_ble_eq_true rfl) (by decide +kernel) rfl
theorem b_255_0 {Z : mZ} {l4 : mV} {x1 x2 : Int} {r3 r0 : Nat} {K : Nat → mK} {σ : Nat → Nat → Int} {n e s : Nat} (h0 : q_ob K n r0 6) : m_run Z (255, 0, [(2, ((r0 : Nat) : Int)), (0, x1), (0, x2), (2, ((r3 : Nat) : Int)), l4], [], (K, σ, n, e, s)) = (m_cl Z 99 [(2, ((r0 : Nat) : Int)), (0, x1), (0, x2)] (K, σ, n, e, s)).bind (m_aft (m_run Z) 255 5 [(2, ((r0 : Nat) : Int)), (0, x1), (0, x2), (2, ((r3 : Nat) : Int)), l4] [(0, 0), (2, ((r3 : Nat) : Int))]) := by
  refine g_aload_n (k := 3) (v := (2, ((r3 : Nat) : Int))) (by decide +kernel : decode (m_byt 255) 0 = .ok (.aload_n 3, 1)) rfl (Or.inl rfl) ?_
  refine g_base (by decide +kernel : decode (m_byt 255) 1 = .ok (.iconst 0, 1)) rfl rfl ?_
  show m_run Z (255, 2, [(2, ((r0 : Nat) : Int)), (0, x1), (0, x2), (2, ((r3 : Nat) : Int)), l4], [(0, 0), (2, ((r3 : Nat) : Int))], (K, σ, n, e, s)) = _
  refine g_aload_n (k := 0) (v := (2, ((r0 : Nat) : Int))) (by decide +kernel : decode (m_byt 255) 2 = .ok (.aload_n 0, 1)) rfl (Or.inl rfl) ?_
  refine g_iload_n (k := 1) (x := x1) (by decide +kernel : decode (m_byt 255) 3 = .ok (.iload_n 1, 1)) rfl ?_
  refine g_iload_n (k := 2) (x := x2) (by decide +kernel : decode (m_byt 255) 4 = .ok (.iload_n 2, 1)) rfl ?_
  exact g_inv (k := 1) (m' := 99) (np := 2) (as := [(2, ((r0 : Nat) : Int)), (0, x1), (0, x2)]) (by decide +kernel : decode (m_byt 255) 5 = .ok (.invokevirtual 30, 3)) (Or.inl ⟨rfl, rfl⟩) (by decide +kernel) (by decide +kernel) (by decide +kernel) (Nat.le_of_ble_eq_true rfl) rfl (Or.inr (g_rcv (by decide +kernel) h0))
theorem b_255_8 {Z : mZ} {l0 l1 l2 l3 l4 : mV} {s0 s1 : Int} {s2 : Nat} {K : Nat → mK} {σ : Nat → Nat → Int} {n e s : Nat} (h0 : 0 ≤ w32 s1) (h1 : w32 s1 < (q_ln K s2 : Int)) (h2 : q_ak K n s2 3) : m_run Z (255, 8, [l0, l1, l2, l3, l4], [(0, s0), (0, s1), (2, ((s2 : Nat) : Int))], (K, σ, n, e, s)) = some (.inl (0, 0), (K, (m_up2 σ s2 (w32 s1).toNat (w32 s0)), n, e, s)) := by
  refine g_base (by decide +kernel : decode (m_byt 255) 8 = .ok (.i2l, 1)) rfl rfl ?_
  show m_run Z (255, 9, [l0, l1, l2, l3, l4], [(1, (w32 s0)), (0, s1), (2, ((s2 : Nat) : Int))], (K, σ, n, e, s)) = _
  refine g_last (by decide +kernel : decode (m_byt 255) 9 = .ok (.lastore, 1)) h2 h0 h1 ?_
  show m_run Z (255, 10, [l0, l1, l2, l3, l4], [], (K, (m_up2 σ s2 (w32 s1).toNat (w32 s0)), n, e, s)) = _
  refine g_jmp (t := 21) (by decide +kernel : decode (m_byt 255) 10 = .ok (.goto 11, 3)) (by decide) ?_
  refine g_base (by decide +kernel : decode (m_byt 255) 21 = .ok (.iconst 0, 1)) rfl rfl ?_
  show m_run Z (255, 22, [l0, l1, l2, l3, l4], [(0, 0)], (K, (m_up2 σ s2 (w32 s1).toNat (w32 s0)), n, e, s)) = _
  exact g_iret (by decide +kernel : decode (m_byt 255) 22 = .ok (.ireturn, 1)) (by decide +kernel)
theorem b_255_15 {Z : mZ} {l0 l1 l2 l3 l4 : mV} {h : mH} : m_run Z (255, 15, [l0, l1, l2, l3, l4], [], h) = some (.inl (0, 1), h) := by
  refine g_base (by decide +kernel : decode (m_byt 255) 15 = .ok (.iconst 1, 1)) rfl rfl ?_
  show m_run Z (255, 16, [l0, l1, l2, l3, l4], [(0, 1)], h) = _
  exact g_iret (by decide +kernel : decode (m_byt 255) 16 = .ok (.ireturn, 1)) (by decide +kernel)
theorem b_255_19 {Z : mZ} {l0 l1 l2 l3 l4 : mV} {h : mH} : m_run Z (255, 19, [l0, l1, l2, l3, l4], [], h) = some (.inl (0, 2), h) := by
  refine g_base (by decide +kernel : decode (m_byt 255) 19 = .ok (.iconst 2, 1)) rfl rfl ?_
  show m_run Z (255, 20, [l0, l1, l2, l3, l4], [(0, 2)], h) = _
  exact g_iret (by decide +kernel : decode (m_byt 255) 20 = .ok (.ireturn, 1)) (by decide +kernel)
theorem b_255_21 {Z : mZ} {l0 l1 l2 l3 l4 : mV} {h : mH} : m_run Z (255, 21, [l0, l1, l2, l3, l4], [], h) = some (.inl (0, 0), h) := by
  refine g_base (by decide +kernel : decode (m_byt 255) 21 = .ok (.iconst 0, 1)) rfl rfl ?_
  show m_run Z (255, 22, [l0, l1, l2, l3, l4], [(0, 0)], h) = _
  exact g_iret (by decide +kernel : decode (m_byt 255) 22 = .ok (.ireturn, 1)) (by decide +kernel)
theorem e_256 {Z : mZ} {r0 : Nat} {x1 : Int} {x2 : Int} {x3 : Int} {r4 : Nat} {h : mH} : m_cl Z 256 [(2, ((r0 : Nat) : Int)), (0, x1), (0, x2), (0, x3), (2, ((r4 : Nat) : Int))] h = m_run Z (256, 0, [(2, ((r0 : Nat) : Int)), (0, x1), (0, x2), (0, x3), (2, ((r4 : Nat) : Int)), (9, 0)], [], h) := g_ent (k := 6) (by decide) (by decide +kernel) (Nat.le_of_ble_eq_true rfl) (by decide +kernel) rfl
theorem b_256_0 {Z : mZ} {l5 : mV} {x1 x2 x3 : Int} {r4 r0 : Nat} {K : Nat → mK} {σ : Nat → Nat → Int} {n e s : Nat} (h0 : q_ob K n r0 6) : m_run Z (256, 0, [(2, ((r0 : Nat) : Int)), (0, x1), (0, x2), (0, x3), (2, ((r4 : Nat) : Int)), l5], [], (K, σ, n, e, s)) = (m_cl Z 100 [(2, ((r0 : Nat) : Int)), (0, x1), (0, x2), (0, x3)] (K, σ, n, e, s)).bind (m_aft (m_run Z) 256 7 [(2, ((r0 : Nat) : Int)), (0, x1), (0, x2), (0, x3), (2, ((r4 : Nat) : Int)), l5] [(0, 0), (2, ((r4 : Nat) : Int))]) := by
  refine g_aload (k := 4) (v := (2, ((r4 : Nat) : Int))) (by decide +kernel : decode (m_byt 256) 0 = .ok (.aload 4, 2)) rfl (Or.inl rfl) ?_
  refine g_base (by decide +kernel : decode (m_byt 256) 2 = .ok (.iconst 0, 1)) rfl rfl ?_
  show m_run Z (256, 3, [(2, ((r0 : Nat) : Int)), (0, x1), (0, x2), (0, x3), (2, ((r4 : Nat) : Int)), l5], [(0, 0), (2, ((r4 : Nat) : Int))], (K, σ, n, e, s)) = _
  refine g_aload_n (k := 0) (v := (2, ((r0 : Nat) : Int))) (by decide +kernel : decode (m_byt 256) 3 = .ok (.aload_n 0, 1)) rfl (Or.inl rfl) ?_
  refine g_iload_n (k := 1) (x := x1) (by decide +kernel : decode (m_byt 256) 4 = .ok (.iload_n 1, 1)) rfl ?_
  refine g_iload_n (k := 2) (x := x2) (by decide +kernel : decode (m_byt 256) 5 = .ok (.iload_n 2, 1)) rfl ?_
  refine g_iload_n (k := 3) (x := x3) (by decide +kernel : decode (m_byt 256) 6 = .ok (.iload_n 3, 1)) rfl ?_
  exact g_inv (k := 1) (m' := 100) (np := 3) (as := [(2, ((r0 : Nat) : Int)), (0, x1), (0, x2), (0, x3)]) (by decide +kernel : decode (m_byt 256) 7 = .ok (.invokevirtual 33, 3)) (Or.inl ⟨rfl, rfl⟩) (by decide +kernel) (by decide +kernel) (by decide +kernel) (Nat.le_of_ble_eq_true rfl) rfl (Or.inr (g_rcv (by decide +kernel) h0))
theorem b_256_10 {Z : mZ} {l0 l1 l2 l3 l4 l5 : mV} {s0 s1 : Int} {s2 : Nat} {K : Nat → mK} {σ : Nat → Nat → Int} {n e s : Nat} (h0 : 0 ≤ w32 s1) (h1 : w32 s1 < (q_ln K s2 : Int)) (h2 : q_ak K n s2 3) : m_run Z (256, 10, [l0, l1, l2, l3, l4, l5], [(0, s0), (0, s1), (2, ((s2 : Nat) : Int))], (K, σ, n, e, s)) = some (.inl (0, 0), (K, (m_up2 σ s2 (w32 s1).toNat (w32 s0)), n, e, s)) := by
  refine g_base (by decide +kernel : decode (m_byt 256) 10 = .ok (.i2l, 1)) rfl rfl ?_
  show m_run Z (256, 11, [l0, l1, l2, l3, l4, l5], [(1, (w32 s0)), (0, s1), (2, ((s2 : Nat) : Int))], (K, σ, n, e, s)) = _
  refine g_last (by decide +kernel : decode (m_byt 256) 11 = .ok (.lastore, 1)) h2 h0 h1 ?_
  show m_run Z (256, 12, [l0, l1, l2, l3, l4, l5], [], (K, (m_up2 σ s2 (w32 s1).toNat (w32 s0)), n, e, s)) = _
  refine g_jmp (t := 27) (by decide +kernel : decode (m_byt 256) 12 = .ok (.goto 15, 3)) (by decide) ?_
  refine g_base (by decide +kernel : decode (m_byt 256) 27 = .ok (.iconst 0, 1)) rfl rfl ?_
  show m_run Z (256, 28, [l0, l1, l2, l3, l4, l5], [(0, 0)], (K, (m_up2 σ s2 (w32 s1).toNat (w32 s0)), n, e, s)) = _
  exact g_iret (by decide +kernel : decode (m_byt 256) 28 = .ok (.ireturn, 1)) (by decide +kernel)
theorem b_256_17 {Z : mZ} {l0 l1 l2 l3 l4 l5 : mV} {h : mH} : m_run Z (256, 17, [l0, l1, l2, l3, l4, l5], [], h) = some (.inl (0, 1), h) := by
  refine g_base (by decide +kernel : decode (m_byt 256) 17 = .ok (.iconst 1, 1)) rfl rfl ?_
  show m_run Z (256, 18, [l0, l1, l2, l3, l4, l5], [(0, 1)], h) = _
  exact g_iret (by decide +kernel : decode (m_byt 256) 18 = .ok (.ireturn, 1)) (by decide +kernel)
theorem b_256_21 {Z : mZ} {l0 l1 l2 l3 l4 l5 : mV} {h : mH} : m_run Z (256, 21, [l0, l1, l2, l3, l4, l5], [], h) = some (.inl (0, 2), h) := by
  refine g_base (by decide +kernel : decode (m_byt 256) 21 = .ok (.iconst 2, 1)) rfl rfl ?_
  show m_run Z (256, 22, [l0, l1, l2, l3, l4, l5], [(0, 2)], h) = _
  exact g_iret (by decide +kernel : decode (m_byt 256) 22 = .ok (.ireturn, 1)) (by decide +kernel)
theorem b_256_25 {Z : mZ} {l0 l1 l2 l3 l4 l5 : mV} {h : mH} : m_run Z (256, 25, [l0, l1, l2, l3, l4, l5], [], h) = some (.inl (0, 3), h) := by
  refine g_base (by decide +kernel : decode (m_byt 256) 25 = .ok (.iconst 3, 1)) rfl rfl ?_
  show m_run Z (256, 26, [l0, l1, l2, l3, l4, l5], [(0, 3)], h) = _
  exact g_iret (by decide +kernel : decode (m_byt 256) 26 = .ok (.ireturn, 1)) (by decide +kernel)
theorem b_256_27 {Z : mZ} {l0 l1 l2 l3 l4 l5 : mV} {h : mH} : m_run Z (256, 27, [l0, l1, l2, l3, l4, l5], [], h) = some (.inl (0, 0), h) := by
  refine g_base (by decide +kernel : decode (m_byt 256) 27 = .ok (.iconst 0, 1)) rfl rfl ?_
  show m_run Z (256, 28, [l0, l1, l2, l3, l4, l5], [(0, 0)], h) = _
  exact g_iret (by decide +kernel : decode (m_byt 256) 28 = .ok (.ireturn, 1)) (by decide +kernel)
theorem e_257 {Z : mZ} {r0 : Nat} {x1 : Int} {r2 : Nat} {h : mH} : m_cl Z 257 [(2, ((r0 : Nat) : Int)), (0, x1), (2, ((r2 : Nat) : Int))] h = m_run Z (257, 0, [(2, ((r0 : Nat) : Int)), (0, x1), (2, ((r2 : Nat) : Int)), (9, 0)], [], h) := g_ent (k := 4) (by decide) (by decide +kernel) (Nat.le_of_ble_eq_true rfl) (by decide +kernel) rfl
theorem b_257_0 {Z : mZ} {l3 : mV} {x1 : Int} {r2 r0 : Nat} {K : Nat → mK} {σ : Nat → Nat → Int} {n e s : Nat} (h0 : q_ob K n r0 6) : m_run Z (257, 0, [(2, ((r0 : Nat) : Int)), (0, x1), (2, ((r2 : Nat) : Int)), l3], [], (K, σ, n, e, s)) = (m_cl Z 101 [(2, ((r0 : Nat) : Int)), (0, x1)] (K, σ, n, e, s)).bind (m_aft (m_run Z) 257 4 [(2, ((r0 : Nat) : Int)), (0, x1), (2, ((r2 : Nat) : Int)), l3] [(0, 0), (2, ((r2 : Nat) : Int))]) := by
  refine g_aload_n (k := 2) (v := (2, ((r2 : Nat) : Int))) (by decide +kernel : decode (m_byt 257) 0 = .ok (.aload_n 2, 1)) rfl (Or.inl rfl) ?_
  refine g_base (by decide +kernel : decode (m_byt 257) 1 = .ok (.iconst 0, 1)) rfl rfl ?_
  show m_run Z (257, 2, [(2, ((r0 : Nat) : Int)), (0, x1), (2, ((r2 : Nat) : Int)), l3], [(0, 0), (2, ((r2 : Nat) : Int))], (K, σ, n, e, s)) = _
  refine g_aload_n (k := 0) (v := (2, ((r0 : Nat) : Int))) (by decide +kernel : decode (m_byt 257) 2 = .ok (.aload_n 0, 1)) rfl (Or.inl rfl) ?_
  refine g_iload_n (k := 1) (x := x1) (by decide +kernel : decode (m_byt 257) 3 = .ok (.iload_n 1, 1)) rfl ?_
  exact g_inv (k := 1) (m' := 101) (np := 1) (as := [(2, ((r0 : Nat) : Int)), (0, x1)]) (by decide +kernel : decode (m_byt 257) 4 = .ok (.invokevirtual 36, 3)) (Or.inl ⟨rfl, rfl⟩) (by decide +kernel) (by decide +kernel) (by decide +kernel) (Nat.le_of_ble_eq_true rfl) rfl (Or.inr (g_rcv (by decide +kernel) h0))
theorem b_257_7 {Z : mZ} {l0 l1 l2 l3 : mV} {s0 s1 : Int} {s2 : Nat} {K : Nat → mK} {σ : Nat → Nat → Int} {n e s : Nat} (h0 : 0 ≤ w32 s1) (h1 : w32 s1 < (q_ln K s2 : Int)) (h2 : q_ak K n s2 3) : m_run Z (257, 7, [l0, l1, l2, l3], [(0, s0), (0, s1), (2, ((s2 : Nat) : Int))], (K, σ, n, e, s)) = some (.inl (0, 0), (K, (m_up2 σ s2 (w32 s1).toNat (w32 s0)), n, e, s)) := by
  refine g_base (by decide +kernel : decode (m_byt 257) 7 = .ok (.i2l, 1)) rfl rfl ?_
  show m_run Z (257, 8, [l0, l1, l2, l3], [(1, (w32 s0)), (0, s1), (2, ((s2 : Nat) : Int))], (K, σ, n, e, s)) = _
  refine g_last (by decide +kernel : decode (m_byt 257) 8 = .ok (.lastore, 1)) h2 h0 h1 ?_
  show m_run Z (257, 9, [l0, l1, l2, l3], [], (K, (m_up2 σ s2 (w32 s1).toNat (w32 s0)), n, e, s)) = _
  refine g_jmp (t := 15) (by decide +kernel : decode (m_byt 257) 9 = .ok (.goto 6, 3)) (by decide) ?_
  refine g_base (by decide +kernel : decode (m_byt 257) 15 = .ok (.iconst 0, 1)) rfl rfl ?_
  show m_run Z (257, 16, [l0, l1, l2, l3], [(0, 0)], (K, (m_up2 σ s2 (w32 s1).toNat (w32 s0)), n, e, s)) = _
  exact g_iret (by decide +kernel : decode (m_byt 257) 16 = .ok (.ireturn, 1)) (by decide +kernel)
theorem b_257_13 {Z : mZ} {l0 l1 l2 l3 : mV} {h : mH} : m_run Z (257, 13, [l0, l1, l2, l3], [], h) = some (.inl (0, 1), h) := by
  refine g_base (by decide +kernel : decode (m_byt 257) 13 = .ok (.iconst 1, 1)) rfl rfl ?_
  show m_run Z (257, 14, [l0, l1, l2, l3], [(0, 1)], h) = _
  exact g_iret (by decide +kernel : decode (m_byt 257) 14 = .ok (.ireturn, 1)) (by decide +kernel)
theorem b_257_15 {Z : mZ} {l0 l1 l2 l3 : mV} {h : mH} : m_run Z (257, 15, [l0, l1, l2, l3], [], h) = some (.inl (0, 0), h) := by
  refine g_base (by decide +kernel : decode (m_byt 257) 15 = .ok (.iconst 0, 1)) rfl rfl ?_
  show m_run Z (257, 16, [l0, l1, l2, l3], [(0, 0)], h) = _
  exact g_iret (by decide +kernel : decode (m_byt 257) 16 = .ok (.ireturn, 1)) (by decide +kernel)
theorem e_258 {Z : mZ} {r0 : Nat} {x1 : Int} {r2 : Nat} {h : mH} : m_cl Z 258 [(2, ((r0 : Nat) : Int)), (0, x1), (2, ((r2 : Nat) : Int))] h = m_run Z (258, 0, [(2, ((r0 : Nat) : Int)), (0, x1), (2, ((r2 : Nat) : Int)), (9, 0)], [], h) := g_ent (k := 4) (by decide) (by decide +kernel) (Nat.le_of_ble_eq_true rfl) (by decide +kernel) rfl
theorem b_258_0 {Z : mZ} {l3 : mV} {x1 : Int} {r2 r0 : Nat} {K : Nat → mK} {σ : Nat → Nat → Int} {n e s : Nat} (h0 : q_ob K n r0 6) : m_run Z (258, 0, [(2, ((r0 : Nat) : Int)), (0, x1), (2, ((r2 : Nat) : Int)), l3], [], (K, σ, n, e, s)) = (m_cl Z 102 [(2, ((r0 : Nat) : Int)), (0, x1)] (K, σ, n, e, s)).bind (m_aft (m_run Z) 258 4 [(2, ((r0 : Nat) : Int)), (0, x1), (2, ((r2 : Nat) : Int)), l3] [(0, 0), (2, ((r2 : Nat) : Int))]) := by
  refine g_aload_n (k := 2) (v := (2, ((r2 : Nat) : Int))) (by decide +kernel : decode (m_byt 258) 0 = .ok (.aload_n 2, 1)) rfl (Or.inl rfl) ?_
  refine g_base (by decide +kernel : decode (m_byt 258) 1 = .ok (.iconst 0, 1)) rfl rfl ?_
  show m_run Z (258, 2, [(2, ((r0 : Nat) : Int)), (0, x1), (2, ((r2 : Nat) : Int)), l3], [(0, 0), (2, ((r2 : Nat) : Int))], (K, σ, n, e, s)) = _
  refine g_aload_n (k := 0) (v := (2, ((r0 : Nat) : Int))) (by decide +kernel : decode (m_byt 258) 2 = .ok (.aload_n 0, 1)) rfl (Or.inl rfl) ?_
  refine g_iload_n (k := 1) (x := x1) (by decide +kernel : decode (m_byt 258) 3 = .ok (.iload_n 1, 1)) rfl ?_
  exact g_inv (k := 1) (m' := 102) (np := 1) (as := [(2, ((r0 : Nat) : Int)), (0, x1)]) (by decide +kernel : decode (m_byt 258) 4 = .ok (.invokevirtual 39, 3)) (Or.inl ⟨rfl, rfl⟩) (by decide +kernel) (by decide +kernel) (by decide +kernel) (Nat.le_of_ble_eq_true rfl) rfl (Or.inr (g_rcv (by decide +kernel) h0))
theorem b_258_7 {Z : mZ} {l0 l1 l2 l3 : mV} {s0 s1 : Int} {s2 : Nat} {K : Nat → mK} {σ : Nat → Nat → Int} {n e s : Nat} (h0 : 0 ≤ w32 s1) (h1 : w32 s1 < (q_ln K s2 : Int)) (h2 : q_ak K n s2 3) : m_run Z (258, 7, [l0, l1, l2, l3], [(0, s0), (0, s1), (2, ((s2 : Nat) : Int))], (K, σ, n, e, s)) = some (.inl (0, 0), (K, (m_up2 σ s2 (w32 s1).toNat (w32 s0)), n, e, s)) := by
  refine g_base (by decide +kernel : decode (m_byt 258) 7 = .ok (.i2l, 1)) rfl rfl ?_
  show m_run Z (258, 8, [l0, l1, l2, l3], [(1, (w32 s0)), (0, s1), (2, ((s2 : Nat) : Int))], (K, σ, n, e, s)) = _
  refine g_last (by decide +kernel : decode (m_byt 258) 8 = .ok (.lastore, 1)) h2 h0 h1 ?_
  show m_run Z (258, 9, [l0, l1, l2, l3], [], (K, (m_up2 σ s2 (w32 s1).toNat (w32 s0)), n, e, s)) = _
  refine g_jmp (t := 15) (by decide +kernel : decode (m_byt 258) 9 = .ok (.goto 6, 3)) (by decide) ?_
  refine g_base (by decide +kernel : decode (m_byt 258) 15 = .ok (.iconst 0, 1)) rfl rfl ?_
  show m_run Z (258, 16, [l0, l1, l2, l3], [(0, 0)], (K, (m_up2 σ s2 (w32 s1).toNat (w32 s0)), n, e, s)) = _
  exact g_iret (by decide +kernel : decode (m_byt 258) 16 = .ok (.ireturn, 1)) (by decide +kernel)
theorem b_258_13 {Z : mZ} {l0 l1 l2 l3 : mV} {h : mH} : m_run Z (258, 13, [l0, l1, l2, l3], [], h) = some (.inl (0, 1), h) := by
  refine g_base (by decide +kernel : decode (m_byt 258) 13 = .ok (.iconst 1, 1)) rfl rfl ?_
  show m_run Z (258, 14, [l0, l1, l2, l3], [(0, 1)], h) = _
  exact g_iret (by decide +kernel : decode (m_byt 258) 14 = .ok (.ireturn, 1)) (by decide +kernel)
theorem b_258_15 {Z : mZ} {l0 l1 l2 l3 : mV} {h : mH} : m_run Z (258, 15, [l0, l1, l2, l3], [], h) = some (.inl (0, 0), h) := by
  refine g_base (by decide +kernel : decode (m_byt 258) 15 = .ok (.iconst 0, 1)) rfl rfl ?_
  show m_run Z (258, 16, [l0, l1, l2, l3], [(0, 0)], h) = _
  exact g_iret (by decide +kernel : decode (m_byt 258) 16 = .ok (.ireturn, 1)) (by decide +kernel)
theorem e_259 {Z : mZ} {r0 : Nat} {x1 : Int} {x2 : Int} {r3 : Nat} {h : mH} : m_cl Z 259 [(2, ((r0 : Nat) : Int)), (0, x1), (0, x2), (2, ((r3 : Nat) : Int))] h = m_run Z (259, 0, [(2, ((r0 : Nat) : Int)), (0, x1), (0, x2), (2, ((r3 : Nat) : Int)), (9, 0)], [], h) := g_ent (k := 5) (by decide) (by decide +kernel) (Nat.le_of_ble_eq_true rfl) (by decide +kernel) rfl
theorem b_259_0 {Z : mZ} {l4 : mV} {x1 x2 : Int} {r3 r0 : Nat} {K : Nat → mK} {σ : Nat → Nat → Int} {n e s : Nat} (h0 : q_ob K n r0 6) : m_run Z (259, 0, [(2, ((r0 : Nat) : Int)), (0, x1), (0, x2), (2, ((r3 : Nat) : Int)), l4], [], (K, σ, n, e, s)) = (m_cl Z 103 [(2, ((r0 : Nat) : Int)), (0, x1), (0, x2)] (K, σ, n, e, s)).bind (m_aft (m_run Z) 259 5 [(2, ((r0 : Nat) : Int)), (0, x1), (0, x2), (2, ((r3 : Nat) : Int)), l4] [(0, 0), (2, ((r3 : Nat) : Int))]) := by
  refine g_aload_n (k := 3) (v := (2, ((r3 : Nat) : Int))) (by decide +kernel : decode (m_byt 259) 0 = .ok (.aload_n 3, 1)) rfl (Or.inl rfl) ?_
  refine g_base (by decide +kernel : decode (m_byt 259) 1 = .ok (.iconst 0, 1)) rfl rfl ?_
  show m_run Z (259, 2, [(2, ((r0 : Nat) : Int)), (0, x1), (0, x2), (2, ((r3 : Nat) : Int)), l4], [(0, 0), (2, ((r3 : Nat) : Int))], (K, σ, n, e, s)) = _
  refine g_aload_n (k := 0) (v := (2, ((r0 : Nat) : Int))) (by decide +kernel : decode (m_byt 259) 2 = .ok (.aload_n 0, 1)) rfl (Or.inl rfl) ?_
  refine g_iload_n (k := 1) (x := x1) (by decide +kernel : decode (m_byt 259) 3 = .ok (.iload_n 1, 1)) rfl ?_
  refine g_iload_n (k := 2) (x := x2) (by decide +kernel : decode (m_byt 259) 4 = .ok (.iload_n 2, 1)) rfl ?_
  exact g_inv (k := 1) (m' := 103) (np := 2) (as := [(2, ((r0 : Nat) : Int)), (0, x1), (0, x2)]) (by decide +kernel : decode (m_byt 259) 5 = .ok (.invokevirtual 42, 3)) (Or.inl ⟨rfl, rfl⟩) (by decide +kernel) (by decide +kernel) (by decide +kernel) (Nat.le_of_ble_eq_true rfl) rfl (Or.inr (g_rcv (by decide +kernel) h0))
theorem b_259_8 {Z : mZ} {l0 l1 l2 l3 l4 : mV} {s0 s1 : Int} {s2 : Nat} {K : Nat → mK} {σ : Nat → Nat → Int} {n e s : Nat} (h0 : 0 ≤ w32 s1) (h1 : w32 s1 < (q_ln K s2 : Int)) (h2 : q_ak K n s2 3) : m_run Z (259, 8, [l0, l1, l2, l3, l4], [(0, s0), (0, s1), (2, ((s2 : Nat) : Int))], (K, σ, n, e, s)) = some (.inl (0, 0), (K, (m_up2 σ s2 (w32 s1).toNat (w32 s0)), n, e, s)) := by
  refine g_base (by decide +kernel : decode (m_byt 259) 8 = .ok (.i2l, 1)) rfl rfl ?_
  show m_run Z (259, 9, [l0, l1, l2, l3, l4], [(1, (w32 s0)), (0, s1), (2, ((s2 : Nat) : Int))], (K, σ, n, e, s)) = _
  refine g_last (by decide +kernel : decode (m_byt 259) 9 = .ok (.lastore, 1)) h2 h0 h1 ?_
  show m_run Z (259, 10, [l0, l1, l2, l3, l4], [], (K, (m_up2 σ s2 (w32 s1).toNat (w32 s0)), n, e, s)) = _
  refine g_jmp (t := 21) (by decide +kernel : decode (m_byt 259) 10 = .ok (.goto 11, 3)) (by decide) ?_
  refine g_base (by decide +kernel : decode (m_byt 259) 21 = .ok (.iconst 0, 1)) rfl rfl ?_
  show m_run Z (259, 22, [l0, l1, l2, l3, l4], [(0, 0)], (K, (m_up2 σ s2 (w32 s1).toNat (w32 s0)), n, e, s)) = _
  exact g_iret (by decide +kernel : decode (m_byt 259) 22 = .ok (.ireturn, 1)) (by decide +kernel)
theorem b_259_15 {Z : mZ} {l0 l1 l2 l3 l4 : mV} {h : mH} : m_run Z (259, 15, [l0, l1, l2, l3, l4], [], h) = some (.inl (0, 1), h) := by
  refine g_base (by decide +kernel : decode (m_byt 259) 15 = .ok (.iconst 1, 1)) rfl rfl ?_
  show m_run Z (259, 16, [l0, l1, l2, l3, l4], [(0, 1)], h) = _
  exact g_iret (by decide +kernel : decode (m_byt 259) 16 = .ok (.ireturn, 1)) (by decide +kernel)
theorem b_259_19 {Z : mZ} {l0 l1 l2 l3 l4 : mV} {h : mH} : m_run Z (259, 19, [l0, l1, l2, l3, l4], [], h) = some (.inl (0, 2), h) := by
  refine g_base (by decide +kernel : decode (m_byt 259) 19 = .ok (.iconst 2, 1)) rfl rfl ?_
  show m_run Z (259, 20, [l0, l1, l2, l3, l4], [(0, 2)], h) = _
  exact g_iret (by decide +kernel : decode (m_byt 259) 20 = .ok (.ireturn, 1)) (by decide +kernel)
theorem b_259_21 {Z : mZ} {l0 l1 l2 l3 l4 : mV} {h : mH} : m_run Z (259, 21, [l0, l1, l2, l3, l4], [], h) = some (.inl (0, 0), h) := by
  refine g_base (by decide +kernel : decode (m_byt 259) 21 = .ok (.iconst 0, 1)) rfl rfl ?_
  show m_run Z (259, 22, [l0, l1, l2, l3, l4], [(0, 0)], h) = _
  exact g_iret (by decide +kernel : decode (m_byt 259) 22 = .ok (.ireturn, 1)) (by decide +kernel)
theorem e_260 {Z : mZ} {r0 : Nat} {x1 : Int} {x2 : Int} {r3 : Nat} {h : mH} : m_cl Z 260 [(2, ((r0 : Nat) : Int)), (0, x1), (0, x2), (2, ((r3 : Nat) : Int))] h = m_run Z (260, 0, [(2, ((r0 : Nat) : Int)), (0, x1), (0, x2), (2, ((r3 : Nat) : Int)), (9, 0)], [], h) := g_ent (k := 5) (by decide) (by decide +kernel) (Nat.le_of_ble_eq_true rfl) (by decide +kernel) rfl
theorem b_260_0 {Z : mZ} {l4 : mV} {x1 x2 : Int} {r3 r0 : Nat} {K : Nat → mK} {σ : Nat → Nat → Int} {n e s : Nat} (h0 : q_ob K n r0 6) : m_run Z (260, 0, [(2, ((r0 : Nat) : Int)), (0, x1), (0, x2), (2, ((r3 : Nat) : Int)), l4], [], (K, σ, n, e, s)) = (m_cl Z 104 [(2, ((r0 : Nat) : Int)), (0, x1), (0, x2)] (K, σ, n, e, s)).bind (m_aft (m_run Z) 260 5 [(2, ((r0 : Nat) : Int)), (0, x1), (0, x2), (2, ((r3 : Nat) : Int)), l4] [(0, 0), (2, ((r3 : Nat) : Int))]) := by
  refine g_aload_n (k := 3) (v := (2, ((r3 : Nat) : Int))) (by decide +kernel : decode (m_byt 260) 0 = .ok (.aload_n 3, 1)) rfl (Or.inl rfl) ?_
  refine g_base (by decide +kernel : decode (m_byt 260) 1 = .ok (.iconst 0, 1)) rfl rfl ?_
  show m_run Z (260, 2, [(2, ((r0 : Nat) : Int)), (0, x1), (0, x2), (2, ((r3 : Nat) : Int)), l4], [(0, 0), (2, ((r3 : Nat) : Int))], (K, σ, n, e, s)) = _
  refine g_aload_n (k := 0) (v := (2, ((r0 : Nat) : Int))) (by decide +kernel : decode (m_byt 260) 2 = .ok (.aload_n 0, 1)) rfl (Or.inl rfl) ?_
  refine g_iload_n (k := 1) (x := x1) (by decide +kernel : decode (m_byt 260) 3 = .ok (.iload_n 1, 1)) rfl ?_
  refine g_iload_n (k := 2) (x := x2) (by decide +kernel : decode (m_byt 260) 4 = .ok (.iload_n 2, 1)) rfl ?_
  exact g_inv (k := 1) (m' := 104) (np := 2) (as := [(2, ((r0 : Nat) : Int)), (0, x1), (0, x2)]) (by decide +kernel : decode (m_byt 260) 5 = .ok (.invokevirtual 45, 3)) (Or.inl ⟨rfl, rfl⟩) (by decide +kernel) (by decide +kernel) (by decide +kernel) (Nat.le_of_ble_eq_true rfl) rfl (Or.inr (g_rcv (by decide +kernel) h0))
theorem b_260_8 {Z : mZ} {l0 l1 l2 l3 l4 : mV} {s0 s1 : Int} {s2 : Nat} {K : Nat → mK} {σ : Nat → Nat → Int} {n e s : Nat} (h0 : 0 ≤ w32 s1) (h1 : w32 s1 < (q_ln K s2 : Int)) (h2 : q_ak K n s2 3) : m_run Z (260, 8, [l0, l1, l2, l3, l4], [(0, s0), (0, s1), (2, ((s2 : Nat) : Int))], (K, σ, n, e, s)) = some (.inl (0, 0), (K, (m_up2 σ s2 (w32 s1).toNat (w32 s0)), n, e, s)) := by
  refine g_base (by decide +kernel : decode (m_byt 260) 8 = .ok (.i2l, 1)) rfl rfl ?_
  show m_run Z (260, 9, [l0, l1, l2, l3, l4], [(1, (w32 s0)), (0, s1), (2, ((s2 : Nat) : Int))], (K, σ, n, e, s)) = _
  refine g_last (by decide +kernel : decode (m_byt 260) 9 = .ok (.lastore, 1)) h2 h0 h1 ?_
  show m_run Z (260, 10, [l0, l1, l2, l3, l4], [], (K, (m_up2 σ s2 (w32 s1).toNat (w32 s0)), n, e, s)) = _
  refine g_jmp (t := 21) (by decide +kernel : decode (m_byt 260) 10 = .ok (.goto 11, 3)) (by decide) ?_
  refine g_base (by decide +kernel : decode (m_byt 260) 21 = .ok (.iconst 0, 1)) rfl rfl ?_
  show m_run Z (260, 22, [l0, l1, l2, l3, l4], [(0, 0)], (K, (m_up2 σ s2 (w32 s1).toNat (w32 s0)), n, e, s)) = _
  exact g_iret (by decide +kernel : decode (m_byt 260) 22 = .ok (.ireturn, 1)) (by decide +kernel)
theorem b_260_15 {Z : mZ} {l0 l1 l2 l3 l4 : mV} {h : mH} : m_run Z (260, 15, [l0, l1, l2, l3, l4], [], h) = some (.inl (0, 1), h) := by
  refine g_base (by decide +kernel : decode (m_byt 260) 15 = .ok (.iconst 1, 1)) rfl rfl ?_
  show m_run Z (260, 16, [l0, l1, l2, l3, l4], [(0, 1)], h) = _
  exact g_iret (by decide +kernel : decode (m_byt 260) 16 = .ok (.ireturn, 1)) (by decide +kernel)
theorem b_260_19 {Z : mZ} {l0 l1 l2 l3 l4 : mV} {h : mH} : m_run Z (260, 19, [l0, l1, l2, l3, l4], [], h) = some (.inl (0, 2), h) := by
  refine g_base (by decide +kernel : decode (m_byt 260) 19 = .ok (.iconst 2, 1)) rfl rfl ?_
  show m_run Z (260, 20, [l0, l1, l2, l3, l4], [(0, 2)], h) = _
  exact g_iret (by decide +kernel : decode (m_byt 260) 20 = .ok (.ireturn, 1)) (by decide +kernel)
theorem b_260_21 {Z : mZ} {l0 l1 l2 l3 l4 : mV} {h : mH} : m_run Z (260, 21, [l0, l1, l2, l3, l4], [], h) = some (.inl (0, 0), h) := by
  refine g_base (by decide +kernel : decode (m_byt 260) 21 = .ok (.iconst 0, 1)) rfl rfl ?_
  show m_run Z (260, 22, [l0, l1, l2, l3, l4], [(0, 0)], h) = _
  exact g_iret (by decide +kernel : decode (m_byt 260) 22 = .ok (.ireturn, 1)) (by decide +kernel)
theorem e_261 {Z : mZ} {r0 : Nat} {x1 : Int} {x2 : Int} {r3 : Nat} {h : mH} : m_cl Z 261 [(2, ((r0 : Nat) : Int)), (0, x1), (0, x2), (2, ((r3 : Nat) : Int))] h = m_run Z (261, 0, [(2, ((r0 : Nat) : Int)), (0, x1), (0, x2), (2, ((r3 : Nat) : Int)), (9, 0)], [], h) := g_ent (k := 5) (by decide) (by decide +kernel) (Nat.le_of_ble_eq_true rfl) (by decide +kernel) rfl
theorem b_261_0 {Z : mZ} {l4 : mV} {x1 x2 : Int} {r3 r0 : Nat} {K : Nat → mK} {σ : Nat → Nat → Int} {n e s : Nat} (h0 : q_ob K n r0 6) : m_run Z (261, 0, [(2, ((r0 : Nat) : Int)), (0, x1), (0, x2), (2, ((r3 : Nat) : Int)), l4], [], (K, σ, n, e, s)) = (m_cl Z 105 [(2, ((r0 : Nat) : Int)), (0, x1), (0, x2)] (K, σ, n, e, s)).bind (m_aft (m_run Z) 261 5 [(2, ((r0 : Nat) : Int)), (0, x1), (0, x2), (2, ((r3 : Nat) : Int)), l4] [(0, 0), (2, ((r3 : Nat) : Int))]) := by
  refine g_aload_n (k := 3) (v := (2, ((r3 : Nat) : Int))) (by decide +kernel : decode (m_byt 261) 0 = .ok (.aload_n 3, 1)) rfl (Or.inl rfl) ?_
  refine g_base (by decide +kernel : decode (m_byt 261) 1 = .ok (.iconst 0, 1)) rfl rfl ?_
  show m_run Z (261, 2, [(2, ((r0 : Nat) : Int)), (0, x1), (0, x2), (2, ((r3 : Nat) : Int)), l4], [(0, 0), (2, ((r3 : Nat) : Int))], (K, σ, n, e, s)) = _
  refine g_aload_n (k := 0) (v := (2, ((r0 : Nat) : Int))) (by decide +kernel : decode (m_byt 261) 2 = .ok (.aload_n 0, 1)) rfl (Or.inl rfl) ?_
  refine g_iload_n (k := 1) (x := x1) (by decide +kernel : decode (m_byt 261) 3 = .ok (.iload_n 1, 1)) rfl ?_
  refine g_iload_n (k := 2) (x := x2) (by decide +kernel : decode (m_byt 261) 4 = .ok (.iload_n 2, 1)) rfl ?_
  exact g_inv (k := 1) (m' := 105) (np := 2) (as := [(2, ((r0 : Nat) : Int)), (0, x1), (0, x2)]) (by decide +kernel : decode (m_byt 261) 5 = .ok (.invokevirtual 48, 3)) (Or.inl ⟨rfl, rfl⟩) (by decide +kernel) (by decide +kernel) (by decide +kernel) (Nat.le_of_ble_eq_true rfl) rfl (Or.inr (g_rcv (by decide +kernel) h0))
theorem b_261_8 {Z : mZ} {l0 l1 l2 l3 l4 : mV} {s0 s1 : Int} {s2 : Nat} {K : Nat → mK} {σ : Nat → Nat → Int} {n e s : Nat} (h0 : 0 ≤ w32 s1) (h1 : w32 s1 < (q_ln K s2 : Int)) (h2 : q_ak K n s2 3) : m_run Z (261, 8, [l0, l1, l2, l3, l4], [(0, s0), (0, s1), (2, ((s2 : Nat) : Int))], (K, σ, n, e, s)) = some (.inl (0, 0), (K, (m_up2 σ s2 (w32 s1).toNat (w32 s0)), n, e, s)) := by
  refine g_base (by decide +kernel : decode (m_byt 261) 8 = .ok (.i2l, 1)) rfl rfl ?_
  show m_run Z (261, 9, [l0, l1, l2, l3, l4], [(1, (w32 s0)), (0, s1), (2, ((s2 : Nat) : Int))], (K, σ, n, e, s)) = _
  refine g_last (by decide +kernel : decode (m_byt 261) 9 = .ok (.lastore, 1)) h2 h0 h1 ?_
  show m_run Z (261, 10, [l0, l1, l2, l3, l4], [], (K, (m_up2 σ s2 (w32 s1).toNat (w32 s0)), n, e, s)) = _
  refine g_jmp (t := 21) (by decide +kernel : decode (m_byt 261) 10 = .ok (.goto 11, 3)) (by decide) ?_
  refine g_base (by decide +kernel : decode (m_byt 261) 21 = .ok (.iconst 0, 1)) rfl rfl ?_
  show m_run Z (261, 22, [l0, l1, l2, l3, l4], [(0, 0)], (K, (m_up2 σ s2 (w32 s1).toNat (w32 s0)), n, e, s)) = _
  exact g_iret (by decide +kernel : decode (m_byt 261) 22 = .ok (.ireturn, 1)) (by decide +kernel)
theorem b_261_15 {Z : mZ} {l0 l1 l2 l3 l4 : mV} {h : mH} : m_run Z (261, 15, [l0, l1, l2, l3, l4], [], h) = some (.inl (0, 1), h) := by
  refine g_base (by decide +kernel : decode (m_byt 261) 15 = .ok (.iconst 1, 1)) rfl rfl ?_
  show m_run Z (261, 16, [l0, l1, l2, l3, l4], [(0, 1)], h) = _
  exact g_iret (by decide +kernel : decode (m_byt 261) 16 = .ok (.ireturn, 1)) (by decide +kernel)
theorem b_261_19 {Z : mZ} {l0 l1 l2 l3 l4 : mV} {h : mH} : m_run Z (261, 19, [l0, l1, l2, l3, l4], [], h) = some (.inl (0, 2), h) := by
  refine g_base (by decide +kernel : decode (m_byt 261) 19 = .ok (.iconst 2, 1)) rfl rfl ?_
  show m_run Z (261, 20, [l0, l1, l2, l3, l4], [(0, 2)], h) = _
  exact g_iret (by decide +kernel : decode (m_byt 261) 20 = .ok (.ireturn, 1)) (by decide +kernel)
theorem b_261_21 {Z : mZ} {l0 l1 l2 l3 l4 : mV} {h : mH} : m_run Z (261, 21, [l0, l1, l2, l3, l4], [], h) = some (.inl (0, 0), h) := by
  refine g_base (by decide +kernel : decode (m_byt 261) 21 = .ok (.iconst 0, 1)) rfl rfl ?_
  show m_run Z (261, 22, [l0, l1, l2, l3, l4], [(0, 0)], h) = _
  exact g_iret (by decide +kernel : decode (m_byt 261) 22 = .ok (.ireturn, 1)) (by decide +kernel)
theorem e_262 {Z : mZ} {r0 : Nat} {x1 : Int} {x2 : Int} {r3 : Nat} {h : mH} : m_cl Z 262 [(2, ((r0 : Nat) : Int)), (0, x1), (0, x2), (2, ((r3 : Nat) : Int))] h = m_run Z (262, 0, [(2, ((r0 : Nat) : Int)), (0, x1), (0, x2), (2, ((r3 : Nat) : Int)), (9, 0)], [], h) := g_ent (k := 5) (by decide) (by decide +kernel) (Nat.le_of_ble_eq_true rfl) (by decide +kernel) rfl
theorem b_262_0 {Z : mZ} {l4 : mV} {x1 x2 : Int} {r3 r0 : Nat} {K : Nat → mK} {σ : Nat → Nat → Int} {n e s : Nat} (h0 : q_ob K n r0 6) : m_run Z (262, 0, [(2, ((r0 : Nat) : Int)), (0, x1), (0, x2), (2, ((r3 : Nat) : Int)), l4], [], (K, σ, n, e, s)) = (m_cl Z 106 [(2, ((r0 : Nat) : Int)), (0, x1), (0, x2)] (K, σ, n, e, s)).bind (m_aft (m_run Z) 262 5 [(2, ((r0 : Nat) : Int)), (0, x1), (0, x2), (2, ((r3 : Nat) : Int)), l4] [(0, 0), (2, ((r3 : Nat) : Int))]) := by
  refine g_aload_n (k := 3) (v := (2, ((r3 : Nat) : Int))) (by decide +kernel : decode (m_byt 262) 0 = .ok (.aload_n 3, 1)) rfl (Or.inl rfl) ?_
  refine g_base (by decide +kernel : decode (m_byt 262) 1 = .ok (.iconst 0, 1)) rfl rfl ?_
  show m_run Z (262, 2, [(2, ((r0 : Nat) : Int)), (0, x1), (0, x2), (2, ((r3 : Nat) : Int)), l4], [(0, 0), (2, ((r3 : Nat) : Int))], (K, σ, n, e, s)) = _
  refine g_aload_n (k := 0) (v := (2, ((r0 : Nat) : Int))) (by decide +kernel : decode (m_byt 262) 2 = .ok (.aload_n 0, 1)) rfl (Or.inl rfl) ?_
  refine g_iload_n (k := 1) (x := x1) (by decide +kernel : decode (m_byt 262) 3 = .ok (.iload_n 1, 1)) rfl ?_
  refine g_iload_n (k := 2) (x := x2) (by decide +kernel : decode (m_byt 262) 4 = .ok (.iload_n 2, 1)) rfl ?_
  exact g_inv (k := 1) (m' := 106) (np := 2) (as := [(2, ((r0 : Nat) : Int)), (0, x1), (0, x2)]) (by decide +kernel : decode (m_byt 262) 5 = .ok (.invokevirtual 51, 3)) (Or.inl ⟨rfl, rfl⟩) (by decide +kernel) (by decide +kernel) (by decide +kernel) (Nat.le_of_ble_eq_true rfl) rfl (Or.inr (g_rcv (by decide +kernel) h0))
theorem b_262_8 {Z : mZ} {l0 l1 l2 l3 l4 : mV} {s0 s1 : Int} {s2 : Nat} {K : Nat → mK} {σ : Nat → Nat → Int} {n e s : Nat} (h0 : 0 ≤ w32 s1) (h1 : w32 s1 < (q_ln K s2 : Int)) (h2 : q_ak K n s2 3) : m_run Z (262, 8, [l0, l1, l2, l3, l4], [(0, s0), (0, s1), (2, ((s2 : Nat) : Int))], (K, σ, n, e, s)) = some (.inl (0, 0), (K, (m_up2 σ s2 (w32 s1).toNat (w32 s0)), n, e, s)) := by
  refine g_base (by decide +kernel : decode (m_byt 262) 8 = .ok (.i2l, 1)) rfl rfl ?_
  show m_run Z (262, 9, [l0, l1, l2, l3, l4], [(1, (w32 s0)), (0, s1), (2, ((s2 : Nat) : Int))], (K, σ, n, e, s)) = _
  refine g_last (by decide +kernel : decode (m_byt 262) 9 = .ok (.lastore, 1)) h2 h0 h1 ?_
  show m_run Z (262, 10, [l0, l1, l2, l3, l4], [], (K, (m_up2 σ s2 (w32 s1).toNat (w32 s0)), n, e, s)) = _
  refine g_jmp (t := 17) (by decide +kernel : decode (m_byt 262) 10 = .ok (.goto 7, 3)) (by decide) ?_
  refine g_base (by decide +kernel : decode (m_byt 262) 17 = .ok (.iconst 0, 1)) rfl rfl ?_
  show m_run Z (262, 18, [l0, l1, l2, l3, l4], [(0, 0)], (K, (m_up2 σ s2 (w32 s1).toNat (w32 s0)), n, e, s)) = _
  exact g_iret (by decide +kernel : decode (m_byt 262) 18 = .ok (.ireturn, 1)) (by decide +kernel)
theorem b_262_15 {Z : mZ} {l0 l1 l2 l3 l4 : mV} {h : mH} : m_run Z (262, 15, [l0, l1, l2, l3, l4], [], h) = some (.inl (0, 1), h) := by
  refine g_base (by decide +kernel : decode (m_byt 262) 15 = .ok (.iconst 1, 1)) rfl rfl ?_
  show m_run Z (262, 16, [l0, l1, l2, l3, l4], [(0, 1)], h) = _
  exact g_iret (by decide +kernel : decode (m_byt 262) 16 = .ok (.ireturn, 1)) (by decide +kernel)
theorem b_262_17 {Z : mZ} {l0 l1 l2 l3 l4 : mV} {h : mH} : m_run Z (262, 17, [l0, l1, l2, l3, l4], [], h) = some (.inl (0, 0), h) := by
  refine g_base (by decide +kernel : decode (m_byt 262) 17 = .ok (.iconst 0, 1)) rfl rfl ?_
  show m_run Z (262, 18, [l0, l1, l2, l3, l4], [(0, 0)], h) = _
  exact g_iret (by decide +kernel : decode (m_byt 262) 18 = .ok (.ireturn, 1)) (by decide +kernel)
theorem e_263 {Z : mZ} {r0 : Nat} {x1 : Int} {x2 : Int} {r3 : Nat} {h : mH} : m_cl Z 263 [(2, ((r0 : Nat) : Int)), (0, x1), (0, x2), (2, ((r3 : Nat) : Int))] h = m_run Z (263, 0, [(2, ((r0 : Nat) : Int)), (0, x1), (0, x2), (2, ((r3 : Nat) : Int)), (9, 0)], [], h) := g_ent (k := 5) (by decide) (by decide +kernel) (Nat.le_of_ble_eq_true rfl) (by decide +kernel) rfl
theorem b_263_0 {Z : mZ} {l4 : mV} {x1 x2 : Int} {r3 r0 : Nat} {K : Nat → mK} {σ : Nat → Nat → Int} {n e s : Nat} (h0 : q_ob K n r0 6) : m_run Z (263, 0, [(2, ((r0 : Nat) : Int)), (0, x1), (0, x2), (2, ((r3 : Nat) : Int)), l4], [], (K, σ, n, e, s)) = (m_cl Z 107 [(2, ((r0 : Nat) : Int)), (0, x1), (0, x2)] (K, σ, n, e, s)).bind (m_aft (m_run Z) 263 5 [(2, ((r0 : Nat) : Int)), (0, x1), (0, x2), (2, ((r3 : Nat) : Int)), l4] [(0, 0), (2, ((r3 : Nat) : Int))]) := by
  refine g_aload_n (k := 3) (v := (2, ((r3 : Nat) : Int))) (by decide +kernel : decode (m_byt 263) 0 = .ok (.aload_n 3, 1)) rfl (Or.inl rfl) ?_
  refine g_base (by decide +kernel : decode (m_byt 263) 1 = .ok (.iconst 0, 1)) rfl rfl ?_
  show m_run Z (263, 2, [(2, ((r0 : Nat) : Int)), (0, x1), (0, x2), (2, ((r3 : Nat) : Int)), l4], [(0, 0), (2, ((r3 : Nat) : Int))], (K, σ, n, e, s)) = _
  refine g_aload_n (k := 0) (v := (2, ((r0 : Nat) : Int))) (by decide +kernel : decode (m_byt 263) 2 = .ok (.aload_n 0, 1)) rfl (Or.inl rfl) ?_
  refine g_iload_n (k := 1) (x := x1) (by decide +kernel : decode (m_byt 263) 3 = .ok (.iload_n 1, 1)) rfl ?_
  refine g_iload_n (k := 2) (x := x2) (by decide +kernel : decode (m_byt 263) 4 = .ok (.iload_n 2, 1)) rfl ?_
  exact g_inv (k := 1) (m' := 107) (np := 2) (as := [(2, ((r0 : Nat) : Int)), (0, x1), (0, x2)]) (by decide +kernel : decode (m_byt 263) 5 = .ok (.invokevirtual 54, 3)) (Or.inl ⟨rfl, rfl⟩) (by decide +kernel) (by decide +kernel) (by decide +kernel) (Nat.le_of_ble_eq_true rfl) rfl (Or.inr (g_rcv (by decide +kernel) h0))
theorem b_263_8 {Z : mZ} {l0 l1 l2 l3 l4 : mV} {s0 s1 : Int} {s2 : Nat} {K : Nat → mK} {σ : Nat → Nat → Int} {n e s : Nat} (h0 : 0 ≤ w32 s1) (h1 : w32 s1 < (q_ln K s2 : Int)) (h2 : q_ak K n s2 3) : m_run Z (263, 8, [l0, l1, l2, l3, l4], [(0, s0), (0, s1), (2, ((s2 : Nat) : Int))], (K, σ, n, e, s)) = some (.inl (0, 0), (K, (m_up2 σ s2 (w32 s1).toNat (w32 s0)), n, e, s)) := by
  refine g_base (by decide +kernel : decode (m_byt 263) 8 = .ok (.i2l, 1)) rfl rfl ?_
  show m_run Z (263, 9, [l0, l1, l2, l3, l4], [(1, (w32 s0)), (0, s1), (2, ((s2 : Nat) : Int))], (K, σ, n, e, s)) = _
  refine g_last (by decide +kernel : decode (m_byt 263) 9 = .ok (.lastore, 1)) h2 h0 h1 ?_
  show m_run Z (263, 10, [l0, l1, l2, l3, l4], [], (K, (m_up2 σ s2 (w32 s1).toNat (w32 s0)), n, e, s)) = _
  refine g_jmp (t := 17) (by decide +kernel : decode (m_byt 263) 10 = .ok (.goto 7, 3)) (by decide) ?_
  refine g_base (by decide +kernel : decode (m_byt 263) 17 = .ok (.iconst 0, 1)) rfl rfl ?_
  show m_run Z (263, 18, [l0, l1, l2, l3, l4], [(0, 0)], (K, (m_up2 σ s2 (w32 s1).toNat (w32 s0)), n, e, s)) = _
  exact g_iret (by decide +kernel : decode (m_byt 263) 18 = .ok (.ireturn, 1)) (by decide +kernel)
theorem b_263_15 {Z : mZ} {l0 l1 l2 l3 l4 : mV} {h : mH} : m_run Z (263, 15, [l0, l1, l2, l3, l4], [], h) = some (.inl (0, 1), h) := by
  refine g_base (by decide +kernel : decode (m_byt 263) 15 = .ok (.iconst 1, 1)) rfl rfl ?_
  show m_run Z (263, 16, [l0, l1, l2, l3, l4], [(0, 1)], h) = _
  exact g_iret (by decide +kernel : decode (m_byt 263) 16 = .ok (.ireturn, 1)) (by decide +kernel)
theorem b_263_17 {Z : mZ} {l0 l1 l2 l3 l4 : mV} {h : mH} : m_run Z (263, 17, [l0, l1, l2, l3, l4], [], h) = some (.inl (0, 0), h) := by
  refine g_base (by decide +kernel : decode (m_byt 263) 17 = .ok (.iconst 0, 1)) rfl rfl ?_
  show m_run Z (263, 18, [l0, l1, l2, l3, l4], [(0, 0)], h) = _
  exact g_iret (by decide +kernel : decode (m_byt 263) 18 = .ok (.ireturn, 1)) (by decide +kernel)
theorem e_264 {Z : mZ} {r0 : Nat} {x1 : Int} {x2 : Int} {x3 : Int} {x4 : Int} {x5 : Int} {r6 : Nat} {h : mH} : m_cl Z 264 [(2, ((r0 : Nat) : Int)), (0, x1), (0, x2), (0, x3), (0, x4), (0, x5), (2, ((r6 : Nat) : Int))] h = m_run Z (264, 0, [(2, ((r0 : Nat) : Int)), (0, x1), (0, x2), (0, x3), (0, x4), (0, x5), (2, ((r6 : Nat) : Int)), (9, 0)], [], h) := g_ent (k := 8) (by decide) (by decide +kernel) (Nat.le_of_ble_eq_true rfl) (by decide +kernel) rfl
theorem b_264_0 {Z : mZ} {l7 : mV} {x1 x2 x3 x4 x5 : Int} {r6 r0 : Nat} {K : Nat → mK} {σ : Nat → Nat → Int} {n e s : Nat} (h0 : q_ob K n r0 6) : m_run Z (264, 0, [(2, ((r0 : Nat) : Int)), (0, x1), (0, x2), (0, x3), (0, x4), (0, x5), (2, ((r6 : Nat) : Int)), l7], [], (K, σ, n, e, s)) = (m_cl Z 109 [(2, ((r0 : Nat) : Int)), (0, x1), (0, x2), (0, x3), (0, x4), (0, x5)] (K, σ, n, e, s)).bind (m_aft (m_run Z) 264 11 [(2, ((r0 : Nat) : Int)), (0, x1), (0, x2), (0, x3), (0, x4), (0, x5), (2, ((r6 : Nat) : Int)), l7] [(0, 0), (2, ((r6 : Nat) : Int))]) := by
  refine g_aload (k := 6) (v := (2, ((r6 : Nat) : Int))) (by decide +kernel : decode (m_byt 264) 0 = .ok (.aload 6, 2)) rfl (Or.inl rfl) ?_
  refine g_base (by decide +kernel : decode (m_byt 264) 2 = .ok (.iconst 0, 1)) rfl rfl ?_
  show m_run Z (264, 3, [(2, ((r0 : Nat) : Int)), (0, x1), (0, x2), (0, x3), (0, x4), (0, x5), (2, ((r6 : Nat) : Int)), l7], [(0, 0), (2, ((r6 : Nat) : Int))], (K, σ, n, e, s)) = _
  refine g_aload_n (k := 0) (v := (2, ((r0 : Nat) : Int))) (by decide +kernel : decode (m_byt 264) 3 = .ok (.aload_n 0, 1)) rfl (Or.inl rfl) ?_
  refine g_iload_n (k := 1) (x := x1) (by decide +kernel : decode (m_byt 264) 4 = .ok (.iload_n 1, 1)) rfl ?_
  refine g_iload_n (k := 2) (x := x2) (by decide +kernel : decode (m_byt 264) 5 = .ok (.iload_n 2, 1)) rfl ?_
  refine g_iload_n (k := 3) (x := x3) (by decide +kernel : decode (m_byt 264) 6 = .ok (.iload_n 3, 1)) rfl ?_
  refine g_iload (k := 4) (x := x4) (by decide +kernel : decode (m_byt 264) 7 = .ok (.iload 4, 2)) rfl ?_
  refine g_iload (k := 5) (x := x5) (by decide +kernel : decode (m_byt 264) 9 = .ok (.iload 5, 2)) rfl ?_
  exact g_inv (k := 1) (m' := 109) (np := 5) (as := [(2, ((r0 : Nat) : Int)), (0, x1), (0, x2), (0, x3), (0, x4), (0, x5)]) (by decide +kernel : decode (m_byt 264) 11 = .ok (.invokevirtual 57, 3)) (Or.inl ⟨rfl, rfl⟩) (by decide +kernel) (by decide +kernel) (by decide +kernel) (Nat.le_of_ble_eq_true rfl) rfl (Or.inr (g_rcv (by decide +kernel) h0))
theorem b_264_14 {Z : mZ} {l0 l1 l2 l3 l4 l5 l6 l7 : mV} {s0 s1 : Int} {s2 : Nat} {K : Nat → mK} {σ : Nat → Nat → Int} {n e s : Nat} (h0 : 0 ≤ w32 s1) (h1 : w32 s1 < (q_ln K s2 : Int)) (h2 : q_ak K n s2 3) : m_run Z (264, 14, [l0, l1, l2, l3, l4, l5, l6, l7], [(0, s0), (0, s1), (2, ((s2 : Nat) : Int))], (K, σ, n, e, s)) = some (.inl (0, 0), (K, (m_up2 σ s2 (w32 s1).toNat (w32 s0)), n, e, s)) := by
  refine g_base (by decide +kernel : decode (m_byt 264) 14 = .ok (.i2l, 1)) rfl rfl ?_
  show m_run Z (264, 15, [l0, l1, l2, l3, l4, l5, l6, l7], [(1, (w32 s0)), (0, s1), (2, ((s2 : Nat) : Int))], (K, σ, n, e, s)) = _
  refine g_last (by decide +kernel : decode (m_byt 264) 15 = .ok (.lastore, 1)) h2 h0 h1 ?_
  show m_run Z (264, 16, [l0, l1, l2, l3, l4, l5, l6, l7], [], (K, (m_up2 σ s2 (w32 s1).toNat (w32 s0)), n, e, s)) = _
  refine g_jmp (t := 31) (by decide +kernel : decode (m_byt 264) 16 = .ok (.goto 15, 3)) (by decide) ?_
  refine g_base (by decide +kernel : decode (m_byt 264) 31 = .ok (.iconst 0, 1)) rfl rfl ?_
  show m_run Z (264, 32, [l0, l1, l2, l3, l4, l5, l6, l7], [(0, 0)], (K, (m_up2 σ s2 (w32 s1).toNat (w32 s0)), n, e, s)) = _
  exact g_iret (by decide +kernel : decode (m_byt 264) 32 = .ok (.ireturn, 1)) (by decide +kernel)
theorem b_264_21 {Z : mZ} {l0 l1 l2 l3 l4 l5 l6 l7 : mV} {h : mH} : m_run Z (264, 21, [l0, l1, l2, l3, l4, l5, l6, l7], [], h) = some (.inl (0, 1), h) := by
  refine g_base (by decide +kernel : decode (m_byt 264) 21 = .ok (.iconst 1, 1)) rfl rfl ?_
  show m_run Z (264, 22, [l0, l1, l2, l3, l4, l5, l6, l7], [(0, 1)], h) = _
  exact g_iret (by decide +kernel : decode (m_byt 264) 22 = .ok (.ireturn, 1)) (by decide +kernel)
theorem b_264_25 {Z : mZ} {l0 l1 l2 l3 l4 l5 l6 l7 : mV} {h : mH} : m_run Z (264, 25, [l0, l1, l2, l3, l4, l5, l6, l7], [], h) = some (.inl (0, 2), h) := by
  refine g_base (by decide +kernel : decode (m_byt 264) 25 = .ok (.iconst 2, 1)) rfl rfl ?_
  show m_run Z (264, 26, [l0, l1, l2, l3, l4, l5, l6, l7], [(0, 2)], h) = _
  exact g_iret (by decide +kernel : decode (m_byt 264) 26 = .ok (.ireturn, 1)) (by decide +kernel)
theorem b_264_29 {Z : mZ} {l0 l1 l2 l3 l4 l5 l6 l7 : mV} {h : mH} : m_run Z (264, 29, [l0, l1, l2, l3, l4, l5, l6, l7], [], h) = some (.inl (0, 3), h) := by
  refine g_base (by decide +kernel : decode (m_byt 264) 29 = .ok (.iconst 3, 1)) rfl rfl ?_
  show m_run Z (264, 30, [l0, l1, l2, l3, l4, l5, l6, l7], [(0, 3)], h) = _
  exact g_iret (by decide +kernel : decode (m_byt 264) 30 = .ok (.ireturn, 1)) (by decide +kernel)
theorem b_264_31 {Z : mZ} {l0 l1 l2 l3 l4 l5 l6 l7 : mV} {h : mH} : m_run Z (264, 31, [l0, l1, l2, l3, l4, l5, l6, l7], [], h) = some (.inl (0, 0), h) := by
  refine g_base (by decide +kernel : decode (m_byt 264) 31 = .ok (.iconst 0, 1)) rfl rfl ?_
  show m_run Z (264, 32, [l0, l1, l2, l3, l4, l5, l6, l7], [(0, 0)], h) = _
  exact g_iret (by decide +kernel : decode (m_byt 264) 32 = .ok (.ireturn, 1)) (by decide +kernel)
theorem e_265 {Z : mZ} {r0 : Nat} {x1 : Int} {x2 : Int} {x3 : Int} {r4 : Nat} {h : mH} : m_cl Z 265 [(2, ((r0 : Nat) : Int)), (0, x1), (0, x2), (0, x3), (2, ((r4 : Nat) : Int))] h = m_run Z (265, 0, [(2, ((r0 : Nat) : Int)), (0, x1), (0, x2), (0, x3), (2, ((r4 : Nat) : Int)), (9, 0)], [], h) := g_ent (k := 6) (by decide) (by decide +kernel) (Nat.le_of_ble_eq_true rfl) (by decide +kernel) rfl
theorem b_265_0 {Z : mZ} {l5 : mV} {x1 x2 x3 : Int} {r4 r0 : Nat} {K : Nat → mK} {σ : Nat → Nat → Int} {n e s : Nat} (h0 : q_ob K n r0 6) : m_run Z (265, 0, [(2, ((r0 : Nat) : Int)), (0, x1), (0, x2), (0, x3), (2, ((r4 : Nat) : Int)), l5], [], (K, σ, n, e, s)) = (m_cl Z 110 [(2, ((r0 : Nat) : Int)), (0, x1), (0, x2), (0, x3)] (K, σ, n, e, s)).bind (m_aft (m_run Z) 265 7 [(2, ((r0 : Nat) : Int)), (0, x1), (0, x2), (0, x3), (2, ((r4 : Nat) : Int)), l5] [(0, 0), (2, ((r4 : Nat) : Int))]) := by
  refine g_aload (k := 4) (v := (2, ((r4 : Nat) : Int))) (by decide +kernel : decode (m_byt 265) 0 = .ok (.aload 4, 2)) rfl (Or.inl rfl) ?_
  refine g_base (by decide +kernel : decode (m_byt 265) 2 = .ok (.iconst 0, 1)) rfl rfl ?_
  show m_run Z (265, 3, [(2, ((r0 : Nat) : Int)), (0, x1), (0, x2), (0, x3), (2, ((r4 : Nat) : Int)), l5], [(0, 0), (2, ((r4 : Nat) : Int))], (K, σ, n, e, s)) = _
  refine g_aload_n (k := 0) (v := (2, ((r0 : Nat) : Int))) (by decide +kernel : decode (m_byt 265) 3 = .ok (.aload_n 0, 1)) rfl (Or.inl rfl) ?_
  refine g_iload_n (k := 1) (x := x1) (by decide +kernel : decode (m_byt 265) 4 = .ok (.iload_n 1, 1)) rfl ?_
  refine g_iload_n (k := 2) (x := x2) (by decide +kernel : decode (m_byt 265) 5 = .ok (.iload_n 2, 1)) rfl ?_
  refine g_iload_n (k := 3) (x := x3) (by decide +kernel : decode (m_byt 265) 6 = .ok (.iload_n 3, 1)) rfl ?_
  exact g_inv (k := 1) (m' := 110) (np := 3) (as := [(2, ((r0 : Nat) : Int)), (0, x1), (0, x2), (0, x3)]) (by decide +kernel : decode (m_byt 265) 7 = .ok (.invokevirtual 61, 3)) (Or.inl ⟨rfl, rfl⟩) (by decide +kernel) (by decide +kernel) (by decide +kernel) (Nat.le_of_ble_eq_true rfl) rfl (Or.inr (g_rcv (by decide +kernel) h0))
theorem b_265_10 {Z : mZ} {l0 l1 l2 l3 l4 l5 : mV} {s0 s1 : Int} {s2 : Nat} {h : mH} : m_run Z (265, 10, [l0, l1, l2, l3, l4, l5], [(0, s0), (0, s1), (2, ((s2 : Nat) : Int))], h) = if w32 s0 = 0 then m_run Z (265, 17, [l0, l1, l2, l3, l4, l5], [(0, s1), (2, ((s2 : Nat) : Int))], h) else m_run Z (265, 13, [l0, l1, l2, l3, l4, l5], [(0, s1), (2, ((s2 : Nat) : Int))], h) := by
  exact g_brq (t := 17) (off := 7) (by decide +kernel : decode (m_byt 265) 10 = .ok (.ifCond .eq 7, 3)) rfl rfl (by decide)
theorem b_265_13 {Z : mZ} {l0 l1 l2 l3 l4 l5 : mV} {s0 : Int} {s1 : Nat} {K : Nat → mK} {σ : Nat → Nat → Int} {n e s : Nat} (h0 : 0 ≤ w32 s0) (h1 : w32 s0 < (q_ln K s1 : Int)) (h2 : q_ak K n s1 3) : m_run Z (265, 13, [l0, l1, l2, l3, l4, l5], [(0, s0), (2, ((s1 : Nat) : Int))], (K, σ, n, e, s)) = some (.inl (0, 0), (K, (m_up2 σ s1 (w32 s0).toNat 1), n, e, s)) := by
  refine g_base (by decide +kernel : decode (m_byt 265) 13 = .ok (.lconst 1, 1)) rfl rfl ?_
  show m_run Z (265, 14, [l0, l1, l2, l3, l4, l5], [(1, 1), (0, s0), (2, ((s1 : Nat) : Int))], (K, σ, n, e, s)) = _
  refine g_jmp (t := 18) (by decide +kernel : decode (m_byt 265) 14 = .ok (.goto 4, 3)) (by decide) ?_
  refine g_last (by decide +kernel : decode (m_byt 265) 18 = .ok (.lastore, 1)) h2 h0 h1 ?_
  show m_run Z (265, 19, [l0, l1, l2, l3, l4, l5], [], (K, (m_up2 σ s1 (w32 s0).toNat 1), n, e, s)) = _
  refine g_jmp (t := 30) (by decide +kernel : decode (m_byt 265) 19 = .ok (.goto 11, 3)) (by decide) ?_
  refine g_base (by decide +kernel : decode (m_byt 265) 30 = .ok (.iconst 0, 1)) rfl rfl ?_
  show m_run Z (265, 31, [l0, l1, l2, l3, l4, l5], [(0, 0)], (K, (m_up2 σ s1 (w32 s0).toNat 1), n, e, s)) = _
  exact g_iret (by decide +kernel : decode (m_byt 265) 31 = .ok (.ireturn, 1)) (by decide +kernel)
theorem b_265_17 {Z : mZ} {l0 l1 l2 l3 l4 l5 : mV} {s0 : Int} {s1 : Nat} {h : mH} : m_run Z (265, 17, [l0, l1, l2, l3, l4, l5], [(0, s0), (2, ((s1 : Nat) : Int))], h) = m_run Z (265, 18, [l0, l1, l2, l3, l4, l5], [(1, 0), (0, s0), (2, ((s1 : Nat) : Int))], h) := by
  refine g_base (by decide +kernel : decode (m_byt 265) 17 = .ok (.lconst 0, 1)) rfl rfl ?_
  show m_run Z (265, 18, [l0, l1, l2, l3, l4, l5], [(1, 0), (0, s0), (2, ((s1 : Nat) : Int))], h) = _
  rfl
theorem b_265_18 {Z : mZ} {l0 l1 l2 l3 l4 l5 : mV} {s0 s1 : Int} {s2 : Nat} {K : Nat → mK} {σ : Nat → Nat → Int} {n e s : Nat} (h0 : 0 ≤ w32 s1) (h1 : w32 s1 < (q_ln K s2 : Int)) (h2 : q_ak K n s2 3) : m_run Z (265, 18, [l0, l1, l2, l3, l4, l5], [(1, s0), (0, s1), (2, ((s2 : Nat) : Int))], (K, σ, n, e, s)) = some (.inl (0, 0), (K, (m_up2 σ s2 (w32 s1).toNat s0), n, e, s)) := by
  refine g_last (by decide +kernel : decode (m_byt 265) 18 = .ok (.lastore, 1)) h2 h0 h1 ?_
  show m_run Z (265, 19, [l0, l1, l2, l3, l4, l5], [], (K, (m_up2 σ s2 (w32 s1).toNat s0), n, e, s)) = _
  refine g_jmp (t := 30) (by decide +kernel : decode (m_byt 265) 19 = .ok (.goto 11, 3)) (by decide) ?_
  refine g_base (by decide +kernel : decode (m_byt 265) 30 = .ok (.iconst 0, 1)) rfl rfl ?_
  show m_run Z (265, 31, [l0, l1, l2, l3, l4, l5], [(0, 0)], (K, (m_up2 σ s2 (w32 s1).toNat s0), n, e, s)) = _
  exact g_iret (by decide +kernel : decode (m_byt 265) 31 = .ok (.ireturn, 1)) (by decide +kernel)
theorem b_265_24 {Z : mZ} {l0 l1 l2 l3 l4 l5 : mV} {h : mH} : m_run Z (265, 24, [l0, l1, l2, l3, l4, l5], [], h) = some (.inl (0, 1), h) := by
  refine g_base (by decide +kernel : decode (m_byt 265) 24 = .ok (.iconst 1, 1)) rfl rfl ?_
  show m_run Z (265, 25, [l0, l1, l2, l3, l4, l5], [(0, 1)], h) = _
  exact g_iret (by decide +kernel : decode (m_byt 265) 25 = .ok (.ireturn, 1)) (by decide +kernel)
theorem b_265_28 {Z : mZ} {l0 l1 l2 l3 l4 l5 : mV} {h : mH} : m_run Z (265, 28, [l0, l1, l2, l3, l4, l5], [], h) = some (.inl (0, 2), h) := by
  refine g_base (by decide +kernel : decode (m_byt 265) 28 = .ok (.iconst 2, 1)) rfl rfl ?_
  show m_run Z (265, 29, [l0, l1, l2, l3, l4, l5], [(0, 2)], h) = _
  exact g_iret (by decide +kernel : decode (m_byt 265) 29 = .ok (.ireturn, 1)) (by decide +kernel)
theorem b_265_30 {Z : mZ} {l0 l1 l2 l3 l4 l5 : mV} {h : mH} : m_run Z (265, 30, [l0, l1, l2, l3, l4, l5], [], h) = some (.inl (0, 0), h) := by
  refine g_base (by decide +kernel : decode (m_byt 265) 30 = .ok (.iconst 0, 1)) rfl rfl ?_
  show m_run Z (265, 31, [l0, l1, l2, l3, l4, l5], [(0, 0)], h) = _
  exact g_iret (by decide +kernel : decode (m_byt 265) 31 = .ok (.ireturn, 1)) (by decide +kernel)
theorem e_266 {Z : mZ} {r0 : Nat} {x1 : Int} {x2 : Int} {x3 : Int} {x4 : Int} {x5 : Int} {r6 : Nat} {h : mH} : m_cl Z 266 [(2, ((r0 : Nat) : Int)), (0, x1), (0, x2), (0, x3), (0, x4), (0, x5), (2, ((r6 : Nat) : Int))] h = m_run Z (266, 0, [(2, ((r0 : Nat) : Int)), (0, x1), (0, x2), (0, x3), (0, x4), (0, x5), (2, ((r6 : Nat) : Int)), (9, 0)], [], h) := g_ent (k := 8) (by decide) (by decide +kernel) (Nat.le_of_ble_eq_true rfl) (by decide +kernel) rfl
theorem b_266_0 {Z : mZ} {l7 : mV} {x1 x2 x3 x4 x5 : Int} {r6 r0 : Nat} {K : Nat → mK} {σ : Nat → Nat → Int} {n e s : Nat} (h0 : q_ob K n r0 6) : m_run Z (266, 0, [(2, ((r0 : Nat) : Int)), (0, x1), (0, x2), (0, x3), (0, x4), (0, x5), (2, ((r6 : Nat) : Int)), l7], [], (K, σ, n, e, s)) = (m_cl Z 111 [(2, ((r0 : Nat) : Int)), (0, x1), (0, x2), (0, x3), (0, x4), (0, x5)] (K, σ, n, e, s)).bind (m_aft (m_run Z) 266 11 [(2, ((r0 : Nat) : Int)), (0, x1), (0, x2), (0, x3), (0, x4), (0, x5), (2, ((r6 : Nat) : Int)), l7] [(0, 0), (2, ((r6 : Nat) : Int))]) := by
  refine g_aload (k := 6) (v := (2, ((r6 : Nat) : Int))) (by decide +kernel : decode (m_byt 266) 0 = .ok (.aload 6, 2)) rfl (Or.inl rfl) ?_
  refine g_base (by decide +kernel : decode (m_byt 266) 2 = .ok (.iconst 0, 1)) rfl rfl ?_
  show m_run Z (266, 3, [(2, ((r0 : Nat) : Int)), (0, x1), (0, x2), (0, x3), (0, x4), (0, x5), (2, ((r6 : Nat) : Int)), l7], [(0, 0), (2, ((r6 : Nat) : Int))], (K, σ, n, e, s)) = _
  refine g_aload_n (k := 0) (v := (2, ((r0 : Nat) : Int))) (by decide +kernel : decode (m_byt 266) 3 = .ok (.aload_n 0, 1)) rfl (Or.inl rfl) ?_
  refine g_iload_n (k := 1) (x := x1) (by decide +kernel : decode (m_byt 266) 4 = .ok (.iload_n 1, 1)) rfl ?_
  refine g_iload_n (k := 2) (x := x2) (by decide +kernel : decode (m_byt 266) 5 = .ok (.iload_n 2, 1)) rfl ?_
  refine g_iload_n (k := 3) (x := x3) (by decide +kernel : decode (m_byt 266) 6 = .ok (.iload_n 3, 1)) rfl ?_
  refine g_iload (k := 4) (x := x4) (by decide +kernel : decode (m_byt 266) 7 = .ok (.iload 4, 2)) rfl ?_
  refine g_iload (k := 5) (x := x5) (by decide +kernel : decode (m_byt 266) 9 = .ok (.iload 5, 2)) rfl ?_
  exact g_inv (k := 1) (m' := 111) (np := 5) (as := [(2, ((r0 : Nat) : Int)), (0, x1), (0, x2), (0, x3), (0, x4), (0, x5)]) (by decide +kernel : decode (m_byt 266) 11 = .ok (.invokevirtual 65, 3)) (Or.inl ⟨rfl, rfl⟩) (by decide +kernel) (by decide +kernel) (by decide +kernel) (Nat.le_of_ble_eq_true rfl) rfl (Or.inr (g_rcv (by decide +kernel) h0))
theorem b_266_14 {Z : mZ} {l0 l1 l2 l3 l4 l5 l6 l7 : mV} {s0 s1 : Int} {s2 : Nat} {K : Nat → mK} {σ : Nat → Nat → Int} {n e s : Nat} (h0 : 0 ≤ w32 s1) (h1 : w32 s1 < (q_ln K s2 : Int)) (h2 : q_ak K n s2 3) : m_run Z (266, 14, [l0, l1, l2, l3, l4, l5, l6, l7], [(0, s0), (0, s1), (2, ((s2 : Nat) : Int))], (K, σ, n, e, s)) = some (.inl (0, 0), (K, (m_up2 σ s2 (w32 s1).toNat (w32 s0)), n, e, s)) := by
  refine g_base (by decide +kernel : decode (m_byt 266) 14 = .ok (.i2l, 1)) rfl rfl ?_
  show m_run Z (266, 15, [l0, l1, l2, l3, l4, l5, l6, l7], [(1, (w32 s0)), (0, s1), (2, ((s2 : Nat) : Int))], (K, σ, n, e, s)) = _
  refine g_last (by decide +kernel : decode (m_byt 266) 15 = .ok (.lastore, 1)) h2 h0 h1 ?_
  show m_run Z (266, 16, [l0, l1, l2, l3, l4, l5, l6, l7], [], (K, (m_up2 σ s2 (w32 s1).toNat (w32 s0)), n, e, s)) = _
  refine g_jmp (t := 31) (by decide +kernel : decode (m_byt 266) 16 = .ok (.goto 15, 3)) (by decide) ?_
  refine g_base (by decide +kernel : decode (m_byt 266) 31 = .ok (.iconst 0, 1)) rfl rfl ?_
  show m_run Z (266, 32, [l0, l1, l2, l3, l4, l5, l6, l7], [(0, 0)], (K, (m_up2 σ s2 (w32 s1).toNat (w32 s0)), n, e, s)) = _
  exact g_iret (by decide +kernel : decode (m_byt 266) 32 = .ok (.ireturn, 1)) (by decide +kernel)
theorem b_266_21 {Z : mZ} {l0 l1 l2 l3 l4 l5 l6 l7 : mV} {h : mH} : m_run Z (266, 21, [l0, l1, l2, l3, l4, l5, l6, l7], [], h) = some (.inl (0, 1), h) := by
  refine g_base (by decide +kernel : decode (m_byt 266) 21 = .ok (.iconst 1, 1)) rfl rfl ?_
  show m_run Z (266, 22, [l0, l1, l2, l3, l4, l5, l6, l7], [(0, 1)], h) = _
  exact g_iret (by decide +kernel : decode (m_byt 266) 22 = .ok (.ireturn, 1)) (by decide +kernel)
theorem b_266_25 {Z : mZ} {l0 l1 l2 l3 l4 l5 l6 l7 : mV} {h : mH} : m_run Z (266, 25, [l0, l1, l2, l3, l4, l5, l6, l7], [], h) = some (.inl (0, 2), h) := by
  refine g_base (by decide +kernel : decode (m_byt 266) 25 = .ok (.iconst 2, 1)) rfl rfl ?_
  show m_run Z (266, 26, [l0, l1, l2, l3, l4, l5, l6, l7], [(0, 2)], h) = _
  exact g_iret (by decide +kernel : decode (m_byt 266) 26 = .ok (.ireturn, 1)) (by decide +kernel)
theorem b_266_29 {Z : mZ} {l0 l1 l2 l3 l4 l5 l6 l7 : mV} {h : mH} : m_run Z (266, 29, [l0, l1, l2, l3, l4, l5, l6, l7], [], h) = some (.inl (0, 3), h) := by
  refine g_base (by decide +kernel : decode (m_byt 266) 29 = .ok (.iconst 3, 1)) rfl rfl ?_
  show m_run Z (266, 30, [l0, l1, l2, l3, l4, l5, l6, l7], [(0, 3)], h) = _
  exact g_iret (by decide +kernel : decode (m_byt 266) 30 = .ok (.ireturn, 1)) (by decide +kernel)
theorem b_266_31 {Z : mZ} {l0 l1 l2 l3 l4 l5 l6 l7 : mV} {h : mH} : m_run Z (266, 31, [l0, l1, l2, l3, l4, l5, l6, l7], [], h) = some (.inl (0, 0), h) := by
  refine g_base (by decide +kernel : decode (m_byt 266) 31 = .ok (.iconst 0, 1)) rfl rfl ?_
  show m_run Z (266, 32, [l0, l1, l2, l3, l4, l5, l6, l7], [(0, 0)], h) = _
  exact g_iret (by decide +kernel : decode (m_byt 266) 32 = .ok (.ireturn, 1)) (by decide +kernel)
theorem e_267 {Z : mZ} {r0 : Nat} {x1 : Int} {x2 : Int} {x3 : Int} {x4 : Int} {r5 : Nat} {h : mH} : m_cl Z 267 [(2, ((r0 : Nat) : Int)), (0, x1), (0, x2), (0, x3), (0, x4), (2, ((r5 : Nat) : Int))] h = m_run Z (267, 0, [(2, ((r0 : Nat) : Int)), (0, x1), (0, x2), (0, x3), (0, x4), (2, ((r5 : Nat) : Int)), (9, 0)], [], h) := g_ent (k := 7) (by decide) (by decide +kernel) (Nat.le_of_ble_eq_true rfl) (by decide +kernel) rfl
theorem b_267_0 {Z : mZ} {l6 : mV} {x1 x2 x3 x4 : Int} {r5 r0 : Nat} {K : Nat → mK} {σ : Nat → Nat → Int} {n e s : Nat} (h0 : q_ob K n r0 6) : m_run Z (267, 0, [(2, ((r0 : Nat) : Int)), (0, x1), (0, x2), (0, x3), (0, x4), (2, ((r5 : Nat) : Int)), l6], [], (K, σ, n, e, s)) = (m_cl Z 112 [(2, ((r0 : Nat) : Int)), (0, x1), (0, x2), (0, x3), (0, x4)] (K, σ, n, e, s)).bind (m_aft (m_run Z) 267 9 [(2, ((r0 : Nat) : Int)), (0, x1), (0, x2), (0, x3), (0, x4), (2, ((r5 : Nat) : Int)), l6] [(0, 0), (2, ((r5 : Nat) : Int))]) := by
  refine g_aload (k := 5) (v := (2, ((r5 : Nat) : Int))) (by decide +kernel : decode (m_byt 267) 0 = .ok (.aload 5, 2)) rfl (Or.inl rfl) ?_
  refine g_base (by decide +kernel : decode (m_byt 267) 2 = .ok (.iconst 0, 1)) rfl rfl ?_
  show m_run Z (267, 3, [(2, ((r0 : Nat) : Int)), (0, x1), (0, x2), (0, x3), (0, x4), (2, ((r5 : Nat) : Int)), l6], [(0, 0), (2, ((r5 : Nat) : Int))], (K, σ, n, e, s)) = _
  refine g_aload_n (k := 0) (v := (2, ((r0 : Nat) : Int))) (by decide +kernel : decode (m_byt 267) 3 = .ok (.aload_n 0, 1)) rfl (Or.inl rfl) ?_
  refine g_iload_n (k := 1) (x := x1) (by decide +kernel : decode (m_byt 267) 4 = .ok (.iload_n 1, 1)) rfl ?_
  refine g_iload_n (k := 2) (x := x2) (by decide +kernel : decode (m_byt 267) 5 = .ok (.iload_n 2, 1)) rfl ?_
  refine g_iload_n (k := 3) (x := x3) (by decide +kernel : decode (m_byt 267) 6 = .ok (.iload_n 3, 1)) rfl ?_
  refine g_iload (k := 4) (x := x4) (by decide +kernel : decode (m_byt 267) 7 = .ok (.iload 4, 2)) rfl ?_
  exact g_inv (k := 1) (m' := 112) (np := 4) (as := [(2, ((r0 : Nat) : Int)), (0, x1), (0, x2), (0, x3), (0, x4)]) (by decide +kernel : decode (m_byt 267) 9 = .ok (.invokevirtual 68, 3)) (Or.inl ⟨rfl, rfl⟩) (by decide +kernel) (by decide +kernel) (by decide +kernel) (Nat.le_of_ble_eq_true rfl) rfl (Or.inr (g_rcv (by decide +kernel) h0))
theorem b_267_12 {Z : mZ} {l0 l1 l2 l3 l4 l5 l6 : mV} {s0 s1 : Int} {s2 : Nat} {K : Nat → mK} {σ : Nat → Nat → Int} {n e s : Nat} (h0 : 0 ≤ w32 s1) (h1 : w32 s1 < (q_ln K s2 : Int)) (h2 : q_ak K n s2 3) : m_run Z (267, 12, [l0, l1, l2, l3, l4, l5, l6], [(0, s0), (0, s1), (2, ((s2 : Nat) : Int))], (K, σ, n, e, s)) = some (.inl (0, 0), (K, (m_up2 σ s2 (w32 s1).toNat (w32 s0)), n, e, s)) := by
  refine g_base (by decide +kernel : decode (m_byt 267) 12 = .ok (.i2l, 1)) rfl rfl ?_
  show m_run Z (267, 13, [l0, l1, l2, l3, l4, l5, l6], [(1, (w32 s0)), (0, s1), (2, ((s2 : Nat) : Int))], (K, σ, n, e, s)) = _
  refine g_last (by decide +kernel : decode (m_byt 267) 13 = .ok (.lastore, 1)) h2 h0 h1 ?_
  show m_run Z (267, 14, [l0, l1, l2, l3, l4, l5, l6], [], (K, (m_up2 σ s2 (w32 s1).toNat (w32 s0)), n, e, s)) = _
  refine g_jmp (t := 29) (by decide +kernel : decode (m_byt 267) 14 = .ok (.goto 15, 3)) (by decide) ?_
  refine g_base (by decide +kernel : decode (m_byt 267) 29 = .ok (.iconst 0, 1)) rfl rfl ?_
  show m_run Z (267, 30, [l0, l1, l2, l3, l4, l5, l6], [(0, 0)], (K, (m_up2 σ s2 (w32 s1).toNat (w32 s0)), n, e, s)) = _
  exact g_iret (by decide +kernel : decode (m_byt 267) 30 = .ok (.ireturn, 1)) (by decide +kernel)
theorem b_267_19 {Z : mZ} {l0 l1 l2 l3 l4 l5 l6 : mV} {h : mH} : m_run Z (267, 19, [l0, l1, l2, l3, l4, l5, l6], [], h) = some (.inl (0, 1), h) := by
  refine g_base (by decide +kernel : decode (m_byt 267) 19 = .ok (.iconst 1, 1)) rfl rfl ?_
  show m_run Z (267, 20, [l0, l1, l2, l3, l4, l5, l6], [(0, 1)], h) = _
  exact g_iret (by decide +kernel : decode (m_byt 267) 20 = .ok (.ireturn, 1)) (by decide +kernel)
theorem b_267_23 {Z : mZ} {l0 l1 l2 l3 l4 l5 l6 : mV} {h : mH} : m_run Z (267, 23, [l0, l1, l2, l3, l4, l5, l6], [], h) = some (.inl (0, 2), h) := by
  refine g_base (by decide +kernel : decode (m_byt 267) 23 = .ok (.iconst 2, 1)) rfl rfl ?_
  show m_run Z (267, 24, [l0, l1, l2, l3, l4, l5, l6], [(0, 2)], h) = _
  exact g_iret (by decide +kernel : decode (m_byt 267) 24 = .ok (.ireturn, 1)) (by decide +kernel)
theorem b_267_27 {Z : mZ} {l0 l1 l2 l3 l4 l5 l6 : mV} {h : mH} : m_run Z (267, 27, [l0, l1, l2, l3, l4, l5, l6], [], h) = some (.inl (0, 3), h) := by
  refine g_base (by decide +kernel : decode (m_byt 267) 27 = .ok (.iconst 3, 1)) rfl rfl ?_
  show m_run Z (267, 28, [l0, l1, l2, l3, l4, l5, l6], [(0, 3)], h) = _
  exact g_iret (by decide +kernel : decode (m_byt 267) 28 = .ok (.ireturn, 1)) (by decide +kernel)
theorem b_267_29 {Z : mZ} {l0 l1 l2 l3 l4 l5 l6 : mV} {h : mH} : m_run Z (267, 29, [l0, l1, l2, l3, l4, l5, l6], [], h) = some (.inl (0, 0), h) := by
  refine g_base (by decide +kernel : decode (m_byt 267) 29 = .ok (.iconst 0, 1)) rfl rfl ?_
  show m_run Z (267, 30, [l0, l1, l2, l3, l4, l5, l6], [(0, 0)], h) = _
  exact g_iret (by decide +kernel : decode (m_byt 267) 30 = .ok (.ireturn, 1)) (by decide +kernel)
theorem e_268 {Z : mZ} {r0 : Nat} {x1 : Int} {x2 : Int} {x3 : Int} {r4 : Nat} {h : mH} : m_cl Z 268 [(2, ((r0 : Nat) : Int)), (0, x1), (0, x2), (0, x3), (2, ((r4 : Nat) : Int))] h = m_run Z (268, 0, [(2, ((r0 : Nat) : Int)), (0, x1), (0, x2), (0, x3), (2, ((r4 : Nat) : Int)), (9, 0)], [], h) := g_ent (k := 6) (by decide) (by decide +kernel) (Nat.le_of_ble_eq_true rfl) (by decide +kernel) rfl
theorem b_268_0 {Z : mZ} {l5 : mV} {x1 x2 x3 : Int} {r4 r0 : Nat} {K : Nat → mK} {σ : Nat → Nat → Int} {n e s : Nat} (h0 : q_ob K n r0 6) : m_run Z (268, 0, [(2, ((r0 : Nat) : Int)), (0, x1), (0, x2), (0, x3), (2, ((r4 : Nat) : Int)), l5], [], (K, σ, n, e, s)) = (m_cl Z 113 [(2, ((r0 : Nat) : Int)), (0, x1), (0, x2), (0, x3)] (K, σ, n, e, s)).bind (m_aft (m_run Z) 268 7 [(2, ((r0 : Nat) : Int)), (0, x1), (0, x2), (0, x3), (2, ((r4 : Nat) : Int)), l5] [(0, 0), (2, ((r4 : Nat) : Int))]) := by
  refine g_aload (k := 4) (v := (2, ((r4 : Nat) : Int))) (by decide +kernel : decode (m_byt 268) 0 = .ok (.aload 4, 2)) rfl (Or.inl rfl) ?_
  refine g_base (by decide +kernel : decode (m_byt 268) 2 = .ok (.iconst 0, 1)) rfl rfl ?_
  show m_run Z (268, 3, [(2, ((r0 : Nat) : Int)), (0, x1), (0, x2), (0, x3), (2, ((r4 : Nat) : Int)), l5], [(0, 0), (2, ((r4 : Nat) : Int))], (K, σ, n, e, s)) = _
  refine g_aload_n (k := 0) (v := (2, ((r0 : Nat) : Int))) (by decide +kernel : decode (m_byt 268) 3 = .ok (.aload_n 0, 1)) rfl (Or.inl rfl) ?_
  refine g_iload_n (k := 1) (x := x1) (by decide +kernel : decode (m_byt 268) 4 = .ok (.iload_n 1, 1)) rfl ?_
  refine g_iload_n (k := 2) (x := x2) (by decide +kernel : decode (m_byt 268) 5 = .ok (.iload_n 2, 1)) rfl ?_
  refine g_iload_n (k := 3) (x := x3) (by decide +kernel : decode (m_byt 268) 6 = .ok (.iload_n 3, 1)) rfl ?_
  exact g_inv (k := 1) (m' := 113) (np := 3) (as := [(2, ((r0 : Nat) : Int)), (0, x1), (0, x2), (0, x3)]) (by decide +kernel : decode (m_byt 268) 7 = .ok (.invokevirtual 72, 3)) (Or.inl ⟨rfl, rfl⟩) (by decide +kernel) (by decide +kernel) (by decide +kernel) (Nat.le_of_ble_eq_true rfl) rfl (Or.inr (g_rcv (by decide +kernel) h0))
theorem b_268_10 {Z : mZ} {l0 l1 l2 l3 l4 l5 : mV} {s0 s1 : Int} {s2 : Nat} {K : Nat → mK} {σ : Nat → Nat → Int} {n e s : Nat} (h0 : 0 ≤ w32 s1) (h1 : w32 s1 < (q_ln K s2 : Int)) (h2 : q_ak K n s2 3) : m_run Z (268, 10, [l0, l1, l2, l3, l4, l5], [(0, s0), (0, s1), (2, ((s2 : Nat) : Int))], (K, σ, n, e, s)) = some (.inl (0, 0), (K, (m_up2 σ s2 (w32 s1).toNat (w32 s0)), n, e, s)) := by
  refine g_base (by decide +kernel : decode (m_byt 268) 10 = .ok (.i2l, 1)) rfl rfl ?_
  show m_run Z (268, 11, [l0, l1, l2, l3, l4, l5], [(1, (w32 s0)), (0, s1), (2, ((s2 : Nat) : Int))], (K, σ, n, e, s)) = _
  refine g_last (by decide +kernel : decode (m_byt 268) 11 = .ok (.lastore, 1)) h2 h0 h1 ?_
  show m_run Z (268, 12, [l0, l1, l2, l3, l4, l5], [], (K, (m_up2 σ s2 (w32 s1).toNat (w32 s0)), n, e, s)) = _
  refine g_jmp (t := 27) (by decide +kernel : decode (m_byt 268) 12 = .ok (.goto 15, 3)) (by decide) ?_
  refine g_base (by decide +kernel : decode (m_byt 268) 27 = .ok (.iconst 0, 1)) rfl rfl ?_
  show m_run Z (268, 28, [l0, l1, l2, l3, l4, l5], [(0, 0)], (K, (m_up2 σ s2 (w32 s1).toNat (w32 s0)), n, e, s)) = _
  exact g_iret (by decide +kernel : decode (m_byt 268) 28 = .ok (.ireturn, 1)) (by decide +kernel)
theorem b_268_17 {Z : mZ} {l0 l1 l2 l3 l4 l5 : mV} {h : mH} : m_run Z (268, 17, [l0, l1, l2, l3, l4, l5], [], h) = some (.inl (0, 1), h) := by
  refine g_base (by decide +kernel : decode (m_byt 268) 17 = .ok (.iconst 1, 1)) rfl rfl ?_
  show m_run Z (268, 18, [l0, l1, l2, l3, l4, l5], [(0, 1)], h) = _
  exact g_iret (by decide +kernel : decode (m_byt 268) 18 = .ok (.ireturn, 1)) (by decide +kernel)
theorem b_268_21 {Z : mZ} {l0 l1 l2 l3 l4 l5 : mV} {h : mH} : m_run Z (268, 21, [l0, l1, l2, l3, l4, l5], [], h) = some (.inl (0, 2), h) := by
  refine g_base (by decide +kernel : decode (m_byt 268) 21 = .ok (.iconst 2, 1)) rfl rfl ?_
  show m_run Z (268, 22, [l0, l1, l2, l3, l4, l5], [(0, 2)], h) = _
  exact g_iret (by decide +kernel : decode (m_byt 268) 22 = .ok (.ireturn, 1)) (by decide +kernel)
theorem b_268_25 {Z : mZ} {l0 l1 l2 l3 l4 l5 : mV} {h : mH} : m_run Z (268, 25, [l0, l1, l2, l3, l4, l5], [], h) = some (.inl (0, 3), h) := by
  refine g_base (by decide +kernel : decode (m_byt 268) 25 = .ok (.iconst 3, 1)) rfl rfl ?_
  show m_run Z (268, 26, [l0, l1, l2, l3, l4, l5], [(0, 3)], h) = _
  exact g_iret (by decide +kernel : decode (m_byt 268) 26 = .ok (.ireturn, 1)) (by decide +kernel)
theorem b_268_27 {Z : mZ} {l0 l1 l2 l3 l4 l5 : mV} {h : mH} : m_run Z (268, 27, [l0, l1, l2, l3, l4, l5], [], h) = some (.inl (0, 0), h) := by
  refine g_base (by decide +kernel : decode (m_byt 268) 27 = .ok (.iconst 0, 1)) rfl rfl ?_
  show m_run Z (268, 28, [l0, l1, l2, l3, l4, l5], [(0, 0)], h) = _
  exact g_iret (by decide +kernel : decode (m_byt 268) 28 = .ok (.ireturn, 1)) (by decide +kernel)
theorem e_269 {Z : mZ} {r0 : Nat} {x1 : Int} {x2 : Int} {r3 : Nat} {h : mH} : m_cl Z 269 [(2, ((r0 : Nat) : Int)), (0, x1), (0, x2), (2, ((r3 : Nat) : Int))] h = m_run Z (269, 0, [(2, ((r0 : Nat) : Int)), (0, x1), (0, x2), (2, ((r3 : Nat) : Int)), (9, 0)], [], h) := g_ent (k := 5) (by decide) (by decide +kernel) (Nat.le_of_ble_eq_true rfl) (by decide +kernel) rfl
theorem b_269_0 {Z : mZ} {l4 : mV} {x1 x2 : Int} {r3 r0 : Nat} {K : Nat → mK} {σ : Nat → Nat → Int} {n e s : Nat} (h0 : q_ob K n r0 6) : m_run Z (269, 0, [(2, ((r0 : Nat) : Int)), (0, x1), (0, x2), (2, ((r3 : Nat) : Int)), l4], [], (K, σ, n, e, s)) = (m_cl Z 114 [(2, ((r0 : Nat) : Int)), (0, x1), (0, x2)] (K, σ, n, e, s)).bind (m_aft (m_run Z) 269 5 [(2, ((r0 : Nat) : Int)), (0, x1), (0, x2), (2, ((r3 : Nat) : Int)), l4] [(0, 0), (2, ((r3 : Nat) : Int))]) := by
  refine g_aload_n (k := 3) (v := (2, ((r3 : Nat) : Int))) (by decide +kernel : decode (m_byt 269) 0 = .ok (.aload_n 3, 1)) rfl (Or.inl rfl) ?_
  refine g_base (by decide +kernel : decode (m_byt 269) 1 = .ok (.iconst 0, 1)) rfl rfl ?_
  show m_run Z (269, 2, [(2, ((r0 : Nat) : Int)), (0, x1), (0, x2), (2, ((r3 : Nat) : Int)), l4], [(0, 0), (2, ((r3 : Nat) : Int))], (K, σ, n, e, s)) = _
  refine g_aload_n (k := 0) (v := (2, ((r0 : Nat) : Int))) (by decide +kernel : decode (m_byt 269) 2 = .ok (.aload_n 0, 1)) rfl (Or.inl rfl) ?_
  refine g_iload_n (k := 1) (x := x1) (by decide +kernel : decode (m_byt 269) 3 = .ok (.iload_n 1, 1)) rfl ?_
  refine g_iload_n (k := 2) (x := x2) (by decide +kernel : decode (m_byt 269) 4 = .ok (.iload_n 2, 1)) rfl ?_
  exact g_inv (k := 1) (m' := 114) (np := 2) (as := [(2, ((r0 : Nat) : Int)), (0, x1), (0, x2)]) (by decide +kernel : decode (m_byt 269) 5 = .ok (.invokevirtual 75, 3)) (Or.inl ⟨rfl, rfl⟩) (by decide +kernel) (by decide +kernel) (by decide +kernel) (Nat.le_of_ble_eq_true rfl) rfl (Or.inr (g_rcv (by decide +kernel) h0))
theorem b_269_8 {Z : mZ} {l0 l1 l2 l3 l4 : mV} {s0 s1 : Int} {s2 : Nat} {K : Nat → mK} {σ : Nat → Nat → Int} {n e s : Nat} (h0 : 0 ≤ w32 s1) (h1 : w32 s1 < (q_ln K s2 : Int)) (h2 : q_ak K n s2 3) : m_run Z (269, 8, [l0, l1, l2, l3, l4], [(0, s0), (0, s1), (2, ((s2 : Nat) : Int))], (K, σ, n, e, s)) = some (.inl (0, 0), (K, (m_up2 σ s2 (w32 s1).toNat (w32 s0)), n, e, s)) := by
  refine g_base (by decide +kernel : decode (m_byt 269) 8 = .ok (.i2l, 1)) rfl rfl ?_
  show m_run Z (269, 9, [l0, l1, l2, l3, l4], [(1, (w32 s0)), (0, s1), (2, ((s2 : Nat) : Int))], (K, σ, n, e, s)) = _
  refine g_last (by decide +kernel : decode (m_byt 269) 9 = .ok (.lastore, 1)) h2 h0 h1 ?_
  show m_run Z (269, 10, [l0, l1, l2, l3, l4], [], (K, (m_up2 σ s2 (w32 s1).toNat (w32 s0)), n, e, s)) = _
  refine g_jmp (t := 21) (by decide +kernel : decode (m_byt 269) 10 = .ok (.goto 11, 3)) (by decide) ?_
  refine g_base (by decide +kernel : decode (m_byt 269) 21 = .ok (.iconst 0, 1)) rfl rfl ?_
  show m_run Z (269, 22, [l0, l1, l2, l3, l4], [(0, 0)], (K, (m_up2 σ s2 (w32 s1).toNat (w32 s0)), n, e, s)) = _
  exact g_iret (by decide +kernel : decode (m_byt 269) 22 = .ok (.ireturn, 1)) (by decide +kernel)
theorem b_269_15 {Z : mZ} {l0 l1 l2 l3 l4 : mV} {h : mH} : m_run Z (269, 15, [l0, l1, l2, l3, l4], [], h) = some (.inl (0, 1), h) := by
  refine g_base (by decide +kernel : decode (m_byt 269) 15 = .ok (.iconst 1, 1)) rfl rfl ?_
  show m_run Z (269, 16, [l0, l1, l2, l3, l4], [(0, 1)], h) = _
  exact g_iret (by decide +kernel : decode (m_byt 269) 16 = .ok (.ireturn, 1)) (by decide +kernel)
theorem b_269_19 {Z : mZ} {l0 l1 l2 l3 l4 : mV} {h : mH} : m_run Z (269, 19, [l0, l1, l2, l3, l4], [], h) = some (.inl (0, 2), h) := by
  refine g_base (by decide +kernel : decode (m_byt 269) 19 = .ok (.iconst 2, 1)) rfl rfl ?_
  show m_run Z (269, 20, [l0, l1, l2, l3, l4], [(0, 2)], h) = _
  exact g_iret (by decide +kernel : decode (m_byt 269) 20 = .ok (.ireturn, 1)) (by decide +kernel)
theorem b_269_21 {Z : mZ} {l0 l1 l2 l3 l4 : mV} {h : mH} : m_run Z (269, 21, [l0, l1, l2, l3, l4], [], h) = some (.inl (0, 0), h) := by
  refine g_base (by decide +kernel : decode (m_byt 269) 21 = .ok (.iconst 0, 1)) rfl rfl ?_
  show m_run Z (269, 22, [l0, l1, l2, l3, l4], [(0, 0)], h) = _
  exact g_iret (by decide +kernel : decode (m_byt 269) 22 = .ok (.ireturn, 1)) (by decide +kernel)
theorem e_270 {Z : mZ} {r0 : Nat} {x1 : Int} {x2 : Int} {r3 : Nat} {h : mH} : m_cl Z 270 [(2, ((r0 : Nat) : Int)), (0, x1), (0, x2), (2, ((r3 : Nat) : Int))] h = m_run Z (270, 0, [(2, ((r0 : Nat) : Int)), (0, x1), (0, x2), (2, ((r3 : Nat) : Int)), (9, 0)], [], h) := g_ent (k := 5) (by decide) (by decide +kernel) (Nat.le_of_ble_eq_true rfl) (by decide +kernel) rfl
theorem b_270_0 {Z : mZ} {l4 : mV} {x1 x2 : Int} {r3 r0 : Nat} {K : Nat → mK} {σ : Nat → Nat → Int} {n e s : Nat} (h0 : q_ob K n r0 6) : m_run Z (270, 0, [(2, ((r0 : Nat) : Int)), (0, x1), (0, x2), (2, ((r3 : Nat) : Int)), l4], [], (K, σ, n, e, s)) = (m_cl Z 115 [(2, ((r0 : Nat) : Int)), (0, x1), (0, x2)] (K, σ, n, e, s)).bind (m_aft (m_run Z) 270 5 [(2, ((r0 : Nat) : Int)), (0, x1), (0, x2), (2, ((r3 : Nat) : Int)), l4] [(0, 0), (2, ((r3 : Nat) : Int))]) := by
  refine g_aload_n (k := 3) (v := (2, ((r3 : Nat) : Int))) (by decide +kernel : decode (m_byt 270) 0 = .ok (.aload_n 3, 1)) rfl (Or.inl rfl) ?_
  refine g_base (by decide +kernel : decode (m_byt 270) 1 = .ok (.iconst 0, 1)) rfl rfl ?_
  show m_run Z (270, 2, [(2, ((r0 : Nat) : Int)), (0, x1), (0, x2), (2, ((r3 : Nat) : Int)), l4], [(0, 0), (2, ((r3 : Nat) : Int))], (K, σ, n, e, s)) = _
  refine g_aload_n (k := 0) (v := (2, ((r0 : Nat) : Int))) (by decide +kernel : decode (m_byt 270) 2 = .ok (.aload_n 0, 1)) rfl (Or.inl rfl) ?_
  refine g_iload_n (k := 1) (x := x1) (by decide +kernel : decode (m_byt 270) 3 = .ok (.iload_n 1, 1)) rfl ?_
  refine g_iload_n (k := 2) (x := x2) (by decide +kernel : decode (m_byt 270) 4 = .ok (.iload_n 2, 1)) rfl ?_
  exact g_inv (k := 1) (m' := 115) (np := 2) (as := [(2, ((r0 : Nat) : Int)), (0, x1), (0, x2)]) (by decide +kernel : decode (m_byt 270) 5 = .ok (.invokevirtual 78, 3)) (Or.inl ⟨rfl, rfl⟩) (by decide +kernel) (by decide +kernel) (by decide +kernel) (Nat.le_of_ble_eq_true rfl) rfl (Or.inr (g_rcv (by decide +kernel) h0))
theorem b_270_8 {Z : mZ} {l0 l1 l2 l3 l4 : mV} {s0 s1 : Int} {s2 : Nat} {K : Nat → mK} {σ : Nat → Nat → Int} {n e s : Nat} (h0 : 0 ≤ w32 s1) (h1 : w32 s1 < (q_ln K s2 : Int)) (h2 : q_ak K n s2 3) : m_run Z (270, 8, [l0, l1, l2, l3, l4], [(0, s0), (0, s1), (2, ((s2 : Nat) : Int))], (K, σ, n, e, s)) = some (.inl (0, 0), (K, (m_up2 σ s2 (w32 s1).toNat (w32 s0)), n, e, s)) := by
  refine g_base (by decide +kernel : decode (m_byt 270) 8 = .ok (.i2l, 1)) rfl rfl ?_
  show m_run Z (270, 9, [l0, l1, l2, l3, l4], [(1, (w32 s0)), (0, s1), (2, ((s2 : Nat) : Int))], (K, σ, n, e, s)) = _
  refine g_last (by decide +kernel : decode (m_byt 270) 9 = .ok (.lastore, 1)) h2 h0 h1 ?_
  show m_run Z (270, 10, [l0, l1, l2, l3, l4], [], (K, (m_up2 σ s2 (w32 s1).toNat (w32 s0)), n, e, s)) = _
  refine g_jmp (t := 21) (by decide +kernel : decode (m_byt 270) 10 = .ok (.goto 11, 3)) (by decide) ?_
  refine g_base (by decide +kernel : decode (m_byt 270) 21 = .ok (.iconst 0, 1)) rfl rfl ?_
  show m_run Z (270, 22, [l0, l1, l2, l3, l4], [(0, 0)], (K, (m_up2 σ s2 (w32 s1).toNat (w32 s0)), n, e, s)) = _
  exact g_iret (by decide +kernel : decode (m_byt 270) 22 = .ok (.ireturn, 1)) (by decide +kernel)
theorem b_270_15 {Z : mZ} {l0 l1 l2 l3 l4 : mV} {h : mH} : m_run Z (270, 15, [l0, l1, l2, l3, l4], [], h) = some (.inl (0, 1), h) := by
  refine g_base (by decide +kernel : decode (m_byt 270) 15 = .ok (.iconst 1, 1)) rfl rfl ?_
  show m_run Z (270, 16, [l0, l1, l2, l3, l4], [(0, 1)], h) = _
  exact g_iret (by decide +kernel : decode (m_byt 270) 16 = .ok (.ireturn, 1)) (by decide +kernel)
theorem b_270_19 {Z : mZ} {l0 l1 l2 l3 l4 : mV} {h : mH} : m_run Z (270, 19, [l0, l1, l2, l3, l4], [], h) = some (.inl (0, 2), h) := by
  refine g_base (by decide +kernel : decode (m_byt 270) 19 = .ok (.iconst 2, 1)) rfl rfl ?_
  show m_run Z (270, 20, [l0, l1, l2, l3, l4], [(0, 2)], h) = _
  exact g_iret (by decide +kernel : decode (m_byt 270) 20 = .ok (.ireturn, 1)) (by decide +kernel)
theorem b_270_21 {Z : mZ} {l0 l1 l2 l3 l4 : mV} {h : mH} : m_run Z (270, 21, [l0, l1, l2, l3, l4], [], h) = some (.inl (0, 0), h) := by
  refine g_base (by decide +kernel : decode (m_byt 270) 21 = .ok (.iconst 0, 1)) rfl rfl ?_
  show m_run Z (270, 22, [l0, l1, l2, l3, l4], [(0, 0)], h) = _
  exact g_iret (by decide +kernel : decode (m_byt 270) 22 = .ok (.ireturn, 1)) (by decide +kernel)
theorem e_271 {Z : mZ} {r0 : Nat} {x1 : Int} {r2 : Nat} {h : mH} : m_cl Z 271 [(2, ((r0 : Nat) : Int)), (0, x1), (2, ((r2 : Nat) : Int))] h = m_run Z (271, 0, [(2, ((r0 : Nat) : Int)), (0, x1), (2, ((r2 : Nat) : Int)), (9, 0)], [], h) := g_ent (k := 4) (by decide) (by decide +kernel) (Nat.le_of_ble_eq_true rfl) (by decide +kernel) rfl
theorem b_271_0 {Z : mZ} {l3 : mV} {x1 : Int} {r2 r0 : Nat} {K : Nat → mK} {σ : Nat → Nat → Int} {n e s : Nat} (h0 : q_ob K n r0 6) : m_run Z (271, 0, [(2, ((r0 : Nat) : Int)), (0, x1), (2, ((r2 : Nat) : Int)), l3], [], (K, σ, n, e, s)) = (m_cl Z 116 [(2, ((r0 : Nat) : Int)), (0, x1)] (K, σ, n, e, s)).bind (m_aft (m_run Z) 271 4 [(2, ((r0 : Nat) : Int)), (0, x1), (2, ((r2 : Nat) : Int)), l3] [(0, 0), (2, ((r2 : Nat) : Int))]) := by
  refine g_aload_n (k := 2) (v := (2, ((r2 : Nat) : Int))) (by decide +kernel : decode (m_byt 271) 0 = .ok (.aload_n 2, 1)) rfl (Or.inl rfl) ?_
  refine g_base (by decide +kernel : decode (m_byt 271) 1 = .ok (.iconst 0, 1)) rfl rfl ?_
  show m_run Z (271, 2, [(2, ((r0 : Nat) : Int)), (0, x1), (2, ((r2 : Nat) : Int)), l3], [(0, 0), (2, ((r2 : Nat) : Int))], (K, σ, n, e, s)) = _
  refine g_aload_n (k := 0) (v := (2, ((r0 : Nat) : Int))) (by decide +kernel : decode (m_byt 271) 2 = .ok (.aload_n 0, 1)) rfl (Or.inl rfl) ?_
  refine g_iload_n (k := 1) (x := x1) (by decide +kernel : decode (m_byt 271) 3 = .ok (.iload_n 1, 1)) rfl ?_
  exact g_inv (k := 1) (m' := 116) (np := 1) (as := [(2, ((r0 : Nat) : Int)), (0, x1)]) (by decide +kernel : decode (m_byt 271) 4 = .ok (.invokevirtual 81, 3)) (Or.inl ⟨rfl, rfl⟩) (by decide +kernel) (by decide +kernel) (by decide +kernel) (Nat.le_of_ble_eq_true rfl) rfl (Or.inr (g_rcv (by decide +kernel) h0))
theorem b_271_7 {Z : mZ} {l0 l1 l2 l3 : mV} {s0 s1 : Int} {s2 : Nat} {K : Nat → mK} {σ : Nat → Nat → Int} {n e s : Nat} (h0 : 0 ≤ w32 s1) (h1 : w32 s1 < (q_ln K s2 : Int)) (h2 : q_ak K n s2 3) : m_run Z (271, 7, [l0, l1, l2, l3], [(0, s0), (0, s1), (2, ((s2 : Nat) : Int))], (K, σ, n, e, s)) = some (.inl (0, 0), (K, (m_up2 σ s2 (w32 s1).toNat (w32 s0)), n, e, s)) := by
  refine g_base (by decide +kernel : decode (m_byt 271) 7 = .ok (.i2l, 1)) rfl rfl ?_
  show m_run Z (271, 8, [l0, l1, l2, l3], [(1, (w32 s0)), (0, s1), (2, ((s2 : Nat) : Int))], (K, σ, n, e, s)) = _
  refine g_last (by decide +kernel : decode (m_byt 271) 8 = .ok (.lastore, 1)) h2 h0 h1 ?_
  show m_run Z (271, 9, [l0, l1, l2, l3], [], (K, (m_up2 σ s2 (w32 s1).toNat (w32 s0)), n, e, s)) = _
  refine g_jmp (t := 18) (by decide +kernel : decode (m_byt 271) 9 = .ok (.goto 9, 3)) (by decide) ?_
  refine g_base (by decide +kernel : decode (m_byt 271) 18 = .ok (.iconst 0, 1)) rfl rfl ?_
  show m_run Z (271, 19, [l0, l1, l2, l3], [(0, 0)], (K, (m_up2 σ s2 (w32 s1).toNat (w32 s0)), n, e, s)) = _
  exact g_iret (by decide +kernel : decode (m_byt 271) 19 = .ok (.ireturn, 1)) (by decide +kernel)
theorem b_271_13 {Z : mZ} {l0 l1 l2 l3 : mV} {h : mH} : m_run Z (271, 13, [l0, l1, l2, l3], [], h) = some (.inl (0, 1), h) := by
  refine g_base (by decide +kernel : decode (m_byt 271) 13 = .ok (.iconst 1, 1)) rfl rfl ?_
  show m_run Z (271, 14, [l0, l1, l2, l3], [(0, 1)], h) = _
  exact g_iret (by decide +kernel : decode (m_byt 271) 14 = .ok (.ireturn, 1)) (by decide +kernel)
theorem b_271_16 {Z : mZ} {l0 l1 l2 l3 : mV} {h : mH} : m_run Z (271, 16, [l0, l1, l2, l3], [], h) = some (.inl (0, 2), h) := by
  refine g_base (by decide +kernel : decode (m_byt 271) 16 = .ok (.iconst 2, 1)) rfl rfl ?_
  show m_run Z (271, 17, [l0, l1, l2, l3], [(0, 2)], h) = _
  exact g_iret (by decide +kernel : decode (m_byt 271) 17 = .ok (.ireturn, 1)) (by decide +kernel)
theorem b_271_18 {Z : mZ} {l0 l1 l2 l3 : mV} {h : mH} : m_run Z (271, 18, [l0, l1, l2, l3], [], h) = some (.inl (0, 0), h) := by
  refine g_base (by decide +kernel : decode (m_byt 271) 18 = .ok (.iconst 0, 1)) rfl rfl ?_
  show m_run Z (271, 19, [l0, l1, l2, l3], [(0, 0)], h) = _
  exact g_iret (by decide +kernel : decode (m_byt 271) 19 = .ok (.ireturn, 1)) (by decide +kernel)
theorem e_272 {Z : mZ} {r0 : Nat} {x1 : Int} {r2 : Nat} {h : mH} : m_cl Z 272 [(2, ((r0 : Nat) : Int)), (0, x1), (2, ((r2 : Nat) : Int))] h = m_run Z (272, 0, [(2, ((r0 : Nat) : Int)), (0, x1), (2, ((r2 : Nat) : Int)), (9, 0)], [], h) := g_ent (k := 4) (by decide) (by decide +kernel) (Nat.le_of_ble_eq_true rfl) (by decide +kernel) rfl
theorem b_272_0 {Z : mZ} {l3 : mV} {x1 : Int} {r2 r0 : Nat} {K : Nat → mK} {σ : Nat → Nat → Int} {n e s : Nat} (h0 : q_ob K n r0 6) : m_run Z (272, 0, [(2, ((r0 : Nat) : Int)), (0, x1), (2, ((r2 : Nat) : Int)), l3], [], (K, σ, n, e, s)) = (m_cl Z 117 [(2, ((r0 : Nat) : Int)), (0, x1)] (K, σ, n, e, s)).bind (m_aft (m_run Z) 272 4 [(2, ((r0 : Nat) : Int)), (0, x1), (2, ((r2 : Nat) : Int)), l3] [(0, 0), (2, ((r2 : Nat) : Int))]) := by
  refine g_aload_n (k := 2) (v := (2, ((r2 : Nat) : Int))) (by decide +kernel : decode (m_byt 272) 0 = .ok (.aload_n 2, 1)) rfl (Or.inl rfl) ?_
  refine g_base (by decide +kernel : decode (m_byt 272) 1 = .ok (.iconst 0, 1)) rfl rfl ?_
  show m_run Z (272, 2, [(2, ((r0 : Nat) : Int)), (0, x1), (2, ((r2 : Nat) : Int)), l3], [(0, 0), (2, ((r2 : Nat) : Int))], (K, σ, n, e, s)) = _
  refine g_aload_n (k := 0) (v := (2, ((r0 : Nat) : Int))) (by decide +kernel : decode (m_byt 272) 2 = .ok (.aload_n 0, 1)) rfl (Or.inl rfl) ?_
  refine g_iload_n (k := 1) (x := x1) (by decide +kernel : decode (m_byt 272) 3 = .ok (.iload_n 1, 1)) rfl ?_
  exact g_inv (k := 1) (m' := 117) (np := 1) (as := [(2, ((r0 : Nat) : Int)), (0, x1)]) (by decide +kernel : decode (m_byt 272) 4 = .ok (.invokevirtual 84, 3)) (Or.inl ⟨rfl, rfl⟩) (by decide +kernel) (by decide +kernel) (by decide +kernel) (Nat.le_of_ble_eq_true rfl) rfl (Or.inr (g_rcv (by decide +kernel) h0))
theorem b_272_7 {Z : mZ} {l0 l1 l2 l3 : mV} {s0 s1 : Int} {s2 : Nat} {K : Nat → mK} {σ : Nat → Nat → Int} {n e s : Nat} (h0 : 0 ≤ w32 s1) (h1 : w32 s1 < (q_ln K s2 : Int)) (h2 : q_ak K n s2 3) : m_run Z (272, 7, [l0, l1, l2, l3], [(0, s0), (0, s1), (2, ((s2 : Nat) : Int))], (K, σ, n, e, s)) = some (.inl (0, 0), (K, (m_up2 σ s2 (w32 s1).toNat (w32 s0)), n, e, s)) := by
  refine g_base (by decide +kernel : decode (m_byt 272) 7 = .ok (.i2l, 1)) rfl rfl ?_
  show m_run Z (272, 8, [l0, l1, l2, l3], [(1, (w32 s0)), (0, s1), (2, ((s2 : Nat) : Int))], (K, σ, n, e, s)) = _
  refine g_last (by decide +kernel : decode (m_byt 272) 8 = .ok (.lastore, 1)) h2 h0 h1 ?_
  show m_run Z (272, 9, [l0, l1, l2, l3], [], (K, (m_up2 σ s2 (w32 s1).toNat (w32 s0)), n, e, s)) = _
  refine g_jmp (t := 18) (by decide +kernel : decode (m_byt 272) 9 = .ok (.goto 9, 3)) (by decide) ?_
  refine g_base (by decide +kernel : decode (m_byt 272) 18 = .ok (.iconst 0, 1)) rfl rfl ?_
  show m_run Z (272, 19, [l0, l1, l2, l3], [(0, 0)], (K, (m_up2 σ s2 (w32 s1).toNat (w32 s0)), n, e, s)) = _
  exact g_iret (by decide +kernel : decode (m_byt 272) 19 = .ok (.ireturn, 1)) (by decide +kernel)
theorem b_272_13 {Z : mZ} {l0 l1 l2 l3 : mV} {h : mH} : m_run Z (272, 13, [l0, l1, l2, l3], [], h) = some (.inl (0, 1), h) := by
  refine g_base (by decide +kernel : decode (m_byt 272) 13 = .ok (.iconst 1, 1)) rfl rfl ?_
  show m_run Z (272, 14, [l0, l1, l2, l3], [(0, 1)], h) = _
  exact g_iret (by decide +kernel : decode (m_byt 272) 14 = .ok (.ireturn, 1)) (by decide +kernel)
theorem b_272_16 {Z : mZ} {l0 l1 l2 l3 : mV} {h : mH} : m_run Z (272, 16, [l0, l1, l2, l3], [], h) = some (.inl (0, 2), h) := by
  refine g_base (by decide +kernel : decode (m_byt 272) 16 = .ok (.iconst 2, 1)) rfl rfl ?_
  show m_run Z (272, 17, [l0, l1, l2, l3], [(0, 2)], h) = _
  exact g_iret (by decide +kernel : decode (m_byt 272) 17 = .ok (.ireturn, 1)) (by decide +kernel)
theorem b_272_18 {Z : mZ} {l0 l1 l2 l3 : mV} {h : mH} : m_run Z (272, 18, [l0, l1, l2, l3], [], h) = some (.inl (0, 0), h) := by
  refine g_base (by decide +kernel : decode (m_byt 272) 18 = .ok (.iconst 0, 1)) rfl rfl ?_
  show m_run Z (272, 19, [l0, l1, l2, l3], [(0, 0)], h) = _
  exact g_iret (by decide +kernel : decode (m_byt 272) 19 = .ok (.ireturn, 1)) (by decide +kernel)
theorem e_273 {Z : mZ} {r0 : Nat} {x1 : Int} {x2 : Int} {r3 : Nat} {h : mH} : m_cl Z 273 [(2, ((r0 : Nat) : Int)), (0, x1), (0, x2), (2, ((r3 : Nat) : Int))] h = m_run Z (273, 0, [(2, ((r0 : Nat) : Int)), (0, x1), (0, x2), (2, ((r3 : Nat) : Int)), (9, 0)], [], h) := g_ent (k := 5) (by decide) (by decide +kernel) (Nat.le_of_ble_eq_true rfl) (by decide +kernel) rfl
theorem b_273_0 {Z : mZ} {l4 : mV} {x1 x2 : Int} {r3 r0 : Nat} {K : Nat → mK} {σ : Nat → Nat → Int} {n e s : Nat} (h0 : q_ob K n r0 6) : m_run Z (273, 0, [(2, ((r0 : Nat) : Int)), (0, x1), (0, x2), (2, ((r3 : Nat) : Int)), l4], [], (K, σ, n, e, s)) = (m_cl Z 118 [(2, ((r0 : Nat) : Int)), (0, x1), (0, x2)] (K, σ, n, e, s)).bind (m_aft (m_run Z) 273 5 [(2, ((r0 : Nat) : Int)), (0, x1), (0, x2), (2, ((r3 : Nat) : Int)), l4] [(0, 0), (2, ((r3 : Nat) : Int))]) := by
  refine g_aload_n (k := 3) (v := (2, ((r3 : Nat) : Int))) (by decide +kernel : decode (m_byt 273) 0 = .ok (.aload_n 3, 1)) rfl (Or.inl rfl) ?_
  refine g_base (by decide +kernel : decode (m_byt 273) 1 = .ok (.iconst 0, 1)) rfl rfl ?_
  show m_run Z (273, 2, [(2, ((r0 : Nat) : Int)), (0, x1), (0, x2), (2, ((r3 : Nat) : Int)), l4], [(0, 0), (2, ((r3 : Nat) : Int))], (K, σ, n, e, s)) = _
  refine g_aload_n (k := 0) (v := (2, ((r0 : Nat) : Int))) (by decide +kernel : decode (m_byt 273) 2 = .ok (.aload_n 0, 1)) rfl (Or.inl rfl) ?_
  refine g_iload_n (k := 1) (x := x1) (by decide +kernel : decode (m_byt 273) 3 = .ok (.iload_n 1, 1)) rfl ?_
  refine g_iload_n (k := 2) (x := x2) (by decide +kernel : decode (m_byt 273) 4 = .ok (.iload_n 2, 1)) rfl ?_
  exact g_inv (k := 1) (m' := 118) (np := 2) (as := [(2, ((r0 : Nat) : Int)), (0, x1), (0, x2)]) (by decide +kernel : decode (m_byt 273) 5 = .ok (.invokevirtual 87, 3)) (Or.inl ⟨rfl, rfl⟩) (by decide +kernel) (by decide +kernel) (by decide +kernel) (Nat.le_of_ble_eq_true rfl) rfl (Or.inr (g_rcv (by decide +kernel) h0))
theorem b_273_8 {Z : mZ} {l0 l1 l2 l3 l4 : mV} {s0 s1 : Int} {s2 : Nat} {K : Nat → mK} {σ : Nat → Nat → Int} {n e s : Nat} (h0 : 0 ≤ w32 s1) (h1 : w32 s1 < (q_ln K s2 : Int)) (h2 : q_ak K n s2 3) : m_run Z (273, 8, [l0, l1, l2, l3, l4], [(0, s0), (0, s1), (2, ((s2 : Nat) : Int))], (K, σ, n, e, s)) = some (.inl (0, 0), (K, (m_up2 σ s2 (w32 s1).toNat (w32 s0)), n, e, s)) := by
  refine g_base (by decide +kernel : decode (m_byt 273) 8 = .ok (.i2l, 1)) rfl rfl ?_
  show m_run Z (273, 9, [l0, l1, l2, l3, l4], [(1, (w32 s0)), (0, s1), (2, ((s2 : Nat) : Int))], (K, σ, n, e, s)) = _
  refine g_last (by decide +kernel : decode (m_byt 273) 9 = .ok (.lastore, 1)) h2 h0 h1 ?_
  show m_run Z (273, 10, [l0, l1, l2, l3, l4], [], (K, (m_up2 σ s2 (w32 s1).toNat (w32 s0)), n, e, s)) = _
  refine g_jmp (t := 21) (by decide +kernel : decode (m_byt 273) 10 = .ok (.goto 11, 3)) (by decide) ?_
  refine g_base (by decide +kernel : decode (m_byt 273) 21 = .ok (.iconst 0, 1)) rfl rfl ?_
  show m_run Z (273, 22, [l0, l1, l2, l3, l4], [(0, 0)], (K, (m_up2 σ s2 (w32 s1).toNat (w32 s0)), n, e, s)) = _
  exact g_iret (by decide +kernel : decode (m_byt 273) 22 = .ok (.ireturn, 1)) (by decide +kernel)
theorem b_273_15 {Z : mZ} {l0 l1 l2 l3 l4 : mV} {h : mH} : m_run Z (273, 15, [l0, l1, l2, l3, l4], [], h) = some (.inl (0, 1), h) := by
  refine g_base (by decide +kernel : decode (m_byt 273) 15 = .ok (.iconst 1, 1)) rfl rfl ?_
  show m_run Z (273, 16, [l0, l1, l2, l3, l4], [(0, 1)], h) = _
  exact g_iret (by decide +kernel : decode (m_byt 273) 16 = .ok (.ireturn, 1)) (by decide +kernel)
theorem b_273_19 {Z : mZ} {l0 l1 l2 l3 l4 : mV} {h : mH} : m_run Z (273, 19, [l0, l1, l2, l3, l4], [], h) = some (.inl (0, 2), h) := by
  refine g_base (by decide +kernel : decode (m_byt 273) 19 = .ok (.iconst 2, 1)) rfl rfl ?_
  show m_run Z (273, 20, [l0, l1, l2, l3, l4], [(0, 2)], h) = _
  exact g_iret (by decide +kernel : decode (m_byt 273) 20 = .ok (.ireturn, 1)) (by decide +kernel)
theorem b_273_21 {Z : mZ} {l0 l1 l2 l3 l4 : mV} {h : mH} : m_run Z (273, 21, [l0, l1, l2, l3, l4], [], h) = some (.inl (0, 0), h) := by
  refine g_base (by decide +kernel : decode (m_byt 273) 21 = .ok (.iconst 0, 1)) rfl rfl ?_
  show m_run Z (273, 22, [l0, l1, l2, l3, l4], [(0, 0)], h) = _
  exact g_iret (by decide +kernel : decode (m_byt 273) 22 = .ok (.ireturn, 1)) (by decide +kernel)
theorem e_274 {Z : mZ} {r0 : Nat} {x1 : Int} {x2 : Int} {r3 : Nat} {h : mH} : m_cl Z 274 [(2, ((r0 : Nat) : Int)), (0, x1), (0, x2), (2, ((r3 : Nat) : Int))] h = m_run Z (274, 0, [(2, ((r0 : Nat) : Int)), (0, x1), (0, x2), (2, ((r3 : Nat) : Int)), (9, 0)], [], h) := g_ent (k := 5) (by decide) (by decide +kernel) (Nat.le_of_ble_eq_true rfl) (by decide +kernel) rfl
theorem b_274_0 {Z : mZ} {l4 : mV} {x1 x2 : Int} {r3 r0 : Nat} {K : Nat → mK} {σ : Nat → Nat → Int} {n e s : Nat} (h0 : q_ob K n r0 6) : m_run Z (274, 0, [(2, ((r0 : Nat) : Int)), (0, x1), (0, x2), (2, ((r3 : Nat) : Int)), l4], [], (K, σ, n, e, s)) = (m_cl Z 119 [(2, ((r0 : Nat) : Int)), (0, x1), (0, x2)] (K, σ, n, e, s)).bind (m_aft (m_run Z) 274 5 [(2, ((r0 : Nat) : Int)), (0, x1), (0, x2), (2, ((r3 : Nat) : Int)), l4] [(0, 0), (2, ((r3 : Nat) : Int))]) := by
  refine g_aload_n (k := 3) (v := (2, ((r3 : Nat) : Int))) (by decide +kernel : decode (m_byt 274) 0 = .ok (.aload_n 3, 1)) rfl (Or.inl rfl) ?_
  refine g_base (by decide +kernel : decode (m_byt 274) 1 = .ok (.iconst 0, 1)) rfl rfl ?_
  show m_run Z (274, 2, [(2, ((r0 : Nat) : Int)), (0, x1), (0, x2), (2, ((r3 : Nat) : Int)), l4], [(0, 0), (2, ((r3 : Nat) : Int))], (K, σ, n, e, s)) = _
  refine g_aload_n (k := 0) (v := (2, ((r0 : Nat) : Int))) (by decide +kernel : decode (m_byt 274) 2 = .ok (.aload_n 0, 1)) rfl (Or.inl rfl) ?_
  refine g_iload_n (k := 1) (x := x1) (by decide +kernel : decode (m_byt 274) 3 = .ok (.iload_n 1, 1)) rfl ?_
  refine g_iload_n (k := 2) (x := x2) (by decide +kernel : decode (m_byt 274) 4 = .ok (.iload_n 2, 1)) rfl ?_
  exact g_inv (k := 1) (m' := 119) (np := 2) (as := [(2, ((r0 : Nat) : Int)), (0, x1), (0, x2)]) (by decide +kernel : decode (m_byt 274) 5 = .ok (.invokevirtual 90, 3)) (Or.inl ⟨rfl, rfl⟩) (by decide +kernel) (by decide +kernel) (by decide +kernel) (Nat.le_of_ble_eq_true rfl) rfl (Or.inr (g_rcv (by decide +kernel) h0))
theorem b_274_8 {Z : mZ} {l0 l1 l2 l3 l4 : mV} {s0 s1 : Int} {s2 : Nat} {K : Nat → mK} {σ : Nat → Nat → Int} {n e s : Nat} (h0 : 0 ≤ w32 s1) (h1 : w32 s1 < (q_ln K s2 : Int)) (h2 : q_ak K n s2 3) : m_run Z (274, 8, [l0, l1, l2, l3, l4], [(0, s0), (0, s1), (2, ((s2 : Nat) : Int))], (K, σ, n, e, s)) = some (.inl (0, 0), (K, (m_up2 σ s2 (w32 s1).toNat (w32 s0)), n, e, s)) := by
  refine g_base (by decide +kernel : decode (m_byt 274) 8 = .ok (.i2l, 1)) rfl rfl ?_
  show m_run Z (274, 9, [l0, l1, l2, l3, l4], [(1, (w32 s0)), (0, s1), (2, ((s2 : Nat) : Int))], (K, σ, n, e, s)) = _
  refine g_last (by decide +kernel : decode (m_byt 274) 9 = .ok (.lastore, 1)) h2 h0 h1 ?_
  show m_run Z (274, 10, [l0, l1, l2, l3, l4], [], (K, (m_up2 σ s2 (w32 s1).toNat (w32 s0)), n, e, s)) = _
  refine g_jmp (t := 21) (by decide +kernel : decode (m_byt 274) 10 = .ok (.goto 11, 3)) (by decide) ?_
  refine g_base (by decide +kernel : decode (m_byt 274) 21 = .ok (.iconst 0, 1)) rfl rfl ?_
  show m_run Z (274, 22, [l0, l1, l2, l3, l4], [(0, 0)], (K, (m_up2 σ s2 (w32 s1).toNat (w32 s0)), n, e, s)) = _
  exact g_iret (by decide +kernel : decode (m_byt 274) 22 = .ok (.ireturn, 1)) (by decide +kernel)
theorem b_274_15 {Z : mZ} {l0 l1 l2 l3 l4 : mV} {h : mH} : m_run Z (274, 15, [l0, l1, l2, l3, l4], [], h) = some (.inl (0, 1), h) := by
  refine g_base (by decide +kernel : decode (m_byt 274) 15 = .ok (.iconst 1, 1)) rfl rfl ?_
  show m_run Z (274, 16, [l0, l1, l2, l3, l4], [(0, 1)], h) = _
  exact g_iret (by decide +kernel : decode (m_byt 274) 16 = .ok (.ireturn, 1)) (by decide +kernel)
theorem b_274_19 {Z : mZ} {l0 l1 l2 l3 l4 : mV} {h : mH} : m_run Z (274, 19, [l0, l1, l2, l3, l4], [], h) = some (.inl (0, 2), h) := by
  refine g_base (by decide +kernel : decode (m_byt 274) 19 = .ok (.iconst 2, 1)) rfl rfl ?_
  show m_run Z (274, 20, [l0, l1, l2, l3, l4], [(0, 2)], h) = _
  exact g_iret (by decide +kernel : decode (m_byt 274) 20 = .ok (.ireturn, 1)) (by decide +kernel)
theorem b_274_21 {Z : mZ} {l0 l1 l2 l3 l4 : mV} {h : mH} : m_run Z (274, 21, [l0, l1, l2, l3, l4], [], h) = some (.inl (0, 0), h) := by
  refine g_base (by decide +kernel : decode (m_byt 274) 21 = .ok (.iconst 0, 1)) rfl rfl ?_
  show m_run Z (274, 22, [l0, l1, l2, l3, l4], [(0, 0)], h) = _
  exact g_iret (by decide +kernel : decode (m_byt 274) 22 = .ok (.ireturn, 1)) (by decide +kernel)
theorem e_275 {Z : mZ} {r0 : Nat} {x1 : Int} {x2 : Int} {r3 : Nat} {h : mH} : m_cl Z 275 [(2, ((r0 : Nat) : Int)), (0, x1), (0, x2), (2, ((r3 : Nat) : Int))] h = m_run Z (275, 0, [(2, ((r0 : Nat) : Int)), (0, x1), (0, x2), (2, ((r3 : Nat) : Int)), (9, 0)], [], h) := g_ent (k := 5) (by decide) (by decide +kernel) (Nat.le_of_ble_eq_true rfl) (by decide +kernel) rfl
theorem b_275_0 {Z : mZ} {l4 : mV} {x1 x2 : Int} {r3 r0 : Nat} {K : Nat → mK} {σ : Nat → Nat → Int} {n e s : Nat} (h0 : q_ob K n r0 6) : m_run Z (275, 0, [(2, ((r0 : Nat) : Int)), (0, x1), (0, x2), (2, ((r3 : Nat) : Int)), l4], [], (K, σ, n, e, s)) = (m_cl Z 120 [(2, ((r0 : Nat) : Int)), (0, x1), (0, x2)] (K, σ, n, e, s)).bind (m_aft (m_run Z) 275 5 [(2, ((r0 : Nat) : Int)), (0, x1), (0, x2), (2, ((r3 : Nat) : Int)), l4] [(0, 0), (2, ((r3 : Nat) : Int))]) := by
  refine g_aload_n (k := 3) (v := (2, ((r3 : Nat) : Int))) (by decide +kernel : decode (m_byt 275) 0 = .ok (.aload_n 3, 1)) rfl (Or.inl rfl) ?_
  refine g_base (by decide +kernel : decode (m_byt 275) 1 = .ok (.iconst 0, 1)) rfl rfl ?_
  show m_run Z (275, 2, [(2, ((r0 : Nat) : Int)), (0, x1), (0, x2), (2, ((r3 : Nat) : Int)), l4], [(0, 0), (2, ((r3 : Nat) : Int))], (K, σ, n, e, s)) = _
  refine g_aload_n (k := 0) (v := (2, ((r0 : Nat) : Int))) (by decide +kernel : decode (m_byt 275) 2 = .ok (.aload_n 0, 1)) rfl (Or.inl rfl) ?_
  refine g_iload_n (k := 1) (x := x1) (by decide +kernel : decode (m_byt 275) 3 = .ok (.iload_n 1, 1)) rfl ?_
  refine g_iload_n (k := 2) (x := x2) (by decide +kernel : decode (m_byt 275) 4 = .ok (.iload_n 2, 1)) rfl ?_
  exact g_inv (k := 1) (m' := 120) (np := 2) (as := [(2, ((r0 : Nat) : Int)), (0, x1), (0, x2)]) (by decide +kernel : decode (m_byt 275) 5 = .ok (.invokevirtual 93, 3)) (Or.inl ⟨rfl, rfl⟩) (by decide +kernel) (by decide +kernel) (by decide +kernel) (Nat.le_of_ble_eq_true rfl) rfl (Or.inr (g_rcv (by decide +kernel) h0))
theorem b_275_8 {Z : mZ} {l0 l1 l2 l3 l4 : mV} {s0 s1 : Int} {s2 : Nat} {K : Nat → mK} {σ : Nat → Nat → Int} {n e s : Nat} (h0 : 0 ≤ w32 s1) (h1 : w32 s1 < (q_ln K s2 : Int)) (h2 : q_ak K n s2 3) : m_run Z (275, 8, [l0, l1, l2, l3, l4], [(0, s0), (0, s1), (2, ((s2 : Nat) : Int))], (K, σ, n, e, s)) = some (.inl (0, 0), (K, (m_up2 σ s2 (w32 s1).toNat (w32 s0)), n, e, s)) := by
  refine g_base (by decide +kernel : decode (m_byt 275) 8 = .ok (.i2l, 1)) rfl rfl ?_
  show m_run Z (275, 9, [l0, l1, l2, l3, l4], [(1, (w32 s0)), (0, s1), (2, ((s2 : Nat) : Int))], (K, σ, n, e, s)) = _
  refine g_last (by decide +kernel : decode (m_byt 275) 9 = .ok (.lastore, 1)) h2 h0 h1 ?_
  show m_run Z (275, 10, [l0, l1, l2, l3, l4], [], (K, (m_up2 σ s2 (w32 s1).toNat (w32 s0)), n, e, s)) = _
  refine g_jmp (t := 21) (by decide +kernel : decode (m_byt 275) 10 = .ok (.goto 11, 3)) (by decide) ?_
  refine g_base (by decide +kernel : decode (m_byt 275) 21 = .ok (.iconst 0, 1)) rfl rfl ?_
  show m_run Z (275, 22, [l0, l1, l2, l3, l4], [(0, 0)], (K, (m_up2 σ s2 (w32 s1).toNat (w32 s0)), n, e, s)) = _
  exact g_iret (by decide +kernel : decode (m_byt 275) 22 = .ok (.ireturn, 1)) (by decide +kernel)
theorem b_275_15 {Z : mZ} {l0 l1 l2 l3 l4 : mV} {h : mH} : m_run Z (275, 15, [l0, l1, l2, l3, l4], [], h) = some (.inl (0, 1), h) := by
  refine g_base (by decide +kernel : decode (m_byt 275) 15 = .ok (.iconst 1, 1)) rfl rfl ?_
  show m_run Z (275, 16, [l0, l1, l2, l3, l4], [(0, 1)], h) = _
  exact g_iret (by decide +kernel : decode (m_byt 275) 16 = .ok (.ireturn, 1)) (by decide +kernel)
theorem b_275_19 {Z : mZ} {l0 l1 l2 l3 l4 : mV} {h : mH} : m_run Z (275, 19, [l0, l1, l2, l3, l4], [], h) = some (.inl (0, 2), h) := by
  refine g_base (by decide +kernel : decode (m_byt 275) 19 = .ok (.iconst 2, 1)) rfl rfl ?_
  show m_run Z (275, 20, [l0, l1, l2, l3, l4], [(0, 2)], h) = _
  exact g_iret (by decide +kernel : decode (m_byt 275) 20 = .ok (.ireturn, 1)) (by decide +kernel)
theorem b_275_21 {Z : mZ} {l0 l1 l2 l3 l4 : mV} {h : mH} : m_run Z (275, 21, [l0, l1, l2, l3, l4], [], h) = some (.inl (0, 0), h) := by
  refine g_base (by decide +kernel : decode (m_byt 275) 21 = .ok (.iconst 0, 1)) rfl rfl ?_
  show m_run Z (275, 22, [l0, l1, l2, l3, l4], [(0, 0)], h) = _
  exact g_iret (by decide +kernel : decode (m_byt 275) 22 = .ok (.ireturn, 1)) (by decide +kernel)
theorem e_276 {Z : mZ} {r0 : Nat} {x1 : Int} {x2 : Int} {x3 : Int} {r4 : Nat} {h : mH} : m_cl Z 276 [(2, ((r0 : Nat) : Int)), (0, x1), (0, x2), (0, x3), (2, ((r4 : Nat) : Int))] h = m_run Z (276, 0, [(2, ((r0 : Nat) : Int)), (0, x1), (0, x2), (0, x3), (2, ((r4 : Nat) : Int)), (9, 0)], [], h) := g_ent (k := 6) (by decide) (by decide +kernel) (Nat.le_of_ble_eq_true rfl) (by decide +kernel) rfl
theorem b_276_0 {Z : mZ} {l5 : mV} {x1 x2 x3 : Int} {r4 r0 : Nat} {K : Nat → mK} {σ : Nat → Nat → Int} {n e s : Nat} (h0 : q_ob K n r0 6) : m_run Z (276, 0, [(2, ((r0 : Nat) : Int)), (0, x1), (0, x2), (0, x3), (2, ((r4 : Nat) : Int)), l5], [], (K, σ, n, e, s)) = (m_cl Z 121 [(2, ((r0 : Nat) : Int)), (0, x1), (0, x2), (0, x3)] (K, σ, n, e, s)).bind (m_aft (m_run Z) 276 7 [(2, ((r0 : Nat) : Int)), (0, x1), (0, x2), (0, x3), (2, ((r4 : Nat) : Int)), l5] [(0, 0), (2, ((r4 : Nat) : Int))]) := by
  refine g_aload (k := 4) (v := (2, ((r4 : Nat) : Int))) (by decide +kernel : decode (m_byt 276) 0 = .ok (.aload 4, 2)) rfl (Or.inl rfl) ?_
  refine g_base (by decide +kernel : decode (m_byt 276) 2 = .ok (.iconst 0, 1)) rfl rfl ?_
  show m_run Z (276, 3, [(2, ((r0 : Nat) : Int)), (0, x1), (0, x2), (0, x3), (2, ((r4 : Nat) : Int)), l5], [(0, 0), (2, ((r4 : Nat) : Int))], (K, σ, n, e, s)) = _
  refine g_aload_n (k := 0) (v := (2, ((r0 : Nat) : Int))) (by decide +kernel : decode (m_byt 276) 3 = .ok (.aload_n 0, 1)) rfl (Or.inl rfl) ?_
  refine g_iload_n (k := 1) (x := x1) (by decide +kernel : decode (m_byt 276) 4 = .ok (.iload_n 1, 1)) rfl ?_
  refine g_iload_n (k := 2) (x := x2) (by decide +kernel : decode (m_byt 276) 5 = .ok (.iload_n 2, 1)) rfl ?_
  refine g_iload_n (k := 3) (x := x3) (by decide +kernel : decode (m_byt 276) 6 = .ok (.iload_n 3, 1)) rfl ?_
  exact g_inv (k := 1) (m' := 121) (np := 3) (as := [(2, ((r0 : Nat) : Int)), (0, x1), (0, x2), (0, x3)]) (by decide +kernel : decode (m_byt 276) 7 = .ok (.invokevirtual 96, 3)) (Or.inl ⟨rfl, rfl⟩) (by decide +kernel) (by decide +kernel) (by decide +kernel) (Nat.le_of_ble_eq_true rfl) rfl (Or.inr (g_rcv (by decide +kernel) h0))
theorem b_276_10 {Z : mZ} {l0 l1 l2 l3 l4 l5 : mV} {s0 s1 : Int} {s2 : Nat} {K : Nat → mK} {σ : Nat → Nat → Int} {n e s : Nat} (h0 : 0 ≤ w32 s1) (h1 : w32 s1 < (q_ln K s2 : Int)) (h2 : q_ak K n s2 3) : m_run Z (276, 10, [l0, l1, l2, l3, l4, l5], [(0, s0), (0, s1), (2, ((s2 : Nat) : Int))], (K, σ, n, e, s)) = some (.inl (0, 0), (K, (m_up2 σ s2 (w32 s1).toNat (w32 s0)), n, e, s)) := by
  refine g_base (by decide +kernel : decode (m_byt 276) 10 = .ok (.i2l, 1)) rfl rfl ?_
  show m_run Z (276, 11, [l0, l1, l2, l3, l4, l5], [(1, (w32 s0)), (0, s1), (2, ((s2 : Nat) : Int))], (K, σ, n, e, s)) = _
  refine g_last (by decide +kernel : decode (m_byt 276) 11 = .ok (.lastore, 1)) h2 h0 h1 ?_
  show m_run Z (276, 12, [l0, l1, l2, l3, l4, l5], [], (K, (m_up2 σ s2 (w32 s1).toNat (w32 s0)), n, e, s)) = _
  refine g_jmp (t := 27) (by decide +kernel : decode (m_byt 276) 12 = .ok (.goto 15, 3)) (by decide) ?_
  refine g_base (by decide +kernel : decode (m_byt 276) 27 = .ok (.iconst 0, 1)) rfl rfl ?_
  show m_run Z (276, 28, [l0, l1, l2, l3, l4, l5], [(0, 0)], (K, (m_up2 σ s2 (w32 s1).toNat (w32 s0)), n, e, s)) = _
  exact g_iret (by decide +kernel : decode (m_byt 276) 28 = .ok (.ireturn, 1)) (by decide +kernel)
theorem b_276_17 {Z : mZ} {l0 l1 l2 l3 l4 l5 : mV} {h : mH} : m_run Z (276, 17, [l0, l1, l2, l3, l4, l5], [], h) = some (.inl (0, 1), h) := by
  refine g_base (by decide +kernel : decode (m_byt 276) 17 = .ok (.iconst 1, 1)) rfl rfl ?_
  show m_run Z (276, 18, [l0, l1, l2, l3, l4, l5], [(0, 1)], h) = _
  exact g_iret (by decide +kernel : decode (m_byt 276) 18 = .ok (.ireturn, 1)) (by decide +kernel)
theorem b_276_21 {Z : mZ} {l0 l1 l2 l3 l4 l5 : mV} {h : mH} : m_run Z (276, 21, [l0, l1, l2, l3, l4, l5], [], h) = some (.inl (0, 2), h) := by
  refine g_base (by decide +kernel : decode (m_byt 276) 21 = .ok (.iconst 2, 1)) rfl rfl ?_
  show m_run Z (276, 22, [l0, l1, l2, l3, l4, l5], [(0, 2)], h) = _
  exact g_iret (by decide +kernel : decode (m_byt 276) 22 = .ok (.ireturn, 1)) (by decide +kernel)
theorem b_276_25 {Z : mZ} {l0 l1 l2 l3 l4 l5 : mV} {h : mH} : m_run Z (276, 25, [l0, l1, l2, l3, l4, l5], [], h) = some (.inl (0, 3), h) := by
  refine g_base (by decide +kernel : decode (m_byt 276) 25 = .ok (.iconst 3, 1)) rfl rfl ?_
  show m_run Z (276, 26, [l0, l1, l2, l3, l4, l5], [(0, 3)], h) = _
  exact g_iret (by decide +kernel : decode (m_byt 276) 26 = .ok (.ireturn, 1)) (by decide +kernel)
theorem b_276_27 {Z : mZ} {l0 l1 l2 l3 l4 l5 : mV} {h : mH} : m_run Z (276, 27, [l0, l1, l2, l3, l4, l5], [], h) = some (.inl (0, 0), h) := by
  refine g_base (by decide +kernel : decode (m_byt 276) 27 = .ok (.iconst 0, 1)) rfl rfl ?_
  show m_run Z (276, 28, [l0, l1, l2, l3, l4, l5], [(0, 0)], h) = _
  exact g_iret (by decide +kernel : decode (m_byt 276) 28 = .ok (.ireturn, 1)) (by decide +kernel)
theorem e_277 {Z : mZ} {r0 : Nat} {x1 : Int} {x2 : Int} {r3 : Nat} {h : mH} : m_cl Z 277 [(2, ((r0 : Nat) : Int)), (0, x1), (0, x2), (2, ((r3 : Nat) : Int))] h = m_run Z (277, 0, [(2, ((r0 : Nat) : Int)), (0, x1), (0, x2), (2, ((r3 : Nat) : Int)), (9, 0)], [], h) := g_ent (k := 5) (by decide) (by decide +kernel) (Nat.le_of_ble_eq_true rfl) (by decide +kernel) rfl
theorem b_277_0 {Z : mZ} {l4 : mV} {x1 x2 : Int} {r3 r0 : Nat} {K : Nat → mK} {σ : Nat → Nat → Int} {n e s : Nat} (h0 : q_ob K n r0 6) : m_run Z (277, 0, [(2, ((r0 : Nat) : Int)), (0, x1), (0, x2), (2, ((r3 : Nat) : Int)), l4], [], (K, σ, n, e, s)) = (m_cl Z 122 [(2, ((r0 : Nat) : Int)), (0, x1), (0, x2)] (K, σ, n, e, s)).bind (m_aft (m_run Z) 277 5 [(2, ((r0 : Nat) : Int)), (0, x1), (0, x2), (2, ((r3 : Nat) : Int)), l4] [(0, 0), (2, ((r3 : Nat) : Int))]) := by
  refine g_aload_n (k := 3) (v := (2, ((r3 : Nat) : Int))) (by decide +kernel : decode (m_byt 277) 0 = .ok (.aload_n 3, 1)) rfl (Or.inl rfl) ?_
  refine g_base (by decide +kernel : decode (m_byt 277) 1 = .ok (.iconst 0, 1)) rfl rfl ?_
  show m_run Z (277, 2, [(2, ((r0 : Nat) : Int)), (0, x1), (0, x2), (2, ((r3 : Nat) : Int)), l4], [(0, 0), (2, ((r3 : Nat) : Int))], (K, σ, n, e, s)) = _
  refine g_aload_n (k := 0) (v := (2, ((r0 : Nat) : Int))) (by decide +kernel : decode (m_byt 277) 2 = .ok (.aload_n 0, 1)) rfl (Or.inl rfl) ?_
  refine g_iload_n (k := 1) (x := x1) (by decide +kernel : decode (m_byt 277) 3 = .ok (.iload_n 1, 1)) rfl ?_
  refine g_iload_n (k := 2) (x := x2) (by decide +kernel : decode (m_byt 277) 4 = .ok (.iload_n 2, 1)) rfl ?_
  exact g_inv (k := 1) (m' := 122) (np := 2) (as := [(2, ((r0 : Nat) : Int)), (0, x1), (0, x2)]) (by decide +kernel : decode (m_byt 277) 5 = .ok (.invokevirtual 99, 3)) (Or.inl ⟨rfl, rfl⟩) (by decide +kernel) (by decide +kernel) (by decide +kernel) (Nat.le_of_ble_eq_true rfl) rfl (Or.inr (g_rcv (by decide +kernel) h0))
theorem b_277_8 {Z : mZ} {l0 l1 l2 l3 l4 : mV} {s0 s1 : Int} {s2 : Nat} {K : Nat → mK} {σ : Nat → Nat → Int} {n e s : Nat} (h0 : 0 ≤ w32 s1) (h1 : w32 s1 < (q_ln K s2 : Int)) (h2 : q_ak K n s2 3) : m_run Z (277, 8, [l0, l1, l2, l3, l4], [(0, s0), (0, s1), (2, ((s2 : Nat) : Int))], (K, σ, n, e, s)) = some (.inl (0, 0), (K, (m_up2 σ s2 (w32 s1).toNat (w32 s0)), n, e, s)) := by
  refine g_base (by decide +kernel : decode (m_byt 277) 8 = .ok (.i2l, 1)) rfl rfl ?_
  show m_run Z (277, 9, [l0, l1, l2, l3, l4], [(1, (w32 s0)), (0, s1), (2, ((s2 : Nat) : Int))], (K, σ, n, e, s)) = _
  refine g_last (by decide +kernel : decode (m_byt 277) 9 = .ok (.lastore, 1)) h2 h0 h1 ?_
  show m_run Z (277, 10, [l0, l1, l2, l3, l4], [], (K, (m_up2 σ s2 (w32 s1).toNat (w32 s0)), n, e, s)) = _
  refine g_jmp (t := 21) (by decide +kernel : decode (m_byt 277) 10 = .ok (.goto 11, 3)) (by decide) ?_
  refine g_base (by decide +kernel : decode (m_byt 277) 21 = .ok (.iconst 0, 1)) rfl rfl ?_
  show m_run Z (277, 22, [l0, l1, l2, l3, l4], [(0, 0)], (K, (m_up2 σ s2 (w32 s1).toNat (w32 s0)), n, e, s)) = _
  exact g_iret (by decide +kernel : decode (m_byt 277) 22 = .ok (.ireturn, 1)) (by decide +kernel)
theorem b_277_15 {Z : mZ} {l0 l1 l2 l3 l4 : mV} {h : mH} : m_run Z (277, 15, [l0, l1, l2, l3, l4], [], h) = some (.inl (0, 1), h) := by
  refine g_base (by decide +kernel : decode (m_byt 277) 15 = .ok (.iconst 1, 1)) rfl rfl ?_
  show m_run Z (277, 16, [l0, l1, l2, l3, l4], [(0, 1)], h) = _
  exact g_iret (by decide +kernel : decode (m_byt 277) 16 = .ok (.ireturn, 1)) (by decide +kernel)
theorem b_277_19 {Z : mZ} {l0 l1 l2 l3 l4 : mV} {h : mH} : m_run Z (277, 19, [l0, l1, l2, l3, l4], [], h) = some (.inl (0, 2), h) := by
  refine g_base (by decide +kernel : decode (m_byt 277) 19 = .ok (.iconst 2, 1)) rfl rfl ?_
  show m_run Z (277, 20, [l0, l1, l2, l3, l4], [(0, 2)], h) = _
  exact g_iret (by decide +kernel : decode (m_byt 277) 20 = .ok (.ireturn, 1)) (by decide +kernel)
theorem b_277_21 {Z : mZ} {l0 l1 l2 l3 l4 : mV} {h : mH} : m_run Z (277, 21, [l0, l1, l2, l3, l4], [], h) = some (.inl (0, 0), h) := by
  refine g_base (by decide +kernel : decode (m_byt 277) 21 = .ok (.iconst 0, 1)) rfl rfl ?_
  show m_run Z (277, 22, [l0, l1, l2, l3, l4], [(0, 0)], h) = _
  exact g_iret (by decide +kernel : decode (m_byt 277) 22 = .ok (.ireturn, 1)) (by decide +kernel)
theorem e_278 {Z : mZ} {r0 : Nat} {x1 : Int} {x2 : Int} {r3 : Nat} {h : mH} : m_cl Z 278 [(2, ((r0 : Nat) : Int)), (0, x1), (0, x2), (2, ((r3 : Nat) : Int))] h = m_run Z (278, 0, [(2, ((r0 : Nat) : Int)), (0, x1), (0, x2), (2, ((r3 : Nat) : Int)), (9, 0)], [], h) := g_ent (k := 5) (by decide) (by decide +kernel) (Nat.le_of_ble_eq_true rfl) (by decide +kernel) rfl
theorem b_278_0 {Z : mZ} {l4 : mV} {x1 x2 : Int} {r3 r0 : Nat} {K : Nat → mK} {σ : Nat → Nat → Int} {n e s : Nat} (h0 : q_ob K n r0 6) : m_run Z (278, 0, [(2, ((r0 : Nat) : Int)), (0, x1), (0, x2), (2, ((r3 : Nat) : Int)), l4], [], (K, σ, n, e, s)) = (m_cl Z 123 [(2, ((r0 : Nat) : Int)), (0, x1), (0, x2)] (K, σ, n, e, s)).bind (m_aft (m_run Z) 278 5 [(2, ((r0 : Nat) : Int)), (0, x1), (0, x2), (2, ((r3 : Nat) : Int)), l4] [(0, 0), (2, ((r3 : Nat) : Int))]) := by
  refine g_aload_n (k := 3) (v := (2, ((r3 : Nat) : Int))) (by decide +kernel : decode (m_byt 278) 0 = .ok (.aload_n 3, 1)) rfl (Or.inl rfl) ?_
  refine g_base (by decide +kernel : decode (m_byt 278) 1 = .ok (.iconst 0, 1)) rfl rfl ?_
  show m_run Z (278, 2, [(2, ((r0 : Nat) : Int)), (0, x1), (0, x2), (2, ((r3 : Nat) : Int)), l4], [(0, 0), (2, ((r3 : Nat) : Int))], (K, σ, n, e, s)) = _
  refine g_aload_n (k := 0) (v := (2, ((r0 : Nat) : Int))) (by decide +kernel : decode (m_byt 278) 2 = .ok (.aload_n 0, 1)) rfl (Or.inl rfl) ?_
  refine g_iload_n (k := 1) (x := x1) (by decide +kernel : decode (m_byt 278) 3 = .ok (.iload_n 1, 1)) rfl ?_
  refine g_iload_n (k := 2) (x := x2) (by decide +kernel : decode (m_byt 278) 4 = .ok (.iload_n 2, 1)) rfl ?_
  exact g_inv (k := 1) (m' := 123) (np := 2) (as := [(2, ((r0 : Nat) : Int)), (0, x1), (0, x2)]) (by decide +kernel : decode (m_byt 278) 5 = .ok (.invokevirtual 102, 3)) (Or.inl ⟨rfl, rfl⟩) (by decide +kernel) (by decide +kernel) (by decide +kernel) (Nat.le_of_ble_eq_true rfl) rfl (Or.inr (g_rcv (by decide +kernel) h0))
theorem b_278_8 {Z : mZ} {l0 l1 l2 l3 l4 : mV} {s0 s1 : Int} {s2 : Nat} {K : Nat → mK} {σ : Nat → Nat → Int} {n e s : Nat} (h0 : 0 ≤ w32 s1) (h1 : w32 s1 < (q_ln K s2 : Int)) (h2 : q_ak K n s2 3) : m_run Z (278, 8, [l0, l1, l2, l3, l4], [(0, s0), (0, s1), (2, ((s2 : Nat) : Int))], (K, σ, n, e, s)) = some (.inl (0, 0), (K, (m_up2 σ s2 (w32 s1).toNat (w32 s0)), n, e, s)) := by
  refine g_base (by decide +kernel : decode (m_byt 278) 8 = .ok (.i2l, 1)) rfl rfl ?_
  show m_run Z (278, 9, [l0, l1, l2, l3, l4], [(1, (w32 s0)), (0, s1), (2, ((s2 : Nat) : Int))], (K, σ, n, e, s)) = _
  refine g_last (by decide +kernel : decode (m_byt 278) 9 = .ok (.lastore, 1)) h2 h0 h1 ?_
  show m_run Z (278, 10, [l0, l1, l2, l3, l4], [], (K, (m_up2 σ s2 (w32 s1).toNat (w32 s0)), n, e, s)) = _
  refine g_jmp (t := 21) (by decide +kernel : decode (m_byt 278) 10 = .ok (.goto 11, 3)) (by decide) ?_
  refine g_base (by decide +kernel : decode (m_byt 278) 21 = .ok (.iconst 0, 1)) rfl rfl ?_
  show m_run Z (278, 22, [l0, l1, l2, l3, l4], [(0, 0)], (K, (m_up2 σ s2 (w32 s1).toNat (w32 s0)), n, e, s)) = _
  exact g_iret (by decide +kernel : decode (m_byt 278) 22 = .ok (.ireturn, 1)) (by decide +kernel)
theorem b_278_15 {Z : mZ} {l0 l1 l2 l3 l4 : mV} {h : mH} : m_run Z (278, 15, [l0, l1, l2, l3, l4], [], h) = some (.inl (0, 1), h) := by
  refine g_base (by decide +kernel : decode (m_byt 278) 15 = .ok (.iconst 1, 1)) rfl rfl ?_
  show m_run Z (278, 16, [l0, l1, l2, l3, l4], [(0, 1)], h) = _
  exact g_iret (by decide +kernel : decode (m_byt 278) 16 = .ok (.ireturn, 1)) (by decide +kernel)
theorem b_278_19 {Z : mZ} {l0 l1 l2 l3 l4 : mV} {h : mH} : m_run Z (278, 19, [l0, l1, l2, l3, l4], [], h) = some (.inl (0, 2), h) := by
  refine g_base (by decide +kernel : decode (m_byt 278) 19 = .ok (.iconst 2, 1)) rfl rfl ?_
  show m_run Z (278, 20, [l0, l1, l2, l3, l4], [(0, 2)], h) = _
  exact g_iret (by decide +kernel : decode (m_byt 278) 20 = .ok (.ireturn, 1)) (by decide +kernel)
theorem b_278_21 {Z : mZ} {l0 l1 l2 l3 l4 : mV} {h : mH} : m_run Z (278, 21, [l0, l1, l2, l3, l4], [], h) = some (.inl (0, 0), h) := by
  refine g_base (by decide +kernel : decode (m_byt 278) 21 = .ok (.iconst 0, 1)) rfl rfl ?_
  show m_run Z (278, 22, [l0, l1, l2, l3, l4], [(0, 0)], h) = _
  exact g_iret (by decide +kernel : decode (m_byt 278) 22 = .ok (.ireturn, 1)) (by decide +kernel)
theorem e_279 {Z : mZ} {r0 : Nat} {x1 : Int} {r2 : Nat} {h : mH} : m_cl Z 279 [(2, ((r0 : Nat) : Int)), (0, x1), (2, ((r2 : Nat) : Int))] h = m_run Z (279, 0, [(2, ((r0 : Nat) : Int)), (0, x1), (2, ((r2 : Nat) : Int)), (9, 0)], [], h) := g_ent (k := 4) (by decide) (by decide +kernel) (Nat.le_of_ble_eq_true rfl) (by decide +kernel) rfl
theorem b_279_0 {Z : mZ} {l3 : mV} {x1 : Int} {r2 r0 : Nat} {K : Nat → mK} {σ : Nat → Nat → Int} {n e s : Nat} (h0 : q_ob K n r0 6) : m_run Z (279, 0, [(2, ((r0 : Nat) : Int)), (0, x1), (2, ((r2 : Nat) : Int)), l3], [], (K, σ, n, e, s)) = (m_cl Z 124 [(2, ((r0 : Nat) : Int)), (0, x1)] (K, σ, n, e, s)).bind (m_aft (m_run Z) 279 4 [(2, ((r0 : Nat) : Int)), (0, x1), (2, ((r2 : Nat) : Int)), l3] [(0, 0), (2, ((r2 : Nat) : Int))]) := by
  refine g_aload_n (k := 2) (v := (2, ((r2 : Nat) : Int))) (by decide +kernel : decode (m_byt 279) 0 = .ok (.aload_n 2, 1)) rfl (Or.inl rfl) ?_
  refine g_base (by decide +kernel : decode (m_byt 279) 1 = .ok (.iconst 0, 1)) rfl rfl ?_
  show m_run Z (279, 2, [(2, ((r0 : Nat) : Int)), (0, x1), (2, ((r2 : Nat) : Int)), l3], [(0, 0), (2, ((r2 : Nat) : Int))], (K, σ, n, e, s)) = _
  refine g_aload_n (k := 0) (v := (2, ((r0 : Nat) : Int))) (by decide +kernel : decode (m_byt 279) 2 = .ok (.aload_n 0, 1)) rfl (Or.inl rfl) ?_
  refine g_iload_n (k := 1) (x := x1) (by decide +kernel : decode (m_byt 279) 3 = .ok (.iload_n 1, 1)) rfl ?_
  exact g_inv (k := 1) (m' := 124) (np := 1) (as := [(2, ((r0 : Nat) : Int)), (0, x1)]) (by decide +kernel : decode (m_byt 279) 4 = .ok (.invokevirtual 105, 3)) (Or.inl ⟨rfl, rfl⟩) (by decide +kernel) (by decide +kernel) (by decide +kernel) (Nat.le_of_ble_eq_true rfl) rfl (Or.inr (g_rcv (by decide +kernel) h0))
theorem b_279_7 {Z : mZ} {l0 l1 l2 l3 : mV} {s0 s1 : Int} {s2 : Nat} {K : Nat → mK} {σ : Nat → Nat → Int} {n e s : Nat} (h0 : 0 ≤ w32 s1) (h1 : w32 s1 < (q_ln K s2 : Int)) (h2 : q_ak K n s2 3) : m_run Z (279, 7, [l0, l1, l2, l3], [(0, s0), (0, s1), (2, ((s2 : Nat) : Int))], (K, σ, n, e, s)) = some (.inl (0, 0), (K, (m_up2 σ s2 (w32 s1).toNat (w32 s0)), n, e, s)) := by
  refine g_base (by decide +kernel : decode (m_byt 279) 7 = .ok (.i2l, 1)) rfl rfl ?_
  show m_run Z (279, 8, [l0, l1, l2, l3], [(1, (w32 s0)), (0, s1), (2, ((s2 : Nat) : Int))], (K, σ, n, e, s)) = _
  refine g_last (by decide +kernel : decode (m_byt 279) 8 = .ok (.lastore, 1)) h2 h0 h1 ?_
  show m_run Z (279, 9, [l0, l1, l2, l3], [], (K, (m_up2 σ s2 (w32 s1).toNat (w32 s0)), n, e, s)) = _
  refine g_jmp (t := 18) (by decide +kernel : decode (m_byt 279) 9 = .ok (.goto 9, 3)) (by decide) ?_
  refine g_base (by decide +kernel : decode (m_byt 279) 18 = .ok (.iconst 0, 1)) rfl rfl ?_
  show m_run Z (279, 19, [l0, l1, l2, l3], [(0, 0)], (K, (m_up2 σ s2 (w32 s1).toNat (w32 s0)), n, e, s)) = _
  exact g_iret (by decide +kernel : decode (m_byt 279) 19 = .ok (.ireturn, 1)) (by decide +kernel)
theorem b_279_13 {Z : mZ} {l0 l1 l2 l3 : mV} {h : mH} : m_run Z (279, 13, [l0, l1, l2, l3], [], h) = some (.inl (0, 1), h) := by
  refine g_base (by decide +kernel : decode (m_byt 279) 13 = .ok (.iconst 1, 1)) rfl rfl ?_
  show m_run Z (279, 14, [l0, l1, l2, l3], [(0, 1)], h) = _
  exact g_iret (by decide +kernel : decode (m_byt 279) 14 = .ok (.ireturn, 1)) (by decide +kernel)
theorem b_279_16 {Z : mZ} {l0 l1 l2 l3 : mV} {h : mH} : m_run Z (279, 16, [l0, l1, l2, l3], [], h) = some (.inl (0, 2), h) := by
  refine g_base (by decide +kernel : decode (m_byt 279) 16 = .ok (.iconst 2, 1)) rfl rfl ?_
  show m_run Z (279, 17, [l0, l1, l2, l3], [(0, 2)], h) = _
  exact g_iret (by decide +kernel : decode (m_byt 279) 17 = .ok (.ireturn, 1)) (by decide +kernel)
theorem b_279_18 {Z : mZ} {l0 l1 l2 l3 : mV} {h : mH} : m_run Z (279, 18, [l0, l1, l2, l3], [], h) = some (.inl (0, 0), h) := by
  refine g_base (by decide +kernel : decode (m_byt 279) 18 = .ok (.iconst 0, 1)) rfl rfl ?_
  show m_run Z (279, 19, [l0, l1, l2, l3], [(0, 0)], h) = _
  exact g_iret (by decide +kernel : decode (m_byt 279) 19 = .ok (.ireturn, 1)) (by decide +kernel)
theorem e_280 {Z : mZ} {r0 : Nat} {r1 : Nat} {h : mH} : m_cl Z 280 [(2, ((r0 : Nat) : Int)), (2, ((r1 : Nat) : Int))] h = m_run Z (280, 0, [(2, ((r0 : Nat) : Int)), (2, ((r1 : Nat) : Int)), (9, 0)], [], h) := g_ent (k := 3) (by decide) (by decide +kernel) (Nat.le_of_ble_eq_true rfl) (by decide +kernel) rfl
theorem b_280_0 {Z : mZ} {l2 : mV} {r1 r0 : Nat} {K : Nat → mK} {σ : Nat → Nat → Int} {n e s : Nat} (h0 : q_ob K n r0 6) : m_run Z (280, 0, [(2, ((r0 : Nat) : Int)), (2, ((r1 : Nat) : Int)), l2], [], (K, σ, n, e, s)) = (m_cl Z 127 [(2, ((r0 : Nat) : Int))] (K, σ, n, e, s)).bind (m_aft (m_run Z) 280 3 [(2, ((r0 : Nat) : Int)), (2, ((r1 : Nat) : Int)), l2] [(0, 0), (2, ((r1 : Nat) : Int))]) := by
  refine g_aload_n (k := 1) (v := (2, ((r1 : Nat) : Int))) (by decide +kernel : decode (m_byt 280) 0 = .ok (.aload_n 1, 1)) rfl (Or.inl rfl) ?_
  refine g_base (by decide +kernel : decode (m_byt 280) 1 = .ok (.iconst 0, 1)) rfl rfl ?_
  show m_run Z (280, 2, [(2, ((r0 : Nat) : Int)), (2, ((r1 : Nat) : Int)), l2], [(0, 0), (2, ((r1 : Nat) : Int))], (K, σ, n, e, s)) = _
  refine g_aload_n (k := 0) (v := (2, ((r0 : Nat) : Int))) (by decide +kernel : decode (m_byt 280) 2 = .ok (.aload_n 0, 1)) rfl (Or.inl rfl) ?_
  exact g_inv (k := 1) (m' := 127) (np := 0) (as := [(2, ((r0 : Nat) : Int))]) (by decide +kernel : decode (m_byt 280) 3 = .ok (.invokevirtual 108, 3)) (Or.inl ⟨rfl, rfl⟩) (by decide +kernel) (by decide +kernel) (by decide +kernel) (Nat.le_of_ble_eq_true rfl) rfl (Or.inr (g_rcv (by decide +kernel) h0))
theorem b_280_6 {Z : mZ} {l0 l1 l2 : mV} {s0 s1 : Int} {s2 : Nat} {K : Nat → mK} {σ : Nat → Nat → Int} {n e s : Nat} (h0 : 0 ≤ w32 s1) (h1 : w32 s1 < (q_ln K s2 : Int)) (h2 : q_ak K n s2 3) : m_run Z (280, 6, [l0, l1, l2], [(0, s0), (0, s1), (2, ((s2 : Nat) : Int))], (K, σ, n, e, s)) = some (.inl (0, 0), (K, (m_up2 σ s2 (w32 s1).toNat (w32 s0)), n, e, s)) := by
  refine g_base (by decide +kernel : decode (m_byt 280) 6 = .ok (.i2l, 1)) rfl rfl ?_
  show m_run Z (280, 7, [l0, l1, l2], [(1, (w32 s0)), (0, s1), (2, ((s2 : Nat) : Int))], (K, σ, n, e, s)) = _
  refine g_last (by decide +kernel : decode (m_byt 280) 7 = .ok (.lastore, 1)) h2 h0 h1 ?_
  show m_run Z (280, 8, [l0, l1, l2], [], (K, (m_up2 σ s2 (w32 s1).toNat (w32 s0)), n, e, s)) = _
  refine g_jmp (t := 14) (by decide +kernel : decode (m_byt 280) 8 = .ok (.goto 6, 3)) (by decide) ?_
  refine g_base (by decide +kernel : decode (m_byt 280) 14 = .ok (.iconst 0, 1)) rfl rfl ?_
  show m_run Z (280, 15, [l0, l1, l2], [(0, 0)], (K, (m_up2 σ s2 (w32 s1).toNat (w32 s0)), n, e, s)) = _
  exact g_iret (by decide +kernel : decode (m_byt 280) 15 = .ok (.ireturn, 1)) (by decide +kernel)
theorem b_280_12 {Z : mZ} {l0 l1 l2 : mV} {h : mH} : m_run Z (280, 12, [l0, l1, l2], [], h) = some (.inl (0, 1), h) := by
  refine g_base (by decide +kernel : decode (m_byt 280) 12 = .ok (.iconst 1, 1)) rfl rfl ?_
  show m_run Z (280, 13, [l0, l1, l2], [(0, 1)], h) = _
  exact g_iret (by decide +kernel : decode (m_byt 280) 13 = .ok (.ireturn, 1)) (by decide +kernel)
theorem b_280_14 {Z : mZ} {l0 l1 l2 : mV} {h : mH} : m_run Z (280, 14, [l0, l1, l2], [], h) = some (.inl (0, 0), h) := by
  refine g_base (by decide +kernel : decode (m_byt 280) 14 = .ok (.iconst 0, 1)) rfl rfl ?_
  show m_run Z (280, 15, [l0, l1, l2], [(0, 0)], h) = _
  exact g_iret (by decide +kernel : decode (m_byt 280) 15 = .ok (.ireturn, 1)) (by decide +kernel)
theorem e_281 {Z : mZ} {r0 : Nat} {r1 : Nat} {h : mH} : m_cl Z 281 [(2, ((r0 : Nat) : Int)), (2, ((r1 : Nat) : Int))] h = m_run Z (281, 0, [(2, ((r0 : Nat) : Int)), (2, ((r1 : Nat) : Int)), (9, 0)], [], h) := g_ent (k := 3) (by decide) (by decide +kernel) (Nat.le_of_ble_eq_true rfl) (by decide +kernel) rfl
theorem b_281_0 {Z : mZ} {l2 : mV} {r1 r0 : Nat} {K : Nat → mK} {σ : Nat → Nat → Int} {n e s : Nat} (h0 : q_ob K n r0 6) : m_run Z (281, 0, [(2, ((r0 : Nat) : Int)), (2, ((r1 : Nat) : Int)), l2], [], (K, σ, n, e, s)) = (m_cl Z 128 [(2, ((r0 : Nat) : Int))] (K, σ, n, e, s)).bind (m_aft (m_run Z) 281 3 [(2, ((r0 : Nat) : Int)), (2, ((r1 : Nat) : Int)), l2] [(0, 0), (2, ((r1 : Nat) : Int))]) := by
  refine g_aload_n (k := 1) (v := (2, ((r1 : Nat) : Int))) (by decide +kernel : decode (m_byt 281) 0 = .ok (.aload_n 1, 1)) rfl (Or.inl rfl) ?_
  refine g_base (by decide +kernel : decode (m_byt 281) 1 = .ok (.iconst 0, 1)) rfl rfl ?_
  show m_run Z (281, 2, [(2, ((r0 : Nat) : Int)), (2, ((r1 : Nat) : Int)), l2], [(0, 0), (2, ((r1 : Nat) : Int))], (K, σ, n, e, s)) = _
  refine g_aload_n (k := 0) (v := (2, ((r0 : Nat) : Int))) (by decide +kernel : decode (m_byt 281) 2 = .ok (.aload_n 0, 1)) rfl (Or.inl rfl) ?_
  exact g_inv (k := 1) (m' := 128) (np := 0) (as := [(2, ((r0 : Nat) : Int))]) (by decide +kernel : decode (m_byt 281) 3 = .ok (.invokevirtual 112, 3)) (Or.inl ⟨rfl, rfl⟩) (by decide +kernel) (by decide +kernel) (by decide +kernel) (Nat.le_of_ble_eq_true rfl) rfl (Or.inr (g_rcv (by decide +kernel) h0))
theorem b_281_6 {Z : mZ} {l0 l1 l2 : mV} {s0 s1 : Int} {s2 : Nat} {K : Nat → mK} {σ : Nat → Nat → Int} {n e s : Nat} (h0 : 0 ≤ w32 s1) (h1 : w32 s1 < (q_ln K s2 : Int)) (h2 : q_ak K n s2 3) : m_run Z (281, 6, [l0, l1, l2], [(0, s0), (0, s1), (2, ((s2 : Nat) : Int))], (K, σ, n, e, s)) = some (.inl (0, 0), (K, (m_up2 σ s2 (w32 s1).toNat (w32 s0)), n, e, s)) := by
  refine g_base (by decide +kernel : decode (m_byt 281) 6 = .ok (.i2l, 1)) rfl rfl ?_
  show m_run Z (281, 7, [l0, l1, l2], [(1, (w32 s0)), (0, s1), (2, ((s2 : Nat) : Int))], (K, σ, n, e, s)) = _
  refine g_last (by decide +kernel : decode (m_byt 281) 7 = .ok (.lastore, 1)) h2 h0 h1 ?_
  show m_run Z (281, 8, [l0, l1, l2], [], (K, (m_up2 σ s2 (w32 s1).toNat (w32 s0)), n, e, s)) = _
  refine g_jmp (t := 14) (by decide +kernel : decode (m_byt 281) 8 = .ok (.goto 6, 3)) (by decide) ?_
  refine g_base (by decide +kernel : decode (m_byt 281) 14 = .ok (.iconst 0, 1)) rfl rfl ?_
  show m_run Z (281, 15, [l0, l1, l2], [(0, 0)], (K, (m_up2 σ s2 (w32 s1).toNat (w32 s0)), n, e, s)) = _
  exact g_iret (by decide +kernel : decode (m_byt 281) 15 = .ok (.ireturn, 1)) (by decide +kernel)
theorem b_281_12 {Z : mZ} {l0 l1 l2 : mV} {h : mH} : m_run Z (281, 12, [l0, l1, l2], [], h) = some (.inl (0, 1), h) := by
  refine g_base (by decide +kernel : decode (m_byt 281) 12 = .ok (.iconst 1, 1)) rfl rfl ?_
  show m_run Z (281, 13, [l0, l1, l2], [(0, 1)], h) = _
  exact g_iret (by decide +kernel : decode (m_byt 281) 13 = .ok (.ireturn, 1)) (by decide +kernel)
theorem b_281_14 {Z : mZ} {l0 l1 l2 : mV} {h : mH} : m_run Z (281, 14, [l0, l1, l2], [], h) = some (.inl (0, 0), h) := by
  refine g_base (by decide +kernel : decode (m_byt 281) 14 = .ok (.iconst 0, 1)) rfl rfl ?_
  show m_run Z (281, 15, [l0, l1, l2], [(0, 0)], h) = _
  exact g_iret (by decide +kernel : decode (m_byt 281) 15 = .ok (.ireturn, 1)) (by decide +kernel)
end
