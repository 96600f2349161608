section
theorem e_273 {Z : mZ} {r0 : Nat} {h : mH} : m_cl Z 273 [(2, ((r0 : Nat) : Int))] h = m_run Z (273, 0, [(2, ((r0 : Nat) : Int)), (9, 0), (9, 0)], [], h) := g_ent (k := 3) (by decide) (by decide +kernel) (Nat.le_of_ble_eq_true rfl) (by decide +kernel) rfl
theorem b_273_0 {Z : mZ} {l1 l2 : mV} {r0 : Nat} {h : mH} : m_run Z (273, 0, [(2, ((r0 : Nat) : Int)), l1, l2], [], h) = (m_cl Z 252 [(2, ((r0 : Nat) : Int)), (0, 0), (0, 0)] h).bind (m_aft (m_run Z) 273 5 [(2, ((r0 : Nat) : Int)), l1, l2] [(0, 0), (2, ((r0 : Nat) : Int))]) := by
  refine g_aload_n (k := 0) (v := (2, ((r0 : Nat) : Int))) (by decide +kernel : decode (m_byt 273) 0 = .ok (.aload_n 0, 1)) rfl (Or.inl rfl) ?_
  refine g_base (by decide +kernel : decode (m_byt 273) 1 = .ok (.iconst 0, 1)) rfl rfl ?_
  show m_run Z (273, 2, [(2, ((r0 : Nat) : Int)), l1, l2], [(0, 0), (2, ((r0 : Nat) : Int))], h) = _
  refine g_aload_n (k := 0) (v := (2, ((r0 : Nat) : Int))) (by decide +kernel : decode (m_byt 273) 2 = .ok (.aload_n 0, 1)) rfl (Or.inl rfl) ?_
  refine g_base (by decide +kernel : decode (m_byt 273) 3 = .ok (.iconst 0, 1)) rfl rfl ?_
  show m_run Z (273, 4, [(2, ((r0 : Nat) : Int)), l1, l2], [(0, 0), (2, ((r0 : Nat) : Int)), (0, 0), (2, ((r0 : Nat) : Int))], h) = _
  refine g_base (by decide +kernel : decode (m_byt 273) 4 = .ok (.iconst 0, 1)) rfl rfl ?_
  show m_run Z (273, 5, [(2, ((r0 : Nat) : Int)), l1, l2], [(0, 0), (0, 0), (2, ((r0 : Nat) : Int)), (0, 0), (2, ((r0 : Nat) : Int))], h) = _
  exact g_inv (k := 0) (m' := 252) (np := 3) (as := [(2, ((r0 : Nat) : Int)), (0, 0), (0, 0)]) (by decide +kernel : decode (m_byt 273) 5 = .ok (.invokestatic 117, 3)) (Or.inr (Or.inr ⟨rfl, rfl, by decide, by decide⟩)) (by decide +kernel) (by decide +kernel) (by decide +kernel) (Nat.le_of_ble_eq_true rfl) rfl (Or.inl rfl)
theorem b_273_8 {Z : mZ} {l0 l1 l2 : mV} {s0 s1 : Int} {s2 : Nat} {h : mH} : m_run Z (273, 8, [l0, l1, l2], [(0, s0), (0, s1), (2, ((s2 : Nat) : Int))], h) = (m_cl Z 246 [(2, ((s2 : Nat) : Int)), (0, s1), (0, s0)] h).bind (m_aft (m_run Z) 273 8 [l0, l1, l2] []) := by
  exact g_inv (k := 0) (m' := 246) (np := 3) (as := [(2, ((s2 : Nat) : Int)), (0, s1), (0, s0)]) (by decide +kernel : decode (m_byt 273) 8 = .ok (.invokestatic 122, 3)) (Or.inr (Or.inr ⟨rfl, rfl, by decide, by decide⟩)) (by decide +kernel) (by decide +kernel) (by decide +kernel) (Nat.le_of_ble_eq_true rfl) rfl (Or.inl rfl)
theorem b_273_11 {Z : mZ} {l1 l2 : mV} {s0 : Int} {r0 : Nat} {h : mH} : m_run Z (273, 11, [(2, ((r0 : Nat) : Int)), l1, l2], [(0, s0)], h) = (m_cl Z 272 [(2, ((r0 : Nat) : Int))] h).bind (m_aft (m_run Z) 273 13 [(2, ((r0 : Nat) : Int)), (0, s0), l2] []) := by
  refine g_istore_n (k := 1) (by decide +kernel : decode (m_byt 273) 11 = .ok (.istore_n 1, 1)) (Nat.le_of_ble_eq_true rfl) ?_
  show m_run Z (273, 12, [(2, ((r0 : Nat) : Int)), (0, s0), l2], [], h) = _
  refine g_aload_n (k := 0) (v := (2, ((r0 : Nat) : Int))) (by decide +kernel : decode (m_byt 273) 12 = .ok (.aload_n 0, 1)) rfl (Or.inl rfl) ?_
  exact g_inv (k := 0) (m' := 272) (np := 1) (as := [(2, ((r0 : Nat) : Int))]) (by decide +kernel : decode (m_byt 273) 13 = .ok (.invokestatic 124, 3)) (Or.inr (Or.inr ⟨rfl, rfl, by decide, by decide⟩)) (by decide +kernel) (by decide +kernel) (by decide +kernel) (Nat.le_of_ble_eq_true rfl) rfl (Or.inl rfl)
theorem b_273_16 {Z : mZ} {l0 l2 : mV} {s0 x1 : Int} {h : mH} : m_run Z (273, 16, [l0, (0, x1), l2], [(0, s0)], h) = if w32 x1 < 0 then m_run Z (273, 35, [l0, (0, x1), (0, s0)], [], h) else m_run Z (273, 21, [l0, (0, x1), (0, s0)], [], h) := by
  refine g_istore_n (k := 2) (by decide +kernel : decode (m_byt 273) 16 = .ok (.istore_n 2, 1)) (Nat.le_of_ble_eq_true rfl) ?_
  show m_run Z (273, 17, [l0, (0, x1), (0, s0)], [], h) = _
  refine g_iload_n (k := 1) (x := x1) (by decide +kernel : decode (m_byt 273) 17 = .ok (.iload_n 1, 1)) rfl ?_
  exact g_brq (t := 35) (off := 17) (by decide +kernel : decode (m_byt 273) 18 = .ok (.ifCond .lt 17, 3)) rfl rfl (by decide)
theorem b_273_21 {Z : mZ} {l0 l1 : mV} {x2 : Int} {h : mH} : m_run Z (273, 21, [l0, l1, (0, x2)], [], h) = if w32 x2 < 0 then m_run Z (273, 35, [l0, l1, (0, x2)], [], h) else m_run Z (273, 25, [l0, l1, (0, x2)], [], h) := by
  refine g_iload_n (k := 2) (x := x2) (by decide +kernel : decode (m_byt 273) 21 = .ok (.iload_n 2, 1)) rfl ?_
  exact g_brq (t := 35) (off := 13) (by decide +kernel : decode (m_byt 273) 22 = .ok (.ifCond .lt 13, 3)) rfl rfl (by decide)
theorem b_273_25 {Z : mZ} {l1 l2 : mV} {r0 : Nat} {K : Nat → mK} {σ : Nat → Nat → Int} {n e s : Nat} (h0 : q_ob K n r0 6) : m_run Z (273, 25, [(2, ((r0 : Nat) : Int)), l1, l2], [], (K, σ, n, e, s)) = (m_cl Z 129 [(2, ((r0 : Nat) : Int))] (K, σ, n, e, s)).bind (m_aft (m_run Z) 273 26 [(2, ((r0 : Nat) : Int)), l1, l2] []) := by
  refine g_aload_n (k := 0) (v := (2, ((r0 : Nat) : Int))) (by decide +kernel : decode (m_byt 273) 25 = .ok (.aload_n 0, 1)) rfl (Or.inl rfl) ?_
  exact g_inv (k := 1) (m' := 129) (np := 0) (as := [(2, ((r0 : Nat) : Int))]) (by decide +kernel : decode (m_byt 273) 26 = .ok (.invokevirtual 127, 3)) (Or.inl ⟨rfl, rfl⟩) (by decide +kernel) (by decide +kernel) (by decide +kernel) (Nat.le_of_ble_eq_true rfl) rfl (Or.inr (g_rcv (by decide +kernel) h0))
theorem b_273_29 {Z : mZ} {l0 l1 : mV} {s0 x2 : Int} {h : mH} : m_run Z (273, 29, [l0, l1, (0, x2)], [(1, s0)], h) = some (.inl (1, (s0 - (w32 x2))), h) := by
  refine g_iload_n (k := 2) (x := x2) (by decide +kernel : decode (m_byt 273) 29 = .ok (.iload_n 2, 1)) rfl ?_
  refine g_base (by decide +kernel : decode (m_byt 273) 30 = .ok (.i2l, 1)) rfl rfl ?_
  show m_run Z (273, 31, [l0, l1, (0, x2)], [(1, (w32 x2)), (1, s0)], h) = _
  refine g_base (by decide +kernel : decode (m_byt 273) 31 = .ok (.lsub, 1)) rfl rfl ?_
  show m_run Z (273, 32, [l0, l1, (0, x2)], [(1, (s0 - (w32 x2)))], h) = _
  refine g_jmp (t := 36) (by decide +kernel : decode (m_byt 273) 32 = .ok (.goto 4, 3)) (by decide) ?_
  exact g_lret (by decide +kernel : decode (m_byt 273) 36 = .ok (.lreturn, 1)) (by decide +kernel)
theorem b_273_35 {Z : mZ} {l0 l1 l2 : mV} {h : mH} : m_run Z (273, 35, [l0, l1, l2], [], h) = m_run Z (273, 36, [l0, l1, l2], [(1, 0)], h) := by
  refine g_base (by decide +kernel : decode (m_byt 273) 35 = .ok (.lconst 0, 1)) rfl rfl ?_
  show m_run Z (273, 36, [l0, l1, l2], [(1, 0)], h) = _
  rfl
theorem b_273_36 {Z : mZ} {l0 l1 l2 : mV} {s0 : Int} {h : mH} : m_run Z (273, 36, [l0, l1, l2], [(1, s0)], h) = some (.inl (1, s0), h) := by
  exact g_lret (by decide +kernel : decode (m_byt 273) 36 = .ok (.lreturn, 1)) (by decide +kernel)
theorem e_274 {Z : mZ} {r0 : Nat} {h : mH} : m_cl Z 274 [(2, ((r0 : Nat) : Int))] h = m_run Z (274, 0, [(2, ((r0 : Nat) : Int)), (9, 0), (9, 0), (9, 0)], [], h) := g_ent (k := 4) (by decide) (by decide +kernel) (Nat.le_of_ble_eq_true rfl) (by decide +kernel) rfl
theorem b_274_0 {Z : mZ} {l1 l2 l3 : mV} {r0 : Nat} {h : mH} : m_run Z (274, 0, [(2, ((r0 : Nat) : Int)), l1, l2, l3], [], h) = (m_cl Z 273 [(2, ((r0 : Nat) : Int))] h).bind (m_aft (m_run Z) 274 1 [(2, ((r0 : Nat) : Int)), l1, l2, l3] []) := by
  refine g_aload_n (k := 0) (v := (2, ((r0 : Nat) : Int))) (by decide +kernel : decode (m_byt 274) 0 = .ok (.aload_n 0, 1)) rfl (Or.inl rfl) ?_
  exact g_inv (k := 0) (m' := 273) (np := 1) (as := [(2, ((r0 : Nat) : Int))]) (by decide +kernel : decode (m_byt 274) 1 = .ok (.invokestatic 131, 3)) (Or.inr (Or.inr ⟨rfl, rfl, by decide, by decide⟩)) (by decide +kernel) (by decide +kernel) (by decide +kernel) (Nat.le_of_ble_eq_true rfl) rfl (Or.inl rfl)
theorem b_274_4 {Z : mZ} {l1 l2 l3 : mV} {s0 : Int} {r0 : Nat} {h : mH} : m_run Z (274, 4, [(2, ((r0 : Nat) : Int)), l1, l2, l3], [(1, s0)], h) = (m_cl Z 243 [(2, ((r0 : Nat) : Int)), (0, 0)] h).bind (m_aft (m_run Z) 274 7 [(2, ((r0 : Nat) : Int)), (1, s0), (9, 0), l3] []) := by
  refine g_lstore_n (k := 1) (by decide +kernel : decode (m_byt 274) 4 = .ok (.lstore_n 1, 1)) (Nat.le_of_ble_eq_true rfl) ?_
  show m_run Z (274, 5, [(2, ((r0 : Nat) : Int)), (1, s0), (9, 0), l3], [], h) = _
  refine g_aload_n (k := 0) (v := (2, ((r0 : Nat) : Int))) (by decide +kernel : decode (m_byt 274) 5 = .ok (.aload_n 0, 1)) rfl (Or.inl rfl) ?_
  refine g_base (by decide +kernel : decode (m_byt 274) 6 = .ok (.iconst 0, 1)) rfl rfl ?_
  show m_run Z (274, 7, [(2, ((r0 : Nat) : Int)), (1, s0), (9, 0), l3], [(0, 0), (2, ((r0 : Nat) : Int))], h) = _
  exact g_inv (k := 0) (m' := 243) (np := 2) (as := [(2, ((r0 : Nat) : Int)), (0, 0)]) (by decide +kernel : decode (m_byt 274) 7 = .ok (.invokestatic 135, 3)) (Or.inr (Or.inr ⟨rfl, rfl, by decide, by decide⟩)) (by decide +kernel) (by decide +kernel) (by decide +kernel) (Nat.le_of_ble_eq_true rfl) rfl (Or.inl rfl)
theorem b_274_10 {Z : mZ} {l0 l1 l2 l3 : mV} {s0 : Int} {h : mH} : m_run Z (274, 10, [l0, l1, l2, l3], [(0, s0)], h) = if w32 s0 = w32 (-51) then m_run Z (274, 15, [l0, l1, l2, l3], [], h) else m_run Z (274, 170, [l0, l1, l2, l3], [], h) := by
  refine g_base (by decide +kernel : decode (m_byt 274) 10 = .ok (.bipush (-51), 2)) rfl rfl ?_
  show m_run Z (274, 12, [l0, l1, l2, l3], [(0, (-51)), (0, s0)], h) = _
  exact g_brn (t := 170) (off := 158) (by decide +kernel : decode (m_byt 274) 12 = .ok (.if_icmp .ne 158, 3)) rfl rfl (by decide)
theorem b_274_15 {Z : mZ} {l1 l2 l3 : mV} {r0 : Nat} {h : mH} : m_run Z (274, 15, [(2, ((r0 : Nat) : Int)), l1, l2, l3], [], h) = (m_cl Z 243 [(2, ((r0 : Nat) : Int)), (0, 9)] h).bind (m_aft (m_run Z) 274 18 [(2, ((r0 : Nat) : Int)), l1, l2, l3] []) := by
  refine g_aload_n (k := 0) (v := (2, ((r0 : Nat) : Int))) (by decide +kernel : decode (m_byt 274) 15 = .ok (.aload_n 0, 1)) rfl (Or.inl rfl) ?_
  refine g_base (by decide +kernel : decode (m_byt 274) 16 = .ok (.bipush 9, 2)) rfl rfl ?_
  show m_run Z (274, 18, [(2, ((r0 : Nat) : Int)), l1, l2, l3], [(0, 9), (2, ((r0 : Nat) : Int))], h) = _
  exact g_inv (k := 0) (m' := 243) (np := 2) (as := [(2, ((r0 : Nat) : Int)), (0, 9)]) (by decide +kernel : decode (m_byt 274) 18 = .ok (.invokestatic 135, 3)) (Or.inr (Or.inr ⟨rfl, rfl, by decide, by decide⟩)) (by decide +kernel) (by decide +kernel) (by decide +kernel) (Nat.le_of_ble_eq_true rfl) rfl (Or.inl rfl)
theorem b_274_21 {Z : mZ} {l0 l1 l2 l3 : mV} {s0 : Int} {h : mH} : m_run Z (274, 21, [l0, l1, l2, l3], [(0, s0)], h) = if w32 s0 = w32 (-51) then m_run Z (274, 26, [l0, l1, l2, l3], [], h) else m_run Z (274, 170, [l0, l1, l2, l3], [], h) := by
  refine g_base (by decide +kernel : decode (m_byt 274) 21 = .ok (.bipush (-51), 2)) rfl rfl ?_
  show m_run Z (274, 23, [l0, l1, l2, l3], [(0, (-51)), (0, s0)], h) = _
  exact g_brn (t := 170) (off := 147) (by decide +kernel : decode (m_byt 274) 23 = .ok (.if_icmp .ne 147, 3)) rfl rfl (by decide)
theorem b_274_26 {Z : mZ} {l1 l2 l3 : mV} {r0 : Nat} {h : mH} : m_run Z (274, 26, [(2, ((r0 : Nat) : Int)), l1, l2, l3], [], h) = (m_cl Z 244 [(2, ((r0 : Nat) : Int)), (0, 0), (0, 8), (0, 0)] h).bind (m_aft (m_run Z) 274 31 [(2, ((r0 : Nat) : Int)), l1, l2, l3] []) := by
  refine g_aload_n (k := 0) (v := (2, ((r0 : Nat) : Int))) (by decide +kernel : decode (m_byt 274) 26 = .ok (.aload_n 0, 1)) rfl (Or.inl rfl) ?_
  refine g_base (by decide +kernel : decode (m_byt 274) 27 = .ok (.iconst 0, 1)) rfl rfl ?_
  show m_run Z (274, 28, [(2, ((r0 : Nat) : Int)), l1, l2, l3], [(0, 0), (2, ((r0 : Nat) : Int))], h) = _
  refine g_base (by decide +kernel : decode (m_byt 274) 28 = .ok (.bipush 8, 2)) rfl rfl ?_
  show m_run Z (274, 30, [(2, ((r0 : Nat) : Int)), l1, l2, l3], [(0, 8), (0, 0), (2, ((r0 : Nat) : Int))], h) = _
  refine g_base (by decide +kernel : decode (m_byt 274) 30 = .ok (.iconst 0, 1)) rfl rfl ?_
  show m_run Z (274, 31, [(2, ((r0 : Nat) : Int)), l1, l2, l3], [(0, 0), (0, 8), (0, 0), (2, ((r0 : Nat) : Int))], h) = _
  exact g_inv (k := 0) (m' := 244) (np := 4) (as := [(2, ((r0 : Nat) : Int)), (0, 0), (0, 8), (0, 0)]) (by decide +kernel : decode (m_byt 274) 31 = .ok (.invokestatic 138, 3)) (Or.inr (Or.inr ⟨rfl, rfl, by decide, by decide⟩)) (by decide +kernel) (by decide +kernel) (by decide +kernel) (Nat.le_of_ble_eq_true rfl) rfl (Or.inl rfl)
theorem b_274_34 {Z : mZ} {l0 l1 l2 l3 : mV} {s0 : Int} {h : mH} : m_run Z (274, 34, [l0, l1, l2, l3], [(0, s0)], h) = if w32 s0 = w32 (-53) then m_run Z (274, 39, [l0, l1, l2, l3], [], h) else m_run Z (274, 170, [l0, l1, l2, l3], [], h) := by
  refine g_base (by decide +kernel : decode (m_byt 274) 34 = .ok (.bipush (-53), 2)) rfl rfl ?_
  show m_run Z (274, 36, [l0, l1, l2, l3], [(0, (-53)), (0, s0)], h) = _
  exact g_brn (t := 170) (off := 134) (by decide +kernel : decode (m_byt 274) 36 = .ok (.if_icmp .ne 134, 3)) rfl rfl (by decide)
theorem b_274_39 {Z : mZ} {l1 l2 l3 : mV} {r0 : Nat} {h : mH} : m_run Z (274, 39, [(2, ((r0 : Nat) : Int)), l1, l2, l3], [], h) = (m_cl Z 244 [(2, ((r0 : Nat) : Int)), (0, 0), (0, 0), (0, 5)] h).bind (m_aft (m_run Z) 274 43 [(2, ((r0 : Nat) : Int)), l1, l2, l3] []) := by
  refine g_aload_n (k := 0) (v := (2, ((r0 : Nat) : Int))) (by decide +kernel : decode (m_byt 274) 39 = .ok (.aload_n 0, 1)) rfl (Or.inl rfl) ?_
  refine g_base (by decide +kernel : decode (m_byt 274) 40 = .ok (.iconst 0, 1)) rfl rfl ?_
  show m_run Z (274, 41, [(2, ((r0 : Nat) : Int)), l1, l2, l3], [(0, 0), (2, ((r0 : Nat) : Int))], h) = _
  refine g_base (by decide +kernel : decode (m_byt 274) 41 = .ok (.iconst 0, 1)) rfl rfl ?_
  show m_run Z (274, 42, [(2, ((r0 : Nat) : Int)), l1, l2, l3], [(0, 0), (0, 0), (2, ((r0 : Nat) : Int))], h) = _
  refine g_base (by decide +kernel : decode (m_byt 274) 42 = .ok (.iconst 5, 1)) rfl rfl ?_
  show m_run Z (274, 43, [(2, ((r0 : Nat) : Int)), l1, l2, l3], [(0, 5), (0, 0), (0, 0), (2, ((r0 : Nat) : Int))], h) = _
  exact g_inv (k := 0) (m' := 244) (np := 4) (as := [(2, ((r0 : Nat) : Int)), (0, 0), (0, 0), (0, 5)]) (by decide +kernel : decode (m_byt 274) 43 = .ok (.invokestatic 138, 3)) (Or.inr (Or.inr ⟨rfl, rfl, by decide, by decide⟩)) (by decide +kernel) (by decide +kernel) (by decide +kernel) (Nat.le_of_ble_eq_true rfl) rfl (Or.inl rfl)
theorem b_274_46 {Z : mZ} {l0 l1 l2 l3 : mV} {s0 : Int} {h : mH} : m_run Z (274, 46, [l0, l1, l2, l3], [(0, s0)], h) = if w32 s0 = w32 (-51) then m_run Z (274, 51, [l0, l1, l2, l3], [], h) else m_run Z (274, 170, [l0, l1, l2, l3], [], h) := by
  refine g_base (by decide +kernel : decode (m_byt 274) 46 = .ok (.bipush (-51), 2)) rfl rfl ?_
  show m_run Z (274, 48, [l0, l1, l2, l3], [(0, (-51)), (0, s0)], h) = _
  exact g_brn (t := 170) (off := 122) (by decide +kernel : decode (m_byt 274) 48 = .ok (.if_icmp .ne 122, 3)) rfl rfl (by decide)
theorem b_274_51 {Z : mZ} {l1 l2 l3 : mV} {r0 : Nat} {h : mH} : m_run Z (274, 51, [(2, ((r0 : Nat) : Int)), l1, l2, l3], [], h) = (m_cl Z 245 [(2, ((r0 : Nat) : Int)), (0, 12)] h).bind (m_aft (m_run Z) 274 54 [(2, ((r0 : Nat) : Int)), l1, l2, l3] []) := by
  refine g_aload_n (k := 0) (v := (2, ((r0 : Nat) : Int))) (by decide +kernel : decode (m_byt 274) 51 = .ok (.aload_n 0, 1)) rfl (Or.inl rfl) ?_
  refine g_base (by decide +kernel : decode (m_byt 274) 52 = .ok (.bipush 12, 2)) rfl rfl ?_
  show m_run Z (274, 54, [(2, ((r0 : Nat) : Int)), l1, l2, l3], [(0, 12), (2, ((r0 : Nat) : Int))], h) = _
  exact g_inv (k := 0) (m' := 245) (np := 2) (as := [(2, ((r0 : Nat) : Int)), (0, 12)]) (by decide +kernel : decode (m_byt 274) 54 = .ok (.invokestatic 141, 3)) (Or.inr (Or.inr ⟨rfl, rfl, by decide, by decide⟩)) (by decide +kernel) (by decide +kernel) (by decide +kernel) (Nat.le_of_ble_eq_true rfl) rfl (Or.inl rfl)
theorem b_274_57 {Z : mZ} {l0 l1 l2 l3 : mV} {s0 : Int} {h : mH} : m_run Z (274, 57, [l0, l1, l2, l3], [(0, s0)], h) = if w32 s0 = w32 (-53) then m_run Z (274, 62, [l0, l1, l2, l3], [], h) else m_run Z (274, 170, [l0, l1, l2, l3], [], h) := by
  refine g_base (by decide +kernel : decode (m_byt 274) 57 = .ok (.bipush (-53), 2)) rfl rfl ?_
  show m_run Z (274, 59, [l0, l1, l2, l3], [(0, (-53)), (0, s0)], h) = _
  exact g_brn (t := 170) (off := 111) (by decide +kernel : decode (m_byt 274) 59 = .ok (.if_icmp .ne 111, 3)) rfl rfl (by decide)
theorem b_274_62 {Z : mZ} {l1 l2 l3 : mV} {r0 : Nat} {h : mH} : m_run Z (274, 62, [(2, ((r0 : Nat) : Int)), l1, l2, l3], [], h) = (m_cl Z 246 [(2, ((r0 : Nat) : Int)), (0, 8), (0, 10)] h).bind (m_aft (m_run Z) 274 67 [(2, ((r0 : Nat) : Int)), l1, l2, l3] []) := by
  refine g_aload_n (k := 0) (v := (2, ((r0 : Nat) : Int))) (by decide +kernel : decode (m_byt 274) 62 = .ok (.aload_n 0, 1)) rfl (Or.inl rfl) ?_
  refine g_base (by decide +kernel : decode (m_byt 274) 63 = .ok (.bipush 8, 2)) rfl rfl ?_
  show m_run Z (274, 65, [(2, ((r0 : Nat) : Int)), l1, l2, l3], [(0, 8), (2, ((r0 : Nat) : Int))], h) = _
  refine g_base (by decide +kernel : decode (m_byt 274) 65 = .ok (.bipush 10, 2)) rfl rfl ?_
  show m_run Z (274, 67, [(2, ((r0 : Nat) : Int)), l1, l2, l3], [(0, 10), (0, 8), (2, ((r0 : Nat) : Int))], h) = _
  exact g_inv (k := 0) (m' := 246) (np := 3) (as := [(2, ((r0 : Nat) : Int)), (0, 8), (0, 10)]) (by decide +kernel : decode (m_byt 274) 67 = .ok (.invokestatic 122, 3)) (Or.inr (Or.inr ⟨rfl, rfl, by decide, by decide⟩)) (by decide +kernel) (by decide +kernel) (by decide +kernel) (Nat.le_of_ble_eq_true rfl) rfl (Or.inl rfl)
theorem b_274_70 {Z : mZ} {l0 l1 l2 l3 : mV} {s0 : Int} {h : mH} : m_run Z (274, 70, [l0, l1, l2, l3], [(0, s0)], h) = if w32 s0 = w32 (-53) then m_run Z (274, 75, [l0, l1, l2, l3], [], h) else m_run Z (274, 170, [l0, l1, l2, l3], [], h) := by
  refine g_base (by decide +kernel : decode (m_byt 274) 70 = .ok (.bipush (-53), 2)) rfl rfl ?_
  show m_run Z (274, 72, [l0, l1, l2, l3], [(0, (-53)), (0, s0)], h) = _
  exact g_brn (t := 170) (off := 98) (by decide +kernel : decode (m_byt 274) 72 = .ok (.if_icmp .ne 98, 3)) rfl rfl (by decide)
theorem b_274_75 {Z : mZ} {l1 l2 l3 : mV} {r0 : Nat} {h : mH} : m_run Z (274, 75, [(2, ((r0 : Nat) : Int)), l1, l2, l3], [], h) = (m_cl Z 246 [(2, ((r0 : Nat) : Int)), (0, 0), (0, 10)] h).bind (m_aft (m_run Z) 274 79 [(2, ((r0 : Nat) : Int)), l1, l2, l3] []) := by
  refine g_aload_n (k := 0) (v := (2, ((r0 : Nat) : Int))) (by decide +kernel : decode (m_byt 274) 75 = .ok (.aload_n 0, 1)) rfl (Or.inl rfl) ?_
  refine g_base (by decide +kernel : decode (m_byt 274) 76 = .ok (.iconst 0, 1)) rfl rfl ?_
  show m_run Z (274, 77, [(2, ((r0 : Nat) : Int)), l1, l2, l3], [(0, 0), (2, ((r0 : Nat) : Int))], h) = _
  refine g_base (by decide +kernel : decode (m_byt 274) 77 = .ok (.bipush 10, 2)) rfl rfl ?_
  show m_run Z (274, 79, [(2, ((r0 : Nat) : Int)), l1, l2, l3], [(0, 10), (0, 0), (2, ((r0 : Nat) : Int))], h) = _
  exact g_inv (k := 0) (m' := 246) (np := 3) (as := [(2, ((r0 : Nat) : Int)), (0, 0), (0, 10)]) (by decide +kernel : decode (m_byt 274) 79 = .ok (.invokestatic 122, 3)) (Or.inr (Or.inr ⟨rfl, rfl, by decide, by decide⟩)) (by decide +kernel) (by decide +kernel) (by decide +kernel) (Nat.le_of_ble_eq_true rfl) rfl (Or.inl rfl)
theorem b_274_82 {Z : mZ} {l0 l1 l2 l3 : mV} {s0 : Int} {h : mH} : m_run Z (274, 82, [l0, l1, l2, l3], [(0, s0)], h) = if w32 s0 = w32 (-51) then m_run Z (274, 87, [l0, l1, l2, l3], [], h) else m_run Z (274, 170, [l0, l1, l2, l3], [], h) := by
  refine g_base (by decide +kernel : decode (m_byt 274) 82 = .ok (.bipush (-51), 2)) rfl rfl ?_
  show m_run Z (274, 84, [l0, l1, l2, l3], [(0, (-51)), (0, s0)], h) = _
  exact g_brn (t := 170) (off := 86) (by decide +kernel : decode (m_byt 274) 84 = .ok (.if_icmp .ne 86, 3)) rfl rfl (by decide)
theorem b_274_87 {Z : mZ} {l1 l2 l3 : mV} {r0 : Nat} {h : mH} : m_run Z (274, 87, [(2, ((r0 : Nat) : Int)), l1, l2, l3], [], h) = (m_cl Z 247 [(2, ((r0 : Nat) : Int)), (0, 0), (0, (-1))] h).bind (m_aft (m_run Z) 274 90 [(2, ((r0 : Nat) : Int)), l1, l2, l3] []) := by
  refine g_aload_n (k := 0) (v := (2, ((r0 : Nat) : Int))) (by decide +kernel : decode (m_byt 274) 87 = .ok (.aload_n 0, 1)) rfl (Or.inl rfl) ?_
  refine g_base (by decide +kernel : decode (m_byt 274) 88 = .ok (.iconst 0, 1)) rfl rfl ?_
  show m_run Z (274, 89, [(2, ((r0 : Nat) : Int)), l1, l2, l3], [(0, 0), (2, ((r0 : Nat) : Int))], h) = _
  refine g_base (by decide +kernel : decode (m_byt 274) 89 = .ok (.iconst (-1), 1)) rfl rfl ?_
  show m_run Z (274, 90, [(2, ((r0 : Nat) : Int)), l1, l2, l3], [(0, (-1)), (0, 0), (2, ((r0 : Nat) : Int))], h) = _
  exact g_inv (k := 0) (m' := 247) (np := 3) (as := [(2, ((r0 : Nat) : Int)), (0, 0), (0, (-1))]) (by decide +kernel : decode (m_byt 274) 90 = .ok (.invokestatic 143, 3)) (Or.inr (Or.inr ⟨rfl, rfl, by decide, by decide⟩)) (by decide +kernel) (by decide +kernel) (by decide +kernel) (Nat.le_of_ble_eq_true rfl) rfl (Or.inl rfl)
theorem b_274_93 {Z : mZ} {l0 l1 l2 l3 : mV} {s0 : Int} {h : mH} : m_run Z (274, 93, [l0, l1, l2, l3], [(0, s0)], h) = if w32 s0 = w32 (-51) then m_run Z (274, 98, [l0, l1, l2, l3], [], h) else m_run Z (274, 170, [l0, l1, l2, l3], [], h) := by
  refine g_base (by decide +kernel : decode (m_byt 274) 93 = .ok (.bipush (-51), 2)) rfl rfl ?_
  show m_run Z (274, 95, [l0, l1, l2, l3], [(0, (-51)), (0, s0)], h) = _
  exact g_brn (t := 170) (off := 75) (by decide +kernel : decode (m_byt 274) 95 = .ok (.if_icmp .ne 75, 3)) rfl rfl (by decide)
theorem b_274_98 {Z : mZ} {l1 l2 l3 : mV} {r0 : Nat} {h : mH} : m_run Z (274, 98, [(2, ((r0 : Nat) : Int)), l1, l2, l3], [], h) = (m_cl Z 248 [(2, ((r0 : Nat) : Int)), (0, 12), (0, 0), (0, 0)] h).bind (m_aft (m_run Z) 274 103 [(2, ((r0 : Nat) : Int)), l1, l2, l3] []) := by
  refine g_aload_n (k := 0) (v := (2, ((r0 : Nat) : Int))) (by decide +kernel : decode (m_byt 274) 98 = .ok (.aload_n 0, 1)) rfl (Or.inl rfl) ?_
  refine g_base (by decide +kernel : decode (m_byt 274) 99 = .ok (.bipush 12, 2)) rfl rfl ?_
  show m_run Z (274, 101, [(2, ((r0 : Nat) : Int)), l1, l2, l3], [(0, 12), (2, ((r0 : Nat) : Int))], h) = _
  refine g_base (by decide +kernel : decode (m_byt 274) 101 = .ok (.iconst 0, 1)) rfl rfl ?_
  show m_run Z (274, 102, [(2, ((r0 : Nat) : Int)), l1, l2, l3], [(0, 0), (0, 12), (2, ((r0 : Nat) : Int))], h) = _
  refine g_base (by decide +kernel : decode (m_byt 274) 102 = .ok (.iconst 0, 1)) rfl rfl ?_
  show m_run Z (274, 103, [(2, ((r0 : Nat) : Int)), l1, l2, l3], [(0, 0), (0, 0), (0, 12), (2, ((r0 : Nat) : Int))], h) = _
  exact g_inv (k := 0) (m' := 248) (np := 4) (as := [(2, ((r0 : Nat) : Int)), (0, 12), (0, 0), (0, 0)]) (by decide +kernel : decode (m_byt 274) 103 = .ok (.invokestatic 145, 3)) (Or.inr (Or.inr ⟨rfl, rfl, by decide, by decide⟩)) (by decide +kernel) (by decide +kernel) (by decide +kernel) (Nat.le_of_ble_eq_true rfl) rfl (Or.inl rfl)
theorem b_274_106 {Z : mZ} {l0 l1 l2 l3 : mV} {s0 : Int} {h : mH} : m_run Z (274, 106, [l0, l1, l2, l3], [(0, s0)], h) = if w32 s0 = w32 (-53) then m_run Z (274, 111, [l0, l1, l2, l3], [], h) else m_run Z (274, 170, [l0, l1, l2, l3], [], h) := by
  refine g_base (by decide +kernel : decode (m_byt 274) 106 = .ok (.bipush (-53), 2)) rfl rfl ?_
  show m_run Z (274, 108, [l0, l1, l2, l3], [(0, (-53)), (0, s0)], h) = _
  exact g_brn (t := 170) (off := 62) (by decide +kernel : decode (m_byt 274) 108 = .ok (.if_icmp .ne 62, 3)) rfl rfl (by decide)
theorem b_274_111 {Z : mZ} {l1 l2 l3 : mV} {r0 : Nat} {h : mH} : m_run Z (274, 111, [(2, ((r0 : Nat) : Int)), l1, l2, l3], [], h) = (m_cl Z 249 [(2, ((r0 : Nat) : Int)), (0, 6)] h).bind (m_aft (m_run Z) 274 114 [(2, ((r0 : Nat) : Int)), l1, l2, l3] []) := by
  refine g_aload_n (k := 0) (v := (2, ((r0 : Nat) : Int))) (by decide +kernel : decode (m_byt 274) 111 = .ok (.aload_n 0, 1)) rfl (Or.inl rfl) ?_
  refine g_base (by decide +kernel : decode (m_byt 274) 112 = .ok (.bipush 6, 2)) rfl rfl ?_
  show m_run Z (274, 114, [(2, ((r0 : Nat) : Int)), l1, l2, l3], [(0, 6), (2, ((r0 : Nat) : Int))], h) = _
  exact g_inv (k := 0) (m' := 249) (np := 2) (as := [(2, ((r0 : Nat) : Int)), (0, 6)]) (by decide +kernel : decode (m_byt 274) 114 = .ok (.invokestatic 147, 3)) (Or.inr (Or.inr ⟨rfl, rfl, by decide, by decide⟩)) (by decide +kernel) (by decide +kernel) (by decide +kernel) (Nat.le_of_ble_eq_true rfl) rfl (Or.inl rfl)
theorem b_274_117 {Z : mZ} {l0 l1 l2 l3 : mV} {s0 : Int} {h : mH} : m_run Z (274, 117, [l0, l1, l2, l3], [(0, s0)], h) = if w32 s0 = w32 (-53) then m_run Z (274, 122, [l0, l1, l2, l3], [], h) else m_run Z (274, 170, [l0, l1, l2, l3], [], h) := by
  refine g_base (by decide +kernel : decode (m_byt 274) 117 = .ok (.bipush (-53), 2)) rfl rfl ?_
  show m_run Z (274, 119, [l0, l1, l2, l3], [(0, (-53)), (0, s0)], h) = _
  exact g_brn (t := 170) (off := 51) (by decide +kernel : decode (m_byt 274) 119 = .ok (.if_icmp .ne 51, 3)) rfl rfl (by decide)
theorem b_274_122 {Z : mZ} {l1 l2 l3 : mV} {r0 : Nat} {h : mH} : m_run Z (274, 122, [(2, ((r0 : Nat) : Int)), l1, l2, l3], [], h) = (m_cl Z 250 [(2, ((r0 : Nat) : Int)), (0, 4)] h).bind (m_aft (m_run Z) 274 124 [(2, ((r0 : Nat) : Int)), l1, l2, l3] []) := by
  refine g_aload_n (k := 0) (v := (2, ((r0 : Nat) : Int))) (by decide +kernel : decode (m_byt 274) 122 = .ok (.aload_n 0, 1)) rfl (Or.inl rfl) ?_
  refine g_base (by decide +kernel : decode (m_byt 274) 123 = .ok (.iconst 4, 1)) rfl rfl ?_
  show m_run Z (274, 124, [(2, ((r0 : Nat) : Int)), l1, l2, l3], [(0, 4), (2, ((r0 : Nat) : Int))], h) = _
  exact g_inv (k := 0) (m' := 250) (np := 2) (as := [(2, ((r0 : Nat) : Int)), (0, 4)]) (by decide +kernel : decode (m_byt 274) 124 = .ok (.invokestatic 149, 3)) (Or.inr (Or.inr ⟨rfl, rfl, by decide, by decide⟩)) (by decide +kernel) (by decide +kernel) (by decide +kernel) (Nat.le_of_ble_eq_true rfl) rfl (Or.inl rfl)
theorem b_274_127 {Z : mZ} {l0 l1 l2 l3 : mV} {s0 : Int} {h : mH} : m_run Z (274, 127, [l0, l1, l2, l3], [(0, s0)], h) = if w32 s0 = w32 (-51) then m_run Z (274, 132, [l0, l1, l2, l3], [], h) else m_run Z (274, 170, [l0, l1, l2, l3], [], h) := by
  refine g_base (by decide +kernel : decode (m_byt 274) 127 = .ok (.bipush (-51), 2)) rfl rfl ?_
  show m_run Z (274, 129, [l0, l1, l2, l3], [(0, (-51)), (0, s0)], h) = _
  exact g_brn (t := 170) (off := 41) (by decide +kernel : decode (m_byt 274) 129 = .ok (.if_icmp .ne 41, 3)) rfl rfl (by decide)
theorem b_274_132 {Z : mZ} {l1 l2 l3 : mV} {r0 : Nat} {h : mH} : m_run Z (274, 132, [(2, ((r0 : Nat) : Int)), l1, l2, l3], [], h) = (m_cl Z 251 [(2, ((r0 : Nat) : Int)), (0, (-1)), (0, 3)] h).bind (m_aft (m_run Z) 274 135 [(2, ((r0 : Nat) : Int)), l1, l2, l3] []) := by
  refine g_aload_n (k := 0) (v := (2, ((r0 : Nat) : Int))) (by decide +kernel : decode (m_byt 274) 132 = .ok (.aload_n 0, 1)) rfl (Or.inl rfl) ?_
  refine g_base (by decide +kernel : decode (m_byt 274) 133 = .ok (.iconst (-1), 1)) rfl rfl ?_
  show m_run Z (274, 134, [(2, ((r0 : Nat) : Int)), l1, l2, l3], [(0, (-1)), (2, ((r0 : Nat) : Int))], h) = _
  refine g_base (by decide +kernel : decode (m_byt 274) 134 = .ok (.iconst 3, 1)) rfl rfl ?_
  show m_run Z (274, 135, [(2, ((r0 : Nat) : Int)), l1, l2, l3], [(0, 3), (0, (-1)), (2, ((r0 : Nat) : Int))], h) = _
  exact g_inv (k := 0) (m' := 251) (np := 3) (as := [(2, ((r0 : Nat) : Int)), (0, (-1)), (0, 3)]) (by decide +kernel : decode (m_byt 274) 135 = .ok (.invokestatic 151, 3)) (Or.inr (Or.inr ⟨rfl, rfl, by decide, by decide⟩)) (by decide +kernel) (by decide +kernel) (by decide +kernel) (Nat.le_of_ble_eq_true rfl) rfl (Or.inl rfl)
theorem b_274_138 {Z : mZ} {l0 l1 l2 l3 : mV} {s0 : Int} {h : mH} : m_run Z (274, 138, [l0, l1, l2, l3], [(0, s0)], h) = if w32 s0 = w32 (-53) then m_run Z (274, 143, [l0, l1, l2, l3], [], h) else m_run Z (274, 170, [l0, l1, l2, l3], [], h) := by
  refine g_base (by decide +kernel : decode (m_byt 274) 138 = .ok (.bipush (-53), 2)) rfl rfl ?_
  show m_run Z (274, 140, [l0, l1, l2, l3], [(0, (-53)), (0, s0)], h) = _
  exact g_brn (t := 170) (off := 30) (by decide +kernel : decode (m_byt 274) 140 = .ok (.if_icmp .ne 30, 3)) rfl rfl (by decide)
theorem b_274_143 {Z : mZ} {l1 l2 l3 : mV} {r0 : Nat} {h : mH} : m_run Z (274, 143, [(2, ((r0 : Nat) : Int)), l1, l2, l3], [], h) = (m_cl Z 252 [(2, ((r0 : Nat) : Int)), (0, 0), (0, 3)] h).bind (m_aft (m_run Z) 274 146 [(2, ((r0 : Nat) : Int)), l1, l2, l3] []) := by
  refine g_aload_n (k := 0) (v := (2, ((r0 : Nat) : Int))) (by decide +kernel : decode (m_byt 274) 143 = .ok (.aload_n 0, 1)) rfl (Or.inl rfl) ?_
  refine g_base (by decide +kernel : decode (m_byt 274) 144 = .ok (.iconst 0, 1)) rfl rfl ?_
  show m_run Z (274, 145, [(2, ((r0 : Nat) : Int)), l1, l2, l3], [(0, 0), (2, ((r0 : Nat) : Int))], h) = _
  refine g_base (by decide +kernel : decode (m_byt 274) 145 = .ok (.iconst 3, 1)) rfl rfl ?_
  show m_run Z (274, 146, [(2, ((r0 : Nat) : Int)), l1, l2, l3], [(0, 3), (0, 0), (2, ((r0 : Nat) : Int))], h) = _
  exact g_inv (k := 0) (m' := 252) (np := 3) (as := [(2, ((r0 : Nat) : Int)), (0, 0), (0, 3)]) (by decide +kernel : decode (m_byt 274) 146 = .ok (.invokestatic 117, 3)) (Or.inr (Or.inr ⟨rfl, rfl, by decide, by decide⟩)) (by decide +kernel) (by decide +kernel) (by decide +kernel) (Nat.le_of_ble_eq_true rfl) rfl (Or.inl rfl)
theorem b_274_149 {Z : mZ} {l0 l1 l2 l3 : mV} {s0 : Int} {h : mH} : m_run Z (274, 149, [l0, l1, l2, l3], [(0, s0)], h) = if w32 s0 = w32 (-51) then m_run Z (274, 154, [l0, l1, l2, l3], [], h) else m_run Z (274, 170, [l0, l1, l2, l3], [], h) := by
  refine g_base (by decide +kernel : decode (m_byt 274) 149 = .ok (.bipush (-51), 2)) rfl rfl ?_
  show m_run Z (274, 151, [l0, l1, l2, l3], [(0, (-51)), (0, s0)], h) = _
  exact g_brn (t := 170) (off := 19) (by decide +kernel : decode (m_byt 274) 151 = .ok (.if_icmp .ne 19, 3)) rfl rfl (by decide)
theorem b_274_154 {Z : mZ} {l1 l2 l3 : mV} {r0 : Nat} {h : mH} : m_run Z (274, 154, [(2, ((r0 : Nat) : Int)), l1, l2, l3], [], h) = (m_cl Z 253 [(2, ((r0 : Nat) : Int)), (0, 6), (0, 0)] h).bind (m_aft (m_run Z) 274 158 [(2, ((r0 : Nat) : Int)), l1, l2, l3] []) := by
  refine g_aload_n (k := 0) (v := (2, ((r0 : Nat) : Int))) (by decide +kernel : decode (m_byt 274) 154 = .ok (.aload_n 0, 1)) rfl (Or.inl rfl) ?_
  refine g_base (by decide +kernel : decode (m_byt 274) 155 = .ok (.bipush 6, 2)) rfl rfl ?_
  show m_run Z (274, 157, [(2, ((r0 : Nat) : Int)), l1, l2, l3], [(0, 6), (2, ((r0 : Nat) : Int))], h) = _
  refine g_base (by decide +kernel : decode (m_byt 274) 157 = .ok (.iconst 0, 1)) rfl rfl ?_
  show m_run Z (274, 158, [(2, ((r0 : Nat) : Int)), l1, l2, l3], [(0, 0), (0, 6), (2, ((r0 : Nat) : Int))], h) = _
  exact g_inv (k := 0) (m' := 253) (np := 3) (as := [(2, ((r0 : Nat) : Int)), (0, 6), (0, 0)]) (by decide +kernel : decode (m_byt 274) 158 = .ok (.invokestatic 153, 3)) (Or.inr (Or.inr ⟨rfl, rfl, by decide, by decide⟩)) (by decide +kernel) (by decide +kernel) (by decide +kernel) (Nat.le_of_ble_eq_true rfl) rfl (Or.inl rfl)
theorem b_274_161 {Z : mZ} {l0 l1 l2 l3 : mV} {s0 : Int} {h : mH} : m_run Z (274, 161, [l0, l1, l2, l3], [(0, s0)], h) = if w32 s0 = w32 (-53) then m_run Z (274, 166, [l0, l1, l2, l3], [], h) else m_run Z (274, 170, [l0, l1, l2, l3], [], h) := by
  refine g_base (by decide +kernel : decode (m_byt 274) 161 = .ok (.bipush (-53), 2)) rfl rfl ?_
  show m_run Z (274, 163, [l0, l1, l2, l3], [(0, (-53)), (0, s0)], h) = _
  exact g_brn (t := 170) (off := 7) (by decide +kernel : decode (m_byt 274) 163 = .ok (.if_icmp .ne 7, 3)) rfl rfl (by decide)
theorem b_274_166 {Z : mZ} {l0 l1 l2 l3 : mV} {h : mH} : m_run Z (274, 166, [l0, l1, l2, l3], [], h) = if w32 1 = 0 then m_run Z (274, 329, [l0, l1, m_kill l2, (0, 1)], [], h) else m_run Z (274, 176, [l0, l1, m_kill l2, (0, 1)], [], h) := by
  refine g_base (by decide +kernel : decode (m_byt 274) 166 = .ok (.iconst 1, 1)) rfl rfl ?_
  show m_run Z (274, 167, [l0, l1, l2, l3], [(0, 1)], h) = _
  refine g_jmp (t := 171) (by decide +kernel : decode (m_byt 274) 167 = .ok (.goto 4, 3)) (by decide) ?_
  refine g_istore_n (k := 3) (by decide +kernel : decode (m_byt 274) 171 = .ok (.istore_n 3, 1)) (Nat.le_of_ble_eq_true rfl) ?_
  show m_run Z (274, 172, [l0, l1, m_kill l2, (0, 1)], [], h) = _
  refine g_iload_n (k := 3) (x := 1) (by decide +kernel : decode (m_byt 274) 172 = .ok (.iload_n 3, 1)) rfl ?_
  exact g_brq (t := 329) (off := 156) (by decide +kernel : decode (m_byt 274) 173 = .ok (.ifCond .eq 156, 3)) rfl rfl (by decide)
theorem b_274_170 {Z : mZ} {l0 l1 l2 l3 : mV} {h : mH} : m_run Z (274, 170, [l0, l1, l2, l3], [], h) = m_run Z (274, 171, [l0, l1, l2, l3], [(0, 0)], h) := by
  refine g_base (by decide +kernel : decode (m_byt 274) 170 = .ok (.iconst 0, 1)) rfl rfl ?_
  show m_run Z (274, 171, [l0, l1, l2, l3], [(0, 0)], h) = _
  rfl
theorem b_274_171 {Z : mZ} {l0 l1 l2 l3 : mV} {s0 : Int} {h : mH} : m_run Z (274, 171, [l0, l1, l2, l3], [(0, s0)], h) = if w32 s0 = 0 then m_run Z (274, 329, [l0, l1, m_kill l2, (0, s0)], [], h) else m_run Z (274, 176, [l0, l1, m_kill l2, (0, s0)], [], h) := by
  refine g_istore_n (k := 3) (by decide +kernel : decode (m_byt 274) 171 = .ok (.istore_n 3, 1)) (Nat.le_of_ble_eq_true rfl) ?_
  show m_run Z (274, 172, [l0, l1, m_kill l2, (0, s0)], [], h) = _
  refine g_iload_n (k := 3) (x := s0) (by decide +kernel : decode (m_byt 274) 172 = .ok (.iload_n 3, 1)) rfl ?_
  exact g_brq (t := 329) (off := 156) (by decide +kernel : decode (m_byt 274) 173 = .ok (.ifCond .eq 156, 3)) rfl rfl (by decide)
theorem b_274_176 {Z : mZ} {l1 l2 l3 : mV} {r0 : Nat} {h : mH} : m_run Z (274, 176, [(2, ((r0 : Nat) : Int)), l1, l2, l3], [], h) = (m_cl Z 254 [(2, ((r0 : Nat) : Int)), (0, 0), (0, 8)] h).bind (m_aft (m_run Z) 274 180 [(2, ((r0 : Nat) : Int)), l1, l2, l3] []) := by
  refine g_aload_n (k := 0) (v := (2, ((r0 : Nat) : Int))) (by decide +kernel : decode (m_byt 274) 176 = .ok (.aload_n 0, 1)) rfl (Or.inl rfl) ?_
  refine g_base (by decide +kernel : decode (m_byt 274) 177 = .ok (.iconst 0, 1)) rfl rfl ?_
  show m_run Z (274, 178, [(2, ((r0 : Nat) : Int)), l1, l2, l3], [(0, 0), (2, ((r0 : Nat) : Int))], h) = _
  refine g_base (by decide +kernel : decode (m_byt 274) 178 = .ok (.bipush 8, 2)) rfl rfl ?_
  show m_run Z (274, 180, [(2, ((r0 : Nat) : Int)), l1, l2, l3], [(0, 8), (0, 0), (2, ((r0 : Nat) : Int))], h) = _
  exact g_inv (k := 0) (m' := 254) (np := 3) (as := [(2, ((r0 : Nat) : Int)), (0, 0), (0, 8)]) (by decide +kernel : decode (m_byt 274) 180 = .ok (.invokestatic 155, 3)) (Or.inr (Or.inr ⟨rfl, rfl, by decide, by decide⟩)) (by decide +kernel) (by decide +kernel) (by decide +kernel) (Nat.le_of_ble_eq_true rfl) rfl (Or.inl rfl)
theorem b_274_183 {Z : mZ} {l0 l1 l2 l3 : mV} {s0 : Int} {h : mH} : m_run Z (274, 183, [l0, l1, l2, l3], [(0, s0)], h) = if w32 s0 = w32 (-53) then m_run Z (274, 188, [l0, l1, l2, l3], [], h) else m_run Z (274, 329, [l0, l1, l2, l3], [], h) := by
  refine g_base (by decide +kernel : decode (m_byt 274) 183 = .ok (.bipush (-53), 2)) rfl rfl ?_
  show m_run Z (274, 185, [l0, l1, l2, l3], [(0, (-53)), (0, s0)], h) = _
  exact g_brn (t := 329) (off := 144) (by decide +kernel : decode (m_byt 274) 185 = .ok (.if_icmp .ne 144, 3)) rfl rfl (by decide)
theorem b_274_188 {Z : mZ} {l1 l2 l3 : mV} {r0 : Nat} {h : mH} : m_run Z (274, 188, [(2, ((r0 : Nat) : Int)), l1, l2, l3], [], h) = (m_cl Z 255 [(2, ((r0 : Nat) : Int)), (0, (-1)), (0, 0)] h).bind (m_aft (m_run Z) 274 191 [(2, ((r0 : Nat) : Int)), l1, l2, l3] []) := by
  refine g_aload_n (k := 0) (v := (2, ((r0 : Nat) : Int))) (by decide +kernel : decode (m_byt 274) 188 = .ok (.aload_n 0, 1)) rfl (Or.inl rfl) ?_
  refine g_base (by decide +kernel : decode (m_byt 274) 189 = .ok (.iconst (-1), 1)) rfl rfl ?_
  show m_run Z (274, 190, [(2, ((r0 : Nat) : Int)), l1, l2, l3], [(0, (-1)), (2, ((r0 : Nat) : Int))], h) = _
  refine g_base (by decide +kernel : decode (m_byt 274) 190 = .ok (.iconst 0, 1)) rfl rfl ?_
  show m_run Z (274, 191, [(2, ((r0 : Nat) : Int)), l1, l2, l3], [(0, 0), (0, (-1)), (2, ((r0 : Nat) : Int))], h) = _
  exact g_inv (k := 0) (m' := 255) (np := 3) (as := [(2, ((r0 : Nat) : Int)), (0, (-1)), (0, 0)]) (by decide +kernel : decode (m_byt 274) 191 = .ok (.invokestatic 157, 3)) (Or.inr (Or.inr ⟨rfl, rfl, by decide, by decide⟩)) (by decide +kernel) (by decide +kernel) (by decide +kernel) (Nat.le_of_ble_eq_true rfl) rfl (Or.inl rfl)
theorem b_274_194 {Z : mZ} {l0 l1 l2 l3 : mV} {s0 : Int} {h : mH} : m_run Z (274, 194, [l0, l1, l2, l3], [(0, s0)], h) = if w32 s0 = w32 (-53) then m_run Z (274, 199, [l0, l1, l2, l3], [], h) else m_run Z (274, 329, [l0, l1, l2, l3], [], h) := by
  refine g_base (by decide +kernel : decode (m_byt 274) 194 = .ok (.bipush (-53), 2)) rfl rfl ?_
  show m_run Z (274, 196, [l0, l1, l2, l3], [(0, (-53)), (0, s0)], h) = _
  exact g_brn (t := 329) (off := 133) (by decide +kernel : decode (m_byt 274) 196 = .ok (.if_icmp .ne 133, 3)) rfl rfl (by decide)
theorem b_274_199 {Z : mZ} {l1 l2 l3 : mV} {r0 : Nat} {h : mH} : m_run Z (274, 199, [(2, ((r0 : Nat) : Int)), l1, l2, l3], [], h) = (m_cl Z 256 [(2, ((r0 : Nat) : Int)), (0, 0), (0, 12), (0, 0), (0, 1), (0, 0)] h).bind (m_aft (m_run Z) 274 206 [(2, ((r0 : Nat) : Int)), l1, l2, l3] []) := by
  refine g_aload_n (k := 0) (v := (2, ((r0 : Nat) : Int))) (by decide +kernel : decode (m_byt 274) 199 = .ok (.aload_n 0, 1)) rfl (Or.inl rfl) ?_
  refine g_base (by decide +kernel : decode (m_byt 274) 200 = .ok (.iconst 0, 1)) rfl rfl ?_
  show m_run Z (274, 201, [(2, ((r0 : Nat) : Int)), l1, l2, l3], [(0, 0), (2, ((r0 : Nat) : Int))], h) = _
  refine g_base (by decide +kernel : decode (m_byt 274) 201 = .ok (.bipush 12, 2)) rfl rfl ?_
  show m_run Z (274, 203, [(2, ((r0 : Nat) : Int)), l1, l2, l3], [(0, 12), (0, 0), (2, ((r0 : Nat) : Int))], h) = _
  refine g_base (by decide +kernel : decode (m_byt 274) 203 = .ok (.iconst 0, 1)) rfl rfl ?_
  show m_run Z (274, 204, [(2, ((r0 : Nat) : Int)), l1, l2, l3], [(0, 0), (0, 12), (0, 0), (2, ((r0 : Nat) : Int))], h) = _
  refine g_base (by decide +kernel : decode (m_byt 274) 204 = .ok (.iconst 1, 1)) rfl rfl ?_
  show m_run Z (274, 205, [(2, ((r0 : Nat) : Int)), l1, l2, l3], [(0, 1), (0, 0), (0, 12), (0, 0), (2, ((r0 : Nat) : Int))], h) = _
  refine g_base (by decide +kernel : decode (m_byt 274) 205 = .ok (.iconst 0, 1)) rfl rfl ?_
  show m_run Z (274, 206, [(2, ((r0 : Nat) : Int)), l1, l2, l3], [(0, 0), (0, 1), (0, 0), (0, 12), (0, 0), (2, ((r0 : Nat) : Int))], h) = _
  exact g_inv (k := 0) (m' := 256) (np := 6) (as := [(2, ((r0 : Nat) : Int)), (0, 0), (0, 12), (0, 0), (0, 1), (0, 0)]) (by decide +kernel : decode (m_byt 274) 206 = .ok (.invokestatic 159, 3)) (Or.inr (Or.inr ⟨rfl, rfl, by decide, by decide⟩)) (by decide +kernel) (by decide +kernel) (by decide +kernel) (Nat.le_of_ble_eq_true rfl) rfl (Or.inl rfl)
theorem b_274_209 {Z : mZ} {l0 l1 l2 l3 : mV} {s0 : Int} {h : mH} : m_run Z (274, 209, [l0, l1, l2, l3], [(0, s0)], h) = if w32 s0 = w32 (-53) then m_run Z (274, 214, [l0, l1, l2, l3], [], h) else m_run Z (274, 329, [l0, l1, l2, l3], [], h) := by
  refine g_base (by decide +kernel : decode (m_byt 274) 209 = .ok (.bipush (-53), 2)) rfl rfl ?_
  show m_run Z (274, 211, [l0, l1, l2, l3], [(0, (-53)), (0, s0)], h) = _
  exact g_brn (t := 329) (off := 118) (by decide +kernel : decode (m_byt 274) 211 = .ok (.if_icmp .ne 118, 3)) rfl rfl (by decide)
theorem b_274_214 {Z : mZ} {l1 l2 l3 : mV} {r0 : Nat} {h : mH} : m_run Z (274, 214, [(2, ((r0 : Nat) : Int)), l1, l2, l3], [], h) = (m_cl Z 257 [(2, ((r0 : Nat) : Int)), (0, 12), (0, 0), (0, 0)] h).bind (m_aft (m_run Z) 274 219 [(2, ((r0 : Nat) : Int)), l1, l2, l3] []) := by
  refine g_aload_n (k := 0) (v := (2, ((r0 : Nat) : Int))) (by decide +kernel : decode (m_byt 274) 214 = .ok (.aload_n 0, 1)) rfl (Or.inl rfl) ?_
  refine g_base (by decide +kernel : decode (m_byt 274) 215 = .ok (.bipush 12, 2)) rfl rfl ?_
  show m_run Z (274, 217, [(2, ((r0 : Nat) : Int)), l1, l2, l3], [(0, 12), (2, ((r0 : Nat) : Int))], h) = _
  refine g_base (by decide +kernel : decode (m_byt 274) 217 = .ok (.iconst 0, 1)) rfl rfl ?_
  show m_run Z (274, 218, [(2, ((r0 : Nat) : Int)), l1, l2, l3], [(0, 0), (0, 12), (2, ((r0 : Nat) : Int))], h) = _
  refine g_base (by decide +kernel : decode (m_byt 274) 218 = .ok (.iconst 0, 1)) rfl rfl ?_
  show m_run Z (274, 219, [(2, ((r0 : Nat) : Int)), l1, l2, l3], [(0, 0), (0, 0), (0, 12), (2, ((r0 : Nat) : Int))], h) = _
  exact g_inv (k := 0) (m' := 257) (np := 4) (as := [(2, ((r0 : Nat) : Int)), (0, 12), (0, 0), (0, 0)]) (by decide +kernel : decode (m_byt 274) 219 = .ok (.invokestatic 162, 3)) (Or.inr (Or.inr ⟨rfl, rfl, by decide, by decide⟩)) (by decide +kernel) (by decide +kernel) (by decide +kernel) (Nat.le_of_ble_eq_true rfl) rfl (Or.inl rfl)
theorem b_274_222 {Z : mZ} {l0 l1 l2 l3 : mV} {s0 : Int} {h : mH} : m_run Z (274, 222, [l0, l1, l2, l3], [(0, s0)], h) = if w32 s0 = w32 (-53) then m_run Z (274, 227, [l0, l1, l2, l3], [], h) else m_run Z (274, 329, [l0, l1, l2, l3], [], h) := by
  refine g_base (by decide +kernel : decode (m_byt 274) 222 = .ok (.bipush (-53), 2)) rfl rfl ?_
  show m_run Z (274, 224, [l0, l1, l2, l3], [(0, (-53)), (0, s0)], h) = _
  exact g_brn (t := 329) (off := 105) (by decide +kernel : decode (m_byt 274) 224 = .ok (.if_icmp .ne 105, 3)) rfl rfl (by decide)
theorem b_274_227 {Z : mZ} {l1 l2 l3 : mV} {r0 : Nat} {h : mH} : m_run Z (274, 227, [(2, ((r0 : Nat) : Int)), l1, l2, l3], [], h) = (m_cl Z 258 [(2, ((r0 : Nat) : Int)), (0, 0), (0, 12), (0, 0), (0, 0), (0, 0)] h).bind (m_aft (m_run Z) 274 234 [(2, ((r0 : Nat) : Int)), l1, l2, l3] []) := by
  refine g_aload_n (k := 0) (v := (2, ((r0 : Nat) : Int))) (by decide +kernel : decode (m_byt 274) 227 = .ok (.aload_n 0, 1)) rfl (Or.inl rfl) ?_
  refine g_base (by decide +kernel : decode (m_byt 274) 228 = .ok (.iconst 0, 1)) rfl rfl ?_
  show m_run Z (274, 229, [(2, ((r0 : Nat) : Int)), l1, l2, l3], [(0, 0), (2, ((r0 : Nat) : Int))], h) = _
  refine g_base (by decide +kernel : decode (m_byt 274) 229 = .ok (.bipush 12, 2)) rfl rfl ?_
  show m_run Z (274, 231, [(2, ((r0 : Nat) : Int)), l1, l2, l3], [(0, 12), (0, 0), (2, ((r0 : Nat) : Int))], h) = _
  refine g_base (by decide +kernel : decode (m_byt 274) 231 = .ok (.iconst 0, 1)) rfl rfl ?_
  show m_run Z (274, 232, [(2, ((r0 : Nat) : Int)), l1, l2, l3], [(0, 0), (0, 12), (0, 0), (2, ((r0 : Nat) : Int))], h) = _
  refine g_base (by decide +kernel : decode (m_byt 274) 232 = .ok (.iconst 0, 1)) rfl rfl ?_
  show m_run Z (274, 233, [(2, ((r0 : Nat) : Int)), l1, l2, l3], [(0, 0), (0, 0), (0, 12), (0, 0), (2, ((r0 : Nat) : Int))], h) = _
  refine g_base (by decide +kernel : decode (m_byt 274) 233 = .ok (.iconst 0, 1)) rfl rfl ?_
  show m_run Z (274, 234, [(2, ((r0 : Nat) : Int)), l1, l2, l3], [(0, 0), (0, 0), (0, 0), (0, 12), (0, 0), (2, ((r0 : Nat) : Int))], h) = _
  exact g_inv (k := 0) (m' := 258) (np := 6) (as := [(2, ((r0 : Nat) : Int)), (0, 0), (0, 12), (0, 0), (0, 0), (0, 0)]) (by decide +kernel : decode (m_byt 274) 234 = .ok (.invokestatic 164, 3)) (Or.inr (Or.inr ⟨rfl, rfl, by decide, by decide⟩)) (by decide +kernel) (by decide +kernel) (by decide +kernel) (Nat.le_of_ble_eq_true rfl) rfl (Or.inl rfl)
theorem b_274_237 {Z : mZ} {l0 l1 l2 l3 : mV} {s0 : Int} {h : mH} : m_run Z (274, 237, [l0, l1, l2, l3], [(0, s0)], h) = if w32 s0 = w32 (-53) then m_run Z (274, 242, [l0, l1, l2, l3], [], h) else m_run Z (274, 329, [l0, l1, l2, l3], [], h) := by
  refine g_base (by decide +kernel : decode (m_byt 274) 237 = .ok (.bipush (-53), 2)) rfl rfl ?_
  show m_run Z (274, 239, [l0, l1, l2, l3], [(0, (-53)), (0, s0)], h) = _
  exact g_brn (t := 329) (off := 90) (by decide +kernel : decode (m_byt 274) 239 = .ok (.if_icmp .ne 90, 3)) rfl rfl (by decide)
theorem b_274_242 {Z : mZ} {l1 l2 l3 : mV} {r0 : Nat} {h : mH} : m_run Z (274, 242, [(2, ((r0 : Nat) : Int)), l1, l2, l3], [], h) = (m_cl Z 259 [(2, ((r0 : Nat) : Int)), (0, (-1)), (0, 0), (0, 0), (0, 0)] h).bind (m_aft (m_run Z) 274 247 [(2, ((r0 : Nat) : Int)), l1, l2, l3] []) := by
  refine g_aload_n (k := 0) (v := (2, ((r0 : Nat) : Int))) (by decide +kernel : decode (m_byt 274) 242 = .ok (.aload_n 0, 1)) rfl (Or.inl rfl) ?_
  refine g_base (by decide +kernel : decode (m_byt 274) 243 = .ok (.iconst (-1), 1)) rfl rfl ?_
  show m_run Z (274, 244, [(2, ((r0 : Nat) : Int)), l1, l2, l3], [(0, (-1)), (2, ((r0 : Nat) : Int))], h) = _
  refine g_base (by decide +kernel : decode (m_byt 274) 244 = .ok (.iconst 0, 1)) rfl rfl ?_
  show m_run Z (274, 245, [(2, ((r0 : Nat) : Int)), l1, l2, l3], [(0, 0), (0, (-1)), (2, ((r0 : Nat) : Int))], h) = _
  refine g_base (by decide +kernel : decode (m_byt 274) 245 = .ok (.iconst 0, 1)) rfl rfl ?_
  show m_run Z (274, 246, [(2, ((r0 : Nat) : Int)), l1, l2, l3], [(0, 0), (0, 0), (0, (-1)), (2, ((r0 : Nat) : Int))], h) = _
  refine g_base (by decide +kernel : decode (m_byt 274) 246 = .ok (.iconst 0, 1)) rfl rfl ?_
  show m_run Z (274, 247, [(2, ((r0 : Nat) : Int)), l1, l2, l3], [(0, 0), (0, 0), (0, 0), (0, (-1)), (2, ((r0 : Nat) : Int))], h) = _
  exact g_inv (k := 0) (m' := 259) (np := 5) (as := [(2, ((r0 : Nat) : Int)), (0, (-1)), (0, 0), (0, 0), (0, 0)]) (by decide +kernel : decode (m_byt 274) 247 = .ok (.invokestatic 166, 3)) (Or.inr (Or.inr ⟨rfl, rfl, by decide, by decide⟩)) (by decide +kernel) (by decide +kernel) (by decide +kernel) (Nat.le_of_ble_eq_true rfl) rfl (Or.inl rfl)
theorem b_274_250 {Z : mZ} {l0 l1 l2 l3 : mV} {s0 : Int} {h : mH} : m_run Z (274, 250, [l0, l1, l2, l3], [(0, s0)], h) = if w32 s0 = w32 (-53) then m_run Z (274, 255, [l0, l1, l2, l3], [], h) else m_run Z (274, 329, [l0, l1, l2, l3], [], h) := by
  refine g_base (by decide +kernel : decode (m_byt 274) 250 = .ok (.bipush (-53), 2)) rfl rfl ?_
  show m_run Z (274, 252, [l0, l1, l2, l3], [(0, (-53)), (0, s0)], h) = _
  exact g_brn (t := 329) (off := 77) (by decide +kernel : decode (m_byt 274) 252 = .ok (.if_icmp .ne 77, 3)) rfl rfl (by decide)
theorem b_274_255 {Z : mZ} {l1 l2 l3 : mV} {r0 : Nat} {h : mH} : m_run Z (274, 255, [(2, ((r0 : Nat) : Int)), l1, l2, l3], [], h) = (m_cl Z 260 [(2, ((r0 : Nat) : Int)), (0, 12), (0, 0), (0, 4)] h).bind (m_aft (m_run Z) 274 260 [(2, ((r0 : Nat) : Int)), l1, l2, l3] []) := by
  refine g_aload_n (k := 0) (v := (2, ((r0 : Nat) : Int))) (by decide +kernel : decode (m_byt 274) 255 = .ok (.aload_n 0, 1)) rfl (Or.inl rfl) ?_
  refine g_base (by decide +kernel : decode (m_byt 274) 256 = .ok (.bipush 12, 2)) rfl rfl ?_
  show m_run Z (274, 258, [(2, ((r0 : Nat) : Int)), l1, l2, l3], [(0, 12), (2, ((r0 : Nat) : Int))], h) = _
  refine g_base (by decide +kernel : decode (m_byt 274) 258 = .ok (.iconst 0, 1)) rfl rfl ?_
  show m_run Z (274, 259, [(2, ((r0 : Nat) : Int)), l1, l2, l3], [(0, 0), (0, 12), (2, ((r0 : Nat) : Int))], h) = _
  refine g_base (by decide +kernel : decode (m_byt 274) 259 = .ok (.iconst 4, 1)) rfl rfl ?_
  show m_run Z (274, 260, [(2, ((r0 : Nat) : Int)), l1, l2, l3], [(0, 4), (0, 0), (0, 12), (2, ((r0 : Nat) : Int))], h) = _
  exact g_inv (k := 0) (m' := 260) (np := 4) (as := [(2, ((r0 : Nat) : Int)), (0, 12), (0, 0), (0, 4)]) (by decide +kernel : decode (m_byt 274) 260 = .ok (.invokestatic 169, 3)) (Or.inr (Or.inr ⟨rfl, rfl, by decide, by decide⟩)) (by decide +kernel) (by decide +kernel) (by decide +kernel) (Nat.le_of_ble_eq_true rfl) rfl (Or.inl rfl)
theorem b_274_263 {Z : mZ} {l0 l1 l2 l3 : mV} {s0 : Int} {h : mH} : m_run Z (274, 263, [l0, l1, l2, l3], [(0, s0)], h) = if w32 s0 = w32 (-53) then m_run Z (274, 268, [l0, l1, l2, l3], [], h) else m_run Z (274, 329, [l0, l1, l2, l3], [], h) := by
  refine g_base (by decide +kernel : decode (m_byt 274) 263 = .ok (.bipush (-53), 2)) rfl rfl ?_
  show m_run Z (274, 265, [l0, l1, l2, l3], [(0, (-53)), (0, s0)], h) = _
  exact g_brn (t := 329) (off := 64) (by decide +kernel : decode (m_byt 274) 265 = .ok (.if_icmp .ne 64, 3)) rfl rfl (by decide)
theorem b_274_268 {Z : mZ} {l1 l2 l3 : mV} {r0 : Nat} {h : mH} : m_run Z (274, 268, [(2, ((r0 : Nat) : Int)), l1, l2, l3], [], h) = (m_cl Z 261 [(2, ((r0 : Nat) : Int)), (0, 256), (0, 0)] h).bind (m_aft (m_run Z) 274 273 [(2, ((r0 : Nat) : Int)), l1, l2, l3] []) := by
  refine g_aload_n (k := 0) (v := (2, ((r0 : Nat) : Int))) (by decide +kernel : decode (m_byt 274) 268 = .ok (.aload_n 0, 1)) rfl (Or.inl rfl) ?_
  refine g_base (by decide +kernel : decode (m_byt 274) 269 = .ok (.sipush 256, 3)) rfl rfl ?_
  show m_run Z (274, 272, [(2, ((r0 : Nat) : Int)), l1, l2, l3], [(0, 256), (2, ((r0 : Nat) : Int))], h) = _
  refine g_base (by decide +kernel : decode (m_byt 274) 272 = .ok (.iconst 0, 1)) rfl rfl ?_
  show m_run Z (274, 273, [(2, ((r0 : Nat) : Int)), l1, l2, l3], [(0, 0), (0, 256), (2, ((r0 : Nat) : Int))], h) = _
  exact g_inv (k := 0) (m' := 261) (np := 3) (as := [(2, ((r0 : Nat) : Int)), (0, 256), (0, 0)]) (by decide +kernel : decode (m_byt 274) 273 = .ok (.invokestatic 171, 3)) (Or.inr (Or.inr ⟨rfl, rfl, by decide, by decide⟩)) (by decide +kernel) (by decide +kernel) (by decide +kernel) (Nat.le_of_ble_eq_true rfl) rfl (Or.inl rfl)
theorem b_274_276 {Z : mZ} {l0 l1 l2 l3 : mV} {s0 : Int} {h : mH} : m_run Z (274, 276, [l0, l1, l2, l3], [(0, s0)], h) = if w32 s0 = w32 (-51) then m_run Z (274, 281, [l0, l1, l2, l3], [], h) else m_run Z (274, 329, [l0, l1, l2, l3], [], h) := by
  refine g_base (by decide +kernel : decode (m_byt 274) 276 = .ok (.bipush (-51), 2)) rfl rfl ?_
  show m_run Z (274, 278, [l0, l1, l2, l3], [(0, (-51)), (0, s0)], h) = _
  exact g_brn (t := 329) (off := 51) (by decide +kernel : decode (m_byt 274) 278 = .ok (.if_icmp .ne 51, 3)) rfl rfl (by decide)
theorem b_274_281 {Z : mZ} {l1 l2 l3 : mV} {r0 : Nat} {h : mH} : m_run Z (274, 281, [(2, ((r0 : Nat) : Int)), l1, l2, l3], [], h) = (m_cl Z 261 [(2, ((r0 : Nat) : Int)), (0, 0), (0, 2)] h).bind (m_aft (m_run Z) 274 284 [(2, ((r0 : Nat) : Int)), l1, l2, l3] []) := by
  refine g_aload_n (k := 0) (v := (2, ((r0 : Nat) : Int))) (by decide +kernel : decode (m_byt 274) 281 = .ok (.aload_n 0, 1)) rfl (Or.inl rfl) ?_
  refine g_base (by decide +kernel : decode (m_byt 274) 282 = .ok (.iconst 0, 1)) rfl rfl ?_
  show m_run Z (274, 283, [(2, ((r0 : Nat) : Int)), l1, l2, l3], [(0, 0), (2, ((r0 : Nat) : Int))], h) = _
  refine g_base (by decide +kernel : decode (m_byt 274) 283 = .ok (.iconst 2, 1)) rfl rfl ?_
  show m_run Z (274, 284, [(2, ((r0 : Nat) : Int)), l1, l2, l3], [(0, 2), (0, 0), (2, ((r0 : Nat) : Int))], h) = _
  exact g_inv (k := 0) (m' := 261) (np := 3) (as := [(2, ((r0 : Nat) : Int)), (0, 0), (0, 2)]) (by decide +kernel : decode (m_byt 274) 284 = .ok (.invokestatic 171, 3)) (Or.inr (Or.inr ⟨rfl, rfl, by decide, by decide⟩)) (by decide +kernel) (by decide +kernel) (by decide +kernel) (Nat.le_of_ble_eq_true rfl) rfl (Or.inl rfl)
theorem b_274_287 {Z : mZ} {l0 l1 l2 l3 : mV} {s0 : Int} {h : mH} : m_run Z (274, 287, [l0, l1, l2, l3], [(0, s0)], h) = if w32 s0 = w32 (-51) then m_run Z (274, 292, [l0, l1, l2, l3], [], h) else m_run Z (274, 329, [l0, l1, l2, l3], [], h) := by
  refine g_base (by decide +kernel : decode (m_byt 274) 287 = .ok (.bipush (-51), 2)) rfl rfl ?_
  show m_run Z (274, 289, [l0, l1, l2, l3], [(0, (-51)), (0, s0)], h) = _
  exact g_brn (t := 329) (off := 40) (by decide +kernel : decode (m_byt 274) 289 = .ok (.if_icmp .ne 40, 3)) rfl rfl (by decide)
theorem b_274_292 {Z : mZ} {l1 l2 l3 : mV} {r0 : Nat} {h : mH} : m_run Z (274, 292, [(2, ((r0 : Nat) : Int)), l1, l2, l3], [], h) = (m_cl Z 262 [(2, ((r0 : Nat) : Int)), (0, (-1)), (0, 0)] h).bind (m_aft (m_run Z) 274 295 [(2, ((r0 : Nat) : Int)), l1, l2, l3] []) := by
  refine g_aload_n (k := 0) (v := (2, ((r0 : Nat) : Int))) (by decide +kernel : decode (m_byt 274) 292 = .ok (.aload_n 0, 1)) rfl (Or.inl rfl) ?_
  refine g_base (by decide +kernel : decode (m_byt 274) 293 = .ok (.iconst (-1), 1)) rfl rfl ?_
  show m_run Z (274, 294, [(2, ((r0 : Nat) : Int)), l1, l2, l3], [(0, (-1)), (2, ((r0 : Nat) : Int))], h) = _
  refine g_base (by decide +kernel : decode (m_byt 274) 294 = .ok (.iconst 0, 1)) rfl rfl ?_
  show m_run Z (274, 295, [(2, ((r0 : Nat) : Int)), l1, l2, l3], [(0, 0), (0, (-1)), (2, ((r0 : Nat) : Int))], h) = _
  exact g_inv (k := 0) (m' := 262) (np := 3) (as := [(2, ((r0 : Nat) : Int)), (0, (-1)), (0, 0)]) (by decide +kernel : decode (m_byt 274) 295 = .ok (.invokestatic 173, 3)) (Or.inr (Or.inr ⟨rfl, rfl, by decide, by decide⟩)) (by decide +kernel) (by decide +kernel) (by decide +kernel) (Nat.le_of_ble_eq_true rfl) rfl (Or.inl rfl)
theorem b_274_298 {Z : mZ} {l0 l1 l2 l3 : mV} {s0 : Int} {h : mH} : m_run Z (274, 298, [l0, l1, l2, l3], [(0, s0)], h) = if w32 s0 = w32 (-51) then m_run Z (274, 303, [l0, l1, l2, l3], [], h) else m_run Z (274, 329, [l0, l1, l2, l3], [], h) := by
  refine g_base (by decide +kernel : decode (m_byt 274) 298 = .ok (.bipush (-51), 2)) rfl rfl ?_
  show m_run Z (274, 300, [l0, l1, l2, l3], [(0, (-51)), (0, s0)], h) = _
  exact g_brn (t := 329) (off := 29) (by decide +kernel : decode (m_byt 274) 300 = .ok (.if_icmp .ne 29, 3)) rfl rfl (by decide)
theorem b_274_303 {Z : mZ} {l1 l2 l3 : mV} {r0 : Nat} {h : mH} : m_run Z (274, 303, [(2, ((r0 : Nat) : Int)), l1, l2, l3], [], h) = (m_cl Z 263 [(2, ((r0 : Nat) : Int)), (0, 256)] h).bind (m_aft (m_run Z) 274 307 [(2, ((r0 : Nat) : Int)), l1, l2, l3] []) := by
  refine g_aload_n (k := 0) (v := (2, ((r0 : Nat) : Int))) (by decide +kernel : decode (m_byt 274) 303 = .ok (.aload_n 0, 1)) rfl (Or.inl rfl) ?_
  refine g_base (by decide +kernel : decode (m_byt 274) 304 = .ok (.sipush 256, 3)) rfl rfl ?_
  show m_run Z (274, 307, [(2, ((r0 : Nat) : Int)), l1, l2, l3], [(0, 256), (2, ((r0 : Nat) : Int))], h) = _
  exact g_inv (k := 0) (m' := 263) (np := 2) (as := [(2, ((r0 : Nat) : Int)), (0, 256)]) (by decide +kernel : decode (m_byt 274) 307 = .ok (.invokestatic 175, 3)) (Or.inr (Or.inr ⟨rfl, rfl, by decide, by decide⟩)) (by decide +kernel) (by decide +kernel) (by decide +kernel) (Nat.le_of_ble_eq_true rfl) rfl (Or.inl rfl)
theorem b_274_310 {Z : mZ} {l0 l1 l2 l3 : mV} {s0 : Int} {h : mH} : m_run Z (274, 310, [l0, l1, l2, l3], [(0, s0)], h) = if w32 s0 = w32 (-51) then m_run Z (274, 315, [l0, l1, l2, l3], [], h) else m_run Z (274, 329, [l0, l1, l2, l3], [], h) := by
  refine g_base (by decide +kernel : decode (m_byt 274) 310 = .ok (.bipush (-51), 2)) rfl rfl ?_
  show m_run Z (274, 312, [l0, l1, l2, l3], [(0, (-51)), (0, s0)], h) = _
  exact g_brn (t := 329) (off := 17) (by decide +kernel : decode (m_byt 274) 312 = .ok (.if_icmp .ne 17, 3)) rfl rfl (by decide)
theorem b_274_315 {Z : mZ} {l1 l2 l3 : mV} {r0 : Nat} {h : mH} : m_run Z (274, 315, [(2, ((r0 : Nat) : Int)), l1, l2, l3], [], h) = (m_cl Z 264 [(2, ((r0 : Nat) : Int)), (0, 5)] h).bind (m_aft (m_run Z) 274 317 [(2, ((r0 : Nat) : Int)), l1, l2, l3] []) := by
  refine g_aload_n (k := 0) (v := (2, ((r0 : Nat) : Int))) (by decide +kernel : decode (m_byt 274) 315 = .ok (.aload_n 0, 1)) rfl (Or.inl rfl) ?_
  refine g_base (by decide +kernel : decode (m_byt 274) 316 = .ok (.iconst 5, 1)) rfl rfl ?_
  show m_run Z (274, 317, [(2, ((r0 : Nat) : Int)), l1, l2, l3], [(0, 5), (2, ((r0 : Nat) : Int))], h) = _
  exact g_inv (k := 0) (m' := 264) (np := 2) (as := [(2, ((r0 : Nat) : Int)), (0, 5)]) (by decide +kernel : decode (m_byt 274) 317 = .ok (.invokestatic 177, 3)) (Or.inr (Or.inr ⟨rfl, rfl, by decide, by decide⟩)) (by decide +kernel) (by decide +kernel) (by decide +kernel) (Nat.le_of_ble_eq_true rfl) rfl (Or.inl rfl)
theorem b_274_320 {Z : mZ} {l0 l1 l2 l3 : mV} {s0 : Int} {h : mH} : m_run Z (274, 320, [l0, l1, l2, l3], [(0, s0)], h) = if w32 s0 = w32 (-51) then m_run Z (274, 325, [l0, l1, l2, l3], [], h) else m_run Z (274, 329, [l0, l1, l2, l3], [], h) := by
  refine g_base (by decide +kernel : decode (m_byt 274) 320 = .ok (.bipush (-51), 2)) rfl rfl ?_
  show m_run Z (274, 322, [l0, l1, l2, l3], [(0, (-51)), (0, s0)], h) = _
  exact g_brn (t := 329) (off := 7) (by decide +kernel : decode (m_byt 274) 322 = .ok (.if_icmp .ne 7, 3)) rfl rfl (by decide)
theorem b_274_325 {Z : mZ} {l0 l1 l2 l3 : mV} {h : mH} : m_run Z (274, 325, [l0, l1, l2, l3], [], h) = if w32 1 = 0 then m_run Z (274, 440, [l0, l1, m_kill l2, (0, 1)], [], h) else m_run Z (274, 335, [l0, l1, m_kill l2, (0, 1)], [], h) := by
  refine g_base (by decide +kernel : decode (m_byt 274) 325 = .ok (.iconst 1, 1)) rfl rfl ?_
  show m_run Z (274, 326, [l0, l1, l2, l3], [(0, 1)], h) = _
  refine g_jmp (t := 330) (by decide +kernel : decode (m_byt 274) 326 = .ok (.goto 4, 3)) (by decide) ?_
  refine g_istore_n (k := 3) (by decide +kernel : decode (m_byt 274) 330 = .ok (.istore_n 3, 1)) (Nat.le_of_ble_eq_true rfl) ?_
  show m_run Z (274, 331, [l0, l1, m_kill l2, (0, 1)], [], h) = _
  refine g_iload_n (k := 3) (x := 1) (by decide +kernel : decode (m_byt 274) 331 = .ok (.iload_n 3, 1)) rfl ?_
  exact g_brq (t := 440) (off := 108) (by decide +kernel : decode (m_byt 274) 332 = .ok (.ifCond .eq 108, 3)) rfl rfl (by decide)
theorem b_274_329 {Z : mZ} {l0 l1 l2 l3 : mV} {h : mH} : m_run Z (274, 329, [l0, l1, l2, l3], [], h) = m_run Z (274, 330, [l0, l1, l2, l3], [(0, 0)], h) := by
  refine g_base (by decide +kernel : decode (m_byt 274) 329 = .ok (.iconst 0, 1)) rfl rfl ?_
  show m_run Z (274, 330, [l0, l1, l2, l3], [(0, 0)], h) = _
  rfl
theorem b_274_330 {Z : mZ} {l0 l1 l2 l3 : mV} {s0 : Int} {h : mH} : m_run Z (274, 330, [l0, l1, l2, l3], [(0, s0)], h) = if w32 s0 = 0 then m_run Z (274, 440, [l0, l1, m_kill l2, (0, s0)], [], h) else m_run Z (274, 335, [l0, l1, m_kill l2, (0, s0)], [], h) := by
  refine g_istore_n (k := 3) (by decide +kernel : decode (m_byt 274) 330 = .ok (.istore_n 3, 1)) (Nat.le_of_ble_eq_true rfl) ?_
  show m_run Z (274, 331, [l0, l1, m_kill l2, (0, s0)], [], h) = _
  refine g_iload_n (k := 3) (x := s0) (by decide +kernel : decode (m_byt 274) 331 = .ok (.iload_n 3, 1)) rfl ?_
  exact g_brq (t := 440) (off := 108) (by decide +kernel : decode (m_byt 274) 332 = .ok (.ifCond .eq 108, 3)) rfl rfl (by decide)
theorem b_274_335 {Z : mZ} {l1 l2 l3 : mV} {r0 : Nat} {h : mH} : m_run Z (274, 335, [(2, ((r0 : Nat) : Int)), l1, l2, l3], [], h) = (m_cl Z 265 [(2, ((r0 : Nat) : Int)), (0, 4), (0, 0)] h).bind (m_aft (m_run Z) 274 338 [(2, ((r0 : Nat) : Int)), l1, l2, l3] []) := by
  refine g_aload_n (k := 0) (v := (2, ((r0 : Nat) : Int))) (by decide +kernel : decode (m_byt 274) 335 = .ok (.aload_n 0, 1)) rfl (Or.inl rfl) ?_
  refine g_base (by decide +kernel : decode (m_byt 274) 336 = .ok (.iconst 4, 1)) rfl rfl ?_
  show m_run Z (274, 337, [(2, ((r0 : Nat) : Int)), l1, l2, l3], [(0, 4), (2, ((r0 : Nat) : Int))], h) = _
  refine g_base (by decide +kernel : decode (m_byt 274) 337 = .ok (.iconst 0, 1)) rfl rfl ?_
  show m_run Z (274, 338, [(2, ((r0 : Nat) : Int)), l1, l2, l3], [(0, 0), (0, 4), (2, ((r0 : Nat) : Int))], h) = _
  exact g_inv (k := 0) (m' := 265) (np := 3) (as := [(2, ((r0 : Nat) : Int)), (0, 4), (0, 0)]) (by decide +kernel : decode (m_byt 274) 338 = .ok (.invokestatic 179, 3)) (Or.inr (Or.inr ⟨rfl, rfl, by decide, by decide⟩)) (by decide +kernel) (by decide +kernel) (by decide +kernel) (Nat.le_of_ble_eq_true rfl) rfl (Or.inl rfl)
theorem b_274_341 {Z : mZ} {l0 l1 l2 l3 : mV} {s0 : Int} {h : mH} : m_run Z (274, 341, [l0, l1, l2, l3], [(0, s0)], h) = if w32 s0 = w32 (-51) then m_run Z (274, 346, [l0, l1, l2, l3], [], h) else m_run Z (274, 440, [l0, l1, l2, l3], [], h) := by
  refine g_base (by decide +kernel : decode (m_byt 274) 341 = .ok (.bipush (-51), 2)) rfl rfl ?_
  show m_run Z (274, 343, [l0, l1, l2, l3], [(0, (-51)), (0, s0)], h) = _
  exact g_brn (t := 440) (off := 97) (by decide +kernel : decode (m_byt 274) 343 = .ok (.if_icmp .ne 97, 3)) rfl rfl (by decide)
theorem b_274_346 {Z : mZ} {l1 l2 l3 : mV} {r0 : Nat} {h : mH} : m_run Z (274, 346, [(2, ((r0 : Nat) : Int)), l1, l2, l3], [], h) = (m_cl Z 266 [(2, ((r0 : Nat) : Int)), (0, 2), (0, 2)] h).bind (m_aft (m_run Z) 274 349 [(2, ((r0 : Nat) : Int)), l1, l2, l3] []) := by
  refine g_aload_n (k := 0) (v := (2, ((r0 : Nat) : Int))) (by decide +kernel : decode (m_byt 274) 346 = .ok (.aload_n 0, 1)) rfl (Or.inl rfl) ?_
  refine g_base (by decide +kernel : decode (m_byt 274) 347 = .ok (.iconst 2, 1)) rfl rfl ?_
  show m_run Z (274, 348, [(2, ((r0 : Nat) : Int)), l1, l2, l3], [(0, 2), (2, ((r0 : Nat) : Int))], h) = _
  refine g_base (by decide +kernel : decode (m_byt 274) 348 = .ok (.iconst 2, 1)) rfl rfl ?_
  show m_run Z (274, 349, [(2, ((r0 : Nat) : Int)), l1, l2, l3], [(0, 2), (0, 2), (2, ((r0 : Nat) : Int))], h) = _
  exact g_inv (k := 0) (m' := 266) (np := 3) (as := [(2, ((r0 : Nat) : Int)), (0, 2), (0, 2)]) (by decide +kernel : decode (m_byt 274) 349 = .ok (.invokestatic 181, 3)) (Or.inr (Or.inr ⟨rfl, rfl, by decide, by decide⟩)) (by decide +kernel) (by decide +kernel) (by decide +kernel) (Nat.le_of_ble_eq_true rfl) rfl (Or.inl rfl)
theorem b_274_352 {Z : mZ} {l0 l1 l2 l3 : mV} {s0 : Int} {h : mH} : m_run Z (274, 352, [l0, l1, l2, l3], [(0, s0)], h) = if w32 s0 = w32 (-51) then m_run Z (274, 357, [l0, l1, l2, l3], [], h) else m_run Z (274, 440, [l0, l1, l2, l3], [], h) := by
  refine g_base (by decide +kernel : decode (m_byt 274) 352 = .ok (.bipush (-51), 2)) rfl rfl ?_
  show m_run Z (274, 354, [l0, l1, l2, l3], [(0, (-51)), (0, s0)], h) = _
  exact g_brn (t := 440) (off := 86) (by decide +kernel : decode (m_byt 274) 354 = .ok (.if_icmp .ne 86, 3)) rfl rfl (by decide)
theorem b_274_357 {Z : mZ} {l1 l2 l3 : mV} {r0 : Nat} {h : mH} : m_run Z (274, 357, [(2, ((r0 : Nat) : Int)), l1, l2, l3], [], h) = (m_cl Z 267 [(2, ((r0 : Nat) : Int)), (0, (-1)), (0, 1)] h).bind (m_aft (m_run Z) 274 360 [(2, ((r0 : Nat) : Int)), l1, l2, l3] []) := by
  refine g_aload_n (k := 0) (v := (2, ((r0 : Nat) : Int))) (by decide +kernel : decode (m_byt 274) 357 = .ok (.aload_n 0, 1)) rfl (Or.inl rfl) ?_
  refine g_base (by decide +kernel : decode (m_byt 274) 358 = .ok (.iconst (-1), 1)) rfl rfl ?_
  show m_run Z (274, 359, [(2, ((r0 : Nat) : Int)), l1, l2, l3], [(0, (-1)), (2, ((r0 : Nat) : Int))], h) = _
  refine g_base (by decide +kernel : decode (m_byt 274) 359 = .ok (.iconst 1, 1)) rfl rfl ?_
  show m_run Z (274, 360, [(2, ((r0 : Nat) : Int)), l1, l2, l3], [(0, 1), (0, (-1)), (2, ((r0 : Nat) : Int))], h) = _
  exact g_inv (k := 0) (m' := 267) (np := 3) (as := [(2, ((r0 : Nat) : Int)), (0, (-1)), (0, 1)]) (by decide +kernel : decode (m_byt 274) 360 = .ok (.invokestatic 183, 3)) (Or.inr (Or.inr ⟨rfl, rfl, by decide, by decide⟩)) (by decide +kernel) (by decide +kernel) (by decide +kernel) (Nat.le_of_ble_eq_true rfl) rfl (Or.inl rfl)
theorem b_274_363 {Z : mZ} {l0 l1 l2 l3 : mV} {s0 : Int} {h : mH} : m_run Z (274, 363, [l0, l1, l2, l3], [(0, s0)], h) = if w32 s0 = w32 (-51) then m_run Z (274, 368, [l0, l1, l2, l3], [], h) else m_run Z (274, 440, [l0, l1, l2, l3], [], h) := by
  refine g_base (by decide +kernel : decode (m_byt 274) 363 = .ok (.bipush (-51), 2)) rfl rfl ?_
  show m_run Z (274, 365, [l0, l1, l2, l3], [(0, (-51)), (0, s0)], h) = _
  exact g_brn (t := 440) (off := 75) (by decide +kernel : decode (m_byt 274) 365 = .ok (.if_icmp .ne 75, 3)) rfl rfl (by decide)
theorem b_274_368 {Z : mZ} {l1 l2 l3 : mV} {r0 : Nat} {h : mH} : m_run Z (274, 368, [(2, ((r0 : Nat) : Int)), l1, l2, l3], [], h) = (m_cl Z 267 [(2, ((r0 : Nat) : Int)), (0, 1), (0, 0)] h).bind (m_aft (m_run Z) 274 371 [(2, ((r0 : Nat) : Int)), l1, l2, l3] []) := by
  refine g_aload_n (k := 0) (v := (2, ((r0 : Nat) : Int))) (by decide +kernel : decode (m_byt 274) 368 = .ok (.aload_n 0, 1)) rfl (Or.inl rfl) ?_
  refine g_base (by decide +kernel : decode (m_byt 274) 369 = .ok (.iconst 1, 1)) rfl rfl ?_
  show m_run Z (274, 370, [(2, ((r0 : Nat) : Int)), l1, l2, l3], [(0, 1), (2, ((r0 : Nat) : Int))], h) = _
  refine g_base (by decide +kernel : decode (m_byt 274) 370 = .ok (.iconst 0, 1)) rfl rfl ?_
  show m_run Z (274, 371, [(2, ((r0 : Nat) : Int)), l1, l2, l3], [(0, 0), (0, 1), (2, ((r0 : Nat) : Int))], h) = _
  exact g_inv (k := 0) (m' := 267) (np := 3) (as := [(2, ((r0 : Nat) : Int)), (0, 1), (0, 0)]) (by decide +kernel : decode (m_byt 274) 371 = .ok (.invokestatic 183, 3)) (Or.inr (Or.inr ⟨rfl, rfl, by decide, by decide⟩)) (by decide +kernel) (by decide +kernel) (by decide +kernel) (Nat.le_of_ble_eq_true rfl) rfl (Or.inl rfl)
theorem b_274_374 {Z : mZ} {l0 l1 l2 l3 : mV} {s0 : Int} {h : mH} : m_run Z (274, 374, [l0, l1, l2, l3], [(0, s0)], h) = if w32 s0 = w32 (-51) then m_run Z (274, 379, [l0, l1, l2, l3], [], h) else m_run Z (274, 440, [l0, l1, l2, l3], [], h) := by
  refine g_base (by decide +kernel : decode (m_byt 274) 374 = .ok (.bipush (-51), 2)) rfl rfl ?_
  show m_run Z (274, 376, [l0, l1, l2, l3], [(0, (-51)), (0, s0)], h) = _
  exact g_brn (t := 440) (off := 64) (by decide +kernel : decode (m_byt 274) 376 = .ok (.if_icmp .ne 64, 3)) rfl rfl (by decide)
theorem b_274_379 {Z : mZ} {l1 l2 l3 : mV} {r0 : Nat} {h : mH} : m_run Z (274, 379, [(2, ((r0 : Nat) : Int)), l1, l2, l3], [], h) = (m_cl Z 268 [(2, ((r0 : Nat) : Int)), (0, 12), (0, 0), (0, 0)] h).bind (m_aft (m_run Z) 274 384 [(2, ((r0 : Nat) : Int)), l1, l2, l3] []) := by
  refine g_aload_n (k := 0) (v := (2, ((r0 : Nat) : Int))) (by decide +kernel : decode (m_byt 274) 379 = .ok (.aload_n 0, 1)) rfl (Or.inl rfl) ?_
  refine g_base (by decide +kernel : decode (m_byt 274) 380 = .ok (.bipush 12, 2)) rfl rfl ?_
  show m_run Z (274, 382, [(2, ((r0 : Nat) : Int)), l1, l2, l3], [(0, 12), (2, ((r0 : Nat) : Int))], h) = _
  refine g_base (by decide +kernel : decode (m_byt 274) 382 = .ok (.iconst 0, 1)) rfl rfl ?_
  show m_run Z (274, 383, [(2, ((r0 : Nat) : Int)), l1, l2, l3], [(0, 0), (0, 12), (2, ((r0 : Nat) : Int))], h) = _
  refine g_base (by decide +kernel : decode (m_byt 274) 383 = .ok (.iconst 0, 1)) rfl rfl ?_
  show m_run Z (274, 384, [(2, ((r0 : Nat) : Int)), l1, l2, l3], [(0, 0), (0, 0), (0, 12), (2, ((r0 : Nat) : Int))], h) = _
  exact g_inv (k := 0) (m' := 268) (np := 4) (as := [(2, ((r0 : Nat) : Int)), (0, 12), (0, 0), (0, 0)]) (by decide +kernel : decode (m_byt 274) 384 = .ok (.invokestatic 185, 3)) (Or.inr (Or.inr ⟨rfl, rfl, by decide, by decide⟩)) (by decide +kernel) (by decide +kernel) (by decide +kernel) (Nat.le_of_ble_eq_true rfl) rfl (Or.inl rfl)
theorem b_274_387 {Z : mZ} {l0 l1 l2 l3 : mV} {s0 : Int} {h : mH} : m_run Z (274, 387, [l0, l1, l2, l3], [(0, s0)], h) = if w32 s0 = w32 (-53) then m_run Z (274, 392, [l0, l1, l2, l3], [], h) else m_run Z (274, 440, [l0, l1, l2, l3], [], h) := by
  refine g_base (by decide +kernel : decode (m_byt 274) 387 = .ok (.bipush (-53), 2)) rfl rfl ?_
  show m_run Z (274, 389, [l0, l1, l2, l3], [(0, (-53)), (0, s0)], h) = _
  exact g_brn (t := 440) (off := 51) (by decide +kernel : decode (m_byt 274) 389 = .ok (.if_icmp .ne 51, 3)) rfl rfl (by decide)
theorem b_274_392 {Z : mZ} {l1 l2 l3 : mV} {r0 : Nat} {h : mH} : m_run Z (274, 392, [(2, ((r0 : Nat) : Int)), l1, l2, l3], [], h) = (m_cl Z 269 [(2, ((r0 : Nat) : Int)), (0, 11), (0, 0)] h).bind (m_aft (m_run Z) 274 396 [(2, ((r0 : Nat) : Int)), l1, l2, l3] []) := by
  refine g_aload_n (k := 0) (v := (2, ((r0 : Nat) : Int))) (by decide +kernel : decode (m_byt 274) 392 = .ok (.aload_n 0, 1)) rfl (Or.inl rfl) ?_
  refine g_base (by decide +kernel : decode (m_byt 274) 393 = .ok (.bipush 11, 2)) rfl rfl ?_
  show m_run Z (274, 395, [(2, ((r0 : Nat) : Int)), l1, l2, l3], [(0, 11), (2, ((r0 : Nat) : Int))], h) = _
  refine g_base (by decide +kernel : decode (m_byt 274) 395 = .ok (.iconst 0, 1)) rfl rfl ?_
  show m_run Z (274, 396, [(2, ((r0 : Nat) : Int)), l1, l2, l3], [(0, 0), (0, 11), (2, ((r0 : Nat) : Int))], h) = _
  exact g_inv (k := 0) (m' := 269) (np := 3) (as := [(2, ((r0 : Nat) : Int)), (0, 11), (0, 0)]) (by decide +kernel : decode (m_byt 274) 396 = .ok (.invokestatic 187, 3)) (Or.inr (Or.inr ⟨rfl, rfl, by decide, by decide⟩)) (by decide +kernel) (by decide +kernel) (by decide +kernel) (Nat.le_of_ble_eq_true rfl) rfl (Or.inl rfl)
theorem b_274_399 {Z : mZ} {l0 l1 l2 l3 : mV} {s0 : Int} {h : mH} : m_run Z (274, 399, [l0, l1, l2, l3], [(0, s0)], h) = if w32 s0 = w32 (-51) then m_run Z (274, 404, [l0, l1, l2, l3], [], h) else m_run Z (274, 440, [l0, l1, l2, l3], [], h) := by
  refine g_base (by decide +kernel : decode (m_byt 274) 399 = .ok (.bipush (-51), 2)) rfl rfl ?_
  show m_run Z (274, 401, [l0, l1, l2, l3], [(0, (-51)), (0, s0)], h) = _
  exact g_brn (t := 440) (off := 39) (by decide +kernel : decode (m_byt 274) 401 = .ok (.if_icmp .ne 39, 3)) rfl rfl (by decide)
theorem b_274_404 {Z : mZ} {l1 l2 l3 : mV} {r0 : Nat} {h : mH} : m_run Z (274, 404, [(2, ((r0 : Nat) : Int)), l1, l2, l3], [], h) = (m_cl Z 270 [(2, ((r0 : Nat) : Int)), (0, 12), (0, 0)] h).bind (m_aft (m_run Z) 274 408 [(2, ((r0 : Nat) : Int)), l1, l2, l3] []) := by
  refine g_aload_n (k := 0) (v := (2, ((r0 : Nat) : Int))) (by decide +kernel : decode (m_byt 274) 404 = .ok (.aload_n 0, 1)) rfl (Or.inl rfl) ?_
  refine g_base (by decide +kernel : decode (m_byt 274) 405 = .ok (.bipush 12, 2)) rfl rfl ?_
  show m_run Z (274, 407, [(2, ((r0 : Nat) : Int)), l1, l2, l3], [(0, 12), (2, ((r0 : Nat) : Int))], h) = _
  refine g_base (by decide +kernel : decode (m_byt 274) 407 = .ok (.iconst 0, 1)) rfl rfl ?_
  show m_run Z (274, 408, [(2, ((r0 : Nat) : Int)), l1, l2, l3], [(0, 0), (0, 12), (2, ((r0 : Nat) : Int))], h) = _
  exact g_inv (k := 0) (m' := 270) (np := 3) (as := [(2, ((r0 : Nat) : Int)), (0, 12), (0, 0)]) (by decide +kernel : decode (m_byt 274) 408 = .ok (.invokestatic 189, 3)) (Or.inr (Or.inr ⟨rfl, rfl, by decide, by decide⟩)) (by decide +kernel) (by decide +kernel) (by decide +kernel) (Nat.le_of_ble_eq_true rfl) rfl (Or.inl rfl)
theorem b_274_411 {Z : mZ} {l0 l1 l2 l3 : mV} {s0 : Int} {h : mH} : m_run Z (274, 411, [l0, l1, l2, l3], [(0, s0)], h) = if w32 s0 = w32 (-53) then m_run Z (274, 416, [l0, l1, l2, l3], [], h) else m_run Z (274, 440, [l0, l1, l2, l3], [], h) := by
  refine g_base (by decide +kernel : decode (m_byt 274) 411 = .ok (.bipush (-53), 2)) rfl rfl ?_
  show m_run Z (274, 413, [l0, l1, l2, l3], [(0, (-53)), (0, s0)], h) = _
  exact g_brn (t := 440) (off := 27) (by decide +kernel : decode (m_byt 274) 413 = .ok (.if_icmp .ne 27, 3)) rfl rfl (by decide)
theorem b_274_416 {Z : mZ} {l1 l2 l3 : mV} {r0 : Nat} {h : mH} : m_run Z (274, 416, [(2, ((r0 : Nat) : Int)), l1, l2, l3], [], h) = (m_cl Z 271 [(2, ((r0 : Nat) : Int)), (0, 31)] h).bind (m_aft (m_run Z) 274 419 [(2, ((r0 : Nat) : Int)), l1, l2, l3] []) := by
  refine g_aload_n (k := 0) (v := (2, ((r0 : Nat) : Int))) (by decide +kernel : decode (m_byt 274) 416 = .ok (.aload_n 0, 1)) rfl (Or.inl rfl) ?_
  refine g_base (by decide +kernel : decode (m_byt 274) 417 = .ok (.bipush 31, 2)) rfl rfl ?_
  show m_run Z (274, 419, [(2, ((r0 : Nat) : Int)), l1, l2, l3], [(0, 31), (2, ((r0 : Nat) : Int))], h) = _
  exact g_inv (k := 0) (m' := 271) (np := 2) (as := [(2, ((r0 : Nat) : Int)), (0, 31)]) (by decide +kernel : decode (m_byt 274) 419 = .ok (.invokestatic 191, 3)) (Or.inr (Or.inr ⟨rfl, rfl, by decide, by decide⟩)) (by decide +kernel) (by decide +kernel) (by decide +kernel) (Nat.le_of_ble_eq_true rfl) rfl (Or.inl rfl)
theorem b_274_422 {Z : mZ} {l0 l1 l2 l3 : mV} {s0 : Int} {h : mH} : m_run Z (274, 422, [l0, l1, l2, l3], [(0, s0)], h) = if w32 s0 = w32 (-51) then m_run Z (274, 427, [l0, l1, l2, l3], [], h) else m_run Z (274, 440, [l0, l1, l2, l3], [], h) := by
  refine g_base (by decide +kernel : decode (m_byt 274) 422 = .ok (.bipush (-51), 2)) rfl rfl ?_
  show m_run Z (274, 424, [l0, l1, l2, l3], [(0, (-51)), (0, s0)], h) = _
  exact g_brn (t := 440) (off := 16) (by decide +kernel : decode (m_byt 274) 424 = .ok (.if_icmp .ne 16, 3)) rfl rfl (by decide)
theorem b_274_427 {Z : mZ} {l1 l2 l3 : mV} {r0 : Nat} {h : mH} : m_run Z (274, 427, [(2, ((r0 : Nat) : Int)), l1, l2, l3], [], h) = (m_cl Z 273 [(2, ((r0 : Nat) : Int))] h).bind (m_aft (m_run Z) 274 428 [(2, ((r0 : Nat) : Int)), l1, l2, l3] []) := by
  refine g_aload_n (k := 0) (v := (2, ((r0 : Nat) : Int))) (by decide +kernel : decode (m_byt 274) 427 = .ok (.aload_n 0, 1)) rfl (Or.inl rfl) ?_
  exact g_inv (k := 0) (m' := 273) (np := 1) (as := [(2, ((r0 : Nat) : Int))]) (by decide +kernel : decode (m_byt 274) 428 = .ok (.invokestatic 131, 3)) (Or.inr (Or.inr ⟨rfl, rfl, by decide, by decide⟩)) (by decide +kernel) (by decide +kernel) (by decide +kernel) (Nat.le_of_ble_eq_true rfl) rfl (Or.inl rfl)
theorem b_274_431 {Z : mZ} {l0 l2 l3 : mV} {s0 x1 : Int} {h : mH} : m_run Z (274, 431, [l0, (1, x1), l2, l3], [(1, s0)], h) = if w32 (l_cmp s0 x1) = 0 then m_run Z (274, 436, [l0, (1, x1), l2, l3], [], h) else m_run Z (274, 440, [l0, (1, x1), l2, l3], [], h) := by
  refine g_lload_n (k := 1) (x := x1) (by decide +kernel : decode (m_byt 274) 431 = .ok (.lload_n 1, 1)) rfl ?_
  refine g_base (by decide +kernel : decode (m_byt 274) 432 = .ok (.lcmp, 1)) rfl rfl ?_
  show m_run Z (274, 433, [l0, (1, x1), l2, l3], [(0, (l_cmp s0 x1))], h) = _
  exact g_brn (t := 440) (off := 7) (by decide +kernel : decode (m_byt 274) 433 = .ok (.ifCond .ne 7, 3)) rfl rfl (by decide)
theorem b_274_436 {Z : mZ} {l0 l1 l2 l3 : mV} {h : mH} : m_run Z (274, 436, [l0, l1, l2, l3], [], h) = some (.inl (0, 1), h) := by
  refine g_base (by decide +kernel : decode (m_byt 274) 436 = .ok (.iconst 1, 1)) rfl rfl ?_
  show m_run Z (274, 437, [l0, l1, l2, l3], [(0, 1)], h) = _
  refine g_jmp (t := 441) (by decide +kernel : decode (m_byt 274) 437 = .ok (.goto 4, 3)) (by decide) ?_
  exact g_zret (by decide +kernel : decode (m_byt 274) 441 = .ok (.ireturn, 1)) (by decide +kernel) (by decide)
theorem b_274_440 {Z : mZ} {l0 l1 l2 l3 : mV} {h : mH} : m_run Z (274, 440, [l0, l1, l2, l3], [], h) = m_run Z (274, 441, [l0, l1, l2, l3], [(0, 0)], h) := by
  refine g_base (by decide +kernel : decode (m_byt 274) 440 = .ok (.iconst 0, 1)) rfl rfl ?_
  show m_run Z (274, 441, [l0, l1, l2, l3], [(0, 0)], h) = _
  rfl
theorem b_274_441 {Z : mZ} {l0 l1 l2 l3 : mV} {s0 : Int} {h : mH} (h0 : w32 s0 = 0 ∨ w32 s0 = 1) : m_run Z (274, 441, [l0, l1, l2, l3], [(0, s0)], h) = some (.inl (0, s0), h) := by
  exact g_zret (by decide +kernel : decode (m_byt 274) 441 = .ok (.ireturn, 1)) (by decide +kernel) h0
theorem e_275 {Z : mZ} {x0 : Int} {x1 : Int} {h : mH} : m_cl Z 275 [(0, x0), (0, x1)] h = m_run Z (275, 0, [(0, x0), (0, x1)], [], h) := g_ent (k := 2) (by decide) (by decide +kernel) (Nat.le_of_ble_eq_true rfl) (by decide +kernel) rfl
theorem b_275_0 {Z : mZ} {x0 x1 : Int} {h : mH} : m_run Z (275, 0, [(0, x0), (0, x1)], [], h) = if w32 (i_and (i_shr x0 x1) 1) = w32 1 then m_run Z (275, 9, [(0, x0), (0, x1)], [], h) else m_run Z (275, 13, [(0, x0), (0, x1)], [], h) := by
  refine g_iload_n (k := 0) (x := x0) (by decide +kernel : decode (m_byt 275) 0 = .ok (.iload_n 0, 1)) rfl ?_
  refine g_iload_n (k := 1) (x := x1) (by decide +kernel : decode (m_byt 275) 1 = .ok (.iload_n 1, 1)) rfl ?_
  refine g_base (by decide +kernel : decode (m_byt 275) 2 = .ok (.ishr, 1)) rfl rfl ?_
  show m_run Z (275, 3, [(0, x0), (0, x1)], [(0, (i_shr x0 x1))], h) = _
  refine g_base (by decide +kernel : decode (m_byt 275) 3 = .ok (.iconst 1, 1)) rfl rfl ?_
  show m_run Z (275, 4, [(0, x0), (0, x1)], [(0, 1), (0, (i_shr x0 x1))], h) = _
  refine g_base (by decide +kernel : decode (m_byt 275) 4 = .ok (.iand, 1)) rfl rfl ?_
  show m_run Z (275, 5, [(0, x0), (0, x1)], [(0, (i_and (i_shr x0 x1) 1))], h) = _
  refine g_base (by decide +kernel : decode (m_byt 275) 5 = .ok (.iconst 1, 1)) rfl rfl ?_
  show m_run Z (275, 6, [(0, x0), (0, x1)], [(0, 1), (0, (i_and (i_shr x0 x1) 1))], h) = _
  exact g_brn (t := 13) (off := 7) (by decide +kernel : decode (m_byt 275) 6 = .ok (.if_icmp .ne 7, 3)) rfl rfl (by decide)
theorem b_275_9 {Z : mZ} {l0 l1 : mV} {h : mH} : m_run Z (275, 9, [l0, l1], [], h) = some (.inl (0, 1), h) := by
  refine g_base (by decide +kernel : decode (m_byt 275) 9 = .ok (.iconst 1, 1)) rfl rfl ?_
  show m_run Z (275, 10, [l0, l1], [(0, 1)], h) = _
  refine g_jmp (t := 14) (by decide +kernel : decode (m_byt 275) 10 = .ok (.goto 4, 3)) (by decide) ?_
  exact g_zret (by decide +kernel : decode (m_byt 275) 14 = .ok (.ireturn, 1)) (by decide +kernel) (by decide)
theorem b_275_13 {Z : mZ} {l0 l1 : mV} {h : mH} : m_run Z (275, 13, [l0, l1], [], h) = m_run Z (275, 14, [l0, l1], [(0, 0)], h) := by
  refine g_base (by decide +kernel : decode (m_byt 275) 13 = .ok (.iconst 0, 1)) rfl rfl ?_
  show m_run Z (275, 14, [l0, l1], [(0, 0)], h) = _
  rfl
theorem b_275_14 {Z : mZ} {l0 l1 : mV} {s0 : Int} {h : mH} (h0 : w32 s0 = 0 ∨ w32 s0 = 1) : m_run Z (275, 14, [l0, l1], [(0, s0)], h) = some (.inl (0, s0), h) := by
  exact g_zret (by decide +kernel : decode (m_byt 275) 14 = .ok (.ireturn, 1)) (by decide +kernel) h0
theorem e_276 {Z : mZ} {x0 : Int} {x1 : Int} {x2 : Int} {x3 : Int} {h : mH} : m_cl Z 276 [(1, x0), (1, x1), (1, x2), (1, x3)] h = m_run Z (276, 0, [(1, x0), (9, 0), (1, x1), (9, 0), (1, x2), (9, 0), (1, x3), (9, 0)], [], h) := g_ent (k := 8) (by decide) (by decide +kernel) (Nat.le_of_ble_eq_true rfl) (by decide +kernel) rfl
theorem b_276_0 {Z : mZ} {l1 l3 l5 l7 : mV} {x0 x6 x4 x2 : Int} {h : mH} : m_run Z (276, 0, [(1, x0), l1, (1, x2), l3, (1, x4), l5, (1, x6), l7], [], h) = if 0 < w32 (l_cmp (x0 * x6) (x4 * x2)) then m_run Z (276, 16, [(1, x0), l1, (1, x2), l3, (1, x4), l5, (1, x6), l7], [], h) else m_run Z (276, 12, [(1, x0), l1, (1, x2), l3, (1, x4), l5, (1, x6), l7], [], h) := by
  refine g_lload_n (k := 0) (x := x0) (by decide +kernel : decode (m_byt 276) 0 = .ok (.lload_n 0, 1)) rfl ?_
  refine g_lload (k := 6) (x := x6) (by decide +kernel : decode (m_byt 276) 1 = .ok (.lload 6, 2)) rfl ?_
  refine g_base (by decide +kernel : decode (m_byt 276) 3 = .ok (.lmul, 1)) rfl rfl ?_
  show m_run Z (276, 4, [(1, x0), l1, (1, x2), l3, (1, x4), l5, (1, x6), l7], [(1, (x0 * x6))], h) = _
  refine g_lload (k := 4) (x := x4) (by decide +kernel : decode (m_byt 276) 4 = .ok (.lload 4, 2)) rfl ?_
  refine g_lload_n (k := 2) (x := x2) (by decide +kernel : decode (m_byt 276) 6 = .ok (.lload_n 2, 1)) rfl ?_
  refine g_base (by decide +kernel : decode (m_byt 276) 7 = .ok (.lmul, 1)) rfl rfl ?_
  show m_run Z (276, 8, [(1, x0), l1, (1, x2), l3, (1, x4), l5, (1, x6), l7], [(1, (x4 * x2)), (1, (x0 * x6))], h) = _
  refine g_base (by decide +kernel : decode (m_byt 276) 8 = .ok (.lcmp, 1)) rfl rfl ?_
  show m_run Z (276, 9, [(1, x0), l1, (1, x2), l3, (1, x4), l5, (1, x6), l7], [(0, (l_cmp (x0 * x6) (x4 * x2)))], h) = _
  exact g_brq (t := 16) (off := 7) (by decide +kernel : decode (m_byt 276) 9 = .ok (.ifCond .gt 7, 3)) rfl rfl (by decide)
theorem b_276_12 {Z : mZ} {l0 l1 l2 l3 l4 l5 l6 l7 : mV} {h : mH} : m_run Z (276, 12, [l0, l1, l2, l3, l4, l5, l6, l7], [], h) = some (.inl (0, 1), h) := by
  refine g_base (by decide +kernel : decode (m_byt 276) 12 = .ok (.iconst 1, 1)) rfl rfl ?_
  show m_run Z (276, 13, [l0, l1, l2, l3, l4, l5, l6, l7], [(0, 1)], h) = _
  refine g_jmp (t := 17) (by decide +kernel : decode (m_byt 276) 13 = .ok (.goto 4, 3)) (by decide) ?_
  exact g_zret (by decide +kernel : decode (m_byt 276) 17 = .ok (.ireturn, 1)) (by decide +kernel) (by decide)
theorem b_276_16 {Z : mZ} {l0 l1 l2 l3 l4 l5 l6 l7 : mV} {h : mH} : m_run Z (276, 16, [l0, l1, l2, l3, l4, l5, l6, l7], [], h) = m_run Z (276, 17, [l0, l1, l2, l3, l4, l5, l6, l7], [(0, 0)], h) := by
  refine g_base (by decide +kernel : decode (m_byt 276) 16 = .ok (.iconst 0, 1)) rfl rfl ?_
  show m_run Z (276, 17, [l0, l1, l2, l3, l4, l5, l6, l7], [(0, 0)], h) = _
  rfl
theorem b_276_17 {Z : mZ} {l0 l1 l2 l3 l4 l5 l6 l7 : mV} {s0 : Int} {h : mH} (h0 : w32 s0 = 0 ∨ w32 s0 = 1) : m_run Z (276, 17, [l0, l1, l2, l3, l4, l5, l6, l7], [(0, s0)], h) = some (.inl (0, s0), h) := by
  exact g_zret (by decide +kernel : decode (m_byt 276) 17 = .ok (.ireturn, 1)) (by decide +kernel) h0
theorem e_277 {Z : mZ} {r0 : Nat} {h : mH} : m_cl Z 277 [(2, ((r0 : Nat) : Int))] h = m_run Z (277, 0, [(2, ((r0 : Nat) : Int)), (9, 0), (9, 0), (9, 0), (9, 0), (9, 0), (9, 0), (9, 0), (9, 0), (9, 0)], [], h) := g_ent (k := 10) (by decide) (by decide +kernel) (Nat.le_of_ble_eq_true rfl) (by decide +kernel) rfl
theorem b_277_0 {Z : mZ} {l1 l2 l3 l4 l5 l6 l7 l8 l9 : mV} {r0 : Nat} {h : mH} : m_run Z (277, 0, [(2, ((r0 : Nat) : Int)), l1, l2, l3, l4, l5, l6, l7, l8, l9], [], h) = (m_cl Z 250 [(2, ((r0 : Nat) : Int)), (0, 0)] h).bind (m_aft (m_run Z) 277 2 [(2, ((r0 : Nat) : Int)), l1, l2, l3, l4, l5, l6, l7, l8, l9] []) := by
  refine g_aload_n (k := 0) (v := (2, ((r0 : Nat) : Int))) (by decide +kernel : decode (m_byt 277) 0 = .ok (.aload_n 0, 1)) rfl (Or.inl rfl) ?_
  refine g_base (by decide +kernel : decode (m_byt 277) 1 = .ok (.iconst 0, 1)) rfl rfl ?_
  show m_run Z (277, 2, [(2, ((r0 : Nat) : Int)), l1, l2, l3, l4, l5, l6, l7, l8, l9], [(0, 0), (2, ((r0 : Nat) : Int))], h) = _
  exact g_inv (k := 0) (m' := 250) (np := 2) (as := [(2, ((r0 : Nat) : Int)), (0, 0)]) (by decide +kernel : decode (m_byt 277) 2 = .ok (.invokestatic 149, 3)) (Or.inr (Or.inr ⟨rfl, rfl, by decide, by decide⟩)) (by decide +kernel) (by decide +kernel) (by decide +kernel) (Nat.le_of_ble_eq_true rfl) rfl (Or.inl rfl)
theorem b_277_5 {Z : mZ} {l1 l2 l3 l4 l5 l6 l7 l8 l9 : mV} {s0 : Int} {r0 : Nat} {h : mH} : m_run Z (277, 5, [(2, ((r0 : Nat) : Int)), l1, l2, l3, l4, l5, l6, l7, l8, l9], [(0, s0)], h) = m_run Z (277, 16, [(2, ((r0 : Nat) : Int)), (0, s0), (0, 1), (0, 0), (0, 1), (0, 0), l6, l7, l8, l9], [], h) := by
  refine g_istore_n (k := 1) (by decide +kernel : decode (m_byt 277) 5 = .ok (.istore_n 1, 1)) (Nat.le_of_ble_eq_true rfl) ?_
  show m_run Z (277, 6, [(2, ((r0 : Nat) : Int)), (0, s0), l2, l3, l4, l5, l6, l7, l8, l9], [], h) = _
  refine g_base (by decide +kernel : decode (m_byt 277) 6 = .ok (.iconst 1, 1)) rfl rfl ?_
  show m_run Z (277, 7, [(2, ((r0 : Nat) : Int)), (0, s0), l2, l3, l4, l5, l6, l7, l8, l9], [(0, 1)], h) = _
  refine g_istore_n (k := 2) (by decide +kernel : decode (m_byt 277) 7 = .ok (.istore_n 2, 1)) (Nat.le_of_ble_eq_true rfl) ?_
  show m_run Z (277, 8, [(2, ((r0 : Nat) : Int)), (0, s0), (0, 1), l3, l4, l5, l6, l7, l8, l9], [], h) = _
  refine g_base (by decide +kernel : decode (m_byt 277) 8 = .ok (.iconst 0, 1)) rfl rfl ?_
  show m_run Z (277, 9, [(2, ((r0 : Nat) : Int)), (0, s0), (0, 1), l3, l4, l5, l6, l7, l8, l9], [(0, 0)], h) = _
  refine g_istore_n (k := 3) (by decide +kernel : decode (m_byt 277) 9 = .ok (.istore_n 3, 1)) (Nat.le_of_ble_eq_true rfl) ?_
  show m_run Z (277, 10, [(2, ((r0 : Nat) : Int)), (0, s0), (0, 1), (0, 0), l4, l5, l6, l7, l8, l9], [], h) = _
  refine g_base (by decide +kernel : decode (m_byt 277) 10 = .ok (.iconst 1, 1)) rfl rfl ?_
  show m_run Z (277, 11, [(2, ((r0 : Nat) : Int)), (0, s0), (0, 1), (0, 0), l4, l5, l6, l7, l8, l9], [(0, 1)], h) = _
  refine g_istore (k := 4) (by decide +kernel : decode (m_byt 277) 11 = .ok (.istore 4, 2)) (Nat.le_of_ble_eq_true rfl) ?_
  show m_run Z (277, 13, [(2, ((r0 : Nat) : Int)), (0, s0), (0, 1), (0, 0), (0, 1), l5, l6, l7, l8, l9], [], h) = _
  refine g_base (by decide +kernel : decode (m_byt 277) 13 = .ok (.iconst 0, 1)) rfl rfl ?_
  show m_run Z (277, 14, [(2, ((r0 : Nat) : Int)), (0, s0), (0, 1), (0, 0), (0, 1), l5, l6, l7, l8, l9], [(0, 0)], h) = _
  refine g_istore (k := 5) (by decide +kernel : decode (m_byt 277) 14 = .ok (.istore 5, 2)) (Nat.le_of_ble_eq_true rfl) ?_
  show m_run Z (277, 16, [(2, ((r0 : Nat) : Int)), (0, s0), (0, 1), (0, 0), (0, 1), (0, 0), l6, l7, l8, l9], [], h) = _
  rfl
theorem b_277_16 {Z : mZ} {l0 l2 l3 l4 l6 l7 l8 l9 : mV} {x5 x1 : Int} {h : mH} : m_run Z (277, 16, [l0, (0, x1), l2, l3, l4, (0, x5), l6, l7, l8, l9], [], h) = if w32 x1 ≤ w32 x5 then m_run Z (277, 281, [l0, (0, x1), l2, l3, l4, (0, x5), l6, l7, l8, l9], [], h) else m_run Z (277, 22, [l0, (0, x1), l2, l3, l4, (0, x5), l6, l7, l8, l9], [], h) := by
  refine g_iload (k := 5) (x := x5) (by decide +kernel : decode (m_byt 277) 16 = .ok (.iload 5, 2)) rfl ?_
  refine g_iload_n (k := 1) (x := x1) (by decide +kernel : decode (m_byt 277) 18 = .ok (.iload_n 1, 1)) rfl ?_
  exact g_brq (t := 281) (off := 262) (by decide +kernel : decode (m_byt 277) 19 = .ok (.if_icmp .ge 262, 3)) rfl rfl (by decide)
theorem b_277_22 {Z : mZ} {l0 l1 l3 l4 l5 l6 l7 l8 l9 : mV} {x2 : Int} {h : mH} : m_run Z (277, 22, [l0, l1, (0, x2), l3, l4, l5, l6, l7, l8, l9], [], h) = if w32 x2 = 0 then m_run Z (277, 281, [l0, l1, (0, x2), l3, l4, l5, l6, l7, l8, l9], [], h) else m_run Z (277, 26, [l0, l1, (0, x2), l3, l4, l5, l6, l7, l8, l9], [], h) := by
  refine g_iload_n (k := 2) (x := x2) (by decide +kernel : decode (m_byt 277) 22 = .ok (.iload_n 2, 1)) rfl ?_
  exact g_brq (t := 281) (off := 258) (by decide +kernel : decode (m_byt 277) 23 = .ok (.ifCond .eq 258, 3)) rfl rfl (by decide)
theorem b_277_26 {Z : mZ} {l0 l1 l2 l3 l4 l6 l7 l8 l9 : mV} {x5 : Int} {h : mH} : m_run Z (277, 26, [l0, l1, l2, l3, l4, (0, x5), l6, l7, l8, l9], [], h) = m_run Z (277, 29, [l0, l1, l2, l3, l4, (0, x5), (0, 0), l7, l8, l9], [], h) := by
  refine g_base (by decide +kernel : decode (m_byt 277) 26 = .ok (.iconst 0, 1)) rfl rfl ?_
  show m_run Z (277, 27, [l0, l1, l2, l3, l4, (0, x5), l6, l7, l8, l9], [(0, 0)], h) = _
  refine g_istore (k := 6) (by decide +kernel : decode (m_byt 277) 27 = .ok (.istore 6, 2)) (Nat.le_of_ble_eq_true rfl) ?_
  show m_run Z (277, 29, [l0, l1, l2, l3, l4, (0, x5), (0, 0), l7, l8, l9], [], h) = _
  rfl
theorem b_277_29 {Z : mZ} {l0 l2 l3 l4 l5 l7 l8 l9 : mV} {x6 x1 : Int} {h : mH} : m_run Z (277, 29, [l0, (0, x1), l2, l3, l4, l5, (0, x6), l7, l8, l9], [], h) = if w32 x1 ≤ w32 x6 then m_run Z (277, 275, [l0, (0, x1), l2, l3, l4, l5, (0, x6), l7, l8, l9], [], h) else m_run Z (277, 35, [l0, (0, x1), l2, l3, l4, l5, (0, x6), l7, l8, l9], [], h) := by
  refine g_iload (k := 6) (x := x6) (by decide +kernel : decode (m_byt 277) 29 = .ok (.iload 6, 2)) rfl ?_
  refine g_iload_n (k := 1) (x := x1) (by decide +kernel : decode (m_byt 277) 31 = .ok (.iload_n 1, 1)) rfl ?_
  exact g_brq (t := 275) (off := 243) (by decide +kernel : decode (m_byt 277) 32 = .ok (.if_icmp .ge 243, 3)) rfl rfl (by decide)
theorem b_277_35 {Z : mZ} {l0 l1 l3 l4 l5 l6 l7 l8 l9 : mV} {x2 : Int} {h : mH} : m_run Z (277, 35, [l0, l1, (0, x2), l3, l4, l5, l6, l7, l8, l9], [], h) = if w32 x2 = 0 then m_run Z (277, 275, [l0, l1, (0, x2), l3, l4, l5, l6, l7, l8, l9], [], h) else m_run Z (277, 39, [l0, l1, (0, x2), l3, l4, l5, l6, l7, l8, l9], [], h) := by
  refine g_iload_n (k := 2) (x := x2) (by decide +kernel : decode (m_byt 277) 35 = .ok (.iload_n 2, 1)) rfl ?_
  exact g_brq (t := 275) (off := 239) (by decide +kernel : decode (m_byt 277) 36 = .ok (.ifCond .eq 239, 3)) rfl rfl (by decide)
theorem b_277_39 {Z : mZ} {l1 l2 l3 l4 l7 l8 l9 : mV} {x5 x6 : Int} {r0 : Nat} {h : mH} : m_run Z (277, 39, [(2, ((r0 : Nat) : Int)), l1, l2, l3, l4, (0, x5), (0, x6), l7, l8, l9], [], h) = (m_cl Z 254 [(2, ((r0 : Nat) : Int)), (0, x5), (0, x6)] h).bind (m_aft (m_run Z) 277 44 [(2, ((r0 : Nat) : Int)), l1, l2, l3, l4, (0, x5), (0, x6), l7, l8, l9] []) := by
  refine g_aload_n (k := 0) (v := (2, ((r0 : Nat) : Int))) (by decide +kernel : decode (m_byt 277) 39 = .ok (.aload_n 0, 1)) rfl (Or.inl rfl) ?_
  refine g_iload (k := 5) (x := x5) (by decide +kernel : decode (m_byt 277) 40 = .ok (.iload 5, 2)) rfl ?_
  refine g_iload (k := 6) (x := x6) (by decide +kernel : decode (m_byt 277) 42 = .ok (.iload 6, 2)) rfl ?_
  exact g_inv (k := 0) (m' := 254) (np := 3) (as := [(2, ((r0 : Nat) : Int)), (0, x5), (0, x6)]) (by decide +kernel : decode (m_byt 277) 44 = .ok (.invokestatic 155, 3)) (Or.inr (Or.inr ⟨rfl, rfl, by decide, by decide⟩)) (by decide +kernel) (by decide +kernel) (by decide +kernel) (Nat.le_of_ble_eq_true rfl) rfl (Or.inl rfl)
theorem b_277_47 {Z : mZ} {l1 l2 l3 l4 l7 l8 l9 : mV} {s0 x6 x5 : Int} {r0 : Nat} {h : mH} : m_run Z (277, 47, [(2, ((r0 : Nat) : Int)), l1, l2, l3, l4, (0, x5), (0, x6), l7, l8, l9], [(0, s0)], h) = (m_cl Z 255 [(2, ((r0 : Nat) : Int)), (0, x5), (0, x6)] h).bind (m_aft (m_run Z) 277 54 [(2, ((r0 : Nat) : Int)), l1, l2, l3, l4, (0, x5), (0, x6), (0, s0), l8, l9] []) := by
  refine g_istore (k := 7) (by decide +kernel : decode (m_byt 277) 47 = .ok (.istore 7, 2)) (Nat.le_of_ble_eq_true rfl) ?_
  show m_run Z (277, 49, [(2, ((r0 : Nat) : Int)), l1, l2, l3, l4, (0, x5), (0, x6), (0, s0), l8, l9], [], h) = _
  refine g_aload_n (k := 0) (v := (2, ((r0 : Nat) : Int))) (by decide +kernel : decode (m_byt 277) 49 = .ok (.aload_n 0, 1)) rfl (Or.inl rfl) ?_
  refine g_iload (k := 5) (x := x5) (by decide +kernel : decode (m_byt 277) 50 = .ok (.iload 5, 2)) rfl ?_
  refine g_iload (k := 6) (x := x6) (by decide +kernel : decode (m_byt 277) 52 = .ok (.iload 6, 2)) rfl ?_
  exact g_inv (k := 0) (m' := 255) (np := 3) (as := [(2, ((r0 : Nat) : Int)), (0, x5), (0, x6)]) (by decide +kernel : decode (m_byt 277) 54 = .ok (.invokestatic 157, 3)) (Or.inr (Or.inr ⟨rfl, rfl, by decide, by decide⟩)) (by decide +kernel) (by decide +kernel) (by decide +kernel) (Nat.le_of_ble_eq_true rfl) rfl (Or.inl rfl)
theorem b_277_57 {Z : mZ} {l0 l1 l2 l4 l5 l6 l8 l9 : mV} {s0 x7 x3 : Int} {h : mH} : m_run Z (277, 57, [l0, l1, l2, (0, x3), l4, l5, l6, (0, x7), l8, l9], [(0, s0)], h) = if w32 x7 ≤ w32 x3 then m_run Z (277, 70, [l0, l1, l2, (0, x3), l4, l5, l6, (0, x7), (0, s0), l9], [], h) else m_run Z (277, 65, [l0, l1, l2, (0, x3), l4, l5, l6, (0, x7), (0, s0), l9], [], h) := by
  refine g_istore (k := 8) (by decide +kernel : decode (m_byt 277) 57 = .ok (.istore 8, 2)) (Nat.le_of_ble_eq_true rfl) ?_
  show m_run Z (277, 59, [l0, l1, l2, (0, x3), l4, l5, l6, (0, x7), (0, s0), l9], [], h) = _
  refine g_iload (k := 7) (x := x7) (by decide +kernel : decode (m_byt 277) 59 = .ok (.iload 7, 2)) rfl ?_
  refine g_iload_n (k := 3) (x := x3) (by decide +kernel : decode (m_byt 277) 61 = .ok (.iload_n 3, 1)) rfl ?_
  exact g_brq (t := 70) (off := 8) (by decide +kernel : decode (m_byt 277) 62 = .ok (.if_icmp .le 8, 3)) rfl rfl (by decide)
theorem b_277_65 {Z : mZ} {l0 l1 l3 l5 l6 l8 l9 : mV} {x7 x2 x4 : Int} {h : mH} : m_run Z (277, 65, [l0, l1, (0, x2), l3, (0, x4), l5, l6, (0, x7), l8, l9], [], h) = if w32 x4 = 0 then m_run Z (277, 87, [l0, l1, (0, x2), (0, x7), (0, x4), l5, l6, (0, x7), l8, l9], [], h) else m_run Z (277, 77, [l0, l1, (0, x2), (0, x7), (0, x4), l5, l6, (0, x7), l8, l9], [], h) := by
  refine g_iload (k := 7) (x := x7) (by decide +kernel : decode (m_byt 277) 65 = .ok (.iload 7, 2)) rfl ?_
  refine g_jmp (t := 71) (by decide +kernel : decode (m_byt 277) 67 = .ok (.goto 4, 3)) (by decide) ?_
  refine g_istore_n (k := 3) (by decide +kernel : decode (m_byt 277) 71 = .ok (.istore_n 3, 1)) (Nat.le_of_ble_eq_true rfl) ?_
  show m_run Z (277, 72, [l0, l1, (0, x2), (0, x7), (0, x4), l5, l6, (0, x7), l8, l9], [], h) = _
  refine g_iload (k := 4) (x := x4) (by decide +kernel : decode (m_byt 277) 72 = .ok (.iload 4, 2)) rfl ?_
  exact g_brq (t := 87) (off := 13) (by decide +kernel : decode (m_byt 277) 74 = .ok (.ifCond .eq 13, 3)) rfl rfl (by decide)
theorem b_277_70 {Z : mZ} {l0 l1 l2 l4 l5 l6 l7 l8 l9 : mV} {x3 : Int} {h : mH} : m_run Z (277, 70, [l0, l1, l2, (0, x3), l4, l5, l6, l7, l8, l9], [], h) = m_run Z (277, 71, [l0, l1, l2, (0, x3), l4, l5, l6, l7, l8, l9], [(0, x3)], h) := by
  refine g_iload_n (k := 3) (x := x3) (by decide +kernel : decode (m_byt 277) 70 = .ok (.iload_n 3, 1)) rfl ?_
  rfl
theorem b_277_71 {Z : mZ} {l0 l1 l3 l5 l6 l7 l8 l9 : mV} {s0 x2 x4 : Int} {h : mH} : m_run Z (277, 71, [l0, l1, (0, x2), l3, (0, x4), l5, l6, l7, l8, l9], [(0, s0)], h) = if w32 x4 = 0 then m_run Z (277, 87, [l0, l1, (0, x2), (0, s0), (0, x4), l5, l6, l7, l8, l9], [], h) else m_run Z (277, 77, [l0, l1, (0, x2), (0, s0), (0, x4), l5, l6, l7, l8, l9], [], h) := by
  refine g_istore_n (k := 3) (by decide +kernel : decode (m_byt 277) 71 = .ok (.istore_n 3, 1)) (Nat.le_of_ble_eq_true rfl) ?_
  show m_run Z (277, 72, [l0, l1, (0, x2), (0, s0), (0, x4), l5, l6, l7, l8, l9], [], h) = _
  refine g_iload (k := 4) (x := x4) (by decide +kernel : decode (m_byt 277) 72 = .ok (.iload 4, 2)) rfl ?_
  exact g_brq (t := 87) (off := 13) (by decide +kernel : decode (m_byt 277) 74 = .ok (.ifCond .eq 13, 3)) rfl rfl (by decide)
theorem b_277_77 {Z : mZ} {l0 l1 l2 l3 l4 l5 l6 l8 l9 : mV} {x7 : Int} {h : mH} : m_run Z (277, 77, [l0, l1, l2, l3, l4, l5, l6, (0, x7), l8, l9], [], h) = if w32 x7 = w32 (-1) then m_run Z (277, 87, [l0, l1, l2, l3, l4, l5, l6, (0, x7), l8, l9], [], h) else m_run Z (277, 83, [l0, l1, l2, l3, l4, l5, l6, (0, x7), l8, l9], [], h) := by
  refine g_iload (k := 7) (x := x7) (by decide +kernel : decode (m_byt 277) 77 = .ok (.iload 7, 2)) rfl ?_
  refine g_base (by decide +kernel : decode (m_byt 277) 79 = .ok (.iconst (-1), 1)) rfl rfl ?_
  show m_run Z (277, 80, [l0, l1, l2, l3, l4, l5, l6, (0, x7), l8, l9], [(0, (-1)), (0, x7)], h) = _
  exact g_brq (t := 87) (off := 7) (by decide +kernel : decode (m_byt 277) 80 = .ok (.if_icmp .eq 7, 3)) rfl rfl (by decide)
theorem b_277_83 {Z : mZ} {l1 l2 l4 l8 l9 : mV} {x3 x7 x6 x5 : Int} {r0 : Nat} {h : mH} : m_run Z (277, 83, [(2, ((r0 : Nat) : Int)), l1, l2, (0, x3), l4, (0, x5), (0, x6), (0, x7), l8, l9], [], h) = (m_cl Z 254 [(2, ((r0 : Nat) : Int)), (0, x6), (0, x5)] h).bind (m_aft (m_run Z) 277 97 [(2, ((r0 : Nat) : Int)), l1, l2, (0, x3), (0, 1), (0, x5), (0, x6), (0, x7), l8, l9] [(0, x7)]) := by
  refine g_base (by decide +kernel : decode (m_byt 277) 83 = .ok (.iconst 1, 1)) rfl rfl ?_
  show m_run Z (277, 84, [(2, ((r0 : Nat) : Int)), l1, l2, (0, x3), l4, (0, x5), (0, x6), (0, x7), l8, l9], [(0, 1)], h) = _
  refine g_jmp (t := 88) (by decide +kernel : decode (m_byt 277) 84 = .ok (.goto 4, 3)) (by decide) ?_
  refine g_istore (k := 4) (by decide +kernel : decode (m_byt 277) 88 = .ok (.istore 4, 2)) (Nat.le_of_ble_eq_true rfl) ?_
  show m_run Z (277, 90, [(2, ((r0 : Nat) : Int)), l1, l2, (0, x3), (0, 1), (0, x5), (0, x6), (0, x7), l8, l9], [], h) = _
  refine g_iload (k := 7) (x := x7) (by decide +kernel : decode (m_byt 277) 90 = .ok (.iload 7, 2)) rfl ?_
  refine g_aload_n (k := 0) (v := (2, ((r0 : Nat) : Int))) (by decide +kernel : decode (m_byt 277) 92 = .ok (.aload_n 0, 1)) rfl (Or.inl rfl) ?_
  refine g_iload (k := 6) (x := x6) (by decide +kernel : decode (m_byt 277) 93 = .ok (.iload 6, 2)) rfl ?_
  refine g_iload (k := 5) (x := x5) (by decide +kernel : decode (m_byt 277) 95 = .ok (.iload 5, 2)) rfl ?_
  exact g_inv (k := 0) (m' := 254) (np := 3) (as := [(2, ((r0 : Nat) : Int)), (0, x6), (0, x5)]) (by decide +kernel : decode (m_byt 277) 97 = .ok (.invokestatic 155, 3)) (Or.inr (Or.inr ⟨rfl, rfl, by decide, by decide⟩)) (by decide +kernel) (by decide +kernel) (by decide +kernel) (Nat.le_of_ble_eq_true rfl) rfl (Or.inl rfl)
theorem b_277_87 {Z : mZ} {l0 l1 l2 l3 l4 l5 l6 l7 l8 l9 : mV} {h : mH} : m_run Z (277, 87, [l0, l1, l2, l3, l4, l5, l6, l7, l8, l9], [], h) = m_run Z (277, 88, [l0, l1, l2, l3, l4, l5, l6, l7, l8, l9], [(0, 0)], h) := by
  refine g_base (by decide +kernel : decode (m_byt 277) 87 = .ok (.iconst 0, 1)) rfl rfl ?_
  show m_run Z (277, 88, [l0, l1, l2, l3, l4, l5, l6, l7, l8, l9], [(0, 0)], h) = _
  rfl
theorem b_277_88 {Z : mZ} {l1 l2 l4 l8 l9 : mV} {s0 x3 x7 x6 x5 : Int} {r0 : Nat} {h : mH} : m_run Z (277, 88, [(2, ((r0 : Nat) : Int)), l1, l2, (0, x3), l4, (0, x5), (0, x6), (0, x7), l8, l9], [(0, s0)], h) = (m_cl Z 254 [(2, ((r0 : Nat) : Int)), (0, x6), (0, x5)] h).bind (m_aft (m_run Z) 277 97 [(2, ((r0 : Nat) : Int)), l1, l2, (0, x3), (0, s0), (0, x5), (0, x6), (0, x7), l8, l9] [(0, x7)]) := by
  refine g_istore (k := 4) (by decide +kernel : decode (m_byt 277) 88 = .ok (.istore 4, 2)) (Nat.le_of_ble_eq_true rfl) ?_
  show m_run Z (277, 90, [(2, ((r0 : Nat) : Int)), l1, l2, (0, x3), (0, s0), (0, x5), (0, x6), (0, x7), l8, l9], [], h) = _
  refine g_iload (k := 7) (x := x7) (by decide +kernel : decode (m_byt 277) 90 = .ok (.iload 7, 2)) rfl ?_
  refine g_aload_n (k := 0) (v := (2, ((r0 : Nat) : Int))) (by decide +kernel : decode (m_byt 277) 92 = .ok (.aload_n 0, 1)) rfl (Or.inl rfl) ?_
  refine g_iload (k := 6) (x := x6) (by decide +kernel : decode (m_byt 277) 93 = .ok (.iload 6, 2)) rfl ?_
  refine g_iload (k := 5) (x := x5) (by decide +kernel : decode (m_byt 277) 95 = .ok (.iload 5, 2)) rfl ?_
  exact g_inv (k := 0) (m' := 254) (np := 3) (as := [(2, ((r0 : Nat) : Int)), (0, x6), (0, x5)]) (by decide +kernel : decode (m_byt 277) 97 = .ok (.invokestatic 155, 3)) (Or.inr (Or.inr ⟨rfl, rfl, by decide, by decide⟩)) (by decide +kernel) (by decide +kernel) (by decide +kernel) (Nat.le_of_ble_eq_true rfl) rfl (Or.inl rfl)
theorem b_277_100 {Z : mZ} {l0 l1 l2 l3 l4 l5 l6 l7 l8 l9 : mV} {s0 s1 : Int} {h : mH} : m_run Z (277, 100, [l0, l1, l2, l3, l4, l5, l6, l7, l8, l9], [(0, s0), (0, s1)], h) = if w32 s1 = w32 s0 then m_run Z (277, 103, [l0, l1, l2, l3, l4, l5, l6, l7, l8, l9], [], h) else m_run Z (277, 202, [l0, l1, l2, l3, l4, l5, l6, l7, l8, l9], [], h) := by
  exact g_brn (t := 202) (off := 102) (by decide +kernel : decode (m_byt 277) 100 = .ok (.if_icmp .ne 102, 3)) rfl rfl (by decide)
theorem b_277_103 {Z : mZ} {l0 l1 l2 l3 l4 l5 l6 l8 l9 : mV} {x7 : Int} {h : mH} : m_run Z (277, 103, [l0, l1, l2, l3, l4, l5, l6, (0, x7), l8, l9], [], h) = if w32 x7 = 0 then m_run Z (277, 108, [l0, l1, l2, l3, l4, l5, l6, (0, x7), l8, l9], [], h) else m_run Z (277, 112, [l0, l1, l2, l3, l4, l5, l6, (0, x7), l8, l9], [], h) := by
  refine g_iload (k := 7) (x := x7) (by decide +kernel : decode (m_byt 277) 103 = .ok (.iload 7, 2)) rfl ?_
  exact g_brn (t := 112) (off := 7) (by decide +kernel : decode (m_byt 277) 105 = .ok (.ifCond .ne 7, 3)) rfl rfl (by decide)
theorem b_277_108 {Z : mZ} {l0 l1 l2 l3 l4 l7 l8 l9 : mV} {x5 x6 : Int} {h : mH} : m_run Z (277, 108, [l0, l1, l2, l3, l4, (0, x5), (0, x6), l7, l8, l9], [], h) = if w32 x5 = w32 x6 then m_run Z (277, 120, [l0, l1, l2, l3, l4, (0, x5), (0, x6), l7, l8, l9], [(0, 1)], h) else m_run Z (277, 124, [l0, l1, l2, l3, l4, (0, x5), (0, x6), l7, l8, l9], [(0, 1)], h) := by
  refine g_base (by decide +kernel : decode (m_byt 277) 108 = .ok (.iconst 1, 1)) rfl rfl ?_
  show m_run Z (277, 109, [l0, l1, l2, l3, l4, (0, x5), (0, x6), l7, l8, l9], [(0, 1)], h) = _
  refine g_jmp (t := 113) (by decide +kernel : decode (m_byt 277) 109 = .ok (.goto 4, 3)) (by decide) ?_
  refine g_iload (k := 5) (x := x5) (by decide +kernel : decode (m_byt 277) 113 = .ok (.iload 5, 2)) rfl ?_
  refine g_iload (k := 6) (x := x6) (by decide +kernel : decode (m_byt 277) 115 = .ok (.iload 6, 2)) rfl ?_
  exact g_brn (t := 124) (off := 7) (by decide +kernel : decode (m_byt 277) 117 = .ok (.if_icmp .ne 7, 3)) rfl rfl (by decide)
theorem b_277_112 {Z : mZ} {l0 l1 l2 l3 l4 l5 l6 l7 l8 l9 : mV} {h : mH} : m_run Z (277, 112, [l0, l1, l2, l3, l4, l5, l6, l7, l8, l9], [], h) = m_run Z (277, 113, [l0, l1, l2, l3, l4, l5, l6, l7, l8, l9], [(0, 0)], h) := by
  refine g_base (by decide +kernel : decode (m_byt 277) 112 = .ok (.iconst 0, 1)) rfl rfl ?_
  show m_run Z (277, 113, [l0, l1, l2, l3, l4, l5, l6, l7, l8, l9], [(0, 0)], h) = _
  rfl
theorem b_277_113 {Z : mZ} {l0 l1 l2 l3 l4 l7 l8 l9 : mV} {s0 x5 x6 : Int} {h : mH} : m_run Z (277, 113, [l0, l1, l2, l3, l4, (0, x5), (0, x6), l7, l8, l9], [(0, s0)], h) = if w32 x5 = w32 x6 then m_run Z (277, 120, [l0, l1, l2, l3, l4, (0, x5), (0, x6), l7, l8, l9], [(0, s0)], h) else m_run Z (277, 124, [l0, l1, l2, l3, l4, (0, x5), (0, x6), l7, l8, l9], [(0, s0)], h) := by
  refine g_iload (k := 5) (x := x5) (by decide +kernel : decode (m_byt 277) 113 = .ok (.iload 5, 2)) rfl ?_
  refine g_iload (k := 6) (x := x6) (by decide +kernel : decode (m_byt 277) 115 = .ok (.iload 6, 2)) rfl ?_
  exact g_brn (t := 124) (off := 7) (by decide +kernel : decode (m_byt 277) 117 = .ok (.if_icmp .ne 7, 3)) rfl rfl (by decide)
theorem b_277_120 {Z : mZ} {l0 l1 l2 l3 l4 l5 l6 l7 l8 l9 : mV} {s0 : Int} {h : mH} : m_run Z (277, 120, [l0, l1, l2, l3, l4, l5, l6, l7, l8, l9], [(0, s0)], h) = if w32 s0 = w32 1 then m_run Z (277, 128, [l0, l1, l2, l3, l4, l5, l6, l7, l8, l9], [], h) else m_run Z (277, 202, [l0, l1, l2, l3, l4, l5, l6, l7, l8, l9], [], h) := by
  refine g_base (by decide +kernel : decode (m_byt 277) 120 = .ok (.iconst 1, 1)) rfl rfl ?_
  show m_run Z (277, 121, [l0, l1, l2, l3, l4, l5, l6, l7, l8, l9], [(0, 1), (0, s0)], h) = _
  refine g_jmp (t := 125) (by decide +kernel : decode (m_byt 277) 121 = .ok (.goto 4, 3)) (by decide) ?_
  exact g_brn (t := 202) (off := 77) (by decide +kernel : decode (m_byt 277) 125 = .ok (.if_icmp .ne 77, 3)) rfl rfl (by decide)
theorem b_277_124 {Z : mZ} {l0 l1 l2 l3 l4 l5 l6 l7 l8 l9 : mV} {s0 : Int} {h : mH} : m_run Z (277, 124, [l0, l1, l2, l3, l4, l5, l6, l7, l8, l9], [(0, s0)], h) = m_run Z (277, 125, [l0, l1, l2, l3, l4, l5, l6, l7, l8, l9], [(0, 0), (0, s0)], h) := by
  refine g_base (by decide +kernel : decode (m_byt 277) 124 = .ok (.iconst 0, 1)) rfl rfl ?_
  show m_run Z (277, 125, [l0, l1, l2, l3, l4, l5, l6, l7, l8, l9], [(0, 0), (0, s0)], h) = _
  rfl
theorem b_277_125 {Z : mZ} {l0 l1 l2 l3 l4 l5 l6 l7 l8 l9 : mV} {s0 s1 : Int} {h : mH} : m_run Z (277, 125, [l0, l1, l2, l3, l4, l5, l6, l7, l8, l9], [(0, s0), (0, s1)], h) = if w32 s1 = w32 s0 then m_run Z (277, 128, [l0, l1, l2, l3, l4, l5, l6, l7, l8, l9], [], h) else m_run Z (277, 202, [l0, l1, l2, l3, l4, l5, l6, l7, l8, l9], [], h) := by
  exact g_brn (t := 202) (off := 77) (by decide +kernel : decode (m_byt 277) 125 = .ok (.if_icmp .ne 77, 3)) rfl rfl (by decide)
theorem b_277_128 {Z : mZ} {l0 l1 l2 l3 l4 l5 l6 l7 l9 : mV} {x8 : Int} {h : mH} : m_run Z (277, 128, [l0, l1, l2, l3, l4, l5, l6, l7, (0, x8), l9], [], h) = if w32 x8 = w32 (-1) then m_run Z (277, 134, [l0, l1, l2, l3, l4, l5, l6, l7, (0, x8), l9], [], h) else m_run Z (277, 138, [l0, l1, l2, l3, l4, l5, l6, l7, (0, x8), l9], [], h) := by
  refine g_iload (k := 8) (x := x8) (by decide +kernel : decode (m_byt 277) 128 = .ok (.iload 8, 2)) rfl ?_
  refine g_base (by decide +kernel : decode (m_byt 277) 130 = .ok (.iconst (-1), 1)) rfl rfl ?_
  show m_run Z (277, 131, [l0, l1, l2, l3, l4, l5, l6, l7, (0, x8), l9], [(0, (-1)), (0, x8)], h) = _
  exact g_brn (t := 138) (off := 7) (by decide +kernel : decode (m_byt 277) 131 = .ok (.if_icmp .ne 7, 3)) rfl rfl (by decide)
theorem b_277_134 {Z : mZ} {l0 l1 l2 l3 l4 l5 l6 l8 l9 : mV} {x7 : Int} {h : mH} : m_run Z (277, 134, [l0, l1, l2, l3, l4, l5, l6, (0, x7), l8, l9], [], h) = if 0 < w32 x7 then m_run Z (277, 148, [l0, l1, l2, l3, l4, l5, l6, (0, x7), l8, l9], [(0, 1)], h) else m_run Z (277, 144, [l0, l1, l2, l3, l4, l5, l6, (0, x7), l8, l9], [(0, 1)], h) := by
  refine g_base (by decide +kernel : decode (m_byt 277) 134 = .ok (.iconst 1, 1)) rfl rfl ?_
  show m_run Z (277, 135, [l0, l1, l2, l3, l4, l5, l6, (0, x7), l8, l9], [(0, 1)], h) = _
  refine g_jmp (t := 139) (by decide +kernel : decode (m_byt 277) 135 = .ok (.goto 4, 3)) (by decide) ?_
  refine g_iload (k := 7) (x := x7) (by decide +kernel : decode (m_byt 277) 139 = .ok (.iload 7, 2)) rfl ?_
  exact g_brq (t := 148) (off := 7) (by decide +kernel : decode (m_byt 277) 141 = .ok (.ifCond .gt 7, 3)) rfl rfl (by decide)
theorem b_277_138 {Z : mZ} {l0 l1 l2 l3 l4 l5 l6 l7 l8 l9 : mV} {h : mH} : m_run Z (277, 138, [l0, l1, l2, l3, l4, l5, l6, l7, l8, l9], [], h) = m_run Z (277, 139, [l0, l1, l2, l3, l4, l5, l6, l7, l8, l9], [(0, 0)], h) := by
  refine g_base (by decide +kernel : decode (m_byt 277) 138 = .ok (.iconst 0, 1)) rfl rfl ?_
  show m_run Z (277, 139, [l0, l1, l2, l3, l4, l5, l6, l7, l8, l9], [(0, 0)], h) = _
  rfl
theorem b_277_139 {Z : mZ} {l0 l1 l2 l3 l4 l5 l6 l8 l9 : mV} {s0 x7 : Int} {h : mH} : m_run Z (277, 139, [l0, l1, l2, l3, l4, l5, l6, (0, x7), l8, l9], [(0, s0)], h) = if 0 < w32 x7 then m_run Z (277, 148, [l0, l1, l2, l3, l4, l5, l6, (0, x7), l8, l9], [(0, s0)], h) else m_run Z (277, 144, [l0, l1, l2, l3, l4, l5, l6, (0, x7), l8, l9], [(0, s0)], h) := by
  refine g_iload (k := 7) (x := x7) (by decide +kernel : decode (m_byt 277) 139 = .ok (.iload 7, 2)) rfl ?_
  exact g_brq (t := 148) (off := 7) (by decide +kernel : decode (m_byt 277) 141 = .ok (.ifCond .gt 7, 3)) rfl rfl (by decide)
theorem b_277_144 {Z : mZ} {l0 l1 l2 l3 l4 l5 l6 l7 l8 l9 : mV} {s0 : Int} {h : mH} : m_run Z (277, 144, [l0, l1, l2, l3, l4, l5, l6, l7, l8, l9], [(0, s0)], h) = if w32 s0 = w32 1 then m_run Z (277, 152, [l0, l1, l2, l3, l4, l5, l6, l7, l8, l9], [], h) else m_run Z (277, 202, [l0, l1, l2, l3, l4, l5, l6, l7, l8, l9], [], h) := by
  refine g_base (by decide +kernel : decode (m_byt 277) 144 = .ok (.iconst 1, 1)) rfl rfl ?_
  show m_run Z (277, 145, [l0, l1, l2, l3, l4, l5, l6, l7, l8, l9], [(0, 1), (0, s0)], h) = _
  refine g_jmp (t := 149) (by decide +kernel : decode (m_byt 277) 145 = .ok (.goto 4, 3)) (by decide) ?_
  exact g_brn (t := 202) (off := 53) (by decide +kernel : decode (m_byt 277) 149 = .ok (.if_icmp .ne 53, 3)) rfl rfl (by decide)
theorem b_277_148 {Z : mZ} {l0 l1 l2 l3 l4 l5 l6 l7 l8 l9 : mV} {s0 : Int} {h : mH} : m_run Z (277, 148, [l0, l1, l2, l3, l4, l5, l6, l7, l8, l9], [(0, s0)], h) = m_run Z (277, 149, [l0, l1, l2, l3, l4, l5, l6, l7, l8, l9], [(0, 0), (0, s0)], h) := by
  refine g_base (by decide +kernel : decode (m_byt 277) 148 = .ok (.iconst 0, 1)) rfl rfl ?_
  show m_run Z (277, 149, [l0, l1, l2, l3, l4, l5, l6, l7, l8, l9], [(0, 0), (0, s0)], h) = _
  rfl
theorem b_277_149 {Z : mZ} {l0 l1 l2 l3 l4 l5 l6 l7 l8 l9 : mV} {s0 s1 : Int} {h : mH} : m_run Z (277, 149, [l0, l1, l2, l3, l4, l5, l6, l7, l8, l9], [(0, s0), (0, s1)], h) = if w32 s1 = w32 s0 then m_run Z (277, 152, [l0, l1, l2, l3, l4, l5, l6, l7, l8, l9], [], h) else m_run Z (277, 202, [l0, l1, l2, l3, l4, l5, l6, l7, l8, l9], [], h) := by
  exact g_brn (t := 202) (off := 53) (by decide +kernel : decode (m_byt 277) 149 = .ok (.if_icmp .ne 53, 3)) rfl rfl (by decide)
theorem b_277_152 {Z : mZ} {l0 l1 l2 l3 l4 l5 l6 l7 l9 : mV} {x8 : Int} {h : mH} : m_run Z (277, 152, [l0, l1, l2, l3, l4, l5, l6, l7, (0, x8), l9], [], h) = if w32 x8 = w32 (-1) then m_run Z (277, 198, [l0, l1, l2, l3, l4, l5, l6, l7, (0, x8), l9], [], h) else m_run Z (277, 158, [l0, l1, l2, l3, l4, l5, l6, l7, (0, x8), l9], [], h) := by
  refine g_iload (k := 8) (x := x8) (by decide +kernel : decode (m_byt 277) 152 = .ok (.iload 8, 2)) rfl ?_
  refine g_base (by decide +kernel : decode (m_byt 277) 154 = .ok (.iconst (-1), 1)) rfl rfl ?_
  show m_run Z (277, 155, [l0, l1, l2, l3, l4, l5, l6, l7, (0, x8), l9], [(0, (-1)), (0, x8)], h) = _
  exact g_brq (t := 198) (off := 43) (by decide +kernel : decode (m_byt 277) 155 = .ok (.if_icmp .eq 43, 3)) rfl rfl (by decide)
theorem b_277_158 {Z : mZ} {l1 l2 l3 l4 l5 l7 l9 : mV} {x8 x6 : Int} {r0 : Nat} {h : mH} : m_run Z (277, 158, [(2, ((r0 : Nat) : Int)), l1, l2, l3, l4, l5, (0, x6), l7, (0, x8), l9], [], h) = (m_cl Z 254 [(2, ((r0 : Nat) : Int)), (0, x8), (0, x6)] h).bind (m_aft (m_run Z) 277 163 [(2, ((r0 : Nat) : Int)), l1, l2, l3, l4, l5, (0, x6), l7, (0, x8), l9] []) := by
  refine g_aload_n (k := 0) (v := (2, ((r0 : Nat) : Int))) (by decide +kernel : decode (m_byt 277) 158 = .ok (.aload_n 0, 1)) rfl (Or.inl rfl) ?_
  refine g_iload (k := 8) (x := x8) (by decide +kernel : decode (m_byt 277) 159 = .ok (.iload 8, 2)) rfl ?_
  refine g_iload (k := 6) (x := x6) (by decide +kernel : decode (m_byt 277) 161 = .ok (.iload 6, 2)) rfl ?_
  exact g_inv (k := 0) (m' := 254) (np := 3) (as := [(2, ((r0 : Nat) : Int)), (0, x8), (0, x6)]) (by decide +kernel : decode (m_byt 277) 163 = .ok (.invokestatic 155, 3)) (Or.inr (Or.inr ⟨rfl, rfl, by decide, by decide⟩)) (by decide +kernel) (by decide +kernel) (by decide +kernel) (Nat.le_of_ble_eq_true rfl) rfl (Or.inl rfl)
theorem b_277_166 {Z : mZ} {l0 l1 l2 l3 l4 l5 l6 l7 l8 l9 : mV} {s0 : Int} {h : mH} : m_run Z (277, 166, [l0, l1, l2, l3, l4, l5, l6, l7, l8, l9], [(0, s0)], h) = if w32 s0 < 0 then m_run Z (277, 202, [l0, l1, l2, l3, l4, l5, l6, l7, l8, l9], [], h) else m_run Z (277, 169, [l0, l1, l2, l3, l4, l5, l6, l7, l8, l9], [], h) := by
  exact g_brq (t := 202) (off := 36) (by decide +kernel : decode (m_byt 277) 166 = .ok (.ifCond .lt 36, 3)) rfl rfl (by decide)
theorem b_277_169 {Z : mZ} {l1 l2 l3 l4 l6 l7 l9 : mV} {x5 x8 : Int} {r0 : Nat} {h : mH} : m_run Z (277, 169, [(2, ((r0 : Nat) : Int)), l1, l2, l3, l4, (0, x5), l6, l7, (0, x8), l9], [], h) = (m_cl Z 254 [(2, ((r0 : Nat) : Int)), (0, x5), (0, x8)] h).bind (m_aft (m_run Z) 277 174 [(2, ((r0 : Nat) : Int)), l1, l2, l3, l4, (0, x5), l6, l7, (0, x8), l9] []) := by
  refine g_aload_n (k := 0) (v := (2, ((r0 : Nat) : Int))) (by decide +kernel : decode (m_byt 277) 169 = .ok (.aload_n 0, 1)) rfl (Or.inl rfl) ?_
  refine g_iload (k := 5) (x := x5) (by decide +kernel : decode (m_byt 277) 170 = .ok (.iload 5, 2)) rfl ?_
  refine g_iload (k := 8) (x := x8) (by decide +kernel : decode (m_byt 277) 172 = .ok (.iload 8, 2)) rfl ?_
  exact g_inv (k := 0) (m' := 254) (np := 3) (as := [(2, ((r0 : Nat) : Int)), (0, x5), (0, x8)]) (by decide +kernel : decode (m_byt 277) 174 = .ok (.invokestatic 155, 3)) (Or.inr (Or.inr ⟨rfl, rfl, by decide, by decide⟩)) (by decide +kernel) (by decide +kernel) (by decide +kernel) (Nat.le_of_ble_eq_true rfl) rfl (Or.inl rfl)
theorem b_277_177 {Z : mZ} {l1 l2 l3 l4 l5 l7 l9 : mV} {s0 x8 x6 : Int} {r0 : Nat} {h : mH} : m_run Z (277, 177, [(2, ((r0 : Nat) : Int)), l1, l2, l3, l4, l5, (0, x6), l7, (0, x8), l9], [(0, s0)], h) = (m_cl Z 254 [(2, ((r0 : Nat) : Int)), (0, x8), (0, x6)] h).bind (m_aft (m_run Z) 277 182 [(2, ((r0 : Nat) : Int)), l1, l2, l3, l4, l5, (0, x6), l7, (0, x8), l9] [(0, s0)]) := by
  refine g_aload_n (k := 0) (v := (2, ((r0 : Nat) : Int))) (by decide +kernel : decode (m_byt 277) 177 = .ok (.aload_n 0, 1)) rfl (Or.inl rfl) ?_
  refine g_iload (k := 8) (x := x8) (by decide +kernel : decode (m_byt 277) 178 = .ok (.iload 8, 2)) rfl ?_
  refine g_iload (k := 6) (x := x6) (by decide +kernel : decode (m_byt 277) 180 = .ok (.iload 6, 2)) rfl ?_
  exact g_inv (k := 0) (m' := 254) (np := 3) (as := [(2, ((r0 : Nat) : Int)), (0, x8), (0, x6)]) (by decide +kernel : decode (m_byt 277) 182 = .ok (.invokestatic 155, 3)) (Or.inr (Or.inr ⟨rfl, rfl, by decide, by decide⟩)) (by decide +kernel) (by decide +kernel) (by decide +kernel) (Nat.le_of_ble_eq_true rfl) rfl (Or.inl rfl)
theorem b_277_185 {Z : mZ} {l0 l1 l2 l3 l4 l5 l6 l8 l9 : mV} {s0 s1 x7 : Int} {h : mH} : m_run Z (277, 185, [l0, l1, l2, l3, l4, l5, l6, (0, x7), l8, l9], [(0, s0), (0, s1)], h) = if w32 (s1 + s0) = w32 x7 then m_run Z (277, 191, [l0, l1, l2, l3, l4, l5, l6, (0, x7), l8, l9], [], h) else m_run Z (277, 202, [l0, l1, l2, l3, l4, l5, l6, (0, x7), l8, l9], [], h) := by
  refine g_base (by decide +kernel : decode (m_byt 277) 185 = .ok (.iadd, 1)) rfl rfl ?_
  show m_run Z (277, 186, [l0, l1, l2, l3, l4, l5, l6, (0, x7), l8, l9], [(0, (s1 + s0))], h) = _
  refine g_iload (k := 7) (x := x7) (by decide +kernel : decode (m_byt 277) 186 = .ok (.iload 7, 2)) rfl ?_
  exact g_brn (t := 202) (off := 14) (by decide +kernel : decode (m_byt 277) 188 = .ok (.if_icmp .ne 14, 3)) rfl rfl (by decide)
theorem b_277_191 {Z : mZ} {l0 l1 l2 l3 l4 l6 l7 l9 : mV} {x8 x5 : Int} {h : mH} : m_run Z (277, 191, [l0, l1, l2, l3, l4, (0, x5), l6, l7, (0, x8), l9], [], h) = if w32 x8 = w32 x5 then m_run Z (277, 202, [l0, l1, l2, l3, l4, (0, x5), l6, l7, (0, x8), l9], [], h) else m_run Z (277, 198, [l0, l1, l2, l3, l4, (0, x5), l6, l7, (0, x8), l9], [], h) := by
  refine g_iload (k := 8) (x := x8) (by decide +kernel : decode (m_byt 277) 191 = .ok (.iload 8, 2)) rfl ?_
  refine g_iload (k := 5) (x := x5) (by decide +kernel : decode (m_byt 277) 193 = .ok (.iload 5, 2)) rfl ?_
  exact g_brq (t := 202) (off := 7) (by decide +kernel : decode (m_byt 277) 195 = .ok (.if_icmp .eq 7, 3)) rfl rfl (by decide)
theorem b_277_198 {Z : mZ} {l0 l2 l3 l4 l5 l6 l7 l9 : mV} {x1 x8 : Int} {h : mH} : m_run Z (277, 198, [l0, (0, x1), l2, l3, l4, l5, l6, l7, (0, x8), l9], [], h) = m_run Z (277, 207, [l0, (0, x1), (0, 1), l3, l4, l5, l6, l7, (0, x8), (0, 0)], [], h) := by
  refine g_base (by decide +kernel : decode (m_byt 277) 198 = .ok (.iconst 1, 1)) rfl rfl ?_
  show m_run Z (277, 199, [l0, (0, x1), l2, l3, l4, l5, l6, l7, (0, x8), l9], [(0, 1)], h) = _
  refine g_jmp (t := 203) (by decide +kernel : decode (m_byt 277) 199 = .ok (.goto 4, 3)) (by decide) ?_
  refine g_istore_n (k := 2) (by decide +kernel : decode (m_byt 277) 203 = .ok (.istore_n 2, 1)) (Nat.le_of_ble_eq_true rfl) ?_
  show m_run Z (277, 204, [l0, (0, x1), (0, 1), l3, l4, l5, l6, l7, (0, x8), l9], [], h) = _
  refine g_base (by decide +kernel : decode (m_byt 277) 204 = .ok (.iconst 0, 1)) rfl rfl ?_
  show m_run Z (277, 205, [l0, (0, x1), (0, 1), l3, l4, l5, l6, l7, (0, x8), l9], [(0, 0)], h) = _
  refine g_istore (k := 9) (by decide +kernel : decode (m_byt 277) 205 = .ok (.istore 9, 2)) (Nat.le_of_ble_eq_true rfl) ?_
  show m_run Z (277, 207, [l0, (0, x1), (0, 1), l3, l4, l5, l6, l7, (0, x8), (0, 0)], [], h) = _
  rfl
theorem b_277_202 {Z : mZ} {l0 l1 l2 l3 l4 l5 l6 l7 l8 l9 : mV} {h : mH} : m_run Z (277, 202, [l0, l1, l2, l3, l4, l5, l6, l7, l8, l9], [], h) = m_run Z (277, 203, [l0, l1, l2, l3, l4, l5, l6, l7, l8, l9], [(0, 0)], h) := by
  refine g_base (by decide +kernel : decode (m_byt 277) 202 = .ok (.iconst 0, 1)) rfl rfl ?_
  show m_run Z (277, 203, [l0, l1, l2, l3, l4, l5, l6, l7, l8, l9], [(0, 0)], h) = _
  rfl
theorem b_277_203 {Z : mZ} {l0 l2 l3 l4 l5 l6 l7 l9 : mV} {s0 x1 x8 : Int} {h : mH} : m_run Z (277, 203, [l0, (0, x1), l2, l3, l4, l5, l6, l7, (0, x8), l9], [(0, s0)], h) = m_run Z (277, 207, [l0, (0, x1), (0, s0), l3, l4, l5, l6, l7, (0, x8), (0, 0)], [], h) := by
  refine g_istore_n (k := 2) (by decide +kernel : decode (m_byt 277) 203 = .ok (.istore_n 2, 1)) (Nat.le_of_ble_eq_true rfl) ?_
  show m_run Z (277, 204, [l0, (0, x1), (0, s0), l3, l4, l5, l6, l7, (0, x8), l9], [], h) = _
  refine g_base (by decide +kernel : decode (m_byt 277) 204 = .ok (.iconst 0, 1)) rfl rfl ?_
  show m_run Z (277, 205, [l0, (0, x1), (0, s0), l3, l4, l5, l6, l7, (0, x8), l9], [(0, 0)], h) = _
  refine g_istore (k := 9) (by decide +kernel : decode (m_byt 277) 205 = .ok (.istore 9, 2)) (Nat.le_of_ble_eq_true rfl) ?_
  show m_run Z (277, 207, [l0, (0, x1), (0, s0), l3, l4, l5, l6, l7, (0, x8), (0, 0)], [], h) = _
  rfl
theorem b_277_207 {Z : mZ} {l0 l2 l3 l4 l5 l6 l7 l8 : mV} {x9 x1 : Int} {h : mH} : m_run Z (277, 207, [l0, (0, x1), l2, l3, l4, l5, l6, l7, l8, (0, x9)], [], h) = if w32 x1 ≤ w32 x9 then m_run Z (277, 269, [l0, (0, x1), l2, l3, l4, l5, l6, l7, l8, (0, x9)], [], h) else m_run Z (277, 213, [l0, (0, x1), l2, l3, l4, l5, l6, l7, l8, (0, x9)], [], h) := by
  refine g_iload (k := 9) (x := x9) (by decide +kernel : decode (m_byt 277) 207 = .ok (.iload 9, 2)) rfl ?_
  refine g_iload_n (k := 1) (x := x1) (by decide +kernel : decode (m_byt 277) 209 = .ok (.iload_n 1, 1)) rfl ?_
  exact g_brq (t := 269) (off := 59) (by decide +kernel : decode (m_byt 277) 210 = .ok (.if_icmp .ge 59, 3)) rfl rfl (by decide)
theorem b_277_213 {Z : mZ} {l0 l1 l3 l4 l5 l6 l7 l8 l9 : mV} {x2 : Int} {h : mH} : m_run Z (277, 213, [l0, l1, (0, x2), l3, l4, l5, l6, l7, l8, l9], [], h) = if w32 x2 = 0 then m_run Z (277, 269, [l0, l1, (0, x2), l3, l4, l5, l6, l7, l8, l9], [], h) else m_run Z (277, 217, [l0, l1, (0, x2), l3, l4, l5, l6, l7, l8, l9], [], h) := by
  refine g_iload_n (k := 2) (x := x2) (by decide +kernel : decode (m_byt 277) 213 = .ok (.iload_n 2, 1)) rfl ?_
  exact g_brq (t := 269) (off := 55) (by decide +kernel : decode (m_byt 277) 214 = .ok (.ifCond .eq 55, 3)) rfl rfl (by decide)
theorem b_277_217 {Z : mZ} {l0 l1 l2 l3 l4 l5 l6 l8 l9 : mV} {x7 : Int} {h : mH} : m_run Z (277, 217, [l0, l1, l2, l3, l4, l5, l6, (0, x7), l8, l9], [], h) = if w32 x7 = w32 (-1) then m_run Z (277, 257, [l0, l1, l2, l3, l4, l5, l6, (0, x7), l8, l9], [], h) else m_run Z (277, 223, [l0, l1, l2, l3, l4, l5, l6, (0, x7), l8, l9], [], h) := by
  refine g_iload (k := 7) (x := x7) (by decide +kernel : decode (m_byt 277) 217 = .ok (.iload 7, 2)) rfl ?_
  refine g_base (by decide +kernel : decode (m_byt 277) 219 = .ok (.iconst (-1), 1)) rfl rfl ?_
  show m_run Z (277, 220, [l0, l1, l2, l3, l4, l5, l6, (0, x7), l8, l9], [(0, (-1)), (0, x7)], h) = _
  exact g_brq (t := 257) (off := 37) (by decide +kernel : decode (m_byt 277) 220 = .ok (.if_icmp .eq 37, 3)) rfl rfl (by decide)
theorem b_277_223 {Z : mZ} {l1 l2 l3 l4 l5 l7 l8 : mV} {x6 x9 : Int} {r0 : Nat} {h : mH} : m_run Z (277, 223, [(2, ((r0 : Nat) : Int)), l1, l2, l3, l4, l5, (0, x6), l7, l8, (0, x9)], [], h) = (m_cl Z 254 [(2, ((r0 : Nat) : Int)), (0, x6), (0, x9)] h).bind (m_aft (m_run Z) 277 228 [(2, ((r0 : Nat) : Int)), l1, l2, l3, l4, l5, (0, x6), l7, l8, (0, x9)] []) := by
  refine g_aload_n (k := 0) (v := (2, ((r0 : Nat) : Int))) (by decide +kernel : decode (m_byt 277) 223 = .ok (.aload_n 0, 1)) rfl (Or.inl rfl) ?_
  refine g_iload (k := 6) (x := x6) (by decide +kernel : decode (m_byt 277) 224 = .ok (.iload 6, 2)) rfl ?_
  refine g_iload (k := 9) (x := x9) (by decide +kernel : decode (m_byt 277) 226 = .ok (.iload 9, 2)) rfl ?_
  exact g_inv (k := 0) (m' := 254) (np := 3) (as := [(2, ((r0 : Nat) : Int)), (0, x6), (0, x9)]) (by decide +kernel : decode (m_byt 277) 228 = .ok (.invokestatic 155, 3)) (Or.inr (Or.inr ⟨rfl, rfl, by decide, by decide⟩)) (by decide +kernel) (by decide +kernel) (by decide +kernel) (Nat.le_of_ble_eq_true rfl) rfl (Or.inl rfl)
theorem b_277_231 {Z : mZ} {l0 l1 l2 l3 l4 l5 l6 l7 l8 l9 : mV} {s0 : Int} {h : mH} : m_run Z (277, 231, [l0, l1, l2, l3, l4, l5, l6, l7, l8, l9], [(0, s0)], h) = if w32 s0 = w32 (-1) then m_run Z (277, 257, [l0, l1, l2, l3, l4, l5, l6, l7, l8, l9], [], h) else m_run Z (277, 235, [l0, l1, l2, l3, l4, l5, l6, l7, l8, l9], [], h) := by
  refine g_base (by decide +kernel : decode (m_byt 277) 231 = .ok (.iconst (-1), 1)) rfl rfl ?_
  show m_run Z (277, 232, [l0, l1, l2, l3, l4, l5, l6, l7, l8, l9], [(0, (-1)), (0, s0)], h) = _
  exact g_brq (t := 257) (off := 25) (by decide +kernel : decode (m_byt 277) 232 = .ok (.if_icmp .eq 25, 3)) rfl rfl (by decide)
theorem b_277_235 {Z : mZ} {l1 l2 l3 l4 l6 l7 l8 : mV} {x5 x9 : Int} {r0 : Nat} {h : mH} : m_run Z (277, 235, [(2, ((r0 : Nat) : Int)), l1, l2, l3, l4, (0, x5), l6, l7, l8, (0, x9)], [], h) = (m_cl Z 254 [(2, ((r0 : Nat) : Int)), (0, x5), (0, x9)] h).bind (m_aft (m_run Z) 277 240 [(2, ((r0 : Nat) : Int)), l1, l2, l3, l4, (0, x5), l6, l7, l8, (0, x9)] []) := by
  refine g_aload_n (k := 0) (v := (2, ((r0 : Nat) : Int))) (by decide +kernel : decode (m_byt 277) 235 = .ok (.aload_n 0, 1)) rfl (Or.inl rfl) ?_
  refine g_iload (k := 5) (x := x5) (by decide +kernel : decode (m_byt 277) 236 = .ok (.iload 5, 2)) rfl ?_
  refine g_iload (k := 9) (x := x9) (by decide +kernel : decode (m_byt 277) 238 = .ok (.iload 9, 2)) rfl ?_
  exact g_inv (k := 0) (m' := 254) (np := 3) (as := [(2, ((r0 : Nat) : Int)), (0, x5), (0, x9)]) (by decide +kernel : decode (m_byt 277) 240 = .ok (.invokestatic 155, 3)) (Or.inr (Or.inr ⟨rfl, rfl, by decide, by decide⟩)) (by decide +kernel) (by decide +kernel) (by decide +kernel) (Nat.le_of_ble_eq_true rfl) rfl (Or.inl rfl)
theorem b_277_243 {Z : mZ} {l1 l2 l3 l4 l5 l8 : mV} {s0 x7 x6 x9 : Int} {r0 : Nat} {h : mH} : m_run Z (277, 243, [(2, ((r0 : Nat) : Int)), l1, l2, l3, l4, l5, (0, x6), (0, x7), l8, (0, x9)], [(0, s0)], h) = (m_cl Z 254 [(2, ((r0 : Nat) : Int)), (0, x6), (0, x9)] h).bind (m_aft (m_run Z) 277 250 [(2, ((r0 : Nat) : Int)), l1, l2, l3, l4, l5, (0, x6), (0, x7), l8, (0, x9)] [(0, x7), (0, s0)]) := by
  refine g_iload (k := 7) (x := x7) (by decide +kernel : decode (m_byt 277) 243 = .ok (.iload 7, 2)) rfl ?_
  refine g_aload_n (k := 0) (v := (2, ((r0 : Nat) : Int))) (by decide +kernel : decode (m_byt 277) 245 = .ok (.aload_n 0, 1)) rfl (Or.inl rfl) ?_
  refine g_iload (k := 6) (x := x6) (by decide +kernel : decode (m_byt 277) 246 = .ok (.iload 6, 2)) rfl ?_
  refine g_iload (k := 9) (x := x9) (by decide +kernel : decode (m_byt 277) 248 = .ok (.iload 9, 2)) rfl ?_
  exact g_inv (k := 0) (m' := 254) (np := 3) (as := [(2, ((r0 : Nat) : Int)), (0, x6), (0, x9)]) (by decide +kernel : decode (m_byt 277) 250 = .ok (.invokestatic 155, 3)) (Or.inr (Or.inr ⟨rfl, rfl, by decide, by decide⟩)) (by decide +kernel) (by decide +kernel) (by decide +kernel) (Nat.le_of_ble_eq_true rfl) rfl (Or.inl rfl)
theorem b_277_253 {Z : mZ} {l0 l1 l2 l3 l4 l5 l6 l7 l8 l9 : mV} {s0 s1 s2 : Int} {h : mH} : m_run Z (277, 253, [l0, l1, l2, l3, l4, l5, l6, l7, l8, l9], [(0, s0), (0, s1), (0, s2)], h) = if w32 (s1 + s0) < w32 s2 then m_run Z (277, 261, [l0, l1, l2, l3, l4, l5, l6, l7, l8, l9], [], h) else m_run Z (277, 257, [l0, l1, l2, l3, l4, l5, l6, l7, l8, l9], [], h) := by
  refine g_base (by decide +kernel : decode (m_byt 277) 253 = .ok (.iadd, 1)) rfl rfl ?_
  show m_run Z (277, 254, [l0, l1, l2, l3, l4, l5, l6, l7, l8, l9], [(0, (s1 + s0)), (0, s2)], h) = _
  exact g_brq (t := 261) (off := 7) (by decide +kernel : decode (m_byt 277) 254 = .ok (.if_icmp .gt 7, 3)) rfl rfl (by decide)
theorem b_277_257 {Z : mZ} {l0 l2 l3 l4 l5 l6 l7 : mV} {x1 x9 x8 : Int} {h : mH} : m_run Z (277, 257, [l0, (0, x1), l2, l3, l4, l5, l6, l7, (0, x8), (0, x9)], [], h) = m_run Z (277, 207, [l0, (0, x1), (0, 1), l3, l4, l5, l6, l7, (0, x8), (0, x9 + 1)], [], h) := by
  refine g_base (by decide +kernel : decode (m_byt 277) 257 = .ok (.iconst 1, 1)) rfl rfl ?_
  show m_run Z (277, 258, [l0, (0, x1), l2, l3, l4, l5, l6, l7, (0, x8), (0, x9)], [(0, 1)], h) = _
  refine g_jmp (t := 262) (by decide +kernel : decode (m_byt 277) 258 = .ok (.goto 4, 3)) (by decide) ?_
  refine g_istore_n (k := 2) (by decide +kernel : decode (m_byt 277) 262 = .ok (.istore_n 2, 1)) (Nat.le_of_ble_eq_true rfl) ?_
  show m_run Z (277, 263, [l0, (0, x1), (0, 1), l3, l4, l5, l6, l7, (0, x8), (0, x9)], [], h) = _
  refine g_iinc (k := 9) (x := x9) (by decide +kernel : decode (m_byt 277) 263 = .ok (.iinc 9 1, 3)) rfl (Nat.le_of_ble_eq_true rfl) ?_
  show m_run Z (277, 266, [l0, (0, x1), (0, 1), l3, l4, l5, l6, l7, (0, x8), (0, x9 + 1)], [], h) = _
  refine g_jmp (t := 207) (by decide +kernel : decode (m_byt 277) 266 = .ok (.goto (-59), 3)) (by decide) ?_
  rfl
theorem b_277_261 {Z : mZ} {l0 l1 l2 l3 l4 l5 l6 l7 l8 l9 : mV} {h : mH} : m_run Z (277, 261, [l0, l1, l2, l3, l4, l5, l6, l7, l8, l9], [], h) = m_run Z (277, 262, [l0, l1, l2, l3, l4, l5, l6, l7, l8, l9], [(0, 0)], h) := by
  refine g_base (by decide +kernel : decode (m_byt 277) 261 = .ok (.iconst 0, 1)) rfl rfl ?_
  show m_run Z (277, 262, [l0, l1, l2, l3, l4, l5, l6, l7, l8, l9], [(0, 0)], h) = _
  rfl
theorem b_277_262 {Z : mZ} {l0 l2 l3 l4 l5 l6 l7 : mV} {s0 x1 x9 x8 : Int} {h : mH} : m_run Z (277, 262, [l0, (0, x1), l2, l3, l4, l5, l6, l7, (0, x8), (0, x9)], [(0, s0)], h) = m_run Z (277, 207, [l0, (0, x1), (0, s0), l3, l4, l5, l6, l7, (0, x8), (0, x9 + 1)], [], h) := by
  refine g_istore_n (k := 2) (by decide +kernel : decode (m_byt 277) 262 = .ok (.istore_n 2, 1)) (Nat.le_of_ble_eq_true rfl) ?_
  show m_run Z (277, 263, [l0, (0, x1), (0, s0), l3, l4, l5, l6, l7, (0, x8), (0, x9)], [], h) = _
  refine g_iinc (k := 9) (x := x9) (by decide +kernel : decode (m_byt 277) 263 = .ok (.iinc 9 1, 3)) rfl (Nat.le_of_ble_eq_true rfl) ?_
  show m_run Z (277, 266, [l0, (0, x1), (0, s0), l3, l4, l5, l6, l7, (0, x8), (0, x9 + 1)], [], h) = _
  refine g_jmp (t := 207) (by decide +kernel : decode (m_byt 277) 266 = .ok (.goto (-59), 3)) (by decide) ?_
  rfl
theorem b_277_269 {Z : mZ} {l0 l1 l2 l3 l4 l7 l8 l9 : mV} {x6 x5 : Int} {h : mH} : m_run Z (277, 269, [l0, l1, l2, l3, l4, (0, x5), (0, x6), l7, l8, l9], [], h) = m_run Z (277, 29, [l0, l1, l2, l3, l4, (0, x5), (0, x6 + 1), l7, l8, l9], [], h) := by
  refine g_iinc (k := 6) (x := x6) (by decide +kernel : decode (m_byt 277) 269 = .ok (.iinc 6 1, 3)) rfl (Nat.le_of_ble_eq_true rfl) ?_
  show m_run Z (277, 272, [l0, l1, l2, l3, l4, (0, x5), (0, x6 + 1), l7, l8, l9], [], h) = _
  refine g_jmp (t := 29) (by decide +kernel : decode (m_byt 277) 272 = .ok (.goto (-243), 3)) (by decide) ?_
  rfl
theorem b_277_275 {Z : mZ} {l0 l1 l2 l3 l6 l7 l8 l9 : mV} {x5 x4 : Int} {h : mH} : m_run Z (277, 275, [l0, l1, l2, l3, (0, x4), (0, x5), l6, l7, l8, l9], [], h) = m_run Z (277, 16, [l0, l1, l2, l3, (0, x4), (0, x5 + 1), l6, l7, l8, l9], [], h) := by
  refine g_iinc (k := 5) (x := x5) (by decide +kernel : decode (m_byt 277) 275 = .ok (.iinc 5 1, 3)) rfl (Nat.le_of_ble_eq_true rfl) ?_
  show m_run Z (277, 278, [l0, l1, l2, l3, (0, x4), (0, x5 + 1), l6, l7, l8, l9], [], h) = _
  refine g_jmp (t := 16) (by decide +kernel : decode (m_byt 277) 278 = .ok (.goto (-262), 3)) (by decide) ?_
  rfl
theorem b_277_281 {Z : mZ} {l0 l1 l3 l4 l5 l6 l7 l8 l9 : mV} {x2 : Int} {h : mH} : m_run Z (277, 281, [l0, l1, (0, x2), l3, l4, l5, l6, l7, l8, l9], [], h) = if w32 x2 = 0 then m_run Z (277, 324, [l0, l1, (0, x2), l3, l4, l5, l6, l7, l8, l9], [], h) else m_run Z (277, 285, [l0, l1, (0, x2), l3, l4, l5, l6, l7, l8, l9], [], h) := by
  refine g_iload_n (k := 2) (x := x2) (by decide +kernel : decode (m_byt 277) 281 = .ok (.iload_n 2, 1)) rfl ?_
  exact g_brq (t := 324) (off := 42) (by decide +kernel : decode (m_byt 277) 282 = .ok (.ifCond .eq 42, 3)) rfl rfl (by decide)
theorem b_277_285 {Z : mZ} {l1 l2 l3 l4 l5 l6 l7 l8 l9 : mV} {r0 : Nat} {h : mH} : m_run Z (277, 285, [(2, ((r0 : Nat) : Int)), l1, l2, l3, l4, l5, l6, l7, l8, l9], [], h) = (m_cl Z 250 [(2, ((r0 : Nat) : Int)), (0, 3)] h).bind (m_aft (m_run Z) 277 287 [(2, ((r0 : Nat) : Int)), l1, l2, l3, l4, l5, l6, l7, l8, l9] []) := by
  refine g_aload_n (k := 0) (v := (2, ((r0 : Nat) : Int))) (by decide +kernel : decode (m_byt 277) 285 = .ok (.aload_n 0, 1)) rfl (Or.inl rfl) ?_
  refine g_base (by decide +kernel : decode (m_byt 277) 286 = .ok (.iconst 3, 1)) rfl rfl ?_
  show m_run Z (277, 287, [(2, ((r0 : Nat) : Int)), l1, l2, l3, l4, l5, l6, l7, l8, l9], [(0, 3), (2, ((r0 : Nat) : Int))], h) = _
  exact g_inv (k := 0) (m' := 250) (np := 2) (as := [(2, ((r0 : Nat) : Int)), (0, 3)]) (by decide +kernel : decode (m_byt 277) 287 = .ok (.invokestatic 149, 3)) (Or.inr (Or.inr ⟨rfl, rfl, by decide, by decide⟩)) (by decide +kernel) (by decide +kernel) (by decide +kernel) (Nat.le_of_ble_eq_true rfl) rfl (Or.inl rfl)
theorem b_277_290 {Z : mZ} {l0 l1 l2 l3 l5 l6 l7 l8 l9 : mV} {s0 x4 : Int} {h : mH} : m_run Z (277, 290, [l0, l1, l2, l3, (0, x4), l5, l6, l7, l8, l9], [(0, s0)], h) = if w32 x4 = 0 then m_run Z (277, 299, [l0, l1, l2, l3, (0, x4), l5, l6, l7, l8, l9], [(0, s0)], h) else m_run Z (277, 295, [l0, l1, l2, l3, (0, x4), l5, l6, l7, l8, l9], [(0, s0)], h) := by
  refine g_iload (k := 4) (x := x4) (by decide +kernel : decode (m_byt 277) 290 = .ok (.iload 4, 2)) rfl ?_
  exact g_brq (t := 299) (off := 7) (by decide +kernel : decode (m_byt 277) 292 = .ok (.ifCond .eq 7, 3)) rfl rfl (by decide)
theorem b_277_295 {Z : mZ} {l0 l1 l2 l3 l4 l5 l6 l7 l8 l9 : mV} {s0 : Int} {h : mH} : m_run Z (277, 295, [l0, l1, l2, l3, l4, l5, l6, l7, l8, l9], [(0, s0)], h) = if w32 s0 = w32 1 then m_run Z (277, 303, [l0, l1, l2, l3, l4, l5, l6, l7, l8, l9], [], h) else m_run Z (277, 324, [l0, l1, l2, l3, l4, l5, l6, l7, l8, l9], [], h) := by
  refine g_base (by decide +kernel : decode (m_byt 277) 295 = .ok (.iconst 1, 1)) rfl rfl ?_
  show m_run Z (277, 296, [l0, l1, l2, l3, l4, l5, l6, l7, l8, l9], [(0, 1), (0, s0)], h) = _
  refine g_jmp (t := 300) (by decide +kernel : decode (m_byt 277) 296 = .ok (.goto 4, 3)) (by decide) ?_
  exact g_brn (t := 324) (off := 24) (by decide +kernel : decode (m_byt 277) 300 = .ok (.if_icmp .ne 24, 3)) rfl rfl (by decide)
theorem b_277_299 {Z : mZ} {l0 l1 l2 l3 l4 l5 l6 l7 l8 l9 : mV} {s0 : Int} {h : mH} : m_run Z (277, 299, [l0, l1, l2, l3, l4, l5, l6, l7, l8, l9], [(0, s0)], h) = m_run Z (277, 300, [l0, l1, l2, l3, l4, l5, l6, l7, l8, l9], [(0, 0), (0, s0)], h) := by
  refine g_base (by decide +kernel : decode (m_byt 277) 299 = .ok (.iconst 0, 1)) rfl rfl ?_
  show m_run Z (277, 300, [l0, l1, l2, l3, l4, l5, l6, l7, l8, l9], [(0, 0), (0, s0)], h) = _
  rfl
theorem b_277_300 {Z : mZ} {l0 l1 l2 l3 l4 l5 l6 l7 l8 l9 : mV} {s0 s1 : Int} {h : mH} : m_run Z (277, 300, [l0, l1, l2, l3, l4, l5, l6, l7, l8, l9], [(0, s0), (0, s1)], h) = if w32 s1 = w32 s0 then m_run Z (277, 303, [l0, l1, l2, l3, l4, l5, l6, l7, l8, l9], [], h) else m_run Z (277, 324, [l0, l1, l2, l3, l4, l5, l6, l7, l8, l9], [], h) := by
  exact g_brn (t := 324) (off := 24) (by decide +kernel : decode (m_byt 277) 300 = .ok (.if_icmp .ne 24, 3)) rfl rfl (by decide)
theorem b_277_303 {Z : mZ} {l1 l2 l3 l4 l5 l6 l7 l8 l9 : mV} {r0 : Nat} {K : Nat → mK} {σ : Nat → Nat → Int} {n e s : Nat} (h0 : q_ob K n r0 6) : m_run Z (277, 303, [(2, ((r0 : Nat) : Int)), l1, l2, l3, l4, l5, l6, l7, l8, l9], [], (K, σ, n, e, s)) = (m_cl Z 108 [(2, ((r0 : Nat) : Int))] (K, σ, n, e, s)).bind (m_aft (m_run Z) 277 304 [(2, ((r0 : Nat) : Int)), l1, l2, l3, l4, l5, l6, l7, l8, l9] []) := by
  refine g_aload_n (k := 0) (v := (2, ((r0 : Nat) : Int))) (by decide +kernel : decode (m_byt 277) 303 = .ok (.aload_n 0, 1)) rfl (Or.inl rfl) ?_
  exact g_inv (k := 1) (m' := 108) (np := 0) (as := [(2, ((r0 : Nat) : Int))]) (by decide +kernel : decode (m_byt 277) 304 = .ok (.invokevirtual 193, 3)) (Or.inl ⟨rfl, rfl⟩) (by decide +kernel) (by decide +kernel) (by decide +kernel) (Nat.le_of_ble_eq_true rfl) rfl (Or.inr (g_rcv (by decide +kernel) h0))
theorem b_277_307 {Z : mZ} {l0 l1 l2 l3 l5 l6 l7 l8 l9 : mV} {s0 x4 : Int} {h : mH} : m_run Z (277, 307, [l0, l1, l2, l3, (0, x4), l5, l6, l7, l8, l9], [(0, s0)], h) = if w32 x4 = 0 then m_run Z (277, 316, [l0, l1, l2, l3, (0, x4), l5, l6, l7, l8, l9], [(0, s0)], h) else m_run Z (277, 312, [l0, l1, l2, l3, (0, x4), l5, l6, l7, l8, l9], [(0, s0)], h) := by
  refine g_iload (k := 4) (x := x4) (by decide +kernel : decode (m_byt 277) 307 = .ok (.iload 4, 2)) rfl ?_
  exact g_brq (t := 316) (off := 7) (by decide +kernel : decode (m_byt 277) 309 = .ok (.ifCond .eq 7, 3)) rfl rfl (by decide)
theorem b_277_312 {Z : mZ} {l0 l1 l2 l4 l5 l6 l7 l8 l9 : mV} {s0 x3 : Int} {h : mH} : m_run Z (277, 312, [l0, l1, l2, (0, x3), l4, l5, l6, l7, l8, l9], [(0, s0)], h) = if w32 s0 = w32 x3 then m_run Z (277, 320, [l0, l1, l2, (0, x3), l4, l5, l6, l7, l8, l9], [], h) else m_run Z (277, 324, [l0, l1, l2, (0, x3), l4, l5, l6, l7, l8, l9], [], h) := by
  refine g_iload_n (k := 3) (x := x3) (by decide +kernel : decode (m_byt 277) 312 = .ok (.iload_n 3, 1)) rfl ?_
  refine g_jmp (t := 317) (by decide +kernel : decode (m_byt 277) 313 = .ok (.goto 4, 3)) (by decide) ?_
  exact g_brn (t := 324) (off := 7) (by decide +kernel : decode (m_byt 277) 317 = .ok (.if_icmp .ne 7, 3)) rfl rfl (by decide)
theorem b_277_316 {Z : mZ} {l0 l1 l2 l3 l4 l5 l6 l7 l8 l9 : mV} {s0 : Int} {h : mH} : m_run Z (277, 316, [l0, l1, l2, l3, l4, l5, l6, l7, l8, l9], [(0, s0)], h) = m_run Z (277, 317, [l0, l1, l2, l3, l4, l5, l6, l7, l8, l9], [(0, (-1)), (0, s0)], h) := by
  refine g_base (by decide +kernel : decode (m_byt 277) 316 = .ok (.iconst (-1), 1)) rfl rfl ?_
  show m_run Z (277, 317, [l0, l1, l2, l3, l4, l5, l6, l7, l8, l9], [(0, (-1)), (0, s0)], h) = _
  rfl
theorem b_277_317 {Z : mZ} {l0 l1 l2 l3 l4 l5 l6 l7 l8 l9 : mV} {s0 s1 : Int} {h : mH} : m_run Z (277, 317, [l0, l1, l2, l3, l4, l5, l6, l7, l8, l9], [(0, s0), (0, s1)], h) = if w32 s1 = w32 s0 then m_run Z (277, 320, [l0, l1, l2, l3, l4, l5, l6, l7, l8, l9], [], h) else m_run Z (277, 324, [l0, l1, l2, l3, l4, l5, l6, l7, l8, l9], [], h) := by
  exact g_brn (t := 324) (off := 7) (by decide +kernel : decode (m_byt 277) 317 = .ok (.if_icmp .ne 7, 3)) rfl rfl (by decide)
theorem b_277_320 {Z : mZ} {l0 l1 l2 l3 l4 l5 l6 l7 l8 l9 : mV} {h : mH} : m_run Z (277, 320, [l0, l1, l2, l3, l4, l5, l6, l7, l8, l9], [], h) = some (.inl (0, 1), h) := by
  refine g_base (by decide +kernel : decode (m_byt 277) 320 = .ok (.iconst 1, 1)) rfl rfl ?_
  show m_run Z (277, 321, [l0, l1, l2, l3, l4, l5, l6, l7, l8, l9], [(0, 1)], h) = _
  refine g_jmp (t := 325) (by decide +kernel : decode (m_byt 277) 321 = .ok (.goto 4, 3)) (by decide) ?_
  exact g_zret (by decide +kernel : decode (m_byt 277) 325 = .ok (.ireturn, 1)) (by decide +kernel) (by decide)
theorem b_277_324 {Z : mZ} {l0 l1 l2 l3 l4 l5 l6 l7 l8 l9 : mV} {h : mH} : m_run Z (277, 324, [l0, l1, l2, l3, l4, l5, l6, l7, l8, l9], [], h) = m_run Z (277, 325, [l0, l1, l2, l3, l4, l5, l6, l7, l8, l9], [(0, 0)], h) := by
  refine g_base (by decide +kernel : decode (m_byt 277) 324 = .ok (.iconst 0, 1)) rfl rfl ?_
  show m_run Z (277, 325, [l0, l1, l2, l3, l4, l5, l6, l7, l8, l9], [(0, 0)], h) = _
  rfl
theorem b_277_325 {Z : mZ} {l0 l1 l2 l3 l4 l5 l6 l7 l8 l9 : mV} {s0 : Int} {h : mH} (h0 : w32 s0 = 0 ∨ w32 s0 = 1) : m_run Z (277, 325, [l0, l1, l2, l3, l4, l5, l6, l7, l8, l9], [(0, s0)], h) = some (.inl (0, s0), h) := by
  exact g_zret (by decide +kernel : decode (m_byt 277) 325 = .ok (.ireturn, 1)) (by decide +kernel) h0
end
