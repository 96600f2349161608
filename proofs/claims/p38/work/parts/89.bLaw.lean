section
theorem b_282_0 {Z : mZ} {l0 l1 l2 l3 l4 l5 l6 l7 l8 l9 : mV} {K : Nat → mK} {σ : Nat → Nat → Int} {n s : Nat} (h0 : q_ob (m_up K n (1, 6, fun _ => -1)) (n + 1) n 6) : m_run Z (282, 0, [l0, l1, l2, l3, l4, l5, l6, l7, l8, l9], [], (K, σ, n, 0, s)) = (m_cl Z 94 [(2, ((n : Nat) : Int))] ((m_up K n (1, 6, fun _ => -1)), (m_up σ n (fun _ => 0)), (n + 1), 0, s + 8)).bind (m_aft (m_run Z) 282 4 [l0, l1, l2, l3, l4, l5, l6, l7, l8, l9] [(2, ((n : Nat) : Int))]) := by
  refine g_new (ci := 6) (by decide +kernel : decode (m_byt 282) 0 = .ok (.new 10, 3)) (by decide +kernel) (by decide) ?_
  show m_run Z (282, 3, [l0, l1, l2, l3, l4, l5, l6, l7, l8, l9], [(2, ((n : Nat) : Int))], ((m_up K n (1, 6, fun _ => -1)), (m_up σ n (fun _ => 0)), (n + 1), 0, s + 8)) = _
  refine g_base (by decide +kernel : decode (m_byt 282) 3 = .ok (.dup, 1)) rfl rfl ?_
  show m_run Z (282, 4, [l0, l1, l2, l3, l4, l5, l6, l7, l8, l9], [(2, ((n : Nat) : Int)), (2, ((n : Nat) : Int))], ((m_up K n (1, 6, fun _ => -1)), (m_up σ n (fun _ => 0)), (n + 1), 0, s + 8)) = _
  exact g_inv (k := 2) (m' := 94) (np := 0) (as := [(2, ((n : Nat) : Int))]) (by decide +kernel : decode (m_byt 282) 4 = .ok (.invokespecial 204, 3)) (Or.inr (Or.inl ⟨rfl, rfl, by decide⟩)) (by decide +kernel) (by decide +kernel) (by decide +kernel) (Nat.le_of_ble_eq_true rfl) rfl (Or.inr (g_rcv (by decide +kernel) h0))
theorem b_282_7 {Z : mZ} {l1 l2 l3 l4 l5 l6 l7 l8 l9 : mV} {x0 : Int} {s0 : Nat} {h : mH} : m_run Z (282, 7, [(4, x0), l1, l2, l3, l4, l5, l6, l7, l8, l9], [(2, ((s0 : Nat) : Int))], h) = (m_cl Z 272 [(2, ((s0 : Nat) : Int))] h).bind (m_aft (m_run Z) 282 9 [(4, x0), (2, ((s0 : Nat) : Int)), l2, l3, l4, l5, l6, l7, l8, l9] []) := by
  refine g_astore_n (k := 1) (t := 2) (by decide) (by decide +kernel : decode (m_byt 282) 7 = .ok (.astore_n 1, 1)) (Nat.le_of_ble_eq_true rfl) ?_
  show m_run Z (282, 8, [(4, x0), (2, ((s0 : Nat) : Int)), l2, l3, l4, l5, l6, l7, l8, l9], [], h) = _
  refine g_aload_n (k := 1) (v := (2, ((s0 : Nat) : Int))) (by decide +kernel : decode (m_byt 282) 8 = .ok (.aload_n 1, 1)) rfl (Or.inl rfl) ?_
  exact g_inv (k := 0) (m' := 272) (np := 1) (as := [(2, ((s0 : Nat) : Int))]) (by decide +kernel : decode (m_byt 282) 9 = .ok (.invokestatic 124, 3)) (Or.inr (Or.inr ⟨rfl, rfl, by decide, by decide⟩)) (by decide +kernel) (by decide +kernel) (by decide +kernel) (Nat.le_of_ble_eq_true rfl) rfl (Or.inl rfl)
theorem b_282_12 {Z : mZ} {l0 l1 l2 l3 l4 l5 l6 l7 l8 l9 : mV} {s0 : Int} {h : mH} : m_run Z (282, 12, [l0, l1, l2, l3, l4, l5, l6, l7, l8, l9], [(0, s0)], h) = if w32 s0 = w32 (-52) then m_run Z (282, 17, [l0, l1, l2, l3, l4, l5, l6, l7, l8, l9], [], h) else m_run Z (282, 64, [l0, l1, l2, l3, l4, l5, l6, l7, l8, l9], [], h) := by
  refine g_base (by decide +kernel : decode (m_byt 282) 12 = .ok (.bipush (-52), 2)) rfl rfl ?_
  show m_run Z (282, 14, [l0, l1, l2, l3, l4, l5, l6, l7, l8, l9], [(0, (-52)), (0, s0)], h) = _
  exact g_brn (t := 64) (off := 50) (by decide +kernel : decode (m_byt 282) 14 = .ok (.if_icmp .ne 50, 3)) rfl rfl (by decide)
theorem b_282_17 {Z : mZ} {l0 l2 l3 l4 l5 l6 l7 l8 l9 : mV} {r1 : Nat} {h : mH} : m_run Z (282, 17, [l0, (2, ((r1 : Nat) : Int)), l2, l3, l4, l5, l6, l7, l8, l9], [], h) = (m_cl Z 250 [(2, ((r1 : Nat) : Int)), (0, 0)] h).bind (m_aft (m_run Z) 282 19 [l0, (2, ((r1 : Nat) : Int)), l2, l3, l4, l5, l6, l7, l8, l9] []) := by
  refine g_aload_n (k := 1) (v := (2, ((r1 : Nat) : Int))) (by decide +kernel : decode (m_byt 282) 17 = .ok (.aload_n 1, 1)) rfl (Or.inl rfl) ?_
  refine g_base (by decide +kernel : decode (m_byt 282) 18 = .ok (.iconst 0, 1)) rfl rfl ?_
  show m_run Z (282, 19, [l0, (2, ((r1 : Nat) : Int)), l2, l3, l4, l5, l6, l7, l8, l9], [(0, 0), (2, ((r1 : Nat) : Int))], h) = _
  exact g_inv (k := 0) (m' := 250) (np := 2) (as := [(2, ((r1 : Nat) : Int)), (0, 0)]) (by decide +kernel : decode (m_byt 282) 19 = .ok (.invokestatic 149, 3)) (Or.inr (Or.inr ⟨rfl, rfl, by decide, by decide⟩)) (by decide +kernel) (by decide +kernel) (by decide +kernel) (Nat.le_of_ble_eq_true rfl) rfl (Or.inl rfl)
theorem b_282_22 {Z : mZ} {l0 l1 l2 l3 l4 l5 l6 l7 l8 l9 : mV} {s0 : Int} {h : mH} : m_run Z (282, 22, [l0, l1, l2, l3, l4, l5, l6, l7, l8, l9], [(0, s0)], h) = if w32 s0 = w32 4 then m_run Z (282, 26, [l0, l1, l2, l3, l4, l5, l6, l7, l8, l9], [], h) else m_run Z (282, 64, [l0, l1, l2, l3, l4, l5, l6, l7, l8, l9], [], h) := by
  refine g_base (by decide +kernel : decode (m_byt 282) 22 = .ok (.iconst 4, 1)) rfl rfl ?_
  show m_run Z (282, 23, [l0, l1, l2, l3, l4, l5, l6, l7, l8, l9], [(0, 4), (0, s0)], h) = _
  exact g_brn (t := 64) (off := 41) (by decide +kernel : decode (m_byt 282) 23 = .ok (.if_icmp .ne 41, 3)) rfl rfl (by decide)
theorem b_282_26 {Z : mZ} {l0 l2 l3 l4 l5 l6 l7 l8 l9 : mV} {r1 : Nat} {h : mH} : m_run Z (282, 26, [l0, (2, ((r1 : Nat) : Int)), l2, l3, l4, l5, l6, l7, l8, l9], [], h) = (m_cl Z 250 [(2, ((r1 : Nat) : Int)), (0, 1)] h).bind (m_aft (m_run Z) 282 28 [l0, (2, ((r1 : Nat) : Int)), l2, l3, l4, l5, l6, l7, l8, l9] []) := by
  refine g_aload_n (k := 1) (v := (2, ((r1 : Nat) : Int))) (by decide +kernel : decode (m_byt 282) 26 = .ok (.aload_n 1, 1)) rfl (Or.inl rfl) ?_
  refine g_base (by decide +kernel : decode (m_byt 282) 27 = .ok (.iconst 1, 1)) rfl rfl ?_
  show m_run Z (282, 28, [l0, (2, ((r1 : Nat) : Int)), l2, l3, l4, l5, l6, l7, l8, l9], [(0, 1), (2, ((r1 : Nat) : Int))], h) = _
  exact g_inv (k := 0) (m' := 250) (np := 2) (as := [(2, ((r1 : Nat) : Int)), (0, 1)]) (by decide +kernel : decode (m_byt 282) 28 = .ok (.invokestatic 149, 3)) (Or.inr (Or.inr ⟨rfl, rfl, by decide, by decide⟩)) (by decide +kernel) (by decide +kernel) (by decide +kernel) (Nat.le_of_ble_eq_true rfl) rfl (Or.inl rfl)
theorem b_282_31 {Z : mZ} {l0 l1 l2 l3 l4 l5 l6 l7 l8 l9 : mV} {s0 : Int} {h : mH} : m_run Z (282, 31, [l0, l1, l2, l3, l4, l5, l6, l7, l8, l9], [(0, s0)], h) = if w32 s0 = 0 then m_run Z (282, 34, [l0, l1, l2, l3, l4, l5, l6, l7, l8, l9], [], h) else m_run Z (282, 64, [l0, l1, l2, l3, l4, l5, l6, l7, l8, l9], [], h) := by
  exact g_brn (t := 64) (off := 33) (by decide +kernel : decode (m_byt 282) 31 = .ok (.ifCond .ne 33, 3)) rfl rfl (by decide)
theorem b_282_34 {Z : mZ} {l0 l2 l3 l4 l5 l6 l7 l8 l9 : mV} {r1 : Nat} {K : Nat → mK} {σ : Nat → Nat → Int} {n e s : Nat} (h0 : q_ob K n r1 6) : m_run Z (282, 34, [l0, (2, ((r1 : Nat) : Int)), l2, l3, l4, l5, l6, l7, l8, l9], [], (K, σ, n, e, s)) = (m_cl Z 108 [(2, ((r1 : Nat) : Int))] (K, σ, n, e, s)).bind (m_aft (m_run Z) 282 35 [l0, (2, ((r1 : Nat) : Int)), l2, l3, l4, l5, l6, l7, l8, l9] []) := by
  refine g_aload_n (k := 1) (v := (2, ((r1 : Nat) : Int))) (by decide +kernel : decode (m_byt 282) 34 = .ok (.aload_n 1, 1)) rfl (Or.inl rfl) ?_
  exact g_inv (k := 1) (m' := 108) (np := 0) (as := [(2, ((r1 : Nat) : Int))]) (by decide +kernel : decode (m_byt 282) 35 = .ok (.invokevirtual 193, 3)) (Or.inl ⟨rfl, rfl⟩) (by decide +kernel) (by decide +kernel) (by decide +kernel) (Nat.le_of_ble_eq_true rfl) rfl (Or.inr (g_rcv (by decide +kernel) h0))
theorem b_282_38 {Z : mZ} {l0 l1 l2 l3 l4 l5 l6 l7 l8 l9 : mV} {s0 : Int} {h : mH} : m_run Z (282, 38, [l0, l1, l2, l3, l4, l5, l6, l7, l8, l9], [(0, s0)], h) = if w32 s0 = w32 (-1) then m_run Z (282, 42, [l0, l1, l2, l3, l4, l5, l6, l7, l8, l9], [], h) else m_run Z (282, 64, [l0, l1, l2, l3, l4, l5, l6, l7, l8, l9], [], h) := by
  refine g_base (by decide +kernel : decode (m_byt 282) 38 = .ok (.iconst (-1), 1)) rfl rfl ?_
  show m_run Z (282, 39, [l0, l1, l2, l3, l4, l5, l6, l7, l8, l9], [(0, (-1)), (0, s0)], h) = _
  exact g_brn (t := 64) (off := 25) (by decide +kernel : decode (m_byt 282) 39 = .ok (.if_icmp .ne 25, 3)) rfl rfl (by decide)
theorem b_282_42 {Z : mZ} {l0 l2 l3 l4 l5 l6 l7 l8 l9 : mV} {r1 : Nat} {h : mH} : m_run Z (282, 42, [l0, (2, ((r1 : Nat) : Int)), l2, l3, l4, l5, l6, l7, l8, l9], [], h) = (m_cl Z 261 [(2, ((r1 : Nat) : Int)), (0, 0), (0, 0)] h).bind (m_aft (m_run Z) 282 45 [l0, (2, ((r1 : Nat) : Int)), l2, l3, l4, l5, l6, l7, l8, l9] []) := by
  refine g_aload_n (k := 1) (v := (2, ((r1 : Nat) : Int))) (by decide +kernel : decode (m_byt 282) 42 = .ok (.aload_n 1, 1)) rfl (Or.inl rfl) ?_
  refine g_base (by decide +kernel : decode (m_byt 282) 43 = .ok (.iconst 0, 1)) rfl rfl ?_
  show m_run Z (282, 44, [l0, (2, ((r1 : Nat) : Int)), l2, l3, l4, l5, l6, l7, l8, l9], [(0, 0), (2, ((r1 : Nat) : Int))], h) = _
  refine g_base (by decide +kernel : decode (m_byt 282) 44 = .ok (.iconst 0, 1)) rfl rfl ?_
  show m_run Z (282, 45, [l0, (2, ((r1 : Nat) : Int)), l2, l3, l4, l5, l6, l7, l8, l9], [(0, 0), (0, 0), (2, ((r1 : Nat) : Int))], h) = _
  exact g_inv (k := 0) (m' := 261) (np := 3) (as := [(2, ((r1 : Nat) : Int)), (0, 0), (0, 0)]) (by decide +kernel : decode (m_byt 282) 45 = .ok (.invokestatic 171, 3)) (Or.inr (Or.inr ⟨rfl, rfl, by decide, by decide⟩)) (by decide +kernel) (by decide +kernel) (by decide +kernel) (Nat.le_of_ble_eq_true rfl) rfl (Or.inl rfl)
theorem b_282_48 {Z : mZ} {l0 l1 l2 l3 l4 l5 l6 l7 l8 l9 : mV} {s0 : Int} {h : mH} : m_run Z (282, 48, [l0, l1, l2, l3, l4, l5, l6, l7, l8, l9], [(0, s0)], h) = if w32 s0 = w32 (-52) then m_run Z (282, 53, [l0, l1, l2, l3, l4, l5, l6, l7, l8, l9], [], h) else m_run Z (282, 64, [l0, l1, l2, l3, l4, l5, l6, l7, l8, l9], [], h) := by
  refine g_base (by decide +kernel : decode (m_byt 282) 48 = .ok (.bipush (-52), 2)) rfl rfl ?_
  show m_run Z (282, 50, [l0, l1, l2, l3, l4, l5, l6, l7, l8, l9], [(0, (-52)), (0, s0)], h) = _
  exact g_brn (t := 64) (off := 14) (by decide +kernel : decode (m_byt 282) 50 = .ok (.if_icmp .ne 14, 3)) rfl rfl (by decide)
theorem b_282_53 {Z : mZ} {l0 l2 l3 l4 l5 l6 l7 l8 l9 : mV} {r1 : Nat} {h : mH} : m_run Z (282, 53, [l0, (2, ((r1 : Nat) : Int)), l2, l3, l4, l5, l6, l7, l8, l9], [], h) = (m_cl Z 274 [(2, ((r1 : Nat) : Int))] h).bind (m_aft (m_run Z) 282 54 [l0, (2, ((r1 : Nat) : Int)), l2, l3, l4, l5, l6, l7, l8, l9] []) := by
  refine g_aload_n (k := 1) (v := (2, ((r1 : Nat) : Int))) (by decide +kernel : decode (m_byt 282) 53 = .ok (.aload_n 1, 1)) rfl (Or.inl rfl) ?_
  exact g_inv (k := 0) (m' := 274) (np := 1) (as := [(2, ((r1 : Nat) : Int))]) (by decide +kernel : decode (m_byt 282) 54 = .ok (.invokestatic 205, 3)) (Or.inr (Or.inr ⟨rfl, rfl, by decide, by decide⟩)) (by decide +kernel) (by decide +kernel) (by decide +kernel) (Nat.le_of_ble_eq_true rfl) rfl (Or.inl rfl)
theorem b_282_57 {Z : mZ} {l0 l1 l2 l3 l4 l5 l6 l7 l8 l9 : mV} {s0 : Int} {h : mH} : m_run Z (282, 57, [l0, l1, l2, l3, l4, l5, l6, l7, l8, l9], [(0, s0)], h) = if w32 s0 = 0 then m_run Z (282, 64, [l0, l1, l2, l3, l4, l5, l6, l7, l8, l9], [], h) else m_run Z (282, 60, [l0, l1, l2, l3, l4, l5, l6, l7, l8, l9], [], h) := by
  exact g_brq (t := 64) (off := 7) (by decide +kernel : decode (m_byt 282) 57 = .ok (.ifCond .eq 7, 3)) rfl rfl (by decide)
theorem b_282_60 {Z : mZ} {l0 l2 l3 l4 l5 l6 l7 l8 l9 : mV} {r1 : Nat} {h : mH} : m_run Z (282, 60, [l0, (2, ((r1 : Nat) : Int)), l2, l3, l4, l5, l6, l7, l8, l9], [], h) = if w32 1 = 0 then m_run Z (282, 154, [l0, (2, ((r1 : Nat) : Int)), (0, 1), l3, l4, l5, l6, l7, l8, l9], [], h) else m_run Z (282, 70, [l0, (2, ((r1 : Nat) : Int)), (0, 1), l3, l4, l5, l6, l7, l8, l9], [], h) := by
  refine g_base (by decide +kernel : decode (m_byt 282) 60 = .ok (.iconst 1, 1)) rfl rfl ?_
  show m_run Z (282, 61, [l0, (2, ((r1 : Nat) : Int)), l2, l3, l4, l5, l6, l7, l8, l9], [(0, 1)], h) = _
  refine g_jmp (t := 65) (by decide +kernel : decode (m_byt 282) 61 = .ok (.goto 4, 3)) (by decide) ?_
  refine g_istore_n (k := 2) (by decide +kernel : decode (m_byt 282) 65 = .ok (.istore_n 2, 1)) (Nat.le_of_ble_eq_true rfl) ?_
  show m_run Z (282, 66, [l0, (2, ((r1 : Nat) : Int)), (0, 1), l3, l4, l5, l6, l7, l8, l9], [], h) = _
  refine g_iload_n (k := 2) (x := 1) (by decide +kernel : decode (m_byt 282) 66 = .ok (.iload_n 2, 1)) rfl ?_
  exact g_brq (t := 154) (off := 87) (by decide +kernel : decode (m_byt 282) 67 = .ok (.ifCond .eq 87, 3)) rfl rfl (by decide)
theorem b_282_64 {Z : mZ} {l0 l1 l2 l3 l4 l5 l6 l7 l8 l9 : mV} {h : mH} : m_run Z (282, 64, [l0, l1, l2, l3, l4, l5, l6, l7, l8, l9], [], h) = m_run Z (282, 65, [l0, l1, l2, l3, l4, l5, l6, l7, l8, l9], [(0, 0)], h) := by
  refine g_base (by decide +kernel : decode (m_byt 282) 64 = .ok (.iconst 0, 1)) rfl rfl ?_
  show m_run Z (282, 65, [l0, l1, l2, l3, l4, l5, l6, l7, l8, l9], [(0, 0)], h) = _
  rfl
theorem b_282_65 {Z : mZ} {l0 l2 l3 l4 l5 l6 l7 l8 l9 : mV} {s0 : Int} {r1 : Nat} {h : mH} : m_run Z (282, 65, [l0, (2, ((r1 : Nat) : Int)), l2, l3, l4, l5, l6, l7, l8, l9], [(0, s0)], h) = if w32 s0 = 0 then m_run Z (282, 154, [l0, (2, ((r1 : Nat) : Int)), (0, s0), l3, l4, l5, l6, l7, l8, l9], [], h) else m_run Z (282, 70, [l0, (2, ((r1 : Nat) : Int)), (0, s0), l3, l4, l5, l6, l7, l8, l9], [], h) := by
  refine g_istore_n (k := 2) (by decide +kernel : decode (m_byt 282) 65 = .ok (.istore_n 2, 1)) (Nat.le_of_ble_eq_true rfl) ?_
  show m_run Z (282, 66, [l0, (2, ((r1 : Nat) : Int)), (0, s0), l3, l4, l5, l6, l7, l8, l9], [], h) = _
  refine g_iload_n (k := 2) (x := s0) (by decide +kernel : decode (m_byt 282) 66 = .ok (.iload_n 2, 1)) rfl ?_
  exact g_brq (t := 154) (off := 87) (by decide +kernel : decode (m_byt 282) 67 = .ok (.ifCond .eq 87, 3)) rfl rfl (by decide)
theorem b_282_70 {Z : mZ} {l2 l3 l4 l5 l6 l7 l8 l9 : mV} {x0 : Int} {r1 : Nat} {h : mH} : m_run Z (282, 70, [(4, x0), (2, ((r1 : Nat) : Int)), l2, l3, l4, l5, l6, l7, l8, l9], [], h) = (m_cl Z 241 [(4, x0), (0, 20)] h).bind (m_aft (m_run Z) 282 77 [(4, x0), (2, ((r1 : Nat) : Int)), l2, l3, l4, l5, l6, l7, l8, l9] [(0, 1), (0, 1), (0, 0), (2, ((r1 : Nat) : Int))]) := by
  refine g_aload_n (k := 1) (v := (2, ((r1 : Nat) : Int))) (by decide +kernel : decode (m_byt 282) 70 = .ok (.aload_n 1, 1)) rfl (Or.inl rfl) ?_
  refine g_base (by decide +kernel : decode (m_byt 282) 71 = .ok (.iconst 0, 1)) rfl rfl ?_
  show m_run Z (282, 72, [(4, x0), (2, ((r1 : Nat) : Int)), l2, l3, l4, l5, l6, l7, l8, l9], [(0, 0), (2, ((r1 : Nat) : Int))], h) = _
  refine g_base (by decide +kernel : decode (m_byt 282) 72 = .ok (.iconst 1, 1)) rfl rfl ?_
  show m_run Z (282, 73, [(4, x0), (2, ((r1 : Nat) : Int)), l2, l3, l4, l5, l6, l7, l8, l9], [(0, 1), (0, 0), (2, ((r1 : Nat) : Int))], h) = _
  refine g_base (by decide +kernel : decode (m_byt 282) 73 = .ok (.iconst 1, 1)) rfl rfl ?_
  show m_run Z (282, 74, [(4, x0), (2, ((r1 : Nat) : Int)), l2, l3, l4, l5, l6, l7, l8, l9], [(0, 1), (0, 1), (0, 0), (2, ((r1 : Nat) : Int))], h) = _
  refine g_aload_n (k := 0) (v := (4, x0)) (by decide +kernel : decode (m_byt 282) 74 = .ok (.aload_n 0, 1)) rfl (Or.inr (Or.inr rfl)) ?_
  refine g_base (by decide +kernel : decode (m_byt 282) 75 = .ok (.bipush 20, 2)) rfl rfl ?_
  show m_run Z (282, 77, [(4, x0), (2, ((r1 : Nat) : Int)), l2, l3, l4, l5, l6, l7, l8, l9], [(0, 20), (4, x0), (0, 1), (0, 1), (0, 0), (2, ((r1 : Nat) : Int))], h) = _
  exact g_inv (k := 0) (m' := 241) (np := 2) (as := [(4, x0), (0, 20)]) (by decide +kernel : decode (m_byt 282) 77 = .ok (.invokestatic 209, 3)) (Or.inr (Or.inr ⟨rfl, rfl, by decide, by decide⟩)) (by decide +kernel) (by decide +kernel) (by decide +kernel) (Nat.le_of_ble_eq_true rfl) rfl (Or.inl rfl)
theorem b_282_80 {Z : mZ} {l0 l1 l2 l3 l4 l5 l6 l7 l8 l9 : mV} {s0 s1 s2 s3 : Int} {s4 : Nat} {h : mH} : m_run Z (282, 80, [l0, l1, l2, l3, l4, l5, l6, l7, l8, l9], [(0, s0), (0, s1), (0, s2), (0, s3), (2, ((s4 : Nat) : Int))], h) = (m_cl Z 242 [(0, s0), (0, 50)] h).bind (m_aft (m_run Z) 282 82 [l0, l1, l2, l3, l4, l5, l6, l7, l8, l9] [(0, s1), (0, s2), (0, s3), (2, ((s4 : Nat) : Int))]) := by
  refine g_base (by decide +kernel : decode (m_byt 282) 80 = .ok (.bipush 50, 2)) rfl rfl ?_
  show m_run Z (282, 82, [l0, l1, l2, l3, l4, l5, l6, l7, l8, l9], [(0, 50), (0, s0), (0, s1), (0, s2), (0, s3), (2, ((s4 : Nat) : Int))], h) = _
  exact g_inv (k := 0) (m' := 242) (np := 2) (as := [(0, s0), (0, 50)]) (by decide +kernel : decode (m_byt 282) 82 = .ok (.invokestatic 213, 3)) (Or.inr (Or.inr ⟨rfl, rfl, by decide, by decide⟩)) (by decide +kernel) (by decide +kernel) (by decide +kernel) (Nat.le_of_ble_eq_true rfl) rfl (Or.inl rfl)
theorem b_282_85 {Z : mZ} {l0 l1 l2 l3 l4 l5 l6 l7 l8 l9 : mV} {s0 s1 s2 s3 : Int} {s4 : Nat} {h : mH} : m_run Z (282, 85, [l0, l1, l2, l3, l4, l5, l6, l7, l8, l9], [(0, s0), (0, s1), (0, s2), (0, s3), (2, ((s4 : Nat) : Int))], h) = (m_cl Z 244 [(2, ((s4 : Nat) : Int)), (0, s3), (0, s2), (0, (s1 + s0))] h).bind (m_aft (m_run Z) 282 86 [l0, l1, l2, l3, l4, l5, l6, l7, l8, l9] []) := by
  refine g_base (by decide +kernel : decode (m_byt 282) 85 = .ok (.iadd, 1)) rfl rfl ?_
  show m_run Z (282, 86, [l0, l1, l2, l3, l4, l5, l6, l7, l8, l9], [(0, (s1 + s0)), (0, s2), (0, s3), (2, ((s4 : Nat) : Int))], h) = _
  exact g_inv (k := 0) (m' := 244) (np := 4) (as := [(2, ((s4 : Nat) : Int)), (0, s3), (0, s2), (0, (s1 + s0))]) (by decide +kernel : decode (m_byt 282) 86 = .ok (.invokestatic 138, 3)) (Or.inr (Or.inr ⟨rfl, rfl, by decide, by decide⟩)) (by decide +kernel) (by decide +kernel) (by decide +kernel) (Nat.le_of_ble_eq_true rfl) rfl (Or.inl rfl)
theorem b_282_89 {Z : mZ} {l0 l1 l2 l3 l4 l5 l6 l7 l8 l9 : mV} {s0 : Int} {h : mH} : m_run Z (282, 89, [l0, l1, l2, l3, l4, l5, l6, l7, l8, l9], [(0, s0)], h) = if w32 s0 = 0 then m_run Z (282, 92, [l0, l1, l2, l3, l4, l5, l6, l7, l8, l9], [], h) else m_run Z (282, 154, [l0, l1, l2, l3, l4, l5, l6, l7, l8, l9], [], h) := by
  exact g_brn (t := 154) (off := 65) (by decide +kernel : decode (m_byt 282) 89 = .ok (.ifCond .ne 65, 3)) rfl rfl (by decide)
theorem b_282_92 {Z : mZ} {l2 l3 l4 l5 l6 l7 l8 l9 : mV} {x0 : Int} {r1 : Nat} {h : mH} : m_run Z (282, 92, [(4, x0), (2, ((r1 : Nat) : Int)), l2, l3, l4, l5, l6, l7, l8, l9], [], h) = (m_cl Z 241 [(4, x0), (0, 21)] h).bind (m_aft (m_run Z) 282 99 [(4, x0), (2, ((r1 : Nat) : Int)), l2, l3, l4, l5, l6, l7, l8, l9] [(0, 1), (0, 2), (0, 1), (2, ((r1 : Nat) : Int))]) := by
  refine g_aload_n (k := 1) (v := (2, ((r1 : Nat) : Int))) (by decide +kernel : decode (m_byt 282) 92 = .ok (.aload_n 1, 1)) rfl (Or.inl rfl) ?_
  refine g_base (by decide +kernel : decode (m_byt 282) 93 = .ok (.iconst 1, 1)) rfl rfl ?_
  show m_run Z (282, 94, [(4, x0), (2, ((r1 : Nat) : Int)), l2, l3, l4, l5, l6, l7, l8, l9], [(0, 1), (2, ((r1 : Nat) : Int))], h) = _
  refine g_base (by decide +kernel : decode (m_byt 282) 94 = .ok (.iconst 2, 1)) rfl rfl ?_
  show m_run Z (282, 95, [(4, x0), (2, ((r1 : Nat) : Int)), l2, l3, l4, l5, l6, l7, l8, l9], [(0, 2), (0, 1), (2, ((r1 : Nat) : Int))], h) = _
  refine g_base (by decide +kernel : decode (m_byt 282) 95 = .ok (.iconst 1, 1)) rfl rfl ?_
  show m_run Z (282, 96, [(4, x0), (2, ((r1 : Nat) : Int)), l2, l3, l4, l5, l6, l7, l8, l9], [(0, 1), (0, 2), (0, 1), (2, ((r1 : Nat) : Int))], h) = _
  refine g_aload_n (k := 0) (v := (4, x0)) (by decide +kernel : decode (m_byt 282) 96 = .ok (.aload_n 0, 1)) rfl (Or.inr (Or.inr rfl)) ?_
  refine g_base (by decide +kernel : decode (m_byt 282) 97 = .ok (.bipush 21, 2)) rfl rfl ?_
  show m_run Z (282, 99, [(4, x0), (2, ((r1 : Nat) : Int)), l2, l3, l4, l5, l6, l7, l8, l9], [(0, 21), (4, x0), (0, 1), (0, 2), (0, 1), (2, ((r1 : Nat) : Int))], h) = _
  exact g_inv (k := 0) (m' := 241) (np := 2) (as := [(4, x0), (0, 21)]) (by decide +kernel : decode (m_byt 282) 99 = .ok (.invokestatic 209, 3)) (Or.inr (Or.inr ⟨rfl, rfl, by decide, by decide⟩)) (by decide +kernel) (by decide +kernel) (by decide +kernel) (Nat.le_of_ble_eq_true rfl) rfl (Or.inl rfl)
theorem b_282_102 {Z : mZ} {l0 l1 l2 l3 l4 l5 l6 l7 l8 l9 : mV} {s0 s1 s2 s3 : Int} {s4 : Nat} {h : mH} : m_run Z (282, 102, [l0, l1, l2, l3, l4, l5, l6, l7, l8, l9], [(0, s0), (0, s1), (0, s2), (0, s3), (2, ((s4 : Nat) : Int))], h) = (m_cl Z 242 [(0, s0), (0, 50)] h).bind (m_aft (m_run Z) 282 104 [l0, l1, l2, l3, l4, l5, l6, l7, l8, l9] [(0, s1), (0, s2), (0, s3), (2, ((s4 : Nat) : Int))]) := by
  refine g_base (by decide +kernel : decode (m_byt 282) 102 = .ok (.bipush 50, 2)) rfl rfl ?_
  show m_run Z (282, 104, [l0, l1, l2, l3, l4, l5, l6, l7, l8, l9], [(0, 50), (0, s0), (0, s1), (0, s2), (0, s3), (2, ((s4 : Nat) : Int))], h) = _
  exact g_inv (k := 0) (m' := 242) (np := 2) (as := [(0, s0), (0, 50)]) (by decide +kernel : decode (m_byt 282) 104 = .ok (.invokestatic 213, 3)) (Or.inr (Or.inr ⟨rfl, rfl, by decide, by decide⟩)) (by decide +kernel) (by decide +kernel) (by decide +kernel) (Nat.le_of_ble_eq_true rfl) rfl (Or.inl rfl)
theorem b_282_107 {Z : mZ} {l0 l1 l2 l3 l4 l5 l6 l7 l8 l9 : mV} {s0 s1 s2 s3 : Int} {s4 : Nat} {h : mH} : m_run Z (282, 107, [l0, l1, l2, l3, l4, l5, l6, l7, l8, l9], [(0, s0), (0, s1), (0, s2), (0, s3), (2, ((s4 : Nat) : Int))], h) = (m_cl Z 244 [(2, ((s4 : Nat) : Int)), (0, s3), (0, s2), (0, (s1 + s0))] h).bind (m_aft (m_run Z) 282 108 [l0, l1, l2, l3, l4, l5, l6, l7, l8, l9] []) := by
  refine g_base (by decide +kernel : decode (m_byt 282) 107 = .ok (.iadd, 1)) rfl rfl ?_
  show m_run Z (282, 108, [l0, l1, l2, l3, l4, l5, l6, l7, l8, l9], [(0, (s1 + s0)), (0, s2), (0, s3), (2, ((s4 : Nat) : Int))], h) = _
  exact g_inv (k := 0) (m' := 244) (np := 4) (as := [(2, ((s4 : Nat) : Int)), (0, s3), (0, s2), (0, (s1 + s0))]) (by decide +kernel : decode (m_byt 282) 108 = .ok (.invokestatic 138, 3)) (Or.inr (Or.inr ⟨rfl, rfl, by decide, by decide⟩)) (by decide +kernel) (by decide +kernel) (by decide +kernel) (Nat.le_of_ble_eq_true rfl) rfl (Or.inl rfl)
theorem b_282_111 {Z : mZ} {l0 l1 l2 l3 l4 l5 l6 l7 l8 l9 : mV} {s0 : Int} {h : mH} : m_run Z (282, 111, [l0, l1, l2, l3, l4, l5, l6, l7, l8, l9], [(0, s0)], h) = if w32 s0 = w32 1 then m_run Z (282, 115, [l0, l1, l2, l3, l4, l5, l6, l7, l8, l9], [], h) else m_run Z (282, 154, [l0, l1, l2, l3, l4, l5, l6, l7, l8, l9], [], h) := by
  refine g_base (by decide +kernel : decode (m_byt 282) 111 = .ok (.iconst 1, 1)) rfl rfl ?_
  show m_run Z (282, 112, [l0, l1, l2, l3, l4, l5, l6, l7, l8, l9], [(0, 1), (0, s0)], h) = _
  exact g_brn (t := 154) (off := 42) (by decide +kernel : decode (m_byt 282) 112 = .ok (.if_icmp .ne 42, 3)) rfl rfl (by decide)
theorem b_282_115 {Z : mZ} {l2 l3 l4 l5 l6 l7 l8 l9 : mV} {x0 : Int} {r1 : Nat} {h : mH} : m_run Z (282, 115, [(4, x0), (2, ((r1 : Nat) : Int)), l2, l3, l4, l5, l6, l7, l8, l9], [], h) = (m_cl Z 241 [(4, x0), (0, 22)] h).bind (m_aft (m_run Z) 282 122 [(4, x0), (2, ((r1 : Nat) : Int)), l2, l3, l4, l5, l6, l7, l8, l9] [(0, 1), (0, 1), (0, 3), (2, ((r1 : Nat) : Int))]) := by
  refine g_aload_n (k := 1) (v := (2, ((r1 : Nat) : Int))) (by decide +kernel : decode (m_byt 282) 115 = .ok (.aload_n 1, 1)) rfl (Or.inl rfl) ?_
  refine g_base (by decide +kernel : decode (m_byt 282) 116 = .ok (.iconst 3, 1)) rfl rfl ?_
  show m_run Z (282, 117, [(4, x0), (2, ((r1 : Nat) : Int)), l2, l3, l4, l5, l6, l7, l8, l9], [(0, 3), (2, ((r1 : Nat) : Int))], h) = _
  refine g_base (by decide +kernel : decode (m_byt 282) 117 = .ok (.iconst 1, 1)) rfl rfl ?_
  show m_run Z (282, 118, [(4, x0), (2, ((r1 : Nat) : Int)), l2, l3, l4, l5, l6, l7, l8, l9], [(0, 1), (0, 3), (2, ((r1 : Nat) : Int))], h) = _
  refine g_base (by decide +kernel : decode (m_byt 282) 118 = .ok (.iconst 1, 1)) rfl rfl ?_
  show m_run Z (282, 119, [(4, x0), (2, ((r1 : Nat) : Int)), l2, l3, l4, l5, l6, l7, l8, l9], [(0, 1), (0, 1), (0, 3), (2, ((r1 : Nat) : Int))], h) = _
  refine g_aload_n (k := 0) (v := (4, x0)) (by decide +kernel : decode (m_byt 282) 119 = .ok (.aload_n 0, 1)) rfl (Or.inr (Or.inr rfl)) ?_
  refine g_base (by decide +kernel : decode (m_byt 282) 120 = .ok (.bipush 22, 2)) rfl rfl ?_
  show m_run Z (282, 122, [(4, x0), (2, ((r1 : Nat) : Int)), l2, l3, l4, l5, l6, l7, l8, l9], [(0, 22), (4, x0), (0, 1), (0, 1), (0, 3), (2, ((r1 : Nat) : Int))], h) = _
  exact g_inv (k := 0) (m' := 241) (np := 2) (as := [(4, x0), (0, 22)]) (by decide +kernel : decode (m_byt 282) 122 = .ok (.invokestatic 209, 3)) (Or.inr (Or.inr ⟨rfl, rfl, by decide, by decide⟩)) (by decide +kernel) (by decide +kernel) (by decide +kernel) (Nat.le_of_ble_eq_true rfl) rfl (Or.inl rfl)
theorem b_282_125 {Z : mZ} {l0 l1 l2 l3 l4 l5 l6 l7 l8 l9 : mV} {s0 s1 s2 s3 : Int} {s4 : Nat} {h : mH} : m_run Z (282, 125, [l0, l1, l2, l3, l4, l5, l6, l7, l8, l9], [(0, s0), (0, s1), (0, s2), (0, s3), (2, ((s4 : Nat) : Int))], h) = (m_cl Z 242 [(0, s0), (0, 50)] h).bind (m_aft (m_run Z) 282 127 [l0, l1, l2, l3, l4, l5, l6, l7, l8, l9] [(0, s1), (0, s2), (0, s3), (2, ((s4 : Nat) : Int))]) := by
  refine g_base (by decide +kernel : decode (m_byt 282) 125 = .ok (.bipush 50, 2)) rfl rfl ?_
  show m_run Z (282, 127, [l0, l1, l2, l3, l4, l5, l6, l7, l8, l9], [(0, 50), (0, s0), (0, s1), (0, s2), (0, s3), (2, ((s4 : Nat) : Int))], h) = _
  exact g_inv (k := 0) (m' := 242) (np := 2) (as := [(0, s0), (0, 50)]) (by decide +kernel : decode (m_byt 282) 127 = .ok (.invokestatic 213, 3)) (Or.inr (Or.inr ⟨rfl, rfl, by decide, by decide⟩)) (by decide +kernel) (by decide +kernel) (by decide +kernel) (Nat.le_of_ble_eq_true rfl) rfl (Or.inl rfl)
theorem b_282_130 {Z : mZ} {l0 l1 l2 l3 l4 l5 l6 l7 l8 l9 : mV} {s0 s1 s2 s3 : Int} {s4 : Nat} {h : mH} : m_run Z (282, 130, [l0, l1, l2, l3, l4, l5, l6, l7, l8, l9], [(0, s0), (0, s1), (0, s2), (0, s3), (2, ((s4 : Nat) : Int))], h) = (m_cl Z 244 [(2, ((s4 : Nat) : Int)), (0, s3), (0, s2), (0, (s1 + s0))] h).bind (m_aft (m_run Z) 282 131 [l0, l1, l2, l3, l4, l5, l6, l7, l8, l9] []) := by
  refine g_base (by decide +kernel : decode (m_byt 282) 130 = .ok (.iadd, 1)) rfl rfl ?_
  show m_run Z (282, 131, [l0, l1, l2, l3, l4, l5, l6, l7, l8, l9], [(0, (s1 + s0)), (0, s2), (0, s3), (2, ((s4 : Nat) : Int))], h) = _
  exact g_inv (k := 0) (m' := 244) (np := 4) (as := [(2, ((s4 : Nat) : Int)), (0, s3), (0, s2), (0, (s1 + s0))]) (by decide +kernel : decode (m_byt 282) 131 = .ok (.invokestatic 138, 3)) (Or.inr (Or.inr ⟨rfl, rfl, by decide, by decide⟩)) (by decide +kernel) (by decide +kernel) (by decide +kernel) (Nat.le_of_ble_eq_true rfl) rfl (Or.inl rfl)
theorem b_282_134 {Z : mZ} {l0 l1 l2 l3 l4 l5 l6 l7 l8 l9 : mV} {s0 : Int} {h : mH} : m_run Z (282, 134, [l0, l1, l2, l3, l4, l5, l6, l7, l8, l9], [(0, s0)], h) = if w32 s0 = w32 2 then m_run Z (282, 138, [l0, l1, l2, l3, l4, l5, l6, l7, l8, l9], [], h) else m_run Z (282, 154, [l0, l1, l2, l3, l4, l5, l6, l7, l8, l9], [], h) := by
  refine g_base (by decide +kernel : decode (m_byt 282) 134 = .ok (.iconst 2, 1)) rfl rfl ?_
  show m_run Z (282, 135, [l0, l1, l2, l3, l4, l5, l6, l7, l8, l9], [(0, 2), (0, s0)], h) = _
  exact g_brn (t := 154) (off := 19) (by decide +kernel : decode (m_byt 282) 135 = .ok (.if_icmp .ne 19, 3)) rfl rfl (by decide)
theorem b_282_138 {Z : mZ} {l0 l2 l3 l4 l5 l6 l7 l8 l9 : mV} {r1 : Nat} {h : mH} : m_run Z (282, 138, [l0, (2, ((r1 : Nat) : Int)), l2, l3, l4, l5, l6, l7, l8, l9], [], h) = (m_cl Z 244 [(2, ((r1 : Nat) : Int)), (0, 2), (0, 3), (0, 7)] h).bind (m_aft (m_run Z) 282 143 [l0, (2, ((r1 : Nat) : Int)), l2, l3, l4, l5, l6, l7, l8, l9] []) := by
  refine g_aload_n (k := 1) (v := (2, ((r1 : Nat) : Int))) (by decide +kernel : decode (m_byt 282) 138 = .ok (.aload_n 1, 1)) rfl (Or.inl rfl) ?_
  refine g_base (by decide +kernel : decode (m_byt 282) 139 = .ok (.iconst 2, 1)) rfl rfl ?_
  show m_run Z (282, 140, [l0, (2, ((r1 : Nat) : Int)), l2, l3, l4, l5, l6, l7, l8, l9], [(0, 2), (2, ((r1 : Nat) : Int))], h) = _
  refine g_base (by decide +kernel : decode (m_byt 282) 140 = .ok (.iconst 3, 1)) rfl rfl ?_
  show m_run Z (282, 141, [l0, (2, ((r1 : Nat) : Int)), l2, l3, l4, l5, l6, l7, l8, l9], [(0, 3), (0, 2), (2, ((r1 : Nat) : Int))], h) = _
  refine g_base (by decide +kernel : decode (m_byt 282) 141 = .ok (.bipush 7, 2)) rfl rfl ?_
  show m_run Z (282, 143, [l0, (2, ((r1 : Nat) : Int)), l2, l3, l4, l5, l6, l7, l8, l9], [(0, 7), (0, 3), (0, 2), (2, ((r1 : Nat) : Int))], h) = _
  exact g_inv (k := 0) (m' := 244) (np := 4) (as := [(2, ((r1 : Nat) : Int)), (0, 2), (0, 3), (0, 7)]) (by decide +kernel : decode (m_byt 282) 143 = .ok (.invokestatic 138, 3)) (Or.inr (Or.inr ⟨rfl, rfl, by decide, by decide⟩)) (by decide +kernel) (by decide +kernel) (by decide +kernel) (Nat.le_of_ble_eq_true rfl) rfl (Or.inl rfl)
theorem b_282_146 {Z : mZ} {l0 l1 l2 l3 l4 l5 l6 l7 l8 l9 : mV} {s0 : Int} {h : mH} : m_run Z (282, 146, [l0, l1, l2, l3, l4, l5, l6, l7, l8, l9], [(0, s0)], h) = if w32 s0 = w32 3 then m_run Z (282, 150, [l0, l1, l2, l3, l4, l5, l6, l7, l8, l9], [], h) else m_run Z (282, 154, [l0, l1, l2, l3, l4, l5, l6, l7, l8, l9], [], h) := by
  refine g_base (by decide +kernel : decode (m_byt 282) 146 = .ok (.iconst 3, 1)) rfl rfl ?_
  show m_run Z (282, 147, [l0, l1, l2, l3, l4, l5, l6, l7, l8, l9], [(0, 3), (0, s0)], h) = _
  exact g_brn (t := 154) (off := 7) (by decide +kernel : decode (m_byt 282) 147 = .ok (.if_icmp .ne 7, 3)) rfl rfl (by decide)
theorem b_282_150 {Z : mZ} {l0 l2 l3 l4 l5 l6 l7 l8 l9 : mV} {r1 : Nat} {h : mH} : m_run Z (282, 150, [l0, (2, ((r1 : Nat) : Int)), l2, l3, l4, l5, l6, l7, l8, l9], [], h) = m_run Z (282, 158, [l0, (2, ((r1 : Nat) : Int)), (0, 1), (0, 0), l4, l5, l6, l7, l8, l9], [], h) := by
  refine g_base (by decide +kernel : decode (m_byt 282) 150 = .ok (.iconst 1, 1)) rfl rfl ?_
  show m_run Z (282, 151, [l0, (2, ((r1 : Nat) : Int)), l2, l3, l4, l5, l6, l7, l8, l9], [(0, 1)], h) = _
  refine g_jmp (t := 155) (by decide +kernel : decode (m_byt 282) 151 = .ok (.goto 4, 3)) (by decide) ?_
  refine g_istore_n (k := 2) (by decide +kernel : decode (m_byt 282) 155 = .ok (.istore_n 2, 1)) (Nat.le_of_ble_eq_true rfl) ?_
  show m_run Z (282, 156, [l0, (2, ((r1 : Nat) : Int)), (0, 1), l3, l4, l5, l6, l7, l8, l9], [], h) = _
  refine g_base (by decide +kernel : decode (m_byt 282) 156 = .ok (.iconst 0, 1)) rfl rfl ?_
  show m_run Z (282, 157, [l0, (2, ((r1 : Nat) : Int)), (0, 1), l3, l4, l5, l6, l7, l8, l9], [(0, 0)], h) = _
  refine g_istore_n (k := 3) (by decide +kernel : decode (m_byt 282) 157 = .ok (.istore_n 3, 1)) (Nat.le_of_ble_eq_true rfl) ?_
  show m_run Z (282, 158, [l0, (2, ((r1 : Nat) : Int)), (0, 1), (0, 0), l4, l5, l6, l7, l8, l9], [], h) = _
  rfl
theorem b_282_154 {Z : mZ} {l0 l1 l2 l3 l4 l5 l6 l7 l8 l9 : mV} {h : mH} : m_run Z (282, 154, [l0, l1, l2, l3, l4, l5, l6, l7, l8, l9], [], h) = m_run Z (282, 155, [l0, l1, l2, l3, l4, l5, l6, l7, l8, l9], [(0, 0)], h) := by
  refine g_base (by decide +kernel : decode (m_byt 282) 154 = .ok (.iconst 0, 1)) rfl rfl ?_
  show m_run Z (282, 155, [l0, l1, l2, l3, l4, l5, l6, l7, l8, l9], [(0, 0)], h) = _
  rfl
theorem b_282_155 {Z : mZ} {l0 l2 l3 l4 l5 l6 l7 l8 l9 : mV} {s0 : Int} {r1 : Nat} {h : mH} : m_run Z (282, 155, [l0, (2, ((r1 : Nat) : Int)), l2, l3, l4, l5, l6, l7, l8, l9], [(0, s0)], h) = m_run Z (282, 158, [l0, (2, ((r1 : Nat) : Int)), (0, s0), (0, 0), l4, l5, l6, l7, l8, l9], [], h) := by
  refine g_istore_n (k := 2) (by decide +kernel : decode (m_byt 282) 155 = .ok (.istore_n 2, 1)) (Nat.le_of_ble_eq_true rfl) ?_
  show m_run Z (282, 156, [l0, (2, ((r1 : Nat) : Int)), (0, s0), l3, l4, l5, l6, l7, l8, l9], [], h) = _
  refine g_base (by decide +kernel : decode (m_byt 282) 156 = .ok (.iconst 0, 1)) rfl rfl ?_
  show m_run Z (282, 157, [l0, (2, ((r1 : Nat) : Int)), (0, s0), l3, l4, l5, l6, l7, l8, l9], [(0, 0)], h) = _
  refine g_istore_n (k := 3) (by decide +kernel : decode (m_byt 282) 157 = .ok (.istore_n 3, 1)) (Nat.le_of_ble_eq_true rfl) ?_
  show m_run Z (282, 158, [l0, (2, ((r1 : Nat) : Int)), (0, s0), (0, 0), l4, l5, l6, l7, l8, l9], [], h) = _
  rfl
theorem b_282_158 {Z : mZ} {l0 l1 l2 l4 l5 l6 l7 l8 l9 : mV} {x3 : Int} {h : mH} : m_run Z (282, 158, [l0, l1, l2, (0, x3), l4, l5, l6, l7, l8, l9], [], h) = if w32 10 ≤ w32 x3 then m_run Z (282, 662, [l0, l1, l2, (0, x3), l4, l5, l6, l7, l8, l9], [], h) else m_run Z (282, 164, [l0, l1, l2, (0, x3), l4, l5, l6, l7, l8, l9], [], h) := by
  refine g_iload_n (k := 3) (x := x3) (by decide +kernel : decode (m_byt 282) 158 = .ok (.iload_n 3, 1)) rfl ?_
  refine g_base (by decide +kernel : decode (m_byt 282) 159 = .ok (.bipush 10, 2)) rfl rfl ?_
  show m_run Z (282, 161, [l0, l1, l2, (0, x3), l4, l5, l6, l7, l8, l9], [(0, 10), (0, x3)], h) = _
  exact g_brq (t := 662) (off := 501) (by decide +kernel : decode (m_byt 282) 161 = .ok (.if_icmp .ge 501, 3)) rfl rfl (by decide)
theorem b_282_164 {Z : mZ} {l0 l1 l3 l4 l5 l6 l7 l8 l9 : mV} {x2 : Int} {h : mH} : m_run Z (282, 164, [l0, l1, (0, x2), l3, l4, l5, l6, l7, l8, l9], [], h) = if w32 x2 = 0 then m_run Z (282, 662, [l0, l1, (0, x2), l3, l4, l5, l6, l7, l8, l9], [], h) else m_run Z (282, 168, [l0, l1, (0, x2), l3, l4, l5, l6, l7, l8, l9], [], h) := by
  refine g_iload_n (k := 2) (x := x2) (by decide +kernel : decode (m_byt 282) 164 = .ok (.iload_n 2, 1)) rfl ?_
  exact g_brq (t := 662) (off := 497) (by decide +kernel : decode (m_byt 282) 165 = .ok (.ifCond .eq 497, 3)) rfl rfl (by decide)
theorem b_282_168 {Z : mZ} {l1 l2 l4 l5 l6 l7 l8 l9 : mV} {x0 x3 : Int} {h : mH} : m_run Z (282, 168, [(4, x0), l1, l2, (0, x3), l4, l5, l6, l7, l8, l9], [], h) = (m_cl Z 241 [(4, x0), (0, x3)] h).bind (m_aft (m_run Z) 282 170 [(4, x0), l1, l2, (0, x3), l4, l5, l6, l7, l8, l9] []) := by
  refine g_aload_n (k := 0) (v := (4, x0)) (by decide +kernel : decode (m_byt 282) 168 = .ok (.aload_n 0, 1)) rfl (Or.inr (Or.inr rfl)) ?_
  refine g_iload_n (k := 3) (x := x3) (by decide +kernel : decode (m_byt 282) 169 = .ok (.iload_n 3, 1)) rfl ?_
  exact g_inv (k := 0) (m' := 241) (np := 2) (as := [(4, x0), (0, x3)]) (by decide +kernel : decode (m_byt 282) 170 = .ok (.invokestatic 209, 3)) (Or.inr (Or.inr ⟨rfl, rfl, by decide, by decide⟩)) (by decide +kernel) (by decide +kernel) (by decide +kernel) (Nat.le_of_ble_eq_true rfl) rfl (Or.inl rfl)
theorem b_282_173 {Z : mZ} {l0 l2 l4 l5 l6 l7 l8 l9 : mV} {s0 x3 : Int} {r1 : Nat} {h : mH} : m_run Z (282, 173, [l0, (2, ((r1 : Nat) : Int)), l2, (0, x3), l4, l5, l6, l7, l8, l9], [(0, s0)], h) = (m_cl Z 250 [(2, ((r1 : Nat) : Int)), (0, 0)] h).bind (m_aft (m_run Z) 282 177 [l0, (2, ((r1 : Nat) : Int)), l2, (0, x3), (0, s0), l5, l6, l7, l8, l9] []) := by
  refine g_istore (k := 4) (by decide +kernel : decode (m_byt 282) 173 = .ok (.istore 4, 2)) (Nat.le_of_ble_eq_true rfl) ?_
  show m_run Z (282, 175, [l0, (2, ((r1 : Nat) : Int)), l2, (0, x3), (0, s0), l5, l6, l7, l8, l9], [], h) = _
  refine g_aload_n (k := 1) (v := (2, ((r1 : Nat) : Int))) (by decide +kernel : decode (m_byt 282) 175 = .ok (.aload_n 1, 1)) rfl (Or.inl rfl) ?_
  refine g_base (by decide +kernel : decode (m_byt 282) 176 = .ok (.iconst 0, 1)) rfl rfl ?_
  show m_run Z (282, 177, [l0, (2, ((r1 : Nat) : Int)), l2, (0, x3), (0, s0), l5, l6, l7, l8, l9], [(0, 0), (2, ((r1 : Nat) : Int))], h) = _
  exact g_inv (k := 0) (m' := 250) (np := 2) (as := [(2, ((r1 : Nat) : Int)), (0, 0)]) (by decide +kernel : decode (m_byt 282) 177 = .ok (.invokestatic 149, 3)) (Or.inr (Or.inr ⟨rfl, rfl, by decide, by decide⟩)) (by decide +kernel) (by decide +kernel) (by decide +kernel) (Nat.le_of_ble_eq_true rfl) rfl (Or.inl rfl)
theorem b_282_180 {Z : mZ} {l0 l1 l2 l3 l5 l6 l7 l8 l9 : mV} {s0 x4 : Int} {h : mH} : m_run Z (282, 180, [l0, l1, l2, l3, (0, x4), l5, l6, l7, l8, l9], [(0, s0)], h) = (m_cl Z 242 [(0, (i_shr x4 5)), (0, 100000)] h).bind (m_aft (m_run Z) 282 188 [l0, l1, l2, l3, (0, x4), (0, s0), l6, l7, l8, l9] []) := by
  refine g_istore (k := 5) (by decide +kernel : decode (m_byt 282) 180 = .ok (.istore 5, 2)) (Nat.le_of_ble_eq_true rfl) ?_
  show m_run Z (282, 182, [l0, l1, l2, l3, (0, x4), (0, s0), l6, l7, l8, l9], [], h) = _
  refine g_iload (k := 4) (x := x4) (by decide +kernel : decode (m_byt 282) 182 = .ok (.iload 4, 2)) rfl ?_
  refine g_base (by decide +kernel : decode (m_byt 282) 184 = .ok (.iconst 5, 1)) rfl rfl ?_
  show m_run Z (282, 185, [l0, l1, l2, l3, (0, x4), (0, s0), l6, l7, l8, l9], [(0, 5), (0, x4)], h) = _
  refine g_base (by decide +kernel : decode (m_byt 282) 185 = .ok (.ishr, 1)) rfl rfl ?_
  show m_run Z (282, 186, [l0, l1, l2, l3, (0, x4), (0, s0), l6, l7, l8, l9], [(0, (i_shr x4 5))], h) = _
  refine g_base (by decide +kernel : decode (m_byt 282) 186 = .ok (.ldc 216, 2)) rfl rfl ?_
  show m_run Z (282, 188, [l0, l1, l2, l3, (0, x4), (0, s0), l6, l7, l8, l9], [(0, 100000), (0, (i_shr x4 5))], h) = _
  exact g_inv (k := 0) (m' := 242) (np := 2) (as := [(0, (i_shr x4 5)), (0, 100000)]) (by decide +kernel : decode (m_byt 282) 188 = .ok (.invokestatic 213, 3)) (Or.inr (Or.inr ⟨rfl, rfl, by decide, by decide⟩)) (by decide +kernel) (by decide +kernel) (by decide +kernel) (Nat.le_of_ble_eq_true rfl) rfl (Or.inl rfl)
theorem b_282_191 {Z : mZ} {l0 l1 l2 l3 l6 l7 l8 l9 : mV} {s0 x5 x4 : Int} {h : mH} : m_run Z (282, 191, [l0, l1, l2, l3, (0, x4), (0, x5), l6, l7, l8, l9], [(0, s0)], h) = (m_cl Z 242 [(0, x4), (0, 11)] h).bind (m_aft (m_run Z) 282 200 [l0, l1, l2, l3, (0, x4), (0, x5), (0, s0), (0, 0), l8, l9] []) := by
  refine g_istore (k := 6) (by decide +kernel : decode (m_byt 282) 191 = .ok (.istore 6, 2)) (Nat.le_of_ble_eq_true rfl) ?_
  show m_run Z (282, 193, [l0, l1, l2, l3, (0, x4), (0, x5), (0, s0), l7, l8, l9], [], h) = _
  refine g_base (by decide +kernel : decode (m_byt 282) 193 = .ok (.iconst 0, 1)) rfl rfl ?_
  show m_run Z (282, 194, [l0, l1, l2, l3, (0, x4), (0, x5), (0, s0), l7, l8, l9], [(0, 0)], h) = _
  refine g_istore (k := 7) (by decide +kernel : decode (m_byt 282) 194 = .ok (.istore 7, 2)) (Nat.le_of_ble_eq_true rfl) ?_
  show m_run Z (282, 196, [l0, l1, l2, l3, (0, x4), (0, x5), (0, s0), (0, 0), l8, l9], [], h) = _
  refine g_iload (k := 4) (x := x4) (by decide +kernel : decode (m_byt 282) 196 = .ok (.iload 4, 2)) rfl ?_
  refine g_base (by decide +kernel : decode (m_byt 282) 198 = .ok (.bipush 11, 2)) rfl rfl ?_
  show m_run Z (282, 200, [l0, l1, l2, l3, (0, x4), (0, x5), (0, s0), (0, 0), l8, l9], [(0, 11), (0, x4)], h) = _
  exact g_inv (k := 0) (m' := 242) (np := 2) (as := [(0, x4), (0, 11)]) (by decide +kernel : decode (m_byt 282) 200 = .ok (.invokestatic 213, 3)) (Or.inr (Or.inr ⟨rfl, rfl, by decide, by decide⟩)) (by decide +kernel) (by decide +kernel) (by decide +kernel) (Nat.le_of_ble_eq_true rfl) rfl (Or.inl rfl)
theorem b_282_203_0 {Z : mZ} {l0 l1 l2 l3 l4 l5 l6 l7 l8 l9 : mV} {s0 : Int} {h : mH} (hx : w32 s0 = 0) : m_run Z (282, 203, [l0, l1, l2, l3, l4, l5, l6, l7, l8, l9], [(0, s0)], h) = m_run Z (282, 256, [l0, l1, l2, l3, l4, l5, l6, l7, l8, l9], [], h) := by
  exact g_swk (k := 0) (t := 256) (off := 53) (by decide +kernel : decode (m_byt 282) 203 = .ok (.tableswitch 210 0 9 #[53, 53, 85, 99, 99, 99, 121, 143, 143, 181], 53)) (by decide) hx rfl (by decide) rfl
theorem b_282_203_1 {Z : mZ} {l0 l1 l2 l3 l4 l5 l6 l7 l8 l9 : mV} {s0 : Int} {h : mH} (hx : w32 s0 = 1) : m_run Z (282, 203, [l0, l1, l2, l3, l4, l5, l6, l7, l8, l9], [(0, s0)], h) = m_run Z (282, 256, [l0, l1, l2, l3, l4, l5, l6, l7, l8, l9], [], h) := by
  exact g_swk (k := 1) (t := 256) (off := 53) (by decide +kernel : decode (m_byt 282) 203 = .ok (.tableswitch 210 0 9 #[53, 53, 85, 99, 99, 99, 121, 143, 143, 181], 53)) (by decide) hx rfl (by decide) rfl
theorem b_282_203_2 {Z : mZ} {l0 l1 l2 l3 l4 l5 l6 l7 l8 l9 : mV} {s0 : Int} {h : mH} (hx : w32 s0 = 2) : m_run Z (282, 203, [l0, l1, l2, l3, l4, l5, l6, l7, l8, l9], [(0, s0)], h) = m_run Z (282, 288, [l0, l1, l2, l3, l4, l5, l6, l7, l8, l9], [], h) := by
  exact g_swk (k := 2) (t := 288) (off := 85) (by decide +kernel : decode (m_byt 282) 203 = .ok (.tableswitch 210 0 9 #[53, 53, 85, 99, 99, 99, 121, 143, 143, 181], 53)) (by decide) hx rfl (by decide) rfl
theorem b_282_203_3 {Z : mZ} {l0 l1 l2 l3 l4 l5 l6 l7 l8 l9 : mV} {s0 : Int} {h : mH} (hx : w32 s0 = 3) : m_run Z (282, 203, [l0, l1, l2, l3, l4, l5, l6, l7, l8, l9], [(0, s0)], h) = m_run Z (282, 302, [l0, l1, l2, l3, l4, l5, l6, l7, l8, l9], [], h) := by
  exact g_swk (k := 3) (t := 302) (off := 99) (by decide +kernel : decode (m_byt 282) 203 = .ok (.tableswitch 210 0 9 #[53, 53, 85, 99, 99, 99, 121, 143, 143, 181], 53)) (by decide) hx rfl (by decide) rfl
theorem b_282_203_4 {Z : mZ} {l0 l1 l2 l3 l4 l5 l6 l7 l8 l9 : mV} {s0 : Int} {h : mH} (hx : w32 s0 = 4) : m_run Z (282, 203, [l0, l1, l2, l3, l4, l5, l6, l7, l8, l9], [(0, s0)], h) = m_run Z (282, 302, [l0, l1, l2, l3, l4, l5, l6, l7, l8, l9], [], h) := by
  exact g_swk (k := 4) (t := 302) (off := 99) (by decide +kernel : decode (m_byt 282) 203 = .ok (.tableswitch 210 0 9 #[53, 53, 85, 99, 99, 99, 121, 143, 143, 181], 53)) (by decide) hx rfl (by decide) rfl
theorem b_282_203_5 {Z : mZ} {l0 l1 l2 l3 l4 l5 l6 l7 l8 l9 : mV} {s0 : Int} {h : mH} (hx : w32 s0 = 5) : m_run Z (282, 203, [l0, l1, l2, l3, l4, l5, l6, l7, l8, l9], [(0, s0)], h) = m_run Z (282, 302, [l0, l1, l2, l3, l4, l5, l6, l7, l8, l9], [], h) := by
  exact g_swk (k := 5) (t := 302) (off := 99) (by decide +kernel : decode (m_byt 282) 203 = .ok (.tableswitch 210 0 9 #[53, 53, 85, 99, 99, 99, 121, 143, 143, 181], 53)) (by decide) hx rfl (by decide) rfl
theorem b_282_203_6 {Z : mZ} {l0 l1 l2 l3 l4 l5 l6 l7 l8 l9 : mV} {s0 : Int} {h : mH} (hx : w32 s0 = 6) : m_run Z (282, 203, [l0, l1, l2, l3, l4, l5, l6, l7, l8, l9], [(0, s0)], h) = m_run Z (282, 324, [l0, l1, l2, l3, l4, l5, l6, l7, l8, l9], [], h) := by
  exact g_swk (k := 6) (t := 324) (off := 121) (by decide +kernel : decode (m_byt 282) 203 = .ok (.tableswitch 210 0 9 #[53, 53, 85, 99, 99, 99, 121, 143, 143, 181], 53)) (by decide) hx rfl (by decide) rfl
theorem b_282_203_7 {Z : mZ} {l0 l1 l2 l3 l4 l5 l6 l7 l8 l9 : mV} {s0 : Int} {h : mH} (hx : w32 s0 = 7) : m_run Z (282, 203, [l0, l1, l2, l3, l4, l5, l6, l7, l8, l9], [(0, s0)], h) = m_run Z (282, 346, [l0, l1, l2, l3, l4, l5, l6, l7, l8, l9], [], h) := by
  exact g_swk (k := 7) (t := 346) (off := 143) (by decide +kernel : decode (m_byt 282) 203 = .ok (.tableswitch 210 0 9 #[53, 53, 85, 99, 99, 99, 121, 143, 143, 181], 53)) (by decide) hx rfl (by decide) rfl
theorem b_282_203_8 {Z : mZ} {l0 l1 l2 l3 l4 l5 l6 l7 l8 l9 : mV} {s0 : Int} {h : mH} (hx : w32 s0 = 8) : m_run Z (282, 203, [l0, l1, l2, l3, l4, l5, l6, l7, l8, l9], [(0, s0)], h) = m_run Z (282, 346, [l0, l1, l2, l3, l4, l5, l6, l7, l8, l9], [], h) := by
  exact g_swk (k := 8) (t := 346) (off := 143) (by decide +kernel : decode (m_byt 282) 203 = .ok (.tableswitch 210 0 9 #[53, 53, 85, 99, 99, 99, 121, 143, 143, 181], 53)) (by decide) hx rfl (by decide) rfl
theorem b_282_203_9 {Z : mZ} {l0 l1 l2 l3 l4 l5 l6 l7 l8 l9 : mV} {s0 : Int} {h : mH} (hx : w32 s0 = 9) : m_run Z (282, 203, [l0, l1, l2, l3, l4, l5, l6, l7, l8, l9], [(0, s0)], h) = m_run Z (282, 384, [l0, l1, l2, l3, l4, l5, l6, l7, l8, l9], [], h) := by
  exact g_swk (k := 9) (t := 384) (off := 181) (by decide +kernel : decode (m_byt 282) 203 = .ok (.tableswitch 210 0 9 #[53, 53, 85, 99, 99, 99, 121, 143, 143, 181], 53)) (by decide) hx rfl (by decide) rfl
theorem b_282_203_d {Z : mZ} {l0 l1 l2 l3 l4 l5 l6 l7 l8 l9 : mV} {s0 : Int} {h : mH} (hx : w32 s0 < 0 ∨ 9 < w32 s0) : m_run Z (282, 203, [l0, l1, l2, l3, l4, l5, l6, l7, l8, l9], [(0, s0)], h) = m_run Z (282, 413, [l0, l1, l2, l3, l4, l5, l6, l7, l8, l9], [], h) := by
  exact g_swd (t := 413) (by decide +kernel : decode (m_byt 282) 203 = .ok (.tableswitch 210 0 9 #[53, 53, 85, 99, 99, 99, 121, 143, 143, 181], 53)) hx (by decide) rfl
theorem b_282_256 {Z : mZ} {l0 l2 l3 l4 l7 l8 l9 : mV} {x6 x5 : Int} {r1 : Nat} {h : mH} (h0 : ¬ w32 x5 = 0) (h1 : ¬ w32 8 = 0) (h2 : ¬ w32 64 = 0) (h3 : ¬ w32 50 = 0) : m_run Z (282, 256, [l0, (2, ((r1 : Nat) : Int)), l2, l3, l4, (0, x5), (0, x6), l7, l8, l9], [], h) = (m_cl Z 244 [(2, ((r1 : Nat) : Int)), (0, ((w32 x6).tmod (w32 x5))), (0, ((w32 ((w32 x6).tdiv (w32 8))).tmod (w32 x5))), (0, (1 + ((w32 ((w32 x6).tdiv (w32 64))).tmod (w32 50))))] h).bind (m_aft (m_run Z) 282 280 [l0, (2, ((r1 : Nat) : Int)), l2, l3, l4, (0, x5), (0, x6), l7, l8, l9] []) := by
  refine g_aload_n (k := 1) (v := (2, ((r1 : Nat) : Int))) (by decide +kernel : decode (m_byt 282) 256 = .ok (.aload_n 1, 1)) rfl (Or.inl rfl) ?_
  refine g_iload (k := 6) (x := x6) (by decide +kernel : decode (m_byt 282) 257 = .ok (.iload 6, 2)) rfl ?_
  refine g_iload (k := 5) (x := x5) (by decide +kernel : decode (m_byt 282) 259 = .ok (.iload 5, 2)) rfl ?_
  refine g_rem (by decide +kernel : decode (m_byt 282) 261 = .ok (.irem, 1)) h0 ?_
  show m_run Z (282, 262, [l0, (2, ((r1 : Nat) : Int)), l2, l3, l4, (0, x5), (0, x6), l7, l8, l9], [(0, ((w32 x6).tmod (w32 x5))), (2, ((r1 : Nat) : Int))], h) = _
  refine g_iload (k := 6) (x := x6) (by decide +kernel : decode (m_byt 282) 262 = .ok (.iload 6, 2)) rfl ?_
  refine g_base (by decide +kernel : decode (m_byt 282) 264 = .ok (.bipush 8, 2)) rfl rfl ?_
  show m_run Z (282, 266, [l0, (2, ((r1 : Nat) : Int)), l2, l3, l4, (0, x5), (0, x6), l7, l8, l9], [(0, 8), (0, x6), (0, ((w32 x6).tmod (w32 x5))), (2, ((r1 : Nat) : Int))], h) = _
  refine g_div (by decide +kernel : decode (m_byt 282) 266 = .ok (.idiv, 1)) h1 ?_
  show m_run Z (282, 267, [l0, (2, ((r1 : Nat) : Int)), l2, l3, l4, (0, x5), (0, x6), l7, l8, l9], [(0, ((w32 x6).tdiv (w32 8))), (0, ((w32 x6).tmod (w32 x5))), (2, ((r1 : Nat) : Int))], h) = _
  refine g_iload (k := 5) (x := x5) (by decide +kernel : decode (m_byt 282) 267 = .ok (.iload 5, 2)) rfl ?_
  refine g_rem (by decide +kernel : decode (m_byt 282) 269 = .ok (.irem, 1)) h0 ?_
  show m_run Z (282, 270, [l0, (2, ((r1 : Nat) : Int)), l2, l3, l4, (0, x5), (0, x6), l7, l8, l9], [(0, ((w32 ((w32 x6).tdiv (w32 8))).tmod (w32 x5))), (0, ((w32 x6).tmod (w32 x5))), (2, ((r1 : Nat) : Int))], h) = _
  refine g_base (by decide +kernel : decode (m_byt 282) 270 = .ok (.iconst 1, 1)) rfl rfl ?_
  show m_run Z (282, 271, [l0, (2, ((r1 : Nat) : Int)), l2, l3, l4, (0, x5), (0, x6), l7, l8, l9], [(0, 1), (0, ((w32 ((w32 x6).tdiv (w32 8))).tmod (w32 x5))), (0, ((w32 x6).tmod (w32 x5))), (2, ((r1 : Nat) : Int))], h) = _
  refine g_iload (k := 6) (x := x6) (by decide +kernel : decode (m_byt 282) 271 = .ok (.iload 6, 2)) rfl ?_
  refine g_base (by decide +kernel : decode (m_byt 282) 273 = .ok (.bipush 64, 2)) rfl rfl ?_
  show m_run Z (282, 275, [l0, (2, ((r1 : Nat) : Int)), l2, l3, l4, (0, x5), (0, x6), l7, l8, l9], [(0, 64), (0, x6), (0, 1), (0, ((w32 ((w32 x6).tdiv (w32 8))).tmod (w32 x5))), (0, ((w32 x6).tmod (w32 x5))), (2, ((r1 : Nat) : Int))], h) = _
  refine g_div (by decide +kernel : decode (m_byt 282) 275 = .ok (.idiv, 1)) h2 ?_
  show m_run Z (282, 276, [l0, (2, ((r1 : Nat) : Int)), l2, l3, l4, (0, x5), (0, x6), l7, l8, l9], [(0, ((w32 x6).tdiv (w32 64))), (0, 1), (0, ((w32 ((w32 x6).tdiv (w32 8))).tmod (w32 x5))), (0, ((w32 x6).tmod (w32 x5))), (2, ((r1 : Nat) : Int))], h) = _
  refine g_base (by decide +kernel : decode (m_byt 282) 276 = .ok (.bipush 50, 2)) rfl rfl ?_
  show m_run Z (282, 278, [l0, (2, ((r1 : Nat) : Int)), l2, l3, l4, (0, x5), (0, x6), l7, l8, l9], [(0, 50), (0, ((w32 x6).tdiv (w32 64))), (0, 1), (0, ((w32 ((w32 x6).tdiv (w32 8))).tmod (w32 x5))), (0, ((w32 x6).tmod (w32 x5))), (2, ((r1 : Nat) : Int))], h) = _
  refine g_rem (by decide +kernel : decode (m_byt 282) 278 = .ok (.irem, 1)) h3 ?_
  show m_run Z (282, 279, [l0, (2, ((r1 : Nat) : Int)), l2, l3, l4, (0, x5), (0, x6), l7, l8, l9], [(0, ((w32 ((w32 x6).tdiv (w32 64))).tmod (w32 50))), (0, 1), (0, ((w32 ((w32 x6).tdiv (w32 8))).tmod (w32 x5))), (0, ((w32 x6).tmod (w32 x5))), (2, ((r1 : Nat) : Int))], h) = _
  refine g_base (by decide +kernel : decode (m_byt 282) 279 = .ok (.iadd, 1)) rfl rfl ?_
  show m_run Z (282, 280, [l0, (2, ((r1 : Nat) : Int)), l2, l3, l4, (0, x5), (0, x6), l7, l8, l9], [(0, (1 + ((w32 ((w32 x6).tdiv (w32 64))).tmod (w32 50)))), (0, ((w32 ((w32 x6).tdiv (w32 8))).tmod (w32 x5))), (0, ((w32 x6).tmod (w32 x5))), (2, ((r1 : Nat) : Int))], h) = _
  exact g_inv (k := 0) (m' := 244) (np := 4) (as := [(2, ((r1 : Nat) : Int)), (0, ((w32 x6).tmod (w32 x5))), (0, ((w32 ((w32 x6).tdiv (w32 8))).tmod (w32 x5))), (0, (1 + ((w32 ((w32 x6).tdiv (w32 64))).tmod (w32 50))))]) (by decide +kernel : decode (m_byt 282) 280 = .ok (.invokestatic 138, 3)) (Or.inr (Or.inr ⟨rfl, rfl, by decide, by decide⟩)) (by decide +kernel) (by decide +kernel) (by decide +kernel) (Nat.le_of_ble_eq_true rfl) rfl (Or.inl rfl)
theorem b_282_283 {Z : mZ} {l0 l2 l3 l4 l5 l7 l8 l9 : mV} {s0 x6 : Int} {r1 : Nat} {h : mH} : m_run Z (282, 283, [l0, (2, ((r1 : Nat) : Int)), l2, l3, l4, l5, (0, x6), l7, l8, l9], [(0, s0)], h) = (m_cl Z 250 [(2, ((r1 : Nat) : Int)), (0, 0)] h).bind (m_aft (m_run Z) 282 450 [l0, (2, ((r1 : Nat) : Int)), l2, l3, l4, l5, (0, x6), (0, s0), l8, l9] [(0, 1)]) := by
  refine g_istore (k := 7) (by decide +kernel : decode (m_byt 282) 283 = .ok (.istore 7, 2)) (Nat.le_of_ble_eq_true rfl) ?_
  show m_run Z (282, 285, [l0, (2, ((r1 : Nat) : Int)), l2, l3, l4, l5, (0, x6), (0, s0), l8, l9], [], h) = _
  refine g_jmp (t := 447) (by decide +kernel : decode (m_byt 282) 285 = .ok (.goto 162, 3)) (by decide) ?_
  refine g_base (by decide +kernel : decode (m_byt 282) 447 = .ok (.iconst 1, 1)) rfl rfl ?_
  show m_run Z (282, 448, [l0, (2, ((r1 : Nat) : Int)), l2, l3, l4, l5, (0, x6), (0, s0), l8, l9], [(0, 1)], h) = _
  refine g_aload_n (k := 1) (v := (2, ((r1 : Nat) : Int))) (by decide +kernel : decode (m_byt 282) 448 = .ok (.aload_n 1, 1)) rfl (Or.inl rfl) ?_
  refine g_base (by decide +kernel : decode (m_byt 282) 449 = .ok (.iconst 0, 1)) rfl rfl ?_
  show m_run Z (282, 450, [l0, (2, ((r1 : Nat) : Int)), l2, l3, l4, l5, (0, x6), (0, s0), l8, l9], [(0, 0), (2, ((r1 : Nat) : Int)), (0, 1)], h) = _
  exact g_inv (k := 0) (m' := 250) (np := 2) (as := [(2, ((r1 : Nat) : Int)), (0, 0)]) (by decide +kernel : decode (m_byt 282) 450 = .ok (.invokestatic 149, 3)) (Or.inr (Or.inr ⟨rfl, rfl, by decide, by decide⟩)) (by decide +kernel) (by decide +kernel) (by decide +kernel) (Nat.le_of_ble_eq_true rfl) rfl (Or.inl rfl)
theorem b_282_288 {Z : mZ} {l0 l2 l3 l4 l5 l7 l8 l9 : mV} {x6 : Int} {r1 : Nat} {h : mH} (h0 : ¬ w32 6 = 0) : m_run Z (282, 288, [l0, (2, ((r1 : Nat) : Int)), l2, l3, l4, l5, (0, x6), l7, l8, l9], [], h) = (m_cl Z 245 [(2, ((r1 : Nat) : Int)), (0, ((w32 x6).tmod (w32 6)))] h).bind (m_aft (m_run Z) 282 294 [l0, (2, ((r1 : Nat) : Int)), l2, l3, l4, l5, (0, x6), l7, l8, l9] []) := by
  refine g_aload_n (k := 1) (v := (2, ((r1 : Nat) : Int))) (by decide +kernel : decode (m_byt 282) 288 = .ok (.aload_n 1, 1)) rfl (Or.inl rfl) ?_
  refine g_iload (k := 6) (x := x6) (by decide +kernel : decode (m_byt 282) 289 = .ok (.iload 6, 2)) rfl ?_
  refine g_base (by decide +kernel : decode (m_byt 282) 291 = .ok (.bipush 6, 2)) rfl rfl ?_
  show m_run Z (282, 293, [l0, (2, ((r1 : Nat) : Int)), l2, l3, l4, l5, (0, x6), l7, l8, l9], [(0, 6), (0, x6), (2, ((r1 : Nat) : Int))], h) = _
  refine g_rem (by decide +kernel : decode (m_byt 282) 293 = .ok (.irem, 1)) h0 ?_
  show m_run Z (282, 294, [l0, (2, ((r1 : Nat) : Int)), l2, l3, l4, l5, (0, x6), l7, l8, l9], [(0, ((w32 x6).tmod (w32 6))), (2, ((r1 : Nat) : Int))], h) = _
  exact g_inv (k := 0) (m' := 245) (np := 2) (as := [(2, ((r1 : Nat) : Int)), (0, ((w32 x6).tmod (w32 6)))]) (by decide +kernel : decode (m_byt 282) 294 = .ok (.invokestatic 141, 3)) (Or.inr (Or.inr ⟨rfl, rfl, by decide, by decide⟩)) (by decide +kernel) (by decide +kernel) (by decide +kernel) (Nat.le_of_ble_eq_true rfl) rfl (Or.inl rfl)
theorem b_282_297 {Z : mZ} {l0 l2 l3 l4 l5 l7 l8 l9 : mV} {s0 x6 : Int} {r1 : Nat} {h : mH} : m_run Z (282, 297, [l0, (2, ((r1 : Nat) : Int)), l2, l3, l4, l5, (0, x6), l7, l8, l9], [(0, s0)], h) = (m_cl Z 250 [(2, ((r1 : Nat) : Int)), (0, 0)] h).bind (m_aft (m_run Z) 282 450 [l0, (2, ((r1 : Nat) : Int)), l2, l3, l4, l5, (0, x6), (0, s0), l8, l9] [(0, 1)]) := by
  refine g_istore (k := 7) (by decide +kernel : decode (m_byt 282) 297 = .ok (.istore 7, 2)) (Nat.le_of_ble_eq_true rfl) ?_
  show m_run Z (282, 299, [l0, (2, ((r1 : Nat) : Int)), l2, l3, l4, l5, (0, x6), (0, s0), l8, l9], [], h) = _
  refine g_jmp (t := 447) (by decide +kernel : decode (m_byt 282) 299 = .ok (.goto 148, 3)) (by decide) ?_
  refine g_base (by decide +kernel : decode (m_byt 282) 447 = .ok (.iconst 1, 1)) rfl rfl ?_
  show m_run Z (282, 448, [l0, (2, ((r1 : Nat) : Int)), l2, l3, l4, l5, (0, x6), (0, s0), l8, l9], [(0, 1)], h) = _
  refine g_aload_n (k := 1) (v := (2, ((r1 : Nat) : Int))) (by decide +kernel : decode (m_byt 282) 448 = .ok (.aload_n 1, 1)) rfl (Or.inl rfl) ?_
  refine g_base (by decide +kernel : decode (m_byt 282) 449 = .ok (.iconst 0, 1)) rfl rfl ?_
  show m_run Z (282, 450, [l0, (2, ((r1 : Nat) : Int)), l2, l3, l4, l5, (0, x6), (0, s0), l8, l9], [(0, 0), (2, ((r1 : Nat) : Int)), (0, 1)], h) = _
  exact g_inv (k := 0) (m' := 250) (np := 2) (as := [(2, ((r1 : Nat) : Int)), (0, 0)]) (by decide +kernel : decode (m_byt 282) 450 = .ok (.invokestatic 149, 3)) (Or.inr (Or.inr ⟨rfl, rfl, by decide, by decide⟩)) (by decide +kernel) (by decide +kernel) (by decide +kernel) (Nat.le_of_ble_eq_true rfl) rfl (Or.inl rfl)
theorem b_282_302 {Z : mZ} {l0 l2 l3 l4 l7 l8 l9 : mV} {x6 x5 : Int} {r1 : Nat} {h : mH} (h0 : ¬ w32 x5 = 0) (h1 : ¬ w32 8 = 0) (h2 : ¬ w32 10 = 0) : m_run Z (282, 302, [l0, (2, ((r1 : Nat) : Int)), l2, l3, l4, (0, x5), (0, x6), l7, l8, l9], [], h) = (m_cl Z 246 [(2, ((r1 : Nat) : Int)), (0, ((w32 x6).tmod (w32 x5))), (0, ((w32 ((w32 x6).tdiv (w32 8))).tmod (w32 10)))] h).bind (m_aft (m_run Z) 282 316 [l0, (2, ((r1 : Nat) : Int)), l2, l3, l4, (0, x5), (0, x6), l7, l8, l9] []) := by
  refine g_aload_n (k := 1) (v := (2, ((r1 : Nat) : Int))) (by decide +kernel : decode (m_byt 282) 302 = .ok (.aload_n 1, 1)) rfl (Or.inl rfl) ?_
  refine g_iload (k := 6) (x := x6) (by decide +kernel : decode (m_byt 282) 303 = .ok (.iload 6, 2)) rfl ?_
  refine g_iload (k := 5) (x := x5) (by decide +kernel : decode (m_byt 282) 305 = .ok (.iload 5, 2)) rfl ?_
  refine g_rem (by decide +kernel : decode (m_byt 282) 307 = .ok (.irem, 1)) h0 ?_
  show m_run Z (282, 308, [l0, (2, ((r1 : Nat) : Int)), l2, l3, l4, (0, x5), (0, x6), l7, l8, l9], [(0, ((w32 x6).tmod (w32 x5))), (2, ((r1 : Nat) : Int))], h) = _
  refine g_iload (k := 6) (x := x6) (by decide +kernel : decode (m_byt 282) 308 = .ok (.iload 6, 2)) rfl ?_
  refine g_base (by decide +kernel : decode (m_byt 282) 310 = .ok (.bipush 8, 2)) rfl rfl ?_
  show m_run Z (282, 312, [l0, (2, ((r1 : Nat) : Int)), l2, l3, l4, (0, x5), (0, x6), l7, l8, l9], [(0, 8), (0, x6), (0, ((w32 x6).tmod (w32 x5))), (2, ((r1 : Nat) : Int))], h) = _
  refine g_div (by decide +kernel : decode (m_byt 282) 312 = .ok (.idiv, 1)) h1 ?_
  show m_run Z (282, 313, [l0, (2, ((r1 : Nat) : Int)), l2, l3, l4, (0, x5), (0, x6), l7, l8, l9], [(0, ((w32 x6).tdiv (w32 8))), (0, ((w32 x6).tmod (w32 x5))), (2, ((r1 : Nat) : Int))], h) = _
  refine g_base (by decide +kernel : decode (m_byt 282) 313 = .ok (.bipush 10, 2)) rfl rfl ?_
  show m_run Z (282, 315, [l0, (2, ((r1 : Nat) : Int)), l2, l3, l4, (0, x5), (0, x6), l7, l8, l9], [(0, 10), (0, ((w32 x6).tdiv (w32 8))), (0, ((w32 x6).tmod (w32 x5))), (2, ((r1 : Nat) : Int))], h) = _
  refine g_rem (by decide +kernel : decode (m_byt 282) 315 = .ok (.irem, 1)) h2 ?_
  show m_run Z (282, 316, [l0, (2, ((r1 : Nat) : Int)), l2, l3, l4, (0, x5), (0, x6), l7, l8, l9], [(0, ((w32 ((w32 x6).tdiv (w32 8))).tmod (w32 10))), (0, ((w32 x6).tmod (w32 x5))), (2, ((r1 : Nat) : Int))], h) = _
  exact g_inv (k := 0) (m' := 246) (np := 3) (as := [(2, ((r1 : Nat) : Int)), (0, ((w32 x6).tmod (w32 x5))), (0, ((w32 ((w32 x6).tdiv (w32 8))).tmod (w32 10)))]) (by decide +kernel : decode (m_byt 282) 316 = .ok (.invokestatic 122, 3)) (Or.inr (Or.inr ⟨rfl, rfl, by decide, by decide⟩)) (by decide +kernel) (by decide +kernel) (by decide +kernel) (Nat.le_of_ble_eq_true rfl) rfl (Or.inl rfl)
theorem b_282_319 {Z : mZ} {l0 l2 l3 l4 l5 l7 l8 l9 : mV} {s0 x6 : Int} {r1 : Nat} {h : mH} : m_run Z (282, 319, [l0, (2, ((r1 : Nat) : Int)), l2, l3, l4, l5, (0, x6), l7, l8, l9], [(0, s0)], h) = (m_cl Z 250 [(2, ((r1 : Nat) : Int)), (0, 0)] h).bind (m_aft (m_run Z) 282 450 [l0, (2, ((r1 : Nat) : Int)), l2, l3, l4, l5, (0, x6), (0, s0), l8, l9] [(0, 1)]) := by
  refine g_istore (k := 7) (by decide +kernel : decode (m_byt 282) 319 = .ok (.istore 7, 2)) (Nat.le_of_ble_eq_true rfl) ?_
  show m_run Z (282, 321, [l0, (2, ((r1 : Nat) : Int)), l2, l3, l4, l5, (0, x6), (0, s0), l8, l9], [], h) = _
  refine g_jmp (t := 447) (by decide +kernel : decode (m_byt 282) 321 = .ok (.goto 126, 3)) (by decide) ?_
  refine g_base (by decide +kernel : decode (m_byt 282) 447 = .ok (.iconst 1, 1)) rfl rfl ?_
  show m_run Z (282, 448, [l0, (2, ((r1 : Nat) : Int)), l2, l3, l4, l5, (0, x6), (0, s0), l8, l9], [(0, 1)], h) = _
  refine g_aload_n (k := 1) (v := (2, ((r1 : Nat) : Int))) (by decide +kernel : decode (m_byt 282) 448 = .ok (.aload_n 1, 1)) rfl (Or.inl rfl) ?_
  refine g_base (by decide +kernel : decode (m_byt 282) 449 = .ok (.iconst 0, 1)) rfl rfl ?_
  show m_run Z (282, 450, [l0, (2, ((r1 : Nat) : Int)), l2, l3, l4, l5, (0, x6), (0, s0), l8, l9], [(0, 0), (2, ((r1 : Nat) : Int)), (0, 1)], h) = _
  exact g_inv (k := 0) (m' := 250) (np := 2) (as := [(2, ((r1 : Nat) : Int)), (0, 0)]) (by decide +kernel : decode (m_byt 282) 450 = .ok (.invokestatic 149, 3)) (Or.inr (Or.inr ⟨rfl, rfl, by decide, by decide⟩)) (by decide +kernel) (by decide +kernel) (by decide +kernel) (Nat.le_of_ble_eq_true rfl) rfl (Or.inl rfl)
theorem b_282_324 {Z : mZ} {l0 l2 l3 l4 l7 l8 l9 : mV} {x6 x5 : Int} {r1 : Nat} {h : mH} (h0 : ¬ w32 x5 = 0) (h1 : ¬ w32 8 = 0) (h2 : ¬ w32 10 = 0) : m_run Z (282, 324, [l0, (2, ((r1 : Nat) : Int)), l2, l3, l4, (0, x5), (0, x6), l7, l8, l9], [], h) = (m_cl Z 247 [(2, ((r1 : Nat) : Int)), (0, ((w32 x6).tmod (w32 x5))), (0, ((w32 ((w32 x6).tdiv (w32 8))).tmod (w32 10)))] h).bind (m_aft (m_run Z) 282 338 [l0, (2, ((r1 : Nat) : Int)), l2, l3, l4, (0, x5), (0, x6), l7, l8, l9] []) := by
  refine g_aload_n (k := 1) (v := (2, ((r1 : Nat) : Int))) (by decide +kernel : decode (m_byt 282) 324 = .ok (.aload_n 1, 1)) rfl (Or.inl rfl) ?_
  refine g_iload (k := 6) (x := x6) (by decide +kernel : decode (m_byt 282) 325 = .ok (.iload 6, 2)) rfl ?_
  refine g_iload (k := 5) (x := x5) (by decide +kernel : decode (m_byt 282) 327 = .ok (.iload 5, 2)) rfl ?_
  refine g_rem (by decide +kernel : decode (m_byt 282) 329 = .ok (.irem, 1)) h0 ?_
  show m_run Z (282, 330, [l0, (2, ((r1 : Nat) : Int)), l2, l3, l4, (0, x5), (0, x6), l7, l8, l9], [(0, ((w32 x6).tmod (w32 x5))), (2, ((r1 : Nat) : Int))], h) = _
  refine g_iload (k := 6) (x := x6) (by decide +kernel : decode (m_byt 282) 330 = .ok (.iload 6, 2)) rfl ?_
  refine g_base (by decide +kernel : decode (m_byt 282) 332 = .ok (.bipush 8, 2)) rfl rfl ?_
  show m_run Z (282, 334, [l0, (2, ((r1 : Nat) : Int)), l2, l3, l4, (0, x5), (0, x6), l7, l8, l9], [(0, 8), (0, x6), (0, ((w32 x6).tmod (w32 x5))), (2, ((r1 : Nat) : Int))], h) = _
  refine g_div (by decide +kernel : decode (m_byt 282) 334 = .ok (.idiv, 1)) h1 ?_
  show m_run Z (282, 335, [l0, (2, ((r1 : Nat) : Int)), l2, l3, l4, (0, x5), (0, x6), l7, l8, l9], [(0, ((w32 x6).tdiv (w32 8))), (0, ((w32 x6).tmod (w32 x5))), (2, ((r1 : Nat) : Int))], h) = _
  refine g_base (by decide +kernel : decode (m_byt 282) 335 = .ok (.bipush 10, 2)) rfl rfl ?_
  show m_run Z (282, 337, [l0, (2, ((r1 : Nat) : Int)), l2, l3, l4, (0, x5), (0, x6), l7, l8, l9], [(0, 10), (0, ((w32 x6).tdiv (w32 8))), (0, ((w32 x6).tmod (w32 x5))), (2, ((r1 : Nat) : Int))], h) = _
  refine g_rem (by decide +kernel : decode (m_byt 282) 337 = .ok (.irem, 1)) h2 ?_
  show m_run Z (282, 338, [l0, (2, ((r1 : Nat) : Int)), l2, l3, l4, (0, x5), (0, x6), l7, l8, l9], [(0, ((w32 ((w32 x6).tdiv (w32 8))).tmod (w32 10))), (0, ((w32 x6).tmod (w32 x5))), (2, ((r1 : Nat) : Int))], h) = _
  exact g_inv (k := 0) (m' := 247) (np := 3) (as := [(2, ((r1 : Nat) : Int)), (0, ((w32 x6).tmod (w32 x5))), (0, ((w32 ((w32 x6).tdiv (w32 8))).tmod (w32 10)))]) (by decide +kernel : decode (m_byt 282) 338 = .ok (.invokestatic 143, 3)) (Or.inr (Or.inr ⟨rfl, rfl, by decide, by decide⟩)) (by decide +kernel) (by decide +kernel) (by decide +kernel) (Nat.le_of_ble_eq_true rfl) rfl (Or.inl rfl)
theorem b_282_341 {Z : mZ} {l0 l2 l3 l4 l5 l7 l8 l9 : mV} {s0 x6 : Int} {r1 : Nat} {h : mH} : m_run Z (282, 341, [l0, (2, ((r1 : Nat) : Int)), l2, l3, l4, l5, (0, x6), l7, l8, l9], [(0, s0)], h) = (m_cl Z 250 [(2, ((r1 : Nat) : Int)), (0, 0)] h).bind (m_aft (m_run Z) 282 450 [l0, (2, ((r1 : Nat) : Int)), l2, l3, l4, l5, (0, x6), (0, s0), l8, l9] [(0, 1)]) := by
  refine g_istore (k := 7) (by decide +kernel : decode (m_byt 282) 341 = .ok (.istore 7, 2)) (Nat.le_of_ble_eq_true rfl) ?_
  show m_run Z (282, 343, [l0, (2, ((r1 : Nat) : Int)), l2, l3, l4, l5, (0, x6), (0, s0), l8, l9], [], h) = _
  refine g_jmp (t := 447) (by decide +kernel : decode (m_byt 282) 343 = .ok (.goto 104, 3)) (by decide) ?_
  refine g_base (by decide +kernel : decode (m_byt 282) 447 = .ok (.iconst 1, 1)) rfl rfl ?_
  show m_run Z (282, 448, [l0, (2, ((r1 : Nat) : Int)), l2, l3, l4, l5, (0, x6), (0, s0), l8, l9], [(0, 1)], h) = _
  refine g_aload_n (k := 1) (v := (2, ((r1 : Nat) : Int))) (by decide +kernel : decode (m_byt 282) 448 = .ok (.aload_n 1, 1)) rfl (Or.inl rfl) ?_
  refine g_base (by decide +kernel : decode (m_byt 282) 449 = .ok (.iconst 0, 1)) rfl rfl ?_
  show m_run Z (282, 450, [l0, (2, ((r1 : Nat) : Int)), l2, l3, l4, l5, (0, x6), (0, s0), l8, l9], [(0, 0), (2, ((r1 : Nat) : Int)), (0, 1)], h) = _
  exact g_inv (k := 0) (m' := 250) (np := 2) (as := [(2, ((r1 : Nat) : Int)), (0, 0)]) (by decide +kernel : decode (m_byt 282) 450 = .ok (.invokestatic 149, 3)) (Or.inr (Or.inr ⟨rfl, rfl, by decide, by decide⟩)) (by decide +kernel) (by decide +kernel) (by decide +kernel) (Nat.le_of_ble_eq_true rfl) rfl (Or.inl rfl)
theorem b_282_346 {Z : mZ} {l0 l2 l3 l4 l5 l7 l8 l9 : mV} {x6 : Int} {r1 : Nat} {h : mH} (h0 : ¬ w32 4 = 0) (h1 : ¬ w32 20 = 0) (h2 : ¬ w32 80 = 0) (h3 : ¬ w32 9 = 0) : m_run Z (282, 346, [l0, (2, ((r1 : Nat) : Int)), l2, l3, l4, l5, (0, x6), l7, l8, l9], [], h) = (m_cl Z 248 [(2, ((r1 : Nat) : Int)), (0, ((w32 x6).tmod (w32 4))), (0, ((w32 ((w32 x6).tdiv (w32 4))).tmod (w32 20))), (0, ((((w32 ((w32 x6).tdiv (w32 4))).tmod (w32 20)) + 1) + ((w32 ((w32 x6).tdiv (w32 80))).tmod (w32 9))))] h).bind (m_aft (m_run Z) 282 376 [l0, (2, ((r1 : Nat) : Int)), l2, l3, l4, l5, (0, x6), l7, l8, l9] []) := by
  refine g_aload_n (k := 1) (v := (2, ((r1 : Nat) : Int))) (by decide +kernel : decode (m_byt 282) 346 = .ok (.aload_n 1, 1)) rfl (Or.inl rfl) ?_
  refine g_iload (k := 6) (x := x6) (by decide +kernel : decode (m_byt 282) 347 = .ok (.iload 6, 2)) rfl ?_
  refine g_base (by decide +kernel : decode (m_byt 282) 349 = .ok (.iconst 4, 1)) rfl rfl ?_
  show m_run Z (282, 350, [l0, (2, ((r1 : Nat) : Int)), l2, l3, l4, l5, (0, x6), l7, l8, l9], [(0, 4), (0, x6), (2, ((r1 : Nat) : Int))], h) = _
  refine g_rem (by decide +kernel : decode (m_byt 282) 350 = .ok (.irem, 1)) h0 ?_
  show m_run Z (282, 351, [l0, (2, ((r1 : Nat) : Int)), l2, l3, l4, l5, (0, x6), l7, l8, l9], [(0, ((w32 x6).tmod (w32 4))), (2, ((r1 : Nat) : Int))], h) = _
  refine g_iload (k := 6) (x := x6) (by decide +kernel : decode (m_byt 282) 351 = .ok (.iload 6, 2)) rfl ?_
  refine g_base (by decide +kernel : decode (m_byt 282) 353 = .ok (.iconst 4, 1)) rfl rfl ?_
  show m_run Z (282, 354, [l0, (2, ((r1 : Nat) : Int)), l2, l3, l4, l5, (0, x6), l7, l8, l9], [(0, 4), (0, x6), (0, ((w32 x6).tmod (w32 4))), (2, ((r1 : Nat) : Int))], h) = _
  refine g_div (by decide +kernel : decode (m_byt 282) 354 = .ok (.idiv, 1)) h0 ?_
  show m_run Z (282, 355, [l0, (2, ((r1 : Nat) : Int)), l2, l3, l4, l5, (0, x6), l7, l8, l9], [(0, ((w32 x6).tdiv (w32 4))), (0, ((w32 x6).tmod (w32 4))), (2, ((r1 : Nat) : Int))], h) = _
  refine g_base (by decide +kernel : decode (m_byt 282) 355 = .ok (.bipush 20, 2)) rfl rfl ?_
  show m_run Z (282, 357, [l0, (2, ((r1 : Nat) : Int)), l2, l3, l4, l5, (0, x6), l7, l8, l9], [(0, 20), (0, ((w32 x6).tdiv (w32 4))), (0, ((w32 x6).tmod (w32 4))), (2, ((r1 : Nat) : Int))], h) = _
  refine g_rem (by decide +kernel : decode (m_byt 282) 357 = .ok (.irem, 1)) h1 ?_
  show m_run Z (282, 358, [l0, (2, ((r1 : Nat) : Int)), l2, l3, l4, l5, (0, x6), l7, l8, l9], [(0, ((w32 ((w32 x6).tdiv (w32 4))).tmod (w32 20))), (0, ((w32 x6).tmod (w32 4))), (2, ((r1 : Nat) : Int))], h) = _
  refine g_iload (k := 6) (x := x6) (by decide +kernel : decode (m_byt 282) 358 = .ok (.iload 6, 2)) rfl ?_
  refine g_base (by decide +kernel : decode (m_byt 282) 360 = .ok (.iconst 4, 1)) rfl rfl ?_
  show m_run Z (282, 361, [l0, (2, ((r1 : Nat) : Int)), l2, l3, l4, l5, (0, x6), l7, l8, l9], [(0, 4), (0, x6), (0, ((w32 ((w32 x6).tdiv (w32 4))).tmod (w32 20))), (0, ((w32 x6).tmod (w32 4))), (2, ((r1 : Nat) : Int))], h) = _
  refine g_div (by decide +kernel : decode (m_byt 282) 361 = .ok (.idiv, 1)) h0 ?_
  show m_run Z (282, 362, [l0, (2, ((r1 : Nat) : Int)), l2, l3, l4, l5, (0, x6), l7, l8, l9], [(0, ((w32 x6).tdiv (w32 4))), (0, ((w32 ((w32 x6).tdiv (w32 4))).tmod (w32 20))), (0, ((w32 x6).tmod (w32 4))), (2, ((r1 : Nat) : Int))], h) = _
  refine g_base (by decide +kernel : decode (m_byt 282) 362 = .ok (.bipush 20, 2)) rfl rfl ?_
  show m_run Z (282, 364, [l0, (2, ((r1 : Nat) : Int)), l2, l3, l4, l5, (0, x6), l7, l8, l9], [(0, 20), (0, ((w32 x6).tdiv (w32 4))), (0, ((w32 ((w32 x6).tdiv (w32 4))).tmod (w32 20))), (0, ((w32 x6).tmod (w32 4))), (2, ((r1 : Nat) : Int))], h) = _
  refine g_rem (by decide +kernel : decode (m_byt 282) 364 = .ok (.irem, 1)) h1 ?_
  show m_run Z (282, 365, [l0, (2, ((r1 : Nat) : Int)), l2, l3, l4, l5, (0, x6), l7, l8, l9], [(0, ((w32 ((w32 x6).tdiv (w32 4))).tmod (w32 20))), (0, ((w32 ((w32 x6).tdiv (w32 4))).tmod (w32 20))), (0, ((w32 x6).tmod (w32 4))), (2, ((r1 : Nat) : Int))], h) = _
  refine g_base (by decide +kernel : decode (m_byt 282) 365 = .ok (.iconst 1, 1)) rfl rfl ?_
  show m_run Z (282, 366, [l0, (2, ((r1 : Nat) : Int)), l2, l3, l4, l5, (0, x6), l7, l8, l9], [(0, 1), (0, ((w32 ((w32 x6).tdiv (w32 4))).tmod (w32 20))), (0, ((w32 ((w32 x6).tdiv (w32 4))).tmod (w32 20))), (0, ((w32 x6).tmod (w32 4))), (2, ((r1 : Nat) : Int))], h) = _
  refine g_base (by decide +kernel : decode (m_byt 282) 366 = .ok (.iadd, 1)) rfl rfl ?_
  show m_run Z (282, 367, [l0, (2, ((r1 : Nat) : Int)), l2, l3, l4, l5, (0, x6), l7, l8, l9], [(0, (((w32 ((w32 x6).tdiv (w32 4))).tmod (w32 20)) + 1)), (0, ((w32 ((w32 x6).tdiv (w32 4))).tmod (w32 20))), (0, ((w32 x6).tmod (w32 4))), (2, ((r1 : Nat) : Int))], h) = _
  refine g_iload (k := 6) (x := x6) (by decide +kernel : decode (m_byt 282) 367 = .ok (.iload 6, 2)) rfl ?_
  refine g_base (by decide +kernel : decode (m_byt 282) 369 = .ok (.bipush 80, 2)) rfl rfl ?_
  show m_run Z (282, 371, [l0, (2, ((r1 : Nat) : Int)), l2, l3, l4, l5, (0, x6), l7, l8, l9], [(0, 80), (0, x6), (0, (((w32 ((w32 x6).tdiv (w32 4))).tmod (w32 20)) + 1)), (0, ((w32 ((w32 x6).tdiv (w32 4))).tmod (w32 20))), (0, ((w32 x6).tmod (w32 4))), (2, ((r1 : Nat) : Int))], h) = _
  refine g_div (by decide +kernel : decode (m_byt 282) 371 = .ok (.idiv, 1)) h2 ?_
  show m_run Z (282, 372, [l0, (2, ((r1 : Nat) : Int)), l2, l3, l4, l5, (0, x6), l7, l8, l9], [(0, ((w32 x6).tdiv (w32 80))), (0, (((w32 ((w32 x6).tdiv (w32 4))).tmod (w32 20)) + 1)), (0, ((w32 ((w32 x6).tdiv (w32 4))).tmod (w32 20))), (0, ((w32 x6).tmod (w32 4))), (2, ((r1 : Nat) : Int))], h) = _
  refine g_base (by decide +kernel : decode (m_byt 282) 372 = .ok (.bipush 9, 2)) rfl rfl ?_
  show m_run Z (282, 374, [l0, (2, ((r1 : Nat) : Int)), l2, l3, l4, l5, (0, x6), l7, l8, l9], [(0, 9), (0, ((w32 x6).tdiv (w32 80))), (0, (((w32 ((w32 x6).tdiv (w32 4))).tmod (w32 20)) + 1)), (0, ((w32 ((w32 x6).tdiv (w32 4))).tmod (w32 20))), (0, ((w32 x6).tmod (w32 4))), (2, ((r1 : Nat) : Int))], h) = _
  refine g_rem (by decide +kernel : decode (m_byt 282) 374 = .ok (.irem, 1)) h3 ?_
  show m_run Z (282, 375, [l0, (2, ((r1 : Nat) : Int)), l2, l3, l4, l5, (0, x6), l7, l8, l9], [(0, ((w32 ((w32 x6).tdiv (w32 80))).tmod (w32 9))), (0, (((w32 ((w32 x6).tdiv (w32 4))).tmod (w32 20)) + 1)), (0, ((w32 ((w32 x6).tdiv (w32 4))).tmod (w32 20))), (0, ((w32 x6).tmod (w32 4))), (2, ((r1 : Nat) : Int))], h) = _
  refine g_base (by decide +kernel : decode (m_byt 282) 375 = .ok (.iadd, 1)) rfl rfl ?_
  show m_run Z (282, 376, [l0, (2, ((r1 : Nat) : Int)), l2, l3, l4, l5, (0, x6), l7, l8, l9], [(0, ((((w32 ((w32 x6).tdiv (w32 4))).tmod (w32 20)) + 1) + ((w32 ((w32 x6).tdiv (w32 80))).tmod (w32 9)))), (0, ((w32 ((w32 x6).tdiv (w32 4))).tmod (w32 20))), (0, ((w32 x6).tmod (w32 4))), (2, ((r1 : Nat) : Int))], h) = _
  exact g_inv (k := 0) (m' := 248) (np := 4) (as := [(2, ((r1 : Nat) : Int)), (0, ((w32 x6).tmod (w32 4))), (0, ((w32 ((w32 x6).tdiv (w32 4))).tmod (w32 20))), (0, ((((w32 ((w32 x6).tdiv (w32 4))).tmod (w32 20)) + 1) + ((w32 ((w32 x6).tdiv (w32 80))).tmod (w32 9))))]) (by decide +kernel : decode (m_byt 282) 376 = .ok (.invokestatic 145, 3)) (Or.inr (Or.inr ⟨rfl, rfl, by decide, by decide⟩)) (by decide +kernel) (by decide +kernel) (by decide +kernel) (Nat.le_of_ble_eq_true rfl) rfl (Or.inl rfl)
theorem b_282_379 {Z : mZ} {l0 l2 l3 l4 l5 l7 l8 l9 : mV} {s0 x6 : Int} {r1 : Nat} {h : mH} : m_run Z (282, 379, [l0, (2, ((r1 : Nat) : Int)), l2, l3, l4, l5, (0, x6), l7, l8, l9], [(0, s0)], h) = (m_cl Z 250 [(2, ((r1 : Nat) : Int)), (0, 0)] h).bind (m_aft (m_run Z) 282 450 [l0, (2, ((r1 : Nat) : Int)), l2, l3, l4, l5, (0, x6), (0, s0), l8, l9] [(0, 1)]) := by
  refine g_istore (k := 7) (by decide +kernel : decode (m_byt 282) 379 = .ok (.istore 7, 2)) (Nat.le_of_ble_eq_true rfl) ?_
  show m_run Z (282, 381, [l0, (2, ((r1 : Nat) : Int)), l2, l3, l4, l5, (0, x6), (0, s0), l8, l9], [], h) = _
  refine g_jmp (t := 447) (by decide +kernel : decode (m_byt 282) 381 = .ok (.goto 66, 3)) (by decide) ?_
  refine g_base (by decide +kernel : decode (m_byt 282) 447 = .ok (.iconst 1, 1)) rfl rfl ?_
  show m_run Z (282, 448, [l0, (2, ((r1 : Nat) : Int)), l2, l3, l4, l5, (0, x6), (0, s0), l8, l9], [(0, 1)], h) = _
  refine g_aload_n (k := 1) (v := (2, ((r1 : Nat) : Int))) (by decide +kernel : decode (m_byt 282) 448 = .ok (.aload_n 1, 1)) rfl (Or.inl rfl) ?_
  refine g_base (by decide +kernel : decode (m_byt 282) 449 = .ok (.iconst 0, 1)) rfl rfl ?_
  show m_run Z (282, 450, [l0, (2, ((r1 : Nat) : Int)), l2, l3, l4, l5, (0, x6), (0, s0), l8, l9], [(0, 0), (2, ((r1 : Nat) : Int)), (0, 1)], h) = _
  exact g_inv (k := 0) (m' := 250) (np := 2) (as := [(2, ((r1 : Nat) : Int)), (0, 0)]) (by decide +kernel : decode (m_byt 282) 450 = .ok (.invokestatic 149, 3)) (Or.inr (Or.inr ⟨rfl, rfl, by decide, by decide⟩)) (by decide +kernel) (by decide +kernel) (by decide +kernel) (Nat.le_of_ble_eq_true rfl) rfl (Or.inl rfl)
theorem b_282_384 {Z : mZ} {l0 l1 l2 l3 l4 l5 l7 l8 l9 : mV} {x6 : Int} {h : mH} (h0 : ¬ w32 4 = 0) : m_run Z (282, 384, [l0, l1, l2, l3, l4, l5, (0, x6), l7, l8, l9], [], h) = if w32 ((w32 x6).tmod (w32 4)) = 0 then m_run Z (282, 391, [l0, l1, l2, l3, l4, l5, (0, x6), l7, l8, l9], [], h) else m_run Z (282, 404, [l0, l1, l2, l3, l4, l5, (0, x6), l7, l8, l9], [], h) := by
  refine g_iload (k := 6) (x := x6) (by decide +kernel : decode (m_byt 282) 384 = .ok (.iload 6, 2)) rfl ?_
  refine g_base (by decide +kernel : decode (m_byt 282) 386 = .ok (.iconst 4, 1)) rfl rfl ?_
  show m_run Z (282, 387, [l0, l1, l2, l3, l4, l5, (0, x6), l7, l8, l9], [(0, 4), (0, x6)], h) = _
  refine g_rem (by decide +kernel : decode (m_byt 282) 387 = .ok (.irem, 1)) h0 ?_
  show m_run Z (282, 388, [l0, l1, l2, l3, l4, l5, (0, x6), l7, l8, l9], [(0, ((w32 x6).tmod (w32 4)))], h) = _
  exact g_brn (t := 404) (off := 16) (by decide +kernel : decode (m_byt 282) 388 = .ok (.ifCond .ne 16, 3)) rfl rfl (by decide)
theorem b_282_391 {Z : mZ} {l0 l2 l3 l4 l5 l7 l8 l9 : mV} {x6 : Int} {r1 : Nat} {h : mH} (h0 : ¬ w32 4 = 0) (h1 : ¬ w32 3 = 0) : m_run Z (282, 391, [l0, (2, ((r1 : Nat) : Int)), l2, l3, l4, l5, (0, x6), l7, l8, l9], [], h) = (m_cl Z 249 [(2, ((r1 : Nat) : Int)), (0, ((w32 ((w32 x6).tdiv (w32 4))).tmod (w32 3)))] h).bind (m_aft (m_run Z) 282 398 [l0, (2, ((r1 : Nat) : Int)), l2, l3, l4, l5, (0, x6), l7, l8, l9] []) := by
  refine g_aload_n (k := 1) (v := (2, ((r1 : Nat) : Int))) (by decide +kernel : decode (m_byt 282) 391 = .ok (.aload_n 1, 1)) rfl (Or.inl rfl) ?_
  refine g_iload (k := 6) (x := x6) (by decide +kernel : decode (m_byt 282) 392 = .ok (.iload 6, 2)) rfl ?_
  refine g_base (by decide +kernel : decode (m_byt 282) 394 = .ok (.iconst 4, 1)) rfl rfl ?_
  show m_run Z (282, 395, [l0, (2, ((r1 : Nat) : Int)), l2, l3, l4, l5, (0, x6), l7, l8, l9], [(0, 4), (0, x6), (2, ((r1 : Nat) : Int))], h) = _
  refine g_div (by decide +kernel : decode (m_byt 282) 395 = .ok (.idiv, 1)) h0 ?_
  show m_run Z (282, 396, [l0, (2, ((r1 : Nat) : Int)), l2, l3, l4, l5, (0, x6), l7, l8, l9], [(0, ((w32 x6).tdiv (w32 4))), (2, ((r1 : Nat) : Int))], h) = _
  refine g_base (by decide +kernel : decode (m_byt 282) 396 = .ok (.iconst 3, 1)) rfl rfl ?_
  show m_run Z (282, 397, [l0, (2, ((r1 : Nat) : Int)), l2, l3, l4, l5, (0, x6), l7, l8, l9], [(0, 3), (0, ((w32 x6).tdiv (w32 4))), (2, ((r1 : Nat) : Int))], h) = _
  refine g_rem (by decide +kernel : decode (m_byt 282) 397 = .ok (.irem, 1)) h1 ?_
  show m_run Z (282, 398, [l0, (2, ((r1 : Nat) : Int)), l2, l3, l4, l5, (0, x6), l7, l8, l9], [(0, ((w32 ((w32 x6).tdiv (w32 4))).tmod (w32 3))), (2, ((r1 : Nat) : Int))], h) = _
  exact g_inv (k := 0) (m' := 249) (np := 2) (as := [(2, ((r1 : Nat) : Int)), (0, ((w32 ((w32 x6).tdiv (w32 4))).tmod (w32 3)))]) (by decide +kernel : decode (m_byt 282) 398 = .ok (.invokestatic 147, 3)) (Or.inr (Or.inr ⟨rfl, rfl, by decide, by decide⟩)) (by decide +kernel) (by decide +kernel) (by decide +kernel) (Nat.le_of_ble_eq_true rfl) rfl (Or.inl rfl)
theorem b_282_401 {Z : mZ} {l0 l2 l3 l4 l5 l7 l8 l9 : mV} {s0 x6 : Int} {r1 : Nat} {h : mH} : m_run Z (282, 401, [l0, (2, ((r1 : Nat) : Int)), l2, l3, l4, l5, (0, x6), l7, l8, l9], [(0, s0)], h) = (m_cl Z 250 [(2, ((r1 : Nat) : Int)), (0, 0)] h).bind (m_aft (m_run Z) 282 450 [l0, (2, ((r1 : Nat) : Int)), l2, l3, l4, l5, (0, x6), (0, s0), l8, l9] [(0, 1)]) := by
  refine g_jmp (t := 408) (by decide +kernel : decode (m_byt 282) 401 = .ok (.goto 7, 3)) (by decide) ?_
  refine g_istore (k := 7) (by decide +kernel : decode (m_byt 282) 408 = .ok (.istore 7, 2)) (Nat.le_of_ble_eq_true rfl) ?_
  show m_run Z (282, 410, [l0, (2, ((r1 : Nat) : Int)), l2, l3, l4, l5, (0, x6), (0, s0), l8, l9], [], h) = _
  refine g_jmp (t := 447) (by decide +kernel : decode (m_byt 282) 410 = .ok (.goto 37, 3)) (by decide) ?_
  refine g_base (by decide +kernel : decode (m_byt 282) 447 = .ok (.iconst 1, 1)) rfl rfl ?_
  show m_run Z (282, 448, [l0, (2, ((r1 : Nat) : Int)), l2, l3, l4, l5, (0, x6), (0, s0), l8, l9], [(0, 1)], h) = _
  refine g_aload_n (k := 1) (v := (2, ((r1 : Nat) : Int))) (by decide +kernel : decode (m_byt 282) 448 = .ok (.aload_n 1, 1)) rfl (Or.inl rfl) ?_
  refine g_base (by decide +kernel : decode (m_byt 282) 449 = .ok (.iconst 0, 1)) rfl rfl ?_
  show m_run Z (282, 450, [l0, (2, ((r1 : Nat) : Int)), l2, l3, l4, l5, (0, x6), (0, s0), l8, l9], [(0, 0), (2, ((r1 : Nat) : Int)), (0, 1)], h) = _
  exact g_inv (k := 0) (m' := 250) (np := 2) (as := [(2, ((r1 : Nat) : Int)), (0, 0)]) (by decide +kernel : decode (m_byt 282) 450 = .ok (.invokestatic 149, 3)) (Or.inr (Or.inr ⟨rfl, rfl, by decide, by decide⟩)) (by decide +kernel) (by decide +kernel) (by decide +kernel) (Nat.le_of_ble_eq_true rfl) rfl (Or.inl rfl)
theorem b_282_404 {Z : mZ} {l0 l2 l3 l4 l5 l6 l7 l8 l9 : mV} {r1 : Nat} {h : mH} : m_run Z (282, 404, [l0, (2, ((r1 : Nat) : Int)), l2, l3, l4, l5, l6, l7, l8, l9], [], h) = (m_cl Z 272 [(2, ((r1 : Nat) : Int))] h).bind (m_aft (m_run Z) 282 405 [l0, (2, ((r1 : Nat) : Int)), l2, l3, l4, l5, l6, l7, l8, l9] []) := by
  refine g_aload_n (k := 1) (v := (2, ((r1 : Nat) : Int))) (by decide +kernel : decode (m_byt 282) 404 = .ok (.aload_n 1, 1)) rfl (Or.inl rfl) ?_
  exact g_inv (k := 0) (m' := 272) (np := 1) (as := [(2, ((r1 : Nat) : Int))]) (by decide +kernel : decode (m_byt 282) 405 = .ok (.invokestatic 124, 3)) (Or.inr (Or.inr ⟨rfl, rfl, by decide, by decide⟩)) (by decide +kernel) (by decide +kernel) (by decide +kernel) (Nat.le_of_ble_eq_true rfl) rfl (Or.inl rfl)
theorem b_282_408 {Z : mZ} {l0 l2 l3 l4 l5 l7 l8 l9 : mV} {s0 x6 : Int} {r1 : Nat} {h : mH} : m_run Z (282, 408, [l0, (2, ((r1 : Nat) : Int)), l2, l3, l4, l5, (0, x6), l7, l8, l9], [(0, s0)], h) = (m_cl Z 250 [(2, ((r1 : Nat) : Int)), (0, 0)] h).bind (m_aft (m_run Z) 282 450 [l0, (2, ((r1 : Nat) : Int)), l2, l3, l4, l5, (0, x6), (0, s0), l8, l9] [(0, 1)]) := by
  refine g_istore (k := 7) (by decide +kernel : decode (m_byt 282) 408 = .ok (.istore 7, 2)) (Nat.le_of_ble_eq_true rfl) ?_
  show m_run Z (282, 410, [l0, (2, ((r1 : Nat) : Int)), l2, l3, l4, l5, (0, x6), (0, s0), l8, l9], [], h) = _
  refine g_jmp (t := 447) (by decide +kernel : decode (m_byt 282) 410 = .ok (.goto 37, 3)) (by decide) ?_
  refine g_base (by decide +kernel : decode (m_byt 282) 447 = .ok (.iconst 1, 1)) rfl rfl ?_
  show m_run Z (282, 448, [l0, (2, ((r1 : Nat) : Int)), l2, l3, l4, l5, (0, x6), (0, s0), l8, l9], [(0, 1)], h) = _
  refine g_aload_n (k := 1) (v := (2, ((r1 : Nat) : Int))) (by decide +kernel : decode (m_byt 282) 448 = .ok (.aload_n 1, 1)) rfl (Or.inl rfl) ?_
  refine g_base (by decide +kernel : decode (m_byt 282) 449 = .ok (.iconst 0, 1)) rfl rfl ?_
  show m_run Z (282, 450, [l0, (2, ((r1 : Nat) : Int)), l2, l3, l4, l5, (0, x6), (0, s0), l8, l9], [(0, 0), (2, ((r1 : Nat) : Int)), (0, 1)], h) = _
  exact g_inv (k := 0) (m' := 250) (np := 2) (as := [(2, ((r1 : Nat) : Int)), (0, 0)]) (by decide +kernel : decode (m_byt 282) 450 = .ok (.invokestatic 149, 3)) (Or.inr (Or.inr ⟨rfl, rfl, by decide, by decide⟩)) (by decide +kernel) (by decide +kernel) (by decide +kernel) (Nat.le_of_ble_eq_true rfl) rfl (Or.inl rfl)
theorem b_282_413 {Z : mZ} {l0 l1 l2 l3 l4 l5 l7 l8 l9 : mV} {x6 : Int} {h : mH} (h0 : ¬ w32 5 = 0) : m_run Z (282, 413, [l0, l1, l2, l3, l4, l5, (0, x6), l7, l8, l9], [], h) = if w32 ((w32 x6).tmod (w32 5)) = 0 then m_run Z (282, 420, [l0, l1, l2, l3, l4, l5, (0, x6), l7, l8, l9], [], h) else m_run Z (282, 435, [l0, l1, l2, l3, l4, l5, (0, x6), l7, l8, l9], [], h) := by
  refine g_iload (k := 6) (x := x6) (by decide +kernel : decode (m_byt 282) 413 = .ok (.iload 6, 2)) rfl ?_
  refine g_base (by decide +kernel : decode (m_byt 282) 415 = .ok (.iconst 5, 1)) rfl rfl ?_
  show m_run Z (282, 416, [l0, l1, l2, l3, l4, l5, (0, x6), l7, l8, l9], [(0, 5), (0, x6)], h) = _
  refine g_rem (by decide +kernel : decode (m_byt 282) 416 = .ok (.irem, 1)) h0 ?_
  show m_run Z (282, 417, [l0, l1, l2, l3, l4, l5, (0, x6), l7, l8, l9], [(0, ((w32 x6).tmod (w32 5)))], h) = _
  exact g_brn (t := 435) (off := 18) (by decide +kernel : decode (m_byt 282) 417 = .ok (.ifCond .ne 18, 3)) rfl rfl (by decide)
theorem b_282_420 {Z : mZ} {l0 l2 l3 l4 l5 l7 l8 l9 : mV} {x6 : Int} {r1 : Nat} {h : mH} (h0 : ¬ w32 5 = 0) : m_run Z (282, 420, [l0, (2, ((r1 : Nat) : Int)), l2, l3, l4, l5, (0, x6), l7, l8, l9], [], h) = (m_cl Z 243 [(2, ((r1 : Nat) : Int)), (0, (1 + ((w32 ((w32 x6).tdiv (w32 5))).tmod (w32 5))))] h).bind (m_aft (m_run Z) 282 429 [l0, (2, ((r1 : Nat) : Int)), l2, l3, l4, l5, (0, x6), l7, l8, l9] []) := by
  refine g_aload_n (k := 1) (v := (2, ((r1 : Nat) : Int))) (by decide +kernel : decode (m_byt 282) 420 = .ok (.aload_n 1, 1)) rfl (Or.inl rfl) ?_
  refine g_base (by decide +kernel : decode (m_byt 282) 421 = .ok (.iconst 1, 1)) rfl rfl ?_
  show m_run Z (282, 422, [l0, (2, ((r1 : Nat) : Int)), l2, l3, l4, l5, (0, x6), l7, l8, l9], [(0, 1), (2, ((r1 : Nat) : Int))], h) = _
  refine g_iload (k := 6) (x := x6) (by decide +kernel : decode (m_byt 282) 422 = .ok (.iload 6, 2)) rfl ?_
  refine g_base (by decide +kernel : decode (m_byt 282) 424 = .ok (.iconst 5, 1)) rfl rfl ?_
  show m_run Z (282, 425, [l0, (2, ((r1 : Nat) : Int)), l2, l3, l4, l5, (0, x6), l7, l8, l9], [(0, 5), (0, x6), (0, 1), (2, ((r1 : Nat) : Int))], h) = _
  refine g_div (by decide +kernel : decode (m_byt 282) 425 = .ok (.idiv, 1)) h0 ?_
  show m_run Z (282, 426, [l0, (2, ((r1 : Nat) : Int)), l2, l3, l4, l5, (0, x6), l7, l8, l9], [(0, ((w32 x6).tdiv (w32 5))), (0, 1), (2, ((r1 : Nat) : Int))], h) = _
  refine g_base (by decide +kernel : decode (m_byt 282) 426 = .ok (.iconst 5, 1)) rfl rfl ?_
  show m_run Z (282, 427, [l0, (2, ((r1 : Nat) : Int)), l2, l3, l4, l5, (0, x6), l7, l8, l9], [(0, 5), (0, ((w32 x6).tdiv (w32 5))), (0, 1), (2, ((r1 : Nat) : Int))], h) = _
  refine g_rem (by decide +kernel : decode (m_byt 282) 427 = .ok (.irem, 1)) h0 ?_
  show m_run Z (282, 428, [l0, (2, ((r1 : Nat) : Int)), l2, l3, l4, l5, (0, x6), l7, l8, l9], [(0, ((w32 ((w32 x6).tdiv (w32 5))).tmod (w32 5))), (0, 1), (2, ((r1 : Nat) : Int))], h) = _
  refine g_base (by decide +kernel : decode (m_byt 282) 428 = .ok (.iadd, 1)) rfl rfl ?_
  show m_run Z (282, 429, [l0, (2, ((r1 : Nat) : Int)), l2, l3, l4, l5, (0, x6), l7, l8, l9], [(0, (1 + ((w32 ((w32 x6).tdiv (w32 5))).tmod (w32 5)))), (2, ((r1 : Nat) : Int))], h) = _
  exact g_inv (k := 0) (m' := 243) (np := 2) (as := [(2, ((r1 : Nat) : Int)), (0, (1 + ((w32 ((w32 x6).tdiv (w32 5))).tmod (w32 5))))]) (by decide +kernel : decode (m_byt 282) 429 = .ok (.invokestatic 135, 3)) (Or.inr (Or.inr ⟨rfl, rfl, by decide, by decide⟩)) (by decide +kernel) (by decide +kernel) (by decide +kernel) (Nat.le_of_ble_eq_true rfl) rfl (Or.inl rfl)
theorem b_282_432 {Z : mZ} {l0 l1 l2 l3 l4 l5 l7 l8 l9 : mV} {s0 x6 : Int} {h : mH} : m_run Z (282, 432, [l0, l1, l2, l3, l4, l5, (0, x6), l7, l8, l9], [(0, s0)], h) = m_run Z (282, 447, [l0, l1, l2, l3, l4, l5, (0, x6), (0, s0), l8, l9], [], h) := by
  refine g_jmp (t := 445) (by decide +kernel : decode (m_byt 282) 432 = .ok (.goto 13, 3)) (by decide) ?_
  refine g_istore (k := 7) (by decide +kernel : decode (m_byt 282) 445 = .ok (.istore 7, 2)) (Nat.le_of_ble_eq_true rfl) ?_
  show m_run Z (282, 447, [l0, l1, l2, l3, l4, l5, (0, x6), (0, s0), l8, l9], [], h) = _
  rfl
theorem b_282_435 {Z : mZ} {l0 l2 l3 l4 l7 l8 l9 : mV} {x6 x5 : Int} {r1 : Nat} {h : mH} (h0 : ¬ w32 x5 = 0) : m_run Z (282, 435, [l0, (2, ((r1 : Nat) : Int)), l2, l3, l4, (0, x5), (0, x6), l7, l8, l9], [], h) = (m_cl Z 246 [(2, ((r1 : Nat) : Int)), (0, ((w32 x6).tmod (w32 x5))), (0, 0)] h).bind (m_aft (m_run Z) 282 442 [l0, (2, ((r1 : Nat) : Int)), l2, l3, l4, (0, x5), (0, x6), l7, l8, l9] []) := by
  refine g_aload_n (k := 1) (v := (2, ((r1 : Nat) : Int))) (by decide +kernel : decode (m_byt 282) 435 = .ok (.aload_n 1, 1)) rfl (Or.inl rfl) ?_
  refine g_iload (k := 6) (x := x6) (by decide +kernel : decode (m_byt 282) 436 = .ok (.iload 6, 2)) rfl ?_
  refine g_iload (k := 5) (x := x5) (by decide +kernel : decode (m_byt 282) 438 = .ok (.iload 5, 2)) rfl ?_
  refine g_rem (by decide +kernel : decode (m_byt 282) 440 = .ok (.irem, 1)) h0 ?_
  show m_run Z (282, 441, [l0, (2, ((r1 : Nat) : Int)), l2, l3, l4, (0, x5), (0, x6), l7, l8, l9], [(0, ((w32 x6).tmod (w32 x5))), (2, ((r1 : Nat) : Int))], h) = _
  refine g_base (by decide +kernel : decode (m_byt 282) 441 = .ok (.iconst 0, 1)) rfl rfl ?_
  show m_run Z (282, 442, [l0, (2, ((r1 : Nat) : Int)), l2, l3, l4, (0, x5), (0, x6), l7, l8, l9], [(0, 0), (0, ((w32 x6).tmod (w32 x5))), (2, ((r1 : Nat) : Int))], h) = _
  exact g_inv (k := 0) (m' := 246) (np := 3) (as := [(2, ((r1 : Nat) : Int)), (0, ((w32 x6).tmod (w32 x5))), (0, 0)]) (by decide +kernel : decode (m_byt 282) 442 = .ok (.invokestatic 122, 3)) (Or.inr (Or.inr ⟨rfl, rfl, by decide, by decide⟩)) (by decide +kernel) (by decide +kernel) (by decide +kernel) (Nat.le_of_ble_eq_true rfl) rfl (Or.inl rfl)
theorem b_282_445 {Z : mZ} {l0 l1 l2 l3 l4 l5 l7 l8 l9 : mV} {s0 x6 : Int} {h : mH} : m_run Z (282, 445, [l0, l1, l2, l3, l4, l5, (0, x6), l7, l8, l9], [(0, s0)], h) = m_run Z (282, 447, [l0, l1, l2, l3, l4, l5, (0, x6), (0, s0), l8, l9], [], h) := by
  refine g_istore (k := 7) (by decide +kernel : decode (m_byt 282) 445 = .ok (.istore 7, 2)) (Nat.le_of_ble_eq_true rfl) ?_
  show m_run Z (282, 447, [l0, l1, l2, l3, l4, l5, (0, x6), (0, s0), l8, l9], [], h) = _
  rfl
theorem b_282_447 {Z : mZ} {l0 l2 l3 l4 l5 l6 l7 l8 l9 : mV} {r1 : Nat} {h : mH} : m_run Z (282, 447, [l0, (2, ((r1 : Nat) : Int)), l2, l3, l4, l5, l6, l7, l8, l9], [], h) = (m_cl Z 250 [(2, ((r1 : Nat) : Int)), (0, 0)] h).bind (m_aft (m_run Z) 282 450 [l0, (2, ((r1 : Nat) : Int)), l2, l3, l4, l5, l6, l7, l8, l9] [(0, 1)]) := by
  refine g_base (by decide +kernel : decode (m_byt 282) 447 = .ok (.iconst 1, 1)) rfl rfl ?_
  show m_run Z (282, 448, [l0, (2, ((r1 : Nat) : Int)), l2, l3, l4, l5, l6, l7, l8, l9], [(0, 1)], h) = _
  refine g_aload_n (k := 1) (v := (2, ((r1 : Nat) : Int))) (by decide +kernel : decode (m_byt 282) 448 = .ok (.aload_n 1, 1)) rfl (Or.inl rfl) ?_
  refine g_base (by decide +kernel : decode (m_byt 282) 449 = .ok (.iconst 0, 1)) rfl rfl ?_
  show m_run Z (282, 450, [l0, (2, ((r1 : Nat) : Int)), l2, l3, l4, l5, l6, l7, l8, l9], [(0, 0), (2, ((r1 : Nat) : Int)), (0, 1)], h) = _
  exact g_inv (k := 0) (m' := 250) (np := 2) (as := [(2, ((r1 : Nat) : Int)), (0, 0)]) (by decide +kernel : decode (m_byt 282) 450 = .ok (.invokestatic 149, 3)) (Or.inr (Or.inr ⟨rfl, rfl, by decide, by decide⟩)) (by decide +kernel) (by decide +kernel) (by decide +kernel) (Nat.le_of_ble_eq_true rfl) rfl (Or.inl rfl)
theorem b_282_453 {Z : mZ} {l0 l1 l2 l3 l4 l5 l6 l8 l9 : mV} {s0 s1 x7 : Int} {h : mH} : m_run Z (282, 453, [l0, l1, l2, l3, l4, l5, l6, (0, x7), l8, l9], [(0, s0), (0, s1)], h) = if 0 ≤ w32 x7 then m_run Z (282, 484, [l0, l1, l2, l3, l4, l5, l6, (0, x7), (0, ((i_shl s1 s0) - 1)), l9], [], h) else m_run Z (282, 463, [l0, l1, l2, l3, l4, l5, l6, (0, x7), (0, ((i_shl s1 s0) - 1)), l9], [], h) := by
  refine g_base (by decide +kernel : decode (m_byt 282) 453 = .ok (.ishl, 1)) rfl rfl ?_
  show m_run Z (282, 454, [l0, l1, l2, l3, l4, l5, l6, (0, x7), l8, l9], [(0, (i_shl s1 s0))], h) = _
  refine g_base (by decide +kernel : decode (m_byt 282) 454 = .ok (.iconst 1, 1)) rfl rfl ?_
  show m_run Z (282, 455, [l0, l1, l2, l3, l4, l5, l6, (0, x7), l8, l9], [(0, 1), (0, (i_shl s1 s0))], h) = _
  refine g_base (by decide +kernel : decode (m_byt 282) 455 = .ok (.isub, 1)) rfl rfl ?_
  show m_run Z (282, 456, [l0, l1, l2, l3, l4, l5, l6, (0, x7), l8, l9], [(0, ((i_shl s1 s0) - 1))], h) = _
  refine g_istore (k := 8) (by decide +kernel : decode (m_byt 282) 456 = .ok (.istore 8, 2)) (Nat.le_of_ble_eq_true rfl) ?_
  show m_run Z (282, 458, [l0, l1, l2, l3, l4, l5, l6, (0, x7), (0, ((i_shl s1 s0) - 1)), l9], [], h) = _
  refine g_iload (k := 7) (x := x7) (by decide +kernel : decode (m_byt 282) 458 = .ok (.iload 7, 2)) rfl ?_
  exact g_brq (t := 484) (off := 24) (by decide +kernel : decode (m_byt 282) 460 = .ok (.ifCond .ge 24, 3)) rfl rfl (by decide)
theorem b_282_463 {Z : mZ} {l0 l1 l2 l3 l4 l5 l6 l8 l9 : mV} {x7 : Int} {h : mH} : m_run Z (282, 463, [l0, l1, l2, l3, l4, l5, l6, (0, x7), l8, l9], [], h) = if w32 x7 = w32 (-52) then m_run Z (282, 484, [l0, l1, l2, l3, l4, l5, l6, (0, x7), l8, l9], [], h) else m_run Z (282, 470, [l0, l1, l2, l3, l4, l5, l6, (0, x7), l8, l9], [], h) := by
  refine g_iload (k := 7) (x := x7) (by decide +kernel : decode (m_byt 282) 463 = .ok (.iload 7, 2)) rfl ?_
  refine g_base (by decide +kernel : decode (m_byt 282) 465 = .ok (.bipush (-52), 2)) rfl rfl ?_
  show m_run Z (282, 467, [l0, l1, l2, l3, l4, l5, l6, (0, x7), l8, l9], [(0, (-52)), (0, x7)], h) = _
  exact g_brq (t := 484) (off := 17) (by decide +kernel : decode (m_byt 282) 467 = .ok (.if_icmp .eq 17, 3)) rfl rfl (by decide)
theorem b_282_470 {Z : mZ} {l0 l1 l2 l3 l4 l5 l6 l8 l9 : mV} {x7 : Int} {h : mH} : m_run Z (282, 470, [l0, l1, l2, l3, l4, l5, l6, (0, x7), l8, l9], [], h) = if w32 x7 = w32 (-53) then m_run Z (282, 484, [l0, l1, l2, l3, l4, l5, l6, (0, x7), l8, l9], [], h) else m_run Z (282, 477, [l0, l1, l2, l3, l4, l5, l6, (0, x7), l8, l9], [], h) := by
  refine g_iload (k := 7) (x := x7) (by decide +kernel : decode (m_byt 282) 470 = .ok (.iload 7, 2)) rfl ?_
  refine g_base (by decide +kernel : decode (m_byt 282) 472 = .ok (.bipush (-53), 2)) rfl rfl ?_
  show m_run Z (282, 474, [l0, l1, l2, l3, l4, l5, l6, (0, x7), l8, l9], [(0, (-53)), (0, x7)], h) = _
  exact g_brq (t := 484) (off := 10) (by decide +kernel : decode (m_byt 282) 474 = .ok (.if_icmp .eq 10, 3)) rfl rfl (by decide)
theorem b_282_477 {Z : mZ} {l0 l1 l2 l3 l4 l5 l6 l8 l9 : mV} {x7 : Int} {h : mH} : m_run Z (282, 477, [l0, l1, l2, l3, l4, l5, l6, (0, x7), l8, l9], [], h) = if w32 x7 = w32 (-51) then m_run Z (282, 484, [l0, l1, l2, l3, l4, l5, l6, (0, x7), l8, l9], [], h) else m_run Z (282, 536, [l0, l1, l2, l3, l4, l5, l6, (0, x7), l8, l9], [], h) := by
  refine g_iload (k := 7) (x := x7) (by decide +kernel : decode (m_byt 282) 477 = .ok (.iload 7, 2)) rfl ?_
  refine g_base (by decide +kernel : decode (m_byt 282) 479 = .ok (.bipush (-51), 2)) rfl rfl ?_
  show m_run Z (282, 481, [l0, l1, l2, l3, l4, l5, l6, (0, x7), l8, l9], [(0, (-51)), (0, x7)], h) = _
  exact g_brn (t := 536) (off := 55) (by decide +kernel : decode (m_byt 282) 481 = .ok (.if_icmp .ne 55, 3)) rfl rfl (by decide)
theorem b_282_484 {Z : mZ} {l0 l2 l3 l4 l5 l6 l7 l8 l9 : mV} {r1 : Nat} {h : mH} : m_run Z (282, 484, [l0, (2, ((r1 : Nat) : Int)), l2, l3, l4, l5, l6, l7, l8, l9], [], h) = (m_cl Z 277 [(2, ((r1 : Nat) : Int))] h).bind (m_aft (m_run Z) 282 485 [l0, (2, ((r1 : Nat) : Int)), l2, l3, l4, l5, l6, l7, l8, l9] []) := by
  refine g_aload_n (k := 1) (v := (2, ((r1 : Nat) : Int))) (by decide +kernel : decode (m_byt 282) 484 = .ok (.aload_n 1, 1)) rfl (Or.inl rfl) ?_
  exact g_inv (k := 0) (m' := 277) (np := 1) (as := [(2, ((r1 : Nat) : Int))]) (by decide +kernel : decode (m_byt 282) 485 = .ok (.invokestatic 217, 3)) (Or.inr (Or.inr ⟨rfl, rfl, by decide, by decide⟩)) (by decide +kernel) (by decide +kernel) (by decide +kernel) (Nat.le_of_ble_eq_true rfl) rfl (Or.inl rfl)
theorem b_282_488 {Z : mZ} {l0 l1 l2 l3 l4 l5 l6 l7 l8 l9 : mV} {s0 : Int} {h : mH} : m_run Z (282, 488, [l0, l1, l2, l3, l4, l5, l6, l7, l8, l9], [(0, s0)], h) = if w32 s0 = 0 then m_run Z (282, 536, [l0, l1, l2, l3, l4, l5, l6, l7, l8, l9], [], h) else m_run Z (282, 491, [l0, l1, l2, l3, l4, l5, l6, l7, l8, l9], [], h) := by
  exact g_brq (t := 536) (off := 48) (by decide +kernel : decode (m_byt 282) 488 = .ok (.ifCond .eq 48, 3)) rfl rfl (by decide)
theorem b_282_491 {Z : mZ} {l0 l2 l3 l4 l5 l7 l9 : mV} {x8 x6 : Int} {r1 : Nat} {h : mH} (h0 : ¬ w32 7 = 0) : m_run Z (282, 491, [l0, (2, ((r1 : Nat) : Int)), l2, l3, l4, l5, (0, x6), l7, (0, x8), l9], [], h) = (m_cl Z 278 [(2, ((r1 : Nat) : Int)), (0, x8), (0, x6), (0, (1 + ((w32 x6).tmod (w32 7))))] h).bind (m_aft (m_run Z) 282 503 [l0, (2, ((r1 : Nat) : Int)), l2, l3, l4, l5, (0, x6), l7, (0, x8), l9] []) := by
  refine g_aload_n (k := 1) (v := (2, ((r1 : Nat) : Int))) (by decide +kernel : decode (m_byt 282) 491 = .ok (.aload_n 1, 1)) rfl (Or.inl rfl) ?_
  refine g_iload (k := 8) (x := x8) (by decide +kernel : decode (m_byt 282) 492 = .ok (.iload 8, 2)) rfl ?_
  refine g_iload (k := 6) (x := x6) (by decide +kernel : decode (m_byt 282) 494 = .ok (.iload 6, 2)) rfl ?_
  refine g_base (by decide +kernel : decode (m_byt 282) 496 = .ok (.iconst 1, 1)) rfl rfl ?_
  show m_run Z (282, 497, [l0, (2, ((r1 : Nat) : Int)), l2, l3, l4, l5, (0, x6), l7, (0, x8), l9], [(0, 1), (0, x6), (0, x8), (2, ((r1 : Nat) : Int))], h) = _
  refine g_iload (k := 6) (x := x6) (by decide +kernel : decode (m_byt 282) 497 = .ok (.iload 6, 2)) rfl ?_
  refine g_base (by decide +kernel : decode (m_byt 282) 499 = .ok (.bipush 7, 2)) rfl rfl ?_
  show m_run Z (282, 501, [l0, (2, ((r1 : Nat) : Int)), l2, l3, l4, l5, (0, x6), l7, (0, x8), l9], [(0, 7), (0, x6), (0, 1), (0, x6), (0, x8), (2, ((r1 : Nat) : Int))], h) = _
  refine g_rem (by decide +kernel : decode (m_byt 282) 501 = .ok (.irem, 1)) h0 ?_
  show m_run Z (282, 502, [l0, (2, ((r1 : Nat) : Int)), l2, l3, l4, l5, (0, x6), l7, (0, x8), l9], [(0, ((w32 x6).tmod (w32 7))), (0, 1), (0, x6), (0, x8), (2, ((r1 : Nat) : Int))], h) = _
  refine g_base (by decide +kernel : decode (m_byt 282) 502 = .ok (.iadd, 1)) rfl rfl ?_
  show m_run Z (282, 503, [l0, (2, ((r1 : Nat) : Int)), l2, l3, l4, l5, (0, x6), l7, (0, x8), l9], [(0, (1 + ((w32 x6).tmod (w32 7)))), (0, x6), (0, x8), (2, ((r1 : Nat) : Int))], h) = _
  exact g_inv (k := 0) (m' := 278) (np := 4) (as := [(2, ((r1 : Nat) : Int)), (0, x8), (0, x6), (0, (1 + ((w32 x6).tmod (w32 7))))]) (by decide +kernel : decode (m_byt 282) 503 = .ok (.invokestatic 220, 3)) (Or.inr (Or.inr ⟨rfl, rfl, by decide, by decide⟩)) (by decide +kernel) (by decide +kernel) (by decide +kernel) (Nat.le_of_ble_eq_true rfl) rfl (Or.inl rfl)
theorem b_282_506 {Z : mZ} {l0 l1 l2 l3 l4 l5 l6 l7 l8 l9 : mV} {s0 : Int} {h : mH} : m_run Z (282, 506, [l0, l1, l2, l3, l4, l5, l6, l7, l8, l9], [(0, s0)], h) = if w32 s0 = 0 then m_run Z (282, 536, [l0, l1, l2, l3, l4, l5, l6, l7, l8, l9], [], h) else m_run Z (282, 509, [l0, l1, l2, l3, l4, l5, l6, l7, l8, l9], [], h) := by
  exact g_brq (t := 536) (off := 30) (by decide +kernel : decode (m_byt 282) 506 = .ok (.ifCond .eq 30, 3)) rfl rfl (by decide)
theorem b_282_509 {Z : mZ} {l0 l2 l3 l4 l5 l7 l9 : mV} {x6 x8 : Int} {r1 : Nat} {h : mH} (h0 : ¬ w32 3 = 0) (h1 : ¬ w32 11 = 0) : m_run Z (282, 509, [l0, (2, ((r1 : Nat) : Int)), l2, l3, l4, l5, (0, x6), l7, (0, x8), l9], [], h) = (m_cl Z 278 [(2, ((r1 : Nat) : Int)), (0, (i_and x6 x8)), (0, ((w32 x6).tdiv (w32 3))), (0, (1 + ((w32 x6).tmod (w32 11))))] h).bind (m_aft (m_run Z) 282 526 [l0, (2, ((r1 : Nat) : Int)), l2, l3, l4, l5, (0, x6), l7, (0, x8), l9] []) := by
  refine g_aload_n (k := 1) (v := (2, ((r1 : Nat) : Int))) (by decide +kernel : decode (m_byt 282) 509 = .ok (.aload_n 1, 1)) rfl (Or.inl rfl) ?_
  refine g_iload (k := 6) (x := x6) (by decide +kernel : decode (m_byt 282) 510 = .ok (.iload 6, 2)) rfl ?_
  refine g_iload (k := 8) (x := x8) (by decide +kernel : decode (m_byt 282) 512 = .ok (.iload 8, 2)) rfl ?_
  refine g_base (by decide +kernel : decode (m_byt 282) 514 = .ok (.iand, 1)) rfl rfl ?_
  show m_run Z (282, 515, [l0, (2, ((r1 : Nat) : Int)), l2, l3, l4, l5, (0, x6), l7, (0, x8), l9], [(0, (i_and x6 x8)), (2, ((r1 : Nat) : Int))], h) = _
  refine g_iload (k := 6) (x := x6) (by decide +kernel : decode (m_byt 282) 515 = .ok (.iload 6, 2)) rfl ?_
  refine g_base (by decide +kernel : decode (m_byt 282) 517 = .ok (.iconst 3, 1)) rfl rfl ?_
  show m_run Z (282, 518, [l0, (2, ((r1 : Nat) : Int)), l2, l3, l4, l5, (0, x6), l7, (0, x8), l9], [(0, 3), (0, x6), (0, (i_and x6 x8)), (2, ((r1 : Nat) : Int))], h) = _
  refine g_div (by decide +kernel : decode (m_byt 282) 518 = .ok (.idiv, 1)) h0 ?_
  show m_run Z (282, 519, [l0, (2, ((r1 : Nat) : Int)), l2, l3, l4, l5, (0, x6), l7, (0, x8), l9], [(0, ((w32 x6).tdiv (w32 3))), (0, (i_and x6 x8)), (2, ((r1 : Nat) : Int))], h) = _
  refine g_base (by decide +kernel : decode (m_byt 282) 519 = .ok (.iconst 1, 1)) rfl rfl ?_
  show m_run Z (282, 520, [l0, (2, ((r1 : Nat) : Int)), l2, l3, l4, l5, (0, x6), l7, (0, x8), l9], [(0, 1), (0, ((w32 x6).tdiv (w32 3))), (0, (i_and x6 x8)), (2, ((r1 : Nat) : Int))], h) = _
  refine g_iload (k := 6) (x := x6) (by decide +kernel : decode (m_byt 282) 520 = .ok (.iload 6, 2)) rfl ?_
  refine g_base (by decide +kernel : decode (m_byt 282) 522 = .ok (.bipush 11, 2)) rfl rfl ?_
  show m_run Z (282, 524, [l0, (2, ((r1 : Nat) : Int)), l2, l3, l4, l5, (0, x6), l7, (0, x8), l9], [(0, 11), (0, x6), (0, 1), (0, ((w32 x6).tdiv (w32 3))), (0, (i_and x6 x8)), (2, ((r1 : Nat) : Int))], h) = _
  refine g_rem (by decide +kernel : decode (m_byt 282) 524 = .ok (.irem, 1)) h1 ?_
  show m_run Z (282, 525, [l0, (2, ((r1 : Nat) : Int)), l2, l3, l4, l5, (0, x6), l7, (0, x8), l9], [(0, ((w32 x6).tmod (w32 11))), (0, 1), (0, ((w32 x6).tdiv (w32 3))), (0, (i_and x6 x8)), (2, ((r1 : Nat) : Int))], h) = _
  refine g_base (by decide +kernel : decode (m_byt 282) 525 = .ok (.iadd, 1)) rfl rfl ?_
  show m_run Z (282, 526, [l0, (2, ((r1 : Nat) : Int)), l2, l3, l4, l5, (0, x6), l7, (0, x8), l9], [(0, (1 + ((w32 x6).tmod (w32 11)))), (0, ((w32 x6).tdiv (w32 3))), (0, (i_and x6 x8)), (2, ((r1 : Nat) : Int))], h) = _
  exact g_inv (k := 0) (m' := 278) (np := 4) (as := [(2, ((r1 : Nat) : Int)), (0, (i_and x6 x8)), (0, ((w32 x6).tdiv (w32 3))), (0, (1 + ((w32 x6).tmod (w32 11))))]) (by decide +kernel : decode (m_byt 282) 526 = .ok (.invokestatic 220, 3)) (Or.inr (Or.inr ⟨rfl, rfl, by decide, by decide⟩)) (by decide +kernel) (by decide +kernel) (by decide +kernel) (Nat.le_of_ble_eq_true rfl) rfl (Or.inl rfl)
theorem b_282_529 {Z : mZ} {l0 l1 l2 l3 l4 l5 l6 l7 l8 l9 : mV} {s0 : Int} {h : mH} : m_run Z (282, 529, [l0, l1, l2, l3, l4, l5, l6, l7, l8, l9], [(0, s0)], h) = if w32 s0 = 0 then m_run Z (282, 536, [l0, l1, l2, l3, l4, l5, l6, l7, l8, l9], [], h) else m_run Z (282, 532, [l0, l1, l2, l3, l4, l5, l6, l7, l8, l9], [], h) := by
  exact g_brq (t := 536) (off := 7) (by decide +kernel : decode (m_byt 282) 529 = .ok (.ifCond .eq 7, 3)) rfl rfl (by decide)
theorem b_282_532 {Z : mZ} {l0 l2 l3 l4 l5 l6 l7 l8 l9 : mV} {r1 : Nat} {h : mH} : m_run Z (282, 532, [l0, (2, ((r1 : Nat) : Int)), l2, l3, l4, l5, l6, l7, l8, l9], [], h) = (m_cl Z 250 [(2, ((r1 : Nat) : Int)), (0, 3)] h).bind (m_aft (m_run Z) 282 540 [l0, (2, ((r1 : Nat) : Int)), (0, 1), l3, l4, l5, l6, l7, l8, l9] []) := by
  refine g_base (by decide +kernel : decode (m_byt 282) 532 = .ok (.iconst 1, 1)) rfl rfl ?_
  show m_run Z (282, 533, [l0, (2, ((r1 : Nat) : Int)), l2, l3, l4, l5, l6, l7, l8, l9], [(0, 1)], h) = _
  refine g_jmp (t := 537) (by decide +kernel : decode (m_byt 282) 533 = .ok (.goto 4, 3)) (by decide) ?_
  refine g_istore_n (k := 2) (by decide +kernel : decode (m_byt 282) 537 = .ok (.istore_n 2, 1)) (Nat.le_of_ble_eq_true rfl) ?_
  show m_run Z (282, 538, [l0, (2, ((r1 : Nat) : Int)), (0, 1), l3, l4, l5, l6, l7, l8, l9], [], h) = _
  refine g_aload_n (k := 1) (v := (2, ((r1 : Nat) : Int))) (by decide +kernel : decode (m_byt 282) 538 = .ok (.aload_n 1, 1)) rfl (Or.inl rfl) ?_
  refine g_base (by decide +kernel : decode (m_byt 282) 539 = .ok (.iconst 3, 1)) rfl rfl ?_
  show m_run Z (282, 540, [l0, (2, ((r1 : Nat) : Int)), (0, 1), l3, l4, l5, l6, l7, l8, l9], [(0, 3), (2, ((r1 : Nat) : Int))], h) = _
  exact g_inv (k := 0) (m' := 250) (np := 2) (as := [(2, ((r1 : Nat) : Int)), (0, 3)]) (by decide +kernel : decode (m_byt 282) 540 = .ok (.invokestatic 149, 3)) (Or.inr (Or.inr ⟨rfl, rfl, by decide, by decide⟩)) (by decide +kernel) (by decide +kernel) (by decide +kernel) (Nat.le_of_ble_eq_true rfl) rfl (Or.inl rfl)
theorem b_282_536 {Z : mZ} {l0 l1 l2 l3 l4 l5 l6 l7 l8 l9 : mV} {h : mH} : m_run Z (282, 536, [l0, l1, l2, l3, l4, l5, l6, l7, l8, l9], [], h) = m_run Z (282, 537, [l0, l1, l2, l3, l4, l5, l6, l7, l8, l9], [(0, 0)], h) := by
  refine g_base (by decide +kernel : decode (m_byt 282) 536 = .ok (.iconst 0, 1)) rfl rfl ?_
  show m_run Z (282, 537, [l0, l1, l2, l3, l4, l5, l6, l7, l8, l9], [(0, 0)], h) = _
  rfl
theorem b_282_537 {Z : mZ} {l0 l2 l3 l4 l5 l6 l7 l8 l9 : mV} {s0 : Int} {r1 : Nat} {h : mH} : m_run Z (282, 537, [l0, (2, ((r1 : Nat) : Int)), l2, l3, l4, l5, l6, l7, l8, l9], [(0, s0)], h) = (m_cl Z 250 [(2, ((r1 : Nat) : Int)), (0, 3)] h).bind (m_aft (m_run Z) 282 540 [l0, (2, ((r1 : Nat) : Int)), (0, s0), l3, l4, l5, l6, l7, l8, l9] []) := by
  refine g_istore_n (k := 2) (by decide +kernel : decode (m_byt 282) 537 = .ok (.istore_n 2, 1)) (Nat.le_of_ble_eq_true rfl) ?_
  show m_run Z (282, 538, [l0, (2, ((r1 : Nat) : Int)), (0, s0), l3, l4, l5, l6, l7, l8, l9], [], h) = _
  refine g_aload_n (k := 1) (v := (2, ((r1 : Nat) : Int))) (by decide +kernel : decode (m_byt 282) 538 = .ok (.aload_n 1, 1)) rfl (Or.inl rfl) ?_
  refine g_base (by decide +kernel : decode (m_byt 282) 539 = .ok (.iconst 3, 1)) rfl rfl ?_
  show m_run Z (282, 540, [l0, (2, ((r1 : Nat) : Int)), (0, s0), l3, l4, l5, l6, l7, l8, l9], [(0, 3), (2, ((r1 : Nat) : Int))], h) = _
  exact g_inv (k := 0) (m' := 250) (np := 2) (as := [(2, ((r1 : Nat) : Int)), (0, 3)]) (by decide +kernel : decode (m_byt 282) 540 = .ok (.invokestatic 149, 3)) (Or.inr (Or.inr ⟨rfl, rfl, by decide, by decide⟩)) (by decide +kernel) (by decide +kernel) (by decide +kernel) (Nat.le_of_ble_eq_true rfl) rfl (Or.inl rfl)
theorem b_282_543 {Z : mZ} {l0 l1 l2 l3 l4 l5 l6 l7 l8 l9 : mV} {s0 : Int} {h : mH} : m_run Z (282, 543, [l0, l1, l2, l3, l4, l5, l6, l7, l8, l9], [(0, s0)], h) = if w32 s0 = w32 1 then m_run Z (282, 547, [l0, l1, l2, l3, l4, l5, l6, l7, l8, l9], [], h) else m_run Z (282, 559, [l0, l1, l2, l3, l4, l5, l6, l7, l8, l9], [], h) := by
  refine g_base (by decide +kernel : decode (m_byt 282) 543 = .ok (.iconst 1, 1)) rfl rfl ?_
  show m_run Z (282, 544, [l0, l1, l2, l3, l4, l5, l6, l7, l8, l9], [(0, 1), (0, s0)], h) = _
  exact g_brn (t := 559) (off := 15) (by decide +kernel : decode (m_byt 282) 544 = .ok (.if_icmp .ne 15, 3)) rfl rfl (by decide)
theorem b_282_547 {Z : mZ} {l0 l2 l3 l4 l5 l6 l7 l8 l9 : mV} {r1 : Nat} {h : mH} : m_run Z (282, 547, [l0, (2, ((r1 : Nat) : Int)), l2, l3, l4, l5, l6, l7, l8, l9], [], h) = (m_cl Z 250 [(2, ((r1 : Nat) : Int)), (0, 1)] h).bind (m_aft (m_run Z) 282 549 [l0, (2, ((r1 : Nat) : Int)), l2, l3, l4, l5, l6, l7, l8, l9] []) := by
  refine g_aload_n (k := 1) (v := (2, ((r1 : Nat) : Int))) (by decide +kernel : decode (m_byt 282) 547 = .ok (.aload_n 1, 1)) rfl (Or.inl rfl) ?_
  refine g_base (by decide +kernel : decode (m_byt 282) 548 = .ok (.iconst 1, 1)) rfl rfl ?_
  show m_run Z (282, 549, [l0, (2, ((r1 : Nat) : Int)), l2, l3, l4, l5, l6, l7, l8, l9], [(0, 1), (2, ((r1 : Nat) : Int))], h) = _
  exact g_inv (k := 0) (m' := 250) (np := 2) (as := [(2, ((r1 : Nat) : Int)), (0, 1)]) (by decide +kernel : decode (m_byt 282) 549 = .ok (.invokestatic 149, 3)) (Or.inr (Or.inr ⟨rfl, rfl, by decide, by decide⟩)) (by decide +kernel) (by decide +kernel) (by decide +kernel) (Nat.le_of_ble_eq_true rfl) rfl (Or.inl rfl)
theorem b_282_552 {Z : mZ} {l0 l1 l2 l3 l4 l5 l6 l7 l8 l9 : mV} {s0 : Int} {h : mH} : m_run Z (282, 552, [l0, l1, l2, l3, l4, l5, l6, l7, l8, l9], [(0, s0)], h) = if w32 s0 ≤ 0 then m_run Z (282, 559, [l0, l1, l2, l3, l4, l5, l6, l7, l8, l9], [], h) else m_run Z (282, 555, [l0, l1, l2, l3, l4, l5, l6, l7, l8, l9], [], h) := by
  exact g_brq (t := 559) (off := 7) (by decide +kernel : decode (m_byt 282) 552 = .ok (.ifCond .le 7, 3)) rfl rfl (by decide)
theorem b_282_555 {Z : mZ} {l0 l1 l3 l4 l5 l6 l7 l9 : mV} {x8 x2 : Int} {h : mH} : m_run Z (282, 555, [l0, l1, (0, x2), l3, l4, l5, l6, l7, (0, x8), l9], [], h) = if w32 x2 = 0 then m_run Z (282, 654, [l0, l1, (0, x2), l3, l4, l5, l6, l7, (0, x8), (0, 1)], [], h) else m_run Z (282, 566, [l0, l1, (0, x2), l3, l4, l5, l6, l7, (0, x8), (0, 1)], [], h) := by
  refine g_base (by decide +kernel : decode (m_byt 282) 555 = .ok (.iconst 1, 1)) rfl rfl ?_
  show m_run Z (282, 556, [l0, l1, (0, x2), l3, l4, l5, l6, l7, (0, x8), l9], [(0, 1)], h) = _
  refine g_jmp (t := 560) (by decide +kernel : decode (m_byt 282) 556 = .ok (.goto 4, 3)) (by decide) ?_
  refine g_istore (k := 9) (by decide +kernel : decode (m_byt 282) 560 = .ok (.istore 9, 2)) (Nat.le_of_ble_eq_true rfl) ?_
  show m_run Z (282, 562, [l0, l1, (0, x2), l3, l4, l5, l6, l7, (0, x8), (0, 1)], [], h) = _
  refine g_iload_n (k := 2) (x := x2) (by decide +kernel : decode (m_byt 282) 562 = .ok (.iload_n 2, 1)) rfl ?_
  exact g_brq (t := 654) (off := 91) (by decide +kernel : decode (m_byt 282) 563 = .ok (.ifCond .eq 91, 3)) rfl rfl (by decide)
theorem b_282_559 {Z : mZ} {l0 l1 l2 l3 l4 l5 l6 l7 l8 l9 : mV} {h : mH} : m_run Z (282, 559, [l0, l1, l2, l3, l4, l5, l6, l7, l8, l9], [], h) = m_run Z (282, 560, [l0, l1, l2, l3, l4, l5, l6, l7, l8, l9], [(0, 0)], h) := by
  refine g_base (by decide +kernel : decode (m_byt 282) 559 = .ok (.iconst 0, 1)) rfl rfl ?_
  show m_run Z (282, 560, [l0, l1, l2, l3, l4, l5, l6, l7, l8, l9], [(0, 0)], h) = _
  rfl
theorem b_282_560 {Z : mZ} {l0 l1 l3 l4 l5 l6 l7 l9 : mV} {s0 x8 x2 : Int} {h : mH} : m_run Z (282, 560, [l0, l1, (0, x2), l3, l4, l5, l6, l7, (0, x8), l9], [(0, s0)], h) = if w32 x2 = 0 then m_run Z (282, 654, [l0, l1, (0, x2), l3, l4, l5, l6, l7, (0, x8), (0, s0)], [], h) else m_run Z (282, 566, [l0, l1, (0, x2), l3, l4, l5, l6, l7, (0, x8), (0, s0)], [], h) := by
  refine g_istore (k := 9) (by decide +kernel : decode (m_byt 282) 560 = .ok (.istore 9, 2)) (Nat.le_of_ble_eq_true rfl) ?_
  show m_run Z (282, 562, [l0, l1, (0, x2), l3, l4, l5, l6, l7, (0, x8), (0, s0)], [], h) = _
  refine g_iload_n (k := 2) (x := x2) (by decide +kernel : decode (m_byt 282) 562 = .ok (.iload_n 2, 1)) rfl ?_
  exact g_brq (t := 654) (off := 91) (by decide +kernel : decode (m_byt 282) 563 = .ok (.ifCond .eq 91, 3)) rfl rfl (by decide)
theorem b_282_566 {Z : mZ} {l0 l1 l2 l3 l4 l5 l6 l7 l8 : mV} {x9 : Int} {h : mH} : m_run Z (282, 566, [l0, l1, l2, l3, l4, l5, l6, l7, l8, (0, x9)], [], h) = if w32 x9 = 0 then m_run Z (282, 636, [l0, l1, l2, l3, l4, l5, l6, l7, l8, (0, x9)], [], h) else m_run Z (282, 571, [l0, l1, l2, l3, l4, l5, l6, l7, l8, (0, x9)], [], h) := by
  refine g_iload (k := 9) (x := x9) (by decide +kernel : decode (m_byt 282) 566 = .ok (.iload 9, 2)) rfl ?_
  exact g_brq (t := 636) (off := 68) (by decide +kernel : decode (m_byt 282) 568 = .ok (.ifCond .eq 68, 3)) rfl rfl (by decide)
theorem b_282_571 {Z : mZ} {l0 l2 l4 l5 l6 l7 l8 l9 : mV} {x3 : Int} {r1 : Nat} {h : mH} (h0 : ¬ w32 3 = 0) : m_run Z (282, 571, [l0, (2, ((r1 : Nat) : Int)), l2, (0, x3), l4, l5, l6, l7, l8, l9], [], h) = (m_cl Z 279 [(2, ((r1 : Nat) : Int)), (0, (1 + ((w32 x3).tmod (w32 3))))] h).bind (m_aft (m_run Z) 282 577 [l0, (2, ((r1 : Nat) : Int)), l2, (0, x3), l4, l5, l6, l7, l8, l9] []) := by
  refine g_aload_n (k := 1) (v := (2, ((r1 : Nat) : Int))) (by decide +kernel : decode (m_byt 282) 571 = .ok (.aload_n 1, 1)) rfl (Or.inl rfl) ?_
  refine g_base (by decide +kernel : decode (m_byt 282) 572 = .ok (.iconst 1, 1)) rfl rfl ?_
  show m_run Z (282, 573, [l0, (2, ((r1 : Nat) : Int)), l2, (0, x3), l4, l5, l6, l7, l8, l9], [(0, 1), (2, ((r1 : Nat) : Int))], h) = _
  refine g_iload_n (k := 3) (x := x3) (by decide +kernel : decode (m_byt 282) 573 = .ok (.iload_n 3, 1)) rfl ?_
  refine g_base (by decide +kernel : decode (m_byt 282) 574 = .ok (.iconst 3, 1)) rfl rfl ?_
  show m_run Z (282, 575, [l0, (2, ((r1 : Nat) : Int)), l2, (0, x3), l4, l5, l6, l7, l8, l9], [(0, 3), (0, x3), (0, 1), (2, ((r1 : Nat) : Int))], h) = _
  refine g_rem (by decide +kernel : decode (m_byt 282) 575 = .ok (.irem, 1)) h0 ?_
  show m_run Z (282, 576, [l0, (2, ((r1 : Nat) : Int)), l2, (0, x3), l4, l5, l6, l7, l8, l9], [(0, ((w32 x3).tmod (w32 3))), (0, 1), (2, ((r1 : Nat) : Int))], h) = _
  refine g_base (by decide +kernel : decode (m_byt 282) 576 = .ok (.iadd, 1)) rfl rfl ?_
  show m_run Z (282, 577, [l0, (2, ((r1 : Nat) : Int)), l2, (0, x3), l4, l5, l6, l7, l8, l9], [(0, (1 + ((w32 x3).tmod (w32 3)))), (2, ((r1 : Nat) : Int))], h) = _
  exact g_inv (k := 0) (m' := 279) (np := 2) (as := [(2, ((r1 : Nat) : Int)), (0, (1 + ((w32 x3).tmod (w32 3))))]) (by decide +kernel : decode (m_byt 282) 577 = .ok (.invokestatic 224, 3)) (Or.inr (Or.inr ⟨rfl, rfl, by decide, by decide⟩)) (by decide +kernel) (by decide +kernel) (by decide +kernel) (Nat.le_of_ble_eq_true rfl) rfl (Or.inl rfl)
theorem b_282_580 {Z : mZ} {l0 l1 l2 l3 l4 l5 l6 l7 l8 l9 : mV} {s0 : Int} {h : mH} : m_run Z (282, 580, [l0, l1, l2, l3, l4, l5, l6, l7, l8, l9], [(0, s0)], h) = if w32 s0 = 0 then m_run Z (282, 654, [l0, l1, l2, l3, l4, l5, l6, l7, l8, l9], [], h) else m_run Z (282, 583, [l0, l1, l2, l3, l4, l5, l6, l7, l8, l9], [], h) := by
  exact g_brq (t := 654) (off := 74) (by decide +kernel : decode (m_byt 282) 580 = .ok (.ifCond .eq 74, 3)) rfl rfl (by decide)
theorem b_282_583 {Z : mZ} {l0 l2 l3 l4 l5 l7 l8 l9 : mV} {x6 : Int} {r1 : Nat} {h : mH} : m_run Z (282, 583, [l0, (2, ((r1 : Nat) : Int)), l2, l3, l4, l5, (0, x6), l7, l8, l9], [], h) = (m_cl Z 250 [(2, ((r1 : Nat) : Int)), (0, 1)] h).bind (m_aft (m_run Z) 282 588 [l0, (2, ((r1 : Nat) : Int)), l2, l3, l4, l5, (0, x6), l7, l8, l9] [(0, x6), (2, ((r1 : Nat) : Int))]) := by
  refine g_aload_n (k := 1) (v := (2, ((r1 : Nat) : Int))) (by decide +kernel : decode (m_byt 282) 583 = .ok (.aload_n 1, 1)) rfl (Or.inl rfl) ?_
  refine g_iload (k := 6) (x := x6) (by decide +kernel : decode (m_byt 282) 584 = .ok (.iload 6, 2)) rfl ?_
  refine g_aload_n (k := 1) (v := (2, ((r1 : Nat) : Int))) (by decide +kernel : decode (m_byt 282) 586 = .ok (.aload_n 1, 1)) rfl (Or.inl rfl) ?_
  refine g_base (by decide +kernel : decode (m_byt 282) 587 = .ok (.iconst 1, 1)) rfl rfl ?_
  show m_run Z (282, 588, [l0, (2, ((r1 : Nat) : Int)), l2, l3, l4, l5, (0, x6), l7, l8, l9], [(0, 1), (2, ((r1 : Nat) : Int)), (0, x6), (2, ((r1 : Nat) : Int))], h) = _
  exact g_inv (k := 0) (m' := 250) (np := 2) (as := [(2, ((r1 : Nat) : Int)), (0, 1)]) (by decide +kernel : decode (m_byt 282) 588 = .ok (.invokestatic 149, 3)) (Or.inr (Or.inr ⟨rfl, rfl, by decide, by decide⟩)) (by decide +kernel) (by decide +kernel) (by decide +kernel) (Nat.le_of_ble_eq_true rfl) rfl (Or.inl rfl)
theorem b_282_591 {Z : mZ} {l0 l1 l2 l3 l4 l5 l6 l7 l8 l9 : mV} {s0 s1 : Int} {s2 : Nat} {h : mH} (h0 : ¬ w32 s0 = 0) : m_run Z (282, 591, [l0, l1, l2, l3, l4, l5, l6, l7, l8, l9], [(0, s0), (0, s1), (2, ((s2 : Nat) : Int))], h) = (m_cl Z 280 [(2, ((s2 : Nat) : Int)), (0, ((w32 s1).tmod (w32 s0)))] h).bind (m_aft (m_run Z) 282 592 [l0, l1, l2, l3, l4, l5, l6, l7, l8, l9] []) := by
  refine g_rem (by decide +kernel : decode (m_byt 282) 591 = .ok (.irem, 1)) h0 ?_
  show m_run Z (282, 592, [l0, l1, l2, l3, l4, l5, l6, l7, l8, l9], [(0, ((w32 s1).tmod (w32 s0))), (2, ((s2 : Nat) : Int))], h) = _
  exact g_inv (k := 0) (m' := 280) (np := 2) (as := [(2, ((s2 : Nat) : Int)), (0, ((w32 s1).tmod (w32 s0)))]) (by decide +kernel : decode (m_byt 282) 592 = .ok (.invokestatic 228, 3)) (Or.inr (Or.inr ⟨rfl, rfl, by decide, by decide⟩)) (by decide +kernel) (by decide +kernel) (by decide +kernel) (Nat.le_of_ble_eq_true rfl) rfl (Or.inl rfl)
theorem b_282_595 {Z : mZ} {l0 l1 l2 l3 l4 l5 l6 l7 l8 l9 : mV} {s0 : Int} {h : mH} : m_run Z (282, 595, [l0, l1, l2, l3, l4, l5, l6, l7, l8, l9], [(0, s0)], h) = if w32 s0 = 0 then m_run Z (282, 654, [l0, l1, l2, l3, l4, l5, l6, l7, l8, l9], [], h) else m_run Z (282, 598, [l0, l1, l2, l3, l4, l5, l6, l7, l8, l9], [], h) := by
  exact g_brq (t := 654) (off := 59) (by decide +kernel : decode (m_byt 282) 595 = .ok (.ifCond .eq 59, 3)) rfl rfl (by decide)
theorem b_282_598 {Z : mZ} {l0 l2 l3 l4 l5 l6 l7 l8 l9 : mV} {r1 : Nat} {h : mH} : m_run Z (282, 598, [l0, (2, ((r1 : Nat) : Int)), l2, l3, l4, l5, l6, l7, l8, l9], [], h) = (m_cl Z 269 [(2, ((r1 : Nat) : Int)), (0, 0), (0, 0)] h).bind (m_aft (m_run Z) 282 601 [l0, (2, ((r1 : Nat) : Int)), l2, l3, l4, l5, l6, l7, l8, l9] []) := by
  refine g_aload_n (k := 1) (v := (2, ((r1 : Nat) : Int))) (by decide +kernel : decode (m_byt 282) 598 = .ok (.aload_n 1, 1)) rfl (Or.inl rfl) ?_
  refine g_base (by decide +kernel : decode (m_byt 282) 599 = .ok (.iconst 0, 1)) rfl rfl ?_
  show m_run Z (282, 600, [l0, (2, ((r1 : Nat) : Int)), l2, l3, l4, l5, l6, l7, l8, l9], [(0, 0), (2, ((r1 : Nat) : Int))], h) = _
  refine g_base (by decide +kernel : decode (m_byt 282) 600 = .ok (.iconst 0, 1)) rfl rfl ?_
  show m_run Z (282, 601, [l0, (2, ((r1 : Nat) : Int)), l2, l3, l4, l5, l6, l7, l8, l9], [(0, 0), (0, 0), (2, ((r1 : Nat) : Int))], h) = _
  exact g_inv (k := 0) (m' := 269) (np := 3) (as := [(2, ((r1 : Nat) : Int)), (0, 0), (0, 0)]) (by decide +kernel : decode (m_byt 282) 601 = .ok (.invokestatic 187, 3)) (Or.inr (Or.inr ⟨rfl, rfl, by decide, by decide⟩)) (by decide +kernel) (by decide +kernel) (by decide +kernel) (Nat.le_of_ble_eq_true rfl) rfl (Or.inl rfl)
theorem b_282_604 {Z : mZ} {l0 l2 l3 l4 l5 l6 l7 l9 : mV} {s0 x8 : Int} {r1 : Nat} {h : mH} : m_run Z (282, 604, [l0, (2, ((r1 : Nat) : Int)), l2, l3, l4, l5, l6, l7, (0, x8), l9], [(0, s0)], h) = (m_cl Z 261 [(2, ((r1 : Nat) : Int)), (0, x8), (0, 0)] h).bind (m_aft (m_run Z) 282 608 [l0, (2, ((r1 : Nat) : Int)), l2, l3, l4, l5, l6, l7, (0, x8), l9] [(0, s0)]) := by
  refine g_aload_n (k := 1) (v := (2, ((r1 : Nat) : Int))) (by decide +kernel : decode (m_byt 282) 604 = .ok (.aload_n 1, 1)) rfl (Or.inl rfl) ?_
  refine g_iload (k := 8) (x := x8) (by decide +kernel : decode (m_byt 282) 605 = .ok (.iload 8, 2)) rfl ?_
  refine g_base (by decide +kernel : decode (m_byt 282) 607 = .ok (.iconst 0, 1)) rfl rfl ?_
  show m_run Z (282, 608, [l0, (2, ((r1 : Nat) : Int)), l2, l3, l4, l5, l6, l7, (0, x8), l9], [(0, 0), (0, x8), (2, ((r1 : Nat) : Int)), (0, s0)], h) = _
  exact g_inv (k := 0) (m' := 261) (np := 3) (as := [(2, ((r1 : Nat) : Int)), (0, x8), (0, 0)]) (by decide +kernel : decode (m_byt 282) 608 = .ok (.invokestatic 171, 3)) (Or.inr (Or.inr ⟨rfl, rfl, by decide, by decide⟩)) (by decide +kernel) (by decide +kernel) (by decide +kernel) (Nat.le_of_ble_eq_true rfl) rfl (Or.inl rfl)
theorem b_282_611 {Z : mZ} {l0 l1 l2 l3 l4 l5 l6 l7 l8 l9 : mV} {s0 s1 : Int} {h : mH} : m_run Z (282, 611, [l0, l1, l2, l3, l4, l5, l6, l7, l8, l9], [(0, s0), (0, s1)], h) = if w32 s1 = w32 s0 then m_run Z (282, 614, [l0, l1, l2, l3, l4, l5, l6, l7, l8, l9], [], h) else m_run Z (282, 654, [l0, l1, l2, l3, l4, l5, l6, l7, l8, l9], [], h) := by
  exact g_brn (t := 654) (off := 43) (by decide +kernel : decode (m_byt 282) 611 = .ok (.if_icmp .ne 43, 3)) rfl rfl (by decide)
theorem b_282_614 {Z : mZ} {l0 l1 l2 l4 l5 l6 l7 l8 l9 : mV} {x3 : Int} {h : mH} (h0 : ¬ w32 4 = 0) : m_run Z (282, 614, [l0, l1, l2, (0, x3), l4, l5, l6, l7, l8, l9], [], h) = if w32 ((w32 x3).tmod (w32 4)) = w32 1 then m_run Z (282, 621, [l0, l1, l2, (0, x3), l4, l5, l6, l7, l8, l9], [], h) else m_run Z (282, 636, [l0, l1, l2, (0, x3), l4, l5, l6, l7, l8, l9], [], h) := by
  refine g_iload_n (k := 3) (x := x3) (by decide +kernel : decode (m_byt 282) 614 = .ok (.iload_n 3, 1)) rfl ?_
  refine g_base (by decide +kernel : decode (m_byt 282) 615 = .ok (.iconst 4, 1)) rfl rfl ?_
  show m_run Z (282, 616, [l0, l1, l2, (0, x3), l4, l5, l6, l7, l8, l9], [(0, 4), (0, x3)], h) = _
  refine g_rem (by decide +kernel : decode (m_byt 282) 616 = .ok (.irem, 1)) h0 ?_
  show m_run Z (282, 617, [l0, l1, l2, (0, x3), l4, l5, l6, l7, l8, l9], [(0, ((w32 x3).tmod (w32 4)))], h) = _
  refine g_base (by decide +kernel : decode (m_byt 282) 617 = .ok (.iconst 1, 1)) rfl rfl ?_
  show m_run Z (282, 618, [l0, l1, l2, (0, x3), l4, l5, l6, l7, l8, l9], [(0, 1), (0, ((w32 x3).tmod (w32 4)))], h) = _
  exact g_brn (t := 636) (off := 18) (by decide +kernel : decode (m_byt 282) 618 = .ok (.if_icmp .ne 18, 3)) rfl rfl (by decide)
theorem b_282_621 {Z : mZ} {l0 l2 l3 l4 l5 l7 l8 l9 : mV} {x6 : Int} {r1 : Nat} {h : mH} : m_run Z (282, 621, [l0, (2, ((r1 : Nat) : Int)), l2, l3, l4, l5, (0, x6), l7, l8, l9], [], h) = (m_cl Z 250 [(2, ((r1 : Nat) : Int)), (0, 1)] h).bind (m_aft (m_run Z) 282 626 [l0, (2, ((r1 : Nat) : Int)), l2, l3, l4, l5, (0, x6), l7, l8, l9] [(0, x6), (2, ((r1 : Nat) : Int))]) := by
  refine g_aload_n (k := 1) (v := (2, ((r1 : Nat) : Int))) (by decide +kernel : decode (m_byt 282) 621 = .ok (.aload_n 1, 1)) rfl (Or.inl rfl) ?_
  refine g_iload (k := 6) (x := x6) (by decide +kernel : decode (m_byt 282) 622 = .ok (.iload 6, 2)) rfl ?_
  refine g_aload_n (k := 1) (v := (2, ((r1 : Nat) : Int))) (by decide +kernel : decode (m_byt 282) 624 = .ok (.aload_n 1, 1)) rfl (Or.inl rfl) ?_
  refine g_base (by decide +kernel : decode (m_byt 282) 625 = .ok (.iconst 1, 1)) rfl rfl ?_
  show m_run Z (282, 626, [l0, (2, ((r1 : Nat) : Int)), l2, l3, l4, l5, (0, x6), l7, l8, l9], [(0, 1), (2, ((r1 : Nat) : Int)), (0, x6), (2, ((r1 : Nat) : Int))], h) = _
  exact g_inv (k := 0) (m' := 250) (np := 2) (as := [(2, ((r1 : Nat) : Int)), (0, 1)]) (by decide +kernel : decode (m_byt 282) 626 = .ok (.invokestatic 149, 3)) (Or.inr (Or.inr ⟨rfl, rfl, by decide, by decide⟩)) (by decide +kernel) (by decide +kernel) (by decide +kernel) (Nat.le_of_ble_eq_true rfl) rfl (Or.inl rfl)
theorem b_282_629 {Z : mZ} {l0 l1 l2 l3 l4 l5 l6 l7 l8 l9 : mV} {s0 s1 : Int} {s2 : Nat} {h : mH} (h0 : ¬ w32 s0 = 0) : m_run Z (282, 629, [l0, l1, l2, l3, l4, l5, l6, l7, l8, l9], [(0, s0), (0, s1), (2, ((s2 : Nat) : Int))], h) = (m_cl Z 281 [(2, ((s2 : Nat) : Int)), (0, ((w32 s1).tmod (w32 s0)))] h).bind (m_aft (m_run Z) 282 630 [l0, l1, l2, l3, l4, l5, l6, l7, l8, l9] []) := by
  refine g_rem (by decide +kernel : decode (m_byt 282) 629 = .ok (.irem, 1)) h0 ?_
  show m_run Z (282, 630, [l0, l1, l2, l3, l4, l5, l6, l7, l8, l9], [(0, ((w32 s1).tmod (w32 s0))), (2, ((s2 : Nat) : Int))], h) = _
  exact g_inv (k := 0) (m' := 281) (np := 2) (as := [(2, ((s2 : Nat) : Int)), (0, ((w32 s1).tmod (w32 s0)))]) (by decide +kernel : decode (m_byt 282) 630 = .ok (.invokestatic 231, 3)) (Or.inr (Or.inr ⟨rfl, rfl, by decide, by decide⟩)) (by decide +kernel) (by decide +kernel) (by decide +kernel) (Nat.le_of_ble_eq_true rfl) rfl (Or.inl rfl)
theorem b_282_633 {Z : mZ} {l0 l1 l2 l3 l4 l5 l6 l7 l8 l9 : mV} {s0 : Int} {h : mH} : m_run Z (282, 633, [l0, l1, l2, l3, l4, l5, l6, l7, l8, l9], [(0, s0)], h) = if w32 s0 = 0 then m_run Z (282, 654, [l0, l1, l2, l3, l4, l5, l6, l7, l8, l9], [], h) else m_run Z (282, 636, [l0, l1, l2, l3, l4, l5, l6, l7, l8, l9], [], h) := by
  exact g_brq (t := 654) (off := 21) (by decide +kernel : decode (m_byt 282) 633 = .ok (.ifCond .eq 21, 3)) rfl rfl (by decide)
theorem b_282_636 {Z : mZ} {l0 l1 l2 l4 l5 l6 l7 l8 l9 : mV} {x3 : Int} {h : mH} (h0 : ¬ w32 5 = 0) : m_run Z (282, 636, [l0, l1, l2, (0, x3), l4, l5, l6, l7, l8, l9], [], h) = if w32 ((w32 x3).tmod (w32 5)) = w32 2 then m_run Z (282, 643, [l0, l1, l2, (0, x3), l4, l5, l6, l7, l8, l9], [], h) else m_run Z (282, 650, [l0, l1, l2, (0, x3), l4, l5, l6, l7, l8, l9], [], h) := by
  refine g_iload_n (k := 3) (x := x3) (by decide +kernel : decode (m_byt 282) 636 = .ok (.iload_n 3, 1)) rfl ?_
  refine g_base (by decide +kernel : decode (m_byt 282) 637 = .ok (.iconst 5, 1)) rfl rfl ?_
  show m_run Z (282, 638, [l0, l1, l2, (0, x3), l4, l5, l6, l7, l8, l9], [(0, 5), (0, x3)], h) = _
  refine g_rem (by decide +kernel : decode (m_byt 282) 638 = .ok (.irem, 1)) h0 ?_
  show m_run Z (282, 639, [l0, l1, l2, (0, x3), l4, l5, l6, l7, l8, l9], [(0, ((w32 x3).tmod (w32 5)))], h) = _
  refine g_base (by decide +kernel : decode (m_byt 282) 639 = .ok (.iconst 2, 1)) rfl rfl ?_
  show m_run Z (282, 640, [l0, l1, l2, (0, x3), l4, l5, l6, l7, l8, l9], [(0, 2), (0, ((w32 x3).tmod (w32 5)))], h) = _
  exact g_brn (t := 650) (off := 10) (by decide +kernel : decode (m_byt 282) 640 = .ok (.if_icmp .ne 10, 3)) rfl rfl (by decide)
theorem b_282_643 {Z : mZ} {l0 l2 l3 l4 l5 l6 l7 l8 l9 : mV} {r1 : Nat} {h : mH} : m_run Z (282, 643, [l0, (2, ((r1 : Nat) : Int)), l2, l3, l4, l5, l6, l7, l8, l9], [], h) = (m_cl Z 274 [(2, ((r1 : Nat) : Int))] h).bind (m_aft (m_run Z) 282 644 [l0, (2, ((r1 : Nat) : Int)), l2, l3, l4, l5, l6, l7, l8, l9] []) := by
  refine g_aload_n (k := 1) (v := (2, ((r1 : Nat) : Int))) (by decide +kernel : decode (m_byt 282) 643 = .ok (.aload_n 1, 1)) rfl (Or.inl rfl) ?_
  exact g_inv (k := 0) (m' := 274) (np := 1) (as := [(2, ((r1 : Nat) : Int))]) (by decide +kernel : decode (m_byt 282) 644 = .ok (.invokestatic 205, 3)) (Or.inr (Or.inr ⟨rfl, rfl, by decide, by decide⟩)) (by decide +kernel) (by decide +kernel) (by decide +kernel) (Nat.le_of_ble_eq_true rfl) rfl (Or.inl rfl)
theorem b_282_647 {Z : mZ} {l0 l1 l2 l3 l4 l5 l6 l7 l8 l9 : mV} {s0 : Int} {h : mH} : m_run Z (282, 647, [l0, l1, l2, l3, l4, l5, l6, l7, l8, l9], [(0, s0)], h) = if w32 s0 = 0 then m_run Z (282, 654, [l0, l1, l2, l3, l4, l5, l6, l7, l8, l9], [], h) else m_run Z (282, 650, [l0, l1, l2, l3, l4, l5, l6, l7, l8, l9], [], h) := by
  exact g_brq (t := 654) (off := 7) (by decide +kernel : decode (m_byt 282) 647 = .ok (.ifCond .eq 7, 3)) rfl rfl (by decide)
theorem b_282_650 {Z : mZ} {l0 l2 l4 l5 l6 l7 l8 l9 : mV} {x3 : Int} {r1 : Nat} {h : mH} : m_run Z (282, 650, [l0, (2, ((r1 : Nat) : Int)), l2, (0, x3), l4, l5, l6, l7, l8, l9], [], h) = m_run Z (282, 158, [l0, (2, ((r1 : Nat) : Int)), (0, 1), (0, x3 + 1), l4, l5, l6, l7, l8, l9], [], h) := by
  refine g_base (by decide +kernel : decode (m_byt 282) 650 = .ok (.iconst 1, 1)) rfl rfl ?_
  show m_run Z (282, 651, [l0, (2, ((r1 : Nat) : Int)), l2, (0, x3), l4, l5, l6, l7, l8, l9], [(0, 1)], h) = _
  refine g_jmp (t := 655) (by decide +kernel : decode (m_byt 282) 651 = .ok (.goto 4, 3)) (by decide) ?_
  refine g_istore_n (k := 2) (by decide +kernel : decode (m_byt 282) 655 = .ok (.istore_n 2, 1)) (Nat.le_of_ble_eq_true rfl) ?_
  show m_run Z (282, 656, [l0, (2, ((r1 : Nat) : Int)), (0, 1), (0, x3), l4, l5, l6, l7, l8, l9], [], h) = _
  refine g_iinc (k := 3) (x := x3) (by decide +kernel : decode (m_byt 282) 656 = .ok (.iinc 3 1, 3)) rfl (Nat.le_of_ble_eq_true rfl) ?_
  show m_run Z (282, 659, [l0, (2, ((r1 : Nat) : Int)), (0, 1), (0, x3 + 1), l4, l5, l6, l7, l8, l9], [], h) = _
  refine g_jmp (t := 158) (by decide +kernel : decode (m_byt 282) 659 = .ok (.goto (-501), 3)) (by decide) ?_
  rfl
theorem b_282_654 {Z : mZ} {l0 l1 l2 l3 l4 l5 l6 l7 l8 l9 : mV} {h : mH} : m_run Z (282, 654, [l0, l1, l2, l3, l4, l5, l6, l7, l8, l9], [], h) = m_run Z (282, 655, [l0, l1, l2, l3, l4, l5, l6, l7, l8, l9], [(0, 0)], h) := by
  refine g_base (by decide +kernel : decode (m_byt 282) 654 = .ok (.iconst 0, 1)) rfl rfl ?_
  show m_run Z (282, 655, [l0, l1, l2, l3, l4, l5, l6, l7, l8, l9], [(0, 0)], h) = _
  rfl
theorem b_282_655 {Z : mZ} {l0 l2 l4 l5 l6 l7 l8 l9 : mV} {s0 x3 : Int} {r1 : Nat} {h : mH} : m_run Z (282, 655, [l0, (2, ((r1 : Nat) : Int)), l2, (0, x3), l4, l5, l6, l7, l8, l9], [(0, s0)], h) = m_run Z (282, 158, [l0, (2, ((r1 : Nat) : Int)), (0, s0), (0, x3 + 1), l4, l5, l6, l7, l8, l9], [], h) := by
  refine g_istore_n (k := 2) (by decide +kernel : decode (m_byt 282) 655 = .ok (.istore_n 2, 1)) (Nat.le_of_ble_eq_true rfl) ?_
  show m_run Z (282, 656, [l0, (2, ((r1 : Nat) : Int)), (0, s0), (0, x3), l4, l5, l6, l7, l8, l9], [], h) = _
  refine g_iinc (k := 3) (x := x3) (by decide +kernel : decode (m_byt 282) 656 = .ok (.iinc 3 1, 3)) rfl (Nat.le_of_ble_eq_true rfl) ?_
  show m_run Z (282, 659, [l0, (2, ((r1 : Nat) : Int)), (0, s0), (0, x3 + 1), l4, l5, l6, l7, l8, l9], [], h) = _
  refine g_jmp (t := 158) (by decide +kernel : decode (m_byt 282) 659 = .ok (.goto (-501), 3)) (by decide) ?_
  rfl
theorem b_282_662 {Z : mZ} {l0 l1 l3 l4 l5 l6 l7 l8 l9 : mV} {x2 : Int} {h : mH} : m_run Z (282, 662, [l0, l1, (0, x2), l3, l4, l5, l6, l7, l8, l9], [], h) = if w32 x2 = 0 then m_run Z (282, 677, [l0, l1, (0, x2), l3, l4, l5, l6, l7, l8, l9], [], h) else m_run Z (282, 666, [l0, l1, (0, x2), l3, l4, l5, l6, l7, l8, l9], [], h) := by
  refine g_iload_n (k := 2) (x := x2) (by decide +kernel : decode (m_byt 282) 662 = .ok (.iload_n 2, 1)) rfl ?_
  exact g_brq (t := 677) (off := 14) (by decide +kernel : decode (m_byt 282) 663 = .ok (.ifCond .eq 14, 3)) rfl rfl (by decide)
theorem b_282_666 {Z : mZ} {l0 l2 l3 l4 l5 l6 l7 l8 l9 : mV} {r1 : Nat} {h : mH} : m_run Z (282, 666, [l0, (2, ((r1 : Nat) : Int)), l2, l3, l4, l5, l6, l7, l8, l9], [], h) = (m_cl Z 274 [(2, ((r1 : Nat) : Int))] h).bind (m_aft (m_run Z) 282 667 [l0, (2, ((r1 : Nat) : Int)), l2, l3, l4, l5, l6, l7, l8, l9] []) := by
  refine g_aload_n (k := 1) (v := (2, ((r1 : Nat) : Int))) (by decide +kernel : decode (m_byt 282) 666 = .ok (.aload_n 1, 1)) rfl (Or.inl rfl) ?_
  exact g_inv (k := 0) (m' := 274) (np := 1) (as := [(2, ((r1 : Nat) : Int))]) (by decide +kernel : decode (m_byt 282) 667 = .ok (.invokestatic 205, 3)) (Or.inr (Or.inr ⟨rfl, rfl, by decide, by decide⟩)) (by decide +kernel) (by decide +kernel) (by decide +kernel) (Nat.le_of_ble_eq_true rfl) rfl (Or.inl rfl)
theorem b_282_670 {Z : mZ} {l0 l1 l2 l3 l4 l5 l6 l7 l8 l9 : mV} {s0 : Int} {h : mH} : m_run Z (282, 670, [l0, l1, l2, l3, l4, l5, l6, l7, l8, l9], [(0, s0)], h) = if w32 s0 = 0 then m_run Z (282, 677, [l0, l1, l2, l3, l4, l5, l6, l7, l8, l9], [], h) else m_run Z (282, 673, [l0, l1, l2, l3, l4, l5, l6, l7, l8, l9], [], h) := by
  exact g_brq (t := 677) (off := 7) (by decide +kernel : decode (m_byt 282) 670 = .ok (.ifCond .eq 7, 3)) rfl rfl (by decide)
theorem b_282_673 {Z : mZ} {l0 l1 l2 l3 l4 l5 l6 l7 l8 l9 : mV} {h : mH} : m_run Z (282, 673, [l0, l1, l2, l3, l4, l5, l6, l7, l8, l9], [], h) = some (.inl (0, 1), h) := by
  refine g_base (by decide +kernel : decode (m_byt 282) 673 = .ok (.iconst 1, 1)) rfl rfl ?_
  show m_run Z (282, 674, [l0, l1, l2, l3, l4, l5, l6, l7, l8, l9], [(0, 1)], h) = _
  refine g_jmp (t := 678) (by decide +kernel : decode (m_byt 282) 674 = .ok (.goto 4, 3)) (by decide) ?_
  exact g_zret (by decide +kernel : decode (m_byt 282) 678 = .ok (.ireturn, 1)) (by decide +kernel) (by decide)
theorem b_282_677 {Z : mZ} {l0 l1 l2 l3 l4 l5 l6 l7 l8 l9 : mV} {h : mH} : m_run Z (282, 677, [l0, l1, l2, l3, l4, l5, l6, l7, l8, l9], [], h) = m_run Z (282, 678, [l0, l1, l2, l3, l4, l5, l6, l7, l8, l9], [(0, 0)], h) := by
  refine g_base (by decide +kernel : decode (m_byt 282) 677 = .ok (.iconst 0, 1)) rfl rfl ?_
  show m_run Z (282, 678, [l0, l1, l2, l3, l4, l5, l6, l7, l8, l9], [(0, 0)], h) = _
  rfl
theorem b_282_678 {Z : mZ} {l0 l1 l2 l3 l4 l5 l6 l7 l8 l9 : mV} {s0 : Int} {h : mH} (h0 : w32 s0 = 0 ∨ w32 s0 = 1) : m_run Z (282, 678, [l0, l1, l2, l3, l4, l5, l6, l7, l8, l9], [(0, s0)], h) = some (.inl (0, s0), h) := by
  exact g_zret (by decide +kernel : decode (m_byt 282) 678 = .ok (.ireturn, 1)) (by decide +kernel) h0
end
