section
theorem e_51 {Z : mZ} {r0 : Nat} {h h' : mH} {v : mV} (hr : m_run Z (51, 0, [(2, ((r0 : Nat) : Int))], [], h) = some (.inl v, h')) : m_cl Z 51 [(2, ((r0 : Nat) : Int))] h = some (.inl v, h') := g_enti (k := 1) (by decide) (by decide +kernel) (Nat.le_of_ble_eq_true rfl) rfl hr
theorem b_51_0 {Z : mZ} {r0 : Nat} {K : Nat → mK} {σ : Nat → Nat → Int} {n s : Nat} (h0 : q_ob (m_up K n (1, 3, fun _ => -1)) (n + 1) n 3) : m_run Z (51, 0, [(2, ((r0 : Nat) : Int))], [], (K, σ, n, 0, s)) = (m_cl Z 43 [(2, ((n : Nat) : Int)), (0, 120)] ((m_up K n (1, 3, fun _ => -1)), (m_up σ n (fun _ => 0)), (n + 1), 0, s + 1)).bind (m_aft (m_run Z) 51 11 [(2, ((r0 : Nat) : Int))] [(2, ((n : Nat) : Int)), (2, ((r0 : Nat) : Int))]) := by
  refine g_aload_n (k := 0) (v := (2, ((r0 : Nat) : Int))) (by decide +kernel : decode (m_byt 51) 0 = .ok (.aload_n 0, 1)) rfl (Or.inl rfl) ?_
  refine g_obj (r := r0) (by decide +kernel : decode (m_byt 51) 1 = .ok (.invokespecial 3, 3)) (by decide +kernel) (by decide +kernel) (Nat.le_of_ble_eq_true rfl) ?_
  refine g_aload_n (k := 0) (v := (2, ((r0 : Nat) : Int))) (by decide +kernel : decode (m_byt 51) 4 = .ok (.aload_n 0, 1)) rfl (Or.inl rfl) ?_
  refine g_new (ci := 3) (by decide +kernel : decode (m_byt 51) 5 = .ok (.new 9, 3)) (by decide +kernel) (by decide) ?_
  show m_run Z (51, 8, [(2, ((r0 : Nat) : Int))], [(2, ((n : Nat) : Int)), (2, ((r0 : Nat) : Int))], ((m_up K n (1, 3, fun _ => -1)), (m_up σ n (fun _ => 0)), (n + 1), 0, s + 1)) = _
  refine g_base (by decide +kernel : decode (m_byt 51) 8 = .ok (.dup, 1)) rfl rfl ?_
  show m_run Z (51, 9, [(2, ((r0 : Nat) : Int))], [(2, ((n : Nat) : Int)), (2, ((n : Nat) : Int)), (2, ((r0 : Nat) : Int))], ((m_up K n (1, 3, fun _ => -1)), (m_up σ n (fun _ => 0)), (n + 1), 0, s + 1)) = _
  refine g_base (by decide +kernel : decode (m_byt 51) 9 = .ok (.bipush 120, 2)) rfl rfl ?_
  show m_run Z (51, 11, [(2, ((r0 : Nat) : Int))], [(0, 120), (2, ((n : Nat) : Int)), (2, ((n : Nat) : Int)), (2, ((r0 : Nat) : Int))], ((m_up K n (1, 3, fun _ => -1)), (m_up σ n (fun _ => 0)), (n + 1), 0, s + 1)) = _
  exact g_inv (k := 2) (m' := 43) (np := 1) (as := [(2, ((n : Nat) : Int)), (0, 120)]) (by decide +kernel : decode (m_byt 51) 11 = .ok (.invokespecial 11, 3)) (Or.inr (Or.inl ⟨rfl, rfl, by decide⟩)) (by decide +kernel) (by decide +kernel) (by decide +kernel) (Nat.le_of_ble_eq_true rfl) rfl (Or.inr (g_rcv (by decide +kernel) h0))
theorem b_51_14 {Z : mZ} {s0 s1 r0 : Nat} {K : Nat → mK} {σ : Nat → Nat → Int} {n s : Nat} (h0 : q_ob K n s1 4) (h1 : ((s0 : Nat) : Int) < ((n : Nat) : Int)) (h2 : q_ob (m_up (q_pf K s1 4 1 ((s0 : Nat) : Int)) n (1, 3, fun _ => -1)) (n + 1) n 3) : m_run Z (51, 14, [(2, ((r0 : Nat) : Int))], [(2, ((s0 : Nat) : Int)), (2, ((s1 : Nat) : Int))], (K, σ, n, 0, s)) = (m_cl Z 43 [(2, ((n : Nat) : Int)), (0, 3)] ((m_up (q_pf K s1 4 1 ((s0 : Nat) : Int)) n (1, 3, fun _ => -1)), (m_up σ n (fun _ => 0)), (n + 1), 0, s + 1)).bind (m_aft (m_run Z) 51 23 [(2, ((r0 : Nat) : Int))] [(2, ((n : Nat) : Int)), (2, ((r0 : Nat) : Int))]) := by
  refine g_putr (ci := 4) (f := 1) (by decide +kernel : decode (m_byt 51) 14 = .ok (.putfield 14, 3)) (by decide +kernel) (by decide +kernel) (by decide +kernel) (by decide +kernel) (by decide +kernel) h0 h1 ?_
  show m_run Z (51, 17, [(2, ((r0 : Nat) : Int))], [], ((q_pf K s1 4 1 ((s0 : Nat) : Int)), σ, n, 0, s)) = _
  refine g_aload_n (k := 0) (v := (2, ((r0 : Nat) : Int))) (by decide +kernel : decode (m_byt 51) 17 = .ok (.aload_n 0, 1)) rfl (Or.inl rfl) ?_
  refine g_new (ci := 3) (by decide +kernel : decode (m_byt 51) 18 = .ok (.new 9, 3)) (by decide +kernel) (by decide) ?_
  show m_run Z (51, 21, [(2, ((r0 : Nat) : Int))], [(2, ((n : Nat) : Int)), (2, ((r0 : Nat) : Int))], ((m_up (q_pf K s1 4 1 ((s0 : Nat) : Int)) n (1, 3, fun _ => -1)), (m_up σ n (fun _ => 0)), (n + 1), 0, s + 1)) = _
  refine g_base (by decide +kernel : decode (m_byt 51) 21 = .ok (.dup, 1)) rfl rfl ?_
  show m_run Z (51, 22, [(2, ((r0 : Nat) : Int))], [(2, ((n : Nat) : Int)), (2, ((n : Nat) : Int)), (2, ((r0 : Nat) : Int))], ((m_up (q_pf K s1 4 1 ((s0 : Nat) : Int)) n (1, 3, fun _ => -1)), (m_up σ n (fun _ => 0)), (n + 1), 0, s + 1)) = _
  refine g_base (by decide +kernel : decode (m_byt 51) 22 = .ok (.iconst 3, 1)) rfl rfl ?_
  show m_run Z (51, 23, [(2, ((r0 : Nat) : Int))], [(0, 3), (2, ((n : Nat) : Int)), (2, ((n : Nat) : Int)), (2, ((r0 : Nat) : Int))], ((m_up (q_pf K s1 4 1 ((s0 : Nat) : Int)) n (1, 3, fun _ => -1)), (m_up σ n (fun _ => 0)), (n + 1), 0, s + 1)) = _
  exact g_inv (k := 2) (m' := 43) (np := 1) (as := [(2, ((n : Nat) : Int)), (0, 3)]) (by decide +kernel : decode (m_byt 51) 23 = .ok (.invokespecial 11, 3)) (Or.inr (Or.inl ⟨rfl, rfl, by decide⟩)) (by decide +kernel) (by decide +kernel) (by decide +kernel) (Nat.le_of_ble_eq_true rfl) rfl (Or.inr (g_rcv (by decide +kernel) h2))
theorem b_51_26 {Z : mZ} {l0 : mV} {s0 s1 : Nat} {K : Nat → mK} {σ : Nat → Nat → Int} {n e s : Nat} (h0 : q_ob K n s1 4) (h1 : ((s0 : Nat) : Int) < ((n : Nat) : Int)) : m_run Z (51, 26, [l0], [(2, ((s0 : Nat) : Int)), (2, ((s1 : Nat) : Int))], (K, σ, n, e, s)) = some (.inl (9, 0), ((q_pf K s1 4 5 ((s0 : Nat) : Int)), σ, n, e, s)) := by
  refine g_putr (ci := 4) (f := 5) (by decide +kernel : decode (m_byt 51) 26 = .ok (.putfield 20, 3)) (by decide +kernel) (by decide +kernel) (by decide +kernel) (by decide +kernel) (by decide +kernel) h0 h1 ?_
  show m_run Z (51, 29, [l0], [], ((q_pf K s1 4 5 ((s0 : Nat) : Int)), σ, n, e, s)) = _
  exact g_vret (by decide +kernel : decode (m_byt 51) 29 = .ok (.return_, 1)) (by decide +kernel)
theorem e_52 {Z : mZ} {r0 : Nat} {x1 : Int} {h : mH} : m_cl Z 52 [(2, ((r0 : Nat) : Int)), (0, x1)] h = m_run Z (52, 0, [(2, ((r0 : Nat) : Int)), (0, x1)], [], h) := g_ent (k := 2) (by decide) (by decide +kernel) (Nat.le_of_ble_eq_true rfl) (by decide +kernel) rfl
theorem b_52_0 {Z : mZ} {x1 : Int} {r0 : Nat} {K : Nat → mK} {σ : Nat → Nat → Int} {n e s : Nat} (h0 : q_ob K n r0 4) (h1 : q_rp K r0 1) (h2 : q_ob K n (q_rf K r0 1) 3) : m_run Z (52, 0, [(2, ((r0 : Nat) : Int)), (0, x1)], [], (K, σ, n, e, s)) = (m_cl Z 45 [(2, ((q_rf K r0 1 : Nat) : Int)), (0, (σ r0 0)), (0, x1)] (K, σ, n, e, s)).bind (m_aft (m_run Z) 52 9 [(2, ((r0 : Nat) : Int)), (0, x1)] []) := by
  refine g_aload_n (k := 0) (v := (2, ((r0 : Nat) : Int))) (by decide +kernel : decode (m_byt 52) 0 = .ok (.aload_n 0, 1)) rfl (Or.inl rfl) ?_
  refine g_getr (ci := 4) (f := 1) (by decide +kernel : decode (m_byt 52) 1 = .ok (.getfield 14, 3)) (by decide +kernel) (by decide +kernel) (by decide +kernel) h0 h1 ?_
  refine g_aload_n (k := 0) (v := (2, ((r0 : Nat) : Int))) (by decide +kernel : decode (m_byt 52) 4 = .ok (.aload_n 0, 1)) rfl (Or.inl rfl) ?_
  refine g_getf (ci := 4) (f := 0) (by decide +kernel : decode (m_byt 52) 5 = .ok (.getfield 23, 3)) (by decide +kernel) (by decide +kernel) (by decide +kernel) h0 ?_
  refine g_iload_n (k := 1) (x := x1) (by decide +kernel : decode (m_byt 52) 8 = .ok (.iload_n 1, 1)) rfl ?_
  exact g_inv (k := 1) (m' := 45) (np := 2) (as := [(2, ((q_rf K r0 1 : Nat) : Int)), (0, (σ r0 0)), (0, x1)]) (by decide +kernel : decode (m_byt 52) 9 = .ok (.invokevirtual 27, 3)) (Or.inl ⟨rfl, rfl⟩) (by decide +kernel) (by decide +kernel) (by decide +kernel) (Nat.le_of_ble_eq_true rfl) rfl (Or.inr (g_rcv (by decide +kernel) h2))
theorem b_52_12 {Z : mZ} {l1 : mV} {r0 : Nat} {K : Nat → mK} {σ : Nat → Nat → Int} {n e s : Nat} (h0 : q_ob K n r0 4) : m_run Z (52, 12, [(2, ((r0 : Nat) : Int)), l1], [], (K, σ, n, e, s)) = some (.inl (9, 0), (K, (m_up2 σ r0 0 ((σ r0 0) + 1)), n, e, s)) := by
  refine g_aload_n (k := 0) (v := (2, ((r0 : Nat) : Int))) (by decide +kernel : decode (m_byt 52) 12 = .ok (.aload_n 0, 1)) rfl (Or.inl rfl) ?_
  refine g_base (by decide +kernel : decode (m_byt 52) 13 = .ok (.dup, 1)) rfl rfl ?_
  show m_run Z (52, 14, [(2, ((r0 : Nat) : Int)), l1], [(2, ((r0 : Nat) : Int)), (2, ((r0 : Nat) : Int))], (K, σ, n, e, s)) = _
  refine g_getf (ci := 4) (f := 0) (by decide +kernel : decode (m_byt 52) 14 = .ok (.getfield 23, 3)) (by decide +kernel) (by decide +kernel) (by decide +kernel) h0 ?_
  refine g_base (by decide +kernel : decode (m_byt 52) 17 = .ok (.iconst 1, 1)) rfl rfl ?_
  show m_run Z (52, 18, [(2, ((r0 : Nat) : Int)), l1], [(0, 1), (0, (σ r0 0)), (2, ((r0 : Nat) : Int))], (K, σ, n, e, s)) = _
  refine g_base (by decide +kernel : decode (m_byt 52) 18 = .ok (.iadd, 1)) rfl rfl ?_
  show m_run Z (52, 19, [(2, ((r0 : Nat) : Int)), l1], [(0, ((σ r0 0) + 1)), (2, ((r0 : Nat) : Int))], (K, σ, n, e, s)) = _
  refine g_putf (ci := 4) (f := 0) (by decide +kernel : decode (m_byt 52) 19 = .ok (.putfield 23, 3)) (by decide +kernel) (by decide +kernel) (by decide +kernel) h0 ?_
  show m_run Z (52, 22, [(2, ((r0 : Nat) : Int)), l1], [], (K, (m_up2 σ r0 0 ((σ r0 0) + 1)), n, e, s)) = _
  exact g_vret (by decide +kernel : decode (m_byt 52) 22 = .ok (.return_, 1)) (by decide +kernel)
theorem e_53 {Z : mZ} {r0 : Nat} {h : mH} : m_cl Z 53 [(2, ((r0 : Nat) : Int))] h = m_run Z (53, 0, [(2, ((r0 : Nat) : Int))], [], h) := g_ent (k := 1) (by decide) (by decide +kernel) (Nat.le_of_ble_eq_true rfl) (by decide +kernel) rfl
theorem b_53_0 {Z : mZ} {r0 : Nat} {K : Nat → mK} {σ : Nat → Nat → Int} {n e s : Nat} (h0 : q_ob K n r0 4) : m_run Z (53, 0, [(2, ((r0 : Nat) : Int))], [], (K, σ, n, e, s)) = some (.inl (9, 0), (K, (m_up2 σ r0 0 0), n, e, s)) := by
  refine g_aload_n (k := 0) (v := (2, ((r0 : Nat) : Int))) (by decide +kernel : decode (m_byt 53) 0 = .ok (.aload_n 0, 1)) rfl (Or.inl rfl) ?_
  refine g_base (by decide +kernel : decode (m_byt 53) 1 = .ok (.iconst 0, 1)) rfl rfl ?_
  show m_run Z (53, 2, [(2, ((r0 : Nat) : Int))], [(0, 0), (2, ((r0 : Nat) : Int))], (K, σ, n, e, s)) = _
  refine g_putf (ci := 4) (f := 0) (by decide +kernel : decode (m_byt 53) 2 = .ok (.putfield 23, 3)) (by decide +kernel) (by decide +kernel) (by decide +kernel) h0 ?_
  show m_run Z (53, 5, [(2, ((r0 : Nat) : Int))], [], (K, (m_up2 σ r0 0 0), n, e, s)) = _
  exact g_vret (by decide +kernel : decode (m_byt 53) 5 = .ok (.return_, 1)) (by decide +kernel)
theorem e_54 {Z : mZ} {r0 : Nat} {h : mH} : m_cl Z 54 [(2, ((r0 : Nat) : Int))] h = m_run Z (54, 0, [(2, ((r0 : Nat) : Int)), (9, 0)], [], h) := g_ent (k := 2) (by decide) (by decide +kernel) (Nat.le_of_ble_eq_true rfl) (by decide +kernel) rfl
theorem b_54_0 {Z : mZ} {l1 : mV} {r0 : Nat} {K : Nat → mK} {σ : Nat → Nat → Int} {n e s : Nat} (h0 : q_ob K n r0 4) : m_run Z (54, 0, [(2, ((r0 : Nat) : Int)), l1], [], (K, σ, n, e, s)) = (m_cl Z 55 [(2, ((r0 : Nat) : Int))] (K, σ, n, e, s)).bind (m_aft (m_run Z) 54 1 [(2, ((r0 : Nat) : Int)), l1] []) := by
  refine g_aload_n (k := 0) (v := (2, ((r0 : Nat) : Int))) (by decide +kernel : decode (m_byt 54) 0 = .ok (.aload_n 0, 1)) rfl (Or.inl rfl) ?_
  exact g_inv (k := 1) (m' := 55) (np := 0) (as := [(2, ((r0 : Nat) : Int))]) (by decide +kernel : decode (m_byt 54) 1 = .ok (.invokevirtual 31, 3)) (Or.inl ⟨rfl, rfl⟩) (by decide +kernel) (by decide +kernel) (by decide +kernel) (Nat.le_of_ble_eq_true rfl) rfl (Or.inr (g_rcv (by decide +kernel) h0))
theorem b_54_4 {Z : mZ} {l1 : mV} {r0 : Nat} {h : mH} : m_run Z (54, 4, [(2, ((r0 : Nat) : Int)), l1], [], h) = m_run Z (54, 6, [(2, ((r0 : Nat) : Int)), (0, 0)], [], h) := by
  refine g_base (by decide +kernel : decode (m_byt 54) 4 = .ok (.iconst 0, 1)) rfl rfl ?_
  show m_run Z (54, 5, [(2, ((r0 : Nat) : Int)), l1], [(0, 0)], h) = _
  refine g_istore_n (k := 1) (by decide +kernel : decode (m_byt 54) 5 = .ok (.istore_n 1, 1)) (Nat.le_of_ble_eq_true rfl) ?_
  show m_run Z (54, 6, [(2, ((r0 : Nat) : Int)), (0, 0)], [], h) = _
  rfl
theorem b_54_6 {Z : mZ} {l0 : mV} {x1 : Int} {h : mH} : m_run Z (54, 6, [l0, (0, x1)], [], h) = if w32 120 < w32 x1 then m_run Z (54, 37, [l0, (0, x1)], [], h) else m_run Z (54, 12, [l0, (0, x1)], [], h) := by
  refine g_iload_n (k := 1) (x := x1) (by decide +kernel : decode (m_byt 54) 6 = .ok (.iload_n 1, 1)) rfl ?_
  refine g_base (by decide +kernel : decode (m_byt 54) 7 = .ok (.bipush 120, 2)) rfl rfl ?_
  show m_run Z (54, 9, [l0, (0, x1)], [(0, 120), (0, x1)], h) = _
  exact g_brq (t := 37) (off := 28) (by decide +kernel : decode (m_byt 54) 9 = .ok (.if_icmp .gt 28, 3)) rfl rfl (by decide)
theorem b_54_12 {Z : mZ} {l1 : mV} {r0 : Nat} {K : Nat → mK} {σ : Nat → Nat → Int} {n e s : Nat} (h0 : q_ob K n r0 4) : m_run Z (54, 12, [(2, ((r0 : Nat) : Int)), l1], [], (K, σ, n, e, s)) = (m_cl Z 56 [(2, ((r0 : Nat) : Int))] (K, σ, n, e, s)).bind (m_aft (m_run Z) 54 13 [(2, ((r0 : Nat) : Int)), l1] []) := by
  refine g_aload_n (k := 0) (v := (2, ((r0 : Nat) : Int))) (by decide +kernel : decode (m_byt 54) 12 = .ok (.aload_n 0, 1)) rfl (Or.inl rfl) ?_
  exact g_inv (k := 1) (m' := 56) (np := 0) (as := [(2, ((r0 : Nat) : Int))]) (by decide +kernel : decode (m_byt 54) 13 = .ok (.invokevirtual 34, 3)) (Or.inl ⟨rfl, rfl⟩) (by decide +kernel) (by decide +kernel) (by decide +kernel) (Nat.le_of_ble_eq_true rfl) rfl (Or.inr (g_rcv (by decide +kernel) h0))
theorem b_54_16 {Z : mZ} {l0 l1 : mV} {s0 : Int} {h : mH} : m_run Z (54, 16, [l0, l1], [(0, s0)], h) = if w32 s0 = 0 then m_run Z (54, 37, [l0, l1], [], h) else m_run Z (54, 19, [l0, l1], [], h) := by
  exact g_brq (t := 37) (off := 21) (by decide +kernel : decode (m_byt 54) 16 = .ok (.ifCond .eq 21, 3)) rfl rfl (by decide)
theorem b_54_19 {Z : mZ} {l1 : mV} {r0 : Nat} {K : Nat → mK} {σ : Nat → Nat → Int} {n e s : Nat} (h0 : q_ob K n r0 4) : m_run Z (54, 19, [(2, ((r0 : Nat) : Int)), l1], [], (K, σ, n, e, s)) = (m_cl Z 61 [(2, ((r0 : Nat) : Int))] (K, σ, n, e, s)).bind (m_aft (m_run Z) 54 20 [(2, ((r0 : Nat) : Int)), l1] []) := by
  refine g_aload_n (k := 0) (v := (2, ((r0 : Nat) : Int))) (by decide +kernel : decode (m_byt 54) 19 = .ok (.aload_n 0, 1)) rfl (Or.inl rfl) ?_
  exact g_inv (k := 1) (m' := 61) (np := 0) (as := [(2, ((r0 : Nat) : Int))]) (by decide +kernel : decode (m_byt 54) 20 = .ok (.invokevirtual 38, 3)) (Or.inl ⟨rfl, rfl⟩) (by decide +kernel) (by decide +kernel) (by decide +kernel) (Nat.le_of_ble_eq_true rfl) rfl (Or.inr (g_rcv (by decide +kernel) h0))
theorem b_54_23 {Z : mZ} {l0 l1 : mV} {s0 : Int} {h : mH} : m_run Z (54, 23, [l0, l1], [(0, s0)], h) = if w32 s0 = 0 then m_run Z (54, 26, [l0, l1], [], h) else m_run Z (54, 31, [l0, l1], [], h) := by
  exact g_brn (t := 31) (off := 8) (by decide +kernel : decode (m_byt 54) 23 = .ok (.ifCond .ne 8, 3)) rfl rfl (by decide)
theorem b_54_26 {Z : mZ} {l1 : mV} {r0 : Nat} {K : Nat → mK} {σ : Nat → Nat → Int} {n e s : Nat} (h0 : q_ob K n r0 4) : m_run Z (54, 26, [(2, ((r0 : Nat) : Int)), l1], [], (K, σ, n, e, s)) = some (.inl (0, (σ r0 2)), (K, σ, n, e, s)) := by
  refine g_aload_n (k := 0) (v := (2, ((r0 : Nat) : Int))) (by decide +kernel : decode (m_byt 54) 26 = .ok (.aload_n 0, 1)) rfl (Or.inl rfl) ?_
  refine g_getf (ci := 4) (f := 2) (by decide +kernel : decode (m_byt 54) 27 = .ok (.getfield 41, 3)) (by decide +kernel) (by decide +kernel) (by decide +kernel) h0 ?_
  exact g_iret (by decide +kernel : decode (m_byt 54) 30 = .ok (.ireturn, 1)) (by decide +kernel)
theorem b_54_31 {Z : mZ} {x1 : Int} {r0 : Nat} {h : mH} : m_run Z (54, 31, [(2, ((r0 : Nat) : Int)), (0, x1)], [], h) = m_run Z (54, 6, [(2, ((r0 : Nat) : Int)), (0, x1 + 1)], [], h) := by
  refine g_iinc (k := 1) (x := x1) (by decide +kernel : decode (m_byt 54) 31 = .ok (.iinc 1 1, 3)) rfl (Nat.le_of_ble_eq_true rfl) ?_
  show m_run Z (54, 34, [(2, ((r0 : Nat) : Int)), (0, x1 + 1)], [], h) = _
  refine g_jmp (t := 6) (by decide +kernel : decode (m_byt 54) 34 = .ok (.goto (-28), 3)) (by decide) ?_
  rfl
theorem b_54_37 {Z : mZ} {l0 l1 : mV} {h : mH} : m_run Z (54, 37, [l0, l1], [], h) = some (.inl (0, (-1)), h) := by
  refine g_base (by decide +kernel : decode (m_byt 54) 37 = .ok (.iconst (-1), 1)) rfl rfl ?_
  show m_run Z (54, 38, [l0, l1], [(0, (-1))], h) = _
  exact g_iret (by decide +kernel : decode (m_byt 54) 38 = .ok (.ireturn, 1)) (by decide +kernel)
theorem e_55 {Z : mZ} {r0 : Nat} {h : mH} : m_cl Z 55 [(2, ((r0 : Nat) : Int))] h = m_run Z (55, 0, [(2, ((r0 : Nat) : Int))], [], h) := g_ent (k := 1) (by decide) (by decide +kernel) (Nat.le_of_ble_eq_true rfl) (by decide +kernel) rfl
theorem b_55_0 {Z : mZ} {r0 : Nat} {K : Nat → mK} {σ : Nat → Nat → Int} {n e s : Nat} (h0 : q_ob K n r0 4) : m_run Z (55, 0, [(2, ((r0 : Nat) : Int))], [], (K, σ, n, e, s)) = some (.inl (9, 0), (K, (m_up2 σ r0 2 0), n, e, s)) := by
  refine g_aload_n (k := 0) (v := (2, ((r0 : Nat) : Int))) (by decide +kernel : decode (m_byt 55) 0 = .ok (.aload_n 0, 1)) rfl (Or.inl rfl) ?_
  refine g_base (by decide +kernel : decode (m_byt 55) 1 = .ok (.iconst 0, 1)) rfl rfl ?_
  show m_run Z (55, 2, [(2, ((r0 : Nat) : Int))], [(0, 0), (2, ((r0 : Nat) : Int))], (K, σ, n, e, s)) = _
  refine g_putf (ci := 4) (f := 2) (by decide +kernel : decode (m_byt 55) 2 = .ok (.putfield 41, 3)) (by decide +kernel) (by decide +kernel) (by decide +kernel) h0 ?_
  show m_run Z (55, 5, [(2, ((r0 : Nat) : Int))], [], (K, (m_up2 σ r0 2 0), n, e, s)) = _
  exact g_vret (by decide +kernel : decode (m_byt 55) 5 = .ok (.return_, 1)) (by decide +kernel)
theorem e_56 {Z : mZ} {r0 : Nat} {h : mH} : m_cl Z 56 [(2, ((r0 : Nat) : Int))] h = m_run Z (56, 0, [(2, ((r0 : Nat) : Int))], [], h) := g_ent (k := 1) (by decide) (by decide +kernel) (Nat.le_of_ble_eq_true rfl) (by decide +kernel) rfl
theorem b_56_0 {Z : mZ} {r0 : Nat} {K : Nat → mK} {σ : Nat → Nat → Int} {n e s : Nat} (h0 : q_ob K n r0 4) : m_run Z (56, 0, [(2, ((r0 : Nat) : Int))], [], (K, σ, n, e, s)) = (m_cl Z 57 [(2, ((r0 : Nat) : Int))] (K, σ, n, e, s)).bind (m_aft (m_run Z) 56 1 [(2, ((r0 : Nat) : Int))] []) := by
  refine g_aload_n (k := 0) (v := (2, ((r0 : Nat) : Int))) (by decide +kernel : decode (m_byt 56) 0 = .ok (.aload_n 0, 1)) rfl (Or.inl rfl) ?_
  exact g_inv (k := 1) (m' := 57) (np := 0) (as := [(2, ((r0 : Nat) : Int))]) (by decide +kernel : decode (m_byt 56) 1 = .ok (.invokevirtual 44, 3)) (Or.inl ⟨rfl, rfl⟩) (by decide +kernel) (by decide +kernel) (by decide +kernel) (Nat.le_of_ble_eq_true rfl) rfl (Or.inr (g_rcv (by decide +kernel) h0))
theorem b_56_4 {Z : mZ} {r0 : Nat} {K : Nat → mK} {σ : Nat → Nat → Int} {n e s : Nat} (h0 : q_ob K n r0 4) : m_run Z (56, 4, [(2, ((r0 : Nat) : Int))], [], (K, σ, n, e, s)) = if w32 (σ r0 0) ≤ w32 (σ r0 2) then m_run Z (56, 19, [(2, ((r0 : Nat) : Int))], [], (K, σ, n, e, s)) else m_run Z (56, 15, [(2, ((r0 : Nat) : Int))], [], (K, σ, n, e, s)) := by
  refine g_aload_n (k := 0) (v := (2, ((r0 : Nat) : Int))) (by decide +kernel : decode (m_byt 56) 4 = .ok (.aload_n 0, 1)) rfl (Or.inl rfl) ?_
  refine g_getf (ci := 4) (f := 2) (by decide +kernel : decode (m_byt 56) 5 = .ok (.getfield 41, 3)) (by decide +kernel) (by decide +kernel) (by decide +kernel) h0 ?_
  refine g_aload_n (k := 0) (v := (2, ((r0 : Nat) : Int))) (by decide +kernel : decode (m_byt 56) 8 = .ok (.aload_n 0, 1)) rfl (Or.inl rfl) ?_
  refine g_getf (ci := 4) (f := 0) (by decide +kernel : decode (m_byt 56) 9 = .ok (.getfield 23, 3)) (by decide +kernel) (by decide +kernel) (by decide +kernel) h0 ?_
  exact g_brq (t := 19) (off := 7) (by decide +kernel : decode (m_byt 56) 12 = .ok (.if_icmp .ge 7, 3)) rfl rfl (by decide)
theorem b_56_15 {Z : mZ} {l0 : mV} {h : mH} : m_run Z (56, 15, [l0], [], h) = some (.inl (0, 1), h) := by
  refine g_base (by decide +kernel : decode (m_byt 56) 15 = .ok (.iconst 1, 1)) rfl rfl ?_
  show m_run Z (56, 16, [l0], [(0, 1)], h) = _
  refine g_jmp (t := 20) (by decide +kernel : decode (m_byt 56) 16 = .ok (.goto 4, 3)) (by decide) ?_
  exact g_zret (by decide +kernel : decode (m_byt 56) 20 = .ok (.ireturn, 1)) (by decide +kernel) (by decide)
theorem b_56_19 {Z : mZ} {l0 : mV} {h : mH} : m_run Z (56, 19, [l0], [], h) = m_run Z (56, 20, [l0], [(0, 0)], h) := by
  refine g_base (by decide +kernel : decode (m_byt 56) 19 = .ok (.iconst 0, 1)) rfl rfl ?_
  show m_run Z (56, 20, [l0], [(0, 0)], h) = _
  rfl
theorem b_56_20 {Z : mZ} {l0 : mV} {s0 : Int} {h : mH} (h0 : w32 s0 = 0 ∨ w32 s0 = 1) : m_run Z (56, 20, [l0], [(0, s0)], h) = some (.inl (0, s0), h) := by
  exact g_zret (by decide +kernel : decode (m_byt 56) 20 = .ok (.ireturn, 1)) (by decide +kernel) h0
theorem e_57 {Z : mZ} {r0 : Nat} {h : mH} : m_cl Z 57 [(2, ((r0 : Nat) : Int))] h = m_run Z (57, 0, [(2, ((r0 : Nat) : Int))], [], h) := g_ent (k := 1) (by decide) (by decide +kernel) (Nat.le_of_ble_eq_true rfl) (by decide +kernel) rfl
theorem b_57_0 {Z : mZ} {r0 : Nat} {K : Nat → mK} {σ : Nat → Nat → Int} {n e s : Nat} (h0 : q_ob K n r0 4) : m_run Z (57, 0, [(2, ((r0 : Nat) : Int))], [], (K, σ, n, e, s)) = if w32 (σ r0 0) ≤ w32 (σ r0 2) then m_run Z (57, 33, [(2, ((r0 : Nat) : Int))], [], (K, σ, n, e, s)) else m_run Z (57, 11, [(2, ((r0 : Nat) : Int))], [], (K, σ, n, e, s)) := by
  refine g_aload_n (k := 0) (v := (2, ((r0 : Nat) : Int))) (by decide +kernel : decode (m_byt 57) 0 = .ok (.aload_n 0, 1)) rfl (Or.inl rfl) ?_
  refine g_getf (ci := 4) (f := 2) (by decide +kernel : decode (m_byt 57) 1 = .ok (.getfield 41, 3)) (by decide +kernel) (by decide +kernel) (by decide +kernel) h0 ?_
  refine g_aload_n (k := 0) (v := (2, ((r0 : Nat) : Int))) (by decide +kernel : decode (m_byt 57) 4 = .ok (.aload_n 0, 1)) rfl (Or.inl rfl) ?_
  refine g_getf (ci := 4) (f := 0) (by decide +kernel : decode (m_byt 57) 5 = .ok (.getfield 23, 3)) (by decide +kernel) (by decide +kernel) (by decide +kernel) h0 ?_
  exact g_brq (t := 33) (off := 25) (by decide +kernel : decode (m_byt 57) 8 = .ok (.if_icmp .ge 25, 3)) rfl rfl (by decide)
theorem b_57_11 {Z : mZ} {r0 : Nat} {K : Nat → mK} {σ : Nat → Nat → Int} {n e s : Nat} (h0 : q_ob K n r0 4) : m_run Z (57, 11, [(2, ((r0 : Nat) : Int))], [], (K, σ, n, e, s)) = (m_cl Z 58 [(2, ((r0 : Nat) : Int))] (K, σ, n, e, s)).bind (m_aft (m_run Z) 57 12 [(2, ((r0 : Nat) : Int))] []) := by
  refine g_aload_n (k := 0) (v := (2, ((r0 : Nat) : Int))) (by decide +kernel : decode (m_byt 57) 11 = .ok (.aload_n 0, 1)) rfl (Or.inl rfl) ?_
  exact g_inv (k := 1) (m' := 58) (np := 0) (as := [(2, ((r0 : Nat) : Int))]) (by decide +kernel : decode (m_byt 57) 12 = .ok (.invokevirtual 47, 3)) (Or.inl ⟨rfl, rfl⟩) (by decide +kernel) (by decide +kernel) (by decide +kernel) (Nat.le_of_ble_eq_true rfl) rfl (Or.inr (g_rcv (by decide +kernel) h0))
theorem b_57_15 {Z : mZ} {l0 : mV} {s0 : Int} {h : mH} : m_run Z (57, 15, [l0], [(0, s0)], h) = if w32 s0 = w32 32 then m_run Z (57, 20, [l0], [], h) else m_run Z (57, 33, [l0], [], h) := by
  refine g_base (by decide +kernel : decode (m_byt 57) 15 = .ok (.bipush 32, 2)) rfl rfl ?_
  show m_run Z (57, 17, [l0], [(0, 32), (0, s0)], h) = _
  exact g_brn (t := 33) (off := 16) (by decide +kernel : decode (m_byt 57) 17 = .ok (.if_icmp .ne 16, 3)) rfl rfl (by decide)
theorem b_57_20 {Z : mZ} {r0 : Nat} {K : Nat → mK} {σ : Nat → Nat → Int} {n e s : Nat} (h0 : q_ob K n r0 4) : m_run Z (57, 20, [(2, ((r0 : Nat) : Int))], [], (K, σ, n, e, s)) = m_run Z (57, 0, [(2, ((r0 : Nat) : Int))], [], (K, (m_up2 σ r0 2 ((σ r0 2) + 1)), n, e, s)) := by
  refine g_aload_n (k := 0) (v := (2, ((r0 : Nat) : Int))) (by decide +kernel : decode (m_byt 57) 20 = .ok (.aload_n 0, 1)) rfl (Or.inl rfl) ?_
  refine g_base (by decide +kernel : decode (m_byt 57) 21 = .ok (.dup, 1)) rfl rfl ?_
  show m_run Z (57, 22, [(2, ((r0 : Nat) : Int))], [(2, ((r0 : Nat) : Int)), (2, ((r0 : Nat) : Int))], (K, σ, n, e, s)) = _
  refine g_getf (ci := 4) (f := 2) (by decide +kernel : decode (m_byt 57) 22 = .ok (.getfield 41, 3)) (by decide +kernel) (by decide +kernel) (by decide +kernel) h0 ?_
  refine g_base (by decide +kernel : decode (m_byt 57) 25 = .ok (.iconst 1, 1)) rfl rfl ?_
  show m_run Z (57, 26, [(2, ((r0 : Nat) : Int))], [(0, 1), (0, (σ r0 2)), (2, ((r0 : Nat) : Int))], (K, σ, n, e, s)) = _
  refine g_base (by decide +kernel : decode (m_byt 57) 26 = .ok (.iadd, 1)) rfl rfl ?_
  show m_run Z (57, 27, [(2, ((r0 : Nat) : Int))], [(0, ((σ r0 2) + 1)), (2, ((r0 : Nat) : Int))], (K, σ, n, e, s)) = _
  refine g_putf (ci := 4) (f := 2) (by decide +kernel : decode (m_byt 57) 27 = .ok (.putfield 41, 3)) (by decide +kernel) (by decide +kernel) (by decide +kernel) h0 ?_
  show m_run Z (57, 30, [(2, ((r0 : Nat) : Int))], [], (K, (m_up2 σ r0 2 ((σ r0 2) + 1)), n, e, s)) = _
  refine g_jmp (t := 0) (by decide +kernel : decode (m_byt 57) 30 = .ok (.goto (-30), 3)) (by decide) ?_
  rfl
theorem b_57_33 {Z : mZ} {l0 : mV} {h : mH} : m_run Z (57, 33, [l0], [], h) = some (.inl (9, 0), h) := by
  exact g_vret (by decide +kernel : decode (m_byt 57) 33 = .ok (.return_, 1)) (by decide +kernel)
theorem e_58 {Z : mZ} {r0 : Nat} {h : mH} : m_cl Z 58 [(2, ((r0 : Nat) : Int))] h = m_run Z (58, 0, [(2, ((r0 : Nat) : Int))], [], h) := g_ent (k := 1) (by decide) (by decide +kernel) (Nat.le_of_ble_eq_true rfl) (by decide +kernel) rfl
theorem b_58_0 {Z : mZ} {r0 : Nat} {K : Nat → mK} {σ : Nat → Nat → Int} {n e s : Nat} (h0 : q_ob K n r0 4) : m_run Z (58, 0, [(2, ((r0 : Nat) : Int))], [], (K, σ, n, e, s)) = if w32 (σ r0 0) ≤ w32 (σ r0 2) then m_run Z (58, 25, [(2, ((r0 : Nat) : Int))], [], (K, σ, n, e, s)) else m_run Z (58, 11, [(2, ((r0 : Nat) : Int))], [], (K, σ, n, e, s)) := by
  refine g_aload_n (k := 0) (v := (2, ((r0 : Nat) : Int))) (by decide +kernel : decode (m_byt 58) 0 = .ok (.aload_n 0, 1)) rfl (Or.inl rfl) ?_
  refine g_getf (ci := 4) (f := 2) (by decide +kernel : decode (m_byt 58) 1 = .ok (.getfield 41, 3)) (by decide +kernel) (by decide +kernel) (by decide +kernel) h0 ?_
  refine g_aload_n (k := 0) (v := (2, ((r0 : Nat) : Int))) (by decide +kernel : decode (m_byt 58) 4 = .ok (.aload_n 0, 1)) rfl (Or.inl rfl) ?_
  refine g_getf (ci := 4) (f := 0) (by decide +kernel : decode (m_byt 58) 5 = .ok (.getfield 23, 3)) (by decide +kernel) (by decide +kernel) (by decide +kernel) h0 ?_
  exact g_brq (t := 25) (off := 17) (by decide +kernel : decode (m_byt 58) 8 = .ok (.if_icmp .ge 17, 3)) rfl rfl (by decide)
theorem b_58_11 {Z : mZ} {r0 : Nat} {K : Nat → mK} {σ : Nat → Nat → Int} {n e s : Nat} (h0 : q_ob K n r0 4) (h1 : q_rp K r0 1) (h2 : q_ob K n (q_rf K r0 1) 3) : m_run Z (58, 11, [(2, ((r0 : Nat) : Int))], [], (K, σ, n, e, s)) = (m_cl Z 44 [(2, ((q_rf K r0 1 : Nat) : Int)), (0, (σ r0 2))] (K, σ, n, e, s)).bind (m_aft (m_run Z) 58 19 [(2, ((r0 : Nat) : Int))] []) := by
  refine g_aload_n (k := 0) (v := (2, ((r0 : Nat) : Int))) (by decide +kernel : decode (m_byt 58) 11 = .ok (.aload_n 0, 1)) rfl (Or.inl rfl) ?_
  refine g_getr (ci := 4) (f := 1) (by decide +kernel : decode (m_byt 58) 12 = .ok (.getfield 14, 3)) (by decide +kernel) (by decide +kernel) (by decide +kernel) h0 h1 ?_
  refine g_aload_n (k := 0) (v := (2, ((r0 : Nat) : Int))) (by decide +kernel : decode (m_byt 58) 15 = .ok (.aload_n 0, 1)) rfl (Or.inl rfl) ?_
  refine g_getf (ci := 4) (f := 2) (by decide +kernel : decode (m_byt 58) 16 = .ok (.getfield 41, 3)) (by decide +kernel) (by decide +kernel) (by decide +kernel) h0 ?_
  exact g_inv (k := 1) (m' := 44) (np := 1) (as := [(2, ((q_rf K r0 1 : Nat) : Int)), (0, (σ r0 2))]) (by decide +kernel : decode (m_byt 58) 19 = .ok (.invokevirtual 51, 3)) (Or.inl ⟨rfl, rfl⟩) (by decide +kernel) (by decide +kernel) (by decide +kernel) (Nat.le_of_ble_eq_true rfl) rfl (Or.inr (g_rcv (by decide +kernel) h2))
theorem b_58_22 {Z : mZ} {l0 : mV} {s0 : Int} {h : mH} : m_run Z (58, 22, [l0], [(0, s0)], h) = some (.inl (0, s0), h) := by
  refine g_jmp (t := 26) (by decide +kernel : decode (m_byt 58) 22 = .ok (.goto 4, 3)) (by decide) ?_
  exact g_iret (by decide +kernel : decode (m_byt 58) 26 = .ok (.ireturn, 1)) (by decide +kernel)
theorem b_58_25 {Z : mZ} {l0 : mV} {h : mH} : m_run Z (58, 25, [l0], [], h) = m_run Z (58, 26, [l0], [(0, 0)], h) := by
  refine g_base (by decide +kernel : decode (m_byt 58) 25 = .ok (.iconst 0, 1)) rfl rfl ?_
  show m_run Z (58, 26, [l0], [(0, 0)], h) = _
  rfl
theorem b_58_26 {Z : mZ} {l0 : mV} {s0 : Int} {h : mH} : m_run Z (58, 26, [l0], [(0, s0)], h) = some (.inl (0, s0), h) := by
  exact g_iret (by decide +kernel : decode (m_byt 58) 26 = .ok (.ireturn, 1)) (by decide +kernel)
theorem e_59 {Z : mZ} {r0 : Nat} {h : mH} : m_cl Z 59 [(2, ((r0 : Nat) : Int))] h = m_run Z (59, 0, [(2, ((r0 : Nat) : Int))], [], h) := g_ent (k := 1) (by decide) (by decide +kernel) (Nat.le_of_ble_eq_true rfl) (by decide +kernel) rfl
theorem b_59_0 {Z : mZ} {r0 : Nat} {K : Nat → mK} {σ : Nat → Nat → Int} {n e s : Nat} (h0 : q_ob K n r0 4) : m_run Z (59, 0, [(2, ((r0 : Nat) : Int))], [], (K, σ, n, e, s)) = (m_cl Z 58 [(2, ((r0 : Nat) : Int))] (K, σ, n, e, s)).bind (m_aft (m_run Z) 59 1 [(2, ((r0 : Nat) : Int))] []) := by
  refine g_aload_n (k := 0) (v := (2, ((r0 : Nat) : Int))) (by decide +kernel : decode (m_byt 59) 0 = .ok (.aload_n 0, 1)) rfl (Or.inl rfl) ?_
  exact g_inv (k := 1) (m' := 58) (np := 0) (as := [(2, ((r0 : Nat) : Int))]) (by decide +kernel : decode (m_byt 59) 1 = .ok (.invokevirtual 47, 3)) (Or.inl ⟨rfl, rfl⟩) (by decide +kernel) (by decide +kernel) (by decide +kernel) (Nat.le_of_ble_eq_true rfl) rfl (Or.inr (g_rcv (by decide +kernel) h0))
theorem b_59_4 {Z : mZ} {l0 : mV} {s0 : Int} {h : mH} : m_run Z (59, 4, [l0], [(0, s0)], h) = if w32 s0 < w32 48 then m_run Z (59, 22, [l0], [], h) else m_run Z (59, 9, [l0], [], h) := by
  refine g_base (by decide +kernel : decode (m_byt 59) 4 = .ok (.bipush 48, 2)) rfl rfl ?_
  show m_run Z (59, 6, [l0], [(0, 48), (0, s0)], h) = _
  exact g_brq (t := 22) (off := 16) (by decide +kernel : decode (m_byt 59) 6 = .ok (.if_icmp .lt 16, 3)) rfl rfl (by decide)
theorem b_59_9 {Z : mZ} {r0 : Nat} {K : Nat → mK} {σ : Nat → Nat → Int} {n e s : Nat} (h0 : q_ob K n r0 4) : m_run Z (59, 9, [(2, ((r0 : Nat) : Int))], [], (K, σ, n, e, s)) = (m_cl Z 58 [(2, ((r0 : Nat) : Int))] (K, σ, n, e, s)).bind (m_aft (m_run Z) 59 10 [(2, ((r0 : Nat) : Int))] []) := by
  refine g_aload_n (k := 0) (v := (2, ((r0 : Nat) : Int))) (by decide +kernel : decode (m_byt 59) 9 = .ok (.aload_n 0, 1)) rfl (Or.inl rfl) ?_
  exact g_inv (k := 1) (m' := 58) (np := 0) (as := [(2, ((r0 : Nat) : Int))]) (by decide +kernel : decode (m_byt 59) 10 = .ok (.invokevirtual 47, 3)) (Or.inl ⟨rfl, rfl⟩) (by decide +kernel) (by decide +kernel) (by decide +kernel) (Nat.le_of_ble_eq_true rfl) rfl (Or.inr (g_rcv (by decide +kernel) h0))
theorem b_59_13 {Z : mZ} {l0 : mV} {s0 : Int} {h : mH} : m_run Z (59, 13, [l0], [(0, s0)], h) = if w32 57 < w32 s0 then m_run Z (59, 22, [l0], [], h) else m_run Z (59, 18, [l0], [], h) := by
  refine g_base (by decide +kernel : decode (m_byt 59) 13 = .ok (.bipush 57, 2)) rfl rfl ?_
  show m_run Z (59, 15, [l0], [(0, 57), (0, s0)], h) = _
  exact g_brq (t := 22) (off := 7) (by decide +kernel : decode (m_byt 59) 15 = .ok (.if_icmp .gt 7, 3)) rfl rfl (by decide)
theorem b_59_18 {Z : mZ} {l0 : mV} {h : mH} : m_run Z (59, 18, [l0], [], h) = some (.inl (0, 1), h) := by
  refine g_base (by decide +kernel : decode (m_byt 59) 18 = .ok (.iconst 1, 1)) rfl rfl ?_
  show m_run Z (59, 19, [l0], [(0, 1)], h) = _
  refine g_jmp (t := 23) (by decide +kernel : decode (m_byt 59) 19 = .ok (.goto 4, 3)) (by decide) ?_
  exact g_zret (by decide +kernel : decode (m_byt 59) 23 = .ok (.ireturn, 1)) (by decide +kernel) (by decide)
theorem b_59_22 {Z : mZ} {l0 : mV} {h : mH} : m_run Z (59, 22, [l0], [], h) = m_run Z (59, 23, [l0], [(0, 0)], h) := by
  refine g_base (by decide +kernel : decode (m_byt 59) 22 = .ok (.iconst 0, 1)) rfl rfl ?_
  show m_run Z (59, 23, [l0], [(0, 0)], h) = _
  rfl
theorem b_59_23 {Z : mZ} {l0 : mV} {s0 : Int} {h : mH} (h0 : w32 s0 = 0 ∨ w32 s0 = 1) : m_run Z (59, 23, [l0], [(0, s0)], h) = some (.inl (0, s0), h) := by
  exact g_zret (by decide +kernel : decode (m_byt 59) 23 = .ok (.ireturn, 1)) (by decide +kernel) h0
theorem e_60 {Z : mZ} {r0 : Nat} {h : mH} : m_cl Z 60 [(2, ((r0 : Nat) : Int))] h = m_run Z (60, 0, [(2, ((r0 : Nat) : Int))], [], h) := g_ent (k := 1) (by decide) (by decide +kernel) (Nat.le_of_ble_eq_true rfl) (by decide +kernel) rfl
theorem b_60_0 {Z : mZ} {r0 : Nat} {K : Nat → mK} {σ : Nat → Nat → Int} {n e s : Nat} (h0 : q_ob K n r0 4) : m_run Z (60, 0, [(2, ((r0 : Nat) : Int))], [], (K, σ, n, e, s)) = (m_cl Z 58 [(2, ((r0 : Nat) : Int))] (K, σ, n, e, s)).bind (m_aft (m_run Z) 60 1 [(2, ((r0 : Nat) : Int))] []) := by
  refine g_aload_n (k := 0) (v := (2, ((r0 : Nat) : Int))) (by decide +kernel : decode (m_byt 60) 0 = .ok (.aload_n 0, 1)) rfl (Or.inl rfl) ?_
  exact g_inv (k := 1) (m' := 58) (np := 0) (as := [(2, ((r0 : Nat) : Int))]) (by decide +kernel : decode (m_byt 60) 1 = .ok (.invokevirtual 47, 3)) (Or.inl ⟨rfl, rfl⟩) (by decide +kernel) (by decide +kernel) (by decide +kernel) (Nat.le_of_ble_eq_true rfl) rfl (Or.inr (g_rcv (by decide +kernel) h0))
theorem b_60_4 {Z : mZ} {l0 : mV} {s0 : Int} {h : mH} : m_run Z (60, 4, [l0], [(0, s0)], h) = if w32 s0 = 118 then m_run Z (60, 35, [l0], [], h) else if w32 s0 = 119 then m_run Z (60, 32, [l0], [], h) else if w32 s0 = 120 then m_run Z (60, 38, [l0], [], h) else m_run Z (60, 41, [l0], [], h) := by
  refine g_swt (f := fun x => if x = 118 then 35 else if x = 119 then 32 else if x = 120 then 38 else 41) (by decide +kernel : decode (m_byt 60) 4 = .ok (.tableswitch 37 118 120 #[31, 28, 34], 28)) (fun x => ?_) ?_
  · by_cases k0 : x = 118
    · subst k0; rw [if_neg (by decide)]; exact ⟨31, rfl, rfl⟩
    by_cases k1 : x = 119
    · subst k1; rw [if_neg (by decide)]; exact ⟨28, rfl, rfl⟩
    by_cases k2 : x = 120
    · subst k2; rw [if_neg (by decide)]; exact ⟨34, rfl, rfl⟩
    rw [if_pos (by omega)]
    show _ = (((if x = 118 then 35 else if x = 119 then 32 else if x = 120 then 38 else 41 : Nat)) : Int)
    rw [if_neg k0, if_neg k1, if_neg k2]
    rfl
  · generalize w32 s0 = x
    by_cases k0 : x = 118
    · subst k0; rfl
    by_cases k1 : x = 119
    · subst k1; rfl
    by_cases k2 : x = 120
    · subst k2; rfl
    show m_run Z (60, (if x = 118 then 35 else if x = 119 then 32 else if x = 120 then 38 else 41), [l0], [], h) = _
    rw [if_neg k0, if_neg k1, if_neg k2, if_neg k0, if_neg k1, if_neg k2]
theorem b_60_32 {Z : mZ} {l0 : mV} {h : mH} : m_run Z (60, 32, [l0], [], h) = some (.inl (3, ((0 : Nat) : Int)), h) := by
  refine g_base (by decide +kernel : decode (m_byt 60) 32 = .ok (.ldc 55, 2)) rfl rfl ?_
  show m_run Z (60, 34, [l0], [(3, ((0 : Nat) : Int))], h) = _
  exact g_aret (t := 3) (by decide +kernel) (by decide +kernel : decode (m_byt 60) 34 = .ok (.areturn, 1))
theorem b_60_35 {Z : mZ} {l0 : mV} {h : mH} : m_run Z (60, 35, [l0], [], h) = some (.inl (3, ((1 : Nat) : Int)), h) := by
  refine g_base (by decide +kernel : decode (m_byt 60) 35 = .ok (.ldc 57, 2)) rfl rfl ?_
  show m_run Z (60, 37, [l0], [(3, ((1 : Nat) : Int))], h) = _
  exact g_aret (t := 3) (by decide +kernel) (by decide +kernel : decode (m_byt 60) 37 = .ok (.areturn, 1))
theorem b_60_38 {Z : mZ} {l0 : mV} {h : mH} : m_run Z (60, 38, [l0], [], h) = some (.inl (3, ((2 : Nat) : Int)), h) := by
  refine g_base (by decide +kernel : decode (m_byt 60) 38 = .ok (.ldc 59, 2)) rfl rfl ?_
  show m_run Z (60, 40, [l0], [(3, ((2 : Nat) : Int))], h) = _
  exact g_aret (t := 3) (by decide +kernel) (by decide +kernel : decode (m_byt 60) 40 = .ok (.areturn, 1))
theorem b_60_41 {Z : mZ} {r0 : Nat} {K : Nat → mK} {σ : Nat → Nat → Int} {n e s : Nat} (h0 : q_ob K n r0 4) : m_run Z (60, 41, [(2, ((r0 : Nat) : Int))], [], (K, σ, n, e, s)) = (m_cl Z 59 [(2, ((r0 : Nat) : Int))] (K, σ, n, e, s)).bind (m_aft (m_run Z) 60 42 [(2, ((r0 : Nat) : Int))] []) := by
  refine g_aload_n (k := 0) (v := (2, ((r0 : Nat) : Int))) (by decide +kernel : decode (m_byt 60) 41 = .ok (.aload_n 0, 1)) rfl (Or.inl rfl) ?_
  exact g_inv (k := 1) (m' := 59) (np := 0) (as := [(2, ((r0 : Nat) : Int))]) (by decide +kernel : decode (m_byt 60) 42 = .ok (.invokevirtual 61, 3)) (Or.inl ⟨rfl, rfl⟩) (by decide +kernel) (by decide +kernel) (by decide +kernel) (Nat.le_of_ble_eq_true rfl) rfl (Or.inr (g_rcv (by decide +kernel) h0))
theorem b_60_45 {Z : mZ} {l0 : mV} {s0 : Int} {h : mH} : m_run Z (60, 45, [l0], [(0, s0)], h) = if w32 s0 = 0 then m_run Z (60, 53, [l0], [], h) else m_run Z (60, 48, [l0], [], h) := by
  exact g_brq (t := 53) (off := 8) (by decide +kernel : decode (m_byt 60) 45 = .ok (.ifCond .eq 8, 3)) rfl rfl (by decide)
theorem b_60_48 {Z : mZ} {l0 : mV} {h : mH} : m_run Z (60, 48, [l0], [], h) = some (.inl (3, ((3 : Nat) : Int)), h) := by
  refine g_base (by decide +kernel : decode (m_byt 60) 48 = .ok (.ldc 64, 2)) rfl rfl ?_
  show m_run Z (60, 50, [l0], [(3, ((3 : Nat) : Int))], h) = _
  refine g_jmp (t := 55) (by decide +kernel : decode (m_byt 60) 50 = .ok (.goto 5, 3)) (by decide) ?_
  exact g_aret (t := 3) (by decide +kernel) (by decide +kernel : decode (m_byt 60) 55 = .ok (.areturn, 1))
theorem b_60_53 {Z : mZ} {l0 : mV} {h : mH} : m_run Z (60, 53, [l0], [], h) = m_run Z (60, 55, [l0], [(3, ((4 : Nat) : Int))], h) := by
  refine g_base (by decide +kernel : decode (m_byt 60) 53 = .ok (.ldc 66, 2)) rfl rfl ?_
  show m_run Z (60, 55, [l0], [(3, ((4 : Nat) : Int))], h) = _
  rfl
theorem b_60_55 {Z : mZ} {l0 : mV} {s0 : Nat} {h : mH} : m_run Z (60, 55, [l0], [(3, ((s0 : Nat) : Int))], h) = some (.inl (3, ((s0 : Nat) : Int)), h) := by
  exact g_aret (t := 3) (by decide +kernel) (by decide +kernel : decode (m_byt 60) 55 = .ok (.areturn, 1))
theorem e_61 {Z : mZ} {r0 : Nat} {h : mH} : m_cl Z 61 [(2, ((r0 : Nat) : Int))] h = m_run Z (61, 0, [(2, ((r0 : Nat) : Int)), (9, 0), (9, 0), (9, 0), (9, 0)], [], h) := g_ent (k := 5) (by decide) (by decide +kernel) (Nat.le_of_ble_eq_true rfl) (by decide +kernel) rfl
theorem b_61_0 {Z : mZ} {l1 l2 l3 l4 : mV} {r0 : Nat} {K : Nat → mK} {σ : Nat → Nat → Int} {n e s : Nat} (h0 : q_ob K n r0 4) : m_run Z (61, 0, [(2, ((r0 : Nat) : Int)), l1, l2, l3, l4], [], (K, σ, n, e, s)) = (m_cl Z 60 [(2, ((r0 : Nat) : Int))] (K, σ, n, e, s)).bind (m_aft (m_run Z) 61 1 [(2, ((r0 : Nat) : Int)), l1, l2, l3, l4] []) := by
  refine g_aload_n (k := 0) (v := (2, ((r0 : Nat) : Int))) (by decide +kernel : decode (m_byt 61) 0 = .ok (.aload_n 0, 1)) rfl (Or.inl rfl) ?_
  exact g_inv (k := 1) (m' := 60) (np := 0) (as := [(2, ((r0 : Nat) : Int))]) (by decide +kernel : decode (m_byt 61) 1 = .ok (.invokevirtual 68, 3)) (Or.inl ⟨rfl, rfl⟩) (by decide +kernel) (by decide +kernel) (by decide +kernel) (Nat.le_of_ble_eq_true rfl) rfl (Or.inr (g_rcv (by decide +kernel) h0))
theorem b_61_4 {Z : mZ} {l1 l2 l3 l4 : mV} {s0 r0 : Nat} {K : Nat → mK} {σ : Nat → Nat → Int} {n e s : Nat} (h0 : q_ob K n r0 4) (h1 : s0 < 5) : m_run Z (61, 4, [(2, ((r0 : Nat) : Int)), l1, l2, l3, l4], [(3, ((s0 : Nat) : Int))], (K, σ, n, e, s)) = (m_cl Z 1005 [(3, ((s0 : Nat) : Int))] (K, (m_up2 σ r0 4 0), n, e, s)).bind (m_aft (m_run Z) 61 11 [(2, ((r0 : Nat) : Int)), (3, ((s0 : Nat) : Int)), l2, l3, l4] []) := by
  refine g_astore_n (k := 1) (t := 3) (by decide) (by decide +kernel : decode (m_byt 61) 4 = .ok (.astore_n 1, 1)) (Nat.le_of_ble_eq_true rfl) ?_
  show m_run Z (61, 5, [(2, ((r0 : Nat) : Int)), (3, ((s0 : Nat) : Int)), l2, l3, l4], [], (K, σ, n, e, s)) = _
  refine g_aload_n (k := 0) (v := (2, ((r0 : Nat) : Int))) (by decide +kernel : decode (m_byt 61) 5 = .ok (.aload_n 0, 1)) rfl (Or.inl rfl) ?_
  refine g_base (by decide +kernel : decode (m_byt 61) 6 = .ok (.iconst 0, 1)) rfl rfl ?_
  show m_run Z (61, 7, [(2, ((r0 : Nat) : Int)), (3, ((s0 : Nat) : Int)), l2, l3, l4], [(0, 0), (2, ((r0 : Nat) : Int))], (K, σ, n, e, s)) = _
  refine g_putf (ci := 4) (f := 4) (by decide +kernel : decode (m_byt 61) 7 = .ok (.putfield 72, 3)) (by decide +kernel) (by decide +kernel) (by decide +kernel) h0 ?_
  show m_run Z (61, 10, [(2, ((r0 : Nat) : Int)), (3, ((s0 : Nat) : Int)), l2, l3, l4], [], (K, (m_up2 σ r0 4 0), n, e, s)) = _
  refine g_aload_n (k := 1) (v := (3, ((s0 : Nat) : Int))) (by decide +kernel : decode (m_byt 61) 10 = .ok (.aload_n 1, 1)) rfl (Or.inr (Or.inl rfl)) ?_
  exact g_inv (k := 1) (m' := 1005) (np := 0) (as := [(3, ((s0 : Nat) : Int))]) (by decide +kernel : decode (m_byt 61) 11 = .ok (.invokevirtual 75, 3)) (Or.inl ⟨rfl, rfl⟩) (by decide +kernel) (by decide +kernel) (by decide +kernel) (Nat.le_of_ble_eq_true rfl) rfl (Or.inr (decide_eq_true ⟨by decide, h1⟩))
theorem b_61_14 {Z : mZ} {l0 l1 l2 l3 l4 : mV} {s0 : Int} {h : mH} : m_run Z (61, 14, [l0, l1, l2, l3, l4], [(0, s0)], h) = if w32 s0 ≤ 0 then m_run Z (61, 21, [l0, l1, l2, l3, l4], [], h) else m_run Z (61, 17, [l0, l1, l2, l3, l4], [], h) := by
  exact g_brq (t := 21) (off := 7) (by decide +kernel : decode (m_byt 61) 14 = .ok (.ifCond .le 7, 3)) rfl rfl (by decide)
theorem b_61_17 {Z : mZ} {l0 l2 l3 l4 : mV} {r1 : Nat} {h : mH} : m_run Z (61, 17, [l0, (3, ((r1 : Nat) : Int)), l2, l3, l4], [], h) = m_run Z (61, 25, [l0, (3, ((r1 : Nat) : Int)), (0, 1), (0, 0), l4], [], h) := by
  refine g_base (by decide +kernel : decode (m_byt 61) 17 = .ok (.iconst 1, 1)) rfl rfl ?_
  show m_run Z (61, 18, [l0, (3, ((r1 : Nat) : Int)), l2, l3, l4], [(0, 1)], h) = _
  refine g_jmp (t := 22) (by decide +kernel : decode (m_byt 61) 18 = .ok (.goto 4, 3)) (by decide) ?_
  refine g_istore_n (k := 2) (by decide +kernel : decode (m_byt 61) 22 = .ok (.istore_n 2, 1)) (Nat.le_of_ble_eq_true rfl) ?_
  show m_run Z (61, 23, [l0, (3, ((r1 : Nat) : Int)), (0, 1), l3, l4], [], h) = _
  refine g_base (by decide +kernel : decode (m_byt 61) 23 = .ok (.iconst 0, 1)) rfl rfl ?_
  show m_run Z (61, 24, [l0, (3, ((r1 : Nat) : Int)), (0, 1), l3, l4], [(0, 0)], h) = _
  refine g_istore_n (k := 3) (by decide +kernel : decode (m_byt 61) 24 = .ok (.istore_n 3, 1)) (Nat.le_of_ble_eq_true rfl) ?_
  show m_run Z (61, 25, [l0, (3, ((r1 : Nat) : Int)), (0, 1), (0, 0), l4], [], h) = _
  rfl
theorem b_61_21 {Z : mZ} {l0 l1 l2 l3 l4 : mV} {h : mH} : m_run Z (61, 21, [l0, l1, l2, l3, l4], [], h) = m_run Z (61, 22, [l0, l1, l2, l3, l4], [(0, 0)], h) := by
  refine g_base (by decide +kernel : decode (m_byt 61) 21 = .ok (.iconst 0, 1)) rfl rfl ?_
  show m_run Z (61, 22, [l0, l1, l2, l3, l4], [(0, 0)], h) = _
  rfl
theorem b_61_22 {Z : mZ} {l0 l2 l3 l4 : mV} {s0 : Int} {r1 : Nat} {h : mH} : m_run Z (61, 22, [l0, (3, ((r1 : Nat) : Int)), l2, l3, l4], [(0, s0)], h) = m_run Z (61, 25, [l0, (3, ((r1 : Nat) : Int)), (0, s0), (0, 0), l4], [], h) := by
  refine g_istore_n (k := 2) (by decide +kernel : decode (m_byt 61) 22 = .ok (.istore_n 2, 1)) (Nat.le_of_ble_eq_true rfl) ?_
  show m_run Z (61, 23, [l0, (3, ((r1 : Nat) : Int)), (0, s0), l3, l4], [], h) = _
  refine g_base (by decide +kernel : decode (m_byt 61) 23 = .ok (.iconst 0, 1)) rfl rfl ?_
  show m_run Z (61, 24, [l0, (3, ((r1 : Nat) : Int)), (0, s0), l3, l4], [(0, 0)], h) = _
  refine g_istore_n (k := 3) (by decide +kernel : decode (m_byt 61) 24 = .ok (.istore_n 3, 1)) (Nat.le_of_ble_eq_true rfl) ?_
  show m_run Z (61, 25, [l0, (3, ((r1 : Nat) : Int)), (0, s0), (0, 0), l4], [], h) = _
  rfl
theorem b_61_25 {Z : mZ} {l0 l1 l3 l4 : mV} {x2 : Int} {h : mH} : m_run Z (61, 25, [l0, l1, (0, x2), l3, l4], [], h) = if w32 x2 = 0 then m_run Z (61, 92, [l0, l1, (0, x2), l3, l4], [], h) else m_run Z (61, 29, [l0, l1, (0, x2), l3, l4], [], h) := by
  refine g_iload_n (k := 2) (x := x2) (by decide +kernel : decode (m_byt 61) 25 = .ok (.iload_n 2, 1)) rfl ?_
  exact g_brq (t := 92) (off := 66) (by decide +kernel : decode (m_byt 61) 26 = .ok (.ifCond .eq 66, 3)) rfl rfl (by decide)
theorem b_61_29 {Z : mZ} {l0 l2 l4 : mV} {x3 : Int} {r1 : Nat} {h : mH} (h0 : r1 < 5) : m_run Z (61, 29, [l0, (3, ((r1 : Nat) : Int)), l2, (0, x3), l4], [], h) = (m_cl Z 1005 [(3, ((r1 : Nat) : Int))] h).bind (m_aft (m_run Z) 61 31 [l0, (3, ((r1 : Nat) : Int)), l2, (0, x3), l4] [(0, x3)]) := by
  refine g_iload_n (k := 3) (x := x3) (by decide +kernel : decode (m_byt 61) 29 = .ok (.iload_n 3, 1)) rfl ?_
  refine g_aload_n (k := 1) (v := (3, ((r1 : Nat) : Int))) (by decide +kernel : decode (m_byt 61) 30 = .ok (.aload_n 1, 1)) rfl (Or.inr (Or.inl rfl)) ?_
  exact g_inv (k := 1) (m' := 1005) (np := 0) (as := [(3, ((r1 : Nat) : Int))]) (by decide +kernel : decode (m_byt 61) 31 = .ok (.invokevirtual 75, 3)) (Or.inl ⟨rfl, rfl⟩) (by decide +kernel) (by decide +kernel) (by decide +kernel) (Nat.le_of_ble_eq_true rfl) rfl (Or.inr (decide_eq_true ⟨by decide, h0⟩))
theorem b_61_34 {Z : mZ} {l0 l1 l2 l3 l4 : mV} {s0 s1 : Int} {h : mH} : m_run Z (61, 34, [l0, l1, l2, l3, l4], [(0, s0), (0, s1)], h) = if w32 s0 ≤ w32 s1 then m_run Z (61, 92, [l0, l1, l2, l3, l4], [], h) else m_run Z (61, 37, [l0, l1, l2, l3, l4], [], h) := by
  exact g_brq (t := 92) (off := 58) (by decide +kernel : decode (m_byt 61) 34 = .ok (.if_icmp .ge 58, 3)) rfl rfl (by decide)
theorem b_61_37 {Z : mZ} {l0 l2 l4 : mV} {x3 : Int} {r1 : Nat} {h : mH} (h0 : r1 < 5) : m_run Z (61, 37, [l0, (3, ((r1 : Nat) : Int)), l2, (0, x3), l4], [], h) = (m_cl Z 1006 [(3, ((r1 : Nat) : Int)), (0, x3)] h).bind (m_aft (m_run Z) 61 39 [l0, (3, ((r1 : Nat) : Int)), l2, (0, x3), l4] []) := by
  refine g_aload_n (k := 1) (v := (3, ((r1 : Nat) : Int))) (by decide +kernel : decode (m_byt 61) 37 = .ok (.aload_n 1, 1)) rfl (Or.inr (Or.inl rfl)) ?_
  refine g_iload_n (k := 3) (x := x3) (by decide +kernel : decode (m_byt 61) 38 = .ok (.iload_n 3, 1)) rfl ?_
  exact g_inv (k := 1) (m' := 1006) (np := 1) (as := [(3, ((r1 : Nat) : Int)), (0, x3)]) (by decide +kernel : decode (m_byt 61) 39 = .ok (.invokevirtual 79, 3)) (Or.inl ⟨rfl, rfl⟩) (by decide +kernel) (by decide +kernel) (by decide +kernel) (Nat.le_of_ble_eq_true rfl) rfl (Or.inr (decide_eq_true ⟨by decide, h0⟩))
theorem b_61_42 {Z : mZ} {l1 l2 l4 : mV} {s0 x3 : Int} {r0 : Nat} {h : mH} : m_run Z (61, 42, [(2, ((r0 : Nat) : Int)), l1, l2, (0, x3), l4], [(0, s0)], h) = if w32 x3 = 0 then m_run Z (61, 49, [(2, ((r0 : Nat) : Int)), l1, l2, (0, x3), (0, s0)], [(2, ((r0 : Nat) : Int))], h) else m_run Z (61, 54, [(2, ((r0 : Nat) : Int)), l1, l2, (0, x3), (0, s0)], [(2, ((r0 : Nat) : Int))], h) := by
  refine g_istore (k := 4) (by decide +kernel : decode (m_byt 61) 42 = .ok (.istore 4, 2)) (Nat.le_of_ble_eq_true rfl) ?_
  show m_run Z (61, 44, [(2, ((r0 : Nat) : Int)), l1, l2, (0, x3), (0, s0)], [], h) = _
  refine g_aload_n (k := 0) (v := (2, ((r0 : Nat) : Int))) (by decide +kernel : decode (m_byt 61) 44 = .ok (.aload_n 0, 1)) rfl (Or.inl rfl) ?_
  refine g_iload_n (k := 3) (x := x3) (by decide +kernel : decode (m_byt 61) 45 = .ok (.iload_n 3, 1)) rfl ?_
  exact g_brn (t := 54) (off := 8) (by decide +kernel : decode (m_byt 61) 46 = .ok (.ifCond .ne 8, 3)) rfl rfl (by decide)
theorem b_61_49 {Z : mZ} {l1 l2 l3 : mV} {x4 : Int} {s0 r0 : Nat} {K : Nat → mK} {σ : Nat → Nat → Int} {n e s : Nat} (h0 : q_ob K n s0 4) (h1 : q_ob K n r0 4) : m_run Z (61, 49, [(2, ((r0 : Nat) : Int)), l1, l2, l3, (0, x4)], [(2, ((s0 : Nat) : Int))], (K, σ, n, e, s)) = (m_cl Z 57 [(2, ((r0 : Nat) : Int))] (K, (m_up2 σ s0 3 x4), n, e, s)).bind (m_aft (m_run Z) 61 62 [(2, ((r0 : Nat) : Int)), l1, l2, l3, (0, x4)] []) := by
  refine g_iload (k := 4) (x := x4) (by decide +kernel : decode (m_byt 61) 49 = .ok (.iload 4, 2)) rfl ?_
  refine g_jmp (t := 58) (by decide +kernel : decode (m_byt 61) 51 = .ok (.goto 7, 3)) (by decide) ?_
  refine g_putf (ci := 4) (f := 3) (by decide +kernel : decode (m_byt 61) 58 = .ok (.putfield 83, 3)) (by decide +kernel) (by decide +kernel) (by decide +kernel) h0 ?_
  show m_run Z (61, 61, [(2, ((r0 : Nat) : Int)), l1, l2, l3, (0, x4)], [], (K, (m_up2 σ s0 3 x4), n, e, s)) = _
  refine g_aload_n (k := 0) (v := (2, ((r0 : Nat) : Int))) (by decide +kernel : decode (m_byt 61) 61 = .ok (.aload_n 0, 1)) rfl (Or.inl rfl) ?_
  exact g_inv (k := 1) (m' := 57) (np := 0) (as := [(2, ((r0 : Nat) : Int))]) (by decide +kernel : decode (m_byt 61) 62 = .ok (.invokevirtual 44, 3)) (Or.inl ⟨rfl, rfl⟩) (by decide +kernel) (by decide +kernel) (by decide +kernel) (Nat.le_of_ble_eq_true rfl) rfl (Or.inr (g_rcv (by decide +kernel) h1))
theorem b_61_54 {Z : mZ} {l1 l2 l3 l4 : mV} {s0 r0 : Nat} {K : Nat → mK} {σ : Nat → Nat → Int} {n e s : Nat} (h0 : q_ob K n r0 4) : m_run Z (61, 54, [(2, ((r0 : Nat) : Int)), l1, l2, l3, l4], [(2, ((s0 : Nat) : Int))], (K, σ, n, e, s)) = m_run Z (61, 58, [(2, ((r0 : Nat) : Int)), l1, l2, l3, l4], [(0, (σ r0 3)), (2, ((s0 : Nat) : Int))], (K, σ, n, e, s)) := by
  refine g_aload_n (k := 0) (v := (2, ((r0 : Nat) : Int))) (by decide +kernel : decode (m_byt 61) 54 = .ok (.aload_n 0, 1)) rfl (Or.inl rfl) ?_
  refine g_getf (ci := 4) (f := 3) (by decide +kernel : decode (m_byt 61) 55 = .ok (.getfield 83, 3)) (by decide +kernel) (by decide +kernel) (by decide +kernel) h0 ?_
  rfl
theorem b_61_58 {Z : mZ} {l1 l2 l3 l4 : mV} {s0 : Int} {s1 r0 : Nat} {K : Nat → mK} {σ : Nat → Nat → Int} {n e s : Nat} (h0 : q_ob K n s1 4) (h1 : q_ob K n r0 4) : m_run Z (61, 58, [(2, ((r0 : Nat) : Int)), l1, l2, l3, l4], [(0, s0), (2, ((s1 : Nat) : Int))], (K, σ, n, e, s)) = (m_cl Z 57 [(2, ((r0 : Nat) : Int))] (K, (m_up2 σ s1 3 s0), n, e, s)).bind (m_aft (m_run Z) 61 62 [(2, ((r0 : Nat) : Int)), l1, l2, l3, l4] []) := by
  refine g_putf (ci := 4) (f := 3) (by decide +kernel : decode (m_byt 61) 58 = .ok (.putfield 83, 3)) (by decide +kernel) (by decide +kernel) (by decide +kernel) h0 ?_
  show m_run Z (61, 61, [(2, ((r0 : Nat) : Int)), l1, l2, l3, l4], [], (K, (m_up2 σ s1 3 s0), n, e, s)) = _
  refine g_aload_n (k := 0) (v := (2, ((r0 : Nat) : Int))) (by decide +kernel : decode (m_byt 61) 61 = .ok (.aload_n 0, 1)) rfl (Or.inl rfl) ?_
  exact g_inv (k := 1) (m' := 57) (np := 0) (as := [(2, ((r0 : Nat) : Int))]) (by decide +kernel : decode (m_byt 61) 62 = .ok (.invokevirtual 44, 3)) (Or.inl ⟨rfl, rfl⟩) (by decide +kernel) (by decide +kernel) (by decide +kernel) (Nat.le_of_ble_eq_true rfl) rfl (Or.inr (g_rcv (by decide +kernel) h1))
theorem b_61_65 {Z : mZ} {l0 l1 l2 l3 : mV} {x4 : Int} {h : mH} : m_run Z (61, 65, [l0, l1, l2, l3, (0, x4)], [], h) = if w32 x4 = w32 35 then m_run Z (61, 72, [l0, l1, l2, l3, (0, x4)], [], h) else m_run Z (61, 79, [l0, l1, l2, l3, (0, x4)], [], h) := by
  refine g_iload (k := 4) (x := x4) (by decide +kernel : decode (m_byt 61) 65 = .ok (.iload 4, 2)) rfl ?_
  refine g_base (by decide +kernel : decode (m_byt 61) 67 = .ok (.bipush 35, 2)) rfl rfl ?_
  show m_run Z (61, 69, [l0, l1, l2, l3, (0, x4)], [(0, 35), (0, x4)], h) = _
  exact g_brn (t := 79) (off := 10) (by decide +kernel : decode (m_byt 61) 69 = .ok (.if_icmp .ne 10, 3)) rfl rfl (by decide)
theorem b_61_72 {Z : mZ} {l1 l2 l3 l4 : mV} {r0 : Nat} {K : Nat → mK} {σ : Nat → Nat → Int} {n e s : Nat} (h0 : q_ob K n r0 4) : m_run Z (61, 72, [(2, ((r0 : Nat) : Int)), l1, l2, l3, l4], [], (K, σ, n, e, s)) = (m_cl Z 63 [(2, ((r0 : Nat) : Int))] (K, σ, n, e, s)).bind (m_aft (m_run Z) 61 73 [(2, ((r0 : Nat) : Int)), l1, l2, l3, l4] []) := by
  refine g_aload_n (k := 0) (v := (2, ((r0 : Nat) : Int))) (by decide +kernel : decode (m_byt 61) 72 = .ok (.aload_n 0, 1)) rfl (Or.inl rfl) ?_
  exact g_inv (k := 1) (m' := 63) (np := 0) (as := [(2, ((r0 : Nat) : Int))]) (by decide +kernel : decode (m_byt 61) 73 = .ok (.invokevirtual 86, 3)) (Or.inl ⟨rfl, rfl⟩) (by decide +kernel) (by decide +kernel) (by decide +kernel) (Nat.le_of_ble_eq_true rfl) rfl (Or.inr (g_rcv (by decide +kernel) h0))
theorem b_61_76 {Z : mZ} {l0 l2 l4 : mV} {s0 x3 : Int} {r1 : Nat} {h : mH} : m_run Z (61, 76, [l0, (3, ((r1 : Nat) : Int)), l2, (0, x3), l4], [(0, s0)], h) = m_run Z (61, 25, [l0, (3, ((r1 : Nat) : Int)), (0, s0), (0, x3 + 1), l4], [], h) := by
  refine g_jmp (t := 85) (by decide +kernel : decode (m_byt 61) 76 = .ok (.goto 9, 3)) (by decide) ?_
  refine g_istore_n (k := 2) (by decide +kernel : decode (m_byt 61) 85 = .ok (.istore_n 2, 1)) (Nat.le_of_ble_eq_true rfl) ?_
  show m_run Z (61, 86, [l0, (3, ((r1 : Nat) : Int)), (0, s0), (0, x3), l4], [], h) = _
  refine g_iinc (k := 3) (x := x3) (by decide +kernel : decode (m_byt 61) 86 = .ok (.iinc 3 1, 3)) rfl (Nat.le_of_ble_eq_true rfl) ?_
  show m_run Z (61, 89, [l0, (3, ((r1 : Nat) : Int)), (0, s0), (0, x3 + 1), l4], [], h) = _
  refine g_jmp (t := 25) (by decide +kernel : decode (m_byt 61) 89 = .ok (.goto (-64), 3)) (by decide) ?_
  rfl
theorem b_61_79 {Z : mZ} {l1 l2 l3 : mV} {x4 : Int} {r0 : Nat} {K : Nat → mK} {σ : Nat → Nat → Int} {n e s : Nat} (h0 : q_ob K n r0 4) : m_run Z (61, 79, [(2, ((r0 : Nat) : Int)), l1, l2, l3, (0, x4)], [], (K, σ, n, e, s)) = (m_cl Z 62 [(2, ((r0 : Nat) : Int)), (0, x4)] (K, σ, n, e, s)).bind (m_aft (m_run Z) 61 82 [(2, ((r0 : Nat) : Int)), l1, l2, l3, (0, x4)] []) := by
  refine g_aload_n (k := 0) (v := (2, ((r0 : Nat) : Int))) (by decide +kernel : decode (m_byt 61) 79 = .ok (.aload_n 0, 1)) rfl (Or.inl rfl) ?_
  refine g_iload (k := 4) (x := x4) (by decide +kernel : decode (m_byt 61) 80 = .ok (.iload 4, 2)) rfl ?_
  exact g_inv (k := 1) (m' := 62) (np := 1) (as := [(2, ((r0 : Nat) : Int)), (0, x4)]) (by decide +kernel : decode (m_byt 61) 82 = .ok (.invokevirtual 89, 3)) (Or.inl ⟨rfl, rfl⟩) (by decide +kernel) (by decide +kernel) (by decide +kernel) (Nat.le_of_ble_eq_true rfl) rfl (Or.inr (g_rcv (by decide +kernel) h0))
theorem b_61_85 {Z : mZ} {l0 l2 l4 : mV} {s0 x3 : Int} {r1 : Nat} {h : mH} : m_run Z (61, 85, [l0, (3, ((r1 : Nat) : Int)), l2, (0, x3), l4], [(0, s0)], h) = m_run Z (61, 25, [l0, (3, ((r1 : Nat) : Int)), (0, s0), (0, x3 + 1), l4], [], h) := by
  refine g_istore_n (k := 2) (by decide +kernel : decode (m_byt 61) 85 = .ok (.istore_n 2, 1)) (Nat.le_of_ble_eq_true rfl) ?_
  show m_run Z (61, 86, [l0, (3, ((r1 : Nat) : Int)), (0, s0), (0, x3), l4], [], h) = _
  refine g_iinc (k := 3) (x := x3) (by decide +kernel : decode (m_byt 61) 86 = .ok (.iinc 3 1, 3)) rfl (Nat.le_of_ble_eq_true rfl) ?_
  show m_run Z (61, 89, [l0, (3, ((r1 : Nat) : Int)), (0, s0), (0, x3 + 1), l4], [], h) = _
  refine g_jmp (t := 25) (by decide +kernel : decode (m_byt 61) 89 = .ok (.goto (-64), 3)) (by decide) ?_
  rfl
theorem b_61_92 {Z : mZ} {l0 l1 l3 l4 : mV} {x2 : Int} {h : mH} (h0 : w32 x2 = 0 ∨ w32 x2 = 1) : m_run Z (61, 92, [l0, l1, (0, x2), l3, l4], [], h) = some (.inl (0, x2), h) := by
  refine g_iload_n (k := 2) (x := x2) (by decide +kernel : decode (m_byt 61) 92 = .ok (.iload_n 2, 1)) rfl ?_
  exact g_zret (by decide +kernel : decode (m_byt 61) 93 = .ok (.ireturn, 1)) (by decide +kernel) h0
theorem e_62 {Z : mZ} {r0 : Nat} {x1 : Int} {h : mH} : m_cl Z 62 [(2, ((r0 : Nat) : Int)), (0, x1)] h = m_run Z (62, 0, [(2, ((r0 : Nat) : Int)), (0, x1), (9, 0)], [], h) := g_ent (k := 3) (by decide) (by decide +kernel) (Nat.le_of_ble_eq_true rfl) (by decide +kernel) rfl
theorem b_62_0 {Z : mZ} {l1 l2 : mV} {r0 : Nat} {K : Nat → mK} {σ : Nat → Nat → Int} {n e s : Nat} (h0 : q_ob K n r0 4) : m_run Z (62, 0, [(2, ((r0 : Nat) : Int)), l1, l2], [], (K, σ, n, e, s)) = (m_cl Z 58 [(2, ((r0 : Nat) : Int))] (K, σ, n, e, s)).bind (m_aft (m_run Z) 62 1 [(2, ((r0 : Nat) : Int)), l1, l2] []) := by
  refine g_aload_n (k := 0) (v := (2, ((r0 : Nat) : Int))) (by decide +kernel : decode (m_byt 62) 0 = .ok (.aload_n 0, 1)) rfl (Or.inl rfl) ?_
  exact g_inv (k := 1) (m' := 58) (np := 0) (as := [(2, ((r0 : Nat) : Int))]) (by decide +kernel : decode (m_byt 62) 1 = .ok (.invokevirtual 47, 3)) (Or.inl ⟨rfl, rfl⟩) (by decide +kernel) (by decide +kernel) (by decide +kernel) (Nat.le_of_ble_eq_true rfl) rfl (Or.inr (g_rcv (by decide +kernel) h0))
theorem b_62_4 {Z : mZ} {l0 l2 : mV} {s0 x1 : Int} {h : mH} : m_run Z (62, 4, [l0, (0, x1), l2], [(0, s0)], h) = if w32 s0 = w32 x1 then m_run Z (62, 8, [l0, (0, x1), l2], [], h) else m_run Z (62, 12, [l0, (0, x1), l2], [], h) := by
  refine g_iload_n (k := 1) (x := x1) (by decide +kernel : decode (m_byt 62) 4 = .ok (.iload_n 1, 1)) rfl ?_
  exact g_brn (t := 12) (off := 7) (by decide +kernel : decode (m_byt 62) 5 = .ok (.if_icmp .ne 7, 3)) rfl rfl (by decide)
theorem b_62_8 {Z : mZ} {l2 : mV} {x1 : Int} {r0 : Nat} {K : Nat → mK} {σ : Nat → Nat → Int} {n e s : Nat} (h0 : q_ob K n r0 4) : m_run Z (62, 8, [(2, ((r0 : Nat) : Int)), (0, x1), l2], [], (K, σ, n, e, s)) = if w32 1 = 0 then m_run Z (62, 27, [(2, ((r0 : Nat) : Int)), (0, x1), (0, 1)], [(0, (σ r0 2)), (2, ((r0 : Nat) : Int))], (K, σ, n, e, s)) else m_run Z (62, 23, [(2, ((r0 : Nat) : Int)), (0, x1), (0, 1)], [(0, (σ r0 2)), (2, ((r0 : Nat) : Int))], (K, σ, n, e, s)) := by
  refine g_base (by decide +kernel : decode (m_byt 62) 8 = .ok (.iconst 1, 1)) rfl rfl ?_
  show m_run Z (62, 9, [(2, ((r0 : Nat) : Int)), (0, x1), l2], [(0, 1)], (K, σ, n, e, s)) = _
  refine g_jmp (t := 13) (by decide +kernel : decode (m_byt 62) 9 = .ok (.goto 4, 3)) (by decide) ?_
  refine g_istore_n (k := 2) (by decide +kernel : decode (m_byt 62) 13 = .ok (.istore_n 2, 1)) (Nat.le_of_ble_eq_true rfl) ?_
  show m_run Z (62, 14, [(2, ((r0 : Nat) : Int)), (0, x1), (0, 1)], [], (K, σ, n, e, s)) = _
  refine g_aload_n (k := 0) (v := (2, ((r0 : Nat) : Int))) (by decide +kernel : decode (m_byt 62) 14 = .ok (.aload_n 0, 1)) rfl (Or.inl rfl) ?_
  refine g_base (by decide +kernel : decode (m_byt 62) 15 = .ok (.dup, 1)) rfl rfl ?_
  show m_run Z (62, 16, [(2, ((r0 : Nat) : Int)), (0, x1), (0, 1)], [(2, ((r0 : Nat) : Int)), (2, ((r0 : Nat) : Int))], (K, σ, n, e, s)) = _
  refine g_getf (ci := 4) (f := 2) (by decide +kernel : decode (m_byt 62) 16 = .ok (.getfield 41, 3)) (by decide +kernel) (by decide +kernel) (by decide +kernel) h0 ?_
  refine g_iload_n (k := 2) (x := 1) (by decide +kernel : decode (m_byt 62) 19 = .ok (.iload_n 2, 1)) rfl ?_
  exact g_brq (t := 27) (off := 7) (by decide +kernel : decode (m_byt 62) 20 = .ok (.ifCond .eq 7, 3)) rfl rfl (by decide)
theorem b_62_12 {Z : mZ} {l0 l1 l2 : mV} {h : mH} : m_run Z (62, 12, [l0, l1, l2], [], h) = m_run Z (62, 13, [l0, l1, l2], [(0, 0)], h) := by
  refine g_base (by decide +kernel : decode (m_byt 62) 12 = .ok (.iconst 0, 1)) rfl rfl ?_
  show m_run Z (62, 13, [l0, l1, l2], [(0, 0)], h) = _
  rfl
theorem b_62_13 {Z : mZ} {l2 : mV} {s0 x1 : Int} {r0 : Nat} {K : Nat → mK} {σ : Nat → Nat → Int} {n e s : Nat} (h0 : q_ob K n r0 4) : m_run Z (62, 13, [(2, ((r0 : Nat) : Int)), (0, x1), l2], [(0, s0)], (K, σ, n, e, s)) = if w32 s0 = 0 then m_run Z (62, 27, [(2, ((r0 : Nat) : Int)), (0, x1), (0, s0)], [(0, (σ r0 2)), (2, ((r0 : Nat) : Int))], (K, σ, n, e, s)) else m_run Z (62, 23, [(2, ((r0 : Nat) : Int)), (0, x1), (0, s0)], [(0, (σ r0 2)), (2, ((r0 : Nat) : Int))], (K, σ, n, e, s)) := by
  refine g_istore_n (k := 2) (by decide +kernel : decode (m_byt 62) 13 = .ok (.istore_n 2, 1)) (Nat.le_of_ble_eq_true rfl) ?_
  show m_run Z (62, 14, [(2, ((r0 : Nat) : Int)), (0, x1), (0, s0)], [], (K, σ, n, e, s)) = _
  refine g_aload_n (k := 0) (v := (2, ((r0 : Nat) : Int))) (by decide +kernel : decode (m_byt 62) 14 = .ok (.aload_n 0, 1)) rfl (Or.inl rfl) ?_
  refine g_base (by decide +kernel : decode (m_byt 62) 15 = .ok (.dup, 1)) rfl rfl ?_
  show m_run Z (62, 16, [(2, ((r0 : Nat) : Int)), (0, x1), (0, s0)], [(2, ((r0 : Nat) : Int)), (2, ((r0 : Nat) : Int))], (K, σ, n, e, s)) = _
  refine g_getf (ci := 4) (f := 2) (by decide +kernel : decode (m_byt 62) 16 = .ok (.getfield 41, 3)) (by decide +kernel) (by decide +kernel) (by decide +kernel) h0 ?_
  refine g_iload_n (k := 2) (x := s0) (by decide +kernel : decode (m_byt 62) 19 = .ok (.iload_n 2, 1)) rfl ?_
  exact g_brq (t := 27) (off := 7) (by decide +kernel : decode (m_byt 62) 20 = .ok (.ifCond .eq 7, 3)) rfl rfl (by decide)
theorem b_62_23 {Z : mZ} {l0 l1 : mV} {s0 x2 : Int} {s1 : Nat} {K : Nat → mK} {σ : Nat → Nat → Int} {n e s : Nat} (h0 : q_ob K n s1 4) (h1 : w32 x2 = 0 ∨ w32 x2 = 1) : m_run Z (62, 23, [l0, l1, (0, x2)], [(0, s0), (2, ((s1 : Nat) : Int))], (K, σ, n, e, s)) = some (.inl (0, x2), (K, (m_up2 σ s1 2 (s0 + 1)), n, e, s)) := by
  refine g_base (by decide +kernel : decode (m_byt 62) 23 = .ok (.iconst 1, 1)) rfl rfl ?_
  show m_run Z (62, 24, [l0, l1, (0, x2)], [(0, 1), (0, s0), (2, ((s1 : Nat) : Int))], (K, σ, n, e, s)) = _
  refine g_jmp (t := 28) (by decide +kernel : decode (m_byt 62) 24 = .ok (.goto 4, 3)) (by decide) ?_
  refine g_base (by decide +kernel : decode (m_byt 62) 28 = .ok (.iadd, 1)) rfl rfl ?_
  show m_run Z (62, 29, [l0, l1, (0, x2)], [(0, (s0 + 1)), (2, ((s1 : Nat) : Int))], (K, σ, n, e, s)) = _
  refine g_putf (ci := 4) (f := 2) (by decide +kernel : decode (m_byt 62) 29 = .ok (.putfield 41, 3)) (by decide +kernel) (by decide +kernel) (by decide +kernel) h0 ?_
  show m_run Z (62, 32, [l0, l1, (0, x2)], [], (K, (m_up2 σ s1 2 (s0 + 1)), n, e, s)) = _
  refine g_iload_n (k := 2) (x := x2) (by decide +kernel : decode (m_byt 62) 32 = .ok (.iload_n 2, 1)) rfl ?_
  exact g_zret (by decide +kernel : decode (m_byt 62) 33 = .ok (.ireturn, 1)) (by decide +kernel) h1
theorem b_62_27 {Z : mZ} {l0 l1 l2 : mV} {s0 : Int} {s1 : Nat} {h : mH} : m_run Z (62, 27, [l0, l1, l2], [(0, s0), (2, ((s1 : Nat) : Int))], h) = m_run Z (62, 28, [l0, l1, l2], [(0, 0), (0, s0), (2, ((s1 : Nat) : Int))], h) := by
  refine g_base (by decide +kernel : decode (m_byt 62) 27 = .ok (.iconst 0, 1)) rfl rfl ?_
  show m_run Z (62, 28, [l0, l1, l2], [(0, 0), (0, s0), (2, ((s1 : Nat) : Int))], h) = _
  rfl
theorem b_62_28 {Z : mZ} {l0 l1 : mV} {s0 s1 x2 : Int} {s2 : Nat} {K : Nat → mK} {σ : Nat → Nat → Int} {n e s : Nat} (h0 : q_ob K n s2 4) (h1 : w32 x2 = 0 ∨ w32 x2 = 1) : m_run Z (62, 28, [l0, l1, (0, x2)], [(0, s0), (0, s1), (2, ((s2 : Nat) : Int))], (K, σ, n, e, s)) = some (.inl (0, x2), (K, (m_up2 σ s2 2 (s1 + s0)), n, e, s)) := by
  refine g_base (by decide +kernel : decode (m_byt 62) 28 = .ok (.iadd, 1)) rfl rfl ?_
  show m_run Z (62, 29, [l0, l1, (0, x2)], [(0, (s1 + s0)), (2, ((s2 : Nat) : Int))], (K, σ, n, e, s)) = _
  refine g_putf (ci := 4) (f := 2) (by decide +kernel : decode (m_byt 62) 29 = .ok (.putfield 41, 3)) (by decide +kernel) (by decide +kernel) (by decide +kernel) h0 ?_
  show m_run Z (62, 32, [l0, l1, (0, x2)], [], (K, (m_up2 σ s2 2 (s1 + s0)), n, e, s)) = _
  refine g_iload_n (k := 2) (x := x2) (by decide +kernel : decode (m_byt 62) 32 = .ok (.iload_n 2, 1)) rfl ?_
  exact g_zret (by decide +kernel : decode (m_byt 62) 33 = .ok (.ireturn, 1)) (by decide +kernel) h1
theorem e_63 {Z : mZ} {r0 : Nat} {h : mH} : m_cl Z 63 [(2, ((r0 : Nat) : Int))] h = m_run Z (63, 0, [(2, ((r0 : Nat) : Int)), (9, 0), (9, 0), (9, 0)], [], h) := g_ent (k := 4) (by decide) (by decide +kernel) (Nat.le_of_ble_eq_true rfl) (by decide +kernel) rfl
theorem b_63_0 {Z : mZ} {l1 l2 l3 : mV} {r0 : Nat} {K : Nat → mK} {σ : Nat → Nat → Int} {n e s : Nat} (h0 : q_ob K n r0 4) : m_run Z (63, 0, [(2, ((r0 : Nat) : Int)), l1, l2, l3], [], (K, σ, n, e, s)) = (m_cl Z 59 [(2, ((r0 : Nat) : Int))] (K, σ, n, e, s)).bind (m_aft (m_run Z) 63 1 [(2, ((r0 : Nat) : Int)), l1, l2, l3] []) := by
  refine g_aload_n (k := 0) (v := (2, ((r0 : Nat) : Int))) (by decide +kernel : decode (m_byt 63) 0 = .ok (.aload_n 0, 1)) rfl (Or.inl rfl) ?_
  exact g_inv (k := 1) (m' := 59) (np := 0) (as := [(2, ((r0 : Nat) : Int))]) (by decide +kernel : decode (m_byt 63) 1 = .ok (.invokevirtual 61, 3)) (Or.inl ⟨rfl, rfl⟩) (by decide +kernel) (by decide +kernel) (by decide +kernel) (Nat.le_of_ble_eq_true rfl) rfl (Or.inr (g_rcv (by decide +kernel) h0))
theorem b_63_4 {Z : mZ} {l1 l2 l3 : mV} {s0 : Int} {r0 : Nat} {h : mH} : m_run Z (63, 4, [(2, ((r0 : Nat) : Int)), l1, l2, l3], [(0, s0)], h) = m_run Z (63, 9, [(2, ((r0 : Nat) : Int)), (0, s0), (0, 0), (0, 0)], [], h) := by
  refine g_istore_n (k := 1) (by decide +kernel : decode (m_byt 63) 4 = .ok (.istore_n 1, 1)) (Nat.le_of_ble_eq_true rfl) ?_
  show m_run Z (63, 5, [(2, ((r0 : Nat) : Int)), (0, s0), l2, l3], [], h) = _
  refine g_base (by decide +kernel : decode (m_byt 63) 5 = .ok (.iconst 0, 1)) rfl rfl ?_
  show m_run Z (63, 6, [(2, ((r0 : Nat) : Int)), (0, s0), l2, l3], [(0, 0)], h) = _
  refine g_istore_n (k := 2) (by decide +kernel : decode (m_byt 63) 6 = .ok (.istore_n 2, 1)) (Nat.le_of_ble_eq_true rfl) ?_
  show m_run Z (63, 7, [(2, ((r0 : Nat) : Int)), (0, s0), (0, 0), l3], [], h) = _
  refine g_base (by decide +kernel : decode (m_byt 63) 7 = .ok (.iconst 0, 1)) rfl rfl ?_
  show m_run Z (63, 8, [(2, ((r0 : Nat) : Int)), (0, s0), (0, 0), l3], [(0, 0)], h) = _
  refine g_istore_n (k := 3) (by decide +kernel : decode (m_byt 63) 8 = .ok (.istore_n 3, 1)) (Nat.le_of_ble_eq_true rfl) ?_
  show m_run Z (63, 9, [(2, ((r0 : Nat) : Int)), (0, s0), (0, 0), (0, 0)], [], h) = _
  rfl
theorem b_63_9 {Z : mZ} {l0 l1 l2 : mV} {x3 : Int} {h : mH} : m_run Z (63, 9, [l0, l1, l2, (0, x3)], [], h) = if w32 2 ≤ w32 x3 then m_run Z (63, 50, [l0, l1, l2, (0, x3)], [], h) else m_run Z (63, 14, [l0, l1, l2, (0, x3)], [], h) := by
  refine g_iload_n (k := 3) (x := x3) (by decide +kernel : decode (m_byt 63) 9 = .ok (.iload_n 3, 1)) rfl ?_
  refine g_base (by decide +kernel : decode (m_byt 63) 10 = .ok (.iconst 2, 1)) rfl rfl ?_
  show m_run Z (63, 11, [l0, l1, l2, (0, x3)], [(0, 2), (0, x3)], h) = _
  exact g_brq (t := 50) (off := 39) (by decide +kernel : decode (m_byt 63) 11 = .ok (.if_icmp .ge 39, 3)) rfl rfl (by decide)
theorem b_63_14 {Z : mZ} {l1 l2 l3 : mV} {r0 : Nat} {K : Nat → mK} {σ : Nat → Nat → Int} {n e s : Nat} (h0 : q_ob K n r0 4) : m_run Z (63, 14, [(2, ((r0 : Nat) : Int)), l1, l2, l3], [], (K, σ, n, e, s)) = (m_cl Z 59 [(2, ((r0 : Nat) : Int))] (K, σ, n, e, s)).bind (m_aft (m_run Z) 63 15 [(2, ((r0 : Nat) : Int)), l1, l2, l3] []) := by
  refine g_aload_n (k := 0) (v := (2, ((r0 : Nat) : Int))) (by decide +kernel : decode (m_byt 63) 14 = .ok (.aload_n 0, 1)) rfl (Or.inl rfl) ?_
  exact g_inv (k := 1) (m' := 59) (np := 0) (as := [(2, ((r0 : Nat) : Int))]) (by decide +kernel : decode (m_byt 63) 15 = .ok (.invokevirtual 61, 3)) (Or.inl ⟨rfl, rfl⟩) (by decide +kernel) (by decide +kernel) (by decide +kernel) (Nat.le_of_ble_eq_true rfl) rfl (Or.inr (g_rcv (by decide +kernel) h0))
theorem b_63_18 {Z : mZ} {l0 l1 l2 l3 : mV} {s0 : Int} {h : mH} : m_run Z (63, 18, [l0, l1, l2, l3], [(0, s0)], h) = if w32 s0 = 0 then m_run Z (63, 50, [l0, l1, l2, l3], [], h) else m_run Z (63, 21, [l0, l1, l2, l3], [], h) := by
  exact g_brq (t := 50) (off := 32) (by decide +kernel : decode (m_byt 63) 18 = .ok (.ifCond .eq 32, 3)) rfl rfl (by decide)
theorem b_63_21 {Z : mZ} {l1 l3 : mV} {x2 : Int} {r0 : Nat} {K : Nat → mK} {σ : Nat → Nat → Int} {n e s : Nat} (h0 : q_ob K n r0 4) : m_run Z (63, 21, [(2, ((r0 : Nat) : Int)), l1, (0, x2), l3], [], (K, σ, n, e, s)) = (m_cl Z 58 [(2, ((r0 : Nat) : Int))] (K, σ, n, e, s)).bind (m_aft (m_run Z) 63 26 [(2, ((r0 : Nat) : Int)), l1, (0, x2), l3] [(0, (x2 * 10))]) := by
  refine g_iload_n (k := 2) (x := x2) (by decide +kernel : decode (m_byt 63) 21 = .ok (.iload_n 2, 1)) rfl ?_
  refine g_base (by decide +kernel : decode (m_byt 63) 22 = .ok (.bipush 10, 2)) rfl rfl ?_
  show m_run Z (63, 24, [(2, ((r0 : Nat) : Int)), l1, (0, x2), l3], [(0, 10), (0, x2)], (K, σ, n, e, s)) = _
  refine g_base (by decide +kernel : decode (m_byt 63) 24 = .ok (.imul, 1)) rfl rfl ?_
  show m_run Z (63, 25, [(2, ((r0 : Nat) : Int)), l1, (0, x2), l3], [(0, (x2 * 10))], (K, σ, n, e, s)) = _
  refine g_aload_n (k := 0) (v := (2, ((r0 : Nat) : Int))) (by decide +kernel : decode (m_byt 63) 25 = .ok (.aload_n 0, 1)) rfl (Or.inl rfl) ?_
  exact g_inv (k := 1) (m' := 58) (np := 0) (as := [(2, ((r0 : Nat) : Int))]) (by decide +kernel : decode (m_byt 63) 26 = .ok (.invokevirtual 47, 3)) (Or.inl ⟨rfl, rfl⟩) (by decide +kernel) (by decide +kernel) (by decide +kernel) (Nat.le_of_ble_eq_true rfl) rfl (Or.inr (g_rcv (by decide +kernel) h0))
theorem b_63_29 {Z : mZ} {l2 : mV} {s0 s1 x1 x3 : Int} {r0 : Nat} {K : Nat → mK} {σ : Nat → Nat → Int} {n e s : Nat} (h0 : q_ob K n r0 4) : m_run Z (63, 29, [(2, ((r0 : Nat) : Int)), (0, x1), l2, (0, x3)], [(0, s0), (0, s1)], (K, σ, n, e, s)) = m_run Z (63, 9, [(2, ((r0 : Nat) : Int)), (0, x1), (0, ((s1 + s0) - 48)), (0, x3 + 1)], [], (K, (m_up2 σ r0 2 ((σ r0 2) + 1)), n, e, s)) := by
  refine g_base (by decide +kernel : decode (m_byt 63) 29 = .ok (.iadd, 1)) rfl rfl ?_
  show m_run Z (63, 30, [(2, ((r0 : Nat) : Int)), (0, x1), l2, (0, x3)], [(0, (s1 + s0))], (K, σ, n, e, s)) = _
  refine g_base (by decide +kernel : decode (m_byt 63) 30 = .ok (.bipush 48, 2)) rfl rfl ?_
  show m_run Z (63, 32, [(2, ((r0 : Nat) : Int)), (0, x1), l2, (0, x3)], [(0, 48), (0, (s1 + s0))], (K, σ, n, e, s)) = _
  refine g_base (by decide +kernel : decode (m_byt 63) 32 = .ok (.isub, 1)) rfl rfl ?_
  show m_run Z (63, 33, [(2, ((r0 : Nat) : Int)), (0, x1), l2, (0, x3)], [(0, ((s1 + s0) - 48))], (K, σ, n, e, s)) = _
  refine g_istore_n (k := 2) (by decide +kernel : decode (m_byt 63) 33 = .ok (.istore_n 2, 1)) (Nat.le_of_ble_eq_true rfl) ?_
  show m_run Z (63, 34, [(2, ((r0 : Nat) : Int)), (0, x1), (0, ((s1 + s0) - 48)), (0, x3)], [], (K, σ, n, e, s)) = _
  refine g_aload_n (k := 0) (v := (2, ((r0 : Nat) : Int))) (by decide +kernel : decode (m_byt 63) 34 = .ok (.aload_n 0, 1)) rfl (Or.inl rfl) ?_
  refine g_base (by decide +kernel : decode (m_byt 63) 35 = .ok (.dup, 1)) rfl rfl ?_
  show m_run Z (63, 36, [(2, ((r0 : Nat) : Int)), (0, x1), (0, ((s1 + s0) - 48)), (0, x3)], [(2, ((r0 : Nat) : Int)), (2, ((r0 : Nat) : Int))], (K, σ, n, e, s)) = _
  refine g_getf (ci := 4) (f := 2) (by decide +kernel : decode (m_byt 63) 36 = .ok (.getfield 41, 3)) (by decide +kernel) (by decide +kernel) (by decide +kernel) h0 ?_
  refine g_base (by decide +kernel : decode (m_byt 63) 39 = .ok (.iconst 1, 1)) rfl rfl ?_
  show m_run Z (63, 40, [(2, ((r0 : Nat) : Int)), (0, x1), (0, ((s1 + s0) - 48)), (0, x3)], [(0, 1), (0, (σ r0 2)), (2, ((r0 : Nat) : Int))], (K, σ, n, e, s)) = _
  refine g_base (by decide +kernel : decode (m_byt 63) 40 = .ok (.iadd, 1)) rfl rfl ?_
  show m_run Z (63, 41, [(2, ((r0 : Nat) : Int)), (0, x1), (0, ((s1 + s0) - 48)), (0, x3)], [(0, ((σ r0 2) + 1)), (2, ((r0 : Nat) : Int))], (K, σ, n, e, s)) = _
  refine g_putf (ci := 4) (f := 2) (by decide +kernel : decode (m_byt 63) 41 = .ok (.putfield 41, 3)) (by decide +kernel) (by decide +kernel) (by decide +kernel) h0 ?_
  show m_run Z (63, 44, [(2, ((r0 : Nat) : Int)), (0, x1), (0, ((s1 + s0) - 48)), (0, x3)], [], (K, (m_up2 σ r0 2 ((σ r0 2) + 1)), n, e, s)) = _
  refine g_iinc (k := 3) (x := x3) (by decide +kernel : decode (m_byt 63) 44 = .ok (.iinc 3 1, 3)) rfl (Nat.le_of_ble_eq_true rfl) ?_
  show m_run Z (63, 47, [(2, ((r0 : Nat) : Int)), (0, x1), (0, ((s1 + s0) - 48)), (0, x3 + 1)], [], (K, (m_up2 σ r0 2 ((σ r0 2) + 1)), n, e, s)) = _
  refine g_jmp (t := 9) (by decide +kernel : decode (m_byt 63) 47 = .ok (.goto (-38), 3)) (by decide) ?_
  rfl
theorem b_63_50 {Z : mZ} {l1 l3 : mV} {x2 : Int} {r0 : Nat} {K : Nat → mK} {σ : Nat → Nat → Int} {n e s : Nat} (h0 : q_ob K n r0 4) (h1 : q_rp K r0 5) (h2 : q_ob K n (q_rf K r0 5) 3) : m_run Z (63, 50, [(2, ((r0 : Nat) : Int)), l1, (0, x2), l3], [], (K, σ, n, e, s)) = (m_cl Z 45 [(2, ((q_rf K r0 5 : Nat) : Int)), (0, (σ r0 4)), (0, x2)] (K, σ, n, e, s)).bind (m_aft (m_run Z) 63 59 [(2, ((r0 : Nat) : Int)), l1, (0, x2), l3] []) := by
  refine g_aload_n (k := 0) (v := (2, ((r0 : Nat) : Int))) (by decide +kernel : decode (m_byt 63) 50 = .ok (.aload_n 0, 1)) rfl (Or.inl rfl) ?_
  refine g_getr (ci := 4) (f := 5) (by decide +kernel : decode (m_byt 63) 51 = .ok (.getfield 20, 3)) (by decide +kernel) (by decide +kernel) (by decide +kernel) h0 h1 ?_
  refine g_aload_n (k := 0) (v := (2, ((r0 : Nat) : Int))) (by decide +kernel : decode (m_byt 63) 54 = .ok (.aload_n 0, 1)) rfl (Or.inl rfl) ?_
  refine g_getf (ci := 4) (f := 4) (by decide +kernel : decode (m_byt 63) 55 = .ok (.getfield 72, 3)) (by decide +kernel) (by decide +kernel) (by decide +kernel) h0 ?_
  refine g_iload_n (k := 2) (x := x2) (by decide +kernel : decode (m_byt 63) 58 = .ok (.iload_n 2, 1)) rfl ?_
  exact g_inv (k := 1) (m' := 45) (np := 2) (as := [(2, ((q_rf K r0 5 : Nat) : Int)), (0, (σ r0 4)), (0, x2)]) (by decide +kernel : decode (m_byt 63) 59 = .ok (.invokevirtual 27, 3)) (Or.inl ⟨rfl, rfl⟩) (by decide +kernel) (by decide +kernel) (by decide +kernel) (Nat.le_of_ble_eq_true rfl) rfl (Or.inr (g_rcv (by decide +kernel) h2))
theorem b_63_62 {Z : mZ} {l2 l3 : mV} {x1 : Int} {r0 : Nat} {K : Nat → mK} {σ : Nat → Nat → Int} {n e s : Nat} (h0 : q_ob K n r0 4) (h1 : w32 x1 = 0 ∨ w32 x1 = 1) : m_run Z (63, 62, [(2, ((r0 : Nat) : Int)), (0, x1), l2, l3], [], (K, σ, n, e, s)) = some (.inl (0, x1), (K, (m_up2 σ r0 4 ((σ r0 4) + 1)), n, e, s)) := by
  refine g_aload_n (k := 0) (v := (2, ((r0 : Nat) : Int))) (by decide +kernel : decode (m_byt 63) 62 = .ok (.aload_n 0, 1)) rfl (Or.inl rfl) ?_
  refine g_base (by decide +kernel : decode (m_byt 63) 63 = .ok (.dup, 1)) rfl rfl ?_
  show m_run Z (63, 64, [(2, ((r0 : Nat) : Int)), (0, x1), l2, l3], [(2, ((r0 : Nat) : Int)), (2, ((r0 : Nat) : Int))], (K, σ, n, e, s)) = _
  refine g_getf (ci := 4) (f := 4) (by decide +kernel : decode (m_byt 63) 64 = .ok (.getfield 72, 3)) (by decide +kernel) (by decide +kernel) (by decide +kernel) h0 ?_
  refine g_base (by decide +kernel : decode (m_byt 63) 67 = .ok (.iconst 1, 1)) rfl rfl ?_
  show m_run Z (63, 68, [(2, ((r0 : Nat) : Int)), (0, x1), l2, l3], [(0, 1), (0, (σ r0 4)), (2, ((r0 : Nat) : Int))], (K, σ, n, e, s)) = _
  refine g_base (by decide +kernel : decode (m_byt 63) 68 = .ok (.iadd, 1)) rfl rfl ?_
  show m_run Z (63, 69, [(2, ((r0 : Nat) : Int)), (0, x1), l2, l3], [(0, ((σ r0 4) + 1)), (2, ((r0 : Nat) : Int))], (K, σ, n, e, s)) = _
  refine g_putf (ci := 4) (f := 4) (by decide +kernel : decode (m_byt 63) 69 = .ok (.putfield 72, 3)) (by decide +kernel) (by decide +kernel) (by decide +kernel) h0 ?_
  show m_run Z (63, 72, [(2, ((r0 : Nat) : Int)), (0, x1), l2, l3], [], (K, (m_up2 σ r0 4 ((σ r0 4) + 1)), n, e, s)) = _
  refine g_iload_n (k := 1) (x := x1) (by decide +kernel : decode (m_byt 63) 72 = .ok (.iload_n 1, 1)) rfl ?_
  exact g_zret (by decide +kernel : decode (m_byt 63) 73 = .ok (.ireturn, 1)) (by decide +kernel) h1
end
