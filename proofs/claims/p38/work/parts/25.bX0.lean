section
theorem e_0 {Z : mZ} {r0 : Nat} {r1 : Nat} {h h' : mH} {v : mV} (hr : m_run Z (0, 0, [(2, ((r0 : Nat) : Int)), (2, ((r1 : Nat) : Int))], [], h) = some (.inl v, h')) : m_cl Z 0 [(2, ((r0 : Nat) : Int)), (2, ((r1 : Nat) : Int))] h = some (.inl v, h') := g_enti (k := 2) (by decide) (by decide +kernel) (Nat.le_of_ble_eq_true rfl) rfl hr
theorem b_0_0 {Z : mZ} {l1 : mV} {r0 : Nat} {K : Nat → mK} {σ : Nat → Nat → Int} {n s : Nat} (h0 : q_ob (m_up K n (1, 3, fun _ => -1)) (n + 1) n 3) : m_run Z (0, 0, [(2, ((r0 : Nat) : Int)), l1], [], (K, σ, n, 0, s)) = (m_cl Z 43 [(2, ((n : Nat) : Int)), (0, 768)] ((m_up K n (1, 3, fun _ => -1)), (m_up σ n (fun _ => 0)), (n + 1), 0, s + 1)).bind (m_aft (m_run Z) 0 12 [(2, ((r0 : Nat) : Int)), l1] [(2, ((n : Nat) : Int)), (2, ((r0 : Nat) : Int))]) := by
  refine g_aload_n (k := 0) (v := (2, ((r0 : Nat) : Int))) (by decide +kernel : decode (m_byt 0) 0 = .ok (.aload_n 0, 1)) rfl (Or.inl rfl) ?_
  refine g_obj (r := r0) (by decide +kernel : decode (m_byt 0) 1 = .ok (.invokespecial 3, 3)) (by decide +kernel) (by decide +kernel) (Nat.le_of_ble_eq_true rfl) ?_
  refine g_aload_n (k := 0) (v := (2, ((r0 : Nat) : Int))) (by decide +kernel : decode (m_byt 0) 4 = .ok (.aload_n 0, 1)) rfl (Or.inl rfl) ?_
  refine g_new (ci := 3) (by decide +kernel : decode (m_byt 0) 5 = .ok (.new 9, 3)) (by decide +kernel) (by decide) ?_
  show m_run Z (0, 8, [(2, ((r0 : Nat) : Int)), l1], [(2, ((n : Nat) : Int)), (2, ((r0 : Nat) : Int))], ((m_up K n (1, 3, fun _ => -1)), (m_up σ n (fun _ => 0)), (n + 1), 0, s + 1)) = _
  refine g_base (by decide +kernel : decode (m_byt 0) 8 = .ok (.dup, 1)) rfl rfl ?_
  show m_run Z (0, 9, [(2, ((r0 : Nat) : Int)), l1], [(2, ((n : Nat) : Int)), (2, ((n : Nat) : Int)), (2, ((r0 : Nat) : Int))], ((m_up K n (1, 3, fun _ => -1)), (m_up σ n (fun _ => 0)), (n + 1), 0, s + 1)) = _
  refine g_base (by decide +kernel : decode (m_byt 0) 9 = .ok (.sipush 768, 3)) rfl rfl ?_
  show m_run Z (0, 12, [(2, ((r0 : Nat) : Int)), l1], [(0, 768), (2, ((n : Nat) : Int)), (2, ((n : Nat) : Int)), (2, ((r0 : Nat) : Int))], ((m_up K n (1, 3, fun _ => -1)), (m_up σ n (fun _ => 0)), (n + 1), 0, s + 1)) = _
  exact g_inv (k := 2) (m' := 43) (np := 1) (as := [(2, ((n : Nat) : Int)), (0, 768)]) (by decide +kernel : decode (m_byt 0) 12 = .ok (.invokespecial 11, 3)) (Or.inr (Or.inl ⟨rfl, rfl, by decide⟩)) (by decide +kernel) (by decide +kernel) (by decide +kernel) (Nat.le_of_ble_eq_true rfl) rfl (Or.inr (g_rcv (by decide +kernel) h0))
theorem b_0_15 {Z : mZ} {l1 : mV} {s0 s1 r0 : Nat} {K : Nat → mK} {σ : Nat → Nat → Int} {n s : Nat} (h0 : q_ob K n s1 0) (h1 : ((s0 : Nat) : Int) < ((n : Nat) : Int)) (h2 : q_ob (m_up (q_pf K s1 0 3 ((s0 : Nat) : Int)) n (1, 3, fun _ => -1)) (n + 1) n 3) : m_run Z (0, 15, [(2, ((r0 : Nat) : Int)), l1], [(2, ((s0 : Nat) : Int)), (2, ((s1 : Nat) : Int))], (K, σ, n, 0, s)) = (m_cl Z 43 [(2, ((n : Nat) : Int)), (0, 768)] ((m_up (q_pf K s1 0 3 ((s0 : Nat) : Int)) n (1, 3, fun _ => -1)), (m_up σ n (fun _ => 0)), (n + 1), 0, s + 1)).bind (m_aft (m_run Z) 0 26 [(2, ((r0 : Nat) : Int)), l1] [(2, ((n : Nat) : Int)), (2, ((r0 : Nat) : Int))]) := by
  refine g_putr (ci := 0) (f := 3) (by decide +kernel : decode (m_byt 0) 15 = .ok (.putfield 14, 3)) (by decide +kernel) (by decide +kernel) (by decide +kernel) (by decide +kernel) (by decide +kernel) h0 h1 ?_
  show m_run Z (0, 18, [(2, ((r0 : Nat) : Int)), l1], [], ((q_pf K s1 0 3 ((s0 : Nat) : Int)), σ, n, 0, s)) = _
  refine g_aload_n (k := 0) (v := (2, ((r0 : Nat) : Int))) (by decide +kernel : decode (m_byt 0) 18 = .ok (.aload_n 0, 1)) rfl (Or.inl rfl) ?_
  refine g_new (ci := 3) (by decide +kernel : decode (m_byt 0) 19 = .ok (.new 9, 3)) (by decide +kernel) (by decide) ?_
  show m_run Z (0, 22, [(2, ((r0 : Nat) : Int)), l1], [(2, ((n : Nat) : Int)), (2, ((r0 : Nat) : Int))], ((m_up (q_pf K s1 0 3 ((s0 : Nat) : Int)) n (1, 3, fun _ => -1)), (m_up σ n (fun _ => 0)), (n + 1), 0, s + 1)) = _
  refine g_base (by decide +kernel : decode (m_byt 0) 22 = .ok (.dup, 1)) rfl rfl ?_
  show m_run Z (0, 23, [(2, ((r0 : Nat) : Int)), l1], [(2, ((n : Nat) : Int)), (2, ((n : Nat) : Int)), (2, ((r0 : Nat) : Int))], ((m_up (q_pf K s1 0 3 ((s0 : Nat) : Int)) n (1, 3, fun _ => -1)), (m_up σ n (fun _ => 0)), (n + 1), 0, s + 1)) = _
  refine g_base (by decide +kernel : decode (m_byt 0) 23 = .ok (.sipush 768, 3)) rfl rfl ?_
  show m_run Z (0, 26, [(2, ((r0 : Nat) : Int)), l1], [(0, 768), (2, ((n : Nat) : Int)), (2, ((n : Nat) : Int)), (2, ((r0 : Nat) : Int))], ((m_up (q_pf K s1 0 3 ((s0 : Nat) : Int)) n (1, 3, fun _ => -1)), (m_up σ n (fun _ => 0)), (n + 1), 0, s + 1)) = _
  exact g_inv (k := 2) (m' := 43) (np := 1) (as := [(2, ((n : Nat) : Int)), (0, 768)]) (by decide +kernel : decode (m_byt 0) 26 = .ok (.invokespecial 11, 3)) (Or.inr (Or.inl ⟨rfl, rfl, by decide⟩)) (by decide +kernel) (by decide +kernel) (by decide +kernel) (Nat.le_of_ble_eq_true rfl) rfl (Or.inr (g_rcv (by decide +kernel) h2))
theorem b_0_29 {Z : mZ} {l1 : mV} {s0 s1 r0 : Nat} {K : Nat → mK} {σ : Nat → Nat → Int} {n s : Nat} (h0 : q_ob K n s1 0) (h1 : ((s0 : Nat) : Int) < ((n : Nat) : Int)) (h2 : q_ob (m_up (q_pf K s1 0 4 ((s0 : Nat) : Int)) n (1, 3, fun _ => -1)) (n + 1) n 3) : m_run Z (0, 29, [(2, ((r0 : Nat) : Int)), l1], [(2, ((s0 : Nat) : Int)), (2, ((s1 : Nat) : Int))], (K, σ, n, 0, s)) = (m_cl Z 43 [(2, ((n : Nat) : Int)), (0, 256)] ((m_up (q_pf K s1 0 4 ((s0 : Nat) : Int)) n (1, 3, fun _ => -1)), (m_up σ n (fun _ => 0)), (n + 1), 0, s + 1)).bind (m_aft (m_run Z) 0 40 [(2, ((r0 : Nat) : Int)), l1] [(2, ((n : Nat) : Int)), (2, ((r0 : Nat) : Int))]) := by
  refine g_putr (ci := 0) (f := 4) (by decide +kernel : decode (m_byt 0) 29 = .ok (.putfield 20, 3)) (by decide +kernel) (by decide +kernel) (by decide +kernel) (by decide +kernel) (by decide +kernel) h0 h1 ?_
  show m_run Z (0, 32, [(2, ((r0 : Nat) : Int)), l1], [], ((q_pf K s1 0 4 ((s0 : Nat) : Int)), σ, n, 0, s)) = _
  refine g_aload_n (k := 0) (v := (2, ((r0 : Nat) : Int))) (by decide +kernel : decode (m_byt 0) 32 = .ok (.aload_n 0, 1)) rfl (Or.inl rfl) ?_
  refine g_new (ci := 3) (by decide +kernel : decode (m_byt 0) 33 = .ok (.new 9, 3)) (by decide +kernel) (by decide) ?_
  show m_run Z (0, 36, [(2, ((r0 : Nat) : Int)), l1], [(2, ((n : Nat) : Int)), (2, ((r0 : Nat) : Int))], ((m_up (q_pf K s1 0 4 ((s0 : Nat) : Int)) n (1, 3, fun _ => -1)), (m_up σ n (fun _ => 0)), (n + 1), 0, s + 1)) = _
  refine g_base (by decide +kernel : decode (m_byt 0) 36 = .ok (.dup, 1)) rfl rfl ?_
  show m_run Z (0, 37, [(2, ((r0 : Nat) : Int)), l1], [(2, ((n : Nat) : Int)), (2, ((n : Nat) : Int)), (2, ((r0 : Nat) : Int))], ((m_up (q_pf K s1 0 4 ((s0 : Nat) : Int)) n (1, 3, fun _ => -1)), (m_up σ n (fun _ => 0)), (n + 1), 0, s + 1)) = _
  refine g_base (by decide +kernel : decode (m_byt 0) 37 = .ok (.sipush 256, 3)) rfl rfl ?_
  show m_run Z (0, 40, [(2, ((r0 : Nat) : Int)), l1], [(0, 256), (2, ((n : Nat) : Int)), (2, ((n : Nat) : Int)), (2, ((r0 : Nat) : Int))], ((m_up (q_pf K s1 0 4 ((s0 : Nat) : Int)) n (1, 3, fun _ => -1)), (m_up σ n (fun _ => 0)), (n + 1), 0, s + 1)) = _
  exact g_inv (k := 2) (m' := 43) (np := 1) (as := [(2, ((n : Nat) : Int)), (0, 256)]) (by decide +kernel : decode (m_byt 0) 40 = .ok (.invokespecial 11, 3)) (Or.inr (Or.inl ⟨rfl, rfl, by decide⟩)) (by decide +kernel) (by decide +kernel) (by decide +kernel) (Nat.le_of_ble_eq_true rfl) rfl (Or.inr (g_rcv (by decide +kernel) h2))
theorem b_0_43 {Z : mZ} {l1 : mV} {s0 s1 r0 : Nat} {K : Nat → mK} {σ : Nat → Nat → Int} {n s : Nat} (h0 : q_ob K n s1 0) (h1 : ((s0 : Nat) : Int) < ((n : Nat) : Int)) (h2 : q_ob (m_up (q_pf K s1 0 5 ((s0 : Nat) : Int)) n (1, 3, fun _ => -1)) (n + 1) n 3) : m_run Z (0, 43, [(2, ((r0 : Nat) : Int)), l1], [(2, ((s0 : Nat) : Int)), (2, ((s1 : Nat) : Int))], (K, σ, n, 0, s)) = (m_cl Z 43 [(2, ((n : Nat) : Int)), (0, 256)] ((m_up (q_pf K s1 0 5 ((s0 : Nat) : Int)) n (1, 3, fun _ => -1)), (m_up σ n (fun _ => 0)), (n + 1), 0, s + 1)).bind (m_aft (m_run Z) 0 54 [(2, ((r0 : Nat) : Int)), l1] [(2, ((n : Nat) : Int)), (2, ((r0 : Nat) : Int))]) := by
  refine g_putr (ci := 0) (f := 5) (by decide +kernel : decode (m_byt 0) 43 = .ok (.putfield 23, 3)) (by decide +kernel) (by decide +kernel) (by decide +kernel) (by decide +kernel) (by decide +kernel) h0 h1 ?_
  show m_run Z (0, 46, [(2, ((r0 : Nat) : Int)), l1], [], ((q_pf K s1 0 5 ((s0 : Nat) : Int)), σ, n, 0, s)) = _
  refine g_aload_n (k := 0) (v := (2, ((r0 : Nat) : Int))) (by decide +kernel : decode (m_byt 0) 46 = .ok (.aload_n 0, 1)) rfl (Or.inl rfl) ?_
  refine g_new (ci := 3) (by decide +kernel : decode (m_byt 0) 47 = .ok (.new 9, 3)) (by decide +kernel) (by decide) ?_
  show m_run Z (0, 50, [(2, ((r0 : Nat) : Int)), l1], [(2, ((n : Nat) : Int)), (2, ((r0 : Nat) : Int))], ((m_up (q_pf K s1 0 5 ((s0 : Nat) : Int)) n (1, 3, fun _ => -1)), (m_up σ n (fun _ => 0)), (n + 1), 0, s + 1)) = _
  refine g_base (by decide +kernel : decode (m_byt 0) 50 = .ok (.dup, 1)) rfl rfl ?_
  show m_run Z (0, 51, [(2, ((r0 : Nat) : Int)), l1], [(2, ((n : Nat) : Int)), (2, ((n : Nat) : Int)), (2, ((r0 : Nat) : Int))], ((m_up (q_pf K s1 0 5 ((s0 : Nat) : Int)) n (1, 3, fun _ => -1)), (m_up σ n (fun _ => 0)), (n + 1), 0, s + 1)) = _
  refine g_base (by decide +kernel : decode (m_byt 0) 51 = .ok (.sipush 256, 3)) rfl rfl ?_
  show m_run Z (0, 54, [(2, ((r0 : Nat) : Int)), l1], [(0, 256), (2, ((n : Nat) : Int)), (2, ((n : Nat) : Int)), (2, ((r0 : Nat) : Int))], ((m_up (q_pf K s1 0 5 ((s0 : Nat) : Int)) n (1, 3, fun _ => -1)), (m_up σ n (fun _ => 0)), (n + 1), 0, s + 1)) = _
  exact g_inv (k := 2) (m' := 43) (np := 1) (as := [(2, ((n : Nat) : Int)), (0, 256)]) (by decide +kernel : decode (m_byt 0) 54 = .ok (.invokespecial 11, 3)) (Or.inr (Or.inl ⟨rfl, rfl, by decide⟩)) (by decide +kernel) (by decide +kernel) (by decide +kernel) (Nat.le_of_ble_eq_true rfl) rfl (Or.inr (g_rcv (by decide +kernel) h2))
theorem b_0_57 {Z : mZ} {s0 s1 r0 r1 : Nat} {K : Nat → mK} {σ : Nat → Nat → Int} {n e s : Nat} (h0 : q_ob K n s1 0) (h1 : ((s0 : Nat) : Int) < ((n : Nat) : Int)) (h2 : q_ob (q_pf K s1 0 6 ((s0 : Nat) : Int)) n r0 0) (h3 : ((r1 : Nat) : Int) < ((n : Nat) : Int)) : m_run Z (0, 57, [(2, ((r0 : Nat) : Int)), (2, ((r1 : Nat) : Int))], [(2, ((s0 : Nat) : Int)), (2, ((s1 : Nat) : Int))], (K, σ, n, e, s)) = some (.inl (9, 0), ((q_pf (q_pf K s1 0 6 ((s0 : Nat) : Int)) r0 0 0 ((r1 : Nat) : Int)), σ, n, e, s)) := by
  refine g_putr (ci := 0) (f := 6) (by decide +kernel : decode (m_byt 0) 57 = .ok (.putfield 26, 3)) (by decide +kernel) (by decide +kernel) (by decide +kernel) (by decide +kernel) (by decide +kernel) h0 h1 ?_
  show m_run Z (0, 60, [(2, ((r0 : Nat) : Int)), (2, ((r1 : Nat) : Int))], [], ((q_pf K s1 0 6 ((s0 : Nat) : Int)), σ, n, e, s)) = _
  refine g_aload_n (k := 0) (v := (2, ((r0 : Nat) : Int))) (by decide +kernel : decode (m_byt 0) 60 = .ok (.aload_n 0, 1)) rfl (Or.inl rfl) ?_
  refine g_aload_n (k := 1) (v := (2, ((r1 : Nat) : Int))) (by decide +kernel : decode (m_byt 0) 61 = .ok (.aload_n 1, 1)) rfl (Or.inl rfl) ?_
  refine g_putr (ci := 0) (f := 0) (by decide +kernel : decode (m_byt 0) 62 = .ok (.putfield 29, 3)) (by decide +kernel) (by decide +kernel) (by decide +kernel) (by decide +kernel) (by decide +kernel) h2 h3 ?_
  show m_run Z (0, 65, [(2, ((r0 : Nat) : Int)), (2, ((r1 : Nat) : Int))], [], ((q_pf (q_pf K s1 0 6 ((s0 : Nat) : Int)) r0 0 0 ((r1 : Nat) : Int)), σ, n, e, s)) = _
  exact g_vret (by decide +kernel : decode (m_byt 0) 65 = .ok (.return_, 1)) (by decide +kernel)
theorem e_1 {Z : mZ} {x0 : Int} {x1 : Int} {h : mH} : m_cl Z 1 [(0, x0), (0, x1)] h = m_run Z (1, 0, [(0, x0), (0, x1)], [], h) := g_ent (k := 2) (by decide) (by decide +kernel) (Nat.le_of_ble_eq_true rfl) (by decide +kernel) rfl
theorem b_1_0 {Z : mZ} {x0 x1 : Int} {h : mH} : m_run Z (1, 0, [(0, x0), (0, x1)], [], h) = some (.inl (0, (((x0 - 1) * 256) + x1)), h) := by
  refine g_iload_n (k := 0) (x := x0) (by decide +kernel : decode (m_byt 1) 0 = .ok (.iload_n 0, 1)) rfl ?_
  refine g_base (by decide +kernel : decode (m_byt 1) 1 = .ok (.iconst 1, 1)) rfl rfl ?_
  show m_run Z (1, 2, [(0, x0), (0, x1)], [(0, 1), (0, x0)], h) = _
  refine g_base (by decide +kernel : decode (m_byt 1) 2 = .ok (.isub, 1)) rfl rfl ?_
  show m_run Z (1, 3, [(0, x0), (0, x1)], [(0, (x0 - 1))], h) = _
  refine g_base (by decide +kernel : decode (m_byt 1) 3 = .ok (.sipush 256, 3)) rfl rfl ?_
  show m_run Z (1, 6, [(0, x0), (0, x1)], [(0, 256), (0, (x0 - 1))], h) = _
  refine g_base (by decide +kernel : decode (m_byt 1) 6 = .ok (.imul, 1)) rfl rfl ?_
  show m_run Z (1, 7, [(0, x0), (0, x1)], [(0, ((x0 - 1) * 256))], h) = _
  refine g_iload_n (k := 1) (x := x1) (by decide +kernel : decode (m_byt 1) 7 = .ok (.iload_n 1, 1)) rfl ?_
  refine g_base (by decide +kernel : decode (m_byt 1) 8 = .ok (.iadd, 1)) rfl rfl ?_
  show m_run Z (1, 9, [(0, x0), (0, x1)], [(0, (((x0 - 1) * 256) + x1))], h) = _
  exact g_iret (by decide +kernel : decode (m_byt 1) 9 = .ok (.ireturn, 1)) (by decide +kernel)
theorem e_2 {Z : mZ} {r0 : Nat} {h : mH} : m_cl Z 2 [(2, ((r0 : Nat) : Int))] h = m_run Z (2, 0, [(2, ((r0 : Nat) : Int)), (9, 0)], [], h) := g_ent (k := 2) (by decide) (by decide +kernel) (Nat.le_of_ble_eq_true rfl) (by decide +kernel) rfl
theorem b_2_0 {Z : mZ} {l1 : mV} {r0 : Nat} {K : Nat → mK} {σ : Nat → Nat → Int} {n e s : Nat} (h0 : q_ob K n r0 0) (h1 : q_rp K r0 0) (h2 : q_ob K n (q_rf K r0 0) 5) : m_run Z (2, 0, [(2, ((r0 : Nat) : Int)), l1], [], (K, σ, n, e, s)) = if w32 (σ r0 1) = w32 (σ ((q_rf K r0 0)) 2) then m_run Z (2, 14, [(2, ((r0 : Nat) : Int)), l1], [], (K, σ, n, e, s)) else m_run Z (2, 15, [(2, ((r0 : Nat) : Int)), l1], [], (K, σ, n, e, s)) := by
  refine g_aload_n (k := 0) (v := (2, ((r0 : Nat) : Int))) (by decide +kernel : decode (m_byt 2) 0 = .ok (.aload_n 0, 1)) rfl (Or.inl rfl) ?_
  refine g_getf (ci := 0) (f := 1) (by decide +kernel : decode (m_byt 2) 1 = .ok (.getfield 33, 3)) (by decide +kernel) (by decide +kernel) (by decide +kernel) h0 ?_
  refine g_aload_n (k := 0) (v := (2, ((r0 : Nat) : Int))) (by decide +kernel : decode (m_byt 2) 4 = .ok (.aload_n 0, 1)) rfl (Or.inl rfl) ?_
  refine g_getr (ci := 0) (f := 0) (by decide +kernel : decode (m_byt 2) 5 = .ok (.getfield 29, 3)) (by decide +kernel) (by decide +kernel) (by decide +kernel) h0 h1 ?_
  refine g_getf (ci := 5) (f := 2) (by decide +kernel : decode (m_byt 2) 8 = .ok (.getfield 37, 3)) (by decide +kernel) (by decide +kernel) (by decide +kernel) h2 ?_
  exact g_brn (t := 15) (off := 4) (by decide +kernel : decode (m_byt 2) 11 = .ok (.if_icmp .ne 4, 3)) rfl rfl (by decide)
theorem b_2_14 {Z : mZ} {l0 l1 : mV} {h : mH} : m_run Z (2, 14, [l0, l1], [], h) = some (.inl (9, 0), h) := by
  exact g_vret (by decide +kernel : decode (m_byt 2) 14 = .ok (.return_, 1)) (by decide +kernel)
theorem b_2_15 {Z : mZ} {l1 : mV} {r0 : Nat} {K : Nat → mK} {σ : Nat → Nat → Int} {n e s : Nat} (h0 : q_ob K n r0 0) (h1 : q_rp K r0 0) (h2 : q_ob K n (q_rf K r0 0) 5) : m_run Z (2, 15, [(2, ((r0 : Nat) : Int)), l1], [], (K, σ, n, e, s)) = (m_cl Z 68 [(2, ((q_rf K r0 0 : Nat) : Int))] (K, (m_up2 σ r0 1 (σ ((q_rf K r0 0)) 2)), n, e, s)).bind (m_aft (m_run Z) 2 31 [(2, ((r0 : Nat) : Int)), l1] [(2, ((r0 : Nat) : Int))]) := by
  refine g_aload_n (k := 0) (v := (2, ((r0 : Nat) : Int))) (by decide +kernel : decode (m_byt 2) 15 = .ok (.aload_n 0, 1)) rfl (Or.inl rfl) ?_
  refine g_aload_n (k := 0) (v := (2, ((r0 : Nat) : Int))) (by decide +kernel : decode (m_byt 2) 16 = .ok (.aload_n 0, 1)) rfl (Or.inl rfl) ?_
  refine g_getr (ci := 0) (f := 0) (by decide +kernel : decode (m_byt 2) 17 = .ok (.getfield 29, 3)) (by decide +kernel) (by decide +kernel) (by decide +kernel) h0 h1 ?_
  refine g_getf (ci := 5) (f := 2) (by decide +kernel : decode (m_byt 2) 20 = .ok (.getfield 37, 3)) (by decide +kernel) (by decide +kernel) (by decide +kernel) h2 ?_
  refine g_putf (ci := 0) (f := 1) (by decide +kernel : decode (m_byt 2) 23 = .ok (.putfield 33, 3)) (by decide +kernel) (by decide +kernel) (by decide +kernel) h0 ?_
  show m_run Z (2, 26, [(2, ((r0 : Nat) : Int)), l1], [], (K, (m_up2 σ r0 1 (σ ((q_rf K r0 0)) 2)), n, e, s)) = _
  refine g_aload_n (k := 0) (v := (2, ((r0 : Nat) : Int))) (by decide +kernel : decode (m_byt 2) 26 = .ok (.aload_n 0, 1)) rfl (Or.inl rfl) ?_
  refine g_aload_n (k := 0) (v := (2, ((r0 : Nat) : Int))) (by decide +kernel : decode (m_byt 2) 27 = .ok (.aload_n 0, 1)) rfl (Or.inl rfl) ?_
  refine g_getr (ci := 0) (f := 0) (by decide +kernel : decode (m_byt 2) 28 = .ok (.getfield 29, 3)) (by decide +kernel) (by decide +kernel) (by decide +kernel) h0 h1 ?_
  exact g_inv (k := 1) (m' := 68) (np := 0) (as := [(2, ((q_rf K r0 0 : Nat) : Int))]) (by decide +kernel : decode (m_byt 2) 31 = .ok (.invokevirtual 42, 3)) (Or.inl ⟨rfl, rfl⟩) (by decide +kernel) (by decide +kernel) (by decide +kernel) (Nat.le_of_ble_eq_true rfl) rfl (Or.inr (g_rcv (by decide +kernel) h2))
theorem b_2_34 {Z : mZ} {l1 : mV} {s0 : Int} {s1 r0 : Nat} {K : Nat → mK} {σ : Nat → Nat → Int} {n e s : Nat} (h0 : q_ob K n s1 0) (h1 : q_ob K n r0 0) (h2 : q_rp K r0 3) (h3 : q_ob K n (q_rf K r0 3) 3) : m_run Z (2, 34, [(2, ((r0 : Nat) : Int)), l1], [(0, s0), (2, ((s1 : Nat) : Int))], (K, σ, n, e, s)) = (m_cl Z 46 [(2, ((q_rf K r0 3 : Nat) : Int)), (0, 1)] (K, (m_up2 σ s1 2 s0), n, e, s)).bind (m_aft (m_run Z) 2 42 [(2, ((r0 : Nat) : Int)), l1] []) := by
  refine g_putf (ci := 0) (f := 2) (by decide +kernel : decode (m_byt 2) 34 = .ok (.putfield 46, 3)) (by decide +kernel) (by decide +kernel) (by decide +kernel) h0 ?_
  show m_run Z (2, 37, [(2, ((r0 : Nat) : Int)), l1], [], (K, (m_up2 σ s1 2 s0), n, e, s)) = _
  refine g_aload_n (k := 0) (v := (2, ((r0 : Nat) : Int))) (by decide +kernel : decode (m_byt 2) 37 = .ok (.aload_n 0, 1)) rfl (Or.inl rfl) ?_
  refine g_getr (ci := 0) (f := 3) (by decide +kernel : decode (m_byt 2) 38 = .ok (.getfield 14, 3)) (by decide +kernel) (by decide +kernel) (by decide +kernel) h1 h2 ?_
  refine g_base (by decide +kernel : decode (m_byt 2) 41 = .ok (.iconst 1, 1)) rfl rfl ?_
  show m_run Z (2, 42, [(2, ((r0 : Nat) : Int)), l1], [(0, 1), (2, ((q_rf K r0 3 : Nat) : Int))], (K, (m_up2 σ s1 2 s0), n, e, s)) = _
  exact g_inv (k := 1) (m' := 46) (np := 1) (as := [(2, ((q_rf K r0 3 : Nat) : Int)), (0, 1)]) (by decide +kernel : decode (m_byt 2) 42 = .ok (.invokevirtual 49, 3)) (Or.inl ⟨rfl, rfl⟩) (by decide +kernel) (by decide +kernel) (by decide +kernel) (Nat.le_of_ble_eq_true rfl) rfl (Or.inr (g_rcv (by decide +kernel) h3))
theorem b_2_45 {Z : mZ} {l1 : mV} {r0 : Nat} {K : Nat → mK} {σ : Nat → Nat → Int} {n e s : Nat} (h0 : q_ob K n r0 0) (h1 : q_rp K r0 4) (h2 : q_ob K n (q_rf K r0 4) 3) : m_run Z (2, 45, [(2, ((r0 : Nat) : Int)), l1], [], (K, σ, n, e, s)) = (m_cl Z 46 [(2, ((q_rf K r0 4 : Nat) : Int)), (0, 0)] (K, σ, n, e, s)).bind (m_aft (m_run Z) 2 50 [(2, ((r0 : Nat) : Int)), l1] []) := by
  refine g_aload_n (k := 0) (v := (2, ((r0 : Nat) : Int))) (by decide +kernel : decode (m_byt 2) 45 = .ok (.aload_n 0, 1)) rfl (Or.inl rfl) ?_
  refine g_getr (ci := 0) (f := 4) (by decide +kernel : decode (m_byt 2) 46 = .ok (.getfield 20, 3)) (by decide +kernel) (by decide +kernel) (by decide +kernel) h0 h1 ?_
  refine g_base (by decide +kernel : decode (m_byt 2) 49 = .ok (.iconst 0, 1)) rfl rfl ?_
  show m_run Z (2, 50, [(2, ((r0 : Nat) : Int)), l1], [(0, 0), (2, ((q_rf K r0 4 : Nat) : Int))], (K, σ, n, e, s)) = _
  exact g_inv (k := 1) (m' := 46) (np := 1) (as := [(2, ((q_rf K r0 4 : Nat) : Int)), (0, 0)]) (by decide +kernel : decode (m_byt 2) 50 = .ok (.invokevirtual 49, 3)) (Or.inl ⟨rfl, rfl⟩) (by decide +kernel) (by decide +kernel) (by decide +kernel) (Nat.le_of_ble_eq_true rfl) rfl (Or.inr (g_rcv (by decide +kernel) h2))
theorem b_2_53 {Z : mZ} {l1 : mV} {r0 : Nat} {h : mH} : m_run Z (2, 53, [(2, ((r0 : Nat) : Int)), l1], [], h) = m_run Z (2, 55, [(2, ((r0 : Nat) : Int)), (0, 0)], [], h) := by
  refine g_base (by decide +kernel : decode (m_byt 2) 53 = .ok (.iconst 0, 1)) rfl rfl ?_
  show m_run Z (2, 54, [(2, ((r0 : Nat) : Int)), l1], [(0, 0)], h) = _
  refine g_istore_n (k := 1) (by decide +kernel : decode (m_byt 2) 54 = .ok (.istore_n 1, 1)) (Nat.le_of_ble_eq_true rfl) ?_
  show m_run Z (2, 55, [(2, ((r0 : Nat) : Int)), (0, 0)], [], h) = _
  rfl
theorem b_2_55 {Z : mZ} {x1 : Int} {r0 : Nat} {K : Nat → mK} {σ : Nat → Nat → Int} {n e s : Nat} (h0 : q_ob K n r0 0) (h1 : q_rp K r0 0) (h2 : q_ob K n (q_rf K r0 0) 5) : m_run Z (2, 55, [(2, ((r0 : Nat) : Int)), (0, x1)], [], (K, σ, n, e, s)) = if w32 (σ ((q_rf K r0 0)) 8) ≤ w32 x1 then m_run Z (2, 109, [(2, ((r0 : Nat) : Int)), (0, x1)], [], (K, σ, n, e, s)) else m_run Z (2, 66, [(2, ((r0 : Nat) : Int)), (0, x1)], [], (K, σ, n, e, s)) := by
  refine g_iload_n (k := 1) (x := x1) (by decide +kernel : decode (m_byt 2) 55 = .ok (.iload_n 1, 1)) rfl ?_
  refine g_aload_n (k := 0) (v := (2, ((r0 : Nat) : Int))) (by decide +kernel : decode (m_byt 2) 56 = .ok (.aload_n 0, 1)) rfl (Or.inl rfl) ?_
  refine g_getr (ci := 0) (f := 0) (by decide +kernel : decode (m_byt 2) 57 = .ok (.getfield 29, 3)) (by decide +kernel) (by decide +kernel) (by decide +kernel) h0 h1 ?_
  refine g_getf (ci := 5) (f := 8) (by decide +kernel : decode (m_byt 2) 60 = .ok (.getfield 52, 3)) (by decide +kernel) (by decide +kernel) (by decide +kernel) h2 ?_
  exact g_brq (t := 109) (off := 46) (by decide +kernel : decode (m_byt 2) 63 = .ok (.if_icmp .ge 46, 3)) rfl rfl (by decide)
theorem b_2_66 {Z : mZ} {x1 : Int} {r0 : Nat} {K : Nat → mK} {σ : Nat → Nat → Int} {n e s : Nat} (h0 : q_ob K n r0 0) (h1 : q_rp K r0 0) (h2 : q_ob K n (q_rf K r0 0) 5) (h3 : q_rp K (q_rf K r0 0) 9) (h4 : q_ob K n (q_rf K ((q_rf K r0 0)) 9) 3) : m_run Z (2, 66, [(2, ((r0 : Nat) : Int)), (0, x1)], [], (K, σ, n, e, s)) = (m_cl Z 44 [(2, ((q_rf K ((q_rf K r0 0)) 9 : Nat) : Int)), (0, x1)] (K, σ, n, e, s)).bind (m_aft (m_run Z) 2 75 [(2, ((r0 : Nat) : Int)), (0, x1)] [(2, ((r0 : Nat) : Int))]) := by
  refine g_aload_n (k := 0) (v := (2, ((r0 : Nat) : Int))) (by decide +kernel : decode (m_byt 2) 66 = .ok (.aload_n 0, 1)) rfl (Or.inl rfl) ?_
  refine g_aload_n (k := 0) (v := (2, ((r0 : Nat) : Int))) (by decide +kernel : decode (m_byt 2) 67 = .ok (.aload_n 0, 1)) rfl (Or.inl rfl) ?_
  refine g_getr (ci := 0) (f := 0) (by decide +kernel : decode (m_byt 2) 68 = .ok (.getfield 29, 3)) (by decide +kernel) (by decide +kernel) (by decide +kernel) h0 h1 ?_
  refine g_getr (ci := 5) (f := 9) (by decide +kernel : decode (m_byt 2) 71 = .ok (.getfield 55, 3)) (by decide +kernel) (by decide +kernel) (by decide +kernel) h2 h3 ?_
  refine g_iload_n (k := 1) (x := x1) (by decide +kernel : decode (m_byt 2) 74 = .ok (.iload_n 1, 1)) rfl ?_
  exact g_inv (k := 1) (m' := 44) (np := 1) (as := [(2, ((q_rf K ((q_rf K r0 0)) 9 : Nat) : Int)), (0, x1)]) (by decide +kernel : decode (m_byt 2) 75 = .ok (.invokevirtual 58, 3)) (Or.inl ⟨rfl, rfl⟩) (by decide +kernel) (by decide +kernel) (by decide +kernel) (Nat.le_of_ble_eq_true rfl) rfl (Or.inr (g_rcv (by decide +kernel) h4))
theorem b_2_78 {Z : mZ} {s0 x1 : Int} {s1 r0 : Nat} {K : Nat → mK} {σ : Nat → Nat → Int} {n e s : Nat} (h0 : q_ob K n r0 0) (h1 : q_rp K r0 0) (h2 : q_ob K n (q_rf K r0 0) 5) (h3 : q_rp K (q_rf K r0 0) 10) (h4 : q_ob K n (q_rf K ((q_rf K r0 0)) 10) 3) : m_run Z (2, 78, [(2, ((r0 : Nat) : Int)), (0, x1)], [(0, s0), (2, ((s1 : Nat) : Int))], (K, σ, n, e, s)) = (m_cl Z 44 [(2, ((q_rf K ((q_rf K r0 0)) 10 : Nat) : Int)), (0, x1)] (K, σ, n, e, s)).bind (m_aft (m_run Z) 2 86 [(2, ((r0 : Nat) : Int)), (0, x1)] [(0, s0), (2, ((s1 : Nat) : Int))]) := by
  refine g_aload_n (k := 0) (v := (2, ((r0 : Nat) : Int))) (by decide +kernel : decode (m_byt 2) 78 = .ok (.aload_n 0, 1)) rfl (Or.inl rfl) ?_
  refine g_getr (ci := 0) (f := 0) (by decide +kernel : decode (m_byt 2) 79 = .ok (.getfield 29, 3)) (by decide +kernel) (by decide +kernel) (by decide +kernel) h0 h1 ?_
  refine g_getr (ci := 5) (f := 10) (by decide +kernel : decode (m_byt 2) 82 = .ok (.getfield 62, 3)) (by decide +kernel) (by decide +kernel) (by decide +kernel) h2 h3 ?_
  refine g_iload_n (k := 1) (x := x1) (by decide +kernel : decode (m_byt 2) 85 = .ok (.iload_n 1, 1)) rfl ?_
  exact g_inv (k := 1) (m' := 44) (np := 1) (as := [(2, ((q_rf K ((q_rf K r0 0)) 10 : Nat) : Int)), (0, x1)]) (by decide +kernel : decode (m_byt 2) 86 = .ok (.invokevirtual 58, 3)) (Or.inl ⟨rfl, rfl⟩) (by decide +kernel) (by decide +kernel) (by decide +kernel) (Nat.le_of_ble_eq_true rfl) rfl (Or.inr (g_rcv (by decide +kernel) h4))
theorem b_2_89 {Z : mZ} {s0 s1 x1 : Int} {s2 r0 : Nat} {K : Nat → mK} {σ : Nat → Nat → Int} {n e s : Nat} (h0 : q_ob K n r0 0) (h1 : q_rp K r0 0) (h2 : q_ob K n (q_rf K r0 0) 5) (h3 : q_rp K (q_rf K r0 0) 11) (h4 : q_ob K n (q_rf K ((q_rf K r0 0)) 11) 3) : m_run Z (2, 89, [(2, ((r0 : Nat) : Int)), (0, x1)], [(0, s0), (0, s1), (2, ((s2 : Nat) : Int))], (K, σ, n, e, s)) = (m_cl Z 44 [(2, ((q_rf K ((q_rf K r0 0)) 11 : Nat) : Int)), (0, x1)] (K, σ, n, e, s)).bind (m_aft (m_run Z) 2 97 [(2, ((r0 : Nat) : Int)), (0, x1)] [(0, s0), (0, s1), (2, ((s2 : Nat) : Int))]) := by
  refine g_aload_n (k := 0) (v := (2, ((r0 : Nat) : Int))) (by decide +kernel : decode (m_byt 2) 89 = .ok (.aload_n 0, 1)) rfl (Or.inl rfl) ?_
  refine g_getr (ci := 0) (f := 0) (by decide +kernel : decode (m_byt 2) 90 = .ok (.getfield 29, 3)) (by decide +kernel) (by decide +kernel) (by decide +kernel) h0 h1 ?_
  refine g_getr (ci := 5) (f := 11) (by decide +kernel : decode (m_byt 2) 93 = .ok (.getfield 63, 3)) (by decide +kernel) (by decide +kernel) (by decide +kernel) h2 h3 ?_
  refine g_iload_n (k := 1) (x := x1) (by decide +kernel : decode (m_byt 2) 96 = .ok (.iload_n 1, 1)) rfl ?_
  exact g_inv (k := 1) (m' := 44) (np := 1) (as := [(2, ((q_rf K ((q_rf K r0 0)) 11 : Nat) : Int)), (0, x1)]) (by decide +kernel : decode (m_byt 2) 97 = .ok (.invokevirtual 58, 3)) (Or.inl ⟨rfl, rfl⟩) (by decide +kernel) (by decide +kernel) (by decide +kernel) (Nat.le_of_ble_eq_true rfl) rfl (Or.inr (g_rcv (by decide +kernel) h4))
theorem b_2_100 {Z : mZ} {l0 l1 : mV} {s0 s1 s2 : Int} {s3 : Nat} {K : Nat → mK} {σ : Nat → Nat → Int} {n e s : Nat} (h0 : q_ob K n s3 0) : m_run Z (2, 100, [l0, l1], [(0, s0), (0, s1), (0, s2), (2, ((s3 : Nat) : Int))], (K, σ, n, e, s)) = (m_cl Z 3 [(2, ((s3 : Nat) : Int)), (0, s2), (0, s1), (0, s0)] (K, σ, n, e, s)).bind (m_aft (m_run Z) 2 100 [l0, l1] []) := by
  exact g_inv (k := 1) (m' := 3) (np := 3) (as := [(2, ((s3 : Nat) : Int)), (0, s2), (0, s1), (0, s0)]) (by decide +kernel : decode (m_byt 2) 100 = .ok (.invokevirtual 64, 3)) (Or.inl ⟨rfl, rfl⟩) (by decide +kernel) (by decide +kernel) (by decide +kernel) (Nat.le_of_ble_eq_true rfl) rfl (Or.inr (g_rcv (by decide +kernel) h0))
theorem b_2_103 {Z : mZ} {x1 : Int} {r0 : Nat} {h : mH} : m_run Z (2, 103, [(2, ((r0 : Nat) : Int)), (0, x1)], [], h) = m_run Z (2, 55, [(2, ((r0 : Nat) : Int)), (0, x1 + 1)], [], h) := by
  refine g_iinc (k := 1) (x := x1) (by decide +kernel : decode (m_byt 2) 103 = .ok (.iinc 1 1, 3)) rfl (Nat.le_of_ble_eq_true rfl) ?_
  show m_run Z (2, 106, [(2, ((r0 : Nat) : Int)), (0, x1 + 1)], [], h) = _
  refine g_jmp (t := 55) (by decide +kernel : decode (m_byt 2) 106 = .ok (.goto (-51), 3)) (by decide) ?_
  rfl
theorem b_2_109 {Z : mZ} {l1 : mV} {r0 : Nat} {h : mH} : m_run Z (2, 109, [(2, ((r0 : Nat) : Int)), l1], [], h) = m_run Z (2, 111, [(2, ((r0 : Nat) : Int)), (0, 0)], [], h) := by
  refine g_base (by decide +kernel : decode (m_byt 2) 109 = .ok (.iconst 0, 1)) rfl rfl ?_
  show m_run Z (2, 110, [(2, ((r0 : Nat) : Int)), l1], [(0, 0)], h) = _
  refine g_istore_n (k := 1) (by decide +kernel : decode (m_byt 2) 110 = .ok (.istore_n 1, 1)) (Nat.le_of_ble_eq_true rfl) ?_
  show m_run Z (2, 111, [(2, ((r0 : Nat) : Int)), (0, 0)], [], h) = _
  rfl
theorem b_2_111 {Z : mZ} {x1 : Int} {r0 : Nat} {K : Nat → mK} {σ : Nat → Nat → Int} {n e s : Nat} (h0 : q_ob K n r0 0) : m_run Z (2, 111, [(2, ((r0 : Nat) : Int)), (0, x1)], [], (K, σ, n, e, s)) = if w32 (σ r0 2) < w32 x1 then m_run Z (2, 131, [(2, ((r0 : Nat) : Int)), (0, x1)], [], (K, σ, n, e, s)) else m_run Z (2, 119, [(2, ((r0 : Nat) : Int)), (0, x1)], [], (K, σ, n, e, s)) := by
  refine g_iload_n (k := 1) (x := x1) (by decide +kernel : decode (m_byt 2) 111 = .ok (.iload_n 1, 1)) rfl ?_
  refine g_aload_n (k := 0) (v := (2, ((r0 : Nat) : Int))) (by decide +kernel : decode (m_byt 2) 112 = .ok (.aload_n 0, 1)) rfl (Or.inl rfl) ?_
  refine g_getf (ci := 0) (f := 2) (by decide +kernel : decode (m_byt 2) 113 = .ok (.getfield 46, 3)) (by decide +kernel) (by decide +kernel) (by decide +kernel) h0 ?_
  exact g_brq (t := 131) (off := 15) (by decide +kernel : decode (m_byt 2) 116 = .ok (.if_icmp .gt 15, 3)) rfl rfl (by decide)
theorem b_2_119 {Z : mZ} {x1 : Int} {r0 : Nat} {K : Nat → mK} {σ : Nat → Nat → Int} {n e s : Nat} (h0 : q_ob K n r0 0) : m_run Z (2, 119, [(2, ((r0 : Nat) : Int)), (0, x1)], [], (K, σ, n, e, s)) = (m_cl Z 6 [(2, ((r0 : Nat) : Int)), (0, 2), (0, x1)] (K, σ, n, e, s)).bind (m_aft (m_run Z) 2 122 [(2, ((r0 : Nat) : Int)), (0, x1)] []) := by
  refine g_aload_n (k := 0) (v := (2, ((r0 : Nat) : Int))) (by decide +kernel : decode (m_byt 2) 119 = .ok (.aload_n 0, 1)) rfl (Or.inl rfl) ?_
  refine g_base (by decide +kernel : decode (m_byt 2) 120 = .ok (.iconst 2, 1)) rfl rfl ?_
  show m_run Z (2, 121, [(2, ((r0 : Nat) : Int)), (0, x1)], [(0, 2), (2, ((r0 : Nat) : Int))], (K, σ, n, e, s)) = _
  refine g_iload_n (k := 1) (x := x1) (by decide +kernel : decode (m_byt 2) 121 = .ok (.iload_n 1, 1)) rfl ?_
  exact g_inv (k := 1) (m' := 6) (np := 2) (as := [(2, ((r0 : Nat) : Int)), (0, 2), (0, x1)]) (by decide +kernel : decode (m_byt 2) 122 = .ok (.invokevirtual 68, 3)) (Or.inl ⟨rfl, rfl⟩) (by decide +kernel) (by decide +kernel) (by decide +kernel) (Nat.le_of_ble_eq_true rfl) rfl (Or.inr (g_rcv (by decide +kernel) h0))
theorem b_2_125 {Z : mZ} {x1 : Int} {r0 : Nat} {h : mH} : m_run Z (2, 125, [(2, ((r0 : Nat) : Int)), (0, x1)], [], h) = m_run Z (2, 111, [(2, ((r0 : Nat) : Int)), (0, x1 + 1)], [], h) := by
  refine g_iinc (k := 1) (x := x1) (by decide +kernel : decode (m_byt 2) 125 = .ok (.iinc 1 1, 3)) rfl (Nat.le_of_ble_eq_true rfl) ?_
  show m_run Z (2, 128, [(2, ((r0 : Nat) : Int)), (0, x1 + 1)], [], h) = _
  refine g_jmp (t := 111) (by decide +kernel : decode (m_byt 2) 128 = .ok (.goto (-17), 3)) (by decide) ?_
  rfl
theorem b_2_131 {Z : mZ} {l1 : mV} {r0 : Nat} {K : Nat → mK} {σ : Nat → Nat → Int} {n e s : Nat} (h0 : q_ob K n r0 0) : m_run Z (2, 131, [(2, ((r0 : Nat) : Int)), l1], [], (K, σ, n, e, s)) = (m_cl Z 6 [(2, ((r0 : Nat) : Int)), (0, 3), (0, (σ r0 2))] (K, σ, n, e, s)).bind (m_aft (m_run Z) 2 137 [(2, ((r0 : Nat) : Int)), l1] []) := by
  refine g_aload_n (k := 0) (v := (2, ((r0 : Nat) : Int))) (by decide +kernel : decode (m_byt 2) 131 = .ok (.aload_n 0, 1)) rfl (Or.inl rfl) ?_
  refine g_base (by decide +kernel : decode (m_byt 2) 132 = .ok (.iconst 3, 1)) rfl rfl ?_
  show m_run Z (2, 133, [(2, ((r0 : Nat) : Int)), l1], [(0, 3), (2, ((r0 : Nat) : Int))], (K, σ, n, e, s)) = _
  refine g_aload_n (k := 0) (v := (2, ((r0 : Nat) : Int))) (by decide +kernel : decode (m_byt 2) 133 = .ok (.aload_n 0, 1)) rfl (Or.inl rfl) ?_
  refine g_getf (ci := 0) (f := 2) (by decide +kernel : decode (m_byt 2) 134 = .ok (.getfield 46, 3)) (by decide +kernel) (by decide +kernel) (by decide +kernel) h0 ?_
  exact g_inv (k := 1) (m' := 6) (np := 2) (as := [(2, ((r0 : Nat) : Int)), (0, 3), (0, (σ r0 2))]) (by decide +kernel : decode (m_byt 2) 137 = .ok (.invokevirtual 68, 3)) (Or.inl ⟨rfl, rfl⟩) (by decide +kernel) (by decide +kernel) (by decide +kernel) (Nat.le_of_ble_eq_true rfl) rfl (Or.inr (g_rcv (by decide +kernel) h0))
theorem b_2_140 {Z : mZ} {l0 l1 : mV} {h : mH} : m_run Z (2, 140, [l0, l1], [], h) = some (.inl (9, 0), h) := by
  exact g_vret (by decide +kernel : decode (m_byt 2) 140 = .ok (.return_, 1)) (by decide +kernel)
theorem e_3 {Z : mZ} {r0 : Nat} {x1 : Int} {x2 : Int} {x3 : Int} {h : mH} : m_cl Z 3 [(2, ((r0 : Nat) : Int)), (0, x1), (0, x2), (0, x3)] h = m_run Z (3, 0, [(2, ((r0 : Nat) : Int)), (0, x1), (0, x2), (0, x3), (9, 0), (9, 0), (9, 0), (9, 0)], [], h) := g_ent (k := 8) (by decide) (by decide +kernel) (Nat.le_of_ble_eq_true rfl) (by decide +kernel) rfl
theorem b_3_0 {Z : mZ} {l1 l2 l4 l5 l6 l7 : mV} {x3 : Int} {r0 : Nat} {K : Nat → mK} {σ : Nat → Nat → Int} {n e s : Nat} (h0 : q_ob K n r0 0) : m_run Z (3, 0, [(2, ((r0 : Nat) : Int)), l1, l2, (0, x3), l4, l5, l6, l7], [], (K, σ, n, e, s)) = (m_cl Z 4 [(2, ((r0 : Nat) : Int)), (0, 0), (0, 0), (0, x3)] (K, σ, n, e, s)).bind (m_aft (m_run Z) 3 4 [(2, ((r0 : Nat) : Int)), l1, l2, (0, x3), l4, l5, l6, l7] []) := by
  refine g_aload_n (k := 0) (v := (2, ((r0 : Nat) : Int))) (by decide +kernel : decode (m_byt 3) 0 = .ok (.aload_n 0, 1)) rfl (Or.inl rfl) ?_
  refine g_base (by decide +kernel : decode (m_byt 3) 1 = .ok (.iconst 0, 1)) rfl rfl ?_
  show m_run Z (3, 2, [(2, ((r0 : Nat) : Int)), l1, l2, (0, x3), l4, l5, l6, l7], [(0, 0), (2, ((r0 : Nat) : Int))], (K, σ, n, e, s)) = _
  refine g_base (by decide +kernel : decode (m_byt 3) 2 = .ok (.iconst 0, 1)) rfl rfl ?_
  show m_run Z (3, 3, [(2, ((r0 : Nat) : Int)), l1, l2, (0, x3), l4, l5, l6, l7], [(0, 0), (0, 0), (2, ((r0 : Nat) : Int))], (K, σ, n, e, s)) = _
  refine g_iload_n (k := 3) (x := x3) (by decide +kernel : decode (m_byt 3) 3 = .ok (.iload_n 3, 1)) rfl ?_
  exact g_inv (k := 1) (m' := 4) (np := 3) (as := [(2, ((r0 : Nat) : Int)), (0, 0), (0, 0), (0, x3)]) (by decide +kernel : decode (m_byt 3) 4 = .ok (.invokevirtual 72, 3)) (Or.inl ⟨rfl, rfl⟩) (by decide +kernel) (by decide +kernel) (by decide +kernel) (Nat.le_of_ble_eq_true rfl) rfl (Or.inr (g_rcv (by decide +kernel) h0))
theorem b_3_7 {Z : mZ} {l0 l1 l2 l4 l5 l6 l7 : mV} {x3 : Int} {h : mH} : m_run Z (3, 7, [l0, l1, l2, (0, x3), l4, l5, l6, l7], [], h) = m_run Z (3, 10, [l0, l1, l2, (0, x3), (0, 0), l5, l6, l7], [], h) := by
  refine g_base (by decide +kernel : decode (m_byt 3) 7 = .ok (.iconst 0, 1)) rfl rfl ?_
  show m_run Z (3, 8, [l0, l1, l2, (0, x3), l4, l5, l6, l7], [(0, 0)], h) = _
  refine g_istore (k := 4) (by decide +kernel : decode (m_byt 3) 8 = .ok (.istore 4, 2)) (Nat.le_of_ble_eq_true rfl) ?_
  show m_run Z (3, 10, [l0, l1, l2, (0, x3), (0, 0), l5, l6, l7], [], h) = _
  rfl
theorem b_3_10 {Z : mZ} {l1 l2 l3 l5 l6 l7 : mV} {x4 : Int} {r0 : Nat} {K : Nat → mK} {σ : Nat → Nat → Int} {n e s : Nat} (h0 : q_ob K n r0 0) (h1 : q_rp K r0 0) (h2 : q_ob K n (q_rf K r0 0) 5) : m_run Z (3, 10, [(2, ((r0 : Nat) : Int)), l1, l2, l3, (0, x4), l5, l6, l7], [], (K, σ, n, e, s)) = (m_cl Z 67 [(2, ((q_rf K r0 0 : Nat) : Int))] (K, σ, n, e, s)).bind (m_aft (m_run Z) 3 16 [(2, ((r0 : Nat) : Int)), l1, l2, l3, (0, x4), l5, l6, l7] [(0, x4)]) := by
  refine g_iload (k := 4) (x := x4) (by decide +kernel : decode (m_byt 3) 10 = .ok (.iload 4, 2)) rfl ?_
  refine g_aload_n (k := 0) (v := (2, ((r0 : Nat) : Int))) (by decide +kernel : decode (m_byt 3) 12 = .ok (.aload_n 0, 1)) rfl (Or.inl rfl) ?_
  refine g_getr (ci := 0) (f := 0) (by decide +kernel : decode (m_byt 3) 13 = .ok (.getfield 29, 3)) (by decide +kernel) (by decide +kernel) (by decide +kernel) h0 h1 ?_
  exact g_inv (k := 1) (m' := 67) (np := 0) (as := [(2, ((q_rf K r0 0 : Nat) : Int))]) (by decide +kernel : decode (m_byt 3) 16 = .ok (.invokevirtual 75, 3)) (Or.inl ⟨rfl, rfl⟩) (by decide +kernel) (by decide +kernel) (by decide +kernel) (Nat.le_of_ble_eq_true rfl) rfl (Or.inr (g_rcv (by decide +kernel) h2))
theorem b_3_19 {Z : mZ} {l0 l1 l2 l3 l4 l5 l6 l7 : mV} {s0 s1 : Int} {h : mH} : m_run Z (3, 19, [l0, l1, l2, l3, l4, l5, l6, l7], [(0, s0), (0, s1)], h) = if w32 s0 ≤ w32 s1 then m_run Z (3, 88, [l0, l1, l2, l3, l4, l5, l6, l7], [], h) else m_run Z (3, 22, [l0, l1, l2, l3, l4, l5, l6, l7], [], h) := by
  exact g_brq (t := 88) (off := 69) (by decide +kernel : decode (m_byt 3) 19 = .ok (.if_icmp .ge 69, 3)) rfl rfl (by decide)
theorem b_3_22 {Z : mZ} {l5 l6 l7 : mV} {x4 x1 x2 x3 : Int} {r0 : Nat} {K : Nat → mK} {σ : Nat → Nat → Int} {n e s : Nat} (h0 : q_ob K n r0 0) (h1 : q_rp K r0 0) (h2 : q_ob K n (q_rf K r0 0) 5) : m_run Z (3, 22, [(2, ((r0 : Nat) : Int)), (0, x1), (0, x2), (0, x3), (0, x4), l5, l6, l7], [], (K, σ, n, e, s)) = (m_cl Z 80 [(2, ((q_rf K r0 0 : Nat) : Int)), (0, x4), (0, x1), (0, x2), (0, x3)] (K, σ, n, e, s)).bind (m_aft (m_run Z) 3 31 [(2, ((r0 : Nat) : Int)), (0, x1), (0, x2), (0, x3), (0, x4), l5, l6, l7] []) := by
  refine g_aload_n (k := 0) (v := (2, ((r0 : Nat) : Int))) (by decide +kernel : decode (m_byt 3) 22 = .ok (.aload_n 0, 1)) rfl (Or.inl rfl) ?_
  refine g_getr (ci := 0) (f := 0) (by decide +kernel : decode (m_byt 3) 23 = .ok (.getfield 29, 3)) (by decide +kernel) (by decide +kernel) (by decide +kernel) h0 h1 ?_
  refine g_iload (k := 4) (x := x4) (by decide +kernel : decode (m_byt 3) 26 = .ok (.iload 4, 2)) rfl ?_
  refine g_iload_n (k := 1) (x := x1) (by decide +kernel : decode (m_byt 3) 28 = .ok (.iload_n 1, 1)) rfl ?_
  refine g_iload_n (k := 2) (x := x2) (by decide +kernel : decode (m_byt 3) 29 = .ok (.iload_n 2, 1)) rfl ?_
  refine g_iload_n (k := 3) (x := x3) (by decide +kernel : decode (m_byt 3) 30 = .ok (.iload_n 3, 1)) rfl ?_
  exact g_inv (k := 1) (m' := 80) (np := 4) (as := [(2, ((q_rf K r0 0 : Nat) : Int)), (0, x4), (0, x1), (0, x2), (0, x3)]) (by decide +kernel : decode (m_byt 3) 31 = .ok (.invokevirtual 78, 3)) (Or.inl ⟨rfl, rfl⟩) (by decide +kernel) (by decide +kernel) (by decide +kernel) (Nat.le_of_ble_eq_true rfl) rfl (Or.inr (g_rcv (by decide +kernel) h2))
theorem b_3_34 {Z : mZ} {l0 l1 l2 l3 l5 l6 l7 : mV} {s0 x4 : Int} {h : mH} : m_run Z (3, 34, [l0, l1, l2, l3, (0, x4), l5, l6, l7], [(0, s0)], h) = m_run Z (3, 45, [l0, l1, l2, l3, (0, x4), (0, s0), (0, (i_shl 1 x4)), (0, 0)], [], h) := by
  refine g_istore (k := 5) (by decide +kernel : decode (m_byt 3) 34 = .ok (.istore 5, 2)) (Nat.le_of_ble_eq_true rfl) ?_
  show m_run Z (3, 36, [l0, l1, l2, l3, (0, x4), (0, s0), l6, l7], [], h) = _
  refine g_base (by decide +kernel : decode (m_byt 3) 36 = .ok (.iconst 1, 1)) rfl rfl ?_
  show m_run Z (3, 37, [l0, l1, l2, l3, (0, x4), (0, s0), l6, l7], [(0, 1)], h) = _
  refine g_iload (k := 4) (x := x4) (by decide +kernel : decode (m_byt 3) 37 = .ok (.iload 4, 2)) rfl ?_
  refine g_base (by decide +kernel : decode (m_byt 3) 39 = .ok (.ishl, 1)) rfl rfl ?_
  show m_run Z (3, 40, [l0, l1, l2, l3, (0, x4), (0, s0), l6, l7], [(0, (i_shl 1 x4))], h) = _
  refine g_istore (k := 6) (by decide +kernel : decode (m_byt 3) 40 = .ok (.istore 6, 2)) (Nat.le_of_ble_eq_true rfl) ?_
  show m_run Z (3, 42, [l0, l1, l2, l3, (0, x4), (0, s0), (0, (i_shl 1 x4)), l7], [], h) = _
  refine g_base (by decide +kernel : decode (m_byt 3) 42 = .ok (.iconst 0, 1)) rfl rfl ?_
  show m_run Z (3, 43, [l0, l1, l2, l3, (0, x4), (0, s0), (0, (i_shl 1 x4)), l7], [(0, 0)], h) = _
  refine g_istore (k := 7) (by decide +kernel : decode (m_byt 3) 43 = .ok (.istore 7, 2)) (Nat.le_of_ble_eq_true rfl) ?_
  show m_run Z (3, 45, [l0, l1, l2, l3, (0, x4), (0, s0), (0, (i_shl 1 x4)), (0, 0)], [], h) = _
  rfl
theorem b_3_45 {Z : mZ} {l0 l1 l2 l3 l4 l5 : mV} {x7 x6 : Int} {h : mH} : m_run Z (3, 45, [l0, l1, l2, l3, l4, l5, (0, x6), (0, x7)], [], h) = if w32 x6 ≤ w32 x7 then m_run Z (3, 82, [l0, l1, l2, l3, l4, l5, (0, x6), (0, x7)], [], h) else m_run Z (3, 52, [l0, l1, l2, l3, l4, l5, (0, x6), (0, x7)], [], h) := by
  refine g_iload (k := 7) (x := x7) (by decide +kernel : decode (m_byt 3) 45 = .ok (.iload 7, 2)) rfl ?_
  refine g_iload (k := 6) (x := x6) (by decide +kernel : decode (m_byt 3) 47 = .ok (.iload 6, 2)) rfl ?_
  exact g_brq (t := 82) (off := 33) (by decide +kernel : decode (m_byt 3) 49 = .ok (.if_icmp .ge 33, 3)) rfl rfl (by decide)
theorem b_3_52 {Z : mZ} {l1 l2 l3 l4 : mV} {x6 x7 x5 : Int} {r0 : Nat} {K : Nat → mK} {σ : Nat → Nat → Int} {n e s : Nat} (h0 : q_ob K n r0 0) (h1 : q_rp K r0 5) (h2 : q_ob K n (q_rf K r0 5) 3) : m_run Z (3, 52, [(2, ((r0 : Nat) : Int)), l1, l2, l3, l4, (0, x5), (0, x6), (0, x7)], [], (K, σ, n, e, s)) = (m_cl Z 44 [(2, ((q_rf K r0 5 : Nat) : Int)), (0, x7)] (K, σ, n, e, s)).bind (m_aft (m_run Z) 3 66 [(2, ((r0 : Nat) : Int)), l1, l2, l3, l4, (0, x5), (0, x6), (0, x7)] [(0, x5), (0, (x6 + x7)), (2, ((r0 : Nat) : Int))]) := by
  refine g_aload_n (k := 0) (v := (2, ((r0 : Nat) : Int))) (by decide +kernel : decode (m_byt 3) 52 = .ok (.aload_n 0, 1)) rfl (Or.inl rfl) ?_
  refine g_iload (k := 6) (x := x6) (by decide +kernel : decode (m_byt 3) 53 = .ok (.iload 6, 2)) rfl ?_
  refine g_iload (k := 7) (x := x7) (by decide +kernel : decode (m_byt 3) 55 = .ok (.iload 7, 2)) rfl ?_
  refine g_base (by decide +kernel : decode (m_byt 3) 57 = .ok (.iadd, 1)) rfl rfl ?_
  show m_run Z (3, 58, [(2, ((r0 : Nat) : Int)), l1, l2, l3, l4, (0, x5), (0, x6), (0, x7)], [(0, (x6 + x7)), (2, ((r0 : Nat) : Int))], (K, σ, n, e, s)) = _
  refine g_iload (k := 5) (x := x5) (by decide +kernel : decode (m_byt 3) 58 = .ok (.iload 5, 2)) rfl ?_
  refine g_aload_n (k := 0) (v := (2, ((r0 : Nat) : Int))) (by decide +kernel : decode (m_byt 3) 60 = .ok (.aload_n 0, 1)) rfl (Or.inl rfl) ?_
  refine g_getr (ci := 0) (f := 5) (by decide +kernel : decode (m_byt 3) 61 = .ok (.getfield 23, 3)) (by decide +kernel) (by decide +kernel) (by decide +kernel) h0 h1 ?_
  refine g_iload (k := 7) (x := x7) (by decide +kernel : decode (m_byt 3) 64 = .ok (.iload 7, 2)) rfl ?_
  exact g_inv (k := 1) (m' := 44) (np := 1) (as := [(2, ((q_rf K r0 5 : Nat) : Int)), (0, x7)]) (by decide +kernel : decode (m_byt 3) 66 = .ok (.invokevirtual 58, 3)) (Or.inl ⟨rfl, rfl⟩) (by decide +kernel) (by decide +kernel) (by decide +kernel) (Nat.le_of_ble_eq_true rfl) rfl (Or.inr (g_rcv (by decide +kernel) h2))
theorem b_3_69 {Z : mZ} {l0 l1 l2 l4 l5 l6 l7 : mV} {s0 s1 s2 x3 : Int} {s3 : Nat} {K : Nat → mK} {σ : Nat → Nat → Int} {n e s : Nat} (h0 : q_ob K n s3 0) : m_run Z (3, 69, [l0, l1, l2, (0, x3), l4, l5, l6, l7], [(0, s0), (0, s1), (0, s2), (2, ((s3 : Nat) : Int))], (K, σ, n, e, s)) = (m_cl Z 4 [(2, ((s3 : Nat) : Int)), (0, s2), (0, (if w32 s1 < w32 s0 then s0 else s1)), (0, x3)] (K, σ, n, e, s)).bind (m_aft (m_run Z) 3 73 [l0, l1, l2, (0, x3), l4, l5, l6, l7] []) := by
  refine g_max (by decide +kernel : decode (m_byt 3) 69 = .ok (.invokestatic 82, 3)) (by decide +kernel) (by decide +kernel) (Nat.le_of_ble_eq_true rfl) ?_
  show m_run Z (3, 72, [l0, l1, l2, (0, x3), l4, l5, l6, l7], [(0, (if w32 s1 < w32 s0 then s0 else s1)), (0, s2), (2, ((s3 : Nat) : Int))], (K, σ, n, e, s)) = _
  refine g_iload_n (k := 3) (x := x3) (by decide +kernel : decode (m_byt 3) 72 = .ok (.iload_n 3, 1)) rfl ?_
  exact g_inv (k := 1) (m' := 4) (np := 3) (as := [(2, ((s3 : Nat) : Int)), (0, s2), (0, (if w32 s1 < w32 s0 then s0 else s1)), (0, x3)]) (by decide +kernel : decode (m_byt 3) 73 = .ok (.invokevirtual 72, 3)) (Or.inl ⟨rfl, rfl⟩) (by decide +kernel) (by decide +kernel) (by decide +kernel) (Nat.le_of_ble_eq_true rfl) rfl (Or.inr (g_rcv (by decide +kernel) h0))
theorem b_3_76 {Z : mZ} {l0 l1 l2 l3 l4 l5 : mV} {x7 x6 : Int} {h : mH} : m_run Z (3, 76, [l0, l1, l2, l3, l4, l5, (0, x6), (0, x7)], [], h) = m_run Z (3, 45, [l0, l1, l2, l3, l4, l5, (0, x6), (0, x7 + 1)], [], h) := by
  refine g_iinc (k := 7) (x := x7) (by decide +kernel : decode (m_byt 3) 76 = .ok (.iinc 7 1, 3)) rfl (Nat.le_of_ble_eq_true rfl) ?_
  show m_run Z (3, 79, [l0, l1, l2, l3, l4, l5, (0, x6), (0, x7 + 1)], [], h) = _
  refine g_jmp (t := 45) (by decide +kernel : decode (m_byt 3) 79 = .ok (.goto (-34), 3)) (by decide) ?_
  rfl
theorem b_3_82 {Z : mZ} {l0 l1 l2 l5 l6 l7 : mV} {x4 x3 : Int} {h : mH} : m_run Z (3, 82, [l0, l1, l2, (0, x3), (0, x4), l5, l6, l7], [], h) = m_run Z (3, 10, [l0, l1, l2, (0, x3), (0, x4 + 1), l5, l6, l7], [], h) := by
  refine g_iinc (k := 4) (x := x4) (by decide +kernel : decode (m_byt 3) 82 = .ok (.iinc 4 1, 3)) rfl (Nat.le_of_ble_eq_true rfl) ?_
  show m_run Z (3, 85, [l0, l1, l2, (0, x3), (0, x4 + 1), l5, l6, l7], [], h) = _
  refine g_jmp (t := 10) (by decide +kernel : decode (m_byt 3) 85 = .ok (.goto (-75), 3)) (by decide) ?_
  rfl
theorem b_3_88 {Z : mZ} {l0 l1 l2 l3 l4 l5 l6 l7 : mV} {h : mH} : m_run Z (3, 88, [l0, l1, l2, l3, l4, l5, l6, l7], [], h) = some (.inl (9, 0), h) := by
  exact g_vret (by decide +kernel : decode (m_byt 3) 88 = .ok (.return_, 1)) (by decide +kernel)
theorem e_4 {Z : mZ} {r0 : Nat} {x1 : Int} {x2 : Int} {x3 : Int} {h : mH} : m_cl Z 4 [(2, ((r0 : Nat) : Int)), (0, x1), (0, x2), (0, x3)] h = m_run Z (4, 0, [(2, ((r0 : Nat) : Int)), (0, x1), (0, x2), (0, x3)], [], h) := g_ent (k := 4) (by decide) (by decide +kernel) (Nat.le_of_ble_eq_true rfl) (by decide +kernel) rfl
theorem b_4_0 {Z : mZ} {l3 : mV} {x1 x2 : Int} {r0 : Nat} {K : Nat → mK} {σ : Nat → Nat → Int} {n e s : Nat} (h0 : q_ob K n r0 0) (h1 : q_rp K r0 5) (h2 : q_ob K n (q_rf K r0 5) 3) : m_run Z (4, 0, [(2, ((r0 : Nat) : Int)), (0, x1), (0, x2), l3], [], (K, σ, n, e, s)) = (m_cl Z 45 [(2, ((q_rf K r0 5 : Nat) : Int)), (0, x1), (0, x2)] (K, σ, n, e, s)).bind (m_aft (m_run Z) 4 6 [(2, ((r0 : Nat) : Int)), (0, x1), (0, x2), l3] []) := by
  refine g_aload_n (k := 0) (v := (2, ((r0 : Nat) : Int))) (by decide +kernel : decode (m_byt 4) 0 = .ok (.aload_n 0, 1)) rfl (Or.inl rfl) ?_
  refine g_getr (ci := 0) (f := 5) (by decide +kernel : decode (m_byt 4) 1 = .ok (.getfield 23, 3)) (by decide +kernel) (by decide +kernel) (by decide +kernel) h0 h1 ?_
  refine g_iload_n (k := 1) (x := x1) (by decide +kernel : decode (m_byt 4) 4 = .ok (.iload_n 1, 1)) rfl ?_
  refine g_iload_n (k := 2) (x := x2) (by decide +kernel : decode (m_byt 4) 5 = .ok (.iload_n 2, 1)) rfl ?_
  exact g_inv (k := 1) (m' := 45) (np := 2) (as := [(2, ((q_rf K r0 5 : Nat) : Int)), (0, x1), (0, x2)]) (by decide +kernel : decode (m_byt 4) 6 = .ok (.invokevirtual 88, 3)) (Or.inl ⟨rfl, rfl⟩) (by decide +kernel) (by decide +kernel) (by decide +kernel) (Nat.le_of_ble_eq_true rfl) rfl (Or.inr (g_rcv (by decide +kernel) h2))
theorem b_4_9 {Z : mZ} {l3 : mV} {x2 x1 : Int} {r0 : Nat} {K : Nat → mK} {σ : Nat → Nat → Int} {n e s : Nat} (h0 : q_ob K n r0 0) (h1 : q_rp K r0 4) (h2 : q_ob K n (q_rf K r0 4) 3) : m_run Z (4, 9, [(2, ((r0 : Nat) : Int)), (0, x1), (0, x2), l3], [], (K, σ, n, e, s)) = (m_cl Z 44 [(2, ((q_rf K r0 4 : Nat) : Int)), (0, x1)] (K, σ, n, e, s)).bind (m_aft (m_run Z) 4 16 [(2, ((r0 : Nat) : Int)), (0, x1), (0, x2), l3] [(1, (w32 x2))]) := by
  refine g_iload_n (k := 2) (x := x2) (by decide +kernel : decode (m_byt 4) 9 = .ok (.iload_n 2, 1)) rfl ?_
  refine g_base (by decide +kernel : decode (m_byt 4) 10 = .ok (.i2l, 1)) rfl rfl ?_
  show m_run Z (4, 11, [(2, ((r0 : Nat) : Int)), (0, x1), (0, x2), l3], [(1, (w32 x2))], (K, σ, n, e, s)) = _
  refine g_aload_n (k := 0) (v := (2, ((r0 : Nat) : Int))) (by decide +kernel : decode (m_byt 4) 11 = .ok (.aload_n 0, 1)) rfl (Or.inl rfl) ?_
  refine g_getr (ci := 0) (f := 4) (by decide +kernel : decode (m_byt 4) 12 = .ok (.getfield 20, 3)) (by decide +kernel) (by decide +kernel) (by decide +kernel) h0 h1 ?_
  refine g_iload_n (k := 1) (x := x1) (by decide +kernel : decode (m_byt 4) 15 = .ok (.iload_n 1, 1)) rfl ?_
  exact g_inv (k := 1) (m' := 44) (np := 1) (as := [(2, ((q_rf K r0 4 : Nat) : Int)), (0, x1)]) (by decide +kernel : decode (m_byt 4) 16 = .ok (.invokevirtual 58, 3)) (Or.inl ⟨rfl, rfl⟩) (by decide +kernel) (by decide +kernel) (by decide +kernel) (Nat.le_of_ble_eq_true rfl) rfl (Or.inr (g_rcv (by decide +kernel) h2))
theorem b_4_19 {Z : mZ} {l2 l3 : mV} {s0 s1 x1 : Int} {r0 : Nat} {K : Nat → mK} {σ : Nat → Nat → Int} {n e s : Nat} (h0 : q_ob K n r0 0) (h1 : q_rp K r0 3) (h2 : q_ob K n (q_rf K r0 3) 3) : m_run Z (4, 19, [(2, ((r0 : Nat) : Int)), (0, x1), l2, l3], [(0, s0), (1, s1)], (K, σ, n, e, s)) = (m_cl Z 44 [(2, ((q_rf K r0 3 : Nat) : Int)), (0, x1)] (K, σ, n, e, s)).bind (m_aft (m_run Z) 4 26 [(2, ((r0 : Nat) : Int)), (0, x1), l2, l3] [(1, (s1 * (w32 s0)))]) := by
  refine g_base (by decide +kernel : decode (m_byt 4) 19 = .ok (.i2l, 1)) rfl rfl ?_
  show m_run Z (4, 20, [(2, ((r0 : Nat) : Int)), (0, x1), l2, l3], [(1, (w32 s0)), (1, s1)], (K, σ, n, e, s)) = _
  refine g_base (by decide +kernel : decode (m_byt 4) 20 = .ok (.lmul, 1)) rfl rfl ?_
  show m_run Z (4, 21, [(2, ((r0 : Nat) : Int)), (0, x1), l2, l3], [(1, (s1 * (w32 s0)))], (K, σ, n, e, s)) = _
  refine g_aload_n (k := 0) (v := (2, ((r0 : Nat) : Int))) (by decide +kernel : decode (m_byt 4) 21 = .ok (.aload_n 0, 1)) rfl (Or.inl rfl) ?_
  refine g_getr (ci := 0) (f := 3) (by decide +kernel : decode (m_byt 4) 22 = .ok (.getfield 14, 3)) (by decide +kernel) (by decide +kernel) (by decide +kernel) h0 h1 ?_
  refine g_iload_n (k := 1) (x := x1) (by decide +kernel : decode (m_byt 4) 25 = .ok (.iload_n 1, 1)) rfl ?_
  exact g_inv (k := 1) (m' := 44) (np := 1) (as := [(2, ((q_rf K r0 3 : Nat) : Int)), (0, x1)]) (by decide +kernel : decode (m_byt 4) 26 = .ok (.invokevirtual 58, 3)) (Or.inl ⟨rfl, rfl⟩) (by decide +kernel) (by decide +kernel) (by decide +kernel) (Nat.le_of_ble_eq_true rfl) rfl (Or.inr (g_rcv (by decide +kernel) h2))
theorem b_4_29 {Z : mZ} {l0 l1 l2 : mV} {s0 s1 x3 : Int} {h : mH} : m_run Z (4, 29, [l0, l1, l2, (0, x3)], [(0, s0), (1, s1)], h) = if 0 ≤ w32 (l_cmp s1 ((w32 s0) * (w32 x3))) then m_run Z (4, 55, [l0, l1, l2, (0, x3)], [], h) else m_run Z (4, 37, [l0, l1, l2, (0, x3)], [], h) := by
  refine g_base (by decide +kernel : decode (m_byt 4) 29 = .ok (.i2l, 1)) rfl rfl ?_
  show m_run Z (4, 30, [l0, l1, l2, (0, x3)], [(1, (w32 s0)), (1, s1)], h) = _
  refine g_iload_n (k := 3) (x := x3) (by decide +kernel : decode (m_byt 4) 30 = .ok (.iload_n 3, 1)) rfl ?_
  refine g_base (by decide +kernel : decode (m_byt 4) 31 = .ok (.i2l, 1)) rfl rfl ?_
  show m_run Z (4, 32, [l0, l1, l2, (0, x3)], [(1, (w32 x3)), (1, (w32 s0)), (1, s1)], h) = _
  refine g_base (by decide +kernel : decode (m_byt 4) 32 = .ok (.lmul, 1)) rfl rfl ?_
  show m_run Z (4, 33, [l0, l1, l2, (0, x3)], [(1, ((w32 s0) * (w32 x3))), (1, s1)], h) = _
  refine g_base (by decide +kernel : decode (m_byt 4) 33 = .ok (.lcmp, 1)) rfl rfl ?_
  show m_run Z (4, 34, [l0, l1, l2, (0, x3)], [(0, (l_cmp s1 ((w32 s0) * (w32 x3))))], h) = _
  exact g_brq (t := 55) (off := 21) (by decide +kernel : decode (m_byt 4) 34 = .ok (.ifCond .ge 21, 3)) rfl rfl (by decide)
theorem b_4_37 {Z : mZ} {l3 : mV} {x1 x2 : Int} {r0 : Nat} {K : Nat → mK} {σ : Nat → Nat → Int} {n e s : Nat} (h0 : q_ob K n r0 0) (h1 : q_rp K r0 3) (h2 : q_ob K n (q_rf K r0 3) 3) : m_run Z (4, 37, [(2, ((r0 : Nat) : Int)), (0, x1), (0, x2), l3], [], (K, σ, n, e, s)) = (m_cl Z 45 [(2, ((q_rf K r0 3 : Nat) : Int)), (0, x1), (0, x2)] (K, σ, n, e, s)).bind (m_aft (m_run Z) 4 43 [(2, ((r0 : Nat) : Int)), (0, x1), (0, x2), l3] []) := by
  refine g_aload_n (k := 0) (v := (2, ((r0 : Nat) : Int))) (by decide +kernel : decode (m_byt 4) 37 = .ok (.aload_n 0, 1)) rfl (Or.inl rfl) ?_
  refine g_getr (ci := 0) (f := 3) (by decide +kernel : decode (m_byt 4) 38 = .ok (.getfield 14, 3)) (by decide +kernel) (by decide +kernel) (by decide +kernel) h0 h1 ?_
  refine g_iload_n (k := 1) (x := x1) (by decide +kernel : decode (m_byt 4) 41 = .ok (.iload_n 1, 1)) rfl ?_
  refine g_iload_n (k := 2) (x := x2) (by decide +kernel : decode (m_byt 4) 42 = .ok (.iload_n 2, 1)) rfl ?_
  exact g_inv (k := 1) (m' := 45) (np := 2) (as := [(2, ((q_rf K r0 3 : Nat) : Int)), (0, x1), (0, x2)]) (by decide +kernel : decode (m_byt 4) 43 = .ok (.invokevirtual 88, 3)) (Or.inl ⟨rfl, rfl⟩) (by decide +kernel) (by decide +kernel) (by decide +kernel) (Nat.le_of_ble_eq_true rfl) rfl (Or.inr (g_rcv (by decide +kernel) h2))
theorem b_4_46 {Z : mZ} {l2 : mV} {x1 x3 : Int} {r0 : Nat} {K : Nat → mK} {σ : Nat → Nat → Int} {n e s : Nat} (h0 : q_ob K n r0 0) (h1 : q_rp K r0 4) (h2 : q_ob K n (q_rf K r0 4) 3) : m_run Z (4, 46, [(2, ((r0 : Nat) : Int)), (0, x1), l2, (0, x3)], [], (K, σ, n, e, s)) = (m_cl Z 45 [(2, ((q_rf K r0 4 : Nat) : Int)), (0, x1), (0, x3)] (K, σ, n, e, s)).bind (m_aft (m_run Z) 4 52 [(2, ((r0 : Nat) : Int)), (0, x1), l2, (0, x3)] []) := by
  refine g_aload_n (k := 0) (v := (2, ((r0 : Nat) : Int))) (by decide +kernel : decode (m_byt 4) 46 = .ok (.aload_n 0, 1)) rfl (Or.inl rfl) ?_
  refine g_getr (ci := 0) (f := 4) (by decide +kernel : decode (m_byt 4) 47 = .ok (.getfield 20, 3)) (by decide +kernel) (by decide +kernel) (by decide +kernel) h0 h1 ?_
  refine g_iload_n (k := 1) (x := x1) (by decide +kernel : decode (m_byt 4) 50 = .ok (.iload_n 1, 1)) rfl ?_
  refine g_iload_n (k := 3) (x := x3) (by decide +kernel : decode (m_byt 4) 51 = .ok (.iload_n 3, 1)) rfl ?_
  exact g_inv (k := 1) (m' := 45) (np := 2) (as := [(2, ((q_rf K r0 4 : Nat) : Int)), (0, x1), (0, x3)]) (by decide +kernel : decode (m_byt 4) 52 = .ok (.invokevirtual 88, 3)) (Or.inl ⟨rfl, rfl⟩) (by decide +kernel) (by decide +kernel) (by decide +kernel) (Nat.le_of_ble_eq_true rfl) rfl (Or.inr (g_rcv (by decide +kernel) h2))
theorem b_4_55 {Z : mZ} {l0 l1 l2 l3 : mV} {h : mH} : m_run Z (4, 55, [l0, l1, l2, l3], [], h) = some (.inl (9, 0), h) := by
  exact g_vret (by decide +kernel : decode (m_byt 4) 55 = .ok (.return_, 1)) (by decide +kernel)
theorem e_5 {Z : mZ} {r0 : Nat} {x1 : Int} {x2 : Int} {h : mH} : m_cl Z 5 [(2, ((r0 : Nat) : Int)), (0, x1), (0, x2)] h = m_run Z (5, 0, [(2, ((r0 : Nat) : Int)), (0, x1), (0, x2)], [], h) := g_ent (k := 3) (by decide) (by decide +kernel) (Nat.le_of_ble_eq_true rfl) (by decide +kernel) rfl
theorem b_5_0 {Z : mZ} {l2 : mV} {x1 : Int} {r0 : Nat} {K : Nat → mK} {σ : Nat → Nat → Int} {n e s : Nat} (h0 : q_ob K n r0 0) (h1 : q_rp K r0 3) (h2 : q_ob K n (q_rf K r0 3) 3) : m_run Z (5, 0, [(2, ((r0 : Nat) : Int)), (0, x1), l2], [], (K, σ, n, e, s)) = (m_cl Z 44 [(2, ((q_rf K r0 3 : Nat) : Int)), (0, x1)] (K, σ, n, e, s)).bind (m_aft (m_run Z) 5 5 [(2, ((r0 : Nat) : Int)), (0, x1), l2] []) := by
  refine g_aload_n (k := 0) (v := (2, ((r0 : Nat) : Int))) (by decide +kernel : decode (m_byt 5) 0 = .ok (.aload_n 0, 1)) rfl (Or.inl rfl) ?_
  refine g_getr (ci := 0) (f := 3) (by decide +kernel : decode (m_byt 5) 1 = .ok (.getfield 14, 3)) (by decide +kernel) (by decide +kernel) (by decide +kernel) h0 h1 ?_
  refine g_iload_n (k := 1) (x := x1) (by decide +kernel : decode (m_byt 5) 4 = .ok (.iload_n 1, 1)) rfl ?_
  exact g_inv (k := 1) (m' := 44) (np := 1) (as := [(2, ((q_rf K r0 3 : Nat) : Int)), (0, x1)]) (by decide +kernel : decode (m_byt 5) 5 = .ok (.invokevirtual 58, 3)) (Or.inl ⟨rfl, rfl⟩) (by decide +kernel) (by decide +kernel) (by decide +kernel) (Nat.le_of_ble_eq_true rfl) rfl (Or.inr (g_rcv (by decide +kernel) h2))
theorem b_5_8 {Z : mZ} {l1 : mV} {s0 x2 : Int} {r0 : Nat} {K : Nat → mK} {σ : Nat → Nat → Int} {n e s : Nat} (h0 : q_ob K n r0 0) (h1 : q_rp K r0 4) (h2 : q_ob K n (q_rf K r0 4) 3) : m_run Z (5, 8, [(2, ((r0 : Nat) : Int)), l1, (0, x2)], [(0, s0)], (K, σ, n, e, s)) = (m_cl Z 44 [(2, ((q_rf K r0 4 : Nat) : Int)), (0, x2)] (K, σ, n, e, s)).bind (m_aft (m_run Z) 5 14 [(2, ((r0 : Nat) : Int)), l1, (0, x2)] [(1, (w32 s0))]) := by
  refine g_base (by decide +kernel : decode (m_byt 5) 8 = .ok (.i2l, 1)) rfl rfl ?_
  show m_run Z (5, 9, [(2, ((r0 : Nat) : Int)), l1, (0, x2)], [(1, (w32 s0))], (K, σ, n, e, s)) = _
  refine g_aload_n (k := 0) (v := (2, ((r0 : Nat) : Int))) (by decide +kernel : decode (m_byt 5) 9 = .ok (.aload_n 0, 1)) rfl (Or.inl rfl) ?_
  refine g_getr (ci := 0) (f := 4) (by decide +kernel : decode (m_byt 5) 10 = .ok (.getfield 20, 3)) (by decide +kernel) (by decide +kernel) (by decide +kernel) h0 h1 ?_
  refine g_iload_n (k := 2) (x := x2) (by decide +kernel : decode (m_byt 5) 13 = .ok (.iload_n 2, 1)) rfl ?_
  exact g_inv (k := 1) (m' := 44) (np := 1) (as := [(2, ((q_rf K r0 4 : Nat) : Int)), (0, x2)]) (by decide +kernel : decode (m_byt 5) 14 = .ok (.invokevirtual 58, 3)) (Or.inl ⟨rfl, rfl⟩) (by decide +kernel) (by decide +kernel) (by decide +kernel) (Nat.le_of_ble_eq_true rfl) rfl (Or.inr (g_rcv (by decide +kernel) h2))
theorem b_5_17 {Z : mZ} {l1 : mV} {s0 s1 x2 : Int} {r0 : Nat} {K : Nat → mK} {σ : Nat → Nat → Int} {n e s : Nat} (h0 : q_ob K n r0 0) (h1 : q_rp K r0 3) (h2 : q_ob K n (q_rf K r0 3) 3) : m_run Z (5, 17, [(2, ((r0 : Nat) : Int)), l1, (0, x2)], [(0, s0), (1, s1)], (K, σ, n, e, s)) = (m_cl Z 44 [(2, ((q_rf K r0 3 : Nat) : Int)), (0, x2)] (K, σ, n, e, s)).bind (m_aft (m_run Z) 5 24 [(2, ((r0 : Nat) : Int)), l1, (0, x2)] [(1, (s1 * (w32 s0)))]) := by
  refine g_base (by decide +kernel : decode (m_byt 5) 17 = .ok (.i2l, 1)) rfl rfl ?_
  show m_run Z (5, 18, [(2, ((r0 : Nat) : Int)), l1, (0, x2)], [(1, (w32 s0)), (1, s1)], (K, σ, n, e, s)) = _
  refine g_base (by decide +kernel : decode (m_byt 5) 18 = .ok (.lmul, 1)) rfl rfl ?_
  show m_run Z (5, 19, [(2, ((r0 : Nat) : Int)), l1, (0, x2)], [(1, (s1 * (w32 s0)))], (K, σ, n, e, s)) = _
  refine g_aload_n (k := 0) (v := (2, ((r0 : Nat) : Int))) (by decide +kernel : decode (m_byt 5) 19 = .ok (.aload_n 0, 1)) rfl (Or.inl rfl) ?_
  refine g_getr (ci := 0) (f := 3) (by decide +kernel : decode (m_byt 5) 20 = .ok (.getfield 14, 3)) (by decide +kernel) (by decide +kernel) (by decide +kernel) h0 h1 ?_
  refine g_iload_n (k := 2) (x := x2) (by decide +kernel : decode (m_byt 5) 23 = .ok (.iload_n 2, 1)) rfl ?_
  exact g_inv (k := 1) (m' := 44) (np := 1) (as := [(2, ((q_rf K r0 3 : Nat) : Int)), (0, x2)]) (by decide +kernel : decode (m_byt 5) 24 = .ok (.invokevirtual 58, 3)) (Or.inl ⟨rfl, rfl⟩) (by decide +kernel) (by decide +kernel) (by decide +kernel) (Nat.le_of_ble_eq_true rfl) rfl (Or.inr (g_rcv (by decide +kernel) h2))
theorem b_5_27 {Z : mZ} {l2 : mV} {s0 s1 x1 : Int} {r0 : Nat} {K : Nat → mK} {σ : Nat → Nat → Int} {n e s : Nat} (h0 : q_ob K n r0 0) (h1 : q_rp K r0 4) (h2 : q_ob K n (q_rf K r0 4) 3) : m_run Z (5, 27, [(2, ((r0 : Nat) : Int)), (0, x1), l2], [(0, s0), (1, s1)], (K, σ, n, e, s)) = (m_cl Z 44 [(2, ((q_rf K r0 4 : Nat) : Int)), (0, x1)] (K, σ, n, e, s)).bind (m_aft (m_run Z) 5 33 [(2, ((r0 : Nat) : Int)), (0, x1), l2] [(1, (w32 s0)), (1, s1)]) := by
  refine g_base (by decide +kernel : decode (m_byt 5) 27 = .ok (.i2l, 1)) rfl rfl ?_
  show m_run Z (5, 28, [(2, ((r0 : Nat) : Int)), (0, x1), l2], [(1, (w32 s0)), (1, s1)], (K, σ, n, e, s)) = _
  refine g_aload_n (k := 0) (v := (2, ((r0 : Nat) : Int))) (by decide +kernel : decode (m_byt 5) 28 = .ok (.aload_n 0, 1)) rfl (Or.inl rfl) ?_
  refine g_getr (ci := 0) (f := 4) (by decide +kernel : decode (m_byt 5) 29 = .ok (.getfield 20, 3)) (by decide +kernel) (by decide +kernel) (by decide +kernel) h0 h1 ?_
  refine g_iload_n (k := 1) (x := x1) (by decide +kernel : decode (m_byt 5) 32 = .ok (.iload_n 1, 1)) rfl ?_
  exact g_inv (k := 1) (m' := 44) (np := 1) (as := [(2, ((q_rf K r0 4 : Nat) : Int)), (0, x1)]) (by decide +kernel : decode (m_byt 5) 33 = .ok (.invokevirtual 58, 3)) (Or.inl ⟨rfl, rfl⟩) (by decide +kernel) (by decide +kernel) (by decide +kernel) (Nat.le_of_ble_eq_true rfl) rfl (Or.inr (g_rcv (by decide +kernel) h2))
theorem b_5_36 {Z : mZ} {l0 l1 l2 : mV} {s0 s1 s2 : Int} {h : mH} : m_run Z (5, 36, [l0, l1, l2], [(0, s0), (1, s1), (1, s2)], h) = if 0 ≤ w32 (l_cmp s2 (s1 * (w32 s0))) then m_run Z (5, 46, [l0, l1, l2], [], h) else m_run Z (5, 42, [l0, l1, l2], [], h) := by
  refine g_base (by decide +kernel : decode (m_byt 5) 36 = .ok (.i2l, 1)) rfl rfl ?_
  show m_run Z (5, 37, [l0, l1, l2], [(1, (w32 s0)), (1, s1), (1, s2)], h) = _
  refine g_base (by decide +kernel : decode (m_byt 5) 37 = .ok (.lmul, 1)) rfl rfl ?_
  show m_run Z (5, 38, [l0, l1, l2], [(1, (s1 * (w32 s0))), (1, s2)], h) = _
  refine g_base (by decide +kernel : decode (m_byt 5) 38 = .ok (.lcmp, 1)) rfl rfl ?_
  show m_run Z (5, 39, [l0, l1, l2], [(0, (l_cmp s2 (s1 * (w32 s0))))], h) = _
  exact g_brq (t := 46) (off := 7) (by decide +kernel : decode (m_byt 5) 39 = .ok (.ifCond .ge 7, 3)) rfl rfl (by decide)
theorem b_5_42 {Z : mZ} {l0 l1 l2 : mV} {h : mH} : m_run Z (5, 42, [l0, l1, l2], [], h) = some (.inl (0, 1), h) := by
  refine g_base (by decide +kernel : decode (m_byt 5) 42 = .ok (.iconst 1, 1)) rfl rfl ?_
  show m_run Z (5, 43, [l0, l1, l2], [(0, 1)], h) = _
  refine g_jmp (t := 47) (by decide +kernel : decode (m_byt 5) 43 = .ok (.goto 4, 3)) (by decide) ?_
  exact g_zret (by decide +kernel : decode (m_byt 5) 47 = .ok (.ireturn, 1)) (by decide +kernel) (by decide)
theorem b_5_46 {Z : mZ} {l0 l1 l2 : mV} {h : mH} : m_run Z (5, 46, [l0, l1, l2], [], h) = m_run Z (5, 47, [l0, l1, l2], [(0, 0)], h) := by
  refine g_base (by decide +kernel : decode (m_byt 5) 46 = .ok (.iconst 0, 1)) rfl rfl ?_
  show m_run Z (5, 47, [l0, l1, l2], [(0, 0)], h) = _
  rfl
theorem b_5_47 {Z : mZ} {l0 l1 l2 : mV} {s0 : Int} {h : mH} (h0 : w32 s0 = 0 ∨ w32 s0 = 1) : m_run Z (5, 47, [l0, l1, l2], [(0, s0)], h) = some (.inl (0, s0), h) := by
  exact g_zret (by decide +kernel : decode (m_byt 5) 47 = .ok (.ireturn, 1)) (by decide +kernel) h0
theorem e_6 {Z : mZ} {r0 : Nat} {x1 : Int} {x2 : Int} {h : mH} : m_cl Z 6 [(2, ((r0 : Nat) : Int)), (0, x1), (0, x2)] h = m_run Z (6, 0, [(2, ((r0 : Nat) : Int)), (0, x1), (0, x2), (9, 0), (9, 0), (9, 0), (9, 0)], [], h) := g_ent (k := 7) (by decide) (by decide +kernel) (Nat.le_of_ble_eq_true rfl) (by decide +kernel) rfl
theorem b_6_0 {Z : mZ} {l0 l3 l4 l5 l6 : mV} {x1 x2 : Int} {h : mH} : m_run Z (6, 0, [l0, (0, x1), (0, x2), l3, l4, l5, l6], [], h) = (m_cl Z 1 [(0, (x1 - 1)), (0, x2)] h).bind (m_aft (m_run Z) 6 4 [l0, (0, x1), (0, x2), l3, l4, l5, l6] []) := by
  refine g_iload_n (k := 1) (x := x1) (by decide +kernel : decode (m_byt 6) 0 = .ok (.iload_n 1, 1)) rfl ?_
  refine g_base (by decide +kernel : decode (m_byt 6) 1 = .ok (.iconst 1, 1)) rfl rfl ?_
  show m_run Z (6, 2, [l0, (0, x1), (0, x2), l3, l4, l5, l6], [(0, 1), (0, x1)], h) = _
  refine g_base (by decide +kernel : decode (m_byt 6) 2 = .ok (.isub, 1)) rfl rfl ?_
  show m_run Z (6, 3, [l0, (0, x1), (0, x2), l3, l4, l5, l6], [(0, (x1 - 1))], h) = _
  refine g_iload_n (k := 2) (x := x2) (by decide +kernel : decode (m_byt 6) 3 = .ok (.iload_n 2, 1)) rfl ?_
  exact g_inv (k := 0) (m' := 1) (np := 2) (as := [(0, (x1 - 1)), (0, x2)]) (by decide +kernel : decode (m_byt 6) 4 = .ok (.invokestatic 91, 3)) (Or.inr (Or.inr ⟨rfl, rfl, by decide, by decide⟩)) (by decide +kernel) (by decide +kernel) (by decide +kernel) (Nat.le_of_ble_eq_true rfl) rfl (Or.inl rfl)
theorem b_6_7 {Z : mZ} {l0 l1 l3 l4 l5 l6 : mV} {s0 x2 : Int} {h : mH} : m_run Z (6, 7, [l0, l1, (0, x2), l3, l4, l5, l6], [(0, s0)], h) = m_run Z (6, 11, [l0, l1, (0, x2), (0, s0), (0, 1), l5, l6], [], h) := by
  refine g_istore_n (k := 3) (by decide +kernel : decode (m_byt 6) 7 = .ok (.istore_n 3, 1)) (Nat.le_of_ble_eq_true rfl) ?_
  show m_run Z (6, 8, [l0, l1, (0, x2), (0, s0), l4, l5, l6], [], h) = _
  refine g_base (by decide +kernel : decode (m_byt 6) 8 = .ok (.iconst 1, 1)) rfl rfl ?_
  show m_run Z (6, 9, [l0, l1, (0, x2), (0, s0), l4, l5, l6], [(0, 1)], h) = _
  refine g_istore (k := 4) (by decide +kernel : decode (m_byt 6) 9 = .ok (.istore 4, 2)) (Nat.le_of_ble_eq_true rfl) ?_
  show m_run Z (6, 11, [l0, l1, (0, x2), (0, s0), (0, 1), l5, l6], [], h) = _
  rfl
theorem b_6_11 {Z : mZ} {l0 l1 l3 l5 l6 : mV} {x4 x2 : Int} {h : mH} : m_run Z (6, 11, [l0, l1, (0, x2), l3, (0, x4), l5, l6], [], h) = if w32 x2 < w32 x4 then m_run Z (6, 81, [l0, l1, (0, x2), l3, (0, x4), l5, l6], [], h) else m_run Z (6, 17, [l0, l1, (0, x2), l3, (0, x4), l5, l6], [], h) := by
  refine g_iload (k := 4) (x := x4) (by decide +kernel : decode (m_byt 6) 11 = .ok (.iload 4, 2)) rfl ?_
  refine g_iload_n (k := 2) (x := x2) (by decide +kernel : decode (m_byt 6) 13 = .ok (.iload_n 2, 1)) rfl ?_
  exact g_brq (t := 81) (off := 67) (by decide +kernel : decode (m_byt 6) 14 = .ok (.if_icmp .gt 67, 3)) rfl rfl (by decide)
theorem b_6_17 {Z : mZ} {l0 l1 l3 l5 l6 : mV} {x4 x2 : Int} {h : mH} : m_run Z (6, 17, [l0, l1, (0, x2), l3, (0, x4), l5, l6], [], h) = if w32 (i_and x4 x2) = w32 x4 then m_run Z (6, 26, [l0, l1, (0, x2), l3, (0, x4), l5, l6], [], h) else m_run Z (6, 75, [l0, l1, (0, x2), l3, (0, x4), l5, l6], [], h) := by
  refine g_iload (k := 4) (x := x4) (by decide +kernel : decode (m_byt 6) 17 = .ok (.iload 4, 2)) rfl ?_
  refine g_iload_n (k := 2) (x := x2) (by decide +kernel : decode (m_byt 6) 19 = .ok (.iload_n 2, 1)) rfl ?_
  refine g_base (by decide +kernel : decode (m_byt 6) 20 = .ok (.iand, 1)) rfl rfl ?_
  show m_run Z (6, 21, [l0, l1, (0, x2), l3, (0, x4), l5, l6], [(0, (i_and x4 x2))], h) = _
  refine g_iload (k := 4) (x := x4) (by decide +kernel : decode (m_byt 6) 21 = .ok (.iload 4, 2)) rfl ?_
  exact g_brn (t := 75) (off := 52) (by decide +kernel : decode (m_byt 6) 23 = .ok (.if_icmp .ne 52, 3)) rfl rfl (by decide)
theorem b_6_26 {Z : mZ} {l0 l3 l5 l6 : mV} {x1 x2 x4 : Int} {h : mH} : m_run Z (6, 26, [l0, (0, x1), (0, x2), l3, (0, x4), l5, l6], [], h) = (m_cl Z 1 [(0, (x1 - 1)), (0, (x2 - x4))] h).bind (m_aft (m_run Z) 6 33 [l0, (0, x1), (0, x2), l3, (0, x4), l5, l6] []) := by
  refine g_iload_n (k := 1) (x := x1) (by decide +kernel : decode (m_byt 6) 26 = .ok (.iload_n 1, 1)) rfl ?_
  refine g_base (by decide +kernel : decode (m_byt 6) 27 = .ok (.iconst 1, 1)) rfl rfl ?_
  show m_run Z (6, 28, [l0, (0, x1), (0, x2), l3, (0, x4), l5, l6], [(0, 1), (0, x1)], h) = _
  refine g_base (by decide +kernel : decode (m_byt 6) 28 = .ok (.isub, 1)) rfl rfl ?_
  show m_run Z (6, 29, [l0, (0, x1), (0, x2), l3, (0, x4), l5, l6], [(0, (x1 - 1))], h) = _
  refine g_iload_n (k := 2) (x := x2) (by decide +kernel : decode (m_byt 6) 29 = .ok (.iload_n 2, 1)) rfl ?_
  refine g_iload (k := 4) (x := x4) (by decide +kernel : decode (m_byt 6) 30 = .ok (.iload 4, 2)) rfl ?_
  refine g_base (by decide +kernel : decode (m_byt 6) 32 = .ok (.isub, 1)) rfl rfl ?_
  show m_run Z (6, 33, [l0, (0, x1), (0, x2), l3, (0, x4), l5, l6], [(0, (x2 - x4)), (0, (x1 - 1))], h) = _
  exact g_inv (k := 0) (m' := 1) (np := 2) (as := [(0, (x1 - 1)), (0, (x2 - x4))]) (by decide +kernel : decode (m_byt 6) 33 = .ok (.invokestatic 91, 3)) (Or.inr (Or.inr ⟨rfl, rfl, by decide, by decide⟩)) (by decide +kernel) (by decide +kernel) (by decide +kernel) (Nat.le_of_ble_eq_true rfl) rfl (Or.inl rfl)
theorem b_6_36 {Z : mZ} {l1 l2 l3 l5 l6 : mV} {s0 x4 : Int} {r0 : Nat} {K : Nat → mK} {σ : Nat → Nat → Int} {n e s : Nat} (h0 : q_ob K n r0 0) : m_run Z (6, 36, [(2, ((r0 : Nat) : Int)), l1, l2, l3, (0, x4), l5, l6], [(0, s0)], (K, σ, n, e, s)) = (m_cl Z 5 [(2, ((r0 : Nat) : Int)), (0, x4), (0, s0)] (K, σ, n, e, s)).bind (m_aft (m_run Z) 6 43 [(2, ((r0 : Nat) : Int)), l1, l2, l3, (0, x4), (0, s0), l6] []) := by
  refine g_istore (k := 5) (by decide +kernel : decode (m_byt 6) 36 = .ok (.istore 5, 2)) (Nat.le_of_ble_eq_true rfl) ?_
  show m_run Z (6, 38, [(2, ((r0 : Nat) : Int)), l1, l2, l3, (0, x4), (0, s0), l6], [], (K, σ, n, e, s)) = _
  refine g_aload_n (k := 0) (v := (2, ((r0 : Nat) : Int))) (by decide +kernel : decode (m_byt 6) 38 = .ok (.aload_n 0, 1)) rfl (Or.inl rfl) ?_
  refine g_iload (k := 4) (x := x4) (by decide +kernel : decode (m_byt 6) 39 = .ok (.iload 4, 2)) rfl ?_
  refine g_iload (k := 5) (x := s0) (by decide +kernel : decode (m_byt 6) 41 = .ok (.iload 5, 2)) rfl ?_
  exact g_inv (k := 1) (m' := 5) (np := 2) (as := [(2, ((r0 : Nat) : Int)), (0, x4), (0, s0)]) (by decide +kernel : decode (m_byt 6) 43 = .ok (.invokevirtual 94, 3)) (Or.inl ⟨rfl, rfl⟩) (by decide +kernel) (by decide +kernel) (by decide +kernel) (Nat.le_of_ble_eq_true rfl) rfl (Or.inr (g_rcv (by decide +kernel) h0))
theorem b_6_46 {Z : mZ} {l0 l1 l2 l3 l4 l5 l6 : mV} {s0 : Int} {h : mH} : m_run Z (6, 46, [l0, l1, l2, l3, l4, l5, l6], [(0, s0)], h) = if w32 s0 = 0 then m_run Z (6, 54, [l0, l1, l2, l3, l4, l5, l6], [], h) else m_run Z (6, 49, [l0, l1, l2, l3, l4, l5, l6], [], h) := by
  exact g_brq (t := 54) (off := 8) (by decide +kernel : decode (m_byt 6) 46 = .ok (.ifCond .eq 8, 3)) rfl rfl (by decide)
theorem b_6_49 {Z : mZ} {l1 l2 l4 l6 : mV} {x5 x3 : Int} {r0 : Nat} {K : Nat → mK} {σ : Nat → Nat → Int} {n e s : Nat} (h0 : q_ob K n r0 0) : m_run Z (6, 49, [(2, ((r0 : Nat) : Int)), l1, l2, (0, x3), l4, (0, x5), l6], [], (K, σ, n, e, s)) = (m_cl Z 5 [(2, ((r0 : Nat) : Int)), (0, x5), (0, x3)] (K, σ, n, e, s)).bind (m_aft (m_run Z) 6 62 [(2, ((r0 : Nat) : Int)), l1, l2, (0, x3), l4, (0, x5), (0, x5)] []) := by
  refine g_iload (k := 5) (x := x5) (by decide +kernel : decode (m_byt 6) 49 = .ok (.iload 5, 2)) rfl ?_
  refine g_jmp (t := 56) (by decide +kernel : decode (m_byt 6) 51 = .ok (.goto 5, 3)) (by decide) ?_
  refine g_istore (k := 6) (by decide +kernel : decode (m_byt 6) 56 = .ok (.istore 6, 2)) (Nat.le_of_ble_eq_true rfl) ?_
  show m_run Z (6, 58, [(2, ((r0 : Nat) : Int)), l1, l2, (0, x3), l4, (0, x5), (0, x5)], [], (K, σ, n, e, s)) = _
  refine g_aload_n (k := 0) (v := (2, ((r0 : Nat) : Int))) (by decide +kernel : decode (m_byt 6) 58 = .ok (.aload_n 0, 1)) rfl (Or.inl rfl) ?_
  refine g_iload (k := 6) (x := x5) (by decide +kernel : decode (m_byt 6) 59 = .ok (.iload 6, 2)) rfl ?_
  refine g_iload_n (k := 3) (x := x3) (by decide +kernel : decode (m_byt 6) 61 = .ok (.iload_n 3, 1)) rfl ?_
  exact g_inv (k := 1) (m' := 5) (np := 2) (as := [(2, ((r0 : Nat) : Int)), (0, x5), (0, x3)]) (by decide +kernel : decode (m_byt 6) 62 = .ok (.invokevirtual 94, 3)) (Or.inl ⟨rfl, rfl⟩) (by decide +kernel) (by decide +kernel) (by decide +kernel) (Nat.le_of_ble_eq_true rfl) rfl (Or.inr (g_rcv (by decide +kernel) h0))
theorem b_6_54 {Z : mZ} {l0 l1 l2 l3 l5 l6 : mV} {x4 : Int} {h : mH} : m_run Z (6, 54, [l0, l1, l2, l3, (0, x4), l5, l6], [], h) = m_run Z (6, 56, [l0, l1, l2, l3, (0, x4), l5, l6], [(0, x4)], h) := by
  refine g_iload (k := 4) (x := x4) (by decide +kernel : decode (m_byt 6) 54 = .ok (.iload 4, 2)) rfl ?_
  rfl
theorem b_6_56 {Z : mZ} {l1 l2 l4 l6 : mV} {s0 x5 x3 : Int} {r0 : Nat} {K : Nat → mK} {σ : Nat → Nat → Int} {n e s : Nat} (h0 : q_ob K n r0 0) : m_run Z (6, 56, [(2, ((r0 : Nat) : Int)), l1, l2, (0, x3), l4, (0, x5), l6], [(0, s0)], (K, σ, n, e, s)) = (m_cl Z 5 [(2, ((r0 : Nat) : Int)), (0, s0), (0, x3)] (K, σ, n, e, s)).bind (m_aft (m_run Z) 6 62 [(2, ((r0 : Nat) : Int)), l1, l2, (0, x3), l4, (0, x5), (0, s0)] []) := by
  refine g_istore (k := 6) (by decide +kernel : decode (m_byt 6) 56 = .ok (.istore 6, 2)) (Nat.le_of_ble_eq_true rfl) ?_
  show m_run Z (6, 58, [(2, ((r0 : Nat) : Int)), l1, l2, (0, x3), l4, (0, x5), (0, s0)], [], (K, σ, n, e, s)) = _
  refine g_aload_n (k := 0) (v := (2, ((r0 : Nat) : Int))) (by decide +kernel : decode (m_byt 6) 58 = .ok (.aload_n 0, 1)) rfl (Or.inl rfl) ?_
  refine g_iload (k := 6) (x := s0) (by decide +kernel : decode (m_byt 6) 59 = .ok (.iload 6, 2)) rfl ?_
  refine g_iload_n (k := 3) (x := x3) (by decide +kernel : decode (m_byt 6) 61 = .ok (.iload_n 3, 1)) rfl ?_
  exact g_inv (k := 1) (m' := 5) (np := 2) (as := [(2, ((r0 : Nat) : Int)), (0, s0), (0, x3)]) (by decide +kernel : decode (m_byt 6) 62 = .ok (.invokevirtual 94, 3)) (Or.inl ⟨rfl, rfl⟩) (by decide +kernel) (by decide +kernel) (by decide +kernel) (Nat.le_of_ble_eq_true rfl) rfl (Or.inr (g_rcv (by decide +kernel) h0))
theorem b_6_65 {Z : mZ} {l0 l1 l2 l3 l4 l5 l6 : mV} {s0 : Int} {h : mH} : m_run Z (6, 65, [l0, l1, l2, l3, l4, l5, l6], [(0, s0)], h) = if w32 s0 = 0 then m_run Z (6, 73, [l0, l1, l2, l3, l4, l5, l6], [], h) else m_run Z (6, 68, [l0, l1, l2, l3, l4, l5, l6], [], h) := by
  exact g_brq (t := 73) (off := 8) (by decide +kernel : decode (m_byt 6) 65 = .ok (.ifCond .eq 8, 3)) rfl rfl (by decide)
theorem b_6_68 {Z : mZ} {l0 l1 l3 l4 l5 : mV} {x6 x2 : Int} {h : mH} : m_run Z (6, 68, [l0, l1, (0, x2), l3, l4, l5, (0, x6)], [], h) = m_run Z (6, 75, [l0, l1, (0, x2), (0, x6), l4, l5, (0, x6)], [], h) := by
  refine g_iload (k := 6) (x := x6) (by decide +kernel : decode (m_byt 6) 68 = .ok (.iload 6, 2)) rfl ?_
  refine g_jmp (t := 74) (by decide +kernel : decode (m_byt 6) 70 = .ok (.goto 4, 3)) (by decide) ?_
  refine g_istore_n (k := 3) (by decide +kernel : decode (m_byt 6) 74 = .ok (.istore_n 3, 1)) (Nat.le_of_ble_eq_true rfl) ?_
  show m_run Z (6, 75, [l0, l1, (0, x2), (0, x6), l4, l5, (0, x6)], [], h) = _
  rfl
theorem b_6_73 {Z : mZ} {l0 l1 l2 l4 l5 l6 : mV} {x3 : Int} {h : mH} : m_run Z (6, 73, [l0, l1, l2, (0, x3), l4, l5, l6], [], h) = m_run Z (6, 74, [l0, l1, l2, (0, x3), l4, l5, l6], [(0, x3)], h) := by
  refine g_iload_n (k := 3) (x := x3) (by decide +kernel : decode (m_byt 6) 73 = .ok (.iload_n 3, 1)) rfl ?_
  rfl
theorem b_6_74 {Z : mZ} {l0 l1 l3 l4 l5 l6 : mV} {s0 x2 : Int} {h : mH} : m_run Z (6, 74, [l0, l1, (0, x2), l3, l4, l5, l6], [(0, s0)], h) = m_run Z (6, 75, [l0, l1, (0, x2), (0, s0), l4, l5, l6], [], h) := by
  refine g_istore_n (k := 3) (by decide +kernel : decode (m_byt 6) 74 = .ok (.istore_n 3, 1)) (Nat.le_of_ble_eq_true rfl) ?_
  show m_run Z (6, 75, [l0, l1, (0, x2), (0, s0), l4, l5, l6], [], h) = _
  rfl
theorem b_6_75 {Z : mZ} {l0 l1 l2 l5 l6 : mV} {x4 x3 : Int} {h : mH} : m_run Z (6, 75, [l0, l1, l2, (0, x3), (0, x4), l5, l6], [], h) = m_run Z (6, 11, [l0, l1, l2, (0, x3), (0, x4 + 1), l5, l6], [], h) := by
  refine g_iinc (k := 4) (x := x4) (by decide +kernel : decode (m_byt 6) 75 = .ok (.iinc 4 1, 3)) rfl (Nat.le_of_ble_eq_true rfl) ?_
  show m_run Z (6, 78, [l0, l1, l2, (0, x3), (0, x4 + 1), l5, l6], [], h) = _
  refine g_jmp (t := 11) (by decide +kernel : decode (m_byt 6) 78 = .ok (.goto (-67), 3)) (by decide) ?_
  rfl
theorem b_6_81 {Z : mZ} {l3 l4 l5 l6 : mV} {x1 x2 : Int} {r0 : Nat} {K : Nat → mK} {σ : Nat → Nat → Int} {n e s : Nat} (h0 : q_ob K n r0 0) (h1 : q_rp K r0 3) : m_run Z (6, 81, [(2, ((r0 : Nat) : Int)), (0, x1), (0, x2), l3, l4, l5, l6], [], (K, σ, n, e, s)) = (m_cl Z 1 [(0, x1), (0, x2)] (K, σ, n, e, s)).bind (m_aft (m_run Z) 6 87 [(2, ((r0 : Nat) : Int)), (0, x1), (0, x2), l3, l4, l5, l6] [(2, ((q_rf K r0 3 : Nat) : Int))]) := by
  refine g_aload_n (k := 0) (v := (2, ((r0 : Nat) : Int))) (by decide +kernel : decode (m_byt 6) 81 = .ok (.aload_n 0, 1)) rfl (Or.inl rfl) ?_
  refine g_getr (ci := 0) (f := 3) (by decide +kernel : decode (m_byt 6) 82 = .ok (.getfield 14, 3)) (by decide +kernel) (by decide +kernel) (by decide +kernel) h0 h1 ?_
  refine g_iload_n (k := 1) (x := x1) (by decide +kernel : decode (m_byt 6) 85 = .ok (.iload_n 1, 1)) rfl ?_
  refine g_iload_n (k := 2) (x := x2) (by decide +kernel : decode (m_byt 6) 86 = .ok (.iload_n 2, 1)) rfl ?_
  exact g_inv (k := 0) (m' := 1) (np := 2) (as := [(0, x1), (0, x2)]) (by decide +kernel : decode (m_byt 6) 87 = .ok (.invokestatic 91, 3)) (Or.inr (Or.inr ⟨rfl, rfl, by decide, by decide⟩)) (by decide +kernel) (by decide +kernel) (by decide +kernel) (Nat.le_of_ble_eq_true rfl) rfl (Or.inl rfl)
theorem b_6_90 {Z : mZ} {l1 l2 l4 l5 l6 : mV} {s0 x3 : Int} {s1 r0 : Nat} {K : Nat → mK} {σ : Nat → Nat → Int} {n e s : Nat} (h0 : q_ob K n r0 0) (h1 : q_rp K r0 3) (h2 : q_ob K n (q_rf K r0 3) 3) : m_run Z (6, 90, [(2, ((r0 : Nat) : Int)), l1, l2, (0, x3), l4, l5, l6], [(0, s0), (2, ((s1 : Nat) : Int))], (K, σ, n, e, s)) = (m_cl Z 44 [(2, ((q_rf K r0 3 : Nat) : Int)), (0, x3)] (K, σ, n, e, s)).bind (m_aft (m_run Z) 6 95 [(2, ((r0 : Nat) : Int)), l1, l2, (0, x3), l4, l5, l6] [(0, s0), (2, ((s1 : Nat) : Int))]) := by
  refine g_aload_n (k := 0) (v := (2, ((r0 : Nat) : Int))) (by decide +kernel : decode (m_byt 6) 90 = .ok (.aload_n 0, 1)) rfl (Or.inl rfl) ?_
  refine g_getr (ci := 0) (f := 3) (by decide +kernel : decode (m_byt 6) 91 = .ok (.getfield 14, 3)) (by decide +kernel) (by decide +kernel) (by decide +kernel) h0 h1 ?_
  refine g_iload_n (k := 3) (x := x3) (by decide +kernel : decode (m_byt 6) 94 = .ok (.iload_n 3, 1)) rfl ?_
  exact g_inv (k := 1) (m' := 44) (np := 1) (as := [(2, ((q_rf K r0 3 : Nat) : Int)), (0, x3)]) (by decide +kernel : decode (m_byt 6) 95 = .ok (.invokevirtual 58, 3)) (Or.inl ⟨rfl, rfl⟩) (by decide +kernel) (by decide +kernel) (by decide +kernel) (Nat.le_of_ble_eq_true rfl) rfl (Or.inr (g_rcv (by decide +kernel) h2))
theorem b_6_98 {Z : mZ} {l0 l1 l2 l3 l4 l5 l6 : mV} {s0 s1 : Int} {s2 : Nat} {K : Nat → mK} {σ : Nat → Nat → Int} {n e s : Nat} (h0 : q_ob K n s2 3) : m_run Z (6, 98, [l0, l1, l2, l3, l4, l5, l6], [(0, s0), (0, s1), (2, ((s2 : Nat) : Int))], (K, σ, n, e, s)) = (m_cl Z 45 [(2, ((s2 : Nat) : Int)), (0, s1), (0, s0)] (K, σ, n, e, s)).bind (m_aft (m_run Z) 6 98 [l0, l1, l2, l3, l4, l5, l6] []) := by
  exact g_inv (k := 1) (m' := 45) (np := 2) (as := [(2, ((s2 : Nat) : Int)), (0, s1), (0, s0)]) (by decide +kernel : decode (m_byt 6) 98 = .ok (.invokevirtual 88, 3)) (Or.inl ⟨rfl, rfl⟩) (by decide +kernel) (by decide +kernel) (by decide +kernel) (Nat.le_of_ble_eq_true rfl) rfl (Or.inr (g_rcv (by decide +kernel) h0))
theorem b_6_101 {Z : mZ} {l3 l4 l5 l6 : mV} {x1 x2 : Int} {r0 : Nat} {K : Nat → mK} {σ : Nat → Nat → Int} {n e s : Nat} (h0 : q_ob K n r0 0) (h1 : q_rp K r0 4) : m_run Z (6, 101, [(2, ((r0 : Nat) : Int)), (0, x1), (0, x2), l3, l4, l5, l6], [], (K, σ, n, e, s)) = (m_cl Z 1 [(0, x1), (0, x2)] (K, σ, n, e, s)).bind (m_aft (m_run Z) 6 107 [(2, ((r0 : Nat) : Int)), (0, x1), (0, x2), l3, l4, l5, l6] [(2, ((q_rf K r0 4 : Nat) : Int))]) := by
  refine g_aload_n (k := 0) (v := (2, ((r0 : Nat) : Int))) (by decide +kernel : decode (m_byt 6) 101 = .ok (.aload_n 0, 1)) rfl (Or.inl rfl) ?_
  refine g_getr (ci := 0) (f := 4) (by decide +kernel : decode (m_byt 6) 102 = .ok (.getfield 20, 3)) (by decide +kernel) (by decide +kernel) (by decide +kernel) h0 h1 ?_
  refine g_iload_n (k := 1) (x := x1) (by decide +kernel : decode (m_byt 6) 105 = .ok (.iload_n 1, 1)) rfl ?_
  refine g_iload_n (k := 2) (x := x2) (by decide +kernel : decode (m_byt 6) 106 = .ok (.iload_n 2, 1)) rfl ?_
  exact g_inv (k := 0) (m' := 1) (np := 2) (as := [(0, x1), (0, x2)]) (by decide +kernel : decode (m_byt 6) 107 = .ok (.invokestatic 91, 3)) (Or.inr (Or.inr ⟨rfl, rfl, by decide, by decide⟩)) (by decide +kernel) (by decide +kernel) (by decide +kernel) (Nat.le_of_ble_eq_true rfl) rfl (Or.inl rfl)
theorem b_6_110 {Z : mZ} {l1 l2 l4 l5 l6 : mV} {s0 x3 : Int} {s1 r0 : Nat} {K : Nat → mK} {σ : Nat → Nat → Int} {n e s : Nat} (h0 : q_ob K n r0 0) (h1 : q_rp K r0 4) (h2 : q_ob K n (q_rf K r0 4) 3) : m_run Z (6, 110, [(2, ((r0 : Nat) : Int)), l1, l2, (0, x3), l4, l5, l6], [(0, s0), (2, ((s1 : Nat) : Int))], (K, σ, n, e, s)) = (m_cl Z 44 [(2, ((q_rf K r0 4 : Nat) : Int)), (0, x3)] (K, σ, n, e, s)).bind (m_aft (m_run Z) 6 115 [(2, ((r0 : Nat) : Int)), l1, l2, (0, x3), l4, l5, l6] [(0, s0), (2, ((s1 : Nat) : Int))]) := by
  refine g_aload_n (k := 0) (v := (2, ((r0 : Nat) : Int))) (by decide +kernel : decode (m_byt 6) 110 = .ok (.aload_n 0, 1)) rfl (Or.inl rfl) ?_
  refine g_getr (ci := 0) (f := 4) (by decide +kernel : decode (m_byt 6) 111 = .ok (.getfield 20, 3)) (by decide +kernel) (by decide +kernel) (by decide +kernel) h0 h1 ?_
  refine g_iload_n (k := 3) (x := x3) (by decide +kernel : decode (m_byt 6) 114 = .ok (.iload_n 3, 1)) rfl ?_
  exact g_inv (k := 1) (m' := 44) (np := 1) (as := [(2, ((q_rf K r0 4 : Nat) : Int)), (0, x3)]) (by decide +kernel : decode (m_byt 6) 115 = .ok (.invokevirtual 58, 3)) (Or.inl ⟨rfl, rfl⟩) (by decide +kernel) (by decide +kernel) (by decide +kernel) (Nat.le_of_ble_eq_true rfl) rfl (Or.inr (g_rcv (by decide +kernel) h2))
theorem b_6_118 {Z : mZ} {l0 l1 l2 l3 l4 l5 l6 : mV} {s0 s1 : Int} {s2 : Nat} {K : Nat → mK} {σ : Nat → Nat → Int} {n e s : Nat} (h0 : q_ob K n s2 3) : m_run Z (6, 118, [l0, l1, l2, l3, l4, l5, l6], [(0, s0), (0, s1), (2, ((s2 : Nat) : Int))], (K, σ, n, e, s)) = (m_cl Z 45 [(2, ((s2 : Nat) : Int)), (0, s1), (0, s0)] (K, σ, n, e, s)).bind (m_aft (m_run Z) 6 118 [l0, l1, l2, l3, l4, l5, l6] []) := by
  exact g_inv (k := 1) (m' := 45) (np := 2) (as := [(2, ((s2 : Nat) : Int)), (0, s1), (0, s0)]) (by decide +kernel : decode (m_byt 6) 118 = .ok (.invokevirtual 88, 3)) (Or.inl ⟨rfl, rfl⟩) (by decide +kernel) (by decide +kernel) (by decide +kernel) (Nat.le_of_ble_eq_true rfl) rfl (Or.inr (g_rcv (by decide +kernel) h0))
theorem b_6_121 {Z : mZ} {l0 l1 l2 l3 l4 l5 l6 : mV} {h : mH} : m_run Z (6, 121, [l0, l1, l2, l3, l4, l5, l6], [], h) = some (.inl (9, 0), h) := by
  exact g_vret (by decide +kernel : decode (m_byt 6) 121 = .ok (.return_, 1)) (by decide +kernel)
theorem e_7 {Z : mZ} {r0 : Nat} {x1 : Int} {x2 : Int} {h : mH} : m_cl Z 7 [(2, ((r0 : Nat) : Int)), (0, x1), (0, x2)] h = m_run Z (7, 0, [(2, ((r0 : Nat) : Int)), (0, x1), (0, x2), (9, 0), (9, 0), (9, 0)], [], h) := g_ent (k := 6) (by decide) (by decide +kernel) (Nat.le_of_ble_eq_true rfl) (by decide +kernel) rfl
theorem b_7_0 {Z : mZ} {l2 l3 l4 l5 : mV} {x1 : Int} {r0 : Nat} {K : Nat → mK} {σ : Nat → Nat → Int} {n e s : Nat} (h0 : q_ob K n r0 0) : m_run Z (7, 0, [(2, ((r0 : Nat) : Int)), (0, x1), l2, l3, l4, l5], [], (K, σ, n, e, s)) = (m_cl Z 1 [(0, x1), (0, (σ r0 2))] (K, σ, n, e, s)).bind (m_aft (m_run Z) 7 5 [(2, ((r0 : Nat) : Int)), (0, x1), l2, l3, l4, l5] []) := by
  refine g_iload_n (k := 1) (x := x1) (by decide +kernel : decode (m_byt 7) 0 = .ok (.iload_n 1, 1)) rfl ?_
  refine g_aload_n (k := 0) (v := (2, ((r0 : Nat) : Int))) (by decide +kernel : decode (m_byt 7) 1 = .ok (.aload_n 0, 1)) rfl (Or.inl rfl) ?_
  refine g_getf (ci := 0) (f := 2) (by decide +kernel : decode (m_byt 7) 2 = .ok (.getfield 46, 3)) (by decide +kernel) (by decide +kernel) (by decide +kernel) h0 ?_
  exact g_inv (k := 0) (m' := 1) (np := 2) (as := [(0, x1), (0, (σ r0 2))]) (by decide +kernel : decode (m_byt 7) 5 = .ok (.invokestatic 91, 3)) (Or.inr (Or.inr ⟨rfl, rfl, by decide, by decide⟩)) (by decide +kernel) (by decide +kernel) (by decide +kernel) (Nat.le_of_ble_eq_true rfl) rfl (Or.inl rfl)
theorem b_7_8 {Z : mZ} {l1 l3 l4 l5 : mV} {s0 x2 : Int} {r0 : Nat} {K : Nat → mK} {σ : Nat → Nat → Int} {n e s : Nat} (h0 : q_ob K n r0 0) : m_run Z (7, 8, [(2, ((r0 : Nat) : Int)), l1, (0, x2), l3, l4, l5], [(0, s0)], (K, σ, n, e, s)) = m_run Z (7, 18, [(2, ((r0 : Nat) : Int)), l1, (0, x2), (0, s0), (0, (σ r0 2)), (0, 0)], [], (K, σ, n, e, s)) := by
  refine g_istore_n (k := 3) (by decide +kernel : decode (m_byt 7) 8 = .ok (.istore_n 3, 1)) (Nat.le_of_ble_eq_true rfl) ?_
  show m_run Z (7, 9, [(2, ((r0 : Nat) : Int)), l1, (0, x2), (0, s0), l4, l5], [], (K, σ, n, e, s)) = _
  refine g_aload_n (k := 0) (v := (2, ((r0 : Nat) : Int))) (by decide +kernel : decode (m_byt 7) 9 = .ok (.aload_n 0, 1)) rfl (Or.inl rfl) ?_
  refine g_getf (ci := 0) (f := 2) (by decide +kernel : decode (m_byt 7) 10 = .ok (.getfield 46, 3)) (by decide +kernel) (by decide +kernel) (by decide +kernel) h0 ?_
  refine g_istore (k := 4) (by decide +kernel : decode (m_byt 7) 13 = .ok (.istore 4, 2)) (Nat.le_of_ble_eq_true rfl) ?_
  show m_run Z (7, 15, [(2, ((r0 : Nat) : Int)), l1, (0, x2), (0, s0), (0, (σ r0 2)), l5], [], (K, σ, n, e, s)) = _
  refine g_base (by decide +kernel : decode (m_byt 7) 15 = .ok (.iconst 0, 1)) rfl rfl ?_
  show m_run Z (7, 16, [(2, ((r0 : Nat) : Int)), l1, (0, x2), (0, s0), (0, (σ r0 2)), l5], [(0, 0)], (K, σ, n, e, s)) = _
  refine g_istore (k := 5) (by decide +kernel : decode (m_byt 7) 16 = .ok (.istore 5, 2)) (Nat.le_of_ble_eq_true rfl) ?_
  show m_run Z (7, 18, [(2, ((r0 : Nat) : Int)), l1, (0, x2), (0, s0), (0, (σ r0 2)), (0, 0)], [], (K, σ, n, e, s)) = _
  rfl
theorem b_7_18 {Z : mZ} {l0 l1 l3 l4 : mV} {x5 x2 : Int} {h : mH} : m_run Z (7, 18, [l0, l1, (0, x2), l3, l4, (0, x5)], [], h) = if w32 x2 ≤ w32 x5 then m_run Z (7, 46, [l0, l1, (0, x2), l3, l4, (0, x5)], [], h) else m_run Z (7, 24, [l0, l1, (0, x2), l3, l4, (0, x5)], [], h) := by
  refine g_iload (k := 5) (x := x5) (by decide +kernel : decode (m_byt 7) 18 = .ok (.iload 5, 2)) rfl ?_
  refine g_iload_n (k := 2) (x := x2) (by decide +kernel : decode (m_byt 7) 20 = .ok (.iload_n 2, 1)) rfl ?_
  exact g_brq (t := 46) (off := 25) (by decide +kernel : decode (m_byt 7) 21 = .ok (.if_icmp .ge 25, 3)) rfl rfl (by decide)
theorem b_7_24 {Z : mZ} {l2 : mV} {x4 x1 x5 x3 : Int} {r0 : Nat} {K : Nat → mK} {σ : Nat → Nat → Int} {n e s : Nat} (h0 : q_ob K n r0 0) : m_run Z (7, 24, [(2, ((r0 : Nat) : Int)), (0, x1), l2, (0, x3), (0, x4), (0, x5)], [], (K, σ, n, e, s)) = (m_cl Z 8 [(2, ((r0 : Nat) : Int)), (0, (x1 - x5)), (0, x4), (0, x3)] (K, σ, n, e, s)).bind (m_aft (m_run Z) 7 34 [(2, ((r0 : Nat) : Int)), (0, x1), l2, (0, x3), (0, x4), (0, x5)] [(0, x4)]) := by
  refine g_iload (k := 4) (x := x4) (by decide +kernel : decode (m_byt 7) 24 = .ok (.iload 4, 2)) rfl ?_
  refine g_aload_n (k := 0) (v := (2, ((r0 : Nat) : Int))) (by decide +kernel : decode (m_byt 7) 26 = .ok (.aload_n 0, 1)) rfl (Or.inl rfl) ?_
  refine g_iload_n (k := 1) (x := x1) (by decide +kernel : decode (m_byt 7) 27 = .ok (.iload_n 1, 1)) rfl ?_
  refine g_iload (k := 5) (x := x5) (by decide +kernel : decode (m_byt 7) 28 = .ok (.iload 5, 2)) rfl ?_
  refine g_base (by decide +kernel : decode (m_byt 7) 30 = .ok (.isub, 1)) rfl rfl ?_
  show m_run Z (7, 31, [(2, ((r0 : Nat) : Int)), (0, x1), l2, (0, x3), (0, x4), (0, x5)], [(0, (x1 - x5)), (2, ((r0 : Nat) : Int)), (0, x4)], (K, σ, n, e, s)) = _
  refine g_iload (k := 4) (x := x4) (by decide +kernel : decode (m_byt 7) 31 = .ok (.iload 4, 2)) rfl ?_
  refine g_iload_n (k := 3) (x := x3) (by decide +kernel : decode (m_byt 7) 33 = .ok (.iload_n 3, 1)) rfl ?_
  exact g_inv (k := 1) (m' := 8) (np := 3) (as := [(2, ((r0 : Nat) : Int)), (0, (x1 - x5)), (0, x4), (0, x3)]) (by decide +kernel : decode (m_byt 7) 34 = .ok (.invokevirtual 98, 3)) (Or.inl ⟨rfl, rfl⟩) (by decide +kernel) (by decide +kernel) (by decide +kernel) (Nat.le_of_ble_eq_true rfl) rfl (Or.inr (g_rcv (by decide +kernel) h0))
theorem b_7_37 {Z : mZ} {l0 l1 l2 l4 : mV} {s0 s1 x3 x5 : Int} {h : mH} : m_run Z (7, 37, [l0, l1, l2, (0, x3), l4, (0, x5)], [(0, s0), (0, s1)], h) = m_run Z (7, 18, [l0, l1, l2, (0, x3), (0, (s1 - s0)), (0, x5 + 1)], [], h) := by
  refine g_base (by decide +kernel : decode (m_byt 7) 37 = .ok (.isub, 1)) rfl rfl ?_
  show m_run Z (7, 38, [l0, l1, l2, (0, x3), l4, (0, x5)], [(0, (s1 - s0))], h) = _
  refine g_istore (k := 4) (by decide +kernel : decode (m_byt 7) 38 = .ok (.istore 4, 2)) (Nat.le_of_ble_eq_true rfl) ?_
  show m_run Z (7, 40, [l0, l1, l2, (0, x3), (0, (s1 - s0)), (0, x5)], [], h) = _
  refine g_iinc (k := 5) (x := x5) (by decide +kernel : decode (m_byt 7) 40 = .ok (.iinc 5 1, 3)) rfl (Nat.le_of_ble_eq_true rfl) ?_
  show m_run Z (7, 43, [l0, l1, l2, (0, x3), (0, (s1 - s0)), (0, x5 + 1)], [], h) = _
  refine g_jmp (t := 18) (by decide +kernel : decode (m_byt 7) 43 = .ok (.goto (-25), 3)) (by decide) ?_
  rfl
theorem b_7_46 {Z : mZ} {l0 l3 l4 l5 : mV} {x2 x1 : Int} {h : mH} : m_run Z (7, 46, [l0, (0, x1), (0, x2), l3, l4, l5], [], h) = if w32 x2 = w32 (x1 - 1) then m_run Z (7, 53, [l0, (0, x1), (0, x2), l3, l4, l5], [], h) else m_run Z (7, 58, [l0, (0, x1), (0, x2), l3, l4, l5], [], h) := by
  refine g_iload_n (k := 2) (x := x2) (by decide +kernel : decode (m_byt 7) 46 = .ok (.iload_n 2, 1)) rfl ?_
  refine g_iload_n (k := 1) (x := x1) (by decide +kernel : decode (m_byt 7) 47 = .ok (.iload_n 1, 1)) rfl ?_
  refine g_base (by decide +kernel : decode (m_byt 7) 48 = .ok (.iconst 1, 1)) rfl rfl ?_
  show m_run Z (7, 49, [l0, (0, x1), (0, x2), l3, l4, l5], [(0, 1), (0, x1), (0, x2)], h) = _
  refine g_base (by decide +kernel : decode (m_byt 7) 49 = .ok (.isub, 1)) rfl rfl ?_
  show m_run Z (7, 50, [l0, (0, x1), (0, x2), l3, l4, l5], [(0, (x1 - 1)), (0, x2)], h) = _
  exact g_brn (t := 58) (off := 8) (by decide +kernel : decode (m_byt 7) 50 = .ok (.if_icmp .ne 8, 3)) rfl rfl (by decide)
theorem b_7_53 {Z : mZ} {l0 l1 l2 l3 l5 : mV} {x4 : Int} {h : mH} : m_run Z (7, 53, [l0, l1, l2, l3, (0, x4), l5], [], h) = some (.inl (0, x4), h) := by
  refine g_iload (k := 4) (x := x4) (by decide +kernel : decode (m_byt 7) 53 = .ok (.iload 4, 2)) rfl ?_
  refine g_jmp (t := 68) (by decide +kernel : decode (m_byt 7) 55 = .ok (.goto 13, 3)) (by decide) ?_
  exact g_iret (by decide +kernel : decode (m_byt 7) 68 = .ok (.ireturn, 1)) (by decide +kernel)
theorem b_7_58 {Z : mZ} {l5 : mV} {x1 x2 x4 x3 : Int} {r0 : Nat} {K : Nat → mK} {σ : Nat → Nat → Int} {n e s : Nat} (h0 : q_ob K n r0 0) : m_run Z (7, 58, [(2, ((r0 : Nat) : Int)), (0, x1), (0, x2), (0, x3), (0, x4), l5], [], (K, σ, n, e, s)) = (m_cl Z 8 [(2, ((r0 : Nat) : Int)), (0, (x1 - x2)), (0, x4), (0, x3)] (K, σ, n, e, s)).bind (m_aft (m_run Z) 7 65 [(2, ((r0 : Nat) : Int)), (0, x1), (0, x2), (0, x3), (0, x4), l5] []) := by
  refine g_aload_n (k := 0) (v := (2, ((r0 : Nat) : Int))) (by decide +kernel : decode (m_byt 7) 58 = .ok (.aload_n 0, 1)) rfl (Or.inl rfl) ?_
  refine g_iload_n (k := 1) (x := x1) (by decide +kernel : decode (m_byt 7) 59 = .ok (.iload_n 1, 1)) rfl ?_
  refine g_iload_n (k := 2) (x := x2) (by decide +kernel : decode (m_byt 7) 60 = .ok (.iload_n 2, 1)) rfl ?_
  refine g_base (by decide +kernel : decode (m_byt 7) 61 = .ok (.isub, 1)) rfl rfl ?_
  show m_run Z (7, 62, [(2, ((r0 : Nat) : Int)), (0, x1), (0, x2), (0, x3), (0, x4), l5], [(0, (x1 - x2)), (2, ((r0 : Nat) : Int))], (K, σ, n, e, s)) = _
  refine g_iload (k := 4) (x := x4) (by decide +kernel : decode (m_byt 7) 62 = .ok (.iload 4, 2)) rfl ?_
  refine g_iload_n (k := 3) (x := x3) (by decide +kernel : decode (m_byt 7) 64 = .ok (.iload_n 3, 1)) rfl ?_
  exact g_inv (k := 1) (m' := 8) (np := 3) (as := [(2, ((r0 : Nat) : Int)), (0, (x1 - x2)), (0, x4), (0, x3)]) (by decide +kernel : decode (m_byt 7) 65 = .ok (.invokevirtual 98, 3)) (Or.inl ⟨rfl, rfl⟩) (by decide +kernel) (by decide +kernel) (by decide +kernel) (Nat.le_of_ble_eq_true rfl) rfl (Or.inr (g_rcv (by decide +kernel) h0))
theorem b_7_68 {Z : mZ} {l0 l1 l2 l3 l4 l5 : mV} {s0 : Int} {h : mH} : m_run Z (7, 68, [l0, l1, l2, l3, l4, l5], [(0, s0)], h) = some (.inl (0, s0), h) := by
  exact g_iret (by decide +kernel : decode (m_byt 7) 68 = .ok (.ireturn, 1)) (by decide +kernel)
theorem e_8 {Z : mZ} {r0 : Nat} {x1 : Int} {x2 : Int} {x3 : Int} {h : mH} : m_cl Z 8 [(2, ((r0 : Nat) : Int)), (0, x1), (0, x2), (0, x3)] h = m_run Z (8, 0, [(2, ((r0 : Nat) : Int)), (0, x1), (0, x2), (0, x3), (9, 0)], [], h) := g_ent (k := 5) (by decide) (by decide +kernel) (Nat.le_of_ble_eq_true rfl) (by decide +kernel) rfl
theorem b_8_0 {Z : mZ} {l0 l1 l4 : mV} {x2 x3 : Int} {h : mH} : m_run Z (8, 0, [l0, l1, (0, x2), (0, x3), l4], [], h) = m_run Z (8, 3, [l0, l1, (0, x2), (0, x3), (0, x2)], [], h) := by
  refine g_iload_n (k := 2) (x := x2) (by decide +kernel : decode (m_byt 8) 0 = .ok (.iload_n 2, 1)) rfl ?_
  refine g_istore (k := 4) (by decide +kernel : decode (m_byt 8) 1 = .ok (.istore 4, 2)) (Nat.le_of_ble_eq_true rfl) ?_
  show m_run Z (8, 3, [l0, l1, (0, x2), (0, x3), (0, x2)], [], h) = _
  rfl
theorem b_8_3 {Z : mZ} {l0 l1 l2 l3 : mV} {x4 : Int} {h : mH} : m_run Z (8, 3, [l0, l1, l2, l3, (0, x4)], [], h) = if w32 x4 ≤ 0 then m_run Z (8, 54, [l0, l1, l2, l3, (0, x4)], [], h) else m_run Z (8, 8, [l0, l1, l2, l3, (0, x4)], [], h) := by
  refine g_iload (k := 4) (x := x4) (by decide +kernel : decode (m_byt 8) 3 = .ok (.iload 4, 2)) rfl ?_
  exact g_brq (t := 54) (off := 49) (by decide +kernel : decode (m_byt 8) 5 = .ok (.ifCond .le 49, 3)) rfl rfl (by decide)
theorem b_8_8 {Z : mZ} {l0 l1 l3 : mV} {x4 x2 : Int} {h : mH} : m_run Z (8, 8, [l0, l1, (0, x2), l3, (0, x4)], [], h) = if w32 (i_and x4 x2) = w32 x4 then m_run Z (8, 17, [l0, l1, (0, x2), l3, (0, x4)], [], h) else m_run Z (8, 48, [l0, l1, (0, x2), l3, (0, x4)], [], h) := by
  refine g_iload (k := 4) (x := x4) (by decide +kernel : decode (m_byt 8) 8 = .ok (.iload 4, 2)) rfl ?_
  refine g_iload_n (k := 2) (x := x2) (by decide +kernel : decode (m_byt 8) 10 = .ok (.iload_n 2, 1)) rfl ?_
  refine g_base (by decide +kernel : decode (m_byt 8) 11 = .ok (.iand, 1)) rfl rfl ?_
  show m_run Z (8, 12, [l0, l1, (0, x2), l3, (0, x4)], [(0, (i_and x4 x2))], h) = _
  refine g_iload (k := 4) (x := x4) (by decide +kernel : decode (m_byt 8) 12 = .ok (.iload 4, 2)) rfl ?_
  exact g_brn (t := 48) (off := 34) (by decide +kernel : decode (m_byt 8) 14 = .ok (.if_icmp .ne 34, 3)) rfl rfl (by decide)
theorem b_8_17 {Z : mZ} {l1 l2 : mV} {x3 x4 : Int} {r0 : Nat} {K : Nat → mK} {σ : Nat → Nat → Int} {n e s : Nat} (h0 : q_ob K n r0 0) : m_run Z (8, 17, [(2, ((r0 : Nat) : Int)), l1, l2, (0, x3), (0, x4)], [], (K, σ, n, e, s)) = (m_cl Z 5 [(2, ((r0 : Nat) : Int)), (0, x3), (0, x4)] (K, σ, n, e, s)).bind (m_aft (m_run Z) 8 21 [(2, ((r0 : Nat) : Int)), l1, l2, (0, x3), (0, x4)] []) := by
  refine g_aload_n (k := 0) (v := (2, ((r0 : Nat) : Int))) (by decide +kernel : decode (m_byt 8) 17 = .ok (.aload_n 0, 1)) rfl (Or.inl rfl) ?_
  refine g_iload_n (k := 3) (x := x3) (by decide +kernel : decode (m_byt 8) 18 = .ok (.iload_n 3, 1)) rfl ?_
  refine g_iload (k := 4) (x := x4) (by decide +kernel : decode (m_byt 8) 19 = .ok (.iload 4, 2)) rfl ?_
  exact g_inv (k := 1) (m' := 5) (np := 2) (as := [(2, ((r0 : Nat) : Int)), (0, x3), (0, x4)]) (by decide +kernel : decode (m_byt 8) 21 = .ok (.invokevirtual 94, 3)) (Or.inl ⟨rfl, rfl⟩) (by decide +kernel) (by decide +kernel) (by decide +kernel) (Nat.le_of_ble_eq_true rfl) rfl (Or.inr (g_rcv (by decide +kernel) h0))
theorem b_8_24 {Z : mZ} {l0 l1 l2 l3 l4 : mV} {s0 : Int} {h : mH} : m_run Z (8, 24, [l0, l1, l2, l3, l4], [(0, s0)], h) = if w32 s0 = 0 then m_run Z (8, 27, [l0, l1, l2, l3, l4], [], h) else m_run Z (8, 48, [l0, l1, l2, l3, l4], [], h) := by
  exact g_brn (t := 48) (off := 24) (by decide +kernel : decode (m_byt 8) 24 = .ok (.ifCond .ne 24, 3)) rfl rfl (by decide)
theorem b_8_27 {Z : mZ} {x3 x1 x2 x4 : Int} {r0 : Nat} {h : mH} : m_run Z (8, 27, [(2, ((r0 : Nat) : Int)), (0, x1), (0, x2), (0, x3), (0, x4)], [], h) = (m_cl Z 1 [(0, (x1 - 1)), (0, (x2 - x4))] h).bind (m_aft (m_run Z) 8 36 [(2, ((r0 : Nat) : Int)), (0, x1), (0, x2), (0, x3), (0, x4)] [(0, x3), (2, ((r0 : Nat) : Int))]) := by
  refine g_aload_n (k := 0) (v := (2, ((r0 : Nat) : Int))) (by decide +kernel : decode (m_byt 8) 27 = .ok (.aload_n 0, 1)) rfl (Or.inl rfl) ?_
  refine g_iload_n (k := 3) (x := x3) (by decide +kernel : decode (m_byt 8) 28 = .ok (.iload_n 3, 1)) rfl ?_
  refine g_iload_n (k := 1) (x := x1) (by decide +kernel : decode (m_byt 8) 29 = .ok (.iload_n 1, 1)) rfl ?_
  refine g_base (by decide +kernel : decode (m_byt 8) 30 = .ok (.iconst 1, 1)) rfl rfl ?_
  show m_run Z (8, 31, [(2, ((r0 : Nat) : Int)), (0, x1), (0, x2), (0, x3), (0, x4)], [(0, 1), (0, x1), (0, x3), (2, ((r0 : Nat) : Int))], h) = _
  refine g_base (by decide +kernel : decode (m_byt 8) 31 = .ok (.isub, 1)) rfl rfl ?_
  show m_run Z (8, 32, [(2, ((r0 : Nat) : Int)), (0, x1), (0, x2), (0, x3), (0, x4)], [(0, (x1 - 1)), (0, x3), (2, ((r0 : Nat) : Int))], h) = _
  refine g_iload_n (k := 2) (x := x2) (by decide +kernel : decode (m_byt 8) 32 = .ok (.iload_n 2, 1)) rfl ?_
  refine g_iload (k := 4) (x := x4) (by decide +kernel : decode (m_byt 8) 33 = .ok (.iload 4, 2)) rfl ?_
  refine g_base (by decide +kernel : decode (m_byt 8) 35 = .ok (.isub, 1)) rfl rfl ?_
  show m_run Z (8, 36, [(2, ((r0 : Nat) : Int)), (0, x1), (0, x2), (0, x3), (0, x4)], [(0, (x2 - x4)), (0, (x1 - 1)), (0, x3), (2, ((r0 : Nat) : Int))], h) = _
  exact g_inv (k := 0) (m' := 1) (np := 2) (as := [(0, (x1 - 1)), (0, (x2 - x4))]) (by decide +kernel : decode (m_byt 8) 36 = .ok (.invokestatic 91, 3)) (Or.inr (Or.inr ⟨rfl, rfl, by decide, by decide⟩)) (by decide +kernel) (by decide +kernel) (by decide +kernel) (Nat.le_of_ble_eq_true rfl) rfl (Or.inl rfl)
theorem b_8_39 {Z : mZ} {l0 l1 l2 l3 l4 : mV} {s0 s1 : Int} {s2 : Nat} {K : Nat → mK} {σ : Nat → Nat → Int} {n e s : Nat} (h0 : q_ob K n s2 0) : m_run Z (8, 39, [l0, l1, l2, l3, l4], [(0, s0), (0, s1), (2, ((s2 : Nat) : Int))], (K, σ, n, e, s)) = (m_cl Z 5 [(2, ((s2 : Nat) : Int)), (0, s1), (0, s0)] (K, σ, n, e, s)).bind (m_aft (m_run Z) 8 39 [l0, l1, l2, l3, l4] []) := by
  exact g_inv (k := 1) (m' := 5) (np := 2) (as := [(2, ((s2 : Nat) : Int)), (0, s1), (0, s0)]) (by decide +kernel : decode (m_byt 8) 39 = .ok (.invokevirtual 94, 3)) (Or.inl ⟨rfl, rfl⟩) (by decide +kernel) (by decide +kernel) (by decide +kernel) (Nat.le_of_ble_eq_true rfl) rfl (Or.inr (g_rcv (by decide +kernel) h0))
theorem b_8_42 {Z : mZ} {l0 l1 l2 l3 l4 : mV} {s0 : Int} {h : mH} : m_run Z (8, 42, [l0, l1, l2, l3, l4], [(0, s0)], h) = if w32 s0 = 0 then m_run Z (8, 45, [l0, l1, l2, l3, l4], [], h) else m_run Z (8, 48, [l0, l1, l2, l3, l4], [], h) := by
  exact g_brn (t := 48) (off := 6) (by decide +kernel : decode (m_byt 8) 42 = .ok (.ifCond .ne 6, 3)) rfl rfl (by decide)
theorem b_8_45 {Z : mZ} {l0 l1 l2 l3 : mV} {x4 : Int} {h : mH} : m_run Z (8, 45, [l0, l1, l2, l3, (0, x4)], [], h) = some (.inl (0, x4), h) := by
  refine g_iload (k := 4) (x := x4) (by decide +kernel : decode (m_byt 8) 45 = .ok (.iload 4, 2)) rfl ?_
  exact g_iret (by decide +kernel : decode (m_byt 8) 47 = .ok (.ireturn, 1)) (by decide +kernel)
theorem b_8_48 {Z : mZ} {l0 l1 l2 : mV} {x4 x3 : Int} {h : mH} : m_run Z (8, 48, [l0, l1, l2, (0, x3), (0, x4)], [], h) = m_run Z (8, 3, [l0, l1, l2, (0, x3), (0, x4 + (-1))], [], h) := by
  refine g_iinc (k := 4) (x := x4) (by decide +kernel : decode (m_byt 8) 48 = .ok (.iinc 4 (-1), 3)) rfl (Nat.le_of_ble_eq_true rfl) ?_
  show m_run Z (8, 51, [l0, l1, l2, (0, x3), (0, x4 + (-1))], [], h) = _
  refine g_jmp (t := 3) (by decide +kernel : decode (m_byt 8) 51 = .ok (.goto (-48), 3)) (by decide) ?_
  rfl
theorem b_8_54 {Z : mZ} {l0 l1 l2 l3 l4 : mV} {h : mH} : m_run Z (8, 54, [l0, l1, l2, l3, l4], [], h) = some (.inl (0, 0), h) := by
  refine g_base (by decide +kernel : decode (m_byt 8) 54 = .ok (.iconst 0, 1)) rfl rfl ?_
  show m_run Z (8, 55, [l0, l1, l2, l3, l4], [(0, 0)], h) = _
  exact g_iret (by decide +kernel : decode (m_byt 8) 55 = .ok (.ireturn, 1)) (by decide +kernel)
theorem e_9 {Z : mZ} {r0 : Nat} {x1 : Int} {x2 : Int} {h : mH} : m_cl Z 9 [(2, ((r0 : Nat) : Int)), (0, x1), (0, x2)] h = m_run Z (9, 0, [(2, ((r0 : Nat) : Int)), (0, x1), (0, x2), (9, 0), (9, 0), (9, 0)], [], h) := g_ent (k := 6) (by decide) (by decide +kernel) (Nat.le_of_ble_eq_true rfl) (by decide +kernel) rfl
theorem b_9_0 {Z : mZ} {l1 l2 l3 l4 l5 : mV} {r0 : Nat} {K : Nat → mK} {σ : Nat → Nat → Int} {n e s : Nat} (h0 : q_ob K n r0 0) (h1 : q_rp K r0 6) (h2 : q_ob K n (q_rf K r0 6) 3) : m_run Z (9, 0, [(2, ((r0 : Nat) : Int)), l1, l2, l3, l4, l5], [], (K, σ, n, e, s)) = (m_cl Z 45 [(2, ((q_rf K r0 6 : Nat) : Int)), (0, 0), (0, 0)] (K, σ, n, e, s)).bind (m_aft (m_run Z) 9 6 [(2, ((r0 : Nat) : Int)), l1, l2, l3, l4, l5] []) := by
  refine g_aload_n (k := 0) (v := (2, ((r0 : Nat) : Int))) (by decide +kernel : decode (m_byt 9) 0 = .ok (.aload_n 0, 1)) rfl (Or.inl rfl) ?_
  refine g_getr (ci := 0) (f := 6) (by decide +kernel : decode (m_byt 9) 1 = .ok (.getfield 26, 3)) (by decide +kernel) (by decide +kernel) (by decide +kernel) h0 h1 ?_
  refine g_base (by decide +kernel : decode (m_byt 9) 4 = .ok (.iconst 0, 1)) rfl rfl ?_
  show m_run Z (9, 5, [(2, ((r0 : Nat) : Int)), l1, l2, l3, l4, l5], [(0, 0), (2, ((q_rf K r0 6 : Nat) : Int))], (K, σ, n, e, s)) = _
  refine g_base (by decide +kernel : decode (m_byt 9) 5 = .ok (.iconst 0, 1)) rfl rfl ?_
  show m_run Z (9, 6, [(2, ((r0 : Nat) : Int)), l1, l2, l3, l4, l5], [(0, 0), (0, 0), (2, ((q_rf K r0 6 : Nat) : Int))], (K, σ, n, e, s)) = _
  exact g_inv (k := 1) (m' := 45) (np := 2) (as := [(2, ((q_rf K r0 6 : Nat) : Int)), (0, 0), (0, 0)]) (by decide +kernel : decode (m_byt 9) 6 = .ok (.invokevirtual 88, 3)) (Or.inl ⟨rfl, rfl⟩) (by decide +kernel) (by decide +kernel) (by decide +kernel) (Nat.le_of_ble_eq_true rfl) rfl (Or.inr (g_rcv (by decide +kernel) h2))
theorem b_9_9 {Z : mZ} {l0 l1 l3 l4 l5 : mV} {x2 : Int} {h : mH} : m_run Z (9, 9, [l0, l1, (0, x2), l3, l4, l5], [], h) = m_run Z (9, 11, [l0, l1, (0, x2), (0, 1), l4, l5], [], h) := by
  refine g_base (by decide +kernel : decode (m_byt 9) 9 = .ok (.iconst 1, 1)) rfl rfl ?_
  show m_run Z (9, 10, [l0, l1, (0, x2), l3, l4, l5], [(0, 1)], h) = _
  refine g_istore_n (k := 3) (by decide +kernel : decode (m_byt 9) 10 = .ok (.istore_n 3, 1)) (Nat.le_of_ble_eq_true rfl) ?_
  show m_run Z (9, 11, [l0, l1, (0, x2), (0, 1), l4, l5], [], h) = _
  rfl
theorem b_9_11 {Z : mZ} {l1 l2 l4 l5 : mV} {x3 : Int} {r0 : Nat} {K : Nat → mK} {σ : Nat → Nat → Int} {n e s : Nat} (h0 : q_ob K n r0 0) : m_run Z (9, 11, [(2, ((r0 : Nat) : Int)), l1, l2, (0, x3), l4, l5], [], (K, σ, n, e, s)) = if w32 (σ r0 2) < w32 x3 then m_run Z (9, 94, [(2, ((r0 : Nat) : Int)), l1, l2, (0, x3), l4, l5], [], (K, σ, n, e, s)) else m_run Z (9, 19, [(2, ((r0 : Nat) : Int)), l1, l2, (0, x3), l4, l5], [], (K, σ, n, e, s)) := by
  refine g_iload_n (k := 3) (x := x3) (by decide +kernel : decode (m_byt 9) 11 = .ok (.iload_n 3, 1)) rfl ?_
  refine g_aload_n (k := 0) (v := (2, ((r0 : Nat) : Int))) (by decide +kernel : decode (m_byt 9) 12 = .ok (.aload_n 0, 1)) rfl (Or.inl rfl) ?_
  refine g_getf (ci := 0) (f := 2) (by decide +kernel : decode (m_byt 9) 13 = .ok (.getfield 46, 3)) (by decide +kernel) (by decide +kernel) (by decide +kernel) h0 ?_
  exact g_brq (t := 94) (off := 78) (by decide +kernel : decode (m_byt 9) 16 = .ok (.if_icmp .gt 78, 3)) rfl rfl (by decide)
theorem b_9_19 {Z : mZ} {l0 l1 l2 l4 l5 : mV} {x3 : Int} {h : mH} : m_run Z (9, 19, [l0, l1, l2, (0, x3), l4, l5], [], h) = m_run Z (9, 26, [l0, l1, l2, (0, x3), (0, 8), (0, 1)], [], h) := by
  refine g_base (by decide +kernel : decode (m_byt 9) 19 = .ok (.bipush 8, 2)) rfl rfl ?_
  show m_run Z (9, 21, [l0, l1, l2, (0, x3), l4, l5], [(0, 8)], h) = _
  refine g_istore (k := 4) (by decide +kernel : decode (m_byt 9) 21 = .ok (.istore 4, 2)) (Nat.le_of_ble_eq_true rfl) ?_
  show m_run Z (9, 23, [l0, l1, l2, (0, x3), (0, 8), l5], [], h) = _
  refine g_base (by decide +kernel : decode (m_byt 9) 23 = .ok (.iconst 1, 1)) rfl rfl ?_
  show m_run Z (9, 24, [l0, l1, l2, (0, x3), (0, 8), l5], [(0, 1)], h) = _
  refine g_istore (k := 5) (by decide +kernel : decode (m_byt 9) 24 = .ok (.istore 5, 2)) (Nat.le_of_ble_eq_true rfl) ?_
  show m_run Z (9, 26, [l0, l1, l2, (0, x3), (0, 8), (0, 1)], [], h) = _
  rfl
theorem b_9_26 {Z : mZ} {l0 l1 l2 l4 : mV} {x5 x3 : Int} {h : mH} : m_run Z (9, 26, [l0, l1, l2, (0, x3), l4, (0, x5)], [], h) = if w32 x3 < w32 x5 then m_run Z (9, 78, [l0, l1, l2, (0, x3), l4, (0, x5)], [], h) else m_run Z (9, 32, [l0, l1, l2, (0, x3), l4, (0, x5)], [], h) := by
  refine g_iload (k := 5) (x := x5) (by decide +kernel : decode (m_byt 9) 26 = .ok (.iload 5, 2)) rfl ?_
  refine g_iload_n (k := 3) (x := x3) (by decide +kernel : decode (m_byt 9) 28 = .ok (.iload_n 3, 1)) rfl ?_
  exact g_brq (t := 78) (off := 49) (by decide +kernel : decode (m_byt 9) 29 = .ok (.if_icmp .gt 49, 3)) rfl rfl (by decide)
theorem b_9_32 {Z : mZ} {l0 l1 l2 l4 : mV} {x5 x3 : Int} {h : mH} : m_run Z (9, 32, [l0, l1, l2, (0, x3), l4, (0, x5)], [], h) = if w32 (i_and x5 x3) = w32 x5 then m_run Z (9, 41, [l0, l1, l2, (0, x3), l4, (0, x5)], [], h) else m_run Z (9, 72, [l0, l1, l2, (0, x3), l4, (0, x5)], [], h) := by
  refine g_iload (k := 5) (x := x5) (by decide +kernel : decode (m_byt 9) 32 = .ok (.iload 5, 2)) rfl ?_
  refine g_iload_n (k := 3) (x := x3) (by decide +kernel : decode (m_byt 9) 34 = .ok (.iload_n 3, 1)) rfl ?_
  refine g_base (by decide +kernel : decode (m_byt 9) 35 = .ok (.iand, 1)) rfl rfl ?_
  show m_run Z (9, 36, [l0, l1, l2, (0, x3), l4, (0, x5)], [(0, (i_and x5 x3))], h) = _
  refine g_iload (k := 5) (x := x5) (by decide +kernel : decode (m_byt 9) 36 = .ok (.iload 5, 2)) rfl ?_
  exact g_brn (t := 72) (off := 34) (by decide +kernel : decode (m_byt 9) 38 = .ok (.if_icmp .ne 34, 3)) rfl rfl (by decide)
theorem b_9_41 {Z : mZ} {l3 l4 : mV} {x5 x1 x2 : Int} {r0 : Nat} {K : Nat → mK} {σ : Nat → Nat → Int} {n e s : Nat} (h0 : q_ob K n r0 0) : m_run Z (9, 41, [(2, ((r0 : Nat) : Int)), (0, x1), (0, x2), l3, l4, (0, x5)], [], (K, σ, n, e, s)) = (m_cl Z 10 [(2, ((r0 : Nat) : Int)), (0, x5), (0, x1), (0, x2)] (K, σ, n, e, s)).bind (m_aft (m_run Z) 9 46 [(2, ((r0 : Nat) : Int)), (0, x1), (0, x2), l3, l4, (0, x5)] []) := by
  refine g_aload_n (k := 0) (v := (2, ((r0 : Nat) : Int))) (by decide +kernel : decode (m_byt 9) 41 = .ok (.aload_n 0, 1)) rfl (Or.inl rfl) ?_
  refine g_iload (k := 5) (x := x5) (by decide +kernel : decode (m_byt 9) 42 = .ok (.iload 5, 2)) rfl ?_
  refine g_iload_n (k := 1) (x := x1) (by decide +kernel : decode (m_byt 9) 44 = .ok (.iload_n 1, 1)) rfl ?_
  refine g_iload_n (k := 2) (x := x2) (by decide +kernel : decode (m_byt 9) 45 = .ok (.iload_n 2, 1)) rfl ?_
  exact g_inv (k := 1) (m' := 10) (np := 3) (as := [(2, ((r0 : Nat) : Int)), (0, x5), (0, x1), (0, x2)]) (by decide +kernel : decode (m_byt 9) 46 = .ok (.invokevirtual 102, 3)) (Or.inl ⟨rfl, rfl⟩) (by decide +kernel) (by decide +kernel) (by decide +kernel) (Nat.le_of_ble_eq_true rfl) rfl (Or.inr (g_rcv (by decide +kernel) h0))
theorem b_9_49 {Z : mZ} {l0 l1 l2 l3 l4 l5 : mV} {s0 : Int} {h : mH} : m_run Z (9, 49, [l0, l1, l2, l3, l4, l5], [(0, s0)], h) = if w32 s0 = 0 then m_run Z (9, 72, [l0, l1, l2, l3, l4, l5], [], h) else m_run Z (9, 52, [l0, l1, l2, l3, l4, l5], [], h) := by
  exact g_brq (t := 72) (off := 23) (by decide +kernel : decode (m_byt 9) 49 = .ok (.ifCond .eq 23, 3)) rfl rfl (by decide)
theorem b_9_52 {Z : mZ} {l1 l2 : mV} {x4 x3 x5 : Int} {r0 : Nat} {K : Nat → mK} {σ : Nat → Nat → Int} {n e s : Nat} (h0 : q_ob K n r0 0) (h1 : q_rp K r0 6) (h2 : q_ob K n (q_rf K r0 6) 3) : m_run Z (9, 52, [(2, ((r0 : Nat) : Int)), l1, l2, (0, x3), (0, x4), (0, x5)], [], (K, σ, n, e, s)) = (m_cl Z 44 [(2, ((q_rf K r0 6 : Nat) : Int)), (0, (x3 - x5))] (K, σ, n, e, s)).bind (m_aft (m_run Z) 9 62 [(2, ((r0 : Nat) : Int)), l1, l2, (0, x3), (0, x4), (0, x5)] [(0, x4)]) := by
  refine g_iload (k := 4) (x := x4) (by decide +kernel : decode (m_byt 9) 52 = .ok (.iload 4, 2)) rfl ?_
  refine g_aload_n (k := 0) (v := (2, ((r0 : Nat) : Int))) (by decide +kernel : decode (m_byt 9) 54 = .ok (.aload_n 0, 1)) rfl (Or.inl rfl) ?_
  refine g_getr (ci := 0) (f := 6) (by decide +kernel : decode (m_byt 9) 55 = .ok (.getfield 26, 3)) (by decide +kernel) (by decide +kernel) (by decide +kernel) h0 h1 ?_
  refine g_iload_n (k := 3) (x := x3) (by decide +kernel : decode (m_byt 9) 58 = .ok (.iload_n 3, 1)) rfl ?_
  refine g_iload (k := 5) (x := x5) (by decide +kernel : decode (m_byt 9) 59 = .ok (.iload 5, 2)) rfl ?_
  refine g_base (by decide +kernel : decode (m_byt 9) 61 = .ok (.isub, 1)) rfl rfl ?_
  show m_run Z (9, 62, [(2, ((r0 : Nat) : Int)), l1, l2, (0, x3), (0, x4), (0, x5)], [(0, (x3 - x5)), (2, ((q_rf K r0 6 : Nat) : Int)), (0, x4)], (K, σ, n, e, s)) = _
  exact g_inv (k := 1) (m' := 44) (np := 1) (as := [(2, ((q_rf K r0 6 : Nat) : Int)), (0, (x3 - x5))]) (by decide +kernel : decode (m_byt 9) 62 = .ok (.invokevirtual 58, 3)) (Or.inl ⟨rfl, rfl⟩) (by decide +kernel) (by decide +kernel) (by decide +kernel) (Nat.le_of_ble_eq_true rfl) rfl (Or.inr (g_rcv (by decide +kernel) h2))
theorem b_9_65 {Z : mZ} {l0 l1 l2 l4 l5 : mV} {s0 s1 x3 : Int} {h : mH} : m_run Z (9, 65, [l0, l1, l2, (0, x3), l4, l5], [(0, s0), (0, s1)], h) = m_run Z (9, 72, [l0, l1, l2, (0, x3), (0, (if w32 (s0 + 1) < w32 s1 then (s0 + 1) else s1)), l5], [], h) := by
  refine g_base (by decide +kernel : decode (m_byt 9) 65 = .ok (.iconst 1, 1)) rfl rfl ?_
  show m_run Z (9, 66, [l0, l1, l2, (0, x3), l4, l5], [(0, 1), (0, s0), (0, s1)], h) = _
  refine g_base (by decide +kernel : decode (m_byt 9) 66 = .ok (.iadd, 1)) rfl rfl ?_
  show m_run Z (9, 67, [l0, l1, l2, (0, x3), l4, l5], [(0, (s0 + 1)), (0, s1)], h) = _
  refine g_min (by decide +kernel : decode (m_byt 9) 67 = .ok (.invokestatic 106, 3)) (by decide +kernel) (by decide +kernel) (Nat.le_of_ble_eq_true rfl) ?_
  show m_run Z (9, 70, [l0, l1, l2, (0, x3), l4, l5], [(0, (if w32 (s0 + 1) < w32 s1 then (s0 + 1) else s1))], h) = _
  refine g_istore (k := 4) (by decide +kernel : decode (m_byt 9) 70 = .ok (.istore 4, 2)) (Nat.le_of_ble_eq_true rfl) ?_
  show m_run Z (9, 72, [l0, l1, l2, (0, x3), (0, (if w32 (s0 + 1) < w32 s1 then (s0 + 1) else s1)), l5], [], h) = _
  rfl
theorem b_9_72 {Z : mZ} {l0 l1 l2 l3 : mV} {x5 x4 : Int} {h : mH} : m_run Z (9, 72, [l0, l1, l2, l3, (0, x4), (0, x5)], [], h) = m_run Z (9, 26, [l0, l1, l2, l3, (0, x4), (0, x5 + 1)], [], h) := by
  refine g_iinc (k := 5) (x := x5) (by decide +kernel : decode (m_byt 9) 72 = .ok (.iinc 5 1, 3)) rfl (Nat.le_of_ble_eq_true rfl) ?_
  show m_run Z (9, 75, [l0, l1, l2, l3, (0, x4), (0, x5 + 1)], [], h) = _
  refine g_jmp (t := 26) (by decide +kernel : decode (m_byt 9) 75 = .ok (.goto (-49), 3)) (by decide) ?_
  rfl
theorem b_9_78 {Z : mZ} {l1 l2 l5 : mV} {x3 x4 : Int} {r0 : Nat} {K : Nat → mK} {σ : Nat → Nat → Int} {n e s : Nat} (h0 : q_ob K n r0 0) (h1 : q_rp K r0 6) (h2 : q_ob K n (q_rf K r0 6) 3) : m_run Z (9, 78, [(2, ((r0 : Nat) : Int)), l1, l2, (0, x3), (0, x4), l5], [], (K, σ, n, e, s)) = (m_cl Z 45 [(2, ((q_rf K r0 6 : Nat) : Int)), (0, x3), (0, x4)] (K, σ, n, e, s)).bind (m_aft (m_run Z) 9 85 [(2, ((r0 : Nat) : Int)), l1, l2, (0, x3), (0, x4), l5] []) := by
  refine g_aload_n (k := 0) (v := (2, ((r0 : Nat) : Int))) (by decide +kernel : decode (m_byt 9) 78 = .ok (.aload_n 0, 1)) rfl (Or.inl rfl) ?_
  refine g_getr (ci := 0) (f := 6) (by decide +kernel : decode (m_byt 9) 79 = .ok (.getfield 26, 3)) (by decide +kernel) (by decide +kernel) (by decide +kernel) h0 h1 ?_
  refine g_iload_n (k := 3) (x := x3) (by decide +kernel : decode (m_byt 9) 82 = .ok (.iload_n 3, 1)) rfl ?_
  refine g_iload (k := 4) (x := x4) (by decide +kernel : decode (m_byt 9) 83 = .ok (.iload 4, 2)) rfl ?_
  exact g_inv (k := 1) (m' := 45) (np := 2) (as := [(2, ((q_rf K r0 6 : Nat) : Int)), (0, x3), (0, x4)]) (by decide +kernel : decode (m_byt 9) 85 = .ok (.invokevirtual 88, 3)) (Or.inl ⟨rfl, rfl⟩) (by decide +kernel) (by decide +kernel) (by decide +kernel) (Nat.le_of_ble_eq_true rfl) rfl (Or.inr (g_rcv (by decide +kernel) h2))
theorem b_9_88 {Z : mZ} {l0 l1 l4 l5 : mV} {x3 x2 : Int} {h : mH} : m_run Z (9, 88, [l0, l1, (0, x2), (0, x3), l4, l5], [], h) = m_run Z (9, 11, [l0, l1, (0, x2), (0, x3 + 1), l4, l5], [], h) := by
  refine g_iinc (k := 3) (x := x3) (by decide +kernel : decode (m_byt 9) 88 = .ok (.iinc 3 1, 3)) rfl (Nat.le_of_ble_eq_true rfl) ?_
  show m_run Z (9, 91, [l0, l1, (0, x2), (0, x3 + 1), l4, l5], [], h) = _
  refine g_jmp (t := 11) (by decide +kernel : decode (m_byt 9) 91 = .ok (.goto (-80), 3)) (by decide) ?_
  rfl
theorem b_9_94 {Z : mZ} {l1 l2 l3 l4 l5 : mV} {r0 : Nat} {K : Nat → mK} {σ : Nat → Nat → Int} {n e s : Nat} (h0 : q_ob K n r0 0) (h1 : q_rp K r0 6) (h2 : q_ob K n (q_rf K r0 6) 3) : m_run Z (9, 94, [(2, ((r0 : Nat) : Int)), l1, l2, l3, l4, l5], [], (K, σ, n, e, s)) = (m_cl Z 44 [(2, ((q_rf K r0 6 : Nat) : Int)), (0, (σ r0 2))] (K, σ, n, e, s)).bind (m_aft (m_run Z) 9 102 [(2, ((r0 : Nat) : Int)), l1, l2, l3, l4, l5] []) := by
  refine g_aload_n (k := 0) (v := (2, ((r0 : Nat) : Int))) (by decide +kernel : decode (m_byt 9) 94 = .ok (.aload_n 0, 1)) rfl (Or.inl rfl) ?_
  refine g_getr (ci := 0) (f := 6) (by decide +kernel : decode (m_byt 9) 95 = .ok (.getfield 26, 3)) (by decide +kernel) (by decide +kernel) (by decide +kernel) h0 h1 ?_
  refine g_aload_n (k := 0) (v := (2, ((r0 : Nat) : Int))) (by decide +kernel : decode (m_byt 9) 98 = .ok (.aload_n 0, 1)) rfl (Or.inl rfl) ?_
  refine g_getf (ci := 0) (f := 2) (by decide +kernel : decode (m_byt 9) 99 = .ok (.getfield 46, 3)) (by decide +kernel) (by decide +kernel) (by decide +kernel) h0 ?_
  exact g_inv (k := 1) (m' := 44) (np := 1) (as := [(2, ((q_rf K r0 6 : Nat) : Int)), (0, (σ r0 2))]) (by decide +kernel : decode (m_byt 9) 102 = .ok (.invokevirtual 58, 3)) (Or.inl ⟨rfl, rfl⟩) (by decide +kernel) (by decide +kernel) (by decide +kernel) (Nat.le_of_ble_eq_true rfl) rfl (Or.inr (g_rcv (by decide +kernel) h2))
theorem b_9_105 {Z : mZ} {l0 l1 l2 l3 l4 l5 : mV} {s0 : Int} {h : mH} : m_run Z (9, 105, [l0, l1, l2, l3, l4, l5], [(0, s0)], h) = some (.inl (0, s0), h) := by
  exact g_iret (by decide +kernel : decode (m_byt 9) 105 = .ok (.ireturn, 1)) (by decide +kernel)
theorem e_10 {Z : mZ} {r0 : Nat} {x1 : Int} {x2 : Int} {x3 : Int} {h : mH} : m_cl Z 10 [(2, ((r0 : Nat) : Int)), (0, x1), (0, x2), (0, x3)] h = m_run Z (10, 0, [(2, ((r0 : Nat) : Int)), (0, x1), (0, x2), (0, x3)], [], h) := g_ent (k := 4) (by decide) (by decide +kernel) (Nat.le_of_ble_eq_true rfl) (by decide +kernel) rfl
theorem b_10_0 {Z : mZ} {l2 l3 : mV} {x1 : Int} {r0 : Nat} {K : Nat → mK} {σ : Nat → Nat → Int} {n e s : Nat} (h0 : q_ob K n r0 0) (h1 : q_rp K r0 3) (h2 : q_ob K n (q_rf K r0 3) 3) : m_run Z (10, 0, [(2, ((r0 : Nat) : Int)), (0, x1), l2, l3], [], (K, σ, n, e, s)) = (m_cl Z 44 [(2, ((q_rf K r0 3 : Nat) : Int)), (0, x1)] (K, σ, n, e, s)).bind (m_aft (m_run Z) 10 5 [(2, ((r0 : Nat) : Int)), (0, x1), l2, l3] []) := by
  refine g_aload_n (k := 0) (v := (2, ((r0 : Nat) : Int))) (by decide +kernel : decode (m_byt 10) 0 = .ok (.aload_n 0, 1)) rfl (Or.inl rfl) ?_
  refine g_getr (ci := 0) (f := 3) (by decide +kernel : decode (m_byt 10) 1 = .ok (.getfield 14, 3)) (by decide +kernel) (by decide +kernel) (by decide +kernel) h0 h1 ?_
  refine g_iload_n (k := 1) (x := x1) (by decide +kernel : decode (m_byt 10) 4 = .ok (.iload_n 1, 1)) rfl ?_
  exact g_inv (k := 1) (m' := 44) (np := 1) (as := [(2, ((q_rf K r0 3 : Nat) : Int)), (0, x1)]) (by decide +kernel : decode (m_byt 10) 5 = .ok (.invokevirtual 58, 3)) (Or.inl ⟨rfl, rfl⟩) (by decide +kernel) (by decide +kernel) (by decide +kernel) (Nat.le_of_ble_eq_true rfl) rfl (Or.inr (g_rcv (by decide +kernel) h2))
theorem b_10_8 {Z : mZ} {s0 x3 x2 x1 : Int} {r0 : Nat} {K : Nat → mK} {σ : Nat → Nat → Int} {n e s : Nat} (h0 : q_ob K n r0 0) (h1 : q_rp K r0 4) (h2 : q_ob K n (q_rf K r0 4) 3) : m_run Z (10, 8, [(2, ((r0 : Nat) : Int)), (0, x1), (0, x2), (0, x3)], [(0, s0)], (K, σ, n, e, s)) = (m_cl Z 44 [(2, ((q_rf K r0 4 : Nat) : Int)), (0, x1)] (K, σ, n, e, s)).bind (m_aft (m_run Z) 10 19 [(2, ((r0 : Nat) : Int)), (0, x1), (0, x2), (0, x3)] [(1, (w32 x2)), (1, ((w32 s0) * (w32 x3)))]) := by
  refine g_base (by decide +kernel : decode (m_byt 10) 8 = .ok (.i2l, 1)) rfl rfl ?_
  show m_run Z (10, 9, [(2, ((r0 : Nat) : Int)), (0, x1), (0, x2), (0, x3)], [(1, (w32 s0))], (K, σ, n, e, s)) = _
  refine g_iload_n (k := 3) (x := x3) (by decide +kernel : decode (m_byt 10) 9 = .ok (.iload_n 3, 1)) rfl ?_
  refine g_base (by decide +kernel : decode (m_byt 10) 10 = .ok (.i2l, 1)) rfl rfl ?_
  show m_run Z (10, 11, [(2, ((r0 : Nat) : Int)), (0, x1), (0, x2), (0, x3)], [(1, (w32 x3)), (1, (w32 s0))], (K, σ, n, e, s)) = _
  refine g_base (by decide +kernel : decode (m_byt 10) 11 = .ok (.lmul, 1)) rfl rfl ?_
  show m_run Z (10, 12, [(2, ((r0 : Nat) : Int)), (0, x1), (0, x2), (0, x3)], [(1, ((w32 s0) * (w32 x3)))], (K, σ, n, e, s)) = _
  refine g_iload_n (k := 2) (x := x2) (by decide +kernel : decode (m_byt 10) 12 = .ok (.iload_n 2, 1)) rfl ?_
  refine g_base (by decide +kernel : decode (m_byt 10) 13 = .ok (.i2l, 1)) rfl rfl ?_
  show m_run Z (10, 14, [(2, ((r0 : Nat) : Int)), (0, x1), (0, x2), (0, x3)], [(1, (w32 x2)), (1, ((w32 s0) * (w32 x3)))], (K, σ, n, e, s)) = _
  refine g_aload_n (k := 0) (v := (2, ((r0 : Nat) : Int))) (by decide +kernel : decode (m_byt 10) 14 = .ok (.aload_n 0, 1)) rfl (Or.inl rfl) ?_
  refine g_getr (ci := 0) (f := 4) (by decide +kernel : decode (m_byt 10) 15 = .ok (.getfield 20, 3)) (by decide +kernel) (by decide +kernel) (by decide +kernel) h0 h1 ?_
  refine g_iload_n (k := 1) (x := x1) (by decide +kernel : decode (m_byt 10) 18 = .ok (.iload_n 1, 1)) rfl ?_
  exact g_inv (k := 1) (m' := 44) (np := 1) (as := [(2, ((q_rf K r0 4 : Nat) : Int)), (0, x1)]) (by decide +kernel : decode (m_byt 10) 19 = .ok (.invokevirtual 58, 3)) (Or.inl ⟨rfl, rfl⟩) (by decide +kernel) (by decide +kernel) (by decide +kernel) (Nat.le_of_ble_eq_true rfl) rfl (Or.inr (g_rcv (by decide +kernel) h2))
theorem b_10_22 {Z : mZ} {l0 l1 l2 l3 : mV} {s0 s1 s2 : Int} {h : mH} : m_run Z (10, 22, [l0, l1, l2, l3], [(0, s0), (1, s1), (1, s2)], h) = if 0 < w32 (l_cmp s2 (s1 * (w32 s0))) then m_run Z (10, 32, [l0, l1, l2, l3], [], h) else m_run Z (10, 28, [l0, l1, l2, l3], [], h) := by
  refine g_base (by decide +kernel : decode (m_byt 10) 22 = .ok (.i2l, 1)) rfl rfl ?_
  show m_run Z (10, 23, [l0, l1, l2, l3], [(1, (w32 s0)), (1, s1), (1, s2)], h) = _
  refine g_base (by decide +kernel : decode (m_byt 10) 23 = .ok (.lmul, 1)) rfl rfl ?_
  show m_run Z (10, 24, [l0, l1, l2, l3], [(1, (s1 * (w32 s0))), (1, s2)], h) = _
  refine g_base (by decide +kernel : decode (m_byt 10) 24 = .ok (.lcmp, 1)) rfl rfl ?_
  show m_run Z (10, 25, [l0, l1, l2, l3], [(0, (l_cmp s2 (s1 * (w32 s0))))], h) = _
  exact g_brq (t := 32) (off := 7) (by decide +kernel : decode (m_byt 10) 25 = .ok (.ifCond .gt 7, 3)) rfl rfl (by decide)
theorem b_10_28 {Z : mZ} {l0 l1 l2 l3 : mV} {h : mH} : m_run Z (10, 28, [l0, l1, l2, l3], [], h) = some (.inl (0, 1), h) := by
  refine g_base (by decide +kernel : decode (m_byt 10) 28 = .ok (.iconst 1, 1)) rfl rfl ?_
  show m_run Z (10, 29, [l0, l1, l2, l3], [(0, 1)], h) = _
  refine g_jmp (t := 33) (by decide +kernel : decode (m_byt 10) 29 = .ok (.goto 4, 3)) (by decide) ?_
  exact g_zret (by decide +kernel : decode (m_byt 10) 33 = .ok (.ireturn, 1)) (by decide +kernel) (by decide)
theorem b_10_32 {Z : mZ} {l0 l1 l2 l3 : mV} {h : mH} : m_run Z (10, 32, [l0, l1, l2, l3], [], h) = m_run Z (10, 33, [l0, l1, l2, l3], [(0, 0)], h) := by
  refine g_base (by decide +kernel : decode (m_byt 10) 32 = .ok (.iconst 0, 1)) rfl rfl ?_
  show m_run Z (10, 33, [l0, l1, l2, l3], [(0, 0)], h) = _
  rfl
theorem b_10_33 {Z : mZ} {l0 l1 l2 l3 : mV} {s0 : Int} {h : mH} (h0 : w32 s0 = 0 ∨ w32 s0 = 1) : m_run Z (10, 33, [l0, l1, l2, l3], [(0, s0)], h) = some (.inl (0, s0), h) := by
  exact g_zret (by decide +kernel : decode (m_byt 10) 33 = .ok (.ireturn, 1)) (by decide +kernel) h0
end
