section
theorem e_34 {Z : mZ} {r0 : Nat} {r1 : Nat} {h h' : mH} {v : mV} (hr : m_run Z (34, 0, [(2, ((r0 : Nat) : Int)), (2, ((r1 : Nat) : Int))], [], h) = some (.inl v, h')) : m_cl Z 34 [(2, ((r0 : Nat) : Int)), (2, ((r1 : Nat) : Int))] h = some (.inl v, h') := g_enti (k := 2) (by decide) (by decide +kernel) (Nat.le_of_ble_eq_true rfl) rfl hr
theorem b_34_0 {Z : mZ} {l1 : mV} {r0 : Nat} {K : Nat → mK} {σ : Nat → Nat → Int} {n s : Nat} (h0 : q_ob (m_up K n (1, 3, fun _ => -1)) (n + 1) n 3) : m_run Z (34, 0, [(2, ((r0 : Nat) : Int)), l1], [], (K, σ, n, 0, s)) = (m_cl Z 43 [(2, ((n : Nat) : Int)), (0, 122)] ((m_up K n (1, 3, fun _ => -1)), (m_up σ n (fun _ => 0)), (n + 1), 0, s + 1)).bind (m_aft (m_run Z) 34 11 [(2, ((r0 : Nat) : Int)), l1] [(2, ((n : Nat) : Int)), (2, ((r0 : Nat) : Int))]) := by
  refine g_aload_n (k := 0) (v := (2, ((r0 : Nat) : Int))) (by decide +kernel : decode (m_byt 34) 0 = .ok (.aload_n 0, 1)) rfl (Or.inl rfl) ?_
  refine g_obj (r := r0) (by decide +kernel : decode (m_byt 34) 1 = .ok (.invokespecial 3, 3)) (by decide +kernel) (by decide +kernel) (Nat.le_of_ble_eq_true rfl) ?_
  refine g_aload_n (k := 0) (v := (2, ((r0 : Nat) : Int))) (by decide +kernel : decode (m_byt 34) 4 = .ok (.aload_n 0, 1)) rfl (Or.inl rfl) ?_
  refine g_new (ci := 3) (by decide +kernel : decode (m_byt 34) 5 = .ok (.new 9, 3)) (by decide +kernel) (by decide) ?_
  show m_run Z (34, 8, [(2, ((r0 : Nat) : Int)), l1], [(2, ((n : Nat) : Int)), (2, ((r0 : Nat) : Int))], ((m_up K n (1, 3, fun _ => -1)), (m_up σ n (fun _ => 0)), (n + 1), 0, s + 1)) = _
  refine g_base (by decide +kernel : decode (m_byt 34) 8 = .ok (.dup, 1)) rfl rfl ?_
  show m_run Z (34, 9, [(2, ((r0 : Nat) : Int)), l1], [(2, ((n : Nat) : Int)), (2, ((n : Nat) : Int)), (2, ((r0 : Nat) : Int))], ((m_up K n (1, 3, fun _ => -1)), (m_up σ n (fun _ => 0)), (n + 1), 0, s + 1)) = _
  refine g_base (by decide +kernel : decode (m_byt 34) 9 = .ok (.bipush 122, 2)) rfl rfl ?_
  show m_run Z (34, 11, [(2, ((r0 : Nat) : Int)), l1], [(0, 122), (2, ((n : Nat) : Int)), (2, ((n : Nat) : Int)), (2, ((r0 : Nat) : Int))], ((m_up K n (1, 3, fun _ => -1)), (m_up σ n (fun _ => 0)), (n + 1), 0, s + 1)) = _
  exact g_inv (k := 2) (m' := 43) (np := 1) (as := [(2, ((n : Nat) : Int)), (0, 122)]) (by decide +kernel : decode (m_byt 34) 11 = .ok (.invokespecial 11, 3)) (Or.inr (Or.inl ⟨rfl, rfl, by decide⟩)) (by decide +kernel) (by decide +kernel) (by decide +kernel) (Nat.le_of_ble_eq_true rfl) rfl (Or.inr (g_rcv (by decide +kernel) h0))
theorem b_34_14 {Z : mZ} {l1 : mV} {s0 s1 r0 : Nat} {K : Nat → mK} {σ : Nat → Nat → Int} {n s : Nat} (h0 : q_ob K n s1 2) (h1 : ((s0 : Nat) : Int) < ((n : Nat) : Int)) (h2 : q_ob (m_up (q_pf K s1 2 4 ((s0 : Nat) : Int)) n (1, 3, fun _ => -1)) (n + 1) n 3) : m_run Z (34, 14, [(2, ((r0 : Nat) : Int)), l1], [(2, ((s0 : Nat) : Int)), (2, ((s1 : Nat) : Int))], (K, σ, n, 0, s)) = (m_cl Z 43 [(2, ((n : Nat) : Int)), (0, 122)] ((m_up (q_pf K s1 2 4 ((s0 : Nat) : Int)) n (1, 3, fun _ => -1)), (m_up σ n (fun _ => 0)), (n + 1), 0, s + 1)).bind (m_aft (m_run Z) 34 24 [(2, ((r0 : Nat) : Int)), l1] [(2, ((n : Nat) : Int)), (2, ((r0 : Nat) : Int))]) := by
  refine g_putr (ci := 2) (f := 4) (by decide +kernel : decode (m_byt 34) 14 = .ok (.putfield 14, 3)) (by decide +kernel) (by decide +kernel) (by decide +kernel) (by decide +kernel) (by decide +kernel) h0 h1 ?_
  show m_run Z (34, 17, [(2, ((r0 : Nat) : Int)), l1], [], ((q_pf K s1 2 4 ((s0 : Nat) : Int)), σ, n, 0, s)) = _
  refine g_aload_n (k := 0) (v := (2, ((r0 : Nat) : Int))) (by decide +kernel : decode (m_byt 34) 17 = .ok (.aload_n 0, 1)) rfl (Or.inl rfl) ?_
  refine g_new (ci := 3) (by decide +kernel : decode (m_byt 34) 18 = .ok (.new 9, 3)) (by decide +kernel) (by decide) ?_
  show m_run Z (34, 21, [(2, ((r0 : Nat) : Int)), l1], [(2, ((n : Nat) : Int)), (2, ((r0 : Nat) : Int))], ((m_up (q_pf K s1 2 4 ((s0 : Nat) : Int)) n (1, 3, fun _ => -1)), (m_up σ n (fun _ => 0)), (n + 1), 0, s + 1)) = _
  refine g_base (by decide +kernel : decode (m_byt 34) 21 = .ok (.dup, 1)) rfl rfl ?_
  show m_run Z (34, 22, [(2, ((r0 : Nat) : Int)), l1], [(2, ((n : Nat) : Int)), (2, ((n : Nat) : Int)), (2, ((r0 : Nat) : Int))], ((m_up (q_pf K s1 2 4 ((s0 : Nat) : Int)) n (1, 3, fun _ => -1)), (m_up σ n (fun _ => 0)), (n + 1), 0, s + 1)) = _
  refine g_base (by decide +kernel : decode (m_byt 34) 22 = .ok (.bipush 122, 2)) rfl rfl ?_
  show m_run Z (34, 24, [(2, ((r0 : Nat) : Int)), l1], [(0, 122), (2, ((n : Nat) : Int)), (2, ((n : Nat) : Int)), (2, ((r0 : Nat) : Int))], ((m_up (q_pf K s1 2 4 ((s0 : Nat) : Int)) n (1, 3, fun _ => -1)), (m_up σ n (fun _ => 0)), (n + 1), 0, s + 1)) = _
  exact g_inv (k := 2) (m' := 43) (np := 1) (as := [(2, ((n : Nat) : Int)), (0, 122)]) (by decide +kernel : decode (m_byt 34) 24 = .ok (.invokespecial 11, 3)) (Or.inr (Or.inl ⟨rfl, rfl, by decide⟩)) (by decide +kernel) (by decide +kernel) (by decide +kernel) (Nat.le_of_ble_eq_true rfl) rfl (Or.inr (g_rcv (by decide +kernel) h2))
theorem b_34_27 {Z : mZ} {l1 : mV} {s0 s1 r0 : Nat} {K : Nat → mK} {σ : Nat → Nat → Int} {n s : Nat} (h0 : q_ob K n s1 2) (h1 : ((s0 : Nat) : Int) < ((n : Nat) : Int)) (h2 : q_ob (m_up (q_pf K s1 2 5 ((s0 : Nat) : Int)) n (1, 3, fun _ => -1)) (n + 1) n 3) : m_run Z (34, 27, [(2, ((r0 : Nat) : Int)), l1], [(2, ((s0 : Nat) : Int)), (2, ((s1 : Nat) : Int))], (K, σ, n, 0, s)) = (m_cl Z 43 [(2, ((n : Nat) : Int)), (0, 122)] ((m_up (q_pf K s1 2 5 ((s0 : Nat) : Int)) n (1, 3, fun _ => -1)), (m_up σ n (fun _ => 0)), (n + 1), 0, s + 1)).bind (m_aft (m_run Z) 34 37 [(2, ((r0 : Nat) : Int)), l1] [(2, ((n : Nat) : Int)), (2, ((r0 : Nat) : Int))]) := by
  refine g_putr (ci := 2) (f := 5) (by decide +kernel : decode (m_byt 34) 27 = .ok (.putfield 20, 3)) (by decide +kernel) (by decide +kernel) (by decide +kernel) (by decide +kernel) (by decide +kernel) h0 h1 ?_
  show m_run Z (34, 30, [(2, ((r0 : Nat) : Int)), l1], [], ((q_pf K s1 2 5 ((s0 : Nat) : Int)), σ, n, 0, s)) = _
  refine g_aload_n (k := 0) (v := (2, ((r0 : Nat) : Int))) (by decide +kernel : decode (m_byt 34) 30 = .ok (.aload_n 0, 1)) rfl (Or.inl rfl) ?_
  refine g_new (ci := 3) (by decide +kernel : decode (m_byt 34) 31 = .ok (.new 9, 3)) (by decide +kernel) (by decide) ?_
  show m_run Z (34, 34, [(2, ((r0 : Nat) : Int)), l1], [(2, ((n : Nat) : Int)), (2, ((r0 : Nat) : Int))], ((m_up (q_pf K s1 2 5 ((s0 : Nat) : Int)) n (1, 3, fun _ => -1)), (m_up σ n (fun _ => 0)), (n + 1), 0, s + 1)) = _
  refine g_base (by decide +kernel : decode (m_byt 34) 34 = .ok (.dup, 1)) rfl rfl ?_
  show m_run Z (34, 35, [(2, ((r0 : Nat) : Int)), l1], [(2, ((n : Nat) : Int)), (2, ((n : Nat) : Int)), (2, ((r0 : Nat) : Int))], ((m_up (q_pf K s1 2 5 ((s0 : Nat) : Int)) n (1, 3, fun _ => -1)), (m_up σ n (fun _ => 0)), (n + 1), 0, s + 1)) = _
  refine g_base (by decide +kernel : decode (m_byt 34) 35 = .ok (.bipush 122, 2)) rfl rfl ?_
  show m_run Z (34, 37, [(2, ((r0 : Nat) : Int)), l1], [(0, 122), (2, ((n : Nat) : Int)), (2, ((n : Nat) : Int)), (2, ((r0 : Nat) : Int))], ((m_up (q_pf K s1 2 5 ((s0 : Nat) : Int)) n (1, 3, fun _ => -1)), (m_up σ n (fun _ => 0)), (n + 1), 0, s + 1)) = _
  exact g_inv (k := 2) (m' := 43) (np := 1) (as := [(2, ((n : Nat) : Int)), (0, 122)]) (by decide +kernel : decode (m_byt 34) 37 = .ok (.invokespecial 11, 3)) (Or.inr (Or.inl ⟨rfl, rfl, by decide⟩)) (by decide +kernel) (by decide +kernel) (by decide +kernel) (Nat.le_of_ble_eq_true rfl) rfl (Or.inr (g_rcv (by decide +kernel) h2))
theorem b_34_40 {Z : mZ} {s0 s1 r0 r1 : Nat} {K : Nat → mK} {σ : Nat → Nat → Int} {n e s : Nat} (h0 : q_ob K n s1 2) (h1 : ((s0 : Nat) : Int) < ((n : Nat) : Int)) (h2 : q_ob (q_pf K s1 2 6 ((s0 : Nat) : Int)) n r0 2) (h3 : ((r1 : Nat) : Int) < ((n : Nat) : Int)) : m_run Z (34, 40, [(2, ((r0 : Nat) : Int)), (2, ((r1 : Nat) : Int))], [(2, ((s0 : Nat) : Int)), (2, ((s1 : Nat) : Int))], (K, σ, n, e, s)) = some (.inl (9, 0), ((q_pf (q_pf K s1 2 6 ((s0 : Nat) : Int)) r0 2 0 ((r1 : Nat) : Int)), σ, n, e, s)) := by
  refine g_putr (ci := 2) (f := 6) (by decide +kernel : decode (m_byt 34) 40 = .ok (.putfield 23, 3)) (by decide +kernel) (by decide +kernel) (by decide +kernel) (by decide +kernel) (by decide +kernel) h0 h1 ?_
  show m_run Z (34, 43, [(2, ((r0 : Nat) : Int)), (2, ((r1 : Nat) : Int))], [], ((q_pf K s1 2 6 ((s0 : Nat) : Int)), σ, n, e, s)) = _
  refine g_aload_n (k := 0) (v := (2, ((r0 : Nat) : Int))) (by decide +kernel : decode (m_byt 34) 43 = .ok (.aload_n 0, 1)) rfl (Or.inl rfl) ?_
  refine g_aload_n (k := 1) (v := (2, ((r1 : Nat) : Int))) (by decide +kernel : decode (m_byt 34) 44 = .ok (.aload_n 1, 1)) rfl (Or.inl rfl) ?_
  refine g_putr (ci := 2) (f := 0) (by decide +kernel : decode (m_byt 34) 45 = .ok (.putfield 26, 3)) (by decide +kernel) (by decide +kernel) (by decide +kernel) (by decide +kernel) (by decide +kernel) h2 h3 ?_
  show m_run Z (34, 48, [(2, ((r0 : Nat) : Int)), (2, ((r1 : Nat) : Int))], [], ((q_pf (q_pf K s1 2 6 ((s0 : Nat) : Int)) r0 2 0 ((r1 : Nat) : Int)), σ, n, e, s)) = _
  exact g_vret (by decide +kernel : decode (m_byt 34) 48 = .ok (.return_, 1)) (by decide +kernel)
theorem e_35 {Z : mZ} {r0 : Nat} {x1 : Int} {h : mH} : m_cl Z 35 [(2, ((r0 : Nat) : Int)), (0, x1)] h = m_run Z (35, 0, [(2, ((r0 : Nat) : Int)), (0, x1), (9, 0), (9, 0), (9, 0)], [], h) := g_ent (k := 5) (by decide) (by decide +kernel) (Nat.le_of_ble_eq_true rfl) (by decide +kernel) rfl
theorem b_35_0 {Z : mZ} {l2 l3 l4 : mV} {x1 : Int} {r0 : Nat} {K : Nat → mK} {σ : Nat → Nat → Int} {n e s : Nat} (h0 : q_ob K n r0 2) (h1 : q_rp K r0 0) (h2 : q_ob K n (q_rf K r0 0) 5) : m_run Z (35, 0, [(2, ((r0 : Nat) : Int)), (0, x1), l2, l3, l4], [], (K, σ, n, e, s)) = (m_cl Z 67 [(2, ((q_rf K r0 0 : Nat) : Int))] (K, (m_up2 (m_up2 σ r0 1 x1) r0 3 0), n, e, s)).bind (m_aft (m_run Z) 35 14 [(2, ((r0 : Nat) : Int)), (0, x1), l2, l3, l4] []) := by
  refine g_aload_n (k := 0) (v := (2, ((r0 : Nat) : Int))) (by decide +kernel : decode (m_byt 35) 0 = .ok (.aload_n 0, 1)) rfl (Or.inl rfl) ?_
  refine g_iload_n (k := 1) (x := x1) (by decide +kernel : decode (m_byt 35) 1 = .ok (.iload_n 1, 1)) rfl ?_
  refine g_putf (ci := 2) (f := 1) (by decide +kernel : decode (m_byt 35) 2 = .ok (.putfield 30, 3)) (by decide +kernel) (by decide +kernel) (by decide +kernel) h0 ?_
  show m_run Z (35, 5, [(2, ((r0 : Nat) : Int)), (0, x1), l2, l3, l4], [], (K, (m_up2 σ r0 1 x1), n, e, s)) = _
  refine g_aload_n (k := 0) (v := (2, ((r0 : Nat) : Int))) (by decide +kernel : decode (m_byt 35) 5 = .ok (.aload_n 0, 1)) rfl (Or.inl rfl) ?_
  refine g_base (by decide +kernel : decode (m_byt 35) 6 = .ok (.iconst 0, 1)) rfl rfl ?_
  show m_run Z (35, 7, [(2, ((r0 : Nat) : Int)), (0, x1), l2, l3, l4], [(0, 0), (2, ((r0 : Nat) : Int))], (K, (m_up2 σ r0 1 x1), n, e, s)) = _
  refine g_putf (ci := 2) (f := 3) (by decide +kernel : decode (m_byt 35) 7 = .ok (.putfield 34, 3)) (by decide +kernel) (by decide +kernel) (by decide +kernel) h0 ?_
  show m_run Z (35, 10, [(2, ((r0 : Nat) : Int)), (0, x1), l2, l3, l4], [], (K, (m_up2 (m_up2 σ r0 1 x1) r0 3 0), n, e, s)) = _
  refine g_aload_n (k := 0) (v := (2, ((r0 : Nat) : Int))) (by decide +kernel : decode (m_byt 35) 10 = .ok (.aload_n 0, 1)) rfl (Or.inl rfl) ?_
  refine g_getr (ci := 2) (f := 0) (by decide +kernel : decode (m_byt 35) 11 = .ok (.getfield 26, 3)) (by decide +kernel) (by decide +kernel) (by decide +kernel) h0 h1 ?_
  exact g_inv (k := 1) (m' := 67) (np := 0) (as := [(2, ((q_rf K r0 0 : Nat) : Int))]) (by decide +kernel : decode (m_byt 35) 14 = .ok (.invokevirtual 37, 3)) (Or.inl ⟨rfl, rfl⟩) (by decide +kernel) (by decide +kernel) (by decide +kernel) (Nat.le_of_ble_eq_true rfl) rfl (Or.inr (g_rcv (by decide +kernel) h2))
theorem b_35_17 {Z : mZ} {l2 l3 l4 : mV} {s0 x1 : Int} {r0 : Nat} {K : Nat → mK} {σ : Nat → Nat → Int} {n e s : Nat} (h0 : q_ob K n r0 2) : m_run Z (35, 17, [(2, ((r0 : Nat) : Int)), (0, x1), l2, l3, l4], [(0, s0)], (K, σ, n, e, s)) = (m_cl Z 36 [(2, ((r0 : Nat) : Int)), (0, 0)] (K, σ, n, e, s)).bind (m_aft (m_run Z) 35 22 [(2, ((r0 : Nat) : Int)), (0, x1), (0, (s0 * 2)), l3, l4] []) := by
  refine g_base (by decide +kernel : decode (m_byt 35) 17 = .ok (.iconst 2, 1)) rfl rfl ?_
  show m_run Z (35, 18, [(2, ((r0 : Nat) : Int)), (0, x1), l2, l3, l4], [(0, 2), (0, s0)], (K, σ, n, e, s)) = _
  refine g_base (by decide +kernel : decode (m_byt 35) 18 = .ok (.imul, 1)) rfl rfl ?_
  show m_run Z (35, 19, [(2, ((r0 : Nat) : Int)), (0, x1), l2, l3, l4], [(0, (s0 * 2))], (K, σ, n, e, s)) = _
  refine g_istore_n (k := 2) (by decide +kernel : decode (m_byt 35) 19 = .ok (.istore_n 2, 1)) (Nat.le_of_ble_eq_true rfl) ?_
  show m_run Z (35, 20, [(2, ((r0 : Nat) : Int)), (0, x1), (0, (s0 * 2)), l3, l4], [], (K, σ, n, e, s)) = _
  refine g_aload_n (k := 0) (v := (2, ((r0 : Nat) : Int))) (by decide +kernel : decode (m_byt 35) 20 = .ok (.aload_n 0, 1)) rfl (Or.inl rfl) ?_
  refine g_base (by decide +kernel : decode (m_byt 35) 21 = .ok (.iconst 0, 1)) rfl rfl ?_
  show m_run Z (35, 22, [(2, ((r0 : Nat) : Int)), (0, x1), (0, (s0 * 2)), l3, l4], [(0, 0), (2, ((r0 : Nat) : Int))], (K, σ, n, e, s)) = _
  exact g_inv (k := 1) (m' := 36) (np := 1) (as := [(2, ((r0 : Nat) : Int)), (0, 0)]) (by decide +kernel : decode (m_byt 35) 22 = .ok (.invokevirtual 43, 3)) (Or.inl ⟨rfl, rfl⟩) (by decide +kernel) (by decide +kernel) (by decide +kernel) (Nat.le_of_ble_eq_true rfl) rfl (Or.inr (g_rcv (by decide +kernel) h0))
theorem b_35_25 {Z : mZ} {l1 l2 l3 l4 : mV} {r0 : Nat} {K : Nat → mK} {σ : Nat → Nat → Int} {n e s : Nat} (h0 : q_ob K n r0 2) (h1 : q_rp K r0 0) (h2 : q_ob K n (q_rf K r0 0) 5) : m_run Z (35, 25, [(2, ((r0 : Nat) : Int)), l1, l2, l3, l4], [], (K, σ, n, e, s)) = (m_cl Z 69 [(2, ((q_rf K r0 0 : Nat) : Int)), (0, (σ r0 1))] (K, σ, n, e, s)).bind (m_aft (m_run Z) 35 34 [(2, ((r0 : Nat) : Int)), l1, l2, l3, l4] [(2, ((r0 : Nat) : Int))]) := by
  refine g_aload_n (k := 0) (v := (2, ((r0 : Nat) : Int))) (by decide +kernel : decode (m_byt 35) 25 = .ok (.aload_n 0, 1)) rfl (Or.inl rfl) ?_
  refine g_aload_n (k := 0) (v := (2, ((r0 : Nat) : Int))) (by decide +kernel : decode (m_byt 35) 26 = .ok (.aload_n 0, 1)) rfl (Or.inl rfl) ?_
  refine g_getr (ci := 2) (f := 0) (by decide +kernel : decode (m_byt 35) 27 = .ok (.getfield 26, 3)) (by decide +kernel) (by decide +kernel) (by decide +kernel) h0 h1 ?_
  refine g_aload_n (k := 0) (v := (2, ((r0 : Nat) : Int))) (by decide +kernel : decode (m_byt 35) 30 = .ok (.aload_n 0, 1)) rfl (Or.inl rfl) ?_
  refine g_getf (ci := 2) (f := 1) (by decide +kernel : decode (m_byt 35) 31 = .ok (.getfield 30, 3)) (by decide +kernel) (by decide +kernel) (by decide +kernel) h0 ?_
  exact g_inv (k := 1) (m' := 69) (np := 1) (as := [(2, ((q_rf K r0 0 : Nat) : Int)), (0, (σ r0 1))]) (by decide +kernel : decode (m_byt 35) 34 = .ok (.invokevirtual 46, 3)) (Or.inl ⟨rfl, rfl⟩) (by decide +kernel) (by decide +kernel) (by decide +kernel) (Nat.le_of_ble_eq_true rfl) rfl (Or.inr (g_rcv (by decide +kernel) h2))
theorem b_35_37 {Z : mZ} {l0 l1 l2 l3 l4 : mV} {s0 : Int} {s1 : Nat} {K : Nat → mK} {σ : Nat → Nat → Int} {n e s : Nat} (h0 : q_ob K n s1 2) : m_run Z (35, 37, [l0, l1, l2, l3, l4], [(0, s0), (2, ((s1 : Nat) : Int))], (K, σ, n, e, s)) = (m_cl Z 36 [(2, ((s1 : Nat) : Int)), (0, s0)] (K, σ, n, e, s)).bind (m_aft (m_run Z) 35 37 [l0, l1, l2, l3, l4] []) := by
  exact g_inv (k := 1) (m' := 36) (np := 1) (as := [(2, ((s1 : Nat) : Int)), (0, s0)]) (by decide +kernel : decode (m_byt 35) 37 = .ok (.invokevirtual 43, 3)) (Or.inl ⟨rfl, rfl⟩) (by decide +kernel) (by decide +kernel) (by decide +kernel) (Nat.le_of_ble_eq_true rfl) rfl (Or.inr (g_rcv (by decide +kernel) h0))
theorem b_35_40 {Z : mZ} {l0 l1 l3 l4 : mV} {x2 : Int} {h : mH} : m_run Z (35, 40, [l0, l1, (0, x2), l3, l4], [], h) = m_run Z (35, 42, [l0, l1, (0, x2), (0, 0), l4], [], h) := by
  refine g_base (by decide +kernel : decode (m_byt 35) 40 = .ok (.iconst 0, 1)) rfl rfl ?_
  show m_run Z (35, 41, [l0, l1, (0, x2), l3, l4], [(0, 0)], h) = _
  refine g_istore_n (k := 3) (by decide +kernel : decode (m_byt 35) 41 = .ok (.istore_n 3, 1)) (Nat.le_of_ble_eq_true rfl) ?_
  show m_run Z (35, 42, [l0, l1, (0, x2), (0, 0), l4], [], h) = _
  rfl
theorem b_35_42 {Z : mZ} {l0 l1 l4 : mV} {x3 x2 : Int} {h : mH} : m_run Z (35, 42, [l0, l1, (0, x2), (0, x3), l4], [], h) = if w32 x2 ≤ w32 x3 then m_run Z (35, 75, [l0, l1, (0, x2), (0, x3), l4], [], h) else m_run Z (35, 47, [l0, l1, (0, x2), (0, x3), l4], [], h) := by
  refine g_iload_n (k := 3) (x := x3) (by decide +kernel : decode (m_byt 35) 42 = .ok (.iload_n 3, 1)) rfl ?_
  refine g_iload_n (k := 2) (x := x2) (by decide +kernel : decode (m_byt 35) 43 = .ok (.iload_n 2, 1)) rfl ?_
  exact g_brq (t := 75) (off := 31) (by decide +kernel : decode (m_byt 35) 44 = .ok (.if_icmp .ge 31, 3)) rfl rfl (by decide)
theorem b_35_47 {Z : mZ} {l0 l1 l2 l4 : mV} {x3 : Int} {h : mH} : m_run Z (35, 47, [l0, l1, l2, (0, x3), l4], [], h) = m_run Z (35, 50, [l0, l1, l2, (0, x3), (0, 0)], [], h) := by
  refine g_base (by decide +kernel : decode (m_byt 35) 47 = .ok (.iconst 0, 1)) rfl rfl ?_
  show m_run Z (35, 48, [l0, l1, l2, (0, x3), l4], [(0, 0)], h) = _
  refine g_istore (k := 4) (by decide +kernel : decode (m_byt 35) 48 = .ok (.istore 4, 2)) (Nat.le_of_ble_eq_true rfl) ?_
  show m_run Z (35, 50, [l0, l1, l2, (0, x3), (0, 0)], [], h) = _
  rfl
theorem b_35_50 {Z : mZ} {l0 l1 l2 : mV} {x4 x3 : Int} {h : mH} : m_run Z (35, 50, [l0, l1, l2, (0, x3), (0, x4)], [], h) = if w32 x3 ≤ w32 x4 then m_run Z (35, 69, [l0, l1, l2, (0, x3), (0, x4)], [], h) else m_run Z (35, 56, [l0, l1, l2, (0, x3), (0, x4)], [], h) := by
  refine g_iload (k := 4) (x := x4) (by decide +kernel : decode (m_byt 35) 50 = .ok (.iload 4, 2)) rfl ?_
  refine g_iload_n (k := 3) (x := x3) (by decide +kernel : decode (m_byt 35) 52 = .ok (.iload_n 3, 1)) rfl ?_
  exact g_brq (t := 69) (off := 16) (by decide +kernel : decode (m_byt 35) 53 = .ok (.if_icmp .ge 16, 3)) rfl rfl (by decide)
theorem b_35_56 {Z : mZ} {l1 l2 : mV} {x3 x4 : Int} {r0 : Nat} {K : Nat → mK} {σ : Nat → Nat → Int} {n e s : Nat} (h0 : q_ob K n r0 2) : m_run Z (35, 56, [(2, ((r0 : Nat) : Int)), l1, l2, (0, x3), (0, x4)], [], (K, σ, n, e, s)) = (m_cl Z 39 [(2, ((r0 : Nat) : Int)), (0, x3), (0, x4)] (K, σ, n, e, s)).bind (m_aft (m_run Z) 35 60 [(2, ((r0 : Nat) : Int)), l1, l2, (0, x3), (0, x4)] []) := by
  refine g_aload_n (k := 0) (v := (2, ((r0 : Nat) : Int))) (by decide +kernel : decode (m_byt 35) 56 = .ok (.aload_n 0, 1)) rfl (Or.inl rfl) ?_
  refine g_iload_n (k := 3) (x := x3) (by decide +kernel : decode (m_byt 35) 57 = .ok (.iload_n 3, 1)) rfl ?_
  refine g_iload (k := 4) (x := x4) (by decide +kernel : decode (m_byt 35) 58 = .ok (.iload 4, 2)) rfl ?_
  exact g_inv (k := 1) (m' := 39) (np := 2) (as := [(2, ((r0 : Nat) : Int)), (0, x3), (0, x4)]) (by decide +kernel : decode (m_byt 35) 60 = .ok (.invokevirtual 50, 3)) (Or.inl ⟨rfl, rfl⟩) (by decide +kernel) (by decide +kernel) (by decide +kernel) (Nat.le_of_ble_eq_true rfl) rfl (Or.inr (g_rcv (by decide +kernel) h0))
theorem b_35_63 {Z : mZ} {l0 l1 l2 : mV} {x4 x3 : Int} {h : mH} : m_run Z (35, 63, [l0, l1, l2, (0, x3), (0, x4)], [], h) = m_run Z (35, 50, [l0, l1, l2, (0, x3), (0, x4 + 1)], [], h) := by
  refine g_iinc (k := 4) (x := x4) (by decide +kernel : decode (m_byt 35) 63 = .ok (.iinc 4 1, 3)) rfl (Nat.le_of_ble_eq_true rfl) ?_
  show m_run Z (35, 66, [l0, l1, l2, (0, x3), (0, x4 + 1)], [], h) = _
  refine g_jmp (t := 50) (by decide +kernel : decode (m_byt 35) 66 = .ok (.goto (-16), 3)) (by decide) ?_
  rfl
theorem b_35_69 {Z : mZ} {l0 l1 l4 : mV} {x3 x2 : Int} {h : mH} : m_run Z (35, 69, [l0, l1, (0, x2), (0, x3), l4], [], h) = m_run Z (35, 42, [l0, l1, (0, x2), (0, x3 + 1), l4], [], h) := by
  refine g_iinc (k := 3) (x := x3) (by decide +kernel : decode (m_byt 35) 69 = .ok (.iinc 3 1, 3)) rfl (Nat.le_of_ble_eq_true rfl) ?_
  show m_run Z (35, 72, [l0, l1, (0, x2), (0, x3 + 1), l4], [], h) = _
  refine g_jmp (t := 42) (by decide +kernel : decode (m_byt 35) 72 = .ok (.goto (-30), 3)) (by decide) ?_
  rfl
theorem b_35_75 {Z : mZ} {l0 l1 l2 l3 l4 : mV} {h : mH} : m_run Z (35, 75, [l0, l1, l2, l3, l4], [], h) = some (.inl (9, 0), h) := by
  exact g_vret (by decide +kernel : decode (m_byt 35) 75 = .ok (.return_, 1)) (by decide +kernel)
theorem e_36 {Z : mZ} {r0 : Nat} {x1 : Int} {h : mH} : m_cl Z 36 [(2, ((r0 : Nat) : Int)), (0, x1)] h = m_run Z (36, 0, [(2, ((r0 : Nat) : Int)), (0, x1)], [], h) := g_ent (k := 2) (by decide) (by decide +kernel) (Nat.le_of_ble_eq_true rfl) (by decide +kernel) rfl
theorem b_36_0 {Z : mZ} {x1 : Int} {r0 : Nat} {K : Nat → mK} {σ : Nat → Nat → Int} {n e s : Nat} (h0 : q_ob K n r0 2) : m_run Z (36, 0, [(2, ((r0 : Nat) : Int)), (0, x1)], [], (K, σ, n, e, s)) = (m_cl Z 40 [(2, ((r0 : Nat) : Int)), (0, x1), (0, 1)] (K, σ, n, e, s)).bind (m_aft (m_run Z) 36 3 [(2, ((r0 : Nat) : Int)), (0, x1)] []) := by
  refine g_aload_n (k := 0) (v := (2, ((r0 : Nat) : Int))) (by decide +kernel : decode (m_byt 36) 0 = .ok (.aload_n 0, 1)) rfl (Or.inl rfl) ?_
  refine g_iload_n (k := 1) (x := x1) (by decide +kernel : decode (m_byt 36) 1 = .ok (.iload_n 1, 1)) rfl ?_
  refine g_base (by decide +kernel : decode (m_byt 36) 2 = .ok (.iconst 1, 1)) rfl rfl ?_
  show m_run Z (36, 3, [(2, ((r0 : Nat) : Int)), (0, x1)], [(0, 1), (0, x1), (2, ((r0 : Nat) : Int))], (K, σ, n, e, s)) = _
  exact g_inv (k := 1) (m' := 40) (np := 2) (as := [(2, ((r0 : Nat) : Int)), (0, x1), (0, 1)]) (by decide +kernel : decode (m_byt 36) 3 = .ok (.invokevirtual 54, 3)) (Or.inl ⟨rfl, rfl⟩) (by decide +kernel) (by decide +kernel) (by decide +kernel) (Nat.le_of_ble_eq_true rfl) rfl (Or.inr (g_rcv (by decide +kernel) h0))
theorem b_36_6 {Z : mZ} {s0 x1 : Int} {r0 : Nat} {K : Nat → mK} {σ : Nat → Nat → Int} {n e s : Nat} (h0 : q_ob K n r0 2) : m_run Z (36, 6, [(2, ((r0 : Nat) : Int)), (0, x1)], [(0, s0)], (K, σ, n, e, s)) = (m_cl Z 41 [(2, ((r0 : Nat) : Int)), (0, x1), (0, 1)] (K, σ, n, e, s)).bind (m_aft (m_run Z) 36 10 [(2, ((r0 : Nat) : Int)), (0, x1)] []) := by
  refine g_base (by decide +kernel : decode (m_byt 36) 6 = .ok (.pop, 1)) rfl rfl ?_
  show m_run Z (36, 7, [(2, ((r0 : Nat) : Int)), (0, x1)], [], (K, σ, n, e, s)) = _
  refine g_aload_n (k := 0) (v := (2, ((r0 : Nat) : Int))) (by decide +kernel : decode (m_byt 36) 7 = .ok (.aload_n 0, 1)) rfl (Or.inl rfl) ?_
  refine g_iload_n (k := 1) (x := x1) (by decide +kernel : decode (m_byt 36) 8 = .ok (.iload_n 1, 1)) rfl ?_
  refine g_base (by decide +kernel : decode (m_byt 36) 9 = .ok (.iconst 1, 1)) rfl rfl ?_
  show m_run Z (36, 10, [(2, ((r0 : Nat) : Int)), (0, x1)], [(0, 1), (0, x1), (2, ((r0 : Nat) : Int))], (K, σ, n, e, s)) = _
  exact g_inv (k := 1) (m' := 41) (np := 2) (as := [(2, ((r0 : Nat) : Int)), (0, x1), (0, 1)]) (by decide +kernel : decode (m_byt 36) 10 = .ok (.invokevirtual 58, 3)) (Or.inl ⟨rfl, rfl⟩) (by decide +kernel) (by decide +kernel) (by decide +kernel) (Nat.le_of_ble_eq_true rfl) rfl (Or.inr (g_rcv (by decide +kernel) h0))
theorem b_36_13 {Z : mZ} {l0 l1 : mV} {h : mH} : m_run Z (36, 13, [l0, l1], [], h) = some (.inl (9, 0), h) := by
  exact g_vret (by decide +kernel : decode (m_byt 36) 13 = .ok (.return_, 1)) (by decide +kernel)
theorem e_37 {Z : mZ} {r0 : Nat} {x1 : Int} {h : mH} : m_cl Z 37 [(2, ((r0 : Nat) : Int)), (0, x1)] h = m_run Z (37, 0, [(2, ((r0 : Nat) : Int)), (0, x1), (9, 0)], [], h) := g_ent (k := 3) (by decide) (by decide +kernel) (Nat.le_of_ble_eq_true rfl) (by decide +kernel) rfl
theorem b_37_0 {Z : mZ} {l2 : mV} {x1 : Int} {r0 : Nat} {K : Nat → mK} {σ : Nat → Nat → Int} {n e s : Nat} (h0 : q_ob K n r0 2) (h1 : q_rp K r0 0) (h2 : ¬ w32 2 = 0) (h3 : q_ob K n (q_rf K r0 0) 5) : m_run Z (37, 0, [(2, ((r0 : Nat) : Int)), (0, x1), l2], [], (K, σ, n, e, s)) = (m_cl Z 70 [(2, ((q_rf K r0 0 : Nat) : Int)), (0, ((w32 x1).tdiv (w32 2)))] (K, σ, n, e, s)).bind (m_aft (m_run Z) 37 7 [(2, ((r0 : Nat) : Int)), (0, x1), l2] []) := by
  refine g_aload_n (k := 0) (v := (2, ((r0 : Nat) : Int))) (by decide +kernel : decode (m_byt 37) 0 = .ok (.aload_n 0, 1)) rfl (Or.inl rfl) ?_
  refine g_getr (ci := 2) (f := 0) (by decide +kernel : decode (m_byt 37) 1 = .ok (.getfield 26, 3)) (by decide +kernel) (by decide +kernel) (by decide +kernel) h0 h1 ?_
  refine g_iload_n (k := 1) (x := x1) (by decide +kernel : decode (m_byt 37) 4 = .ok (.iload_n 1, 1)) rfl ?_
  refine g_base (by decide +kernel : decode (m_byt 37) 5 = .ok (.iconst 2, 1)) rfl rfl ?_
  show m_run Z (37, 6, [(2, ((r0 : Nat) : Int)), (0, x1), l2], [(0, 2), (0, x1), (2, ((q_rf K r0 0 : Nat) : Int))], (K, σ, n, e, s)) = _
  refine g_div (by decide +kernel : decode (m_byt 37) 6 = .ok (.idiv, 1)) h2 ?_
  show m_run Z (37, 7, [(2, ((r0 : Nat) : Int)), (0, x1), l2], [(0, ((w32 x1).tdiv (w32 2))), (2, ((q_rf K r0 0 : Nat) : Int))], (K, σ, n, e, s)) = _
  exact g_inv (k := 1) (m' := 70) (np := 1) (as := [(2, ((q_rf K r0 0 : Nat) : Int)), (0, ((w32 x1).tdiv (w32 2)))]) (by decide +kernel : decode (m_byt 37) 7 = .ok (.invokevirtual 61, 3)) (Or.inl ⟨rfl, rfl⟩) (by decide +kernel) (by decide +kernel) (by decide +kernel) (Nat.le_of_ble_eq_true rfl) rfl (Or.inr (g_rcv (by decide +kernel) h3))
theorem b_37_10 {Z : mZ} {l0 l2 : mV} {s0 x1 : Int} {h : mH} (h0 : ¬ w32 2 = 0) : m_run Z (37, 10, [l0, (0, x1), l2], [(0, s0)], h) = if w32 ((w32 x1).tmod (w32 2)) = 0 then m_run Z (37, 17, [l0, (0, x1), (0, s0)], [], h) else m_run Z (37, 21, [l0, (0, x1), (0, s0)], [], h) := by
  refine g_istore_n (k := 2) (by decide +kernel : decode (m_byt 37) 10 = .ok (.istore_n 2, 1)) (Nat.le_of_ble_eq_true rfl) ?_
  show m_run Z (37, 11, [l0, (0, x1), (0, s0)], [], h) = _
  refine g_iload_n (k := 1) (x := x1) (by decide +kernel : decode (m_byt 37) 11 = .ok (.iload_n 1, 1)) rfl ?_
  refine g_base (by decide +kernel : decode (m_byt 37) 12 = .ok (.iconst 2, 1)) rfl rfl ?_
  show m_run Z (37, 13, [l0, (0, x1), (0, s0)], [(0, 2), (0, x1)], h) = _
  refine g_rem (by decide +kernel : decode (m_byt 37) 13 = .ok (.irem, 1)) h0 ?_
  show m_run Z (37, 14, [l0, (0, x1), (0, s0)], [(0, ((w32 x1).tmod (w32 2)))], h) = _
  exact g_brn (t := 21) (off := 7) (by decide +kernel : decode (m_byt 37) 14 = .ok (.ifCond .ne 7, 3)) rfl rfl (by decide)
theorem b_37_17 {Z : mZ} {l0 l1 : mV} {x2 : Int} {h : mH} : m_run Z (37, 17, [l0, l1, (0, x2)], [], h) = some (.inl (0, x2), h) := by
  refine g_iload_n (k := 2) (x := x2) (by decide +kernel : decode (m_byt 37) 17 = .ok (.iload_n 2, 1)) rfl ?_
  refine g_jmp (t := 23) (by decide +kernel : decode (m_byt 37) 18 = .ok (.goto 5, 3)) (by decide) ?_
  exact g_iret (by decide +kernel : decode (m_byt 37) 23 = .ok (.ireturn, 1)) (by decide +kernel)
theorem b_37_21 {Z : mZ} {l0 l1 : mV} {x2 : Int} {h : mH} : m_run Z (37, 21, [l0, l1, (0, x2)], [], h) = m_run Z (37, 23, [l0, l1, (0, x2)], [(0, (-x2))], h) := by
  refine g_iload_n (k := 2) (x := x2) (by decide +kernel : decode (m_byt 37) 21 = .ok (.iload_n 2, 1)) rfl ?_
  refine g_base (by decide +kernel : decode (m_byt 37) 22 = .ok (.ineg, 1)) rfl rfl ?_
  show m_run Z (37, 23, [l0, l1, (0, x2)], [(0, (-x2))], h) = _
  rfl
theorem b_37_23 {Z : mZ} {l0 l1 l2 : mV} {s0 : Int} {h : mH} : m_run Z (37, 23, [l0, l1, l2], [(0, s0)], h) = some (.inl (0, s0), h) := by
  exact g_iret (by decide +kernel : decode (m_byt 37) 23 = .ok (.ireturn, 1)) (by decide +kernel)
theorem e_38 {Z : mZ} {r0 : Nat} {x1 : Int} {h : mH} : m_cl Z 38 [(2, ((r0 : Nat) : Int)), (0, x1)] h = m_run Z (38, 0, [(2, ((r0 : Nat) : Int)), (0, x1), (9, 0), (9, 0)], [], h) := g_ent (k := 4) (by decide) (by decide +kernel) (Nat.le_of_ble_eq_true rfl) (by decide +kernel) rfl
theorem b_38_0 {Z : mZ} {l0 l2 l3 : mV} {x1 : Int} {h : mH} (h0 : ¬ w32 2 = 0) : m_run Z (38, 0, [l0, (0, x1), l2, l3], [], h) = if w32 ((w32 x1).tmod (w32 2)) = 0 then m_run Z (38, 10, [l0, (0, x1), (0, ((w32 x1).tdiv (w32 2))), l3], [], h) else m_run Z (38, 25, [l0, (0, x1), (0, ((w32 x1).tdiv (w32 2))), l3], [], h) := by
  refine g_iload_n (k := 1) (x := x1) (by decide +kernel : decode (m_byt 38) 0 = .ok (.iload_n 1, 1)) rfl ?_
  refine g_base (by decide +kernel : decode (m_byt 38) 1 = .ok (.iconst 2, 1)) rfl rfl ?_
  show m_run Z (38, 2, [l0, (0, x1), l2, l3], [(0, 2), (0, x1)], h) = _
  refine g_div (by decide +kernel : decode (m_byt 38) 2 = .ok (.idiv, 1)) h0 ?_
  show m_run Z (38, 3, [l0, (0, x1), l2, l3], [(0, ((w32 x1).tdiv (w32 2)))], h) = _
  refine g_istore_n (k := 2) (by decide +kernel : decode (m_byt 38) 3 = .ok (.istore_n 2, 1)) (Nat.le_of_ble_eq_true rfl) ?_
  show m_run Z (38, 4, [l0, (0, x1), (0, ((w32 x1).tdiv (w32 2))), l3], [], h) = _
  refine g_iload_n (k := 1) (x := x1) (by decide +kernel : decode (m_byt 38) 4 = .ok (.iload_n 1, 1)) rfl ?_
  refine g_base (by decide +kernel : decode (m_byt 38) 5 = .ok (.iconst 2, 1)) rfl rfl ?_
  show m_run Z (38, 6, [l0, (0, x1), (0, ((w32 x1).tdiv (w32 2))), l3], [(0, 2), (0, x1)], h) = _
  refine g_rem (by decide +kernel : decode (m_byt 38) 6 = .ok (.irem, 1)) h0 ?_
  show m_run Z (38, 7, [l0, (0, x1), (0, ((w32 x1).tdiv (w32 2))), l3], [(0, ((w32 x1).tmod (w32 2)))], h) = _
  exact g_brn (t := 25) (off := 18) (by decide +kernel : decode (m_byt 38) 7 = .ok (.ifCond .ne 18, 3)) rfl rfl (by decide)
theorem b_38_10 {Z : mZ} {l1 l3 : mV} {x2 : Int} {r0 : Nat} {K : Nat → mK} {σ : Nat → Nat → Int} {n e s : Nat} (h0 : q_ob K n r0 2) (h1 : q_rp K r0 0) (h2 : q_ob K n (q_rf K r0 0) 5) : m_run Z (38, 10, [(2, ((r0 : Nat) : Int)), l1, (0, x2), l3], [], (K, σ, n, e, s)) = (m_cl Z 77 [(2, ((q_rf K r0 0 : Nat) : Int)), (0, x2), (0, (σ r0 1))] (K, σ, n, e, s)).bind (m_aft (m_run Z) 38 19 [(2, ((r0 : Nat) : Int)), l1, (0, x2), l3] []) := by
  refine g_aload_n (k := 0) (v := (2, ((r0 : Nat) : Int))) (by decide +kernel : decode (m_byt 38) 10 = .ok (.aload_n 0, 1)) rfl (Or.inl rfl) ?_
  refine g_getr (ci := 2) (f := 0) (by decide +kernel : decode (m_byt 38) 11 = .ok (.getfield 26, 3)) (by decide +kernel) (by decide +kernel) (by decide +kernel) h0 h1 ?_
  refine g_iload_n (k := 2) (x := x2) (by decide +kernel : decode (m_byt 38) 14 = .ok (.iload_n 2, 1)) rfl ?_
  refine g_aload_n (k := 0) (v := (2, ((r0 : Nat) : Int))) (by decide +kernel : decode (m_byt 38) 15 = .ok (.aload_n 0, 1)) rfl (Or.inl rfl) ?_
  refine g_getf (ci := 2) (f := 1) (by decide +kernel : decode (m_byt 38) 16 = .ok (.getfield 30, 3)) (by decide +kernel) (by decide +kernel) (by decide +kernel) h0 ?_
  exact g_inv (k := 1) (m' := 77) (np := 2) (as := [(2, ((q_rf K r0 0 : Nat) : Int)), (0, x2), (0, (σ r0 1))]) (by decide +kernel : decode (m_byt 38) 19 = .ok (.invokevirtual 64, 3)) (Or.inl ⟨rfl, rfl⟩) (by decide +kernel) (by decide +kernel) (by decide +kernel) (Nat.le_of_ble_eq_true rfl) rfl (Or.inr (g_rcv (by decide +kernel) h2))
theorem b_38_22 {Z : mZ} {l1 l3 : mV} {s0 x2 : Int} {r0 : Nat} {K : Nat → mK} {σ : Nat → Nat → Int} {n e s : Nat} (h0 : q_ob K n r0 2) (h1 : q_rp K r0 0) (h2 : q_ob K n (q_rf K r0 0) 5) : m_run Z (38, 22, [(2, ((r0 : Nat) : Int)), l1, (0, x2), l3], [(0, s0)], (K, σ, n, e, s)) = (m_cl Z 70 [(2, ((q_rf K r0 0 : Nat) : Int)), (0, x2)] (K, σ, n, e, s)).bind (m_aft (m_run Z) 38 43 [(2, ((r0 : Nat) : Int)), l1, (0, x2), (0, s0)] []) := by
  refine g_jmp (t := 37) (by decide +kernel : decode (m_byt 38) 22 = .ok (.goto 15, 3)) (by decide) ?_
  refine g_istore_n (k := 3) (by decide +kernel : decode (m_byt 38) 37 = .ok (.istore_n 3, 1)) (Nat.le_of_ble_eq_true rfl) ?_
  show m_run Z (38, 38, [(2, ((r0 : Nat) : Int)), l1, (0, x2), (0, s0)], [], (K, σ, n, e, s)) = _
  refine g_aload_n (k := 0) (v := (2, ((r0 : Nat) : Int))) (by decide +kernel : decode (m_byt 38) 38 = .ok (.aload_n 0, 1)) rfl (Or.inl rfl) ?_
  refine g_getr (ci := 2) (f := 0) (by decide +kernel : decode (m_byt 38) 39 = .ok (.getfield 26, 3)) (by decide +kernel) (by decide +kernel) (by decide +kernel) h0 h1 ?_
  refine g_iload_n (k := 2) (x := x2) (by decide +kernel : decode (m_byt 38) 42 = .ok (.iload_n 2, 1)) rfl ?_
  exact g_inv (k := 1) (m' := 70) (np := 1) (as := [(2, ((q_rf K r0 0 : Nat) : Int)), (0, x2)]) (by decide +kernel : decode (m_byt 38) 43 = .ok (.invokevirtual 61, 3)) (Or.inl ⟨rfl, rfl⟩) (by decide +kernel) (by decide +kernel) (by decide +kernel) (Nat.le_of_ble_eq_true rfl) rfl (Or.inr (g_rcv (by decide +kernel) h2))
theorem b_38_25 {Z : mZ} {l1 l3 : mV} {x2 : Int} {r0 : Nat} {K : Nat → mK} {σ : Nat → Nat → Int} {n e s : Nat} (h0 : q_ob K n r0 2) (h1 : q_rp K r0 0) (h2 : q_ob K n (q_rf K r0 0) 5) : m_run Z (38, 25, [(2, ((r0 : Nat) : Int)), l1, (0, x2), l3], [], (K, σ, n, e, s)) = (m_cl Z 78 [(2, ((q_rf K r0 0 : Nat) : Int)), (0, x2), (0, (σ r0 1))] (K, σ, n, e, s)).bind (m_aft (m_run Z) 38 34 [(2, ((r0 : Nat) : Int)), l1, (0, x2), l3] []) := by
  refine g_aload_n (k := 0) (v := (2, ((r0 : Nat) : Int))) (by decide +kernel : decode (m_byt 38) 25 = .ok (.aload_n 0, 1)) rfl (Or.inl rfl) ?_
  refine g_getr (ci := 2) (f := 0) (by decide +kernel : decode (m_byt 38) 26 = .ok (.getfield 26, 3)) (by decide +kernel) (by decide +kernel) (by decide +kernel) h0 h1 ?_
  refine g_iload_n (k := 2) (x := x2) (by decide +kernel : decode (m_byt 38) 29 = .ok (.iload_n 2, 1)) rfl ?_
  refine g_aload_n (k := 0) (v := (2, ((r0 : Nat) : Int))) (by decide +kernel : decode (m_byt 38) 30 = .ok (.aload_n 0, 1)) rfl (Or.inl rfl) ?_
  refine g_getf (ci := 2) (f := 1) (by decide +kernel : decode (m_byt 38) 31 = .ok (.getfield 30, 3)) (by decide +kernel) (by decide +kernel) (by decide +kernel) h0 ?_
  exact g_inv (k := 1) (m' := 78) (np := 2) (as := [(2, ((q_rf K r0 0 : Nat) : Int)), (0, x2), (0, (σ r0 1))]) (by decide +kernel : decode (m_byt 38) 34 = .ok (.invokevirtual 68, 3)) (Or.inl ⟨rfl, rfl⟩) (by decide +kernel) (by decide +kernel) (by decide +kernel) (Nat.le_of_ble_eq_true rfl) rfl (Or.inr (g_rcv (by decide +kernel) h2))
theorem b_38_37 {Z : mZ} {l1 l3 : mV} {s0 x2 : Int} {r0 : Nat} {K : Nat → mK} {σ : Nat → Nat → Int} {n e s : Nat} (h0 : q_ob K n r0 2) (h1 : q_rp K r0 0) (h2 : q_ob K n (q_rf K r0 0) 5) : m_run Z (38, 37, [(2, ((r0 : Nat) : Int)), l1, (0, x2), l3], [(0, s0)], (K, σ, n, e, s)) = (m_cl Z 70 [(2, ((q_rf K r0 0 : Nat) : Int)), (0, x2)] (K, σ, n, e, s)).bind (m_aft (m_run Z) 38 43 [(2, ((r0 : Nat) : Int)), l1, (0, x2), (0, s0)] []) := by
  refine g_istore_n (k := 3) (by decide +kernel : decode (m_byt 38) 37 = .ok (.istore_n 3, 1)) (Nat.le_of_ble_eq_true rfl) ?_
  show m_run Z (38, 38, [(2, ((r0 : Nat) : Int)), l1, (0, x2), (0, s0)], [], (K, σ, n, e, s)) = _
  refine g_aload_n (k := 0) (v := (2, ((r0 : Nat) : Int))) (by decide +kernel : decode (m_byt 38) 38 = .ok (.aload_n 0, 1)) rfl (Or.inl rfl) ?_
  refine g_getr (ci := 2) (f := 0) (by decide +kernel : decode (m_byt 38) 39 = .ok (.getfield 26, 3)) (by decide +kernel) (by decide +kernel) (by decide +kernel) h0 h1 ?_
  refine g_iload_n (k := 2) (x := x2) (by decide +kernel : decode (m_byt 38) 42 = .ok (.iload_n 2, 1)) rfl ?_
  exact g_inv (k := 1) (m' := 70) (np := 1) (as := [(2, ((q_rf K r0 0 : Nat) : Int)), (0, x2)]) (by decide +kernel : decode (m_byt 38) 43 = .ok (.invokevirtual 61, 3)) (Or.inl ⟨rfl, rfl⟩) (by decide +kernel) (by decide +kernel) (by decide +kernel) (Nat.le_of_ble_eq_true rfl) rfl (Or.inr (g_rcv (by decide +kernel) h2))
theorem b_38_46 {Z : mZ} {l0 l1 l2 : mV} {s0 x3 : Int} {h : mH} : m_run Z (38, 46, [l0, l1, l2, (0, x3)], [(0, s0)], h) = some (.inl (0, (s0 * x3)), h) := by
  refine g_iload_n (k := 3) (x := x3) (by decide +kernel : decode (m_byt 38) 46 = .ok (.iload_n 3, 1)) rfl ?_
  refine g_base (by decide +kernel : decode (m_byt 38) 47 = .ok (.imul, 1)) rfl rfl ?_
  show m_run Z (38, 48, [l0, l1, l2, (0, x3)], [(0, (s0 * x3))], h) = _
  exact g_iret (by decide +kernel : decode (m_byt 38) 48 = .ok (.ireturn, 1)) (by decide +kernel)
theorem e_39 {Z : mZ} {r0 : Nat} {x1 : Int} {x2 : Int} {h : mH} : m_cl Z 39 [(2, ((r0 : Nat) : Int)), (0, x1), (0, x2)] h = m_run Z (39, 0, [(2, ((r0 : Nat) : Int)), (0, x1), (0, x2), (9, 0), (9, 0), (9, 0)], [], h) := g_ent (k := 6) (by decide) (by decide +kernel) (Nat.le_of_ble_eq_true rfl) (by decide +kernel) rfl
theorem b_39_0 {Z : mZ} {l2 l3 l4 l5 : mV} {x1 : Int} {r0 : Nat} {K : Nat → mK} {σ : Nat → Nat → Int} {n e s : Nat} (h0 : q_ob K n r0 2) : m_run Z (39, 0, [(2, ((r0 : Nat) : Int)), (0, x1), l2, l3, l4, l5], [], (K, σ, n, e, s)) = (m_cl Z 37 [(2, ((r0 : Nat) : Int)), (0, x1)] (K, σ, n, e, s)).bind (m_aft (m_run Z) 39 2 [(2, ((r0 : Nat) : Int)), (0, x1), l2, l3, l4, l5] []) := by
  refine g_aload_n (k := 0) (v := (2, ((r0 : Nat) : Int))) (by decide +kernel : decode (m_byt 39) 0 = .ok (.aload_n 0, 1)) rfl (Or.inl rfl) ?_
  refine g_iload_n (k := 1) (x := x1) (by decide +kernel : decode (m_byt 39) 1 = .ok (.iload_n 1, 1)) rfl ?_
  exact g_inv (k := 1) (m' := 37) (np := 1) (as := [(2, ((r0 : Nat) : Int)), (0, x1)]) (by decide +kernel : decode (m_byt 39) 2 = .ok (.invokevirtual 71, 3)) (Or.inl ⟨rfl, rfl⟩) (by decide +kernel) (by decide +kernel) (by decide +kernel) (Nat.le_of_ble_eq_true rfl) rfl (Or.inr (g_rcv (by decide +kernel) h0))
theorem b_39_5 {Z : mZ} {l1 l3 l4 l5 : mV} {s0 x2 : Int} {r0 : Nat} {K : Nat → mK} {σ : Nat → Nat → Int} {n e s : Nat} (h0 : q_ob K n r0 2) : m_run Z (39, 5, [(2, ((r0 : Nat) : Int)), l1, (0, x2), l3, l4, l5], [(0, s0)], (K, σ, n, e, s)) = (m_cl Z 37 [(2, ((r0 : Nat) : Int)), (0, x2)] (K, σ, n, e, s)).bind (m_aft (m_run Z) 39 7 [(2, ((r0 : Nat) : Int)), l1, (0, x2), l3, l4, l5] [(0, s0)]) := by
  refine g_aload_n (k := 0) (v := (2, ((r0 : Nat) : Int))) (by decide +kernel : decode (m_byt 39) 5 = .ok (.aload_n 0, 1)) rfl (Or.inl rfl) ?_
  refine g_iload_n (k := 2) (x := x2) (by decide +kernel : decode (m_byt 39) 6 = .ok (.iload_n 2, 1)) rfl ?_
  exact g_inv (k := 1) (m' := 37) (np := 1) (as := [(2, ((r0 : Nat) : Int)), (0, x2)]) (by decide +kernel : decode (m_byt 39) 7 = .ok (.invokevirtual 71, 3)) (Or.inl ⟨rfl, rfl⟩) (by decide +kernel) (by decide +kernel) (by decide +kernel) (Nat.le_of_ble_eq_true rfl) rfl (Or.inr (g_rcv (by decide +kernel) h0))
theorem b_39_10 {Z : mZ} {l1 l3 l4 l5 : mV} {s0 s1 x2 : Int} {r0 : Nat} {K : Nat → mK} {σ : Nat → Nat → Int} {n e s : Nat} (h0 : q_ob K n r0 2) : m_run Z (39, 10, [(2, ((r0 : Nat) : Int)), l1, (0, x2), l3, l4, l5], [(0, s0), (0, s1)], (K, σ, n, e, s)) = (m_cl Z 38 [(2, ((r0 : Nat) : Int)), (0, x2)] (K, σ, n, e, s)).bind (m_aft (m_run Z) 39 14 [(2, ((r0 : Nat) : Int)), l1, (0, x2), (0, (s1 - s0)), l4, l5] []) := by
  refine g_base (by decide +kernel : decode (m_byt 39) 10 = .ok (.isub, 1)) rfl rfl ?_
  show m_run Z (39, 11, [(2, ((r0 : Nat) : Int)), l1, (0, x2), l3, l4, l5], [(0, (s1 - s0))], (K, σ, n, e, s)) = _
  refine g_istore_n (k := 3) (by decide +kernel : decode (m_byt 39) 11 = .ok (.istore_n 3, 1)) (Nat.le_of_ble_eq_true rfl) ?_
  show m_run Z (39, 12, [(2, ((r0 : Nat) : Int)), l1, (0, x2), (0, (s1 - s0)), l4, l5], [], (K, σ, n, e, s)) = _
  refine g_aload_n (k := 0) (v := (2, ((r0 : Nat) : Int))) (by decide +kernel : decode (m_byt 39) 12 = .ok (.aload_n 0, 1)) rfl (Or.inl rfl) ?_
  refine g_iload_n (k := 2) (x := x2) (by decide +kernel : decode (m_byt 39) 13 = .ok (.iload_n 2, 1)) rfl ?_
  exact g_inv (k := 1) (m' := 38) (np := 1) (as := [(2, ((r0 : Nat) : Int)), (0, x2)]) (by decide +kernel : decode (m_byt 39) 14 = .ok (.invokevirtual 74, 3)) (Or.inl ⟨rfl, rfl⟩) (by decide +kernel) (by decide +kernel) (by decide +kernel) (Nat.le_of_ble_eq_true rfl) rfl (Or.inr (g_rcv (by decide +kernel) h0))
theorem b_39_17 {Z : mZ} {l2 l3 l4 l5 : mV} {s0 x1 : Int} {r0 : Nat} {K : Nat → mK} {σ : Nat → Nat → Int} {n e s : Nat} (h0 : q_ob K n r0 2) : m_run Z (39, 17, [(2, ((r0 : Nat) : Int)), (0, x1), l2, l3, l4, l5], [(0, s0)], (K, σ, n, e, s)) = (m_cl Z 38 [(2, ((r0 : Nat) : Int)), (0, x1)] (K, σ, n, e, s)).bind (m_aft (m_run Z) 39 19 [(2, ((r0 : Nat) : Int)), (0, x1), l2, l3, l4, l5] [(0, s0)]) := by
  refine g_aload_n (k := 0) (v := (2, ((r0 : Nat) : Int))) (by decide +kernel : decode (m_byt 39) 17 = .ok (.aload_n 0, 1)) rfl (Or.inl rfl) ?_
  refine g_iload_n (k := 1) (x := x1) (by decide +kernel : decode (m_byt 39) 18 = .ok (.iload_n 1, 1)) rfl ?_
  exact g_inv (k := 1) (m' := 38) (np := 1) (as := [(2, ((r0 : Nat) : Int)), (0, x1)]) (by decide +kernel : decode (m_byt 39) 19 = .ok (.invokevirtual 74, 3)) (Or.inl ⟨rfl, rfl⟩) (by decide +kernel) (by decide +kernel) (by decide +kernel) (Nat.le_of_ble_eq_true rfl) rfl (Or.inr (g_rcv (by decide +kernel) h0))
theorem b_39_22 {Z : mZ} {l0 l1 l2 l4 l5 : mV} {s0 s1 x3 : Int} {h : mH} : m_run Z (39, 22, [l0, l1, l2, (0, x3), l4, l5], [(0, s0), (0, s1)], h) = if 0 ≤ w32 x3 then m_run Z (39, 37, [l0, l1, l2, (0, x3), (0, (s1 - s0)), l5], [], h) else m_run Z (39, 29, [l0, l1, l2, (0, x3), (0, (s1 - s0)), l5], [], h) := by
  refine g_base (by decide +kernel : decode (m_byt 39) 22 = .ok (.isub, 1)) rfl rfl ?_
  show m_run Z (39, 23, [l0, l1, l2, (0, x3), l4, l5], [(0, (s1 - s0))], h) = _
  refine g_istore (k := 4) (by decide +kernel : decode (m_byt 39) 23 = .ok (.istore 4, 2)) (Nat.le_of_ble_eq_true rfl) ?_
  show m_run Z (39, 25, [l0, l1, l2, (0, x3), (0, (s1 - s0)), l5], [], h) = _
  refine g_iload_n (k := 3) (x := x3) (by decide +kernel : decode (m_byt 39) 25 = .ok (.iload_n 3, 1)) rfl ?_
  exact g_brq (t := 37) (off := 11) (by decide +kernel : decode (m_byt 39) 26 = .ok (.ifCond .ge 11, 3)) rfl rfl (by decide)
theorem b_39_29 {Z : mZ} {l0 l1 l5 : mV} {x3 x2 x4 : Int} {h : mH} : m_run Z (39, 29, [l0, l1, (0, x2), (0, x3), (0, x4), l5], [], h) = m_run Z (39, 37, [l0, l1, (0, x2), (0, (-x3)), (0, (-x4)), l5], [], h) := by
  refine g_iload_n (k := 3) (x := x3) (by decide +kernel : decode (m_byt 39) 29 = .ok (.iload_n 3, 1)) rfl ?_
  refine g_base (by decide +kernel : decode (m_byt 39) 30 = .ok (.ineg, 1)) rfl rfl ?_
  show m_run Z (39, 31, [l0, l1, (0, x2), (0, x3), (0, x4), l5], [(0, (-x3))], h) = _
  refine g_istore_n (k := 3) (by decide +kernel : decode (m_byt 39) 31 = .ok (.istore_n 3, 1)) (Nat.le_of_ble_eq_true rfl) ?_
  show m_run Z (39, 32, [l0, l1, (0, x2), (0, (-x3)), (0, x4), l5], [], h) = _
  refine g_iload (k := 4) (x := x4) (by decide +kernel : decode (m_byt 39) 32 = .ok (.iload 4, 2)) rfl ?_
  refine g_base (by decide +kernel : decode (m_byt 39) 34 = .ok (.ineg, 1)) rfl rfl ?_
  show m_run Z (39, 35, [l0, l1, (0, x2), (0, (-x3)), (0, x4), l5], [(0, (-x4))], h) = _
  refine g_istore (k := 4) (by decide +kernel : decode (m_byt 39) 35 = .ok (.istore 4, 2)) (Nat.le_of_ble_eq_true rfl) ?_
  show m_run Z (39, 37, [l0, l1, (0, x2), (0, (-x3)), (0, (-x4)), l5], [], h) = _
  rfl
theorem b_39_37 {Z : mZ} {l0 l1 l2 l4 l5 : mV} {x3 : Int} {h : mH} : m_run Z (39, 37, [l0, l1, l2, (0, x3), l4, l5], [], h) = if w32 x3 ≤ 0 then m_run Z (39, 68, [l0, l1, l2, (0, x3), l4, l5], [], h) else m_run Z (39, 41, [l0, l1, l2, (0, x3), l4, l5], [], h) := by
  refine g_iload_n (k := 3) (x := x3) (by decide +kernel : decode (m_byt 39) 37 = .ok (.iload_n 3, 1)) rfl ?_
  exact g_brq (t := 68) (off := 30) (by decide +kernel : decode (m_byt 39) 38 = .ok (.ifCond .le 30, 3)) rfl rfl (by decide)
theorem b_39_41 {Z : mZ} {l0 l1 l2 l3 l5 : mV} {x4 : Int} {h : mH} : m_run Z (39, 41, [l0, l1, l2, l3, (0, x4), l5], [], h) = if w32 x4 ≤ 0 then m_run Z (39, 68, [l0, l1, l2, l3, (0, x4), l5], [], h) else m_run Z (39, 46, [l0, l1, l2, l3, (0, x4), l5], [], h) := by
  refine g_iload (k := 4) (x := x4) (by decide +kernel : decode (m_byt 39) 41 = .ok (.iload 4, 2)) rfl ?_
  exact g_brq (t := 68) (off := 25) (by decide +kernel : decode (m_byt 39) 43 = .ok (.ifCond .le 25, 3)) rfl rfl (by decide)
theorem b_39_46 {Z : mZ} {l1 l2 l3 l5 : mV} {x4 : Int} {r0 : Nat} {K : Nat → mK} {σ : Nat → Nat → Int} {n e s : Nat} (h0 : q_ob K n r0 2) (h1 : q_rp K r0 0) (h2 : q_ob K n (q_rf K r0 0) 5) : m_run Z (39, 46, [(2, ((r0 : Nat) : Int)), l1, l2, l3, (0, x4), l5], [], (K, σ, n, e, s)) = (m_cl Z 69 [(2, ((q_rf K r0 0 : Nat) : Int)), (0, (σ r0 1))] (K, σ, n, e, s)).bind (m_aft (m_run Z) 39 56 [(2, ((r0 : Nat) : Int)), l1, l2, l3, (0, x4), l5] [(0, x4)]) := by
  refine g_iload (k := 4) (x := x4) (by decide +kernel : decode (m_byt 39) 46 = .ok (.iload 4, 2)) rfl ?_
  refine g_aload_n (k := 0) (v := (2, ((r0 : Nat) : Int))) (by decide +kernel : decode (m_byt 39) 48 = .ok (.aload_n 0, 1)) rfl (Or.inl rfl) ?_
  refine g_getr (ci := 2) (f := 0) (by decide +kernel : decode (m_byt 39) 49 = .ok (.getfield 26, 3)) (by decide +kernel) (by decide +kernel) (by decide +kernel) h0 h1 ?_
  refine g_aload_n (k := 0) (v := (2, ((r0 : Nat) : Int))) (by decide +kernel : decode (m_byt 39) 52 = .ok (.aload_n 0, 1)) rfl (Or.inl rfl) ?_
  refine g_getf (ci := 2) (f := 1) (by decide +kernel : decode (m_byt 39) 53 = .ok (.getfield 30, 3)) (by decide +kernel) (by decide +kernel) (by decide +kernel) h0 ?_
  exact g_inv (k := 1) (m' := 69) (np := 1) (as := [(2, ((q_rf K r0 0 : Nat) : Int)), (0, (σ r0 1))]) (by decide +kernel : decode (m_byt 39) 56 = .ok (.invokevirtual 46, 3)) (Or.inl ⟨rfl, rfl⟩) (by decide +kernel) (by decide +kernel) (by decide +kernel) (Nat.le_of_ble_eq_true rfl) rfl (Or.inr (g_rcv (by decide +kernel) h2))
theorem b_39_59 {Z : mZ} {l0 l1 l2 l4 l5 : mV} {s0 s1 x3 : Int} {h : mH} : m_run Z (39, 59, [l0, l1, l2, (0, x3), l4, l5], [(0, s0), (0, s1)], h) = if w32 (s0 * x3) ≤ w32 s1 then m_run Z (39, 68, [l0, l1, l2, (0, x3), l4, l5], [], h) else m_run Z (39, 64, [l0, l1, l2, (0, x3), l4, l5], [], h) := by
  refine g_iload_n (k := 3) (x := x3) (by decide +kernel : decode (m_byt 39) 59 = .ok (.iload_n 3, 1)) rfl ?_
  refine g_base (by decide +kernel : decode (m_byt 39) 60 = .ok (.imul, 1)) rfl rfl ?_
  show m_run Z (39, 61, [l0, l1, l2, (0, x3), l4, l5], [(0, (s0 * x3)), (0, s1)], h) = _
  exact g_brq (t := 68) (off := 7) (by decide +kernel : decode (m_byt 39) 61 = .ok (.if_icmp .ge 7, 3)) rfl rfl (by decide)
theorem b_39_64 {Z : mZ} {l0 l1 l2 l3 l5 : mV} {x4 : Int} {h : mH} : m_run Z (39, 64, [l0, l1, l2, l3, (0, x4), l5], [], h) = if w32 1 = 0 then m_run Z (39, 93, [l0, l1, l2, l3, (0, x4), (0, 1)], [], h) else m_run Z (39, 76, [l0, l1, l2, l3, (0, x4), (0, 1)], [], h) := by
  refine g_base (by decide +kernel : decode (m_byt 39) 64 = .ok (.iconst 1, 1)) rfl rfl ?_
  show m_run Z (39, 65, [l0, l1, l2, l3, (0, x4), l5], [(0, 1)], h) = _
  refine g_jmp (t := 69) (by decide +kernel : decode (m_byt 39) 65 = .ok (.goto 4, 3)) (by decide) ?_
  refine g_istore (k := 5) (by decide +kernel : decode (m_byt 39) 69 = .ok (.istore 5, 2)) (Nat.le_of_ble_eq_true rfl) ?_
  show m_run Z (39, 71, [l0, l1, l2, l3, (0, x4), (0, 1)], [], h) = _
  refine g_iload (k := 5) (x := 1) (by decide +kernel : decode (m_byt 39) 71 = .ok (.iload 5, 2)) rfl ?_
  exact g_brq (t := 93) (off := 20) (by decide +kernel : decode (m_byt 39) 73 = .ok (.ifCond .eq 20, 3)) rfl rfl (by decide)
theorem b_39_68 {Z : mZ} {l0 l1 l2 l3 l4 l5 : mV} {h : mH} : m_run Z (39, 68, [l0, l1, l2, l3, l4, l5], [], h) = m_run Z (39, 69, [l0, l1, l2, l3, l4, l5], [(0, 0)], h) := by
  refine g_base (by decide +kernel : decode (m_byt 39) 68 = .ok (.iconst 0, 1)) rfl rfl ?_
  show m_run Z (39, 69, [l0, l1, l2, l3, l4, l5], [(0, 0)], h) = _
  rfl
theorem b_39_69 {Z : mZ} {l0 l1 l2 l3 l5 : mV} {s0 x4 : Int} {h : mH} : m_run Z (39, 69, [l0, l1, l2, l3, (0, x4), l5], [(0, s0)], h) = if w32 s0 = 0 then m_run Z (39, 93, [l0, l1, l2, l3, (0, x4), (0, s0)], [], h) else m_run Z (39, 76, [l0, l1, l2, l3, (0, x4), (0, s0)], [], h) := by
  refine g_istore (k := 5) (by decide +kernel : decode (m_byt 39) 69 = .ok (.istore 5, 2)) (Nat.le_of_ble_eq_true rfl) ?_
  show m_run Z (39, 71, [l0, l1, l2, l3, (0, x4), (0, s0)], [], h) = _
  refine g_iload (k := 5) (x := s0) (by decide +kernel : decode (m_byt 39) 71 = .ok (.iload 5, 2)) rfl ?_
  exact g_brq (t := 93) (off := 20) (by decide +kernel : decode (m_byt 39) 73 = .ok (.ifCond .eq 20, 3)) rfl rfl (by decide)
theorem b_39_76 {Z : mZ} {l1 l2 l5 : mV} {x4 x3 : Int} {r0 : Nat} {K : Nat → mK} {σ : Nat → Nat → Int} {n e s : Nat} (h0 : q_ob K n r0 2) : m_run Z (39, 76, [(2, ((r0 : Nat) : Int)), l1, l2, (0, x3), (0, x4), l5], [], (K, σ, n, e, s)) = (m_cl Z 40 [(2, ((r0 : Nat) : Int)), (0, x4), (0, x3)] (K, σ, n, e, s)).bind (m_aft (m_run Z) 39 80 [(2, ((r0 : Nat) : Int)), l1, l2, (0, x3), (0, x4), l5] []) := by
  refine g_aload_n (k := 0) (v := (2, ((r0 : Nat) : Int))) (by decide +kernel : decode (m_byt 39) 76 = .ok (.aload_n 0, 1)) rfl (Or.inl rfl) ?_
  refine g_iload (k := 4) (x := x4) (by decide +kernel : decode (m_byt 39) 77 = .ok (.iload 4, 2)) rfl ?_
  refine g_iload_n (k := 3) (x := x3) (by decide +kernel : decode (m_byt 39) 79 = .ok (.iload_n 3, 1)) rfl ?_
  exact g_inv (k := 1) (m' := 40) (np := 2) (as := [(2, ((r0 : Nat) : Int)), (0, x4), (0, x3)]) (by decide +kernel : decode (m_byt 39) 80 = .ok (.invokevirtual 54, 3)) (Or.inl ⟨rfl, rfl⟩) (by decide +kernel) (by decide +kernel) (by decide +kernel) (Nat.le_of_ble_eq_true rfl) rfl (Or.inr (g_rcv (by decide +kernel) h0))
theorem b_39_83 {Z : mZ} {l0 l1 l2 l3 l4 l5 : mV} {s0 : Int} {h : mH} : m_run Z (39, 83, [l0, l1, l2, l3, l4, l5], [(0, s0)], h) = if w32 s0 = 0 then m_run Z (39, 93, [l0, l1, l2, l3, l4, l5], [], h) else m_run Z (39, 86, [l0, l1, l2, l3, l4, l5], [], h) := by
  exact g_brq (t := 93) (off := 10) (by decide +kernel : decode (m_byt 39) 83 = .ok (.ifCond .eq 10, 3)) rfl rfl (by decide)
theorem b_39_86 {Z : mZ} {l1 l2 l5 : mV} {x4 x3 : Int} {r0 : Nat} {K : Nat → mK} {σ : Nat → Nat → Int} {n e s : Nat} (h0 : q_ob K n r0 2) : m_run Z (39, 86, [(2, ((r0 : Nat) : Int)), l1, l2, (0, x3), (0, x4), l5], [], (K, σ, n, e, s)) = (m_cl Z 41 [(2, ((r0 : Nat) : Int)), (0, x4), (0, x3)] (K, σ, n, e, s)).bind (m_aft (m_run Z) 39 90 [(2, ((r0 : Nat) : Int)), l1, l2, (0, x3), (0, x4), l5] []) := by
  refine g_aload_n (k := 0) (v := (2, ((r0 : Nat) : Int))) (by decide +kernel : decode (m_byt 39) 86 = .ok (.aload_n 0, 1)) rfl (Or.inl rfl) ?_
  refine g_iload (k := 4) (x := x4) (by decide +kernel : decode (m_byt 39) 87 = .ok (.iload 4, 2)) rfl ?_
  refine g_iload_n (k := 3) (x := x3) (by decide +kernel : decode (m_byt 39) 89 = .ok (.iload_n 3, 1)) rfl ?_
  exact g_inv (k := 1) (m' := 41) (np := 2) (as := [(2, ((r0 : Nat) : Int)), (0, x4), (0, x3)]) (by decide +kernel : decode (m_byt 39) 90 = .ok (.invokevirtual 58, 3)) (Or.inl ⟨rfl, rfl⟩) (by decide +kernel) (by decide +kernel) (by decide +kernel) (Nat.le_of_ble_eq_true rfl) rfl (Or.inr (g_rcv (by decide +kernel) h0))
theorem b_39_93 {Z : mZ} {l0 l1 l2 l3 l4 l5 : mV} {h : mH} : m_run Z (39, 93, [l0, l1, l2, l3, l4, l5], [], h) = some (.inl (9, 0), h) := by
  exact g_vret (by decide +kernel : decode (m_byt 39) 93 = .ok (.return_, 1)) (by decide +kernel)
theorem e_40 {Z : mZ} {r0 : Nat} {x1 : Int} {x2 : Int} {h : mH} : m_cl Z 40 [(2, ((r0 : Nat) : Int)), (0, x1), (0, x2)] h = m_run Z (40, 0, [(2, ((r0 : Nat) : Int)), (0, x1), (0, x2), (9, 0), (9, 0), (9, 0), (9, 0), (9, 0), (9, 0), (9, 0), (9, 0), (9, 0), (9, 0)], [], h) := g_ent (k := 13) (by decide) (by decide +kernel) (Nat.le_of_ble_eq_true rfl) (by decide +kernel) rfl
theorem b_40_0 {Z : mZ} {l0 l1 l3 l4 l5 l6 l7 l8 l9 l10 l11 l12 : mV} {x2 : Int} {h : mH} : m_run Z (40, 0, [l0, l1, (0, x2), l3, l4, l5, l6, l7, l8, l9, l10, l11, l12], [], h) = m_run Z (40, 11, [l0, l1, (0, x2), (0, (-1)), (0, 0), (0, 0), (0, 0), l7, l8, l9, l10, l11, l12], [], h) := by
  refine g_base (by decide +kernel : decode (m_byt 40) 0 = .ok (.iconst (-1), 1)) rfl rfl ?_
  show m_run Z (40, 1, [l0, l1, (0, x2), l3, l4, l5, l6, l7, l8, l9, l10, l11, l12], [(0, (-1))], h) = _
  refine g_istore_n (k := 3) (by decide +kernel : decode (m_byt 40) 1 = .ok (.istore_n 3, 1)) (Nat.le_of_ble_eq_true rfl) ?_
  show m_run Z (40, 2, [l0, l1, (0, x2), (0, (-1)), l4, l5, l6, l7, l8, l9, l10, l11, l12], [], h) = _
  refine g_base (by decide +kernel : decode (m_byt 40) 2 = .ok (.iconst 0, 1)) rfl rfl ?_
  show m_run Z (40, 3, [l0, l1, (0, x2), (0, (-1)), l4, l5, l6, l7, l8, l9, l10, l11, l12], [(0, 0)], h) = _
  refine g_istore (k := 4) (by decide +kernel : decode (m_byt 40) 3 = .ok (.istore 4, 2)) (Nat.le_of_ble_eq_true rfl) ?_
  show m_run Z (40, 5, [l0, l1, (0, x2), (0, (-1)), (0, 0), l5, l6, l7, l8, l9, l10, l11, l12], [], h) = _
  refine g_base (by decide +kernel : decode (m_byt 40) 5 = .ok (.iconst 0, 1)) rfl rfl ?_
  show m_run Z (40, 6, [l0, l1, (0, x2), (0, (-1)), (0, 0), l5, l6, l7, l8, l9, l10, l11, l12], [(0, 0)], h) = _
  refine g_istore (k := 5) (by decide +kernel : decode (m_byt 40) 6 = .ok (.istore 5, 2)) (Nat.le_of_ble_eq_true rfl) ?_
  show m_run Z (40, 8, [l0, l1, (0, x2), (0, (-1)), (0, 0), (0, 0), l6, l7, l8, l9, l10, l11, l12], [], h) = _
  refine g_base (by decide +kernel : decode (m_byt 40) 8 = .ok (.iconst 0, 1)) rfl rfl ?_
  show m_run Z (40, 9, [l0, l1, (0, x2), (0, (-1)), (0, 0), (0, 0), l6, l7, l8, l9, l10, l11, l12], [(0, 0)], h) = _
  refine g_istore (k := 6) (by decide +kernel : decode (m_byt 40) 9 = .ok (.istore 6, 2)) (Nat.le_of_ble_eq_true rfl) ?_
  show m_run Z (40, 11, [l0, l1, (0, x2), (0, (-1)), (0, 0), (0, 0), (0, 0), l7, l8, l9, l10, l11, l12], [], h) = _
  rfl
theorem b_40_11 {Z : mZ} {l1 l2 l3 l4 l5 l7 l8 l9 l10 l11 l12 : mV} {x6 : Int} {r0 : Nat} {K : Nat → mK} {σ : Nat → Nat → Int} {n e s : Nat} (h0 : q_ob K n r0 2) (h1 : q_rp K r0 0) (h2 : q_ob K n (q_rf K r0 0) 5) : m_run Z (40, 11, [(2, ((r0 : Nat) : Int)), l1, l2, l3, l4, l5, (0, x6), l7, l8, l9, l10, l11, l12], [], (K, σ, n, e, s)) = (m_cl Z 67 [(2, ((q_rf K r0 0 : Nat) : Int))] (K, σ, n, e, s)).bind (m_aft (m_run Z) 40 17 [(2, ((r0 : Nat) : Int)), l1, l2, l3, l4, l5, (0, x6), l7, l8, l9, l10, l11, l12] [(0, x6)]) := by
  refine g_iload (k := 6) (x := x6) (by decide +kernel : decode (m_byt 40) 11 = .ok (.iload 6, 2)) rfl ?_
  refine g_aload_n (k := 0) (v := (2, ((r0 : Nat) : Int))) (by decide +kernel : decode (m_byt 40) 13 = .ok (.aload_n 0, 1)) rfl (Or.inl rfl) ?_
  refine g_getr (ci := 2) (f := 0) (by decide +kernel : decode (m_byt 40) 14 = .ok (.getfield 26, 3)) (by decide +kernel) (by decide +kernel) (by decide +kernel) h0 h1 ?_
  exact g_inv (k := 1) (m' := 67) (np := 0) (as := [(2, ((q_rf K r0 0 : Nat) : Int))]) (by decide +kernel : decode (m_byt 40) 17 = .ok (.invokevirtual 37, 3)) (Or.inl ⟨rfl, rfl⟩) (by decide +kernel) (by decide +kernel) (by decide +kernel) (Nat.le_of_ble_eq_true rfl) rfl (Or.inr (g_rcv (by decide +kernel) h2))
theorem b_40_20 {Z : mZ} {l0 l1 l2 l3 l4 l5 l6 l7 l8 l9 l10 l11 l12 : mV} {s0 s1 : Int} {h : mH} : m_run Z (40, 20, [l0, l1, l2, l3, l4, l5, l6, l7, l8, l9, l10, l11, l12], [(0, s0), (0, s1)], h) = if w32 s0 ≤ w32 s1 then m_run Z (40, 168, [l0, l1, l2, l3, l4, l5, l6, l7, l8, l9, l10, l11, l12], [], h) else m_run Z (40, 23, [l0, l1, l2, l3, l4, l5, l6, l7, l8, l9, l10, l11, l12], [], h) := by
  exact g_brq (t := 168) (off := 148) (by decide +kernel : decode (m_byt 40) 20 = .ok (.if_icmp .ge 148, 3)) rfl rfl (by decide)
theorem b_40_23 {Z : mZ} {l1 l2 l3 l4 l5 l7 l8 l9 l10 l11 l12 : mV} {x6 : Int} {r0 : Nat} {K : Nat → mK} {σ : Nat → Nat → Int} {n e s : Nat} (h0 : q_ob K n r0 2) (h1 : q_rp K r0 0) (h2 : q_ob K n (q_rf K r0 0) 5) : m_run Z (40, 23, [(2, ((r0 : Nat) : Int)), l1, l2, l3, l4, l5, (0, x6), l7, l8, l9, l10, l11, l12], [], (K, σ, n, e, s)) = (m_cl Z 70 [(2, ((q_rf K r0 0 : Nat) : Int)), (0, x6)] (K, σ, n, e, s)).bind (m_aft (m_run Z) 40 29 [(2, ((r0 : Nat) : Int)), l1, l2, l3, l4, l5, (0, x6), l7, l8, l9, l10, l11, l12] []) := by
  refine g_aload_n (k := 0) (v := (2, ((r0 : Nat) : Int))) (by decide +kernel : decode (m_byt 40) 23 = .ok (.aload_n 0, 1)) rfl (Or.inl rfl) ?_
  refine g_getr (ci := 2) (f := 0) (by decide +kernel : decode (m_byt 40) 24 = .ok (.getfield 26, 3)) (by decide +kernel) (by decide +kernel) (by decide +kernel) h0 h1 ?_
  refine g_iload (k := 6) (x := x6) (by decide +kernel : decode (m_byt 40) 27 = .ok (.iload 6, 2)) rfl ?_
  exact g_inv (k := 1) (m' := 70) (np := 1) (as := [(2, ((q_rf K r0 0 : Nat) : Int)), (0, x6)]) (by decide +kernel : decode (m_byt 40) 29 = .ok (.invokevirtual 61, 3)) (Or.inl ⟨rfl, rfl⟩) (by decide +kernel) (by decide +kernel) (by decide +kernel) (Nat.le_of_ble_eq_true rfl) rfl (Or.inr (g_rcv (by decide +kernel) h2))
theorem b_40_32 {Z : mZ} {l1 l2 l3 l4 l5 l7 l8 l9 l10 l11 l12 : mV} {s0 x6 : Int} {r0 : Nat} {K : Nat → mK} {σ : Nat → Nat → Int} {n e s : Nat} (h0 : q_ob K n r0 2) (h1 : q_rp K r0 0) (h2 : q_ob K n (q_rf K r0 0) 5) : m_run Z (40, 32, [(2, ((r0 : Nat) : Int)), l1, l2, l3, l4, l5, (0, x6), l7, l8, l9, l10, l11, l12], [(0, s0)], (K, σ, n, e, s)) = (m_cl Z 77 [(2, ((q_rf K r0 0 : Nat) : Int)), (0, x6), (0, (σ r0 1))] (K, σ, n, e, s)).bind (m_aft (m_run Z) 40 44 [(2, ((r0 : Nat) : Int)), l1, l2, l3, l4, l5, (0, x6), (0, s0), l8, l9, l10, l11, l12] []) := by
  refine g_istore (k := 7) (by decide +kernel : decode (m_byt 40) 32 = .ok (.istore 7, 2)) (Nat.le_of_ble_eq_true rfl) ?_
  show m_run Z (40, 34, [(2, ((r0 : Nat) : Int)), l1, l2, l3, l4, l5, (0, x6), (0, s0), l8, l9, l10, l11, l12], [], (K, σ, n, e, s)) = _
  refine g_aload_n (k := 0) (v := (2, ((r0 : Nat) : Int))) (by decide +kernel : decode (m_byt 40) 34 = .ok (.aload_n 0, 1)) rfl (Or.inl rfl) ?_
  refine g_getr (ci := 2) (f := 0) (by decide +kernel : decode (m_byt 40) 35 = .ok (.getfield 26, 3)) (by decide +kernel) (by decide +kernel) (by decide +kernel) h0 h1 ?_
  refine g_iload (k := 6) (x := x6) (by decide +kernel : decode (m_byt 40) 38 = .ok (.iload 6, 2)) rfl ?_
  refine g_aload_n (k := 0) (v := (2, ((r0 : Nat) : Int))) (by decide +kernel : decode (m_byt 40) 40 = .ok (.aload_n 0, 1)) rfl (Or.inl rfl) ?_
  refine g_getf (ci := 2) (f := 1) (by decide +kernel : decode (m_byt 40) 41 = .ok (.getfield 30, 3)) (by decide +kernel) (by decide +kernel) (by decide +kernel) h0 ?_
  exact g_inv (k := 1) (m' := 77) (np := 2) (as := [(2, ((q_rf K r0 0 : Nat) : Int)), (0, x6), (0, (σ r0 1))]) (by decide +kernel : decode (m_byt 40) 44 = .ok (.invokevirtual 64, 3)) (Or.inl ⟨rfl, rfl⟩) (by decide +kernel) (by decide +kernel) (by decide +kernel) (Nat.le_of_ble_eq_true rfl) rfl (Or.inr (g_rcv (by decide +kernel) h2))
theorem b_40_47 {Z : mZ} {l3 l4 l5 l8 l9 l10 l11 l12 : mV} {s0 x2 x1 x7 x6 : Int} {r0 : Nat} {K : Nat → mK} {σ : Nat → Nat → Int} {n e s : Nat} (h0 : q_ob K n r0 2) (h1 : q_rp K r0 0) (h2 : q_ob K n (q_rf K r0 0) 5) : m_run Z (40, 47, [(2, ((r0 : Nat) : Int)), (0, x1), (0, x2), l3, l4, l5, (0, x6), (0, x7), l8, l9, l10, l11, l12], [(0, s0)], (K, σ, n, e, s)) = (m_cl Z 78 [(2, ((q_rf K r0 0 : Nat) : Int)), (0, x6), (0, (σ r0 1))] (K, σ, n, e, s)).bind (m_aft (m_run Z) 40 63 [(2, ((r0 : Nat) : Int)), (0, x1), (0, x2), l3, l4, l5, (0, x6), (0, x7), (0, ((s0 * x2) + x1)), l9, l10, l11, l12] []) := by
  refine g_iload_n (k := 2) (x := x2) (by decide +kernel : decode (m_byt 40) 47 = .ok (.iload_n 2, 1)) rfl ?_
  refine g_base (by decide +kernel : decode (m_byt 40) 48 = .ok (.imul, 1)) rfl rfl ?_
  show m_run Z (40, 49, [(2, ((r0 : Nat) : Int)), (0, x1), (0, x2), l3, l4, l5, (0, x6), (0, x7), l8, l9, l10, l11, l12], [(0, (s0 * x2))], (K, σ, n, e, s)) = _
  refine g_iload_n (k := 1) (x := x1) (by decide +kernel : decode (m_byt 40) 49 = .ok (.iload_n 1, 1)) rfl ?_
  refine g_base (by decide +kernel : decode (m_byt 40) 50 = .ok (.iadd, 1)) rfl rfl ?_
  show m_run Z (40, 51, [(2, ((r0 : Nat) : Int)), (0, x1), (0, x2), l3, l4, l5, (0, x6), (0, x7), l8, l9, l10, l11, l12], [(0, ((s0 * x2) + x1))], (K, σ, n, e, s)) = _
  refine g_istore (k := 8) (by decide +kernel : decode (m_byt 40) 51 = .ok (.istore 8, 2)) (Nat.le_of_ble_eq_true rfl) ?_
  show m_run Z (40, 53, [(2, ((r0 : Nat) : Int)), (0, x1), (0, x2), l3, l4, l5, (0, x6), (0, x7), (0, ((s0 * x2) + x1)), l9, l10, l11, l12], [], (K, σ, n, e, s)) = _
  refine g_aload_n (k := 0) (v := (2, ((r0 : Nat) : Int))) (by decide +kernel : decode (m_byt 40) 53 = .ok (.aload_n 0, 1)) rfl (Or.inl rfl) ?_
  refine g_getr (ci := 2) (f := 0) (by decide +kernel : decode (m_byt 40) 54 = .ok (.getfield 26, 3)) (by decide +kernel) (by decide +kernel) (by decide +kernel) h0 h1 ?_
  refine g_iload (k := 6) (x := x6) (by decide +kernel : decode (m_byt 40) 57 = .ok (.iload 6, 2)) rfl ?_
  refine g_aload_n (k := 0) (v := (2, ((r0 : Nat) : Int))) (by decide +kernel : decode (m_byt 40) 59 = .ok (.aload_n 0, 1)) rfl (Or.inl rfl) ?_
  refine g_getf (ci := 2) (f := 1) (by decide +kernel : decode (m_byt 40) 60 = .ok (.getfield 30, 3)) (by decide +kernel) (by decide +kernel) (by decide +kernel) h0 ?_
  exact g_inv (k := 1) (m' := 78) (np := 2) (as := [(2, ((q_rf K r0 0 : Nat) : Int)), (0, x6), (0, (σ r0 1))]) (by decide +kernel : decode (m_byt 40) 63 = .ok (.invokevirtual 68, 3)) (Or.inl ⟨rfl, rfl⟩) (by decide +kernel) (by decide +kernel) (by decide +kernel) (Nat.le_of_ble_eq_true rfl) rfl (Or.inr (g_rcv (by decide +kernel) h2))
theorem b_40_66 {Z : mZ} {l0 l3 l4 l5 l6 l9 l10 l11 l12 : mV} {s0 x2 x1 x8 x7 : Int} {h : mH} : m_run Z (40, 66, [l0, (0, x1), (0, x2), l3, l4, l5, l6, (0, x7), (0, x8), l9, l10, l11, l12], [(0, s0)], h) = if w32 ((s0 * x2) - x1) < w32 x8 then m_run Z (40, 96, [l0, (0, x1), (0, x2), l3, l4, l5, l6, (0, x7), (0, x8), (0, ((s0 * x2) - x1)), (0, (x7 * (if w32 ((s0 * x2) - x1) < w32 x8 then ((s0 * x2) - x1) else x8))), l11, l12], [], h) else m_run Z (40, 91, [l0, (0, x1), (0, x2), l3, l4, l5, l6, (0, x7), (0, x8), (0, ((s0 * x2) - x1)), (0, (x7 * (if w32 ((s0 * x2) - x1) < w32 x8 then ((s0 * x2) - x1) else x8))), l11, l12], [], h) := by
  refine g_iload_n (k := 2) (x := x2) (by decide +kernel : decode (m_byt 40) 66 = .ok (.iload_n 2, 1)) rfl ?_
  refine g_base (by decide +kernel : decode (m_byt 40) 67 = .ok (.imul, 1)) rfl rfl ?_
  show m_run Z (40, 68, [l0, (0, x1), (0, x2), l3, l4, l5, l6, (0, x7), (0, x8), l9, l10, l11, l12], [(0, (s0 * x2))], h) = _
  refine g_iload_n (k := 1) (x := x1) (by decide +kernel : decode (m_byt 40) 68 = .ok (.iload_n 1, 1)) rfl ?_
  refine g_base (by decide +kernel : decode (m_byt 40) 69 = .ok (.isub, 1)) rfl rfl ?_
  show m_run Z (40, 70, [l0, (0, x1), (0, x2), l3, l4, l5, l6, (0, x7), (0, x8), l9, l10, l11, l12], [(0, ((s0 * x2) - x1))], h) = _
  refine g_istore (k := 9) (by decide +kernel : decode (m_byt 40) 70 = .ok (.istore 9, 2)) (Nat.le_of_ble_eq_true rfl) ?_
  show m_run Z (40, 72, [l0, (0, x1), (0, x2), l3, l4, l5, l6, (0, x7), (0, x8), (0, ((s0 * x2) - x1)), l10, l11, l12], [], h) = _
  refine g_iload (k := 7) (x := x7) (by decide +kernel : decode (m_byt 40) 72 = .ok (.iload 7, 2)) rfl ?_
  refine g_iload (k := 8) (x := x8) (by decide +kernel : decode (m_byt 40) 74 = .ok (.iload 8, 2)) rfl ?_
  refine g_iload (k := 9) (x := ((s0 * x2) - x1)) (by decide +kernel : decode (m_byt 40) 76 = .ok (.iload 9, 2)) rfl ?_
  refine g_min (by decide +kernel : decode (m_byt 40) 78 = .ok (.invokestatic 77, 3)) (by decide +kernel) (by decide +kernel) (Nat.le_of_ble_eq_true rfl) ?_
  show m_run Z (40, 81, [l0, (0, x1), (0, x2), l3, l4, l5, l6, (0, x7), (0, x8), (0, ((s0 * x2) - x1)), l10, l11, l12], [(0, (if w32 ((s0 * x2) - x1) < w32 x8 then ((s0 * x2) - x1) else x8)), (0, x7)], h) = _
  refine g_base (by decide +kernel : decode (m_byt 40) 81 = .ok (.imul, 1)) rfl rfl ?_
  show m_run Z (40, 82, [l0, (0, x1), (0, x2), l3, l4, l5, l6, (0, x7), (0, x8), (0, ((s0 * x2) - x1)), l10, l11, l12], [(0, (x7 * (if w32 ((s0 * x2) - x1) < w32 x8 then ((s0 * x2) - x1) else x8)))], h) = _
  refine g_istore (k := 10) (by decide +kernel : decode (m_byt 40) 82 = .ok (.istore 10, 2)) (Nat.le_of_ble_eq_true rfl) ?_
  show m_run Z (40, 84, [l0, (0, x1), (0, x2), l3, l4, l5, l6, (0, x7), (0, x8), (0, ((s0 * x2) - x1)), (0, (x7 * (if w32 ((s0 * x2) - x1) < w32 x8 then ((s0 * x2) - x1) else x8))), l11, l12], [], h) = _
  refine g_iload (k := 8) (x := x8) (by decide +kernel : decode (m_byt 40) 84 = .ok (.iload 8, 2)) rfl ?_
  refine g_iload (k := 9) (x := ((s0 * x2) - x1)) (by decide +kernel : decode (m_byt 40) 86 = .ok (.iload 9, 2)) rfl ?_
  exact g_brq (t := 96) (off := 8) (by decide +kernel : decode (m_byt 40) 88 = .ok (.if_icmp .gt 8, 3)) rfl rfl (by decide)
theorem b_40_91 {Z : mZ} {l0 l1 l2 l3 l4 l5 l6 l11 l12 : mV} {x7 x10 x8 x9 : Int} {h : mH} : m_run Z (40, 91, [l0, l1, l2, l3, l4, l5, l6, (0, x7), (0, x8), (0, x9), (0, x10), l11, l12], [], h) = if w32 x9 ≤ w32 x8 then m_run Z (40, 113, [l0, l1, l2, l3, l4, l5, l6, (0, x7), (0, x8), (0, x9), (0, x10), (0, x7), l12], [], h) else m_run Z (40, 108, [l0, l1, l2, l3, l4, l5, l6, (0, x7), (0, x8), (0, x9), (0, x10), (0, x7), l12], [], h) := by
  refine g_iload (k := 7) (x := x7) (by decide +kernel : decode (m_byt 40) 91 = .ok (.iload 7, 2)) rfl ?_
  refine g_jmp (t := 99) (by decide +kernel : decode (m_byt 40) 93 = .ok (.goto 6, 3)) (by decide) ?_
  refine g_istore (k := 11) (by decide +kernel : decode (m_byt 40) 99 = .ok (.istore 11, 2)) (Nat.le_of_ble_eq_true rfl) ?_
  show m_run Z (40, 101, [l0, l1, l2, l3, l4, l5, l6, (0, x7), (0, x8), (0, x9), (0, x10), (0, x7), l12], [], h) = _
  refine g_iload (k := 8) (x := x8) (by decide +kernel : decode (m_byt 40) 101 = .ok (.iload 8, 2)) rfl ?_
  refine g_iload (k := 9) (x := x9) (by decide +kernel : decode (m_byt 40) 103 = .ok (.iload 9, 2)) rfl ?_
  exact g_brq (t := 113) (off := 8) (by decide +kernel : decode (m_byt 40) 105 = .ok (.if_icmp .ge 8, 3)) rfl rfl (by decide)
theorem b_40_96 {Z : mZ} {l0 l1 l2 l3 l4 l5 l6 l8 l9 l10 l11 l12 : mV} {x7 : Int} {h : mH} : m_run Z (40, 96, [l0, l1, l2, l3, l4, l5, l6, (0, x7), l8, l9, l10, l11, l12], [], h) = m_run Z (40, 99, [l0, l1, l2, l3, l4, l5, l6, (0, x7), l8, l9, l10, l11, l12], [(0, (-x7))], h) := by
  refine g_iload (k := 7) (x := x7) (by decide +kernel : decode (m_byt 40) 96 = .ok (.iload 7, 2)) rfl ?_
  refine g_base (by decide +kernel : decode (m_byt 40) 98 = .ok (.ineg, 1)) rfl rfl ?_
  show m_run Z (40, 99, [l0, l1, l2, l3, l4, l5, l6, (0, x7), l8, l9, l10, l11, l12], [(0, (-x7))], h) = _
  rfl
theorem b_40_99 {Z : mZ} {l0 l1 l2 l3 l4 l5 l6 l7 l11 l12 : mV} {s0 x10 x8 x9 : Int} {h : mH} : m_run Z (40, 99, [l0, l1, l2, l3, l4, l5, l6, l7, (0, x8), (0, x9), (0, x10), l11, l12], [(0, s0)], h) = if w32 x9 ≤ w32 x8 then m_run Z (40, 113, [l0, l1, l2, l3, l4, l5, l6, l7, (0, x8), (0, x9), (0, x10), (0, s0), l12], [], h) else m_run Z (40, 108, [l0, l1, l2, l3, l4, l5, l6, l7, (0, x8), (0, x9), (0, x10), (0, s0), l12], [], h) := by
  refine g_istore (k := 11) (by decide +kernel : decode (m_byt 40) 99 = .ok (.istore 11, 2)) (Nat.le_of_ble_eq_true rfl) ?_
  show m_run Z (40, 101, [l0, l1, l2, l3, l4, l5, l6, l7, (0, x8), (0, x9), (0, x10), (0, s0), l12], [], h) = _
  refine g_iload (k := 8) (x := x8) (by decide +kernel : decode (m_byt 40) 101 = .ok (.iload 8, 2)) rfl ?_
  refine g_iload (k := 9) (x := x9) (by decide +kernel : decode (m_byt 40) 103 = .ok (.iload 9, 2)) rfl ?_
  exact g_brq (t := 113) (off := 8) (by decide +kernel : decode (m_byt 40) 105 = .ok (.if_icmp .ge 8, 3)) rfl rfl (by decide)
theorem b_40_108 {Z : mZ} {l0 l1 l2 l4 l5 l6 l8 l9 l12 : mV} {x7 x11 x10 x3 : Int} {h : mH} : m_run Z (40, 108, [l0, l1, l2, (0, x3), l4, l5, l6, (0, x7), l8, l9, (0, x10), (0, x11), l12], [], h) = if w32 x10 ≤ w32 x3 then m_run Z (40, 138, [l0, l1, l2, (0, x3), l4, l5, l6, (0, x7), l8, l9, (0, x10), (0, x11), (0, x7)], [], h) else m_run Z (40, 124, [l0, l1, l2, (0, x3), l4, l5, l6, (0, x7), l8, l9, (0, x10), (0, x11), (0, x7)], [], h) := by
  refine g_iload (k := 7) (x := x7) (by decide +kernel : decode (m_byt 40) 108 = .ok (.iload 7, 2)) rfl ?_
  refine g_jmp (t := 116) (by decide +kernel : decode (m_byt 40) 110 = .ok (.goto 6, 3)) (by decide) ?_
  refine g_istore (k := 12) (by decide +kernel : decode (m_byt 40) 116 = .ok (.istore 12, 2)) (Nat.le_of_ble_eq_true rfl) ?_
  show m_run Z (40, 118, [l0, l1, l2, (0, x3), l4, l5, l6, (0, x7), l8, l9, (0, x10), (0, x11), (0, x7)], [], h) = _
  refine g_iload (k := 10) (x := x10) (by decide +kernel : decode (m_byt 40) 118 = .ok (.iload 10, 2)) rfl ?_
  refine g_iload_n (k := 3) (x := x3) (by decide +kernel : decode (m_byt 40) 120 = .ok (.iload_n 3, 1)) rfl ?_
  exact g_brq (t := 138) (off := 17) (by decide +kernel : decode (m_byt 40) 121 = .ok (.if_icmp .le 17, 3)) rfl rfl (by decide)
theorem b_40_113 {Z : mZ} {l0 l1 l2 l3 l4 l5 l6 l8 l9 l10 l11 l12 : mV} {x7 : Int} {h : mH} : m_run Z (40, 113, [l0, l1, l2, l3, l4, l5, l6, (0, x7), l8, l9, l10, l11, l12], [], h) = m_run Z (40, 116, [l0, l1, l2, l3, l4, l5, l6, (0, x7), l8, l9, l10, l11, l12], [(0, (-x7))], h) := by
  refine g_iload (k := 7) (x := x7) (by decide +kernel : decode (m_byt 40) 113 = .ok (.iload 7, 2)) rfl ?_
  refine g_base (by decide +kernel : decode (m_byt 40) 115 = .ok (.ineg, 1)) rfl rfl ?_
  show m_run Z (40, 116, [l0, l1, l2, l3, l4, l5, l6, (0, x7), l8, l9, l10, l11, l12], [(0, (-x7))], h) = _
  rfl
theorem b_40_116 {Z : mZ} {l0 l1 l2 l4 l5 l6 l7 l8 l9 l12 : mV} {s0 x11 x10 x3 : Int} {h : mH} : m_run Z (40, 116, [l0, l1, l2, (0, x3), l4, l5, l6, l7, l8, l9, (0, x10), (0, x11), l12], [(0, s0)], h) = if w32 x10 ≤ w32 x3 then m_run Z (40, 138, [l0, l1, l2, (0, x3), l4, l5, l6, l7, l8, l9, (0, x10), (0, x11), (0, s0)], [], h) else m_run Z (40, 124, [l0, l1, l2, (0, x3), l4, l5, l6, l7, l8, l9, (0, x10), (0, x11), (0, s0)], [], h) := by
  refine g_istore (k := 12) (by decide +kernel : decode (m_byt 40) 116 = .ok (.istore 12, 2)) (Nat.le_of_ble_eq_true rfl) ?_
  show m_run Z (40, 118, [l0, l1, l2, (0, x3), l4, l5, l6, l7, l8, l9, (0, x10), (0, x11), (0, s0)], [], h) = _
  refine g_iload (k := 10) (x := x10) (by decide +kernel : decode (m_byt 40) 118 = .ok (.iload 10, 2)) rfl ?_
  refine g_iload_n (k := 3) (x := x3) (by decide +kernel : decode (m_byt 40) 120 = .ok (.iload_n 3, 1)) rfl ?_
  exact g_brq (t := 138) (off := 17) (by decide +kernel : decode (m_byt 40) 121 = .ok (.if_icmp .le 17, 3)) rfl rfl (by decide)
theorem b_40_124 {Z : mZ} {l0 l1 l3 l4 l5 l7 l8 l9 : mV} {x10 x2 x11 x12 x6 : Int} {h : mH} : m_run Z (40, 124, [l0, l1, (0, x2), l3, l4, l5, (0, x6), l7, l8, l9, (0, x10), (0, x11), (0, x12)], [], h) = m_run Z (40, 11, [l0, l1, (0, x2), (0, x10), (0, x11), (0, x12), (0, x6 + 1), l7, l8, l9, (0, x10), (0, x11), (0, x12)], [], h) := by
  refine g_iload (k := 10) (x := x10) (by decide +kernel : decode (m_byt 40) 124 = .ok (.iload 10, 2)) rfl ?_
  refine g_istore_n (k := 3) (by decide +kernel : decode (m_byt 40) 126 = .ok (.istore_n 3, 1)) (Nat.le_of_ble_eq_true rfl) ?_
  show m_run Z (40, 127, [l0, l1, (0, x2), (0, x10), l4, l5, (0, x6), l7, l8, l9, (0, x10), (0, x11), (0, x12)], [], h) = _
  refine g_iload (k := 11) (x := x11) (by decide +kernel : decode (m_byt 40) 127 = .ok (.iload 11, 2)) rfl ?_
  refine g_istore (k := 4) (by decide +kernel : decode (m_byt 40) 129 = .ok (.istore 4, 2)) (Nat.le_of_ble_eq_true rfl) ?_
  show m_run Z (40, 131, [l0, l1, (0, x2), (0, x10), (0, x11), l5, (0, x6), l7, l8, l9, (0, x10), (0, x11), (0, x12)], [], h) = _
  refine g_iload (k := 12) (x := x12) (by decide +kernel : decode (m_byt 40) 131 = .ok (.iload 12, 2)) rfl ?_
  refine g_istore (k := 5) (by decide +kernel : decode (m_byt 40) 133 = .ok (.istore 5, 2)) (Nat.le_of_ble_eq_true rfl) ?_
  show m_run Z (40, 135, [l0, l1, (0, x2), (0, x10), (0, x11), (0, x12), (0, x6), l7, l8, l9, (0, x10), (0, x11), (0, x12)], [], h) = _
  refine g_jmp (t := 162) (by decide +kernel : decode (m_byt 40) 135 = .ok (.goto 27, 3)) (by decide) ?_
  refine g_iinc (k := 6) (x := x6) (by decide +kernel : decode (m_byt 40) 162 = .ok (.iinc 6 1, 3)) rfl (Nat.le_of_ble_eq_true rfl) ?_
  show m_run Z (40, 165, [l0, l1, (0, x2), (0, x10), (0, x11), (0, x12), (0, x6 + 1), l7, l8, l9, (0, x10), (0, x11), (0, x12)], [], h) = _
  refine g_jmp (t := 11) (by decide +kernel : decode (m_byt 40) 165 = .ok (.goto (-154), 3)) (by decide) ?_
  rfl
theorem b_40_138 {Z : mZ} {l0 l1 l2 l4 l5 l6 l7 l8 l9 l11 l12 : mV} {x10 x3 : Int} {h : mH} : m_run Z (40, 138, [l0, l1, l2, (0, x3), l4, l5, l6, l7, l8, l9, (0, x10), l11, l12], [], h) = if w32 x10 = w32 x3 then m_run Z (40, 144, [l0, l1, l2, (0, x3), l4, l5, l6, l7, l8, l9, (0, x10), l11, l12], [], h) else m_run Z (40, 162, [l0, l1, l2, (0, x3), l4, l5, l6, l7, l8, l9, (0, x10), l11, l12], [], h) := by
  refine g_iload (k := 10) (x := x10) (by decide +kernel : decode (m_byt 40) 138 = .ok (.iload 10, 2)) rfl ?_
  refine g_iload_n (k := 3) (x := x3) (by decide +kernel : decode (m_byt 40) 140 = .ok (.iload_n 3, 1)) rfl ?_
  exact g_brn (t := 162) (off := 21) (by decide +kernel : decode (m_byt 40) 141 = .ok (.if_icmp .ne 21, 3)) rfl rfl (by decide)
theorem b_40_144 {Z : mZ} {l0 l1 l2 l6 l7 l8 l9 l10 : mV} {x4 x11 x3 x5 x12 : Int} {h : mH} : m_run Z (40, 144, [l0, l1, l2, (0, x3), (0, x4), (0, x5), l6, l7, l8, l9, l10, (0, x11), (0, x12)], [], h) = m_run Z (40, 162, [l0, l1, l2, (0, x3), (0, (if w32 x11 < w32 x4 then x11 else x4)), (0, (if w32 x5 < w32 x12 then x12 else x5)), l6, l7, l8, l9, l10, (0, x11), (0, x12)], [], h) := by
  refine g_iload (k := 4) (x := x4) (by decide +kernel : decode (m_byt 40) 144 = .ok (.iload 4, 2)) rfl ?_
  refine g_iload (k := 11) (x := x11) (by decide +kernel : decode (m_byt 40) 146 = .ok (.iload 11, 2)) rfl ?_
  refine g_min (by decide +kernel : decode (m_byt 40) 148 = .ok (.invokestatic 77, 3)) (by decide +kernel) (by decide +kernel) (Nat.le_of_ble_eq_true rfl) ?_
  show m_run Z (40, 151, [l0, l1, l2, (0, x3), (0, x4), (0, x5), l6, l7, l8, l9, l10, (0, x11), (0, x12)], [(0, (if w32 x11 < w32 x4 then x11 else x4))], h) = _
  refine g_istore (k := 4) (by decide +kernel : decode (m_byt 40) 151 = .ok (.istore 4, 2)) (Nat.le_of_ble_eq_true rfl) ?_
  show m_run Z (40, 153, [l0, l1, l2, (0, x3), (0, (if w32 x11 < w32 x4 then x11 else x4)), (0, x5), l6, l7, l8, l9, l10, (0, x11), (0, x12)], [], h) = _
  refine g_iload (k := 5) (x := x5) (by decide +kernel : decode (m_byt 40) 153 = .ok (.iload 5, 2)) rfl ?_
  refine g_iload (k := 12) (x := x12) (by decide +kernel : decode (m_byt 40) 155 = .ok (.iload 12, 2)) rfl ?_
  refine g_max (by decide +kernel : decode (m_byt 40) 157 = .ok (.invokestatic 82, 3)) (by decide +kernel) (by decide +kernel) (Nat.le_of_ble_eq_true rfl) ?_
  show m_run Z (40, 160, [l0, l1, l2, (0, x3), (0, (if w32 x11 < w32 x4 then x11 else x4)), (0, x5), l6, l7, l8, l9, l10, (0, x11), (0, x12)], [(0, (if w32 x5 < w32 x12 then x12 else x5))], h) = _
  refine g_istore (k := 5) (by decide +kernel : decode (m_byt 40) 160 = .ok (.istore 5, 2)) (Nat.le_of_ble_eq_true rfl) ?_
  show m_run Z (40, 162, [l0, l1, l2, (0, x3), (0, (if w32 x11 < w32 x4 then x11 else x4)), (0, (if w32 x5 < w32 x12 then x12 else x5)), l6, l7, l8, l9, l10, (0, x11), (0, x12)], [], h) = _
  rfl
theorem b_40_162 {Z : mZ} {l0 l1 l2 l3 l4 l7 l8 l9 l10 l11 l12 : mV} {x6 x5 : Int} {h : mH} : m_run Z (40, 162, [l0, l1, l2, l3, l4, (0, x5), (0, x6), l7, l8, l9, l10, l11, l12], [], h) = m_run Z (40, 11, [l0, l1, l2, l3, l4, (0, x5), (0, x6 + 1), l7, l8, l9, l10, l11, l12], [], h) := by
  refine g_iinc (k := 6) (x := x6) (by decide +kernel : decode (m_byt 40) 162 = .ok (.iinc 6 1, 3)) rfl (Nat.le_of_ble_eq_true rfl) ?_
  show m_run Z (40, 165, [l0, l1, l2, l3, l4, (0, x5), (0, x6 + 1), l7, l8, l9, l10, l11, l12], [], h) = _
  refine g_jmp (t := 11) (by decide +kernel : decode (m_byt 40) 165 = .ok (.goto (-154), 3)) (by decide) ?_
  rfl
theorem b_40_168 {Z : mZ} {l1 l2 l6 l7 l8 l9 l10 l11 l12 : mV} {x3 x4 x5 : Int} {r0 : Nat} {K : Nat → mK} {σ : Nat → Nat → Int} {n e s : Nat} (h0 : q_ob K n r0 2) : m_run Z (40, 168, [(2, ((r0 : Nat) : Int)), l1, l2, (0, x3), (0, x4), (0, x5), l6, l7, l8, l9, l10, l11, l12], [], (K, σ, n, e, s)) = if w32 x4 = w32 x5 then m_run Z (40, 184, [(2, ((r0 : Nat) : Int)), l1, l2, (0, x3), (0, x4), (0, x5), l6, l7, l8, l9, l10, l11, l12], [], (K, (m_up2 σ r0 2 x3), n, e, s)) else m_run Z (40, 180, [(2, ((r0 : Nat) : Int)), l1, l2, (0, x3), (0, x4), (0, x5), l6, l7, l8, l9, l10, l11, l12], [], (K, (m_up2 σ r0 2 x3), n, e, s)) := by
  refine g_aload_n (k := 0) (v := (2, ((r0 : Nat) : Int))) (by decide +kernel : decode (m_byt 40) 168 = .ok (.aload_n 0, 1)) rfl (Or.inl rfl) ?_
  refine g_iload_n (k := 3) (x := x3) (by decide +kernel : decode (m_byt 40) 169 = .ok (.iload_n 3, 1)) rfl ?_
  refine g_putf (ci := 2) (f := 2) (by decide +kernel : decode (m_byt 40) 170 = .ok (.putfield 85, 3)) (by decide +kernel) (by decide +kernel) (by decide +kernel) h0 ?_
  show m_run Z (40, 173, [(2, ((r0 : Nat) : Int)), l1, l2, (0, x3), (0, x4), (0, x5), l6, l7, l8, l9, l10, l11, l12], [], (K, (m_up2 σ r0 2 x3), n, e, s)) = _
  refine g_iload (k := 4) (x := x4) (by decide +kernel : decode (m_byt 40) 173 = .ok (.iload 4, 2)) rfl ?_
  refine g_iload (k := 5) (x := x5) (by decide +kernel : decode (m_byt 40) 175 = .ok (.iload 5, 2)) rfl ?_
  exact g_brq (t := 184) (off := 7) (by decide +kernel : decode (m_byt 40) 177 = .ok (.if_icmp .eq 7, 3)) rfl rfl (by decide)
theorem b_40_180 {Z : mZ} {l0 l1 l2 l3 l4 l5 l6 l7 l8 l9 l10 l11 l12 : mV} {h : mH} : m_run Z (40, 180, [l0, l1, l2, l3, l4, l5, l6, l7, l8, l9, l10, l11, l12], [], h) = some (.inl (0, 1), h) := by
  refine g_base (by decide +kernel : decode (m_byt 40) 180 = .ok (.iconst 1, 1)) rfl rfl ?_
  show m_run Z (40, 181, [l0, l1, l2, l3, l4, l5, l6, l7, l8, l9, l10, l11, l12], [(0, 1)], h) = _
  refine g_jmp (t := 185) (by decide +kernel : decode (m_byt 40) 181 = .ok (.goto 4, 3)) (by decide) ?_
  exact g_zret (by decide +kernel : decode (m_byt 40) 185 = .ok (.ireturn, 1)) (by decide +kernel) (by decide)
theorem b_40_184 {Z : mZ} {l0 l1 l2 l3 l4 l5 l6 l7 l8 l9 l10 l11 l12 : mV} {h : mH} : m_run Z (40, 184, [l0, l1, l2, l3, l4, l5, l6, l7, l8, l9, l10, l11, l12], [], h) = m_run Z (40, 185, [l0, l1, l2, l3, l4, l5, l6, l7, l8, l9, l10, l11, l12], [(0, 0)], h) := by
  refine g_base (by decide +kernel : decode (m_byt 40) 184 = .ok (.iconst 0, 1)) rfl rfl ?_
  show m_run Z (40, 185, [l0, l1, l2, l3, l4, l5, l6, l7, l8, l9, l10, l11, l12], [(0, 0)], h) = _
  rfl
theorem b_40_185 {Z : mZ} {l0 l1 l2 l3 l4 l5 l6 l7 l8 l9 l10 l11 l12 : mV} {s0 : Int} {h : mH} (h0 : w32 s0 = 0 ∨ w32 s0 = 1) : m_run Z (40, 185, [l0, l1, l2, l3, l4, l5, l6, l7, l8, l9, l10, l11, l12], [(0, s0)], h) = some (.inl (0, s0), h) := by
  exact g_zret (by decide +kernel : decode (m_byt 40) 185 = .ok (.ireturn, 1)) (by decide +kernel) h0
theorem e_41 {Z : mZ} {r0 : Nat} {x1 : Int} {x2 : Int} {h : mH} : m_cl Z 41 [(2, ((r0 : Nat) : Int)), (0, x1), (0, x2)] h = m_run Z (41, 0, [(2, ((r0 : Nat) : Int)), (0, x1), (0, x2), (9, 0), (9, 0), (9, 0), (9, 0)], [], h) := g_ent (k := 7) (by decide) (by decide +kernel) (Nat.le_of_ble_eq_true rfl) (by decide +kernel) rfl
theorem b_41_0 {Z : mZ} {l0 l1 l3 l4 l5 l6 : mV} {x2 : Int} {h : mH} : m_run Z (41, 0, [l0, l1, (0, x2), l3, l4, l5, l6], [], h) = m_run Z (41, 5, [l0, l1, (0, x2), (0, 0), (0, 0), l5, l6], [], h) := by
  refine g_base (by decide +kernel : decode (m_byt 41) 0 = .ok (.iconst 0, 1)) rfl rfl ?_
  show m_run Z (41, 1, [l0, l1, (0, x2), l3, l4, l5, l6], [(0, 0)], h) = _
  refine g_istore_n (k := 3) (by decide +kernel : decode (m_byt 41) 1 = .ok (.istore_n 3, 1)) (Nat.le_of_ble_eq_true rfl) ?_
  show m_run Z (41, 2, [l0, l1, (0, x2), (0, 0), l4, l5, l6], [], h) = _
  refine g_base (by decide +kernel : decode (m_byt 41) 2 = .ok (.iconst 0, 1)) rfl rfl ?_
  show m_run Z (41, 3, [l0, l1, (0, x2), (0, 0), l4, l5, l6], [(0, 0)], h) = _
  refine g_istore (k := 4) (by decide +kernel : decode (m_byt 41) 3 = .ok (.istore 4, 2)) (Nat.le_of_ble_eq_true rfl) ?_
  show m_run Z (41, 5, [l0, l1, (0, x2), (0, 0), (0, 0), l5, l6], [], h) = _
  rfl
theorem b_41_5 {Z : mZ} {l1 l2 l3 l5 l6 : mV} {x4 : Int} {r0 : Nat} {K : Nat → mK} {σ : Nat → Nat → Int} {n e s : Nat} (h0 : q_ob K n r0 2) : m_run Z (41, 5, [(2, ((r0 : Nat) : Int)), l1, l2, l3, (0, x4), l5, l6], [], (K, σ, n, e, s)) = if w32 (σ r0 3) ≤ w32 x4 then m_run Z (41, 69, [(2, ((r0 : Nat) : Int)), l1, l2, l3, (0, x4), l5, l6], [], (K, σ, n, e, s)) else m_run Z (41, 14, [(2, ((r0 : Nat) : Int)), l1, l2, l3, (0, x4), l5, l6], [], (K, σ, n, e, s)) := by
  refine g_iload (k := 4) (x := x4) (by decide +kernel : decode (m_byt 41) 5 = .ok (.iload 4, 2)) rfl ?_
  refine g_aload_n (k := 0) (v := (2, ((r0 : Nat) : Int))) (by decide +kernel : decode (m_byt 41) 7 = .ok (.aload_n 0, 1)) rfl (Or.inl rfl) ?_
  refine g_getf (ci := 2) (f := 3) (by decide +kernel : decode (m_byt 41) 8 = .ok (.getfield 34, 3)) (by decide +kernel) (by decide +kernel) (by decide +kernel) h0 ?_
  exact g_brq (t := 69) (off := 58) (by decide +kernel : decode (m_byt 41) 11 = .ok (.if_icmp .ge 58, 3)) rfl rfl (by decide)
theorem b_41_14 {Z : mZ} {l2 l3 l5 l6 : mV} {x1 x4 : Int} {r0 : Nat} {K : Nat → mK} {σ : Nat → Nat → Int} {n e s : Nat} (h0 : q_ob K n r0 2) (h1 : q_rp K r0 5) (h2 : q_ob K n (q_rf K r0 5) 3) : m_run Z (41, 14, [(2, ((r0 : Nat) : Int)), (0, x1), l2, l3, (0, x4), l5, l6], [], (K, σ, n, e, s)) = (m_cl Z 44 [(2, ((q_rf K r0 5 : Nat) : Int)), (0, x4)] (K, σ, n, e, s)).bind (m_aft (m_run Z) 41 22 [(2, ((r0 : Nat) : Int)), (0, x1), l2, l3, (0, x4), l5, l6] [(1, (w32 x1))]) := by
  refine g_iload_n (k := 1) (x := x1) (by decide +kernel : decode (m_byt 41) 14 = .ok (.iload_n 1, 1)) rfl ?_
  refine g_base (by decide +kernel : decode (m_byt 41) 15 = .ok (.i2l, 1)) rfl rfl ?_
  show m_run Z (41, 16, [(2, ((r0 : Nat) : Int)), (0, x1), l2, l3, (0, x4), l5, l6], [(1, (w32 x1))], (K, σ, n, e, s)) = _
  refine g_aload_n (k := 0) (v := (2, ((r0 : Nat) : Int))) (by decide +kernel : decode (m_byt 41) 16 = .ok (.aload_n 0, 1)) rfl (Or.inl rfl) ?_
  refine g_getr (ci := 2) (f := 5) (by decide +kernel : decode (m_byt 41) 17 = .ok (.getfield 20, 3)) (by decide +kernel) (by decide +kernel) (by decide +kernel) h0 h1 ?_
  refine g_iload (k := 4) (x := x4) (by decide +kernel : decode (m_byt 41) 20 = .ok (.iload 4, 2)) rfl ?_
  exact g_inv (k := 1) (m' := 44) (np := 1) (as := [(2, ((q_rf K r0 5 : Nat) : Int)), (0, x4)]) (by decide +kernel : decode (m_byt 41) 22 = .ok (.invokevirtual 88, 3)) (Or.inl ⟨rfl, rfl⟩) (by decide +kernel) (by decide +kernel) (by decide +kernel) (Nat.le_of_ble_eq_true rfl) rfl (Or.inr (g_rcv (by decide +kernel) h2))
theorem b_41_25 {Z : mZ} {l1 l2 l3 l5 l6 : mV} {s0 s1 x4 : Int} {r0 : Nat} {K : Nat → mK} {σ : Nat → Nat → Int} {n e s : Nat} (h0 : q_ob K n r0 2) (h1 : q_rp K r0 4) (h2 : q_ob K n (q_rf K r0 4) 3) : m_run Z (41, 25, [(2, ((r0 : Nat) : Int)), l1, l2, l3, (0, x4), l5, l6], [(0, s0), (1, s1)], (K, σ, n, e, s)) = (m_cl Z 44 [(2, ((q_rf K r0 4 : Nat) : Int)), (0, x4)] (K, σ, n, e, s)).bind (m_aft (m_run Z) 41 33 [(2, ((r0 : Nat) : Int)), l1, l2, l3, (0, x4), l5, l6] [(1, (s1 * (w32 s0)))]) := by
  refine g_base (by decide +kernel : decode (m_byt 41) 25 = .ok (.i2l, 1)) rfl rfl ?_
  show m_run Z (41, 26, [(2, ((r0 : Nat) : Int)), l1, l2, l3, (0, x4), l5, l6], [(1, (w32 s0)), (1, s1)], (K, σ, n, e, s)) = _
  refine g_base (by decide +kernel : decode (m_byt 41) 26 = .ok (.lmul, 1)) rfl rfl ?_
  show m_run Z (41, 27, [(2, ((r0 : Nat) : Int)), l1, l2, l3, (0, x4), l5, l6], [(1, (s1 * (w32 s0)))], (K, σ, n, e, s)) = _
  refine g_aload_n (k := 0) (v := (2, ((r0 : Nat) : Int))) (by decide +kernel : decode (m_byt 41) 27 = .ok (.aload_n 0, 1)) rfl (Or.inl rfl) ?_
  refine g_getr (ci := 2) (f := 4) (by decide +kernel : decode (m_byt 41) 28 = .ok (.getfield 14, 3)) (by decide +kernel) (by decide +kernel) (by decide +kernel) h0 h1 ?_
  refine g_iload (k := 4) (x := x4) (by decide +kernel : decode (m_byt 41) 31 = .ok (.iload 4, 2)) rfl ?_
  exact g_inv (k := 1) (m' := 44) (np := 1) (as := [(2, ((q_rf K r0 4 : Nat) : Int)), (0, x4)]) (by decide +kernel : decode (m_byt 41) 33 = .ok (.invokevirtual 88, 3)) (Or.inl ⟨rfl, rfl⟩) (by decide +kernel) (by decide +kernel) (by decide +kernel) (Nat.le_of_ble_eq_true rfl) rfl (Or.inr (g_rcv (by decide +kernel) h2))
theorem b_41_36 {Z : mZ} {l0 l1 l3 l5 l6 : mV} {s0 s1 x2 x4 : Int} {h : mH} : m_run Z (41, 36, [l0, l1, (0, x2), l3, (0, x4), l5, l6], [(0, s0), (1, s1)], h) = if w32 (l_cmp (s1 - ((w32 s0) * (w32 x2))) 0) = 0 then m_run Z (41, 50, [l0, l1, (0, x2), l3, (0, x4), (1, (s1 - ((w32 s0) * (w32 x2)))), (9, 0)], [], h) else m_run Z (41, 51, [l0, l1, (0, x2), l3, (0, x4), (1, (s1 - ((w32 s0) * (w32 x2)))), (9, 0)], [], h) := by
  refine g_base (by decide +kernel : decode (m_byt 41) 36 = .ok (.i2l, 1)) rfl rfl ?_
  show m_run Z (41, 37, [l0, l1, (0, x2), l3, (0, x4), l5, l6], [(1, (w32 s0)), (1, s1)], h) = _
  refine g_iload_n (k := 2) (x := x2) (by decide +kernel : decode (m_byt 41) 37 = .ok (.iload_n 2, 1)) rfl ?_
  refine g_base (by decide +kernel : decode (m_byt 41) 38 = .ok (.i2l, 1)) rfl rfl ?_
  show m_run Z (41, 39, [l0, l1, (0, x2), l3, (0, x4), l5, l6], [(1, (w32 x2)), (1, (w32 s0)), (1, s1)], h) = _
  refine g_base (by decide +kernel : decode (m_byt 41) 39 = .ok (.lmul, 1)) rfl rfl ?_
  show m_run Z (41, 40, [l0, l1, (0, x2), l3, (0, x4), l5, l6], [(1, ((w32 s0) * (w32 x2))), (1, s1)], h) = _
  refine g_base (by decide +kernel : decode (m_byt 41) 40 = .ok (.lsub, 1)) rfl rfl ?_
  show m_run Z (41, 41, [l0, l1, (0, x2), l3, (0, x4), l5, l6], [(1, (s1 - ((w32 s0) * (w32 x2))))], h) = _
  refine g_lstore (k := 5) (by decide +kernel : decode (m_byt 41) 41 = .ok (.lstore 5, 2)) (Nat.le_of_ble_eq_true rfl) ?_
  show m_run Z (41, 43, [l0, l1, (0, x2), l3, (0, x4), (1, (s1 - ((w32 s0) * (w32 x2)))), (9, 0)], [], h) = _
  refine g_lload (k := 5) (x := (s1 - ((w32 s0) * (w32 x2)))) (by decide +kernel : decode (m_byt 41) 43 = .ok (.lload 5, 2)) rfl ?_
  refine g_base (by decide +kernel : decode (m_byt 41) 45 = .ok (.lconst 0, 1)) rfl rfl ?_
  show m_run Z (41, 46, [l0, l1, (0, x2), l3, (0, x4), (1, (s1 - ((w32 s0) * (w32 x2)))), (9, 0)], [(1, 0), (1, (s1 - ((w32 s0) * (w32 x2))))], h) = _
  refine g_base (by decide +kernel : decode (m_byt 41) 46 = .ok (.lcmp, 1)) rfl rfl ?_
  show m_run Z (41, 47, [l0, l1, (0, x2), l3, (0, x4), (1, (s1 - ((w32 s0) * (w32 x2)))), (9, 0)], [(0, (l_cmp (s1 - ((w32 s0) * (w32 x2))) 0))], h) = _
  exact g_brn (t := 51) (off := 4) (by decide +kernel : decode (m_byt 41) 47 = .ok (.ifCond .ne 4, 3)) rfl rfl (by decide)
theorem b_41_50 {Z : mZ} {l0 l1 l2 l3 l4 l5 l6 : mV} {h : mH} : m_run Z (41, 50, [l0, l1, l2, l3, l4, l5, l6], [], h) = some (.inl (9, 0), h) := by
  exact g_vret (by decide +kernel : decode (m_byt 41) 50 = .ok (.return_, 1)) (by decide +kernel)
theorem b_41_51 {Z : mZ} {l0 l1 l2 l3 l4 l6 : mV} {x5 : Int} {h : mH} : m_run Z (41, 51, [l0, l1, l2, l3, l4, (1, x5), l6], [], h) = if w32 (l_cmp x5 0) ≤ 0 then m_run Z (41, 63, [l0, l1, l2, l3, l4, (1, x5), l6], [], h) else m_run Z (41, 58, [l0, l1, l2, l3, l4, (1, x5), l6], [], h) := by
  refine g_lload (k := 5) (x := x5) (by decide +kernel : decode (m_byt 41) 51 = .ok (.lload 5, 2)) rfl ?_
  refine g_base (by decide +kernel : decode (m_byt 41) 53 = .ok (.lconst 0, 1)) rfl rfl ?_
  show m_run Z (41, 54, [l0, l1, l2, l3, l4, (1, x5), l6], [(1, 0), (1, x5)], h) = _
  refine g_base (by decide +kernel : decode (m_byt 41) 54 = .ok (.lcmp, 1)) rfl rfl ?_
  show m_run Z (41, 55, [l0, l1, l2, l3, l4, (1, x5), l6], [(0, (l_cmp x5 0))], h) = _
  exact g_brq (t := 63) (off := 8) (by decide +kernel : decode (m_byt 41) 55 = .ok (.ifCond .le 8, 3)) rfl rfl (by decide)
theorem b_41_58 {Z : mZ} {l0 l1 l3 l5 l6 : mV} {x4 x2 : Int} {h : mH} : m_run Z (41, 58, [l0, l1, (0, x2), l3, (0, x4), l5, l6], [], h) = m_run Z (41, 63, [l0, l1, (0, x2), (0, (x4 + 1)), (0, x4), l5, l6], [], h) := by
  refine g_iload (k := 4) (x := x4) (by decide +kernel : decode (m_byt 41) 58 = .ok (.iload 4, 2)) rfl ?_
  refine g_base (by decide +kernel : decode (m_byt 41) 60 = .ok (.iconst 1, 1)) rfl rfl ?_
  show m_run Z (41, 61, [l0, l1, (0, x2), l3, (0, x4), l5, l6], [(0, 1), (0, x4)], h) = _
  refine g_base (by decide +kernel : decode (m_byt 41) 61 = .ok (.iadd, 1)) rfl rfl ?_
  show m_run Z (41, 62, [l0, l1, (0, x2), l3, (0, x4), l5, l6], [(0, (x4 + 1))], h) = _
  refine g_istore_n (k := 3) (by decide +kernel : decode (m_byt 41) 62 = .ok (.istore_n 3, 1)) (Nat.le_of_ble_eq_true rfl) ?_
  show m_run Z (41, 63, [l0, l1, (0, x2), (0, (x4 + 1)), (0, x4), l5, l6], [], h) = _
  rfl
theorem b_41_63 {Z : mZ} {l0 l1 l2 l5 l6 : mV} {x4 x3 : Int} {h : mH} : m_run Z (41, 63, [l0, l1, l2, (0, x3), (0, x4), l5, l6], [], h) = m_run Z (41, 5, [l0, l1, l2, (0, x3), (0, x4 + 1), l5, l6], [], h) := by
  refine g_iinc (k := 4) (x := x4) (by decide +kernel : decode (m_byt 41) 63 = .ok (.iinc 4 1, 3)) rfl (Nat.le_of_ble_eq_true rfl) ?_
  show m_run Z (41, 66, [l0, l1, l2, (0, x3), (0, x4 + 1), l5, l6], [], h) = _
  refine g_jmp (t := 5) (by decide +kernel : decode (m_byt 41) 66 = .ok (.goto (-61), 3)) (by decide) ?_
  rfl
theorem b_41_69 {Z : mZ} {l1 l2 l3 l4 l5 l6 : mV} {r0 : Nat} {K : Nat → mK} {σ : Nat → Nat → Int} {n e s : Nat} (h0 : q_ob K n r0 2) : m_run Z (41, 69, [(2, ((r0 : Nat) : Int)), l1, l2, l3, l4, l5, l6], [], (K, σ, n, e, s)) = if w32 122 ≤ w32 (σ r0 3) then m_run Z (41, 118, [(2, ((r0 : Nat) : Int)), l1, l2, l3, l4, l5, l6], [], (K, σ, n, e, s)) else m_run Z (41, 78, [(2, ((r0 : Nat) : Int)), l1, l2, l3, l4, l5, l6], [], (K, σ, n, e, s)) := by
  refine g_aload_n (k := 0) (v := (2, ((r0 : Nat) : Int))) (by decide +kernel : decode (m_byt 41) 69 = .ok (.aload_n 0, 1)) rfl (Or.inl rfl) ?_
  refine g_getf (ci := 2) (f := 3) (by decide +kernel : decode (m_byt 41) 70 = .ok (.getfield 34, 3)) (by decide +kernel) (by decide +kernel) (by decide +kernel) h0 ?_
  refine g_base (by decide +kernel : decode (m_byt 41) 73 = .ok (.bipush 122, 2)) rfl rfl ?_
  show m_run Z (41, 75, [(2, ((r0 : Nat) : Int)), l1, l2, l3, l4, l5, l6], [(0, 122), (0, (σ r0 3))], (K, σ, n, e, s)) = _
  exact g_brq (t := 118) (off := 43) (by decide +kernel : decode (m_byt 41) 75 = .ok (.if_icmp .ge 43, 3)) rfl rfl (by decide)
theorem b_41_78 {Z : mZ} {l2 l4 l5 l6 : mV} {x3 x1 : Int} {r0 : Nat} {K : Nat → mK} {σ : Nat → Nat → Int} {n e s : Nat} (h0 : q_ob K n r0 2) (h1 : q_rp K r0 4) : m_run Z (41, 78, [(2, ((r0 : Nat) : Int)), (0, x1), l2, (0, x3), l4, l5, l6], [], (K, σ, n, e, s)) = (m_cl Z 42 [(0, x3), (2, ((q_rf K r0 4 : Nat) : Int)), (0, x1)] (K, σ, n, e, s)).bind (m_aft (m_run Z) 41 84 [(2, ((r0 : Nat) : Int)), (0, x1), l2, (0, x3), l4, l5, l6] []) := by
  refine g_iload_n (k := 3) (x := x3) (by decide +kernel : decode (m_byt 41) 78 = .ok (.iload_n 3, 1)) rfl ?_
  refine g_aload_n (k := 0) (v := (2, ((r0 : Nat) : Int))) (by decide +kernel : decode (m_byt 41) 79 = .ok (.aload_n 0, 1)) rfl (Or.inl rfl) ?_
  refine g_getr (ci := 2) (f := 4) (by decide +kernel : decode (m_byt 41) 80 = .ok (.getfield 14, 3)) (by decide +kernel) (by decide +kernel) (by decide +kernel) h0 h1 ?_
  refine g_iload_n (k := 1) (x := x1) (by decide +kernel : decode (m_byt 41) 83 = .ok (.iload_n 1, 1)) rfl ?_
  exact g_inv (k := 0) (m' := 42) (np := 3) (as := [(0, x3), (2, ((q_rf K r0 4 : Nat) : Int)), (0, x1)]) (by decide +kernel : decode (m_byt 41) 84 = .ok (.invokestatic 91, 3)) (Or.inr (Or.inr ⟨rfl, rfl, by decide, by decide⟩)) (by decide +kernel) (by decide +kernel) (by decide +kernel) (Nat.le_of_ble_eq_true rfl) rfl (Or.inl rfl)
theorem b_41_87 {Z : mZ} {l1 l4 l5 l6 : mV} {x3 x2 : Int} {r0 : Nat} {K : Nat → mK} {σ : Nat → Nat → Int} {n e s : Nat} (h0 : q_ob K n r0 2) (h1 : q_rp K r0 5) : m_run Z (41, 87, [(2, ((r0 : Nat) : Int)), l1, (0, x2), (0, x3), l4, l5, l6], [], (K, σ, n, e, s)) = (m_cl Z 42 [(0, x3), (2, ((q_rf K r0 5 : Nat) : Int)), (0, x2)] (K, σ, n, e, s)).bind (m_aft (m_run Z) 41 93 [(2, ((r0 : Nat) : Int)), l1, (0, x2), (0, x3), l4, l5, l6] []) := by
  refine g_iload_n (k := 3) (x := x3) (by decide +kernel : decode (m_byt 41) 87 = .ok (.iload_n 3, 1)) rfl ?_
  refine g_aload_n (k := 0) (v := (2, ((r0 : Nat) : Int))) (by decide +kernel : decode (m_byt 41) 88 = .ok (.aload_n 0, 1)) rfl (Or.inl rfl) ?_
  refine g_getr (ci := 2) (f := 5) (by decide +kernel : decode (m_byt 41) 89 = .ok (.getfield 20, 3)) (by decide +kernel) (by decide +kernel) (by decide +kernel) h0 h1 ?_
  refine g_iload_n (k := 2) (x := x2) (by decide +kernel : decode (m_byt 41) 92 = .ok (.iload_n 2, 1)) rfl ?_
  exact g_inv (k := 0) (m' := 42) (np := 3) (as := [(0, x3), (2, ((q_rf K r0 5 : Nat) : Int)), (0, x2)]) (by decide +kernel : decode (m_byt 41) 93 = .ok (.invokestatic 91, 3)) (Or.inr (Or.inr ⟨rfl, rfl, by decide, by decide⟩)) (by decide +kernel) (by decide +kernel) (by decide +kernel) (Nat.le_of_ble_eq_true rfl) rfl (Or.inl rfl)
theorem b_41_96 {Z : mZ} {l1 l2 l4 l5 l6 : mV} {x3 : Int} {r0 : Nat} {K : Nat → mK} {σ : Nat → Nat → Int} {n e s : Nat} (h0 : q_ob K n r0 2) (h1 : q_rp K r0 6) : m_run Z (41, 96, [(2, ((r0 : Nat) : Int)), l1, l2, (0, x3), l4, l5, l6], [], (K, σ, n, e, s)) = (m_cl Z 42 [(0, x3), (2, ((q_rf K r0 6 : Nat) : Int)), (0, (σ r0 2))] (K, σ, n, e, s)).bind (m_aft (m_run Z) 41 105 [(2, ((r0 : Nat) : Int)), l1, l2, (0, x3), l4, l5, l6] []) := by
  refine g_iload_n (k := 3) (x := x3) (by decide +kernel : decode (m_byt 41) 96 = .ok (.iload_n 3, 1)) rfl ?_
  refine g_aload_n (k := 0) (v := (2, ((r0 : Nat) : Int))) (by decide +kernel : decode (m_byt 41) 97 = .ok (.aload_n 0, 1)) rfl (Or.inl rfl) ?_
  refine g_getr (ci := 2) (f := 6) (by decide +kernel : decode (m_byt 41) 98 = .ok (.getfield 23, 3)) (by decide +kernel) (by decide +kernel) (by decide +kernel) h0 h1 ?_
  refine g_aload_n (k := 0) (v := (2, ((r0 : Nat) : Int))) (by decide +kernel : decode (m_byt 41) 101 = .ok (.aload_n 0, 1)) rfl (Or.inl rfl) ?_
  refine g_getf (ci := 2) (f := 2) (by decide +kernel : decode (m_byt 41) 102 = .ok (.getfield 85, 3)) (by decide +kernel) (by decide +kernel) (by decide +kernel) h0 ?_
  exact g_inv (k := 0) (m' := 42) (np := 3) (as := [(0, x3), (2, ((q_rf K r0 6 : Nat) : Int)), (0, (σ r0 2))]) (by decide +kernel : decode (m_byt 41) 105 = .ok (.invokestatic 91, 3)) (Or.inr (Or.inr ⟨rfl, rfl, by decide, by decide⟩)) (by decide +kernel) (by decide +kernel) (by decide +kernel) (Nat.le_of_ble_eq_true rfl) rfl (Or.inl rfl)
theorem b_41_108 {Z : mZ} {l1 l2 l3 l4 l5 l6 : mV} {r0 : Nat} {K : Nat → mK} {σ : Nat → Nat → Int} {n e s : Nat} (h0 : q_ob K n r0 2) : m_run Z (41, 108, [(2, ((r0 : Nat) : Int)), l1, l2, l3, l4, l5, l6], [], (K, σ, n, e, s)) = m_run Z (41, 118, [(2, ((r0 : Nat) : Int)), l1, l2, l3, l4, l5, l6], [], (K, (m_up2 σ r0 3 ((σ r0 3) + 1)), n, e, s)) := by
  refine g_aload_n (k := 0) (v := (2, ((r0 : Nat) : Int))) (by decide +kernel : decode (m_byt 41) 108 = .ok (.aload_n 0, 1)) rfl (Or.inl rfl) ?_
  refine g_base (by decide +kernel : decode (m_byt 41) 109 = .ok (.dup, 1)) rfl rfl ?_
  show m_run Z (41, 110, [(2, ((r0 : Nat) : Int)), l1, l2, l3, l4, l5, l6], [(2, ((r0 : Nat) : Int)), (2, ((r0 : Nat) : Int))], (K, σ, n, e, s)) = _
  refine g_getf (ci := 2) (f := 3) (by decide +kernel : decode (m_byt 41) 110 = .ok (.getfield 34, 3)) (by decide +kernel) (by decide +kernel) (by decide +kernel) h0 ?_
  refine g_base (by decide +kernel : decode (m_byt 41) 113 = .ok (.iconst 1, 1)) rfl rfl ?_
  show m_run Z (41, 114, [(2, ((r0 : Nat) : Int)), l1, l2, l3, l4, l5, l6], [(0, 1), (0, (σ r0 3)), (2, ((r0 : Nat) : Int))], (K, σ, n, e, s)) = _
  refine g_base (by decide +kernel : decode (m_byt 41) 114 = .ok (.iadd, 1)) rfl rfl ?_
  show m_run Z (41, 115, [(2, ((r0 : Nat) : Int)), l1, l2, l3, l4, l5, l6], [(0, ((σ r0 3) + 1)), (2, ((r0 : Nat) : Int))], (K, σ, n, e, s)) = _
  refine g_putf (ci := 2) (f := 3) (by decide +kernel : decode (m_byt 41) 115 = .ok (.putfield 34, 3)) (by decide +kernel) (by decide +kernel) (by decide +kernel) h0 ?_
  show m_run Z (41, 118, [(2, ((r0 : Nat) : Int)), l1, l2, l3, l4, l5, l6], [], (K, (m_up2 σ r0 3 ((σ r0 3) + 1)), n, e, s)) = _
  rfl
theorem b_41_118 {Z : mZ} {l0 l1 l2 l3 l4 l5 l6 : mV} {h : mH} : m_run Z (41, 118, [l0, l1, l2, l3, l4, l5, l6], [], h) = some (.inl (9, 0), h) := by
  exact g_vret (by decide +kernel : decode (m_byt 41) 118 = .ok (.return_, 1)) (by decide +kernel)
theorem e_42 {Z : mZ} {x0 : Int} {r1 : Nat} {x2 : Int} {h : mH} : m_cl Z 42 [(0, x0), (2, ((r1 : Nat) : Int)), (0, x2)] h = m_run Z (42, 0, [(0, x0), (2, ((r1 : Nat) : Int)), (0, x2)], [], h) := g_ent (k := 3) (by decide) (by decide +kernel) (Nat.le_of_ble_eq_true rfl) (by decide +kernel) rfl
theorem b_42_0 {Z : mZ} {l2 : mV} {x0 : Int} {r1 : Nat} {K : Nat → mK} {σ : Nat → Nat → Int} {n e s : Nat} (h0 : q_ob K n r1 3) : m_run Z (42, 0, [(0, x0), (2, ((r1 : Nat) : Int)), l2], [], (K, σ, n, e, s)) = (m_cl Z 49 [(2, ((r1 : Nat) : Int)), (0, x0)] (K, σ, n, e, s)).bind (m_aft (m_run Z) 42 2 [(0, x0), (2, ((r1 : Nat) : Int)), l2] []) := by
  refine g_aload_n (k := 1) (v := (2, ((r1 : Nat) : Int))) (by decide +kernel : decode (m_byt 42) 0 = .ok (.aload_n 1, 1)) rfl (Or.inl rfl) ?_
  refine g_iload_n (k := 0) (x := x0) (by decide +kernel : decode (m_byt 42) 1 = .ok (.iload_n 0, 1)) rfl ?_
  exact g_inv (k := 1) (m' := 49) (np := 1) (as := [(2, ((r1 : Nat) : Int)), (0, x0)]) (by decide +kernel : decode (m_byt 42) 2 = .ok (.invokevirtual 95, 3)) (Or.inl ⟨rfl, rfl⟩) (by decide +kernel) (by decide +kernel) (by decide +kernel) (Nat.le_of_ble_eq_true rfl) rfl (Or.inr (g_rcv (by decide +kernel) h0))
theorem b_42_5 {Z : mZ} {x0 x2 : Int} {r1 : Nat} {K : Nat → mK} {σ : Nat → Nat → Int} {n e s : Nat} (h0 : q_ob K n r1 3) : m_run Z (42, 5, [(0, x0), (2, ((r1 : Nat) : Int)), (0, x2)], [], (K, σ, n, e, s)) = (m_cl Z 45 [(2, ((r1 : Nat) : Int)), (0, x0), (0, x2)] (K, σ, n, e, s)).bind (m_aft (m_run Z) 42 8 [(0, x0), (2, ((r1 : Nat) : Int)), (0, x2)] []) := by
  refine g_aload_n (k := 1) (v := (2, ((r1 : Nat) : Int))) (by decide +kernel : decode (m_byt 42) 5 = .ok (.aload_n 1, 1)) rfl (Or.inl rfl) ?_
  refine g_iload_n (k := 0) (x := x0) (by decide +kernel : decode (m_byt 42) 6 = .ok (.iload_n 0, 1)) rfl ?_
  refine g_iload_n (k := 2) (x := x2) (by decide +kernel : decode (m_byt 42) 7 = .ok (.iload_n 2, 1)) rfl ?_
  exact g_inv (k := 1) (m' := 45) (np := 2) (as := [(2, ((r1 : Nat) : Int)), (0, x0), (0, x2)]) (by decide +kernel : decode (m_byt 42) 8 = .ok (.invokevirtual 98, 3)) (Or.inl ⟨rfl, rfl⟩) (by decide +kernel) (by decide +kernel) (by decide +kernel) (Nat.le_of_ble_eq_true rfl) rfl (Or.inr (g_rcv (by decide +kernel) h0))
theorem b_42_11 {Z : mZ} {l0 l1 l2 : mV} {h : mH} : m_run Z (42, 11, [l0, l1, l2], [], h) = some (.inl (9, 0), h) := by
  exact g_vret (by decide +kernel : decode (m_byt 42) 11 = .ok (.return_, 1)) (by decide +kernel)
end
