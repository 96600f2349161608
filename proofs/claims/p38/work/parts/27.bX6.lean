section
theorem e_94 {Z : mZ} {r0 : Nat} {h h' : mH} {v : mV} (hr : m_run Z (94, 0, [(2, ((r0 : Nat) : Int)), (9, 0)], [], h) = some (.inl v, h')) : m_cl Z 94 [(2, ((r0 : Nat) : Int))] h = some (.inl v, h') := g_enti (k := 2) (by decide) (by decide +kernel) (Nat.le_of_ble_eq_true rfl) rfl hr
theorem b_94_0 {Z : mZ} {l1 : mV} {r0 : Nat} {K : Nat → mK} {σ : Nat → Nat → Int} {n s : Nat} (h0 : q_ob (m_up K n (1, 1, fun _ => -1)) (n + 1) n 1) : m_run Z (94, 0, [(2, ((r0 : Nat) : Int)), l1], [], (K, σ, n, 0, s)) = (m_cl Z 11 [(2, ((n : Nat) : Int))] ((m_up K n (1, 1, fun _ => -1)), (m_up σ n (fun _ => 0)), (n + 1), 0, s + 11)).bind (m_aft (m_run Z) 94 9 [(2, ((r0 : Nat) : Int)), l1] [(2, ((n : Nat) : Int)), (2, ((r0 : Nat) : Int))]) := by
  refine g_aload_n (k := 0) (v := (2, ((r0 : Nat) : Int))) (by decide +kernel : decode (m_byt 94) 0 = .ok (.aload_n 0, 1)) rfl (Or.inl rfl) ?_
  refine g_obj (r := r0) (by decide +kernel : decode (m_byt 94) 1 = .ok (.invokespecial 3, 3)) (by decide +kernel) (by decide +kernel) (Nat.le_of_ble_eq_true rfl) ?_
  refine g_aload_n (k := 0) (v := (2, ((r0 : Nat) : Int))) (by decide +kernel : decode (m_byt 94) 4 = .ok (.aload_n 0, 1)) rfl (Or.inl rfl) ?_
  refine g_new (ci := 1) (by decide +kernel : decode (m_byt 94) 5 = .ok (.new 9, 3)) (by decide +kernel) (by decide) ?_
  show m_run Z (94, 8, [(2, ((r0 : Nat) : Int)), l1], [(2, ((n : Nat) : Int)), (2, ((r0 : Nat) : Int))], ((m_up K n (1, 1, fun _ => -1)), (m_up σ n (fun _ => 0)), (n + 1), 0, s + 11)) = _
  refine g_base (by decide +kernel : decode (m_byt 94) 8 = .ok (.dup, 1)) rfl rfl ?_
  show m_run Z (94, 9, [(2, ((r0 : Nat) : Int)), l1], [(2, ((n : Nat) : Int)), (2, ((n : Nat) : Int)), (2, ((r0 : Nat) : Int))], ((m_up K n (1, 1, fun _ => -1)), (m_up σ n (fun _ => 0)), (n + 1), 0, s + 11)) = _
  exact g_inv (k := 2) (m' := 11) (np := 0) (as := [(2, ((n : Nat) : Int))]) (by decide +kernel : decode (m_byt 94) 9 = .ok (.invokespecial 11, 3)) (Or.inr (Or.inl ⟨rfl, rfl, by decide⟩)) (by decide +kernel) (by decide +kernel) (by decide +kernel) (Nat.le_of_ble_eq_true rfl) rfl (Or.inr (g_rcv (by decide +kernel) h0))
theorem b_94_12 {Z : mZ} {l1 : mV} {s0 s1 r0 : Nat} {K : Nat → mK} {σ : Nat → Nat → Int} {n s : Nat} (h0 : q_ob K n s1 6) (h1 : ((s0 : Nat) : Int) < ((n : Nat) : Int)) (h2 : q_ob (m_up (q_pf K s1 6 0 ((s0 : Nat) : Int)) n (1, 1, fun _ => -1)) (n + 1) n 1) : m_run Z (94, 12, [(2, ((r0 : Nat) : Int)), l1], [(2, ((s0 : Nat) : Int)), (2, ((s1 : Nat) : Int))], (K, σ, n, 0, s)) = (m_cl Z 11 [(2, ((n : Nat) : Int))] ((m_up (q_pf K s1 6 0 ((s0 : Nat) : Int)) n (1, 1, fun _ => -1)), (m_up σ n (fun _ => 0)), (n + 1), 0, s + 11)).bind (m_aft (m_run Z) 94 20 [(2, ((r0 : Nat) : Int)), l1] [(2, ((n : Nat) : Int)), (2, ((r0 : Nat) : Int))]) := by
  refine g_putr (ci := 6) (f := 0) (by decide +kernel : decode (m_byt 94) 12 = .ok (.putfield 12, 3)) (by decide +kernel) (by decide +kernel) (by decide +kernel) (by decide +kernel) (by decide +kernel) h0 h1 ?_
  show m_run Z (94, 15, [(2, ((r0 : Nat) : Int)), l1], [], ((q_pf K s1 6 0 ((s0 : Nat) : Int)), σ, n, 0, s)) = _
  refine g_aload_n (k := 0) (v := (2, ((r0 : Nat) : Int))) (by decide +kernel : decode (m_byt 94) 15 = .ok (.aload_n 0, 1)) rfl (Or.inl rfl) ?_
  refine g_new (ci := 1) (by decide +kernel : decode (m_byt 94) 16 = .ok (.new 9, 3)) (by decide +kernel) (by decide) ?_
  show m_run Z (94, 19, [(2, ((r0 : Nat) : Int)), l1], [(2, ((n : Nat) : Int)), (2, ((r0 : Nat) : Int))], ((m_up (q_pf K s1 6 0 ((s0 : Nat) : Int)) n (1, 1, fun _ => -1)), (m_up σ n (fun _ => 0)), (n + 1), 0, s + 11)) = _
  refine g_base (by decide +kernel : decode (m_byt 94) 19 = .ok (.dup, 1)) rfl rfl ?_
  show m_run Z (94, 20, [(2, ((r0 : Nat) : Int)), l1], [(2, ((n : Nat) : Int)), (2, ((n : Nat) : Int)), (2, ((r0 : Nat) : Int))], ((m_up (q_pf K s1 6 0 ((s0 : Nat) : Int)) n (1, 1, fun _ => -1)), (m_up σ n (fun _ => 0)), (n + 1), 0, s + 11)) = _
  exact g_inv (k := 2) (m' := 11) (np := 0) (as := [(2, ((n : Nat) : Int))]) (by decide +kernel : decode (m_byt 94) 20 = .ok (.invokespecial 11, 3)) (Or.inr (Or.inl ⟨rfl, rfl, by decide⟩)) (by decide +kernel) (by decide +kernel) (by decide +kernel) (Nat.le_of_ble_eq_true rfl) rfl (Or.inr (g_rcv (by decide +kernel) h2))
theorem b_94_23 {Z : mZ} {l1 : mV} {s0 s1 r0 : Nat} {K : Nat → mK} {σ : Nat → Nat → Int} {n s : Nat} (h0 : q_ob K n s1 6) (h1 : ((s0 : Nat) : Int) < ((n : Nat) : Int)) (h2 : 0 ≤ w32 6) (h3 : w32 6 ≤ 100000) (h4 : q_ob (m_up (q_pf K s1 6 1 ((s0 : Nat) : Int)) n (4, (w32 6).toNat, fun _ => -1)) (n + 1) r0 6) : m_run Z (94, 23, [(2, ((r0 : Nat) : Int)), l1], [(2, ((s0 : Nat) : Int)), (2, ((s1 : Nat) : Int))], (K, σ, n, 0, s)) = m_run Z (94, 37, [(2, ((r0 : Nat) : Int)), (0, 0)], [], ((q_pf (m_up (q_pf K s1 6 1 ((s0 : Nat) : Int)) n (4, (w32 6).toNat, fun _ => -1)) r0 6 2 ((n : Nat) : Int)), (m_up σ n (fun _ => 0)), (n + 1), 0, s + (w32 6).toNat)) := by
  refine g_putr (ci := 6) (f := 1) (by decide +kernel : decode (m_byt 94) 23 = .ok (.putfield 16, 3)) (by decide +kernel) (by decide +kernel) (by decide +kernel) (by decide +kernel) (by decide +kernel) h0 h1 ?_
  show m_run Z (94, 26, [(2, ((r0 : Nat) : Int)), l1], [], ((q_pf K s1 6 1 ((s0 : Nat) : Int)), σ, n, 0, s)) = _
  refine g_aload_n (k := 0) (v := (2, ((r0 : Nat) : Int))) (by decide +kernel : decode (m_byt 94) 26 = .ok (.aload_n 0, 1)) rfl (Or.inl rfl) ?_
  refine g_base (by decide +kernel : decode (m_byt 94) 27 = .ok (.bipush 6, 2)) rfl rfl ?_
  show m_run Z (94, 29, [(2, ((r0 : Nat) : Int)), l1], [(0, 6), (2, ((r0 : Nat) : Int))], ((q_pf K s1 6 1 ((s0 : Nat) : Int)), σ, n, 0, s)) = _
  refine g_newq (by decide +kernel : decode (m_byt 94) 29 = .ok (.anewarray 9, 3)) (by decide +kernel) h2 h3 ?_
  show m_run Z (94, 32, [(2, ((r0 : Nat) : Int)), l1], [(2, ((n : Nat) : Int)), (2, ((r0 : Nat) : Int))], ((m_up (q_pf K s1 6 1 ((s0 : Nat) : Int)) n (4, (w32 6).toNat, fun _ => -1)), (m_up σ n (fun _ => 0)), (n + 1), 0, s + (w32 6).toNat)) = _
  refine g_putr (ci := 6) (f := 2) (by decide +kernel : decode (m_byt 94) 32 = .ok (.putfield 19, 3)) (by decide +kernel) (by decide +kernel) (by decide +kernel) (by decide +kernel) (by decide +kernel) h4 (by omega) ?_
  show m_run Z (94, 35, [(2, ((r0 : Nat) : Int)), l1], [], ((q_pf (m_up (q_pf K s1 6 1 ((s0 : Nat) : Int)) n (4, (w32 6).toNat, fun _ => -1)) r0 6 2 ((n : Nat) : Int)), (m_up σ n (fun _ => 0)), (n + 1), 0, s + (w32 6).toNat)) = _
  refine g_base (by decide +kernel : decode (m_byt 94) 35 = .ok (.iconst 0, 1)) rfl rfl ?_
  show m_run Z (94, 36, [(2, ((r0 : Nat) : Int)), l1], [(0, 0)], ((q_pf (m_up (q_pf K s1 6 1 ((s0 : Nat) : Int)) n (4, (w32 6).toNat, fun _ => -1)) r0 6 2 ((n : Nat) : Int)), (m_up σ n (fun _ => 0)), (n + 1), 0, s + (w32 6).toNat)) = _
  refine g_istore_n (k := 1) (by decide +kernel : decode (m_byt 94) 36 = .ok (.istore_n 1, 1)) (Nat.le_of_ble_eq_true rfl) ?_
  show m_run Z (94, 37, [(2, ((r0 : Nat) : Int)), (0, 0)], [], ((q_pf (m_up (q_pf K s1 6 1 ((s0 : Nat) : Int)) n (4, (w32 6).toNat, fun _ => -1)) r0 6 2 ((n : Nat) : Int)), (m_up σ n (fun _ => 0)), (n + 1), 0, s + (w32 6).toNat)) = _
  rfl
theorem b_94_37 {Z : mZ} {x1 : Int} {r0 : Nat} {K : Nat → mK} {σ : Nat → Nat → Int} {n e s : Nat} (h0 : q_ob K n r0 6) (h1 : q_rp K r0 2) (h2 : q_al K n (q_rf K r0 2)) : m_run Z (94, 37, [(2, ((r0 : Nat) : Int)), (0, x1)], [], (K, σ, n, e, s)) = if w32 (q_ln K (q_rf K r0 2) : Int) ≤ w32 x1 then m_run Z (94, 65, [(2, ((r0 : Nat) : Int)), (0, x1)], [], (K, σ, n, e, s)) else m_run Z (94, 46, [(2, ((r0 : Nat) : Int)), (0, x1)], [], (K, σ, n, e, s)) := by
  refine g_iload_n (k := 1) (x := x1) (by decide +kernel : decode (m_byt 94) 37 = .ok (.iload_n 1, 1)) rfl ?_
  refine g_aload_n (k := 0) (v := (2, ((r0 : Nat) : Int))) (by decide +kernel : decode (m_byt 94) 38 = .ok (.aload_n 0, 1)) rfl (Or.inl rfl) ?_
  refine g_getr (ci := 6) (f := 2) (by decide +kernel : decode (m_byt 94) 39 = .ok (.getfield 19, 3)) (by decide +kernel) (by decide +kernel) (by decide +kernel) h0 h1 ?_
  refine g_alen (by decide +kernel : decode (m_byt 94) 42 = .ok (.arraylength, 1)) h2 ?_
  exact g_brq (t := 65) (off := 22) (by decide +kernel : decode (m_byt 94) 43 = .ok (.if_icmp .ge 22, 3)) rfl rfl (by decide)
theorem b_94_46 {Z : mZ} {x1 : Int} {r0 : Nat} {K : Nat → mK} {σ : Nat → Nat → Int} {n s : Nat} (h0 : q_ob K n r0 6) (h1 : q_rp K r0 2) (h2 : q_ob (m_up K n (1, 1, fun _ => -1)) (n + 1) n 1) : m_run Z (94, 46, [(2, ((r0 : Nat) : Int)), (0, x1)], [], (K, σ, n, 0, s)) = (m_cl Z 11 [(2, ((n : Nat) : Int))] ((m_up K n (1, 1, fun _ => -1)), (m_up σ n (fun _ => 0)), (n + 1), 0, s + 11)).bind (m_aft (m_run Z) 94 55 [(2, ((r0 : Nat) : Int)), (0, x1)] [(2, ((n : Nat) : Int)), (0, x1), (2, ((q_rf K r0 2 : Nat) : Int))]) := by
  refine g_aload_n (k := 0) (v := (2, ((r0 : Nat) : Int))) (by decide +kernel : decode (m_byt 94) 46 = .ok (.aload_n 0, 1)) rfl (Or.inl rfl) ?_
  refine g_getr (ci := 6) (f := 2) (by decide +kernel : decode (m_byt 94) 47 = .ok (.getfield 19, 3)) (by decide +kernel) (by decide +kernel) (by decide +kernel) h0 h1 ?_
  refine g_iload_n (k := 1) (x := x1) (by decide +kernel : decode (m_byt 94) 50 = .ok (.iload_n 1, 1)) rfl ?_
  refine g_new (ci := 1) (by decide +kernel : decode (m_byt 94) 51 = .ok (.new 9, 3)) (by decide +kernel) (by decide) ?_
  show m_run Z (94, 54, [(2, ((r0 : Nat) : Int)), (0, x1)], [(2, ((n : Nat) : Int)), (0, x1), (2, ((q_rf K r0 2 : Nat) : Int))], ((m_up K n (1, 1, fun _ => -1)), (m_up σ n (fun _ => 0)), (n + 1), 0, s + 11)) = _
  refine g_base (by decide +kernel : decode (m_byt 94) 54 = .ok (.dup, 1)) rfl rfl ?_
  show m_run Z (94, 55, [(2, ((r0 : Nat) : Int)), (0, x1)], [(2, ((n : Nat) : Int)), (2, ((n : Nat) : Int)), (0, x1), (2, ((q_rf K r0 2 : Nat) : Int))], ((m_up K n (1, 1, fun _ => -1)), (m_up σ n (fun _ => 0)), (n + 1), 0, s + 11)) = _
  exact g_inv (k := 2) (m' := 11) (np := 0) (as := [(2, ((n : Nat) : Int))]) (by decide +kernel : decode (m_byt 94) 55 = .ok (.invokespecial 11, 3)) (Or.inr (Or.inl ⟨rfl, rfl, by decide⟩)) (by decide +kernel) (by decide +kernel) (by decide +kernel) (Nat.le_of_ble_eq_true rfl) rfl (Or.inr (g_rcv (by decide +kernel) h2))
theorem b_94_58 {Z : mZ} {s1 x1 : Int} {s0 s2 r0 : Nat} {K : Nat → mK} {σ : Nat → Nat → Int} {n e s : Nat} (h0 : 0 ≤ w32 s1) (h1 : w32 s1 < (q_ln K s2 : Int)) (h2 : q_ak K n s2 4) (h3 : q_ob K n s0 1) : m_run Z (94, 58, [(2, ((r0 : Nat) : Int)), (0, x1)], [(2, ((s0 : Nat) : Int)), (0, s1), (2, ((s2 : Nat) : Int))], (K, σ, n, e, s)) = m_run Z (94, 37, [(2, ((r0 : Nat) : Int)), (0, x1 + 1)], [], ((q_pa K s2 (w32 s1).toNat ((s0 : Nat) : Int)), σ, n, e, s)) := by
  refine g_aast (v := s0) (by decide +kernel : decode (m_byt 94) 58 = .ok (.aastore, 1)) h2 h0 h1 h3 ?_
  show m_run Z (94, 59, [(2, ((r0 : Nat) : Int)), (0, x1)], [], ((q_pa K s2 (w32 s1).toNat ((s0 : Nat) : Int)), σ, n, e, s)) = _
  refine g_iinc (k := 1) (x := x1) (by decide +kernel : decode (m_byt 94) 59 = .ok (.iinc 1 1, 3)) rfl (Nat.le_of_ble_eq_true rfl) ?_
  show m_run Z (94, 62, [(2, ((r0 : Nat) : Int)), (0, x1 + 1)], [], ((q_pa K s2 (w32 s1).toNat ((s0 : Nat) : Int)), σ, n, e, s)) = _
  refine g_jmp (t := 37) (by decide +kernel : decode (m_byt 94) 62 = .ok (.goto (-25), 3)) (by decide) ?_
  rfl
theorem b_94_65 {Z : mZ} {l1 : mV} {r0 : Nat} {K : Nat → mK} {σ : Nat → Nat → Int} {n s : Nat} (h0 : q_ob (m_up K n (1, 5, fun _ => -1)) (n + 1) n 5) : m_run Z (94, 65, [(2, ((r0 : Nat) : Int)), l1], [], (K, σ, n, 0, s)) = (m_cl Z 64 [(2, ((n : Nat) : Int))] ((m_up K n (1, 5, fun _ => -1)), (m_up σ n (fun _ => 0)), (n + 1), 0, s + 17)).bind (m_aft (m_run Z) 94 70 [(2, ((r0 : Nat) : Int)), l1] [(2, ((n : Nat) : Int)), (2, ((r0 : Nat) : Int))]) := by
  refine g_aload_n (k := 0) (v := (2, ((r0 : Nat) : Int))) (by decide +kernel : decode (m_byt 94) 65 = .ok (.aload_n 0, 1)) rfl (Or.inl rfl) ?_
  refine g_new (ci := 5) (by decide +kernel : decode (m_byt 94) 66 = .ok (.new 23, 3)) (by decide +kernel) (by decide) ?_
  show m_run Z (94, 69, [(2, ((r0 : Nat) : Int)), l1], [(2, ((n : Nat) : Int)), (2, ((r0 : Nat) : Int))], ((m_up K n (1, 5, fun _ => -1)), (m_up σ n (fun _ => 0)), (n + 1), 0, s + 17)) = _
  refine g_base (by decide +kernel : decode (m_byt 94) 69 = .ok (.dup, 1)) rfl rfl ?_
  show m_run Z (94, 70, [(2, ((r0 : Nat) : Int)), l1], [(2, ((n : Nat) : Int)), (2, ((n : Nat) : Int)), (2, ((r0 : Nat) : Int))], ((m_up K n (1, 5, fun _ => -1)), (m_up σ n (fun _ => 0)), (n + 1), 0, s + 17)) = _
  exact g_inv (k := 2) (m' := 64) (np := 0) (as := [(2, ((n : Nat) : Int))]) (by decide +kernel : decode (m_byt 94) 70 = .ok (.invokespecial 25, 3)) (Or.inr (Or.inl ⟨rfl, rfl, by decide⟩)) (by decide +kernel) (by decide +kernel) (by decide +kernel) (Nat.le_of_ble_eq_true rfl) rfl (Or.inr (g_rcv (by decide +kernel) h0))
theorem b_94_73 {Z : mZ} {l1 : mV} {s0 s1 r0 : Nat} {K : Nat → mK} {σ : Nat → Nat → Int} {n s : Nat} (h0 : q_ob K n s1 6) (h1 : ((s0 : Nat) : Int) < ((n : Nat) : Int)) (h2 : q_ob (m_up (q_pf K s1 6 4 ((s0 : Nat) : Int)) n (1, 2, fun _ => -1)) (n + 1) r0 6) (h3 : q_rp (m_up (q_pf K s1 6 4 ((s0 : Nat) : Int)) n (1, 2, fun _ => -1)) r0 4) (h4 : q_ob (m_up (q_pf K s1 6 4 ((s0 : Nat) : Int)) n (1, 2, fun _ => -1)) (n + 1) n 2) : m_run Z (94, 73, [(2, ((r0 : Nat) : Int)), l1], [(2, ((s0 : Nat) : Int)), (2, ((s1 : Nat) : Int))], (K, σ, n, 0, s)) = (m_cl Z 34 [(2, ((n : Nat) : Int)), (2, ((q_rf (m_up (q_pf K s1 6 4 ((s0 : Nat) : Int)) n (1, 2, fun _ => -1)) r0 4 : Nat) : Int))] ((m_up (q_pf K s1 6 4 ((s0 : Nat) : Int)) n (1, 2, fun _ => -1)), (m_up σ n (fun _ => 0)), (n + 1), 0, s + 7)).bind (m_aft (m_run Z) 94 85 [(2, ((r0 : Nat) : Int)), l1] [(2, ((n : Nat) : Int)), (2, ((r0 : Nat) : Int))]) := by
  refine g_putr (ci := 6) (f := 4) (by decide +kernel : decode (m_byt 94) 73 = .ok (.putfield 26, 3)) (by decide +kernel) (by decide +kernel) (by decide +kernel) (by decide +kernel) (by decide +kernel) h0 h1 ?_
  show m_run Z (94, 76, [(2, ((r0 : Nat) : Int)), l1], [], ((q_pf K s1 6 4 ((s0 : Nat) : Int)), σ, n, 0, s)) = _
  refine g_aload_n (k := 0) (v := (2, ((r0 : Nat) : Int))) (by decide +kernel : decode (m_byt 94) 76 = .ok (.aload_n 0, 1)) rfl (Or.inl rfl) ?_
  refine g_new (ci := 2) (by decide +kernel : decode (m_byt 94) 77 = .ok (.new 30, 3)) (by decide +kernel) (by decide) ?_
  show m_run Z (94, 80, [(2, ((r0 : Nat) : Int)), l1], [(2, ((n : Nat) : Int)), (2, ((r0 : Nat) : Int))], ((m_up (q_pf K s1 6 4 ((s0 : Nat) : Int)) n (1, 2, fun _ => -1)), (m_up σ n (fun _ => 0)), (n + 1), 0, s + 7)) = _
  refine g_base (by decide +kernel : decode (m_byt 94) 80 = .ok (.dup, 1)) rfl rfl ?_
  show m_run Z (94, 81, [(2, ((r0 : Nat) : Int)), l1], [(2, ((n : Nat) : Int)), (2, ((n : Nat) : Int)), (2, ((r0 : Nat) : Int))], ((m_up (q_pf K s1 6 4 ((s0 : Nat) : Int)) n (1, 2, fun _ => -1)), (m_up σ n (fun _ => 0)), (n + 1), 0, s + 7)) = _
  refine g_aload_n (k := 0) (v := (2, ((r0 : Nat) : Int))) (by decide +kernel : decode (m_byt 94) 81 = .ok (.aload_n 0, 1)) rfl (Or.inl rfl) ?_
  refine g_getr (ci := 6) (f := 4) (by decide +kernel : decode (m_byt 94) 82 = .ok (.getfield 26, 3)) (by decide +kernel) (by decide +kernel) (by decide +kernel) h2 h3 ?_
  exact g_inv (k := 2) (m' := 34) (np := 1) (as := [(2, ((n : Nat) : Int)), (2, ((q_rf (m_up (q_pf K s1 6 4 ((s0 : Nat) : Int)) n (1, 2, fun _ => -1)) r0 4 : Nat) : Int))]) (by decide +kernel : decode (m_byt 94) 85 = .ok (.invokespecial 32, 3)) (Or.inr (Or.inl ⟨rfl, rfl, by decide⟩)) (by decide +kernel) (by decide +kernel) (by decide +kernel) (Nat.le_of_ble_eq_true rfl) rfl (Or.inr (g_rcv (by decide +kernel) h4))
theorem b_94_88 {Z : mZ} {l1 : mV} {s0 s1 r0 : Nat} {K : Nat → mK} {σ : Nat → Nat → Int} {n s : Nat} (h0 : q_ob K n s1 6) (h1 : ((s0 : Nat) : Int) < ((n : Nat) : Int)) (h2 : q_ob (m_up (q_pf K s1 6 5 ((s0 : Nat) : Int)) n (1, 0, fun _ => -1)) (n + 1) r0 6) (h3 : q_rp (m_up (q_pf K s1 6 5 ((s0 : Nat) : Int)) n (1, 0, fun _ => -1)) r0 4) (h4 : q_ob (m_up (q_pf K s1 6 5 ((s0 : Nat) : Int)) n (1, 0, fun _ => -1)) (n + 1) n 0) : m_run Z (94, 88, [(2, ((r0 : Nat) : Int)), l1], [(2, ((s0 : Nat) : Int)), (2, ((s1 : Nat) : Int))], (K, σ, n, 0, s)) = (m_cl Z 0 [(2, ((n : Nat) : Int)), (2, ((q_rf (m_up (q_pf K s1 6 5 ((s0 : Nat) : Int)) n (1, 0, fun _ => -1)) r0 4 : Nat) : Int))] ((m_up (q_pf K s1 6 5 ((s0 : Nat) : Int)) n (1, 0, fun _ => -1)), (m_up σ n (fun _ => 0)), (n + 1), 0, s + 7)).bind (m_aft (m_run Z) 94 100 [(2, ((r0 : Nat) : Int)), l1] [(2, ((n : Nat) : Int)), (2, ((r0 : Nat) : Int))]) := by
  refine g_putr (ci := 6) (f := 5) (by decide +kernel : decode (m_byt 94) 88 = .ok (.putfield 35, 3)) (by decide +kernel) (by decide +kernel) (by decide +kernel) (by decide +kernel) (by decide +kernel) h0 h1 ?_
  show m_run Z (94, 91, [(2, ((r0 : Nat) : Int)), l1], [], ((q_pf K s1 6 5 ((s0 : Nat) : Int)), σ, n, 0, s)) = _
  refine g_aload_n (k := 0) (v := (2, ((r0 : Nat) : Int))) (by decide +kernel : decode (m_byt 94) 91 = .ok (.aload_n 0, 1)) rfl (Or.inl rfl) ?_
  refine g_new (ci := 0) (by decide +kernel : decode (m_byt 94) 92 = .ok (.new 39, 3)) (by decide +kernel) (by decide) ?_
  show m_run Z (94, 95, [(2, ((r0 : Nat) : Int)), l1], [(2, ((n : Nat) : Int)), (2, ((r0 : Nat) : Int))], ((m_up (q_pf K s1 6 5 ((s0 : Nat) : Int)) n (1, 0, fun _ => -1)), (m_up σ n (fun _ => 0)), (n + 1), 0, s + 7)) = _
  refine g_base (by decide +kernel : decode (m_byt 94) 95 = .ok (.dup, 1)) rfl rfl ?_
  show m_run Z (94, 96, [(2, ((r0 : Nat) : Int)), l1], [(2, ((n : Nat) : Int)), (2, ((n : Nat) : Int)), (2, ((r0 : Nat) : Int))], ((m_up (q_pf K s1 6 5 ((s0 : Nat) : Int)) n (1, 0, fun _ => -1)), (m_up σ n (fun _ => 0)), (n + 1), 0, s + 7)) = _
  refine g_aload_n (k := 0) (v := (2, ((r0 : Nat) : Int))) (by decide +kernel : decode (m_byt 94) 96 = .ok (.aload_n 0, 1)) rfl (Or.inl rfl) ?_
  refine g_getr (ci := 6) (f := 4) (by decide +kernel : decode (m_byt 94) 97 = .ok (.getfield 26, 3)) (by decide +kernel) (by decide +kernel) (by decide +kernel) h2 h3 ?_
  exact g_inv (k := 2) (m' := 0) (np := 1) (as := [(2, ((n : Nat) : Int)), (2, ((q_rf (m_up (q_pf K s1 6 5 ((s0 : Nat) : Int)) n (1, 0, fun _ => -1)) r0 4 : Nat) : Int))]) (by decide +kernel : decode (m_byt 94) 100 = .ok (.invokespecial 41, 3)) (Or.inr (Or.inl ⟨rfl, rfl, by decide⟩)) (by decide +kernel) (by decide +kernel) (by decide +kernel) (Nat.le_of_ble_eq_true rfl) rfl (Or.inr (g_rcv (by decide +kernel) h4))
theorem b_94_103 {Z : mZ} {l1 : mV} {s0 s1 r0 : Nat} {K : Nat → mK} {σ : Nat → Nat → Int} {n s : Nat} (h0 : q_ob K n s1 6) (h1 : ((s0 : Nat) : Int) < ((n : Nat) : Int)) (h2 : q_ob (m_up (q_pf K s1 6 6 ((s0 : Nat) : Int)) n (1, 4, fun _ => -1)) (n + 1) n 4) : m_run Z (94, 103, [(2, ((r0 : Nat) : Int)), l1], [(2, ((s0 : Nat) : Int)), (2, ((s1 : Nat) : Int))], (K, σ, n, 0, s)) = (m_cl Z 51 [(2, ((n : Nat) : Int))] ((m_up (q_pf K s1 6 6 ((s0 : Nat) : Int)) n (1, 4, fun _ => -1)), (m_up σ n (fun _ => 0)), (n + 1), 0, s + 6)).bind (m_aft (m_run Z) 94 111 [(2, ((r0 : Nat) : Int)), l1] [(2, ((n : Nat) : Int)), (2, ((r0 : Nat) : Int))]) := by
  refine g_putr (ci := 6) (f := 6) (by decide +kernel : decode (m_byt 94) 103 = .ok (.putfield 42, 3)) (by decide +kernel) (by decide +kernel) (by decide +kernel) (by decide +kernel) (by decide +kernel) h0 h1 ?_
  show m_run Z (94, 106, [(2, ((r0 : Nat) : Int)), l1], [], ((q_pf K s1 6 6 ((s0 : Nat) : Int)), σ, n, 0, s)) = _
  refine g_aload_n (k := 0) (v := (2, ((r0 : Nat) : Int))) (by decide +kernel : decode (m_byt 94) 106 = .ok (.aload_n 0, 1)) rfl (Or.inl rfl) ?_
  refine g_new (ci := 4) (by decide +kernel : decode (m_byt 94) 107 = .ok (.new 46, 3)) (by decide +kernel) (by decide) ?_
  show m_run Z (94, 110, [(2, ((r0 : Nat) : Int)), l1], [(2, ((n : Nat) : Int)), (2, ((r0 : Nat) : Int))], ((m_up (q_pf K s1 6 6 ((s0 : Nat) : Int)) n (1, 4, fun _ => -1)), (m_up σ n (fun _ => 0)), (n + 1), 0, s + 6)) = _
  refine g_base (by decide +kernel : decode (m_byt 94) 110 = .ok (.dup, 1)) rfl rfl ?_
  show m_run Z (94, 111, [(2, ((r0 : Nat) : Int)), l1], [(2, ((n : Nat) : Int)), (2, ((n : Nat) : Int)), (2, ((r0 : Nat) : Int))], ((m_up (q_pf K s1 6 6 ((s0 : Nat) : Int)) n (1, 4, fun _ => -1)), (m_up σ n (fun _ => 0)), (n + 1), 0, s + 6)) = _
  exact g_inv (k := 2) (m' := 51) (np := 0) (as := [(2, ((n : Nat) : Int))]) (by decide +kernel : decode (m_byt 94) 111 = .ok (.invokespecial 48, 3)) (Or.inr (Or.inl ⟨rfl, rfl, by decide⟩)) (by decide +kernel) (by decide +kernel) (by decide +kernel) (Nat.le_of_ble_eq_true rfl) rfl (Or.inr (g_rcv (by decide +kernel) h2))
theorem b_94_114 {Z : mZ} {l0 l1 : mV} {s0 s1 : Nat} {K : Nat → mK} {σ : Nat → Nat → Int} {n e s : Nat} (h0 : q_ob K n s1 6) (h1 : ((s0 : Nat) : Int) < ((n : Nat) : Int)) : m_run Z (94, 114, [l0, l1], [(2, ((s0 : Nat) : Int)), (2, ((s1 : Nat) : Int))], (K, σ, n, e, s)) = some (.inl (9, 0), ((q_pf K s1 6 7 ((s0 : Nat) : Int)), σ, n, e, s)) := by
  refine g_putr (ci := 6) (f := 7) (by decide +kernel : decode (m_byt 94) 114 = .ok (.putfield 49, 3)) (by decide +kernel) (by decide +kernel) (by decide +kernel) (by decide +kernel) (by decide +kernel) h0 h1 ?_
  show m_run Z (94, 117, [l0, l1], [], ((q_pf K s1 6 7 ((s0 : Nat) : Int)), σ, n, e, s)) = _
  exact g_vret (by decide +kernel : decode (m_byt 94) 117 = .ok (.return_, 1)) (by decide +kernel)
theorem e_95 {Z : mZ} {r0 : Nat} {x1 : Int} {h : mH} : m_cl Z 95 [(2, ((r0 : Nat) : Int)), (0, x1)] h = m_run Z (95, 0, [(2, ((r0 : Nat) : Int)), (0, x1), (9, 0)], [], h) := g_ent (k := 3) (by decide) (by decide +kernel) (Nat.le_of_ble_eq_true rfl) (by decide +kernel) rfl
theorem b_95_0 {Z : mZ} {l0 l2 : mV} {x1 : Int} {h : mH} : m_run Z (95, 0, [l0, (0, x1), l2], [], h) = if w32 x1 < w32 1 then m_run Z (95, 15, [l0, (0, x1), l2], [], h) else m_run Z (95, 5, [l0, (0, x1), l2], [], h) := by
  refine g_iload_n (k := 1) (x := x1) (by decide +kernel : decode (m_byt 95) 0 = .ok (.iload_n 1, 1)) rfl ?_
  refine g_base (by decide +kernel : decode (m_byt 95) 1 = .ok (.iconst 1, 1)) rfl rfl ?_
  show m_run Z (95, 2, [l0, (0, x1), l2], [(0, 1), (0, x1)], h) = _
  exact g_brq (t := 15) (off := 13) (by decide +kernel : decode (m_byt 95) 2 = .ok (.if_icmp .lt 13, 3)) rfl rfl (by decide)
theorem b_95_5 {Z : mZ} {l0 l2 : mV} {x1 : Int} {h : mH} : m_run Z (95, 5, [l0, (0, x1), l2], [], h) = if w32 8 < w32 x1 then m_run Z (95, 15, [l0, (0, x1), l2], [], h) else m_run Z (95, 11, [l0, (0, x1), l2], [], h) := by
  refine g_iload_n (k := 1) (x := x1) (by decide +kernel : decode (m_byt 95) 5 = .ok (.iload_n 1, 1)) rfl ?_
  refine g_base (by decide +kernel : decode (m_byt 95) 6 = .ok (.bipush 8, 2)) rfl rfl ?_
  show m_run Z (95, 8, [l0, (0, x1), l2], [(0, 8), (0, x1)], h) = _
  exact g_brq (t := 15) (off := 7) (by decide +kernel : decode (m_byt 95) 8 = .ok (.if_icmp .gt 7, 3)) rfl rfl (by decide)
theorem b_95_11 {Z : mZ} {l0 l1 l2 : mV} {h : mH} : m_run Z (95, 11, [l0, l1, l2], [], h) = (m_cl Z 1001 [(0, 1)] h).bind (m_aft (m_run Z) 95 16 [l0, l1, l2] []) := by
  refine g_base (by decide +kernel : decode (m_byt 95) 11 = .ok (.iconst 1, 1)) rfl rfl ?_
  show m_run Z (95, 12, [l0, l1, l2], [(0, 1)], h) = _
  refine g_jmp (t := 16) (by decide +kernel : decode (m_byt 95) 12 = .ok (.goto 4, 3)) (by decide) ?_
  exact g_inv (k := 0) (m' := 1001) (np := 1) (as := [(0, 1)]) (by decide +kernel : decode (m_byt 95) 16 = .ok (.invokestatic 53, 3)) (Or.inr (Or.inr ⟨rfl, rfl, by decide, by decide⟩)) (by decide +kernel) (by decide +kernel) (by decide +kernel) (Nat.le_of_ble_eq_true rfl) rfl (Or.inl rfl)
theorem b_95_15 {Z : mZ} {l0 l1 l2 : mV} {h : mH} : m_run Z (95, 15, [l0, l1, l2], [], h) = m_run Z (95, 16, [l0, l1, l2], [(0, 0)], h) := by
  refine g_base (by decide +kernel : decode (m_byt 95) 15 = .ok (.iconst 0, 1)) rfl rfl ?_
  show m_run Z (95, 16, [l0, l1, l2], [(0, 0)], h) = _
  rfl
theorem b_95_16 {Z : mZ} {l0 l1 l2 : mV} {s0 : Int} {h : mH} : m_run Z (95, 16, [l0, l1, l2], [(0, s0)], h) = (m_cl Z 1001 [(0, s0)] h).bind (m_aft (m_run Z) 95 16 [l0, l1, l2] []) := by
  exact g_inv (k := 0) (m' := 1001) (np := 1) (as := [(0, s0)]) (by decide +kernel : decode (m_byt 95) 16 = .ok (.invokestatic 53, 3)) (Or.inr (Or.inr ⟨rfl, rfl, by decide, by decide⟩)) (by decide +kernel) (by decide +kernel) (by decide +kernel) (Nat.le_of_ble_eq_true rfl) rfl (Or.inl rfl)
theorem b_95_19 {Z : mZ} {l2 : mV} {x1 : Int} {r0 : Nat} {K : Nat → mK} {σ : Nat → Nat → Int} {n e s : Nat} (h0 : q_ob K n r0 6) (h1 : q_rp K r0 0) (h2 : q_ob K n (q_rf K r0 0) 1) : m_run Z (95, 19, [(2, ((r0 : Nat) : Int)), (0, x1), l2], [], (K, σ, n, e, s)) = (m_cl Z 138 [(2, ((r0 : Nat) : Int))] (K, σ, n, e, s)).bind (m_aft (m_run Z) 95 28 [(2, ((r0 : Nat) : Int)), (0, x1), (0, (σ ((q_rf K r0 0)) 0))] []) := by
  refine g_aload_n (k := 0) (v := (2, ((r0 : Nat) : Int))) (by decide +kernel : decode (m_byt 95) 19 = .ok (.aload_n 0, 1)) rfl (Or.inl rfl) ?_
  refine g_getr (ci := 6) (f := 0) (by decide +kernel : decode (m_byt 95) 20 = .ok (.getfield 12, 3)) (by decide +kernel) (by decide +kernel) (by decide +kernel) h0 h1 ?_
  refine g_getf (ci := 1) (f := 0) (by decide +kernel : decode (m_byt 95) 23 = .ok (.getfield 57, 3)) (by decide +kernel) (by decide +kernel) (by decide +kernel) h2 ?_
  refine g_istore_n (k := 2) (by decide +kernel : decode (m_byt 95) 26 = .ok (.istore_n 2, 1)) (Nat.le_of_ble_eq_true rfl) ?_
  show m_run Z (95, 27, [(2, ((r0 : Nat) : Int)), (0, x1), (0, (σ ((q_rf K r0 0)) 0))], [], (K, σ, n, e, s)) = _
  refine g_aload_n (k := 0) (v := (2, ((r0 : Nat) : Int))) (by decide +kernel : decode (m_byt 95) 27 = .ok (.aload_n 0, 1)) rfl (Or.inl rfl) ?_
  exact g_inv (k := 1) (m' := 138) (np := 0) (as := [(2, ((r0 : Nat) : Int))]) (by decide +kernel : decode (m_byt 95) 28 = .ok (.invokevirtual 61, 3)) (Or.inl ⟨rfl, rfl⟩) (by decide +kernel) (by decide +kernel) (by decide +kernel) (Nat.le_of_ble_eq_true rfl) rfl (Or.inr (g_rcv (by decide +kernel) h0))
theorem b_95_31 {Z : mZ} {l2 : mV} {x1 : Int} {r0 : Nat} {K : Nat → mK} {σ : Nat → Nat → Int} {n e s : Nat} (h0 : q_ob K n r0 6) (h1 : q_rp K r0 0) (h2 : q_ob K n (q_rf K r0 0) 1) : m_run Z (95, 31, [(2, ((r0 : Nat) : Int)), (0, x1), l2], [], (K, σ, n, e, s)) = (m_cl Z 12 [(2, ((q_rf K r0 0 : Nat) : Int)), (0, x1)] (K, σ, n, e, s)).bind (m_aft (m_run Z) 95 36 [(2, ((r0 : Nat) : Int)), (0, x1), l2] []) := by
  refine g_aload_n (k := 0) (v := (2, ((r0 : Nat) : Int))) (by decide +kernel : decode (m_byt 95) 31 = .ok (.aload_n 0, 1)) rfl (Or.inl rfl) ?_
  refine g_getr (ci := 6) (f := 0) (by decide +kernel : decode (m_byt 95) 32 = .ok (.getfield 12, 3)) (by decide +kernel) (by decide +kernel) (by decide +kernel) h0 h1 ?_
  refine g_iload_n (k := 1) (x := x1) (by decide +kernel : decode (m_byt 95) 35 = .ok (.iload_n 1, 1)) rfl ?_
  exact g_inv (k := 1) (m' := 12) (np := 1) (as := [(2, ((q_rf K r0 0 : Nat) : Int)), (0, x1)]) (by decide +kernel : decode (m_byt 95) 36 = .ok (.invokevirtual 64, 3)) (Or.inl ⟨rfl, rfl⟩) (by decide +kernel) (by decide +kernel) (by decide +kernel) (Nat.le_of_ble_eq_true rfl) rfl (Or.inr (g_rcv (by decide +kernel) h2))
theorem b_95_39 {Z : mZ} {l0 l1 : mV} {x2 : Int} {h : mH} : m_run Z (95, 39, [l0, l1, (0, x2)], [], h) = some (.inl (0, x2), h) := by
  refine g_iload_n (k := 2) (x := x2) (by decide +kernel : decode (m_byt 95) 39 = .ok (.iload_n 2, 1)) rfl ?_
  exact g_iret (by decide +kernel : decode (m_byt 95) 40 = .ok (.ireturn, 1)) (by decide +kernel)
theorem e_96 {Z : mZ} {r0 : Nat} {x1 : Int} {x2 : Int} {x3 : Int} {h : mH} : m_cl Z 96 [(2, ((r0 : Nat) : Int)), (0, x1), (0, x2), (0, x3)] h = m_run Z (96, 0, [(2, ((r0 : Nat) : Int)), (0, x1), (0, x2), (0, x3)], [], h) := g_ent (k := 4) (by decide) (by decide +kernel) (Nat.le_of_ble_eq_true rfl) (by decide +kernel) rfl
theorem b_96_0 {Z : mZ} {x1 x2 x3 : Int} {r0 : Nat} {K : Nat → mK} {σ : Nat → Nat → Int} {n e s : Nat} (h0 : q_ob K n r0 6) (h1 : q_rp K r0 0) (h2 : q_ob K n (q_rf K r0 0) 1) : m_run Z (96, 0, [(2, ((r0 : Nat) : Int)), (0, x1), (0, x2), (0, x3)], [], (K, σ, n, e, s)) = (m_cl Z 22 [(2, ((q_rf K r0 0 : Nat) : Int)), (0, x1), (0, x2), (0, x3)] (K, σ, n, e, s)).bind (m_aft (m_run Z) 96 7 [(2, ((r0 : Nat) : Int)), (0, x1), (0, x2), (0, x3)] []) := by
  refine g_aload_n (k := 0) (v := (2, ((r0 : Nat) : Int))) (by decide +kernel : decode (m_byt 96) 0 = .ok (.aload_n 0, 1)) rfl (Or.inl rfl) ?_
  refine g_getr (ci := 6) (f := 0) (by decide +kernel : decode (m_byt 96) 1 = .ok (.getfield 12, 3)) (by decide +kernel) (by decide +kernel) (by decide +kernel) h0 h1 ?_
  refine g_iload_n (k := 1) (x := x1) (by decide +kernel : decode (m_byt 96) 4 = .ok (.iload_n 1, 1)) rfl ?_
  refine g_iload_n (k := 2) (x := x2) (by decide +kernel : decode (m_byt 96) 5 = .ok (.iload_n 2, 1)) rfl ?_
  refine g_iload_n (k := 3) (x := x3) (by decide +kernel : decode (m_byt 96) 6 = .ok (.iload_n 3, 1)) rfl ?_
  exact g_inv (k := 1) (m' := 22) (np := 3) (as := [(2, ((q_rf K r0 0 : Nat) : Int)), (0, x1), (0, x2), (0, x3)]) (by decide +kernel : decode (m_byt 96) 7 = .ok (.invokevirtual 68, 3)) (Or.inl ⟨rfl, rfl⟩) (by decide +kernel) (by decide +kernel) (by decide +kernel) (Nat.le_of_ble_eq_true rfl) rfl (Or.inr (g_rcv (by decide +kernel) h2))
theorem b_96_10 {Z : mZ} {l0 l1 l2 l3 : mV} {s0 : Int} {h : mH} : m_run Z (96, 10, [l0, l1, l2, l3], [(0, s0)], h) = (m_cl Z 133 [(0, s0)] h).bind (m_aft (m_run Z) 96 10 [l0, l1, l2, l3] []) := by
  exact g_inv (k := 0) (m' := 133) (np := 1) (as := [(0, s0)]) (by decide +kernel : decode (m_byt 96) 10 = .ok (.invokestatic 72, 3)) (Or.inr (Or.inr ⟨rfl, rfl, by decide, by decide⟩)) (by decide +kernel) (by decide +kernel) (by decide +kernel) (Nat.le_of_ble_eq_true rfl) rfl (Or.inl rfl)
theorem b_96_13 {Z : mZ} {l1 l2 l3 : mV} {r0 : Nat} {K : Nat → mK} {σ : Nat → Nat → Int} {n e s : Nat} (h0 : q_ob K n r0 6) : m_run Z (96, 13, [(2, ((r0 : Nat) : Int)), l1, l2, l3], [], (K, σ, n, e, s)) = (m_cl Z 138 [(2, ((r0 : Nat) : Int))] (K, σ, n, e, s)).bind (m_aft (m_run Z) 96 14 [(2, ((r0 : Nat) : Int)), l1, l2, l3] []) := by
  refine g_aload_n (k := 0) (v := (2, ((r0 : Nat) : Int))) (by decide +kernel : decode (m_byt 96) 13 = .ok (.aload_n 0, 1)) rfl (Or.inl rfl) ?_
  exact g_inv (k := 1) (m' := 138) (np := 0) (as := [(2, ((r0 : Nat) : Int))]) (by decide +kernel : decode (m_byt 96) 14 = .ok (.invokevirtual 61, 3)) (Or.inl ⟨rfl, rfl⟩) (by decide +kernel) (by decide +kernel) (by decide +kernel) (Nat.le_of_ble_eq_true rfl) rfl (Or.inr (g_rcv (by decide +kernel) h0))
theorem b_96_17 {Z : mZ} {x1 x2 x3 : Int} {r0 : Nat} {K : Nat → mK} {σ : Nat → Nat → Int} {n e s : Nat} (h0 : q_ob K n r0 6) (h1 : q_rp K r0 0) (h2 : q_ob K n (q_rf K r0 0) 1) : m_run Z (96, 17, [(2, ((r0 : Nat) : Int)), (0, x1), (0, x2), (0, x3)], [], (K, σ, n, e, s)) = (m_cl Z 25 [(2, ((q_rf K r0 0 : Nat) : Int)), (0, x1), (0, x2), (0, x3)] (K, σ, n, e, s)).bind (m_aft (m_run Z) 96 24 [(2, ((r0 : Nat) : Int)), (0, x1), (0, x2), (0, x3)] []) := by
  refine g_aload_n (k := 0) (v := (2, ((r0 : Nat) : Int))) (by decide +kernel : decode (m_byt 96) 17 = .ok (.aload_n 0, 1)) rfl (Or.inl rfl) ?_
  refine g_getr (ci := 6) (f := 0) (by decide +kernel : decode (m_byt 96) 18 = .ok (.getfield 12, 3)) (by decide +kernel) (by decide +kernel) (by decide +kernel) h0 h1 ?_
  refine g_iload_n (k := 1) (x := x1) (by decide +kernel : decode (m_byt 96) 21 = .ok (.iload_n 1, 1)) rfl ?_
  refine g_iload_n (k := 2) (x := x2) (by decide +kernel : decode (m_byt 96) 22 = .ok (.iload_n 2, 1)) rfl ?_
  refine g_iload_n (k := 3) (x := x3) (by decide +kernel : decode (m_byt 96) 23 = .ok (.iload_n 3, 1)) rfl ?_
  exact g_inv (k := 1) (m' := 25) (np := 3) (as := [(2, ((q_rf K r0 0 : Nat) : Int)), (0, x1), (0, x2), (0, x3)]) (by decide +kernel : decode (m_byt 96) 24 = .ok (.invokevirtual 75, 3)) (Or.inl ⟨rfl, rfl⟩) (by decide +kernel) (by decide +kernel) (by decide +kernel) (Nat.le_of_ble_eq_true rfl) rfl (Or.inr (g_rcv (by decide +kernel) h2))
theorem b_96_27 {Z : mZ} {l0 l1 l2 l3 : mV} {s0 : Int} {h : mH} : m_run Z (96, 27, [l0, l1, l2, l3], [(0, s0)], h) = some (.inl (0, s0), h) := by
  exact g_iret (by decide +kernel : decode (m_byt 96) 27 = .ok (.ireturn, 1)) (by decide +kernel)
theorem e_97 {Z : mZ} {r0 : Nat} {x1 : Int} {h : mH} : m_cl Z 97 [(2, ((r0 : Nat) : Int)), (0, x1)] h = m_run Z (97, 0, [(2, ((r0 : Nat) : Int)), (0, x1)], [], h) := g_ent (k := 2) (by decide) (by decide +kernel) (Nat.le_of_ble_eq_true rfl) (by decide +kernel) rfl
theorem b_97_0 {Z : mZ} {x1 : Int} {r0 : Nat} {K : Nat → mK} {σ : Nat → Nat → Int} {n e s : Nat} (h0 : q_ob K n r0 6) (h1 : q_rp K r0 0) (h2 : q_ob K n (q_rf K r0 0) 1) : m_run Z (97, 0, [(2, ((r0 : Nat) : Int)), (0, x1)], [], (K, σ, n, e, s)) = (m_cl Z 16 [(2, ((q_rf K r0 0 : Nat) : Int)), (0, x1)] (K, σ, n, e, s)).bind (m_aft (m_run Z) 97 5 [(2, ((r0 : Nat) : Int)), (0, x1)] []) := by
  refine g_aload_n (k := 0) (v := (2, ((r0 : Nat) : Int))) (by decide +kernel : decode (m_byt 97) 0 = .ok (.aload_n 0, 1)) rfl (Or.inl rfl) ?_
  refine g_getr (ci := 6) (f := 0) (by decide +kernel : decode (m_byt 97) 1 = .ok (.getfield 12, 3)) (by decide +kernel) (by decide +kernel) (by decide +kernel) h0 h1 ?_
  refine g_iload_n (k := 1) (x := x1) (by decide +kernel : decode (m_byt 97) 4 = .ok (.iload_n 1, 1)) rfl ?_
  exact g_inv (k := 1) (m' := 16) (np := 1) (as := [(2, ((q_rf K r0 0 : Nat) : Int)), (0, x1)]) (by decide +kernel : decode (m_byt 97) 5 = .ok (.invokevirtual 78, 3)) (Or.inl ⟨rfl, rfl⟩) (by decide +kernel) (by decide +kernel) (by decide +kernel) (Nat.le_of_ble_eq_true rfl) rfl (Or.inr (g_rcv (by decide +kernel) h2))
theorem b_97_8 {Z : mZ} {l0 l1 : mV} {s0 : Int} {h : mH} : m_run Z (97, 8, [l0, l1], [(0, s0)], h) = (m_cl Z 1000 [(0, s0)] h).bind (m_aft (m_run Z) 97 8 [l0, l1] []) := by
  exact g_inv (k := 0) (m' := 1000) (np := 1) (as := [(0, s0)]) (by decide +kernel : decode (m_byt 97) 8 = .ok (.invokestatic 82, 3)) (Or.inr (Or.inr ⟨rfl, rfl, by decide, by decide⟩)) (by decide +kernel) (by decide +kernel) (by decide +kernel) (Nat.le_of_ble_eq_true rfl) rfl (Or.inl rfl)
theorem b_97_11 {Z : mZ} {l1 : mV} {r0 : Nat} {K : Nat → mK} {σ : Nat → Nat → Int} {n e s : Nat} (h0 : q_ob K n r0 6) : m_run Z (97, 11, [(2, ((r0 : Nat) : Int)), l1], [], (K, σ, n, e, s)) = (m_cl Z 138 [(2, ((r0 : Nat) : Int))] (K, σ, n, e, s)).bind (m_aft (m_run Z) 97 12 [(2, ((r0 : Nat) : Int)), l1] []) := by
  refine g_aload_n (k := 0) (v := (2, ((r0 : Nat) : Int))) (by decide +kernel : decode (m_byt 97) 11 = .ok (.aload_n 0, 1)) rfl (Or.inl rfl) ?_
  exact g_inv (k := 1) (m' := 138) (np := 0) (as := [(2, ((r0 : Nat) : Int))]) (by decide +kernel : decode (m_byt 97) 12 = .ok (.invokevirtual 61, 3)) (Or.inl ⟨rfl, rfl⟩) (by decide +kernel) (by decide +kernel) (by decide +kernel) (Nat.le_of_ble_eq_true rfl) rfl (Or.inr (g_rcv (by decide +kernel) h0))
theorem b_97_15 {Z : mZ} {x1 : Int} {r0 : Nat} {K : Nat → mK} {σ : Nat → Nat → Int} {n e s : Nat} (h0 : q_ob K n r0 6) (h1 : q_rp K r0 0) (h2 : q_ob K n (q_rf K r0 0) 1) : m_run Z (97, 15, [(2, ((r0 : Nat) : Int)), (0, x1)], [], (K, σ, n, e, s)) = (m_cl Z 27 [(2, ((q_rf K r0 0 : Nat) : Int)), (0, x1)] (K, σ, n, e, s)).bind (m_aft (m_run Z) 97 20 [(2, ((r0 : Nat) : Int)), (0, x1)] []) := by
  refine g_aload_n (k := 0) (v := (2, ((r0 : Nat) : Int))) (by decide +kernel : decode (m_byt 97) 15 = .ok (.aload_n 0, 1)) rfl (Or.inl rfl) ?_
  refine g_getr (ci := 6) (f := 0) (by decide +kernel : decode (m_byt 97) 16 = .ok (.getfield 12, 3)) (by decide +kernel) (by decide +kernel) (by decide +kernel) h0 h1 ?_
  refine g_iload_n (k := 1) (x := x1) (by decide +kernel : decode (m_byt 97) 19 = .ok (.iload_n 1, 1)) rfl ?_
  exact g_inv (k := 1) (m' := 27) (np := 1) (as := [(2, ((q_rf K r0 0 : Nat) : Int)), (0, x1)]) (by decide +kernel : decode (m_byt 97) 20 = .ok (.invokevirtual 85, 3)) (Or.inl ⟨rfl, rfl⟩) (by decide +kernel) (by decide +kernel) (by decide +kernel) (Nat.le_of_ble_eq_true rfl) rfl (Or.inr (g_rcv (by decide +kernel) h2))
theorem b_97_23 {Z : mZ} {l0 l1 : mV} {s0 : Int} {h : mH} : m_run Z (97, 23, [l0, l1], [(0, s0)], h) = some (.inl (0, s0), h) := by
  exact g_iret (by decide +kernel : decode (m_byt 97) 23 = .ok (.ireturn, 1)) (by decide +kernel)
theorem e_98 {Z : mZ} {r0 : Nat} {x1 : Int} {x2 : Int} {h : mH} : m_cl Z 98 [(2, ((r0 : Nat) : Int)), (0, x1), (0, x2)] h = m_run Z (98, 0, [(2, ((r0 : Nat) : Int)), (0, x1), (0, x2), (9, 0)], [], h) := g_ent (k := 4) (by decide) (by decide +kernel) (Nat.le_of_ble_eq_true rfl) (by decide +kernel) rfl
theorem b_98_0 {Z : mZ} {l3 : mV} {x1 x2 : Int} {r0 : Nat} {K : Nat → mK} {σ : Nat → Nat → Int} {n e s : Nat} (h0 : q_ob K n r0 6) (h1 : q_rp K r0 0) (h2 : q_ob K n (q_rf K r0 0) 1) : m_run Z (98, 0, [(2, ((r0 : Nat) : Int)), (0, x1), (0, x2), l3], [], (K, σ, n, e, s)) = (m_cl Z 23 [(2, ((q_rf K r0 0 : Nat) : Int)), (0, x1), (0, x2)] (K, σ, n, e, s)).bind (m_aft (m_run Z) 98 6 [(2, ((r0 : Nat) : Int)), (0, x1), (0, x2), l3] []) := by
  refine g_aload_n (k := 0) (v := (2, ((r0 : Nat) : Int))) (by decide +kernel : decode (m_byt 98) 0 = .ok (.aload_n 0, 1)) rfl (Or.inl rfl) ?_
  refine g_getr (ci := 6) (f := 0) (by decide +kernel : decode (m_byt 98) 1 = .ok (.getfield 12, 3)) (by decide +kernel) (by decide +kernel) (by decide +kernel) h0 h1 ?_
  refine g_iload_n (k := 1) (x := x1) (by decide +kernel : decode (m_byt 98) 4 = .ok (.iload_n 1, 1)) rfl ?_
  refine g_iload_n (k := 2) (x := x2) (by decide +kernel : decode (m_byt 98) 5 = .ok (.iload_n 2, 1)) rfl ?_
  exact g_inv (k := 1) (m' := 23) (np := 2) (as := [(2, ((q_rf K r0 0 : Nat) : Int)), (0, x1), (0, x2)]) (by decide +kernel : decode (m_byt 98) 6 = .ok (.invokevirtual 89, 3)) (Or.inl ⟨rfl, rfl⟩) (by decide +kernel) (by decide +kernel) (by decide +kernel) (Nat.le_of_ble_eq_true rfl) rfl (Or.inr (g_rcv (by decide +kernel) h2))
theorem b_98_9 {Z : mZ} {l0 l1 l2 l3 : mV} {s0 : Int} {h : mH} : m_run Z (98, 9, [l0, l1, l2, l3], [(0, s0)], h) = (m_cl Z 133 [(0, s0)] h).bind (m_aft (m_run Z) 98 9 [l0, l1, l2, l3] []) := by
  exact g_inv (k := 0) (m' := 133) (np := 1) (as := [(0, s0)]) (by decide +kernel : decode (m_byt 98) 9 = .ok (.invokestatic 72, 3)) (Or.inr (Or.inr ⟨rfl, rfl, by decide, by decide⟩)) (by decide +kernel) (by decide +kernel) (by decide +kernel) (Nat.le_of_ble_eq_true rfl) rfl (Or.inl rfl)
theorem b_98_12 {Z : mZ} {l2 l3 : mV} {x1 : Int} {r0 : Nat} {K : Nat → mK} {σ : Nat → Nat → Int} {n e s : Nat} (h0 : q_ob K n r0 6) (h1 : q_rp K r0 0) (h2 : q_ob K n (q_rf K r0 0) 1) (h3 : q_rp K (q_rf K r0 0) 3) (h4 : q_ob K n (q_rf K ((q_rf K r0 0)) 3) 3) : m_run Z (98, 12, [(2, ((r0 : Nat) : Int)), (0, x1), l2, l3], [], (K, σ, n, e, s)) = (m_cl Z 44 [(2, ((q_rf K ((q_rf K r0 0)) 3 : Nat) : Int)), (0, x1)] (K, σ, n, e, s)).bind (m_aft (m_run Z) 98 20 [(2, ((r0 : Nat) : Int)), (0, x1), l2, l3] []) := by
  refine g_aload_n (k := 0) (v := (2, ((r0 : Nat) : Int))) (by decide +kernel : decode (m_byt 98) 12 = .ok (.aload_n 0, 1)) rfl (Or.inl rfl) ?_
  refine g_getr (ci := 6) (f := 0) (by decide +kernel : decode (m_byt 98) 13 = .ok (.getfield 12, 3)) (by decide +kernel) (by decide +kernel) (by decide +kernel) h0 h1 ?_
  refine g_getr (ci := 1) (f := 3) (by decide +kernel : decode (m_byt 98) 16 = .ok (.getfield 93, 3)) (by decide +kernel) (by decide +kernel) (by decide +kernel) h2 h3 ?_
  refine g_iload_n (k := 1) (x := x1) (by decide +kernel : decode (m_byt 98) 19 = .ok (.iload_n 1, 1)) rfl ?_
  exact g_inv (k := 1) (m' := 44) (np := 1) (as := [(2, ((q_rf K ((q_rf K r0 0)) 3 : Nat) : Int)), (0, x1)]) (by decide +kernel : decode (m_byt 98) 20 = .ok (.invokevirtual 97, 3)) (Or.inl ⟨rfl, rfl⟩) (by decide +kernel) (by decide +kernel) (by decide +kernel) (Nat.le_of_ble_eq_true rfl) rfl (Or.inr (g_rcv (by decide +kernel) h4))
theorem b_98_23 {Z : mZ} {l1 l3 : mV} {s0 x2 : Int} {r0 : Nat} {K : Nat → mK} {σ : Nat → Nat → Int} {n e s : Nat} (h0 : q_ob K n r0 6) : m_run Z (98, 23, [(2, ((r0 : Nat) : Int)), l1, (0, x2), l3], [(0, s0)], (K, σ, n, e, s)) = (m_cl Z 138 [(2, ((r0 : Nat) : Int))] (K, σ, n, e, s)).bind (m_aft (m_run Z) 98 25 [(2, ((r0 : Nat) : Int)), l1, (0, x2), (0, s0)] []) := by
  refine g_istore_n (k := 3) (by decide +kernel : decode (m_byt 98) 23 = .ok (.istore_n 3, 1)) (Nat.le_of_ble_eq_true rfl) ?_
  show m_run Z (98, 24, [(2, ((r0 : Nat) : Int)), l1, (0, x2), (0, s0)], [], (K, σ, n, e, s)) = _
  refine g_aload_n (k := 0) (v := (2, ((r0 : Nat) : Int))) (by decide +kernel : decode (m_byt 98) 24 = .ok (.aload_n 0, 1)) rfl (Or.inl rfl) ?_
  exact g_inv (k := 1) (m' := 138) (np := 0) (as := [(2, ((r0 : Nat) : Int))]) (by decide +kernel : decode (m_byt 98) 25 = .ok (.invokevirtual 61, 3)) (Or.inl ⟨rfl, rfl⟩) (by decide +kernel) (by decide +kernel) (by decide +kernel) (Nat.le_of_ble_eq_true rfl) rfl (Or.inr (g_rcv (by decide +kernel) h0))
theorem b_98_28 {Z : mZ} {l3 : mV} {x1 x2 : Int} {r0 : Nat} {K : Nat → mK} {σ : Nat → Nat → Int} {n e s : Nat} (h0 : q_ob K n r0 6) (h1 : q_rp K r0 0) (h2 : q_ob K n (q_rf K r0 0) 1) (h3 : q_rp K (q_rf K r0 0) 3) (h4 : q_ob K n (q_rf K ((q_rf K r0 0)) 3) 3) : m_run Z (98, 28, [(2, ((r0 : Nat) : Int)), (0, x1), (0, x2), l3], [], (K, σ, n, e, s)) = (m_cl Z 45 [(2, ((q_rf K ((q_rf K r0 0)) 3 : Nat) : Int)), (0, x1), (0, x2)] (K, σ, n, e, s)).bind (m_aft (m_run Z) 98 37 [(2, ((r0 : Nat) : Int)), (0, x1), (0, x2), l3] []) := by
  refine g_aload_n (k := 0) (v := (2, ((r0 : Nat) : Int))) (by decide +kernel : decode (m_byt 98) 28 = .ok (.aload_n 0, 1)) rfl (Or.inl rfl) ?_
  refine g_getr (ci := 6) (f := 0) (by decide +kernel : decode (m_byt 98) 29 = .ok (.getfield 12, 3)) (by decide +kernel) (by decide +kernel) (by decide +kernel) h0 h1 ?_
  refine g_getr (ci := 1) (f := 3) (by decide +kernel : decode (m_byt 98) 32 = .ok (.getfield 93, 3)) (by decide +kernel) (by decide +kernel) (by decide +kernel) h2 h3 ?_
  refine g_iload_n (k := 1) (x := x1) (by decide +kernel : decode (m_byt 98) 35 = .ok (.iload_n 1, 1)) rfl ?_
  refine g_iload_n (k := 2) (x := x2) (by decide +kernel : decode (m_byt 98) 36 = .ok (.iload_n 2, 1)) rfl ?_
  exact g_inv (k := 1) (m' := 45) (np := 2) (as := [(2, ((q_rf K ((q_rf K r0 0)) 3 : Nat) : Int)), (0, x1), (0, x2)]) (by decide +kernel : decode (m_byt 98) 37 = .ok (.invokevirtual 102, 3)) (Or.inl ⟨rfl, rfl⟩) (by decide +kernel) (by decide +kernel) (by decide +kernel) (Nat.le_of_ble_eq_true rfl) rfl (Or.inr (g_rcv (by decide +kernel) h4))
theorem b_98_40 {Z : mZ} {l0 l1 l2 : mV} {x3 : Int} {h : mH} : m_run Z (98, 40, [l0, l1, l2, (0, x3)], [], h) = some (.inl (0, x3), h) := by
  refine g_iload_n (k := 3) (x := x3) (by decide +kernel : decode (m_byt 98) 40 = .ok (.iload_n 3, 1)) rfl ?_
  exact g_iret (by decide +kernel : decode (m_byt 98) 41 = .ok (.ireturn, 1)) (by decide +kernel)
theorem e_99 {Z : mZ} {r0 : Nat} {x1 : Int} {x2 : Int} {h : mH} : m_cl Z 99 [(2, ((r0 : Nat) : Int)), (0, x1), (0, x2)] h = m_run Z (99, 0, [(2, ((r0 : Nat) : Int)), (0, x1), (0, x2), (9, 0)], [], h) := g_ent (k := 4) (by decide) (by decide +kernel) (Nat.le_of_ble_eq_true rfl) (by decide +kernel) rfl
theorem b_99_0 {Z : mZ} {l3 : mV} {x1 x2 : Int} {r0 : Nat} {K : Nat → mK} {σ : Nat → Nat → Int} {n e s : Nat} (h0 : q_ob K n r0 6) (h1 : q_rp K r0 0) (h2 : q_ob K n (q_rf K r0 0) 1) : m_run Z (99, 0, [(2, ((r0 : Nat) : Int)), (0, x1), (0, x2), l3], [], (K, σ, n, e, s)) = (m_cl Z 23 [(2, ((q_rf K r0 0 : Nat) : Int)), (0, x1), (0, x2)] (K, σ, n, e, s)).bind (m_aft (m_run Z) 99 6 [(2, ((r0 : Nat) : Int)), (0, x1), (0, x2), l3] []) := by
  refine g_aload_n (k := 0) (v := (2, ((r0 : Nat) : Int))) (by decide +kernel : decode (m_byt 99) 0 = .ok (.aload_n 0, 1)) rfl (Or.inl rfl) ?_
  refine g_getr (ci := 6) (f := 0) (by decide +kernel : decode (m_byt 99) 1 = .ok (.getfield 12, 3)) (by decide +kernel) (by decide +kernel) (by decide +kernel) h0 h1 ?_
  refine g_iload_n (k := 1) (x := x1) (by decide +kernel : decode (m_byt 99) 4 = .ok (.iload_n 1, 1)) rfl ?_
  refine g_iload_n (k := 2) (x := x2) (by decide +kernel : decode (m_byt 99) 5 = .ok (.iload_n 2, 1)) rfl ?_
  exact g_inv (k := 1) (m' := 23) (np := 2) (as := [(2, ((q_rf K r0 0 : Nat) : Int)), (0, x1), (0, x2)]) (by decide +kernel : decode (m_byt 99) 6 = .ok (.invokevirtual 89, 3)) (Or.inl ⟨rfl, rfl⟩) (by decide +kernel) (by decide +kernel) (by decide +kernel) (Nat.le_of_ble_eq_true rfl) rfl (Or.inr (g_rcv (by decide +kernel) h2))
theorem b_99_9 {Z : mZ} {l0 l1 l2 l3 : mV} {s0 : Int} {h : mH} : m_run Z (99, 9, [l0, l1, l2, l3], [(0, s0)], h) = (m_cl Z 133 [(0, s0)] h).bind (m_aft (m_run Z) 99 9 [l0, l1, l2, l3] []) := by
  exact g_inv (k := 0) (m' := 133) (np := 1) (as := [(0, s0)]) (by decide +kernel : decode (m_byt 99) 9 = .ok (.invokestatic 72, 3)) (Or.inr (Or.inr ⟨rfl, rfl, by decide, by decide⟩)) (by decide +kernel) (by decide +kernel) (by decide +kernel) (Nat.le_of_ble_eq_true rfl) rfl (Or.inl rfl)
theorem b_99_12 {Z : mZ} {l2 l3 : mV} {x1 : Int} {r0 : Nat} {K : Nat → mK} {σ : Nat → Nat → Int} {n e s : Nat} (h0 : q_ob K n r0 6) (h1 : q_rp K r0 0) (h2 : q_ob K n (q_rf K r0 0) 1) (h3 : q_rp K (q_rf K r0 0) 4) (h4 : q_ob K n (q_rf K ((q_rf K r0 0)) 4) 3) : m_run Z (99, 12, [(2, ((r0 : Nat) : Int)), (0, x1), l2, l3], [], (K, σ, n, e, s)) = (m_cl Z 44 [(2, ((q_rf K ((q_rf K r0 0)) 4 : Nat) : Int)), (0, x1)] (K, σ, n, e, s)).bind (m_aft (m_run Z) 99 20 [(2, ((r0 : Nat) : Int)), (0, x1), l2, l3] []) := by
  refine g_aload_n (k := 0) (v := (2, ((r0 : Nat) : Int))) (by decide +kernel : decode (m_byt 99) 12 = .ok (.aload_n 0, 1)) rfl (Or.inl rfl) ?_
  refine g_getr (ci := 6) (f := 0) (by decide +kernel : decode (m_byt 99) 13 = .ok (.getfield 12, 3)) (by decide +kernel) (by decide +kernel) (by decide +kernel) h0 h1 ?_
  refine g_getr (ci := 1) (f := 4) (by decide +kernel : decode (m_byt 99) 16 = .ok (.getfield 106, 3)) (by decide +kernel) (by decide +kernel) (by decide +kernel) h2 h3 ?_
  refine g_iload_n (k := 1) (x := x1) (by decide +kernel : decode (m_byt 99) 19 = .ok (.iload_n 1, 1)) rfl ?_
  exact g_inv (k := 1) (m' := 44) (np := 1) (as := [(2, ((q_rf K ((q_rf K r0 0)) 4 : Nat) : Int)), (0, x1)]) (by decide +kernel : decode (m_byt 99) 20 = .ok (.invokevirtual 97, 3)) (Or.inl ⟨rfl, rfl⟩) (by decide +kernel) (by decide +kernel) (by decide +kernel) (Nat.le_of_ble_eq_true rfl) rfl (Or.inr (g_rcv (by decide +kernel) h4))
theorem b_99_23 {Z : mZ} {l1 l3 : mV} {s0 x2 : Int} {r0 : Nat} {K : Nat → mK} {σ : Nat → Nat → Int} {n e s : Nat} (h0 : q_ob K n r0 6) : m_run Z (99, 23, [(2, ((r0 : Nat) : Int)), l1, (0, x2), l3], [(0, s0)], (K, σ, n, e, s)) = (m_cl Z 138 [(2, ((r0 : Nat) : Int))] (K, σ, n, e, s)).bind (m_aft (m_run Z) 99 25 [(2, ((r0 : Nat) : Int)), l1, (0, x2), (0, s0)] []) := by
  refine g_istore_n (k := 3) (by decide +kernel : decode (m_byt 99) 23 = .ok (.istore_n 3, 1)) (Nat.le_of_ble_eq_true rfl) ?_
  show m_run Z (99, 24, [(2, ((r0 : Nat) : Int)), l1, (0, x2), (0, s0)], [], (K, σ, n, e, s)) = _
  refine g_aload_n (k := 0) (v := (2, ((r0 : Nat) : Int))) (by decide +kernel : decode (m_byt 99) 24 = .ok (.aload_n 0, 1)) rfl (Or.inl rfl) ?_
  exact g_inv (k := 1) (m' := 138) (np := 0) (as := [(2, ((r0 : Nat) : Int))]) (by decide +kernel : decode (m_byt 99) 25 = .ok (.invokevirtual 61, 3)) (Or.inl ⟨rfl, rfl⟩) (by decide +kernel) (by decide +kernel) (by decide +kernel) (Nat.le_of_ble_eq_true rfl) rfl (Or.inr (g_rcv (by decide +kernel) h0))
theorem b_99_28 {Z : mZ} {l3 : mV} {x1 x2 : Int} {r0 : Nat} {K : Nat → mK} {σ : Nat → Nat → Int} {n e s : Nat} (h0 : q_ob K n r0 6) (h1 : q_rp K r0 0) (h2 : q_ob K n (q_rf K r0 0) 1) (h3 : q_rp K (q_rf K r0 0) 4) (h4 : q_ob K n (q_rf K ((q_rf K r0 0)) 4) 3) : m_run Z (99, 28, [(2, ((r0 : Nat) : Int)), (0, x1), (0, x2), l3], [], (K, σ, n, e, s)) = (m_cl Z 45 [(2, ((q_rf K ((q_rf K r0 0)) 4 : Nat) : Int)), (0, x1), (0, x2)] (K, σ, n, e, s)).bind (m_aft (m_run Z) 99 37 [(2, ((r0 : Nat) : Int)), (0, x1), (0, x2), l3] []) := by
  refine g_aload_n (k := 0) (v := (2, ((r0 : Nat) : Int))) (by decide +kernel : decode (m_byt 99) 28 = .ok (.aload_n 0, 1)) rfl (Or.inl rfl) ?_
  refine g_getr (ci := 6) (f := 0) (by decide +kernel : decode (m_byt 99) 29 = .ok (.getfield 12, 3)) (by decide +kernel) (by decide +kernel) (by decide +kernel) h0 h1 ?_
  refine g_getr (ci := 1) (f := 4) (by decide +kernel : decode (m_byt 99) 32 = .ok (.getfield 106, 3)) (by decide +kernel) (by decide +kernel) (by decide +kernel) h2 h3 ?_
  refine g_iload_n (k := 1) (x := x1) (by decide +kernel : decode (m_byt 99) 35 = .ok (.iload_n 1, 1)) rfl ?_
  refine g_iload_n (k := 2) (x := x2) (by decide +kernel : decode (m_byt 99) 36 = .ok (.iload_n 2, 1)) rfl ?_
  exact g_inv (k := 1) (m' := 45) (np := 2) (as := [(2, ((q_rf K ((q_rf K r0 0)) 4 : Nat) : Int)), (0, x1), (0, x2)]) (by decide +kernel : decode (m_byt 99) 37 = .ok (.invokevirtual 102, 3)) (Or.inl ⟨rfl, rfl⟩) (by decide +kernel) (by decide +kernel) (by decide +kernel) (Nat.le_of_ble_eq_true rfl) rfl (Or.inr (g_rcv (by decide +kernel) h4))
theorem b_99_40 {Z : mZ} {l0 l1 l2 : mV} {x3 : Int} {h : mH} : m_run Z (99, 40, [l0, l1, l2, (0, x3)], [], h) = some (.inl (0, x3), h) := by
  refine g_iload_n (k := 3) (x := x3) (by decide +kernel : decode (m_byt 99) 40 = .ok (.iload_n 3, 1)) rfl ?_
  exact g_iret (by decide +kernel : decode (m_byt 99) 41 = .ok (.ireturn, 1)) (by decide +kernel)
theorem e_100 {Z : mZ} {r0 : Nat} {x1 : Int} {x2 : Int} {x3 : Int} {h : mH} : m_cl Z 100 [(2, ((r0 : Nat) : Int)), (0, x1), (0, x2), (0, x3)] h = m_run Z (100, 0, [(2, ((r0 : Nat) : Int)), (0, x1), (0, x2), (0, x3)], [], h) := g_ent (k := 4) (by decide) (by decide +kernel) (Nat.le_of_ble_eq_true rfl) (by decide +kernel) rfl
theorem b_100_0 {Z : mZ} {x1 x2 x3 : Int} {r0 : Nat} {K : Nat → mK} {σ : Nat → Nat → Int} {n e s : Nat} (h0 : q_ob K n r0 6) (h1 : q_rp K r0 0) (h2 : q_ob K n (q_rf K r0 0) 1) : m_run Z (100, 0, [(2, ((r0 : Nat) : Int)), (0, x1), (0, x2), (0, x3)], [], (K, σ, n, e, s)) = (m_cl Z 24 [(2, ((q_rf K r0 0 : Nat) : Int)), (0, x1), (0, x2), (0, x3)] (K, σ, n, e, s)).bind (m_aft (m_run Z) 100 7 [(2, ((r0 : Nat) : Int)), (0, x1), (0, x2), (0, x3)] []) := by
  refine g_aload_n (k := 0) (v := (2, ((r0 : Nat) : Int))) (by decide +kernel : decode (m_byt 100) 0 = .ok (.aload_n 0, 1)) rfl (Or.inl rfl) ?_
  refine g_getr (ci := 6) (f := 0) (by decide +kernel : decode (m_byt 100) 1 = .ok (.getfield 12, 3)) (by decide +kernel) (by decide +kernel) (by decide +kernel) h0 h1 ?_
  refine g_iload_n (k := 1) (x := x1) (by decide +kernel : decode (m_byt 100) 4 = .ok (.iload_n 1, 1)) rfl ?_
  refine g_iload_n (k := 2) (x := x2) (by decide +kernel : decode (m_byt 100) 5 = .ok (.iload_n 2, 1)) rfl ?_
  refine g_iload_n (k := 3) (x := x3) (by decide +kernel : decode (m_byt 100) 6 = .ok (.iload_n 3, 1)) rfl ?_
  exact g_inv (k := 1) (m' := 24) (np := 3) (as := [(2, ((q_rf K r0 0 : Nat) : Int)), (0, x1), (0, x2), (0, x3)]) (by decide +kernel : decode (m_byt 100) 7 = .ok (.invokevirtual 109, 3)) (Or.inl ⟨rfl, rfl⟩) (by decide +kernel) (by decide +kernel) (by decide +kernel) (Nat.le_of_ble_eq_true rfl) rfl (Or.inr (g_rcv (by decide +kernel) h2))
theorem b_100_10 {Z : mZ} {l0 l1 l2 l3 : mV} {s0 : Int} {h : mH} : m_run Z (100, 10, [l0, l1, l2, l3], [(0, s0)], h) = (m_cl Z 133 [(0, s0)] h).bind (m_aft (m_run Z) 100 10 [l0, l1, l2, l3] []) := by
  exact g_inv (k := 0) (m' := 133) (np := 1) (as := [(0, s0)]) (by decide +kernel : decode (m_byt 100) 10 = .ok (.invokestatic 72, 3)) (Or.inr (Or.inr ⟨rfl, rfl, by decide, by decide⟩)) (by decide +kernel) (by decide +kernel) (by decide +kernel) (Nat.le_of_ble_eq_true rfl) rfl (Or.inl rfl)
theorem b_100_13 {Z : mZ} {l1 l2 l3 : mV} {r0 : Nat} {K : Nat → mK} {σ : Nat → Nat → Int} {n e s : Nat} (h0 : q_ob K n r0 6) : m_run Z (100, 13, [(2, ((r0 : Nat) : Int)), l1, l2, l3], [], (K, σ, n, e, s)) = (m_cl Z 138 [(2, ((r0 : Nat) : Int))] (K, σ, n, e, s)).bind (m_aft (m_run Z) 100 14 [(2, ((r0 : Nat) : Int)), l1, l2, l3] []) := by
  refine g_aload_n (k := 0) (v := (2, ((r0 : Nat) : Int))) (by decide +kernel : decode (m_byt 100) 13 = .ok (.aload_n 0, 1)) rfl (Or.inl rfl) ?_
  exact g_inv (k := 1) (m' := 138) (np := 0) (as := [(2, ((r0 : Nat) : Int))]) (by decide +kernel : decode (m_byt 100) 14 = .ok (.invokevirtual 61, 3)) (Or.inl ⟨rfl, rfl⟩) (by decide +kernel) (by decide +kernel) (by decide +kernel) (Nat.le_of_ble_eq_true rfl) rfl (Or.inr (g_rcv (by decide +kernel) h0))
theorem b_100_17 {Z : mZ} {x1 x2 x3 : Int} {r0 : Nat} {K : Nat → mK} {σ : Nat → Nat → Int} {n e s : Nat} (h0 : q_ob K n r0 6) (h1 : q_rp K r0 0) (h2 : q_ob K n (q_rf K r0 0) 1) : m_run Z (100, 17, [(2, ((r0 : Nat) : Int)), (0, x1), (0, x2), (0, x3)], [], (K, σ, n, e, s)) = (m_cl Z 26 [(2, ((q_rf K r0 0 : Nat) : Int)), (0, x1), (0, x2), (0, x3)] (K, σ, n, e, s)).bind (m_aft (m_run Z) 100 24 [(2, ((r0 : Nat) : Int)), (0, x1), (0, x2), (0, x3)] []) := by
  refine g_aload_n (k := 0) (v := (2, ((r0 : Nat) : Int))) (by decide +kernel : decode (m_byt 100) 17 = .ok (.aload_n 0, 1)) rfl (Or.inl rfl) ?_
  refine g_getr (ci := 6) (f := 0) (by decide +kernel : decode (m_byt 100) 18 = .ok (.getfield 12, 3)) (by decide +kernel) (by decide +kernel) (by decide +kernel) h0 h1 ?_
  refine g_iload_n (k := 1) (x := x1) (by decide +kernel : decode (m_byt 100) 21 = .ok (.iload_n 1, 1)) rfl ?_
  refine g_iload_n (k := 2) (x := x2) (by decide +kernel : decode (m_byt 100) 22 = .ok (.iload_n 2, 1)) rfl ?_
  refine g_iload_n (k := 3) (x := x3) (by decide +kernel : decode (m_byt 100) 23 = .ok (.iload_n 3, 1)) rfl ?_
  exact g_inv (k := 1) (m' := 26) (np := 3) (as := [(2, ((q_rf K r0 0 : Nat) : Int)), (0, x1), (0, x2), (0, x3)]) (by decide +kernel : decode (m_byt 100) 24 = .ok (.invokevirtual 112, 3)) (Or.inl ⟨rfl, rfl⟩) (by decide +kernel) (by decide +kernel) (by decide +kernel) (Nat.le_of_ble_eq_true rfl) rfl (Or.inr (g_rcv (by decide +kernel) h2))
theorem b_100_27 {Z : mZ} {l0 l1 l2 l3 : mV} {s0 : Int} {h : mH} : m_run Z (100, 27, [l0, l1, l2, l3], [(0, s0)], h) = some (.inl (0, s0), h) := by
  exact g_iret (by decide +kernel : decode (m_byt 100) 27 = .ok (.ireturn, 1)) (by decide +kernel)
theorem e_101 {Z : mZ} {r0 : Nat} {x1 : Int} {h : mH} : m_cl Z 101 [(2, ((r0 : Nat) : Int)), (0, x1)] h = m_run Z (101, 0, [(2, ((r0 : Nat) : Int)), (0, x1), (9, 0)], [], h) := g_ent (k := 3) (by decide) (by decide +kernel) (Nat.le_of_ble_eq_true rfl) (by decide +kernel) rfl
theorem b_101_0 {Z : mZ} {l2 : mV} {x1 : Int} {r0 : Nat} {K : Nat → mK} {σ : Nat → Nat → Int} {n e s : Nat} (h0 : q_ob K n r0 6) (h1 : q_rp K r0 0) (h2 : q_ob K n (q_rf K r0 0) 1) : m_run Z (101, 0, [(2, ((r0 : Nat) : Int)), (0, x1), l2], [], (K, σ, n, e, s)) = (m_cl Z 17 [(2, ((q_rf K r0 0 : Nat) : Int)), (0, x1)] (K, σ, n, e, s)).bind (m_aft (m_run Z) 101 5 [(2, ((r0 : Nat) : Int)), (0, x1), l2] []) := by
  refine g_aload_n (k := 0) (v := (2, ((r0 : Nat) : Int))) (by decide +kernel : decode (m_byt 101) 0 = .ok (.aload_n 0, 1)) rfl (Or.inl rfl) ?_
  refine g_getr (ci := 6) (f := 0) (by decide +kernel : decode (m_byt 101) 1 = .ok (.getfield 12, 3)) (by decide +kernel) (by decide +kernel) (by decide +kernel) h0 h1 ?_
  refine g_iload_n (k := 1) (x := x1) (by decide +kernel : decode (m_byt 101) 4 = .ok (.iload_n 1, 1)) rfl ?_
  exact g_inv (k := 1) (m' := 17) (np := 1) (as := [(2, ((q_rf K r0 0 : Nat) : Int)), (0, x1)]) (by decide +kernel : decode (m_byt 101) 5 = .ok (.invokevirtual 115, 3)) (Or.inl ⟨rfl, rfl⟩) (by decide +kernel) (by decide +kernel) (by decide +kernel) (Nat.le_of_ble_eq_true rfl) rfl (Or.inr (g_rcv (by decide +kernel) h2))
theorem b_101_8 {Z : mZ} {l0 l1 l2 : mV} {s0 : Int} {h : mH} : m_run Z (101, 8, [l0, l1, l2], [(0, s0)], h) = (m_cl Z 1000 [(0, s0)] h).bind (m_aft (m_run Z) 101 8 [l0, l1, l2] []) := by
  exact g_inv (k := 0) (m' := 1000) (np := 1) (as := [(0, s0)]) (by decide +kernel : decode (m_byt 101) 8 = .ok (.invokestatic 82, 3)) (Or.inr (Or.inr ⟨rfl, rfl, by decide, by decide⟩)) (by decide +kernel) (by decide +kernel) (by decide +kernel) (Nat.le_of_ble_eq_true rfl) rfl (Or.inl rfl)
theorem b_101_11 {Z : mZ} {l2 : mV} {x1 : Int} {r0 : Nat} {K : Nat → mK} {σ : Nat → Nat → Int} {n e s : Nat} (h0 : q_ob K n r0 6) (h1 : q_rp K r0 0) (h2 : q_ob K n (q_rf K r0 0) 1) (h3 : q_rp K (q_rf K r0 0) 8) (h4 : q_ob K n (q_rf K ((q_rf K r0 0)) 8) 3) : m_run Z (101, 11, [(2, ((r0 : Nat) : Int)), (0, x1), l2], [], (K, σ, n, e, s)) = (m_cl Z 44 [(2, ((q_rf K ((q_rf K r0 0)) 8 : Nat) : Int)), (0, x1)] (K, σ, n, e, s)).bind (m_aft (m_run Z) 101 19 [(2, ((r0 : Nat) : Int)), (0, x1), l2] []) := by
  refine g_aload_n (k := 0) (v := (2, ((r0 : Nat) : Int))) (by decide +kernel : decode (m_byt 101) 11 = .ok (.aload_n 0, 1)) rfl (Or.inl rfl) ?_
  refine g_getr (ci := 6) (f := 0) (by decide +kernel : decode (m_byt 101) 12 = .ok (.getfield 12, 3)) (by decide +kernel) (by decide +kernel) (by decide +kernel) h0 h1 ?_
  refine g_getr (ci := 1) (f := 8) (by decide +kernel : decode (m_byt 101) 15 = .ok (.getfield 118, 3)) (by decide +kernel) (by decide +kernel) (by decide +kernel) h2 h3 ?_
  refine g_iload_n (k := 1) (x := x1) (by decide +kernel : decode (m_byt 101) 18 = .ok (.iload_n 1, 1)) rfl ?_
  exact g_inv (k := 1) (m' := 44) (np := 1) (as := [(2, ((q_rf K ((q_rf K r0 0)) 8 : Nat) : Int)), (0, x1)]) (by decide +kernel : decode (m_byt 101) 19 = .ok (.invokevirtual 97, 3)) (Or.inl ⟨rfl, rfl⟩) (by decide +kernel) (by decide +kernel) (by decide +kernel) (Nat.le_of_ble_eq_true rfl) rfl (Or.inr (g_rcv (by decide +kernel) h4))
theorem b_101_22 {Z : mZ} {l2 : mV} {s0 x1 : Int} {r0 : Nat} {K : Nat → mK} {σ : Nat → Nat → Int} {n e s : Nat} (h0 : q_ob K n r0 6) : m_run Z (101, 22, [(2, ((r0 : Nat) : Int)), (0, x1), l2], [(0, s0)], (K, σ, n, e, s)) = (m_cl Z 138 [(2, ((r0 : Nat) : Int))] (K, σ, n, e, s)).bind (m_aft (m_run Z) 101 24 [(2, ((r0 : Nat) : Int)), (0, x1), (0, s0)] []) := by
  refine g_istore_n (k := 2) (by decide +kernel : decode (m_byt 101) 22 = .ok (.istore_n 2, 1)) (Nat.le_of_ble_eq_true rfl) ?_
  show m_run Z (101, 23, [(2, ((r0 : Nat) : Int)), (0, x1), (0, s0)], [], (K, σ, n, e, s)) = _
  refine g_aload_n (k := 0) (v := (2, ((r0 : Nat) : Int))) (by decide +kernel : decode (m_byt 101) 23 = .ok (.aload_n 0, 1)) rfl (Or.inl rfl) ?_
  exact g_inv (k := 1) (m' := 138) (np := 0) (as := [(2, ((r0 : Nat) : Int))]) (by decide +kernel : decode (m_byt 101) 24 = .ok (.invokevirtual 61, 3)) (Or.inl ⟨rfl, rfl⟩) (by decide +kernel) (by decide +kernel) (by decide +kernel) (Nat.le_of_ble_eq_true rfl) rfl (Or.inr (g_rcv (by decide +kernel) h0))
theorem b_101_27 {Z : mZ} {l2 : mV} {x1 : Int} {r0 : Nat} {K : Nat → mK} {σ : Nat → Nat → Int} {n e s : Nat} (h0 : q_ob K n r0 6) (h1 : q_rp K r0 0) (h2 : q_ob K n (q_rf K r0 0) 1) : m_run Z (101, 27, [(2, ((r0 : Nat) : Int)), (0, x1), l2], [], (K, σ, n, e, s)) = (m_cl Z 28 [(2, ((q_rf K r0 0 : Nat) : Int)), (0, x1)] (K, σ, n, e, s)).bind (m_aft (m_run Z) 101 32 [(2, ((r0 : Nat) : Int)), (0, x1), l2] []) := by
  refine g_aload_n (k := 0) (v := (2, ((r0 : Nat) : Int))) (by decide +kernel : decode (m_byt 101) 27 = .ok (.aload_n 0, 1)) rfl (Or.inl rfl) ?_
  refine g_getr (ci := 6) (f := 0) (by decide +kernel : decode (m_byt 101) 28 = .ok (.getfield 12, 3)) (by decide +kernel) (by decide +kernel) (by decide +kernel) h0 h1 ?_
  refine g_iload_n (k := 1) (x := x1) (by decide +kernel : decode (m_byt 101) 31 = .ok (.iload_n 1, 1)) rfl ?_
  exact g_inv (k := 1) (m' := 28) (np := 1) (as := [(2, ((q_rf K r0 0 : Nat) : Int)), (0, x1)]) (by decide +kernel : decode (m_byt 101) 32 = .ok (.invokevirtual 121, 3)) (Or.inl ⟨rfl, rfl⟩) (by decide +kernel) (by decide +kernel) (by decide +kernel) (Nat.le_of_ble_eq_true rfl) rfl (Or.inr (g_rcv (by decide +kernel) h2))
theorem b_101_35 {Z : mZ} {l0 l1 : mV} {x2 : Int} {h : mH} : m_run Z (101, 35, [l0, l1, (0, x2)], [], h) = some (.inl (0, x2), h) := by
  refine g_iload_n (k := 2) (x := x2) (by decide +kernel : decode (m_byt 101) 35 = .ok (.iload_n 2, 1)) rfl ?_
  exact g_iret (by decide +kernel : decode (m_byt 101) 36 = .ok (.ireturn, 1)) (by decide +kernel)
theorem e_102 {Z : mZ} {r0 : Nat} {x1 : Int} {h : mH} : m_cl Z 102 [(2, ((r0 : Nat) : Int)), (0, x1)] h = m_run Z (102, 0, [(2, ((r0 : Nat) : Int)), (0, x1)], [], h) := g_ent (k := 2) (by decide) (by decide +kernel) (Nat.le_of_ble_eq_true rfl) (by decide +kernel) rfl
theorem b_102_0 {Z : mZ} {l0 : mV} {x1 : Int} {h : mH} : m_run Z (102, 0, [l0, (0, x1)], [], h) = if w32 x1 < 0 then m_run Z (102, 13, [l0, (0, x1)], [], h) else m_run Z (102, 4, [l0, (0, x1)], [], h) := by
  refine g_iload_n (k := 1) (x := x1) (by decide +kernel : decode (m_byt 102) 0 = .ok (.iload_n 1, 1)) rfl ?_
  exact g_brq (t := 13) (off := 12) (by decide +kernel : decode (m_byt 102) 1 = .ok (.ifCond .lt 12, 3)) rfl rfl (by decide)
theorem b_102_4 {Z : mZ} {l0 : mV} {x1 : Int} {h : mH} : m_run Z (102, 4, [l0, (0, x1)], [], h) = if w32 3 < w32 x1 then m_run Z (102, 13, [l0, (0, x1)], [], h) else m_run Z (102, 9, [l0, (0, x1)], [], h) := by
  refine g_iload_n (k := 1) (x := x1) (by decide +kernel : decode (m_byt 102) 4 = .ok (.iload_n 1, 1)) rfl ?_
  refine g_base (by decide +kernel : decode (m_byt 102) 5 = .ok (.iconst 3, 1)) rfl rfl ?_
  show m_run Z (102, 6, [l0, (0, x1)], [(0, 3), (0, x1)], h) = _
  exact g_brq (t := 13) (off := 7) (by decide +kernel : decode (m_byt 102) 6 = .ok (.if_icmp .gt 7, 3)) rfl rfl (by decide)
theorem b_102_9 {Z : mZ} {l0 l1 : mV} {h : mH} : m_run Z (102, 9, [l0, l1], [], h) = (m_cl Z 1001 [(0, 1)] h).bind (m_aft (m_run Z) 102 14 [l0, l1] []) := by
  refine g_base (by decide +kernel : decode (m_byt 102) 9 = .ok (.iconst 1, 1)) rfl rfl ?_
  show m_run Z (102, 10, [l0, l1], [(0, 1)], h) = _
  refine g_jmp (t := 14) (by decide +kernel : decode (m_byt 102) 10 = .ok (.goto 4, 3)) (by decide) ?_
  exact g_inv (k := 0) (m' := 1001) (np := 1) (as := [(0, 1)]) (by decide +kernel : decode (m_byt 102) 14 = .ok (.invokestatic 53, 3)) (Or.inr (Or.inr ⟨rfl, rfl, by decide, by decide⟩)) (by decide +kernel) (by decide +kernel) (by decide +kernel) (Nat.le_of_ble_eq_true rfl) rfl (Or.inl rfl)
theorem b_102_13 {Z : mZ} {l0 l1 : mV} {h : mH} : m_run Z (102, 13, [l0, l1], [], h) = m_run Z (102, 14, [l0, l1], [(0, 0)], h) := by
  refine g_base (by decide +kernel : decode (m_byt 102) 13 = .ok (.iconst 0, 1)) rfl rfl ?_
  show m_run Z (102, 14, [l0, l1], [(0, 0)], h) = _
  rfl
theorem b_102_14 {Z : mZ} {l0 l1 : mV} {s0 : Int} {h : mH} : m_run Z (102, 14, [l0, l1], [(0, s0)], h) = (m_cl Z 1001 [(0, s0)] h).bind (m_aft (m_run Z) 102 14 [l0, l1] []) := by
  exact g_inv (k := 0) (m' := 1001) (np := 1) (as := [(0, s0)]) (by decide +kernel : decode (m_byt 102) 14 = .ok (.invokestatic 53, 3)) (Or.inr (Or.inr ⟨rfl, rfl, by decide, by decide⟩)) (by decide +kernel) (by decide +kernel) (by decide +kernel) (Nat.le_of_ble_eq_true rfl) rfl (Or.inl rfl)
theorem b_102_17 {Z : mZ} {l1 : mV} {r0 : Nat} {K : Nat → mK} {σ : Nat → Nat → Int} {n e s : Nat} (h0 : q_ob K n r0 6) (h1 : q_rp K r0 4) (h2 : q_rp K r0 0) (h3 : q_ob K n (q_rf K r0 4) 5) : m_run Z (102, 17, [(2, ((r0 : Nat) : Int)), l1], [], (K, σ, n, e, s)) = (m_cl Z 65 [(2, ((q_rf K r0 4 : Nat) : Int)), (2, ((q_rf K r0 0 : Nat) : Int)), (0, 0)] (K, σ, n, e, s)).bind (m_aft (m_run Z) 102 26 [(2, ((r0 : Nat) : Int)), l1] []) := by
  refine g_aload_n (k := 0) (v := (2, ((r0 : Nat) : Int))) (by decide +kernel : decode (m_byt 102) 17 = .ok (.aload_n 0, 1)) rfl (Or.inl rfl) ?_
  refine g_getr (ci := 6) (f := 4) (by decide +kernel : decode (m_byt 102) 18 = .ok (.getfield 26, 3)) (by decide +kernel) (by decide +kernel) (by decide +kernel) h0 h1 ?_
  refine g_aload_n (k := 0) (v := (2, ((r0 : Nat) : Int))) (by decide +kernel : decode (m_byt 102) 21 = .ok (.aload_n 0, 1)) rfl (Or.inl rfl) ?_
  refine g_getr (ci := 6) (f := 0) (by decide +kernel : decode (m_byt 102) 22 = .ok (.getfield 12, 3)) (by decide +kernel) (by decide +kernel) (by decide +kernel) h0 h2 ?_
  refine g_base (by decide +kernel : decode (m_byt 102) 25 = .ok (.iconst 0, 1)) rfl rfl ?_
  show m_run Z (102, 26, [(2, ((r0 : Nat) : Int)), l1], [(0, 0), (2, ((q_rf K r0 0 : Nat) : Int)), (2, ((q_rf K r0 4 : Nat) : Int))], (K, σ, n, e, s)) = _
  exact g_inv (k := 1) (m' := 65) (np := 2) (as := [(2, ((q_rf K r0 4 : Nat) : Int)), (2, ((q_rf K r0 0 : Nat) : Int)), (0, 0)]) (by decide +kernel : decode (m_byt 102) 26 = .ok (.invokevirtual 124, 3)) (Or.inl ⟨rfl, rfl⟩) (by decide +kernel) (by decide +kernel) (by decide +kernel) (Nat.le_of_ble_eq_true rfl) rfl (Or.inr (g_rcv (by decide +kernel) h3))
theorem b_102_29 {Z : mZ} {x1 : Int} {r0 : Nat} {K : Nat → mK} {σ : Nat → Nat → Int} {n e s : Nat} (h0 : q_ob K n r0 6) : m_run Z (102, 29, [(2, ((r0 : Nat) : Int)), (0, x1)], [], (K, σ, n, e, s)) = (m_cl Z 141 [(2, ((r0 : Nat) : Int)), (0, x1)] (K, σ, n, e, s)).bind (m_aft (m_run Z) 102 31 [(2, ((r0 : Nat) : Int)), (0, x1)] []) := by
  refine g_aload_n (k := 0) (v := (2, ((r0 : Nat) : Int))) (by decide +kernel : decode (m_byt 102) 29 = .ok (.aload_n 0, 1)) rfl (Or.inl rfl) ?_
  refine g_iload_n (k := 1) (x := x1) (by decide +kernel : decode (m_byt 102) 30 = .ok (.iload_n 1, 1)) rfl ?_
  exact g_inv (k := 1) (m' := 141) (np := 1) (as := [(2, ((r0 : Nat) : Int)), (0, x1)]) (by decide +kernel : decode (m_byt 102) 31 = .ok (.invokevirtual 128, 3)) (Or.inl ⟨rfl, rfl⟩) (by decide +kernel) (by decide +kernel) (by decide +kernel) (Nat.le_of_ble_eq_true rfl) rfl (Or.inr (g_rcv (by decide +kernel) h0))
theorem b_102_34 {Z : mZ} {l0 l1 : mV} {s0 : Int} {h : mH} : m_run Z (102, 34, [l0, l1], [(0, s0)], h) = some (.inl (0, s0), h) := by
  exact g_iret (by decide +kernel : decode (m_byt 102) 34 = .ok (.ireturn, 1)) (by decide +kernel)
theorem e_103 {Z : mZ} {r0 : Nat} {x1 : Int} {x2 : Int} {h : mH} : m_cl Z 103 [(2, ((r0 : Nat) : Int)), (0, x1), (0, x2)] h = m_run Z (103, 0, [(2, ((r0 : Nat) : Int)), (0, x1), (0, x2)], [], h) := g_ent (k := 3) (by decide) (by decide +kernel) (Nat.le_of_ble_eq_true rfl) (by decide +kernel) rfl
theorem b_103_0 {Z : mZ} {l2 : mV} {x1 : Int} {r0 : Nat} {K : Nat → mK} {σ : Nat → Nat → Int} {n e s : Nat} (h0 : q_ob K n r0 6) (h1 : q_rp K r0 0) (h2 : q_ob K n (q_rf K r0 0) 1) : m_run Z (103, 0, [(2, ((r0 : Nat) : Int)), (0, x1), l2], [], (K, σ, n, e, s)) = (m_cl Z 16 [(2, ((q_rf K r0 0 : Nat) : Int)), (0, x1)] (K, σ, n, e, s)).bind (m_aft (m_run Z) 103 5 [(2, ((r0 : Nat) : Int)), (0, x1), l2] []) := by
  refine g_aload_n (k := 0) (v := (2, ((r0 : Nat) : Int))) (by decide +kernel : decode (m_byt 103) 0 = .ok (.aload_n 0, 1)) rfl (Or.inl rfl) ?_
  refine g_getr (ci := 6) (f := 0) (by decide +kernel : decode (m_byt 103) 1 = .ok (.getfield 12, 3)) (by decide +kernel) (by decide +kernel) (by decide +kernel) h0 h1 ?_
  refine g_iload_n (k := 1) (x := x1) (by decide +kernel : decode (m_byt 103) 4 = .ok (.iload_n 1, 1)) rfl ?_
  exact g_inv (k := 1) (m' := 16) (np := 1) (as := [(2, ((q_rf K r0 0 : Nat) : Int)), (0, x1)]) (by decide +kernel : decode (m_byt 103) 5 = .ok (.invokevirtual 78, 3)) (Or.inl ⟨rfl, rfl⟩) (by decide +kernel) (by decide +kernel) (by decide +kernel) (Nat.le_of_ble_eq_true rfl) rfl (Or.inr (g_rcv (by decide +kernel) h2))
theorem b_103_8 {Z : mZ} {l0 l1 l2 : mV} {s0 : Int} {h : mH} : m_run Z (103, 8, [l0, l1, l2], [(0, s0)], h) = (m_cl Z 1000 [(0, s0)] h).bind (m_aft (m_run Z) 103 8 [l0, l1, l2] []) := by
  exact g_inv (k := 0) (m' := 1000) (np := 1) (as := [(0, s0)]) (by decide +kernel : decode (m_byt 103) 8 = .ok (.invokestatic 82, 3)) (Or.inr (Or.inr ⟨rfl, rfl, by decide, by decide⟩)) (by decide +kernel) (by decide +kernel) (by decide +kernel) (Nat.le_of_ble_eq_true rfl) rfl (Or.inl rfl)
theorem b_103_11 {Z : mZ} {l0 l1 : mV} {x2 : Int} {h : mH} : m_run Z (103, 11, [l0, l1, (0, x2)], [], h) = if w32 x2 < 0 then m_run Z (103, 24, [l0, l1, (0, x2)], [], h) else m_run Z (103, 15, [l0, l1, (0, x2)], [], h) := by
  refine g_iload_n (k := 2) (x := x2) (by decide +kernel : decode (m_byt 103) 11 = .ok (.iload_n 2, 1)) rfl ?_
  exact g_brq (t := 24) (off := 12) (by decide +kernel : decode (m_byt 103) 12 = .ok (.ifCond .lt 12, 3)) rfl rfl (by decide)
theorem b_103_15 {Z : mZ} {l0 l1 : mV} {x2 : Int} {h : mH} : m_run Z (103, 15, [l0, l1, (0, x2)], [], h) = if w32 2 < w32 x2 then m_run Z (103, 24, [l0, l1, (0, x2)], [], h) else m_run Z (103, 20, [l0, l1, (0, x2)], [], h) := by
  refine g_iload_n (k := 2) (x := x2) (by decide +kernel : decode (m_byt 103) 15 = .ok (.iload_n 2, 1)) rfl ?_
  refine g_base (by decide +kernel : decode (m_byt 103) 16 = .ok (.iconst 2, 1)) rfl rfl ?_
  show m_run Z (103, 17, [l0, l1, (0, x2)], [(0, 2), (0, x2)], h) = _
  exact g_brq (t := 24) (off := 7) (by decide +kernel : decode (m_byt 103) 17 = .ok (.if_icmp .gt 7, 3)) rfl rfl (by decide)
theorem b_103_20 {Z : mZ} {l0 l1 l2 : mV} {h : mH} : m_run Z (103, 20, [l0, l1, l2], [], h) = (m_cl Z 1001 [(0, 1)] h).bind (m_aft (m_run Z) 103 25 [l0, l1, l2] []) := by
  refine g_base (by decide +kernel : decode (m_byt 103) 20 = .ok (.iconst 1, 1)) rfl rfl ?_
  show m_run Z (103, 21, [l0, l1, l2], [(0, 1)], h) = _
  refine g_jmp (t := 25) (by decide +kernel : decode (m_byt 103) 21 = .ok (.goto 4, 3)) (by decide) ?_
  exact g_inv (k := 0) (m' := 1001) (np := 1) (as := [(0, 1)]) (by decide +kernel : decode (m_byt 103) 25 = .ok (.invokestatic 53, 3)) (Or.inr (Or.inr ⟨rfl, rfl, by decide, by decide⟩)) (by decide +kernel) (by decide +kernel) (by decide +kernel) (Nat.le_of_ble_eq_true rfl) rfl (Or.inl rfl)
theorem b_103_24 {Z : mZ} {l0 l1 l2 : mV} {h : mH} : m_run Z (103, 24, [l0, l1, l2], [], h) = m_run Z (103, 25, [l0, l1, l2], [(0, 0)], h) := by
  refine g_base (by decide +kernel : decode (m_byt 103) 24 = .ok (.iconst 0, 1)) rfl rfl ?_
  show m_run Z (103, 25, [l0, l1, l2], [(0, 0)], h) = _
  rfl
theorem b_103_25 {Z : mZ} {l0 l1 l2 : mV} {s0 : Int} {h : mH} : m_run Z (103, 25, [l0, l1, l2], [(0, s0)], h) = (m_cl Z 1001 [(0, s0)] h).bind (m_aft (m_run Z) 103 25 [l0, l1, l2] []) := by
  exact g_inv (k := 0) (m' := 1001) (np := 1) (as := [(0, s0)]) (by decide +kernel : decode (m_byt 103) 25 = .ok (.invokestatic 53, 3)) (Or.inr (Or.inr ⟨rfl, rfl, by decide, by decide⟩)) (by decide +kernel) (by decide +kernel) (by decide +kernel) (Nat.le_of_ble_eq_true rfl) rfl (Or.inl rfl)
theorem b_103_28 {Z : mZ} {x1 x2 : Int} {r0 : Nat} {K : Nat → mK} {σ : Nat → Nat → Int} {n e s : Nat} (h0 : q_ob K n r0 6) (h1 : q_rp K r0 0) (h2 : q_ob K n (q_rf K r0 0) 1) : m_run Z (103, 28, [(2, ((r0 : Nat) : Int)), (0, x1), (0, x2)], [], (K, σ, n, e, s)) = (m_cl Z 29 [(2, ((q_rf K r0 0 : Nat) : Int)), (0, x1), (0, x2)] (K, σ, n, e, s)).bind (m_aft (m_run Z) 103 34 [(2, ((r0 : Nat) : Int)), (0, x1), (0, x2)] []) := by
  refine g_aload_n (k := 0) (v := (2, ((r0 : Nat) : Int))) (by decide +kernel : decode (m_byt 103) 28 = .ok (.aload_n 0, 1)) rfl (Or.inl rfl) ?_
  refine g_getr (ci := 6) (f := 0) (by decide +kernel : decode (m_byt 103) 29 = .ok (.getfield 12, 3)) (by decide +kernel) (by decide +kernel) (by decide +kernel) h0 h1 ?_
  refine g_iload_n (k := 1) (x := x1) (by decide +kernel : decode (m_byt 103) 32 = .ok (.iload_n 1, 1)) rfl ?_
  refine g_iload_n (k := 2) (x := x2) (by decide +kernel : decode (m_byt 103) 33 = .ok (.iload_n 2, 1)) rfl ?_
  exact g_inv (k := 1) (m' := 29) (np := 2) (as := [(2, ((q_rf K r0 0 : Nat) : Int)), (0, x1), (0, x2)]) (by decide +kernel : decode (m_byt 103) 34 = .ok (.invokevirtual 131, 3)) (Or.inl ⟨rfl, rfl⟩) (by decide +kernel) (by decide +kernel) (by decide +kernel) (Nat.le_of_ble_eq_true rfl) rfl (Or.inr (g_rcv (by decide +kernel) h2))
theorem b_103_37 {Z : mZ} {l0 l1 l2 : mV} {s0 : Int} {h : mH} : m_run Z (103, 37, [l0, l1, l2], [(0, s0)], h) = some (.inl (0, s0), h) := by
  exact g_iret (by decide +kernel : decode (m_byt 103) 37 = .ok (.ireturn, 1)) (by decide +kernel)
theorem e_104 {Z : mZ} {r0 : Nat} {x1 : Int} {x2 : Int} {h : mH} : m_cl Z 104 [(2, ((r0 : Nat) : Int)), (0, x1), (0, x2)] h = m_run Z (104, 0, [(2, ((r0 : Nat) : Int)), (0, x1), (0, x2)], [], h) := g_ent (k := 3) (by decide) (by decide +kernel) (Nat.le_of_ble_eq_true rfl) (by decide +kernel) rfl
theorem b_104_0 {Z : mZ} {l2 : mV} {x1 : Int} {r0 : Nat} {K : Nat → mK} {σ : Nat → Nat → Int} {n e s : Nat} (h0 : q_ob K n r0 6) (h1 : q_rp K r0 0) (h2 : q_ob K n (q_rf K r0 0) 1) : m_run Z (104, 0, [(2, ((r0 : Nat) : Int)), (0, x1), l2], [], (K, σ, n, e, s)) = (m_cl Z 15 [(2, ((q_rf K r0 0 : Nat) : Int)), (0, x1)] (K, σ, n, e, s)).bind (m_aft (m_run Z) 104 5 [(2, ((r0 : Nat) : Int)), (0, x1), l2] []) := by
  refine g_aload_n (k := 0) (v := (2, ((r0 : Nat) : Int))) (by decide +kernel : decode (m_byt 104) 0 = .ok (.aload_n 0, 1)) rfl (Or.inl rfl) ?_
  refine g_getr (ci := 6) (f := 0) (by decide +kernel : decode (m_byt 104) 1 = .ok (.getfield 12, 3)) (by decide +kernel) (by decide +kernel) (by decide +kernel) h0 h1 ?_
  refine g_iload_n (k := 1) (x := x1) (by decide +kernel : decode (m_byt 104) 4 = .ok (.iload_n 1, 1)) rfl ?_
  exact g_inv (k := 1) (m' := 15) (np := 1) (as := [(2, ((q_rf K r0 0 : Nat) : Int)), (0, x1)]) (by decide +kernel : decode (m_byt 104) 5 = .ok (.invokevirtual 134, 3)) (Or.inl ⟨rfl, rfl⟩) (by decide +kernel) (by decide +kernel) (by decide +kernel) (Nat.le_of_ble_eq_true rfl) rfl (Or.inr (g_rcv (by decide +kernel) h2))
theorem b_104_8 {Z : mZ} {l0 l1 l2 : mV} {s0 : Int} {h : mH} : m_run Z (104, 8, [l0, l1, l2], [(0, s0)], h) = (m_cl Z 1000 [(0, s0)] h).bind (m_aft (m_run Z) 104 8 [l0, l1, l2] []) := by
  exact g_inv (k := 0) (m' := 1000) (np := 1) (as := [(0, s0)]) (by decide +kernel : decode (m_byt 104) 8 = .ok (.invokestatic 82, 3)) (Or.inr (Or.inr ⟨rfl, rfl, by decide, by decide⟩)) (by decide +kernel) (by decide +kernel) (by decide +kernel) (Nat.le_of_ble_eq_true rfl) rfl (Or.inl rfl)
theorem b_104_11 {Z : mZ} {l0 l1 : mV} {x2 : Int} {h : mH} : m_run Z (104, 11, [l0, l1, (0, x2)], [], h) = if w32 x2 < 0 then m_run Z (104, 24, [l0, l1, (0, x2)], [], h) else m_run Z (104, 15, [l0, l1, (0, x2)], [], h) := by
  refine g_iload_n (k := 2) (x := x2) (by decide +kernel : decode (m_byt 104) 11 = .ok (.iload_n 2, 1)) rfl ?_
  exact g_brq (t := 24) (off := 12) (by decide +kernel : decode (m_byt 104) 12 = .ok (.ifCond .lt 12, 3)) rfl rfl (by decide)
theorem b_104_15 {Z : mZ} {l0 l1 : mV} {x2 : Int} {h : mH} : m_run Z (104, 15, [l0, l1, (0, x2)], [], h) = if w32 2 < w32 x2 then m_run Z (104, 24, [l0, l1, (0, x2)], [], h) else m_run Z (104, 20, [l0, l1, (0, x2)], [], h) := by
  refine g_iload_n (k := 2) (x := x2) (by decide +kernel : decode (m_byt 104) 15 = .ok (.iload_n 2, 1)) rfl ?_
  refine g_base (by decide +kernel : decode (m_byt 104) 16 = .ok (.iconst 2, 1)) rfl rfl ?_
  show m_run Z (104, 17, [l0, l1, (0, x2)], [(0, 2), (0, x2)], h) = _
  exact g_brq (t := 24) (off := 7) (by decide +kernel : decode (m_byt 104) 17 = .ok (.if_icmp .gt 7, 3)) rfl rfl (by decide)
theorem b_104_20 {Z : mZ} {l0 l1 l2 : mV} {h : mH} : m_run Z (104, 20, [l0, l1, l2], [], h) = (m_cl Z 1001 [(0, 1)] h).bind (m_aft (m_run Z) 104 25 [l0, l1, l2] []) := by
  refine g_base (by decide +kernel : decode (m_byt 104) 20 = .ok (.iconst 1, 1)) rfl rfl ?_
  show m_run Z (104, 21, [l0, l1, l2], [(0, 1)], h) = _
  refine g_jmp (t := 25) (by decide +kernel : decode (m_byt 104) 21 = .ok (.goto 4, 3)) (by decide) ?_
  exact g_inv (k := 0) (m' := 1001) (np := 1) (as := [(0, 1)]) (by decide +kernel : decode (m_byt 104) 25 = .ok (.invokestatic 53, 3)) (Or.inr (Or.inr ⟨rfl, rfl, by decide, by decide⟩)) (by decide +kernel) (by decide +kernel) (by decide +kernel) (Nat.le_of_ble_eq_true rfl) rfl (Or.inl rfl)
theorem b_104_24 {Z : mZ} {l0 l1 l2 : mV} {h : mH} : m_run Z (104, 24, [l0, l1, l2], [], h) = m_run Z (104, 25, [l0, l1, l2], [(0, 0)], h) := by
  refine g_base (by decide +kernel : decode (m_byt 104) 24 = .ok (.iconst 0, 1)) rfl rfl ?_
  show m_run Z (104, 25, [l0, l1, l2], [(0, 0)], h) = _
  rfl
theorem b_104_25 {Z : mZ} {l0 l1 l2 : mV} {s0 : Int} {h : mH} : m_run Z (104, 25, [l0, l1, l2], [(0, s0)], h) = (m_cl Z 1001 [(0, s0)] h).bind (m_aft (m_run Z) 104 25 [l0, l1, l2] []) := by
  exact g_inv (k := 0) (m' := 1001) (np := 1) (as := [(0, s0)]) (by decide +kernel : decode (m_byt 104) 25 = .ok (.invokestatic 53, 3)) (Or.inr (Or.inr ⟨rfl, rfl, by decide, by decide⟩)) (by decide +kernel) (by decide +kernel) (by decide +kernel) (Nat.le_of_ble_eq_true rfl) rfl (Or.inl rfl)
theorem b_104_28 {Z : mZ} {x1 x2 : Int} {r0 : Nat} {K : Nat → mK} {σ : Nat → Nat → Int} {n e s : Nat} (h0 : q_ob K n r0 6) (h1 : q_rp K r0 0) (h2 : q_ob K n (q_rf K r0 0) 1) : m_run Z (104, 28, [(2, ((r0 : Nat) : Int)), (0, x1), (0, x2)], [], (K, σ, n, e, s)) = (m_cl Z 30 [(2, ((q_rf K r0 0 : Nat) : Int)), (0, x1), (0, x2)] (K, σ, n, e, s)).bind (m_aft (m_run Z) 104 34 [(2, ((r0 : Nat) : Int)), (0, x1), (0, x2)] []) := by
  refine g_aload_n (k := 0) (v := (2, ((r0 : Nat) : Int))) (by decide +kernel : decode (m_byt 104) 28 = .ok (.aload_n 0, 1)) rfl (Or.inl rfl) ?_
  refine g_getr (ci := 6) (f := 0) (by decide +kernel : decode (m_byt 104) 29 = .ok (.getfield 12, 3)) (by decide +kernel) (by decide +kernel) (by decide +kernel) h0 h1 ?_
  refine g_iload_n (k := 1) (x := x1) (by decide +kernel : decode (m_byt 104) 32 = .ok (.iload_n 1, 1)) rfl ?_
  refine g_iload_n (k := 2) (x := x2) (by decide +kernel : decode (m_byt 104) 33 = .ok (.iload_n 2, 1)) rfl ?_
  exact g_inv (k := 1) (m' := 30) (np := 2) (as := [(2, ((q_rf K r0 0 : Nat) : Int)), (0, x1), (0, x2)]) (by decide +kernel : decode (m_byt 104) 34 = .ok (.invokevirtual 137, 3)) (Or.inl ⟨rfl, rfl⟩) (by decide +kernel) (by decide +kernel) (by decide +kernel) (Nat.le_of_ble_eq_true rfl) rfl (Or.inr (g_rcv (by decide +kernel) h2))
theorem b_104_37 {Z : mZ} {l0 l1 l2 : mV} {s0 : Int} {h : mH} : m_run Z (104, 37, [l0, l1, l2], [(0, s0)], h) = some (.inl (0, s0), h) := by
  exact g_iret (by decide +kernel : decode (m_byt 104) 37 = .ok (.ireturn, 1)) (by decide +kernel)
theorem e_105 {Z : mZ} {r0 : Nat} {x1 : Int} {x2 : Int} {h : mH} : m_cl Z 105 [(2, ((r0 : Nat) : Int)), (0, x1), (0, x2)] h = m_run Z (105, 0, [(2, ((r0 : Nat) : Int)), (0, x1), (0, x2)], [], h) := g_ent (k := 3) (by decide) (by decide +kernel) (Nat.le_of_ble_eq_true rfl) (by decide +kernel) rfl
theorem b_105_0 {Z : mZ} {l2 : mV} {x1 : Int} {r0 : Nat} {K : Nat → mK} {σ : Nat → Nat → Int} {n e s : Nat} (h0 : q_ob K n r0 6) (h1 : q_rp K r0 0) (h2 : q_ob K n (q_rf K r0 0) 1) : m_run Z (105, 0, [(2, ((r0 : Nat) : Int)), (0, x1), l2], [], (K, σ, n, e, s)) = (m_cl Z 17 [(2, ((q_rf K r0 0 : Nat) : Int)), (0, x1)] (K, σ, n, e, s)).bind (m_aft (m_run Z) 105 5 [(2, ((r0 : Nat) : Int)), (0, x1), l2] []) := by
  refine g_aload_n (k := 0) (v := (2, ((r0 : Nat) : Int))) (by decide +kernel : decode (m_byt 105) 0 = .ok (.aload_n 0, 1)) rfl (Or.inl rfl) ?_
  refine g_getr (ci := 6) (f := 0) (by decide +kernel : decode (m_byt 105) 1 = .ok (.getfield 12, 3)) (by decide +kernel) (by decide +kernel) (by decide +kernel) h0 h1 ?_
  refine g_iload_n (k := 1) (x := x1) (by decide +kernel : decode (m_byt 105) 4 = .ok (.iload_n 1, 1)) rfl ?_
  exact g_inv (k := 1) (m' := 17) (np := 1) (as := [(2, ((q_rf K r0 0 : Nat) : Int)), (0, x1)]) (by decide +kernel : decode (m_byt 105) 5 = .ok (.invokevirtual 115, 3)) (Or.inl ⟨rfl, rfl⟩) (by decide +kernel) (by decide +kernel) (by decide +kernel) (Nat.le_of_ble_eq_true rfl) rfl (Or.inr (g_rcv (by decide +kernel) h2))
theorem b_105_8 {Z : mZ} {l0 l1 l2 : mV} {s0 : Int} {h : mH} : m_run Z (105, 8, [l0, l1, l2], [(0, s0)], h) = (m_cl Z 1000 [(0, s0)] h).bind (m_aft (m_run Z) 105 8 [l0, l1, l2] []) := by
  exact g_inv (k := 0) (m' := 1000) (np := 1) (as := [(0, s0)]) (by decide +kernel : decode (m_byt 105) 8 = .ok (.invokestatic 82, 3)) (Or.inr (Or.inr ⟨rfl, rfl, by decide, by decide⟩)) (by decide +kernel) (by decide +kernel) (by decide +kernel) (Nat.le_of_ble_eq_true rfl) rfl (Or.inl rfl)
theorem b_105_11 {Z : mZ} {l0 l1 : mV} {x2 : Int} {h : mH} : m_run Z (105, 11, [l0, l1, (0, x2)], [], h) = if w32 x2 < 0 then m_run Z (105, 24, [l0, l1, (0, x2)], [], h) else m_run Z (105, 15, [l0, l1, (0, x2)], [], h) := by
  refine g_iload_n (k := 2) (x := x2) (by decide +kernel : decode (m_byt 105) 11 = .ok (.iload_n 2, 1)) rfl ?_
  exact g_brq (t := 24) (off := 12) (by decide +kernel : decode (m_byt 105) 12 = .ok (.ifCond .lt 12, 3)) rfl rfl (by decide)
theorem b_105_15 {Z : mZ} {l0 l1 : mV} {x2 : Int} {h : mH} : m_run Z (105, 15, [l0, l1, (0, x2)], [], h) = if w32 2 < w32 x2 then m_run Z (105, 24, [l0, l1, (0, x2)], [], h) else m_run Z (105, 20, [l0, l1, (0, x2)], [], h) := by
  refine g_iload_n (k := 2) (x := x2) (by decide +kernel : decode (m_byt 105) 15 = .ok (.iload_n 2, 1)) rfl ?_
  refine g_base (by decide +kernel : decode (m_byt 105) 16 = .ok (.iconst 2, 1)) rfl rfl ?_
  show m_run Z (105, 17, [l0, l1, (0, x2)], [(0, 2), (0, x2)], h) = _
  exact g_brq (t := 24) (off := 7) (by decide +kernel : decode (m_byt 105) 17 = .ok (.if_icmp .gt 7, 3)) rfl rfl (by decide)
theorem b_105_20 {Z : mZ} {l0 l1 l2 : mV} {h : mH} : m_run Z (105, 20, [l0, l1, l2], [], h) = (m_cl Z 1001 [(0, 1)] h).bind (m_aft (m_run Z) 105 25 [l0, l1, l2] []) := by
  refine g_base (by decide +kernel : decode (m_byt 105) 20 = .ok (.iconst 1, 1)) rfl rfl ?_
  show m_run Z (105, 21, [l0, l1, l2], [(0, 1)], h) = _
  refine g_jmp (t := 25) (by decide +kernel : decode (m_byt 105) 21 = .ok (.goto 4, 3)) (by decide) ?_
  exact g_inv (k := 0) (m' := 1001) (np := 1) (as := [(0, 1)]) (by decide +kernel : decode (m_byt 105) 25 = .ok (.invokestatic 53, 3)) (Or.inr (Or.inr ⟨rfl, rfl, by decide, by decide⟩)) (by decide +kernel) (by decide +kernel) (by decide +kernel) (Nat.le_of_ble_eq_true rfl) rfl (Or.inl rfl)
theorem b_105_24 {Z : mZ} {l0 l1 l2 : mV} {h : mH} : m_run Z (105, 24, [l0, l1, l2], [], h) = m_run Z (105, 25, [l0, l1, l2], [(0, 0)], h) := by
  refine g_base (by decide +kernel : decode (m_byt 105) 24 = .ok (.iconst 0, 1)) rfl rfl ?_
  show m_run Z (105, 25, [l0, l1, l2], [(0, 0)], h) = _
  rfl
theorem b_105_25 {Z : mZ} {l0 l1 l2 : mV} {s0 : Int} {h : mH} : m_run Z (105, 25, [l0, l1, l2], [(0, s0)], h) = (m_cl Z 1001 [(0, s0)] h).bind (m_aft (m_run Z) 105 25 [l0, l1, l2] []) := by
  exact g_inv (k := 0) (m' := 1001) (np := 1) (as := [(0, s0)]) (by decide +kernel : decode (m_byt 105) 25 = .ok (.invokestatic 53, 3)) (Or.inr (Or.inr ⟨rfl, rfl, by decide, by decide⟩)) (by decide +kernel) (by decide +kernel) (by decide +kernel) (Nat.le_of_ble_eq_true rfl) rfl (Or.inl rfl)
theorem b_105_28 {Z : mZ} {x1 x2 : Int} {r0 : Nat} {K : Nat → mK} {σ : Nat → Nat → Int} {n e s : Nat} (h0 : q_ob K n r0 6) (h1 : q_rp K r0 0) (h2 : q_ob K n (q_rf K r0 0) 1) : m_run Z (105, 28, [(2, ((r0 : Nat) : Int)), (0, x1), (0, x2)], [], (K, σ, n, e, s)) = (m_cl Z 32 [(2, ((q_rf K r0 0 : Nat) : Int)), (0, x1), (0, x2)] (K, σ, n, e, s)).bind (m_aft (m_run Z) 105 34 [(2, ((r0 : Nat) : Int)), (0, x1), (0, x2)] []) := by
  refine g_aload_n (k := 0) (v := (2, ((r0 : Nat) : Int))) (by decide +kernel : decode (m_byt 105) 28 = .ok (.aload_n 0, 1)) rfl (Or.inl rfl) ?_
  refine g_getr (ci := 6) (f := 0) (by decide +kernel : decode (m_byt 105) 29 = .ok (.getfield 12, 3)) (by decide +kernel) (by decide +kernel) (by decide +kernel) h0 h1 ?_
  refine g_iload_n (k := 1) (x := x1) (by decide +kernel : decode (m_byt 105) 32 = .ok (.iload_n 1, 1)) rfl ?_
  refine g_iload_n (k := 2) (x := x2) (by decide +kernel : decode (m_byt 105) 33 = .ok (.iload_n 2, 1)) rfl ?_
  exact g_inv (k := 1) (m' := 32) (np := 2) (as := [(2, ((q_rf K r0 0 : Nat) : Int)), (0, x1), (0, x2)]) (by decide +kernel : decode (m_byt 105) 34 = .ok (.invokevirtual 140, 3)) (Or.inl ⟨rfl, rfl⟩) (by decide +kernel) (by decide +kernel) (by decide +kernel) (Nat.le_of_ble_eq_true rfl) rfl (Or.inr (g_rcv (by decide +kernel) h2))
theorem b_105_37 {Z : mZ} {l0 l1 l2 : mV} {s0 : Int} {h : mH} : m_run Z (105, 37, [l0, l1, l2], [(0, s0)], h) = some (.inl (0, s0), h) := by
  exact g_iret (by decide +kernel : decode (m_byt 105) 37 = .ok (.ireturn, 1)) (by decide +kernel)
theorem e_106 {Z : mZ} {r0 : Nat} {x1 : Int} {x2 : Int} {h : mH} : m_cl Z 106 [(2, ((r0 : Nat) : Int)), (0, x1), (0, x2)] h = m_run Z (106, 0, [(2, ((r0 : Nat) : Int)), (0, x1), (0, x2), (9, 0)], [], h) := g_ent (k := 4) (by decide) (by decide +kernel) (Nat.le_of_ble_eq_true rfl) (by decide +kernel) rfl
theorem b_106_0 {Z : mZ} {l2 l3 : mV} {x1 : Int} {r0 : Nat} {K : Nat → mK} {σ : Nat → Nat → Int} {n e s : Nat} (h0 : q_ob K n r0 6) (h1 : q_rp K r0 0) (h2 : q_ob K n (q_rf K r0 0) 1) : m_run Z (106, 0, [(2, ((r0 : Nat) : Int)), (0, x1), l2, l3], [], (K, σ, n, e, s)) = (m_cl Z 15 [(2, ((q_rf K r0 0 : Nat) : Int)), (0, x1)] (K, σ, n, e, s)).bind (m_aft (m_run Z) 106 5 [(2, ((r0 : Nat) : Int)), (0, x1), l2, l3] []) := by
  refine g_aload_n (k := 0) (v := (2, ((r0 : Nat) : Int))) (by decide +kernel : decode (m_byt 106) 0 = .ok (.aload_n 0, 1)) rfl (Or.inl rfl) ?_
  refine g_getr (ci := 6) (f := 0) (by decide +kernel : decode (m_byt 106) 1 = .ok (.getfield 12, 3)) (by decide +kernel) (by decide +kernel) (by decide +kernel) h0 h1 ?_
  refine g_iload_n (k := 1) (x := x1) (by decide +kernel : decode (m_byt 106) 4 = .ok (.iload_n 1, 1)) rfl ?_
  exact g_inv (k := 1) (m' := 15) (np := 1) (as := [(2, ((q_rf K r0 0 : Nat) : Int)), (0, x1)]) (by decide +kernel : decode (m_byt 106) 5 = .ok (.invokevirtual 134, 3)) (Or.inl ⟨rfl, rfl⟩) (by decide +kernel) (by decide +kernel) (by decide +kernel) (Nat.le_of_ble_eq_true rfl) rfl (Or.inr (g_rcv (by decide +kernel) h2))
theorem b_106_8 {Z : mZ} {l0 l1 l2 l3 : mV} {s0 : Int} {h : mH} : m_run Z (106, 8, [l0, l1, l2, l3], [(0, s0)], h) = if w32 s0 = 0 then m_run Z (106, 26, [l0, l1, l2, l3], [], h) else m_run Z (106, 11, [l0, l1, l2, l3], [], h) := by
  exact g_brq (t := 26) (off := 18) (by decide +kernel : decode (m_byt 106) 8 = .ok (.ifCond .eq 18, 3)) rfl rfl (by decide)
theorem b_106_11 {Z : mZ} {l1 l3 : mV} {x2 : Int} {r0 : Nat} {K : Nat → mK} {σ : Nat → Nat → Int} {n e s : Nat} (h0 : q_ob K n r0 6) (h1 : q_rp K r0 0) (h2 : q_ob K n (q_rf K r0 0) 1) : m_run Z (106, 11, [(2, ((r0 : Nat) : Int)), l1, (0, x2), l3], [], (K, σ, n, e, s)) = (m_cl Z 15 [(2, ((q_rf K r0 0 : Nat) : Int)), (0, x2)] (K, σ, n, e, s)).bind (m_aft (m_run Z) 106 16 [(2, ((r0 : Nat) : Int)), l1, (0, x2), l3] []) := by
  refine g_aload_n (k := 0) (v := (2, ((r0 : Nat) : Int))) (by decide +kernel : decode (m_byt 106) 11 = .ok (.aload_n 0, 1)) rfl (Or.inl rfl) ?_
  refine g_getr (ci := 6) (f := 0) (by decide +kernel : decode (m_byt 106) 12 = .ok (.getfield 12, 3)) (by decide +kernel) (by decide +kernel) (by decide +kernel) h0 h1 ?_
  refine g_iload_n (k := 2) (x := x2) (by decide +kernel : decode (m_byt 106) 15 = .ok (.iload_n 2, 1)) rfl ?_
  exact g_inv (k := 1) (m' := 15) (np := 1) (as := [(2, ((q_rf K r0 0 : Nat) : Int)), (0, x2)]) (by decide +kernel : decode (m_byt 106) 16 = .ok (.invokevirtual 134, 3)) (Or.inl ⟨rfl, rfl⟩) (by decide +kernel) (by decide +kernel) (by decide +kernel) (Nat.le_of_ble_eq_true rfl) rfl (Or.inr (g_rcv (by decide +kernel) h2))
theorem b_106_19 {Z : mZ} {l0 l1 l2 l3 : mV} {s0 : Int} {h : mH} : m_run Z (106, 19, [l0, l1, l2, l3], [(0, s0)], h) = if w32 s0 = 0 then m_run Z (106, 26, [l0, l1, l2, l3], [], h) else m_run Z (106, 22, [l0, l1, l2, l3], [], h) := by
  exact g_brq (t := 26) (off := 7) (by decide +kernel : decode (m_byt 106) 19 = .ok (.ifCond .eq 7, 3)) rfl rfl (by decide)
theorem b_106_22 {Z : mZ} {l0 l1 l2 l3 : mV} {h : mH} : m_run Z (106, 22, [l0, l1, l2, l3], [], h) = (m_cl Z 1000 [(0, 1)] h).bind (m_aft (m_run Z) 106 27 [l0, l1, l2, l3] []) := by
  refine g_base (by decide +kernel : decode (m_byt 106) 22 = .ok (.iconst 1, 1)) rfl rfl ?_
  show m_run Z (106, 23, [l0, l1, l2, l3], [(0, 1)], h) = _
  refine g_jmp (t := 27) (by decide +kernel : decode (m_byt 106) 23 = .ok (.goto 4, 3)) (by decide) ?_
  exact g_inv (k := 0) (m' := 1000) (np := 1) (as := [(0, 1)]) (by decide +kernel : decode (m_byt 106) 27 = .ok (.invokestatic 82, 3)) (Or.inr (Or.inr ⟨rfl, rfl, by decide, by decide⟩)) (by decide +kernel) (by decide +kernel) (by decide +kernel) (Nat.le_of_ble_eq_true rfl) rfl (Or.inl rfl)
theorem b_106_26 {Z : mZ} {l0 l1 l2 l3 : mV} {h : mH} : m_run Z (106, 26, [l0, l1, l2, l3], [], h) = m_run Z (106, 27, [l0, l1, l2, l3], [(0, 0)], h) := by
  refine g_base (by decide +kernel : decode (m_byt 106) 26 = .ok (.iconst 0, 1)) rfl rfl ?_
  show m_run Z (106, 27, [l0, l1, l2, l3], [(0, 0)], h) = _
  rfl
theorem b_106_27 {Z : mZ} {l0 l1 l2 l3 : mV} {s0 : Int} {h : mH} : m_run Z (106, 27, [l0, l1, l2, l3], [(0, s0)], h) = (m_cl Z 1000 [(0, s0)] h).bind (m_aft (m_run Z) 106 27 [l0, l1, l2, l3] []) := by
  exact g_inv (k := 0) (m' := 1000) (np := 1) (as := [(0, s0)]) (by decide +kernel : decode (m_byt 106) 27 = .ok (.invokestatic 82, 3)) (Or.inr (Or.inr ⟨rfl, rfl, by decide, by decide⟩)) (by decide +kernel) (by decide +kernel) (by decide +kernel) (Nat.le_of_ble_eq_true rfl) rfl (Or.inl rfl)
theorem b_106_30 {Z : mZ} {l1 l2 l3 : mV} {r0 : Nat} {K : Nat → mK} {σ : Nat → Nat → Int} {n e s : Nat} (h0 : q_ob K n r0 6) (h1 : q_rp K r0 4) (h2 : q_rp K r0 0) (h3 : q_ob K n (q_rf K r0 4) 5) : m_run Z (106, 30, [(2, ((r0 : Nat) : Int)), l1, l2, l3], [], (K, σ, n, e, s)) = (m_cl Z 65 [(2, ((q_rf K r0 4 : Nat) : Int)), (2, ((q_rf K r0 0 : Nat) : Int)), (0, 0)] (K, σ, n, e, s)).bind (m_aft (m_run Z) 106 39 [(2, ((r0 : Nat) : Int)), l1, l2, l3] []) := by
  refine g_aload_n (k := 0) (v := (2, ((r0 : Nat) : Int))) (by decide +kernel : decode (m_byt 106) 30 = .ok (.aload_n 0, 1)) rfl (Or.inl rfl) ?_
  refine g_getr (ci := 6) (f := 4) (by decide +kernel : decode (m_byt 106) 31 = .ok (.getfield 26, 3)) (by decide +kernel) (by decide +kernel) (by decide +kernel) h0 h1 ?_
  refine g_aload_n (k := 0) (v := (2, ((r0 : Nat) : Int))) (by decide +kernel : decode (m_byt 106) 34 = .ok (.aload_n 0, 1)) rfl (Or.inl rfl) ?_
  refine g_getr (ci := 6) (f := 0) (by decide +kernel : decode (m_byt 106) 35 = .ok (.getfield 12, 3)) (by decide +kernel) (by decide +kernel) (by decide +kernel) h0 h2 ?_
  refine g_base (by decide +kernel : decode (m_byt 106) 38 = .ok (.iconst 0, 1)) rfl rfl ?_
  show m_run Z (106, 39, [(2, ((r0 : Nat) : Int)), l1, l2, l3], [(0, 0), (2, ((q_rf K r0 0 : Nat) : Int)), (2, ((q_rf K r0 4 : Nat) : Int))], (K, σ, n, e, s)) = _
  exact g_inv (k := 1) (m' := 65) (np := 2) (as := [(2, ((q_rf K r0 4 : Nat) : Int)), (2, ((q_rf K r0 0 : Nat) : Int)), (0, 0)]) (by decide +kernel : decode (m_byt 106) 39 = .ok (.invokevirtual 124, 3)) (Or.inl ⟨rfl, rfl⟩) (by decide +kernel) (by decide +kernel) (by decide +kernel) (Nat.le_of_ble_eq_true rfl) rfl (Or.inr (g_rcv (by decide +kernel) h3))
theorem b_106_42 {Z : mZ} {l3 : mV} {x1 x2 : Int} {r0 : Nat} {K : Nat → mK} {σ : Nat → Nat → Int} {n e s : Nat} (h0 : q_ob K n r0 6) (h1 : q_rp K r0 4) (h2 : q_ob K n (q_rf K r0 4) 5) : m_run Z (106, 42, [(2, ((r0 : Nat) : Int)), (0, x1), (0, x2), l3], [], (K, σ, n, e, s)) = (m_cl Z 71 [(2, ((q_rf K r0 4 : Nat) : Int)), (0, x1), (0, x2)] (K, σ, n, e, s)).bind (m_aft (m_run Z) 106 48 [(2, ((r0 : Nat) : Int)), (0, x1), (0, x2), l3] []) := by
  refine g_aload_n (k := 0) (v := (2, ((r0 : Nat) : Int))) (by decide +kernel : decode (m_byt 106) 42 = .ok (.aload_n 0, 1)) rfl (Or.inl rfl) ?_
  refine g_getr (ci := 6) (f := 4) (by decide +kernel : decode (m_byt 106) 43 = .ok (.getfield 26, 3)) (by decide +kernel) (by decide +kernel) (by decide +kernel) h0 h1 ?_
  refine g_iload_n (k := 1) (x := x1) (by decide +kernel : decode (m_byt 106) 46 = .ok (.iload_n 1, 1)) rfl ?_
  refine g_iload_n (k := 2) (x := x2) (by decide +kernel : decode (m_byt 106) 47 = .ok (.iload_n 2, 1)) rfl ?_
  exact g_inv (k := 1) (m' := 71) (np := 2) (as := [(2, ((q_rf K r0 4 : Nat) : Int)), (0, x1), (0, x2)]) (by decide +kernel : decode (m_byt 106) 48 = .ok (.invokevirtual 143, 3)) (Or.inl ⟨rfl, rfl⟩) (by decide +kernel) (by decide +kernel) (by decide +kernel) (Nat.le_of_ble_eq_true rfl) rfl (Or.inr (g_rcv (by decide +kernel) h2))
theorem b_106_51 {Z : mZ} {l0 l1 l3 : mV} {s0 x2 : Int} {h : mH} : m_run Z (106, 51, [l0, l1, (0, x2), l3], [(0, s0)], h) = if w32 1000000 ≤ w32 s0 then m_run Z (106, 62, [l0, l1, (0, x2), (0, s0)], [], h) else m_run Z (106, 58, [l0, l1, (0, x2), (0, s0)], [], h) := by
  refine g_istore_n (k := 3) (by decide +kernel : decode (m_byt 106) 51 = .ok (.istore_n 3, 1)) (Nat.le_of_ble_eq_true rfl) ?_
  show m_run Z (106, 52, [l0, l1, (0, x2), (0, s0)], [], h) = _
  refine g_iload_n (k := 3) (x := s0) (by decide +kernel : decode (m_byt 106) 52 = .ok (.iload_n 3, 1)) rfl ?_
  refine g_base (by decide +kernel : decode (m_byt 106) 53 = .ok (.ldc 146, 2)) rfl rfl ?_
  show m_run Z (106, 55, [l0, l1, (0, x2), (0, s0)], [(0, 1000000), (0, s0)], h) = _
  exact g_brq (t := 62) (off := 7) (by decide +kernel : decode (m_byt 106) 55 = .ok (.if_icmp .ge 7, 3)) rfl rfl (by decide)
theorem b_106_58 {Z : mZ} {l0 l1 l2 : mV} {x3 : Int} {h : mH} : m_run Z (106, 58, [l0, l1, l2, (0, x3)], [], h) = some (.inl (0, x3), h) := by
  refine g_iload_n (k := 3) (x := x3) (by decide +kernel : decode (m_byt 106) 58 = .ok (.iload_n 3, 1)) rfl ?_
  refine g_jmp (t := 63) (by decide +kernel : decode (m_byt 106) 59 = .ok (.goto 4, 3)) (by decide) ?_
  exact g_iret (by decide +kernel : decode (m_byt 106) 63 = .ok (.ireturn, 1)) (by decide +kernel)
theorem b_106_62 {Z : mZ} {l0 l1 l2 l3 : mV} {h : mH} : m_run Z (106, 62, [l0, l1, l2, l3], [], h) = m_run Z (106, 63, [l0, l1, l2, l3], [(0, (-1))], h) := by
  refine g_base (by decide +kernel : decode (m_byt 106) 62 = .ok (.iconst (-1), 1)) rfl rfl ?_
  show m_run Z (106, 63, [l0, l1, l2, l3], [(0, (-1))], h) = _
  rfl
theorem b_106_63 {Z : mZ} {l0 l1 l2 l3 : mV} {s0 : Int} {h : mH} : m_run Z (106, 63, [l0, l1, l2, l3], [(0, s0)], h) = some (.inl (0, s0), h) := by
  exact g_iret (by decide +kernel : decode (m_byt 106) 63 = .ok (.ireturn, 1)) (by decide +kernel)
theorem e_107 {Z : mZ} {r0 : Nat} {x1 : Int} {x2 : Int} {h : mH} : m_cl Z 107 [(2, ((r0 : Nat) : Int)), (0, x1), (0, x2)] h = m_run Z (107, 0, [(2, ((r0 : Nat) : Int)), (0, x1), (0, x2)], [], h) := g_ent (k := 3) (by decide) (by decide +kernel) (Nat.le_of_ble_eq_true rfl) (by decide +kernel) rfl
theorem b_107_0 {Z : mZ} {l2 : mV} {x1 : Int} {r0 : Nat} {K : Nat → mK} {σ : Nat → Nat → Int} {n e s : Nat} (h0 : q_ob K n r0 6) (h1 : q_rp K r0 0) (h2 : q_ob K n (q_rf K r0 0) 1) : m_run Z (107, 0, [(2, ((r0 : Nat) : Int)), (0, x1), l2], [], (K, σ, n, e, s)) = (m_cl Z 15 [(2, ((q_rf K r0 0 : Nat) : Int)), (0, x1)] (K, σ, n, e, s)).bind (m_aft (m_run Z) 107 5 [(2, ((r0 : Nat) : Int)), (0, x1), l2] []) := by
  refine g_aload_n (k := 0) (v := (2, ((r0 : Nat) : Int))) (by decide +kernel : decode (m_byt 107) 0 = .ok (.aload_n 0, 1)) rfl (Or.inl rfl) ?_
  refine g_getr (ci := 6) (f := 0) (by decide +kernel : decode (m_byt 107) 1 = .ok (.getfield 12, 3)) (by decide +kernel) (by decide +kernel) (by decide +kernel) h0 h1 ?_
  refine g_iload_n (k := 1) (x := x1) (by decide +kernel : decode (m_byt 107) 4 = .ok (.iload_n 1, 1)) rfl ?_
  exact g_inv (k := 1) (m' := 15) (np := 1) (as := [(2, ((q_rf K r0 0 : Nat) : Int)), (0, x1)]) (by decide +kernel : decode (m_byt 107) 5 = .ok (.invokevirtual 134, 3)) (Or.inl ⟨rfl, rfl⟩) (by decide +kernel) (by decide +kernel) (by decide +kernel) (Nat.le_of_ble_eq_true rfl) rfl (Or.inr (g_rcv (by decide +kernel) h2))
theorem b_107_8 {Z : mZ} {l0 l1 l2 : mV} {s0 : Int} {h : mH} : m_run Z (107, 8, [l0, l1, l2], [(0, s0)], h) = if w32 s0 = 0 then m_run Z (107, 26, [l0, l1, l2], [], h) else m_run Z (107, 11, [l0, l1, l2], [], h) := by
  exact g_brq (t := 26) (off := 18) (by decide +kernel : decode (m_byt 107) 8 = .ok (.ifCond .eq 18, 3)) rfl rfl (by decide)
theorem b_107_11 {Z : mZ} {l1 : mV} {x2 : Int} {r0 : Nat} {K : Nat → mK} {σ : Nat → Nat → Int} {n e s : Nat} (h0 : q_ob K n r0 6) (h1 : q_rp K r0 0) (h2 : q_ob K n (q_rf K r0 0) 1) : m_run Z (107, 11, [(2, ((r0 : Nat) : Int)), l1, (0, x2)], [], (K, σ, n, e, s)) = (m_cl Z 15 [(2, ((q_rf K r0 0 : Nat) : Int)), (0, x2)] (K, σ, n, e, s)).bind (m_aft (m_run Z) 107 16 [(2, ((r0 : Nat) : Int)), l1, (0, x2)] []) := by
  refine g_aload_n (k := 0) (v := (2, ((r0 : Nat) : Int))) (by decide +kernel : decode (m_byt 107) 11 = .ok (.aload_n 0, 1)) rfl (Or.inl rfl) ?_
  refine g_getr (ci := 6) (f := 0) (by decide +kernel : decode (m_byt 107) 12 = .ok (.getfield 12, 3)) (by decide +kernel) (by decide +kernel) (by decide +kernel) h0 h1 ?_
  refine g_iload_n (k := 2) (x := x2) (by decide +kernel : decode (m_byt 107) 15 = .ok (.iload_n 2, 1)) rfl ?_
  exact g_inv (k := 1) (m' := 15) (np := 1) (as := [(2, ((q_rf K r0 0 : Nat) : Int)), (0, x2)]) (by decide +kernel : decode (m_byt 107) 16 = .ok (.invokevirtual 134, 3)) (Or.inl ⟨rfl, rfl⟩) (by decide +kernel) (by decide +kernel) (by decide +kernel) (Nat.le_of_ble_eq_true rfl) rfl (Or.inr (g_rcv (by decide +kernel) h2))
theorem b_107_19 {Z : mZ} {l0 l1 l2 : mV} {s0 : Int} {h : mH} : m_run Z (107, 19, [l0, l1, l2], [(0, s0)], h) = if w32 s0 = 0 then m_run Z (107, 26, [l0, l1, l2], [], h) else m_run Z (107, 22, [l0, l1, l2], [], h) := by
  exact g_brq (t := 26) (off := 7) (by decide +kernel : decode (m_byt 107) 19 = .ok (.ifCond .eq 7, 3)) rfl rfl (by decide)
theorem b_107_22 {Z : mZ} {l0 l1 l2 : mV} {h : mH} : m_run Z (107, 22, [l0, l1, l2], [], h) = (m_cl Z 1000 [(0, 1)] h).bind (m_aft (m_run Z) 107 27 [l0, l1, l2] []) := by
  refine g_base (by decide +kernel : decode (m_byt 107) 22 = .ok (.iconst 1, 1)) rfl rfl ?_
  show m_run Z (107, 23, [l0, l1, l2], [(0, 1)], h) = _
  refine g_jmp (t := 27) (by decide +kernel : decode (m_byt 107) 23 = .ok (.goto 4, 3)) (by decide) ?_
  exact g_inv (k := 0) (m' := 1000) (np := 1) (as := [(0, 1)]) (by decide +kernel : decode (m_byt 107) 27 = .ok (.invokestatic 82, 3)) (Or.inr (Or.inr ⟨rfl, rfl, by decide, by decide⟩)) (by decide +kernel) (by decide +kernel) (by decide +kernel) (Nat.le_of_ble_eq_true rfl) rfl (Or.inl rfl)
theorem b_107_26 {Z : mZ} {l0 l1 l2 : mV} {h : mH} : m_run Z (107, 26, [l0, l1, l2], [], h) = m_run Z (107, 27, [l0, l1, l2], [(0, 0)], h) := by
  refine g_base (by decide +kernel : decode (m_byt 107) 26 = .ok (.iconst 0, 1)) rfl rfl ?_
  show m_run Z (107, 27, [l0, l1, l2], [(0, 0)], h) = _
  rfl
theorem b_107_27 {Z : mZ} {l0 l1 l2 : mV} {s0 : Int} {h : mH} : m_run Z (107, 27, [l0, l1, l2], [(0, s0)], h) = (m_cl Z 1000 [(0, s0)] h).bind (m_aft (m_run Z) 107 27 [l0, l1, l2] []) := by
  exact g_inv (k := 0) (m' := 1000) (np := 1) (as := [(0, s0)]) (by decide +kernel : decode (m_byt 107) 27 = .ok (.invokestatic 82, 3)) (Or.inr (Or.inr ⟨rfl, rfl, by decide, by decide⟩)) (by decide +kernel) (by decide +kernel) (by decide +kernel) (Nat.le_of_ble_eq_true rfl) rfl (Or.inl rfl)
theorem b_107_30 {Z : mZ} {l1 l2 : mV} {r0 : Nat} {K : Nat → mK} {σ : Nat → Nat → Int} {n e s : Nat} (h0 : q_ob K n r0 6) (h1 : q_rp K r0 4) (h2 : q_rp K r0 0) (h3 : q_ob K n (q_rf K r0 4) 5) : m_run Z (107, 30, [(2, ((r0 : Nat) : Int)), l1, l2], [], (K, σ, n, e, s)) = (m_cl Z 65 [(2, ((q_rf K r0 4 : Nat) : Int)), (2, ((q_rf K r0 0 : Nat) : Int)), (0, 0)] (K, σ, n, e, s)).bind (m_aft (m_run Z) 107 39 [(2, ((r0 : Nat) : Int)), l1, l2] []) := by
  refine g_aload_n (k := 0) (v := (2, ((r0 : Nat) : Int))) (by decide +kernel : decode (m_byt 107) 30 = .ok (.aload_n 0, 1)) rfl (Or.inl rfl) ?_
  refine g_getr (ci := 6) (f := 4) (by decide +kernel : decode (m_byt 107) 31 = .ok (.getfield 26, 3)) (by decide +kernel) (by decide +kernel) (by decide +kernel) h0 h1 ?_
  refine g_aload_n (k := 0) (v := (2, ((r0 : Nat) : Int))) (by decide +kernel : decode (m_byt 107) 34 = .ok (.aload_n 0, 1)) rfl (Or.inl rfl) ?_
  refine g_getr (ci := 6) (f := 0) (by decide +kernel : decode (m_byt 107) 35 = .ok (.getfield 12, 3)) (by decide +kernel) (by decide +kernel) (by decide +kernel) h0 h2 ?_
  refine g_base (by decide +kernel : decode (m_byt 107) 38 = .ok (.iconst 0, 1)) rfl rfl ?_
  show m_run Z (107, 39, [(2, ((r0 : Nat) : Int)), l1, l2], [(0, 0), (2, ((q_rf K r0 0 : Nat) : Int)), (2, ((q_rf K r0 4 : Nat) : Int))], (K, σ, n, e, s)) = _
  exact g_inv (k := 1) (m' := 65) (np := 2) (as := [(2, ((q_rf K r0 4 : Nat) : Int)), (2, ((q_rf K r0 0 : Nat) : Int)), (0, 0)]) (by decide +kernel : decode (m_byt 107) 39 = .ok (.invokevirtual 124, 3)) (Or.inl ⟨rfl, rfl⟩) (by decide +kernel) (by decide +kernel) (by decide +kernel) (Nat.le_of_ble_eq_true rfl) rfl (Or.inr (g_rcv (by decide +kernel) h3))
theorem b_107_42 {Z : mZ} {x1 x2 : Int} {r0 : Nat} {K : Nat → mK} {σ : Nat → Nat → Int} {n e s : Nat} (h0 : q_ob K n r0 6) (h1 : q_rp K r0 4) (h2 : q_ob K n (q_rf K r0 4) 5) : m_run Z (107, 42, [(2, ((r0 : Nat) : Int)), (0, x1), (0, x2)], [], (K, σ, n, e, s)) = (m_cl Z 76 [(2, ((q_rf K r0 4 : Nat) : Int)), (0, x1), (0, x2)] (K, σ, n, e, s)).bind (m_aft (m_run Z) 107 48 [(2, ((r0 : Nat) : Int)), (0, x1), (0, x2)] []) := by
  refine g_aload_n (k := 0) (v := (2, ((r0 : Nat) : Int))) (by decide +kernel : decode (m_byt 107) 42 = .ok (.aload_n 0, 1)) rfl (Or.inl rfl) ?_
  refine g_getr (ci := 6) (f := 4) (by decide +kernel : decode (m_byt 107) 43 = .ok (.getfield 26, 3)) (by decide +kernel) (by decide +kernel) (by decide +kernel) h0 h1 ?_
  refine g_iload_n (k := 1) (x := x1) (by decide +kernel : decode (m_byt 107) 46 = .ok (.iload_n 1, 1)) rfl ?_
  refine g_iload_n (k := 2) (x := x2) (by decide +kernel : decode (m_byt 107) 47 = .ok (.iload_n 2, 1)) rfl ?_
  exact g_inv (k := 1) (m' := 76) (np := 2) (as := [(2, ((q_rf K r0 4 : Nat) : Int)), (0, x1), (0, x2)]) (by decide +kernel : decode (m_byt 107) 48 = .ok (.invokevirtual 147, 3)) (Or.inl ⟨rfl, rfl⟩) (by decide +kernel) (by decide +kernel) (by decide +kernel) (Nat.le_of_ble_eq_true rfl) rfl (Or.inr (g_rcv (by decide +kernel) h2))
theorem b_107_51 {Z : mZ} {l0 l1 l2 : mV} {s0 : Int} {h : mH} : m_run Z (107, 51, [l0, l1, l2], [(0, s0)], h) = some (.inl (0, s0), h) := by
  exact g_iret (by decide +kernel : decode (m_byt 107) 51 = .ok (.ireturn, 1)) (by decide +kernel)
theorem e_108 {Z : mZ} {r0 : Nat} {h : mH} : m_cl Z 108 [(2, ((r0 : Nat) : Int))] h = m_run Z (108, 0, [(2, ((r0 : Nat) : Int))], [], h) := g_ent (k := 1) (by decide) (by decide +kernel) (Nat.le_of_ble_eq_true rfl) (by decide +kernel) rfl
theorem b_108_0 {Z : mZ} {r0 : Nat} {K : Nat → mK} {σ : Nat → Nat → Int} {n e s : Nat} (h0 : q_ob K n r0 6) (h1 : q_rp K r0 4) (h2 : q_rp K r0 0) (h3 : q_ob K n (q_rf K r0 4) 5) : m_run Z (108, 0, [(2, ((r0 : Nat) : Int))], [], (K, σ, n, e, s)) = (m_cl Z 65 [(2, ((q_rf K r0 4 : Nat) : Int)), (2, ((q_rf K r0 0 : Nat) : Int)), (0, 0)] (K, σ, n, e, s)).bind (m_aft (m_run Z) 108 9 [(2, ((r0 : Nat) : Int))] []) := by
  refine g_aload_n (k := 0) (v := (2, ((r0 : Nat) : Int))) (by decide +kernel : decode (m_byt 108) 0 = .ok (.aload_n 0, 1)) rfl (Or.inl rfl) ?_
  refine g_getr (ci := 6) (f := 4) (by decide +kernel : decode (m_byt 108) 1 = .ok (.getfield 26, 3)) (by decide +kernel) (by decide +kernel) (by decide +kernel) h0 h1 ?_
  refine g_aload_n (k := 0) (v := (2, ((r0 : Nat) : Int))) (by decide +kernel : decode (m_byt 108) 4 = .ok (.aload_n 0, 1)) rfl (Or.inl rfl) ?_
  refine g_getr (ci := 6) (f := 0) (by decide +kernel : decode (m_byt 108) 5 = .ok (.getfield 12, 3)) (by decide +kernel) (by decide +kernel) (by decide +kernel) h0 h2 ?_
  refine g_base (by decide +kernel : decode (m_byt 108) 8 = .ok (.iconst 0, 1)) rfl rfl ?_
  show m_run Z (108, 9, [(2, ((r0 : Nat) : Int))], [(0, 0), (2, ((q_rf K r0 0 : Nat) : Int)), (2, ((q_rf K r0 4 : Nat) : Int))], (K, σ, n, e, s)) = _
  exact g_inv (k := 1) (m' := 65) (np := 2) (as := [(2, ((q_rf K r0 4 : Nat) : Int)), (2, ((q_rf K r0 0 : Nat) : Int)), (0, 0)]) (by decide +kernel : decode (m_byt 108) 9 = .ok (.invokevirtual 124, 3)) (Or.inl ⟨rfl, rfl⟩) (by decide +kernel) (by decide +kernel) (by decide +kernel) (Nat.le_of_ble_eq_true rfl) rfl (Or.inr (g_rcv (by decide +kernel) h3))
theorem b_108_12 {Z : mZ} {r0 : Nat} {K : Nat → mK} {σ : Nat → Nat → Int} {n e s : Nat} (h0 : q_ob K n r0 6) (h1 : q_rp K r0 4) (h2 : q_ob K n (q_rf K r0 4) 5) : m_run Z (108, 12, [(2, ((r0 : Nat) : Int))], [], (K, σ, n, e, s)) = if w32 (σ ((q_rf K r0 4)) 3) = 0 then m_run Z (108, 32, [(2, ((r0 : Nat) : Int))], [], (K, σ, n, e, s)) else m_run Z (108, 22, [(2, ((r0 : Nat) : Int))], [], (K, σ, n, e, s)) := by
  refine g_aload_n (k := 0) (v := (2, ((r0 : Nat) : Int))) (by decide +kernel : decode (m_byt 108) 12 = .ok (.aload_n 0, 1)) rfl (Or.inl rfl) ?_
  refine g_getr (ci := 6) (f := 4) (by decide +kernel : decode (m_byt 108) 13 = .ok (.getfield 26, 3)) (by decide +kernel) (by decide +kernel) (by decide +kernel) h0 h1 ?_
  refine g_getf (ci := 5) (f := 3) (by decide +kernel : decode (m_byt 108) 16 = .ok (.getfield 150, 3)) (by decide +kernel) (by decide +kernel) (by decide +kernel) h2 ?_
  exact g_brq (t := 32) (off := 13) (by decide +kernel : decode (m_byt 108) 19 = .ok (.ifCond .eq 13, 3)) rfl rfl (by decide)
theorem b_108_22 {Z : mZ} {r0 : Nat} {K : Nat → mK} {σ : Nat → Nat → Int} {n e s : Nat} (h0 : q_ob K n r0 6) (h1 : q_rp K r0 4) (h2 : q_ob K n (q_rf K r0 4) 5) : m_run Z (108, 22, [(2, ((r0 : Nat) : Int))], [], (K, σ, n, e, s)) = (m_cl Z 75 [(2, ((q_rf K r0 4 : Nat) : Int))] (K, σ, n, e, s)).bind (m_aft (m_run Z) 108 26 [(2, ((r0 : Nat) : Int))] []) := by
  refine g_aload_n (k := 0) (v := (2, ((r0 : Nat) : Int))) (by decide +kernel : decode (m_byt 108) 22 = .ok (.aload_n 0, 1)) rfl (Or.inl rfl) ?_
  refine g_getr (ci := 6) (f := 4) (by decide +kernel : decode (m_byt 108) 23 = .ok (.getfield 26, 3)) (by decide +kernel) (by decide +kernel) (by decide +kernel) h0 h1 ?_
  exact g_inv (k := 1) (m' := 75) (np := 0) (as := [(2, ((q_rf K r0 4 : Nat) : Int))]) (by decide +kernel : decode (m_byt 108) 26 = .ok (.invokevirtual 154, 3)) (Or.inl ⟨rfl, rfl⟩) (by decide +kernel) (by decide +kernel) (by decide +kernel) (Nat.le_of_ble_eq_true rfl) rfl (Or.inr (g_rcv (by decide +kernel) h2))
theorem b_108_29 {Z : mZ} {l0 : mV} {s0 : Int} {h : mH} : m_run Z (108, 29, [l0], [(0, s0)], h) = some (.inl (0, s0), h) := by
  refine g_jmp (t := 33) (by decide +kernel : decode (m_byt 108) 29 = .ok (.goto 4, 3)) (by decide) ?_
  exact g_iret (by decide +kernel : decode (m_byt 108) 33 = .ok (.ireturn, 1)) (by decide +kernel)
theorem b_108_32 {Z : mZ} {l0 : mV} {h : mH} : m_run Z (108, 32, [l0], [], h) = m_run Z (108, 33, [l0], [(0, (-1))], h) := by
  refine g_base (by decide +kernel : decode (m_byt 108) 32 = .ok (.iconst (-1), 1)) rfl rfl ?_
  show m_run Z (108, 33, [l0], [(0, (-1))], h) = _
  rfl
theorem b_108_33 {Z : mZ} {l0 : mV} {s0 : Int} {h : mH} : m_run Z (108, 33, [l0], [(0, s0)], h) = some (.inl (0, s0), h) := by
  exact g_iret (by decide +kernel : decode (m_byt 108) 33 = .ok (.ireturn, 1)) (by decide +kernel)
theorem e_109 {Z : mZ} {r0 : Nat} {x1 : Int} {x2 : Int} {x3 : Int} {x4 : Int} {x5 : Int} {h : mH} : m_cl Z 109 [(2, ((r0 : Nat) : Int)), (0, x1), (0, x2), (0, x3), (0, x4), (0, x5)] h = m_run Z (109, 0, [(2, ((r0 : Nat) : Int)), (0, x1), (0, x2), (0, x3), (0, x4), (0, x5)], [], h) := g_ent (k := 6) (by decide) (by decide +kernel) (Nat.le_of_ble_eq_true rfl) (by decide +kernel) rfl
theorem b_109_0 {Z : mZ} {l2 l3 l4 l5 : mV} {x1 : Int} {r0 : Nat} {K : Nat → mK} {σ : Nat → Nat → Int} {n e s : Nat} (h0 : q_ob K n r0 6) (h1 : q_rp K r0 0) (h2 : q_ob K n (q_rf K r0 0) 1) : m_run Z (109, 0, [(2, ((r0 : Nat) : Int)), (0, x1), l2, l3, l4, l5], [], (K, σ, n, e, s)) = (m_cl Z 15 [(2, ((q_rf K r0 0 : Nat) : Int)), (0, x1)] (K, σ, n, e, s)).bind (m_aft (m_run Z) 109 5 [(2, ((r0 : Nat) : Int)), (0, x1), l2, l3, l4, l5] []) := by
  refine g_aload_n (k := 0) (v := (2, ((r0 : Nat) : Int))) (by decide +kernel : decode (m_byt 109) 0 = .ok (.aload_n 0, 1)) rfl (Or.inl rfl) ?_
  refine g_getr (ci := 6) (f := 0) (by decide +kernel : decode (m_byt 109) 1 = .ok (.getfield 12, 3)) (by decide +kernel) (by decide +kernel) (by decide +kernel) h0 h1 ?_
  refine g_iload_n (k := 1) (x := x1) (by decide +kernel : decode (m_byt 109) 4 = .ok (.iload_n 1, 1)) rfl ?_
  exact g_inv (k := 1) (m' := 15) (np := 1) (as := [(2, ((q_rf K r0 0 : Nat) : Int)), (0, x1)]) (by decide +kernel : decode (m_byt 109) 5 = .ok (.invokevirtual 134, 3)) (Or.inl ⟨rfl, rfl⟩) (by decide +kernel) (by decide +kernel) (by decide +kernel) (Nat.le_of_ble_eq_true rfl) rfl (Or.inr (g_rcv (by decide +kernel) h2))
theorem b_109_8 {Z : mZ} {l0 l1 l2 l3 l4 l5 : mV} {s0 : Int} {h : mH} : m_run Z (109, 8, [l0, l1, l2, l3, l4, l5], [(0, s0)], h) = if w32 s0 = 0 then m_run Z (109, 26, [l0, l1, l2, l3, l4, l5], [], h) else m_run Z (109, 11, [l0, l1, l2, l3, l4, l5], [], h) := by
  exact g_brq (t := 26) (off := 18) (by decide +kernel : decode (m_byt 109) 8 = .ok (.ifCond .eq 18, 3)) rfl rfl (by decide)
theorem b_109_11 {Z : mZ} {l1 l3 l4 l5 : mV} {x2 : Int} {r0 : Nat} {K : Nat → mK} {σ : Nat → Nat → Int} {n e s : Nat} (h0 : q_ob K n r0 6) (h1 : q_rp K r0 0) (h2 : q_ob K n (q_rf K r0 0) 1) : m_run Z (109, 11, [(2, ((r0 : Nat) : Int)), l1, (0, x2), l3, l4, l5], [], (K, σ, n, e, s)) = (m_cl Z 16 [(2, ((q_rf K r0 0 : Nat) : Int)), (0, x2)] (K, σ, n, e, s)).bind (m_aft (m_run Z) 109 16 [(2, ((r0 : Nat) : Int)), l1, (0, x2), l3, l4, l5] []) := by
  refine g_aload_n (k := 0) (v := (2, ((r0 : Nat) : Int))) (by decide +kernel : decode (m_byt 109) 11 = .ok (.aload_n 0, 1)) rfl (Or.inl rfl) ?_
  refine g_getr (ci := 6) (f := 0) (by decide +kernel : decode (m_byt 109) 12 = .ok (.getfield 12, 3)) (by decide +kernel) (by decide +kernel) (by decide +kernel) h0 h1 ?_
  refine g_iload_n (k := 2) (x := x2) (by decide +kernel : decode (m_byt 109) 15 = .ok (.iload_n 2, 1)) rfl ?_
  exact g_inv (k := 1) (m' := 16) (np := 1) (as := [(2, ((q_rf K r0 0 : Nat) : Int)), (0, x2)]) (by decide +kernel : decode (m_byt 109) 16 = .ok (.invokevirtual 78, 3)) (Or.inl ⟨rfl, rfl⟩) (by decide +kernel) (by decide +kernel) (by decide +kernel) (Nat.le_of_ble_eq_true rfl) rfl (Or.inr (g_rcv (by decide +kernel) h2))
theorem b_109_19 {Z : mZ} {l0 l1 l2 l3 l4 l5 : mV} {s0 : Int} {h : mH} : m_run Z (109, 19, [l0, l1, l2, l3, l4, l5], [(0, s0)], h) = if w32 s0 = 0 then m_run Z (109, 26, [l0, l1, l2, l3, l4, l5], [], h) else m_run Z (109, 22, [l0, l1, l2, l3, l4, l5], [], h) := by
  exact g_brq (t := 26) (off := 7) (by decide +kernel : decode (m_byt 109) 19 = .ok (.ifCond .eq 7, 3)) rfl rfl (by decide)
theorem b_109_22 {Z : mZ} {l0 l1 l2 l3 l4 l5 : mV} {h : mH} : m_run Z (109, 22, [l0, l1, l2, l3, l4, l5], [], h) = (m_cl Z 1000 [(0, 1)] h).bind (m_aft (m_run Z) 109 27 [l0, l1, l2, l3, l4, l5] []) := by
  refine g_base (by decide +kernel : decode (m_byt 109) 22 = .ok (.iconst 1, 1)) rfl rfl ?_
  show m_run Z (109, 23, [l0, l1, l2, l3, l4, l5], [(0, 1)], h) = _
  refine g_jmp (t := 27) (by decide +kernel : decode (m_byt 109) 23 = .ok (.goto 4, 3)) (by decide) ?_
  exact g_inv (k := 0) (m' := 1000) (np := 1) (as := [(0, 1)]) (by decide +kernel : decode (m_byt 109) 27 = .ok (.invokestatic 82, 3)) (Or.inr (Or.inr ⟨rfl, rfl, by decide, by decide⟩)) (by decide +kernel) (by decide +kernel) (by decide +kernel) (Nat.le_of_ble_eq_true rfl) rfl (Or.inl rfl)
theorem b_109_26 {Z : mZ} {l0 l1 l2 l3 l4 l5 : mV} {h : mH} : m_run Z (109, 26, [l0, l1, l2, l3, l4, l5], [], h) = m_run Z (109, 27, [l0, l1, l2, l3, l4, l5], [(0, 0)], h) := by
  refine g_base (by decide +kernel : decode (m_byt 109) 26 = .ok (.iconst 0, 1)) rfl rfl ?_
  show m_run Z (109, 27, [l0, l1, l2, l3, l4, l5], [(0, 0)], h) = _
  rfl
theorem b_109_27 {Z : mZ} {l0 l1 l2 l3 l4 l5 : mV} {s0 : Int} {h : mH} : m_run Z (109, 27, [l0, l1, l2, l3, l4, l5], [(0, s0)], h) = (m_cl Z 1000 [(0, s0)] h).bind (m_aft (m_run Z) 109 27 [l0, l1, l2, l3, l4, l5] []) := by
  exact g_inv (k := 0) (m' := 1000) (np := 1) (as := [(0, s0)]) (by decide +kernel : decode (m_byt 109) 27 = .ok (.invokestatic 82, 3)) (Or.inr (Or.inr ⟨rfl, rfl, by decide, by decide⟩)) (by decide +kernel) (by decide +kernel) (by decide +kernel) (Nat.le_of_ble_eq_true rfl) rfl (Or.inl rfl)
theorem b_109_30 {Z : mZ} {l1 l5 : mV} {x2 x3 x4 : Int} {r0 : Nat} {K : Nat → mK} {σ : Nat → Nat → Int} {n e s : Nat} (h0 : q_ob K n r0 6) (h1 : q_rp K r0 0) (h2 : q_ob K n (q_rf K r0 0) 1) : m_run Z (109, 30, [(2, ((r0 : Nat) : Int)), l1, (0, x2), (0, x3), (0, x4), l5], [], (K, σ, n, e, s)) = (m_cl Z 20 [(2, ((q_rf K r0 0 : Nat) : Int)), (0, x2), (0, x3), (0, x4)] (K, σ, n, e, s)).bind (m_aft (m_run Z) 109 38 [(2, ((r0 : Nat) : Int)), l1, (0, x2), (0, x3), (0, x4), l5] []) := by
  refine g_aload_n (k := 0) (v := (2, ((r0 : Nat) : Int))) (by decide +kernel : decode (m_byt 109) 30 = .ok (.aload_n 0, 1)) rfl (Or.inl rfl) ?_
  refine g_getr (ci := 6) (f := 0) (by decide +kernel : decode (m_byt 109) 31 = .ok (.getfield 12, 3)) (by decide +kernel) (by decide +kernel) (by decide +kernel) h0 h1 ?_
  refine g_iload_n (k := 2) (x := x2) (by decide +kernel : decode (m_byt 109) 34 = .ok (.iload_n 2, 1)) rfl ?_
  refine g_iload_n (k := 3) (x := x3) (by decide +kernel : decode (m_byt 109) 35 = .ok (.iload_n 3, 1)) rfl ?_
  refine g_iload (k := 4) (x := x4) (by decide +kernel : decode (m_byt 109) 36 = .ok (.iload 4, 2)) rfl ?_
  exact g_inv (k := 1) (m' := 20) (np := 3) (as := [(2, ((q_rf K r0 0 : Nat) : Int)), (0, x2), (0, x3), (0, x4)]) (by decide +kernel : decode (m_byt 109) 38 = .ok (.invokevirtual 158, 3)) (Or.inl ⟨rfl, rfl⟩) (by decide +kernel) (by decide +kernel) (by decide +kernel) (Nat.le_of_ble_eq_true rfl) rfl (Or.inr (g_rcv (by decide +kernel) h2))
theorem b_109_41 {Z : mZ} {l0 l1 l2 l3 l4 l5 : mV} {s0 : Int} {h : mH} : m_run Z (109, 41, [l0, l1, l2, l3, l4, l5], [(0, s0)], h) = if w32 s0 = 0 then m_run Z (109, 56, [l0, l1, l2, l3, l4, l5], [], h) else m_run Z (109, 44, [l0, l1, l2, l3, l4, l5], [], h) := by
  exact g_brq (t := 56) (off := 15) (by decide +kernel : decode (m_byt 109) 41 = .ok (.ifCond .eq 15, 3)) rfl rfl (by decide)
theorem b_109_44 {Z : mZ} {l0 l1 l2 l3 l4 : mV} {x5 : Int} {h : mH} : m_run Z (109, 44, [l0, l1, l2, l3, l4, (0, x5)], [], h) = (m_cl Z 134 [(0, x5)] h).bind (m_aft (m_run Z) 109 46 [l0, l1, l2, l3, l4, (0, x5)] []) := by
  refine g_iload (k := 5) (x := x5) (by decide +kernel : decode (m_byt 109) 44 = .ok (.iload 5, 2)) rfl ?_
  exact g_inv (k := 0) (m' := 134) (np := 1) (as := [(0, x5)]) (by decide +kernel : decode (m_byt 109) 46 = .ok (.invokestatic 162, 3)) (Or.inr (Or.inr ⟨rfl, rfl, by decide, by decide⟩)) (by decide +kernel) (by decide +kernel) (by decide +kernel) (Nat.le_of_ble_eq_true rfl) rfl (Or.inl rfl)
theorem b_109_49 {Z : mZ} {l0 l1 l2 l3 l4 l5 : mV} {s0 : Int} {h : mH} : m_run Z (109, 49, [l0, l1, l2, l3, l4, l5], [(0, s0)], h) = if w32 s0 = 0 then m_run Z (109, 56, [l0, l1, l2, l3, l4, l5], [], h) else m_run Z (109, 52, [l0, l1, l2, l3, l4, l5], [], h) := by
  exact g_brq (t := 56) (off := 7) (by decide +kernel : decode (m_byt 109) 49 = .ok (.ifCond .eq 7, 3)) rfl rfl (by decide)
theorem b_109_52 {Z : mZ} {l0 l1 l2 l3 l4 l5 : mV} {h : mH} : m_run Z (109, 52, [l0, l1, l2, l3, l4, l5], [], h) = (m_cl Z 1001 [(0, 1)] h).bind (m_aft (m_run Z) 109 57 [l0, l1, l2, l3, l4, l5] []) := by
  refine g_base (by decide +kernel : decode (m_byt 109) 52 = .ok (.iconst 1, 1)) rfl rfl ?_
  show m_run Z (109, 53, [l0, l1, l2, l3, l4, l5], [(0, 1)], h) = _
  refine g_jmp (t := 57) (by decide +kernel : decode (m_byt 109) 53 = .ok (.goto 4, 3)) (by decide) ?_
  exact g_inv (k := 0) (m' := 1001) (np := 1) (as := [(0, 1)]) (by decide +kernel : decode (m_byt 109) 57 = .ok (.invokestatic 53, 3)) (Or.inr (Or.inr ⟨rfl, rfl, by decide, by decide⟩)) (by decide +kernel) (by decide +kernel) (by decide +kernel) (Nat.le_of_ble_eq_true rfl) rfl (Or.inl rfl)
theorem b_109_56 {Z : mZ} {l0 l1 l2 l3 l4 l5 : mV} {h : mH} : m_run Z (109, 56, [l0, l1, l2, l3, l4, l5], [], h) = m_run Z (109, 57, [l0, l1, l2, l3, l4, l5], [(0, 0)], h) := by
  refine g_base (by decide +kernel : decode (m_byt 109) 56 = .ok (.iconst 0, 1)) rfl rfl ?_
  show m_run Z (109, 57, [l0, l1, l2, l3, l4, l5], [(0, 0)], h) = _
  rfl
theorem b_109_57 {Z : mZ} {l0 l1 l2 l3 l4 l5 : mV} {s0 : Int} {h : mH} : m_run Z (109, 57, [l0, l1, l2, l3, l4, l5], [(0, s0)], h) = (m_cl Z 1001 [(0, s0)] h).bind (m_aft (m_run Z) 109 57 [l0, l1, l2, l3, l4, l5] []) := by
  exact g_inv (k := 0) (m' := 1001) (np := 1) (as := [(0, s0)]) (by decide +kernel : decode (m_byt 109) 57 = .ok (.invokestatic 53, 3)) (Or.inr (Or.inr ⟨rfl, rfl, by decide, by decide⟩)) (by decide +kernel) (by decide +kernel) (by decide +kernel) (Nat.le_of_ble_eq_true rfl) rfl (Or.inl rfl)
theorem b_109_60 {Z : mZ} {l1 l2 l3 l4 l5 : mV} {r0 : Nat} {K : Nat → mK} {σ : Nat → Nat → Int} {n e s : Nat} (h0 : q_ob K n r0 6) (h1 : q_rp K r0 4) (h2 : q_rp K r0 0) (h3 : q_ob K n (q_rf K r0 4) 5) : m_run Z (109, 60, [(2, ((r0 : Nat) : Int)), l1, l2, l3, l4, l5], [], (K, σ, n, e, s)) = (m_cl Z 65 [(2, ((q_rf K r0 4 : Nat) : Int)), (2, ((q_rf K r0 0 : Nat) : Int)), (0, 0)] (K, σ, n, e, s)).bind (m_aft (m_run Z) 109 69 [(2, ((r0 : Nat) : Int)), l1, l2, l3, l4, l5] []) := by
  refine g_aload_n (k := 0) (v := (2, ((r0 : Nat) : Int))) (by decide +kernel : decode (m_byt 109) 60 = .ok (.aload_n 0, 1)) rfl (Or.inl rfl) ?_
  refine g_getr (ci := 6) (f := 4) (by decide +kernel : decode (m_byt 109) 61 = .ok (.getfield 26, 3)) (by decide +kernel) (by decide +kernel) (by decide +kernel) h0 h1 ?_
  refine g_aload_n (k := 0) (v := (2, ((r0 : Nat) : Int))) (by decide +kernel : decode (m_byt 109) 64 = .ok (.aload_n 0, 1)) rfl (Or.inl rfl) ?_
  refine g_getr (ci := 6) (f := 0) (by decide +kernel : decode (m_byt 109) 65 = .ok (.getfield 12, 3)) (by decide +kernel) (by decide +kernel) (by decide +kernel) h0 h2 ?_
  refine g_base (by decide +kernel : decode (m_byt 109) 68 = .ok (.iconst 0, 1)) rfl rfl ?_
  show m_run Z (109, 69, [(2, ((r0 : Nat) : Int)), l1, l2, l3, l4, l5], [(0, 0), (2, ((q_rf K r0 0 : Nat) : Int)), (2, ((q_rf K r0 4 : Nat) : Int))], (K, σ, n, e, s)) = _
  exact g_inv (k := 1) (m' := 65) (np := 2) (as := [(2, ((q_rf K r0 4 : Nat) : Int)), (2, ((q_rf K r0 0 : Nat) : Int)), (0, 0)]) (by decide +kernel : decode (m_byt 109) 69 = .ok (.invokevirtual 124, 3)) (Or.inl ⟨rfl, rfl⟩) (by decide +kernel) (by decide +kernel) (by decide +kernel) (Nat.le_of_ble_eq_true rfl) rfl (Or.inr (g_rcv (by decide +kernel) h3))
theorem b_109_72 {Z : mZ} {l3 l4 l5 : mV} {x1 x2 : Int} {r0 : Nat} {K : Nat → mK} {σ : Nat → Nat → Int} {n e s : Nat} (h0 : q_ob K n r0 6) (h1 : q_rp K r0 4) (h2 : q_rp K r0 0) (h3 : q_ob K n (q_rf K r0 0) 1) (h4 : q_rp K (q_rf K r0 0) 5) (h5 : q_ob K n (q_rf K ((q_rf K r0 0)) 5) 3) : m_run Z (109, 72, [(2, ((r0 : Nat) : Int)), (0, x1), (0, x2), l3, l4, l5], [], (K, σ, n, e, s)) = (m_cl Z 44 [(2, ((q_rf K ((q_rf K r0 0)) 5 : Nat) : Int)), (0, x2)] (K, σ, n, e, s)).bind (m_aft (m_run Z) 109 85 [(2, ((r0 : Nat) : Int)), (0, x1), (0, x2), l3, l4, l5] [(0, x1), (2, ((q_rf K r0 4 : Nat) : Int))]) := by
  refine g_aload_n (k := 0) (v := (2, ((r0 : Nat) : Int))) (by decide +kernel : decode (m_byt 109) 72 = .ok (.aload_n 0, 1)) rfl (Or.inl rfl) ?_
  refine g_getr (ci := 6) (f := 4) (by decide +kernel : decode (m_byt 109) 73 = .ok (.getfield 26, 3)) (by decide +kernel) (by decide +kernel) (by decide +kernel) h0 h1 ?_
  refine g_iload_n (k := 1) (x := x1) (by decide +kernel : decode (m_byt 109) 76 = .ok (.iload_n 1, 1)) rfl ?_
  refine g_aload_n (k := 0) (v := (2, ((r0 : Nat) : Int))) (by decide +kernel : decode (m_byt 109) 77 = .ok (.aload_n 0, 1)) rfl (Or.inl rfl) ?_
  refine g_getr (ci := 6) (f := 0) (by decide +kernel : decode (m_byt 109) 78 = .ok (.getfield 12, 3)) (by decide +kernel) (by decide +kernel) (by decide +kernel) h0 h2 ?_
  refine g_getr (ci := 1) (f := 5) (by decide +kernel : decode (m_byt 109) 81 = .ok (.getfield 165, 3)) (by decide +kernel) (by decide +kernel) (by decide +kernel) h3 h4 ?_
  refine g_iload_n (k := 2) (x := x2) (by decide +kernel : decode (m_byt 109) 84 = .ok (.iload_n 2, 1)) rfl ?_
  exact g_inv (k := 1) (m' := 44) (np := 1) (as := [(2, ((q_rf K ((q_rf K r0 0)) 5 : Nat) : Int)), (0, x2)]) (by decide +kernel : decode (m_byt 109) 85 = .ok (.invokevirtual 97, 3)) (Or.inl ⟨rfl, rfl⟩) (by decide +kernel) (by decide +kernel) (by decide +kernel) (Nat.le_of_ble_eq_true rfl) rfl (Or.inr (g_rcv (by decide +kernel) h5))
theorem b_109_88 {Z : mZ} {l0 l1 l2 l3 l4 l5 : mV} {s0 s1 : Int} {s2 : Nat} {K : Nat → mK} {σ : Nat → Nat → Int} {n e s : Nat} (h0 : q_ob K n s2 5) : m_run Z (109, 88, [l0, l1, l2, l3, l4, l5], [(0, s0), (0, s1), (2, ((s2 : Nat) : Int))], (K, σ, n, e, s)) = (m_cl Z 71 [(2, ((s2 : Nat) : Int)), (0, s1), (0, s0)] (K, σ, n, e, s)).bind (m_aft (m_run Z) 109 88 [l0, l1, l2, l3, l4, l5] []) := by
  exact g_inv (k := 1) (m' := 71) (np := 2) (as := [(2, ((s2 : Nat) : Int)), (0, s1), (0, s0)]) (by decide +kernel : decode (m_byt 109) 88 = .ok (.invokevirtual 143, 3)) (Or.inl ⟨rfl, rfl⟩) (by decide +kernel) (by decide +kernel) (by decide +kernel) (Nat.le_of_ble_eq_true rfl) rfl (Or.inr (g_rcv (by decide +kernel) h0))
theorem b_109_91 {Z : mZ} {l0 l1 l2 l3 l4 l5 : mV} {s0 : Int} {h : mH} : m_run Z (109, 91, [l0, l1, l2, l3, l4, l5], [(0, s0)], h) = if w32 1000000 ≤ w32 s0 then m_run Z (109, 100, [l0, l1, l2, l3, l4, l5], [], h) else m_run Z (109, 96, [l0, l1, l2, l3, l4, l5], [], h) := by
  refine g_base (by decide +kernel : decode (m_byt 109) 91 = .ok (.ldc 146, 2)) rfl rfl ?_
  show m_run Z (109, 93, [l0, l1, l2, l3, l4, l5], [(0, 1000000), (0, s0)], h) = _
  exact g_brq (t := 100) (off := 7) (by decide +kernel : decode (m_byt 109) 93 = .ok (.if_icmp .ge 7, 3)) rfl rfl (by decide)
theorem b_109_96 {Z : mZ} {l0 l1 l2 l3 l4 l5 : mV} {h : mH} : m_run Z (109, 96, [l0, l1, l2, l3, l4, l5], [], h) = (m_cl Z 1002 [(0, 1)] h).bind (m_aft (m_run Z) 109 101 [l0, l1, l2, l3, l4, l5] []) := by
  refine g_base (by decide +kernel : decode (m_byt 109) 96 = .ok (.iconst 1, 1)) rfl rfl ?_
  show m_run Z (109, 97, [l0, l1, l2, l3, l4, l5], [(0, 1)], h) = _
  refine g_jmp (t := 101) (by decide +kernel : decode (m_byt 109) 97 = .ok (.goto 4, 3)) (by decide) ?_
  exact g_inv (k := 0) (m' := 1002) (np := 1) (as := [(0, 1)]) (by decide +kernel : decode (m_byt 109) 101 = .ok (.invokestatic 168, 3)) (Or.inr (Or.inr ⟨rfl, rfl, by decide, by decide⟩)) (by decide +kernel) (by decide +kernel) (by decide +kernel) (Nat.le_of_ble_eq_true rfl) rfl (Or.inl rfl)
theorem b_109_100 {Z : mZ} {l0 l1 l2 l3 l4 l5 : mV} {h : mH} : m_run Z (109, 100, [l0, l1, l2, l3, l4, l5], [], h) = m_run Z (109, 101, [l0, l1, l2, l3, l4, l5], [(0, 0)], h) := by
  refine g_base (by decide +kernel : decode (m_byt 109) 100 = .ok (.iconst 0, 1)) rfl rfl ?_
  show m_run Z (109, 101, [l0, l1, l2, l3, l4, l5], [(0, 0)], h) = _
  rfl
theorem b_109_101 {Z : mZ} {l0 l1 l2 l3 l4 l5 : mV} {s0 : Int} {h : mH} : m_run Z (109, 101, [l0, l1, l2, l3, l4, l5], [(0, s0)], h) = (m_cl Z 1002 [(0, s0)] h).bind (m_aft (m_run Z) 109 101 [l0, l1, l2, l3, l4, l5] []) := by
  exact g_inv (k := 0) (m' := 1002) (np := 1) (as := [(0, s0)]) (by decide +kernel : decode (m_byt 109) 101 = .ok (.invokestatic 168, 3)) (Or.inr (Or.inr ⟨rfl, rfl, by decide, by decide⟩)) (by decide +kernel) (by decide +kernel) (by decide +kernel) (Nat.le_of_ble_eq_true rfl) rfl (Or.inl rfl)
theorem b_109_104 {Z : mZ} {l5 : mV} {x1 x2 x3 x4 : Int} {r0 : Nat} {K : Nat → mK} {σ : Nat → Nat → Int} {n e s : Nat} (h0 : q_ob K n r0 6) (h1 : q_rp K r0 4) (h2 : q_ob K n (q_rf K r0 4) 5) : m_run Z (109, 104, [(2, ((r0 : Nat) : Int)), (0, x1), (0, x2), (0, x3), (0, x4), l5], [], (K, σ, n, e, s)) = (m_cl Z 79 [(2, ((q_rf K r0 4 : Nat) : Int)), (0, x1), (0, x2), (0, x3), (0, x4)] (K, σ, n, e, s)).bind (m_aft (m_run Z) 109 113 [(2, ((r0 : Nat) : Int)), (0, x1), (0, x2), (0, x3), (0, x4), l5] []) := by
  refine g_aload_n (k := 0) (v := (2, ((r0 : Nat) : Int))) (by decide +kernel : decode (m_byt 109) 104 = .ok (.aload_n 0, 1)) rfl (Or.inl rfl) ?_
  refine g_getr (ci := 6) (f := 4) (by decide +kernel : decode (m_byt 109) 105 = .ok (.getfield 26, 3)) (by decide +kernel) (by decide +kernel) (by decide +kernel) h0 h1 ?_
  refine g_iload_n (k := 1) (x := x1) (by decide +kernel : decode (m_byt 109) 108 = .ok (.iload_n 1, 1)) rfl ?_
  refine g_iload_n (k := 2) (x := x2) (by decide +kernel : decode (m_byt 109) 109 = .ok (.iload_n 2, 1)) rfl ?_
  refine g_iload_n (k := 3) (x := x3) (by decide +kernel : decode (m_byt 109) 110 = .ok (.iload_n 3, 1)) rfl ?_
  refine g_iload (k := 4) (x := x4) (by decide +kernel : decode (m_byt 109) 111 = .ok (.iload 4, 2)) rfl ?_
  exact g_inv (k := 1) (m' := 79) (np := 4) (as := [(2, ((q_rf K r0 4 : Nat) : Int)), (0, x1), (0, x2), (0, x3), (0, x4)]) (by decide +kernel : decode (m_byt 109) 113 = .ok (.invokevirtual 171, 3)) (Or.inl ⟨rfl, rfl⟩) (by decide +kernel) (by decide +kernel) (by decide +kernel) (Nat.le_of_ble_eq_true rfl) rfl (Or.inr (g_rcv (by decide +kernel) h2))
theorem b_109_116 {Z : mZ} {l0 l1 l2 l3 : mV} {s0 x4 x5 : Int} {h : mH} : m_run Z (109, 116, [l0, l1, l2, l3, (0, x4), (0, x5)], [(0, s0)], h) = (m_cl Z 135 [(0, s0), (0, x4), (0, x5)] h).bind (m_aft (m_run Z) 109 120 [l0, l1, l2, l3, (0, x4), (0, x5)] []) := by
  refine g_iload (k := 4) (x := x4) (by decide +kernel : decode (m_byt 109) 116 = .ok (.iload 4, 2)) rfl ?_
  refine g_iload (k := 5) (x := x5) (by decide +kernel : decode (m_byt 109) 118 = .ok (.iload 5, 2)) rfl ?_
  exact g_inv (k := 0) (m' := 135) (np := 3) (as := [(0, s0), (0, x4), (0, x5)]) (by decide +kernel : decode (m_byt 109) 120 = .ok (.invokestatic 175, 3)) (Or.inr (Or.inr ⟨rfl, rfl, by decide, by decide⟩)) (by decide +kernel) (by decide +kernel) (by decide +kernel) (Nat.le_of_ble_eq_true rfl) rfl (Or.inl rfl)
theorem b_109_123 {Z : mZ} {l0 l1 l2 l3 l4 l5 : mV} {s0 : Int} {h : mH} : m_run Z (109, 123, [l0, l1, l2, l3, l4, l5], [(0, s0)], h) = some (.inl (0, s0), h) := by
  exact g_iret (by decide +kernel : decode (m_byt 109) 123 = .ok (.ireturn, 1)) (by decide +kernel)
theorem e_110 {Z : mZ} {r0 : Nat} {x1 : Int} {x2 : Int} {x3 : Int} {h : mH} : m_cl Z 110 [(2, ((r0 : Nat) : Int)), (0, x1), (0, x2), (0, x3)] h = m_run Z (110, 0, [(2, ((r0 : Nat) : Int)), (0, x1), (0, x2), (0, x3)], [], h) := g_ent (k := 4) (by decide) (by decide +kernel) (Nat.le_of_ble_eq_true rfl) (by decide +kernel) rfl
theorem b_110_0 {Z : mZ} {l2 l3 : mV} {x1 : Int} {r0 : Nat} {K : Nat → mK} {σ : Nat → Nat → Int} {n e s : Nat} (h0 : q_ob K n r0 6) (h1 : q_rp K r0 0) (h2 : q_ob K n (q_rf K r0 0) 1) : m_run Z (110, 0, [(2, ((r0 : Nat) : Int)), (0, x1), l2, l3], [], (K, σ, n, e, s)) = (m_cl Z 16 [(2, ((q_rf K r0 0 : Nat) : Int)), (0, x1)] (K, σ, n, e, s)).bind (m_aft (m_run Z) 110 5 [(2, ((r0 : Nat) : Int)), (0, x1), l2, l3] []) := by
  refine g_aload_n (k := 0) (v := (2, ((r0 : Nat) : Int))) (by decide +kernel : decode (m_byt 110) 0 = .ok (.aload_n 0, 1)) rfl (Or.inl rfl) ?_
  refine g_getr (ci := 6) (f := 0) (by decide +kernel : decode (m_byt 110) 1 = .ok (.getfield 12, 3)) (by decide +kernel) (by decide +kernel) (by decide +kernel) h0 h1 ?_
  refine g_iload_n (k := 1) (x := x1) (by decide +kernel : decode (m_byt 110) 4 = .ok (.iload_n 1, 1)) rfl ?_
  exact g_inv (k := 1) (m' := 16) (np := 1) (as := [(2, ((q_rf K r0 0 : Nat) : Int)), (0, x1)]) (by decide +kernel : decode (m_byt 110) 5 = .ok (.invokevirtual 78, 3)) (Or.inl ⟨rfl, rfl⟩) (by decide +kernel) (by decide +kernel) (by decide +kernel) (Nat.le_of_ble_eq_true rfl) rfl (Or.inr (g_rcv (by decide +kernel) h2))
theorem b_110_8 {Z : mZ} {l0 l1 l2 l3 : mV} {s0 : Int} {h : mH} : m_run Z (110, 8, [l0, l1, l2, l3], [(0, s0)], h) = (m_cl Z 1000 [(0, s0)] h).bind (m_aft (m_run Z) 110 8 [l0, l1, l2, l3] []) := by
  exact g_inv (k := 0) (m' := 1000) (np := 1) (as := [(0, s0)]) (by decide +kernel : decode (m_byt 110) 8 = .ok (.invokestatic 82, 3)) (Or.inr (Or.inr ⟨rfl, rfl, by decide, by decide⟩)) (by decide +kernel) (by decide +kernel) (by decide +kernel) (Nat.le_of_ble_eq_true rfl) rfl (Or.inl rfl)
theorem b_110_11 {Z : mZ} {x1 x2 x3 : Int} {r0 : Nat} {K : Nat → mK} {σ : Nat → Nat → Int} {n e s : Nat} (h0 : q_ob K n r0 6) (h1 : q_rp K r0 0) (h2 : q_ob K n (q_rf K r0 0) 1) : m_run Z (110, 11, [(2, ((r0 : Nat) : Int)), (0, x1), (0, x2), (0, x3)], [], (K, σ, n, e, s)) = (m_cl Z 20 [(2, ((q_rf K r0 0 : Nat) : Int)), (0, x1), (0, x2), (0, x3)] (K, σ, n, e, s)).bind (m_aft (m_run Z) 110 18 [(2, ((r0 : Nat) : Int)), (0, x1), (0, x2), (0, x3)] []) := by
  refine g_aload_n (k := 0) (v := (2, ((r0 : Nat) : Int))) (by decide +kernel : decode (m_byt 110) 11 = .ok (.aload_n 0, 1)) rfl (Or.inl rfl) ?_
  refine g_getr (ci := 6) (f := 0) (by decide +kernel : decode (m_byt 110) 12 = .ok (.getfield 12, 3)) (by decide +kernel) (by decide +kernel) (by decide +kernel) h0 h1 ?_
  refine g_iload_n (k := 1) (x := x1) (by decide +kernel : decode (m_byt 110) 15 = .ok (.iload_n 1, 1)) rfl ?_
  refine g_iload_n (k := 2) (x := x2) (by decide +kernel : decode (m_byt 110) 16 = .ok (.iload_n 2, 1)) rfl ?_
  refine g_iload_n (k := 3) (x := x3) (by decide +kernel : decode (m_byt 110) 17 = .ok (.iload_n 3, 1)) rfl ?_
  exact g_inv (k := 1) (m' := 20) (np := 3) (as := [(2, ((q_rf K r0 0 : Nat) : Int)), (0, x1), (0, x2), (0, x3)]) (by decide +kernel : decode (m_byt 110) 18 = .ok (.invokevirtual 158, 3)) (Or.inl ⟨rfl, rfl⟩) (by decide +kernel) (by decide +kernel) (by decide +kernel) (Nat.le_of_ble_eq_true rfl) rfl (Or.inr (g_rcv (by decide +kernel) h2))
theorem b_110_21 {Z : mZ} {l0 l1 l2 l3 : mV} {s0 : Int} {h : mH} : m_run Z (110, 21, [l0, l1, l2, l3], [(0, s0)], h) = (m_cl Z 1001 [(0, s0)] h).bind (m_aft (m_run Z) 110 21 [l0, l1, l2, l3] []) := by
  exact g_inv (k := 0) (m' := 1001) (np := 1) (as := [(0, s0)]) (by decide +kernel : decode (m_byt 110) 21 = .ok (.invokestatic 53, 3)) (Or.inr (Or.inr ⟨rfl, rfl, by decide, by decide⟩)) (by decide +kernel) (by decide +kernel) (by decide +kernel) (Nat.le_of_ble_eq_true rfl) rfl (Or.inl rfl)
theorem b_110_24 {Z : mZ} {x1 x2 x3 : Int} {r0 : Nat} {K : Nat → mK} {σ : Nat → Nat → Int} {n e s : Nat} (h0 : q_ob K n r0 6) (h1 : q_rp K r0 0) (h2 : q_ob K n (q_rf K r0 0) 1) : m_run Z (110, 24, [(2, ((r0 : Nat) : Int)), (0, x1), (0, x2), (0, x3)], [], (K, σ, n, e, s)) = (m_cl Z 33 [(2, ((q_rf K r0 0 : Nat) : Int)), (0, x1), (0, x2), (0, x3)] (K, σ, n, e, s)).bind (m_aft (m_run Z) 110 31 [(2, ((r0 : Nat) : Int)), (0, x1), (0, x2), (0, x3)] []) := by
  refine g_aload_n (k := 0) (v := (2, ((r0 : Nat) : Int))) (by decide +kernel : decode (m_byt 110) 24 = .ok (.aload_n 0, 1)) rfl (Or.inl rfl) ?_
  refine g_getr (ci := 6) (f := 0) (by decide +kernel : decode (m_byt 110) 25 = .ok (.getfield 12, 3)) (by decide +kernel) (by decide +kernel) (by decide +kernel) h0 h1 ?_
  refine g_iload_n (k := 1) (x := x1) (by decide +kernel : decode (m_byt 110) 28 = .ok (.iload_n 1, 1)) rfl ?_
  refine g_iload_n (k := 2) (x := x2) (by decide +kernel : decode (m_byt 110) 29 = .ok (.iload_n 2, 1)) rfl ?_
  refine g_iload_n (k := 3) (x := x3) (by decide +kernel : decode (m_byt 110) 30 = .ok (.iload_n 3, 1)) rfl ?_
  exact g_inv (k := 1) (m' := 33) (np := 3) (as := [(2, ((q_rf K r0 0 : Nat) : Int)), (0, x1), (0, x2), (0, x3)]) (by decide +kernel : decode (m_byt 110) 31 = .ok (.invokevirtual 178, 3)) (Or.inl ⟨rfl, rfl⟩) (by decide +kernel) (by decide +kernel) (by decide +kernel) (Nat.le_of_ble_eq_true rfl) rfl (Or.inr (g_rcv (by decide +kernel) h2))
theorem b_110_34 {Z : mZ} {l0 l1 l2 l3 : mV} {s0 : Int} {h : mH} (h0 : w32 s0 = 0 ∨ w32 s0 = 1) : m_run Z (110, 34, [l0, l1, l2, l3], [(0, s0)], h) = some (.inl (0, s0), h) := by
  exact g_zret (by decide +kernel : decode (m_byt 110) 34 = .ok (.ireturn, 1)) (by decide +kernel) h0
theorem e_111 {Z : mZ} {r0 : Nat} {x1 : Int} {x2 : Int} {x3 : Int} {x4 : Int} {x5 : Int} {h : mH} : m_cl Z 111 [(2, ((r0 : Nat) : Int)), (0, x1), (0, x2), (0, x3), (0, x4), (0, x5)] h = m_run Z (111, 0, [(2, ((r0 : Nat) : Int)), (0, x1), (0, x2), (0, x3), (0, x4), (0, x5)], [], h) := g_ent (k := 6) (by decide) (by decide +kernel) (Nat.le_of_ble_eq_true rfl) (by decide +kernel) rfl
theorem b_111_0 {Z : mZ} {l1 l3 l4 l5 : mV} {x2 : Int} {r0 : Nat} {K : Nat → mK} {σ : Nat → Nat → Int} {n e s : Nat} (h0 : q_ob K n r0 6) (h1 : q_rp K r0 0) (h2 : q_ob K n (q_rf K r0 0) 1) : m_run Z (111, 0, [(2, ((r0 : Nat) : Int)), l1, (0, x2), l3, l4, l5], [], (K, σ, n, e, s)) = (m_cl Z 16 [(2, ((q_rf K r0 0 : Nat) : Int)), (0, x2)] (K, σ, n, e, s)).bind (m_aft (m_run Z) 111 5 [(2, ((r0 : Nat) : Int)), l1, (0, x2), l3, l4, l5] []) := by
  refine g_aload_n (k := 0) (v := (2, ((r0 : Nat) : Int))) (by decide +kernel : decode (m_byt 111) 0 = .ok (.aload_n 0, 1)) rfl (Or.inl rfl) ?_
  refine g_getr (ci := 6) (f := 0) (by decide +kernel : decode (m_byt 111) 1 = .ok (.getfield 12, 3)) (by decide +kernel) (by decide +kernel) (by decide +kernel) h0 h1 ?_
  refine g_iload_n (k := 2) (x := x2) (by decide +kernel : decode (m_byt 111) 4 = .ok (.iload_n 2, 1)) rfl ?_
  exact g_inv (k := 1) (m' := 16) (np := 1) (as := [(2, ((q_rf K r0 0 : Nat) : Int)), (0, x2)]) (by decide +kernel : decode (m_byt 111) 5 = .ok (.invokevirtual 78, 3)) (Or.inl ⟨rfl, rfl⟩) (by decide +kernel) (by decide +kernel) (by decide +kernel) (Nat.le_of_ble_eq_true rfl) rfl (Or.inr (g_rcv (by decide +kernel) h2))
theorem b_111_8 {Z : mZ} {l0 l1 l2 l3 l4 l5 : mV} {s0 : Int} {h : mH} : m_run Z (111, 8, [l0, l1, l2, l3, l4, l5], [(0, s0)], h) = (m_cl Z 1000 [(0, s0)] h).bind (m_aft (m_run Z) 111 8 [l0, l1, l2, l3, l4, l5] []) := by
  exact g_inv (k := 0) (m' := 1000) (np := 1) (as := [(0, s0)]) (by decide +kernel : decode (m_byt 111) 8 = .ok (.invokestatic 82, 3)) (Or.inr (Or.inr ⟨rfl, rfl, by decide, by decide⟩)) (by decide +kernel) (by decide +kernel) (by decide +kernel) (Nat.le_of_ble_eq_true rfl) rfl (Or.inl rfl)
theorem b_111_11 {Z : mZ} {l2 l3 l4 l5 : mV} {x1 : Int} {r0 : Nat} {K : Nat → mK} {σ : Nat → Nat → Int} {n e s : Nat} (h0 : q_ob K n r0 6) (h1 : q_rp K r0 0) (h2 : q_ob K n (q_rf K r0 0) 1) : m_run Z (111, 11, [(2, ((r0 : Nat) : Int)), (0, x1), l2, l3, l4, l5], [], (K, σ, n, e, s)) = (m_cl Z 18 [(2, ((q_rf K r0 0 : Nat) : Int)), (0, x1)] (K, σ, n, e, s)).bind (m_aft (m_run Z) 111 16 [(2, ((r0 : Nat) : Int)), (0, x1), l2, l3, l4, l5] []) := by
  refine g_aload_n (k := 0) (v := (2, ((r0 : Nat) : Int))) (by decide +kernel : decode (m_byt 111) 11 = .ok (.aload_n 0, 1)) rfl (Or.inl rfl) ?_
  refine g_getr (ci := 6) (f := 0) (by decide +kernel : decode (m_byt 111) 12 = .ok (.getfield 12, 3)) (by decide +kernel) (by decide +kernel) (by decide +kernel) h0 h1 ?_
  refine g_iload_n (k := 1) (x := x1) (by decide +kernel : decode (m_byt 111) 15 = .ok (.iload_n 1, 1)) rfl ?_
  exact g_inv (k := 1) (m' := 18) (np := 1) (as := [(2, ((q_rf K r0 0 : Nat) : Int)), (0, x1)]) (by decide +kernel : decode (m_byt 111) 16 = .ok (.invokevirtual 181, 3)) (Or.inl ⟨rfl, rfl⟩) (by decide +kernel) (by decide +kernel) (by decide +kernel) (Nat.le_of_ble_eq_true rfl) rfl (Or.inr (g_rcv (by decide +kernel) h2))
theorem b_111_19 {Z : mZ} {l0 l1 l2 l3 l4 l5 : mV} {s0 : Int} {h : mH} : m_run Z (111, 19, [l0, l1, l2, l3, l4, l5], [(0, s0)], h) = if w32 s0 = 0 then m_run Z (111, 48, [l0, l1, l2, l3, l4, l5], [], h) else m_run Z (111, 22, [l0, l1, l2, l3, l4, l5], [], h) := by
  exact g_brq (t := 48) (off := 29) (by decide +kernel : decode (m_byt 111) 19 = .ok (.ifCond .eq 29, 3)) rfl rfl (by decide)
theorem b_111_22 {Z : mZ} {l1 l5 : mV} {x2 x3 x4 : Int} {r0 : Nat} {K : Nat → mK} {σ : Nat → Nat → Int} {n e s : Nat} (h0 : q_ob K n r0 6) (h1 : q_rp K r0 0) (h2 : q_ob K n (q_rf K r0 0) 1) : m_run Z (111, 22, [(2, ((r0 : Nat) : Int)), l1, (0, x2), (0, x3), (0, x4), l5], [], (K, σ, n, e, s)) = (m_cl Z 20 [(2, ((q_rf K r0 0 : Nat) : Int)), (0, x2), (0, x3), (0, x4)] (K, σ, n, e, s)).bind (m_aft (m_run Z) 111 30 [(2, ((r0 : Nat) : Int)), l1, (0, x2), (0, x3), (0, x4), l5] []) := by
  refine g_aload_n (k := 0) (v := (2, ((r0 : Nat) : Int))) (by decide +kernel : decode (m_byt 111) 22 = .ok (.aload_n 0, 1)) rfl (Or.inl rfl) ?_
  refine g_getr (ci := 6) (f := 0) (by decide +kernel : decode (m_byt 111) 23 = .ok (.getfield 12, 3)) (by decide +kernel) (by decide +kernel) (by decide +kernel) h0 h1 ?_
  refine g_iload_n (k := 2) (x := x2) (by decide +kernel : decode (m_byt 111) 26 = .ok (.iload_n 2, 1)) rfl ?_
  refine g_iload_n (k := 3) (x := x3) (by decide +kernel : decode (m_byt 111) 27 = .ok (.iload_n 3, 1)) rfl ?_
  refine g_iload (k := 4) (x := x4) (by decide +kernel : decode (m_byt 111) 28 = .ok (.iload 4, 2)) rfl ?_
  exact g_inv (k := 1) (m' := 20) (np := 3) (as := [(2, ((q_rf K r0 0 : Nat) : Int)), (0, x2), (0, x3), (0, x4)]) (by decide +kernel : decode (m_byt 111) 30 = .ok (.invokevirtual 158, 3)) (Or.inl ⟨rfl, rfl⟩) (by decide +kernel) (by decide +kernel) (by decide +kernel) (Nat.le_of_ble_eq_true rfl) rfl (Or.inr (g_rcv (by decide +kernel) h2))
theorem b_111_33 {Z : mZ} {l0 l1 l2 l3 l4 l5 : mV} {s0 : Int} {h : mH} : m_run Z (111, 33, [l0, l1, l2, l3, l4, l5], [(0, s0)], h) = if w32 s0 = 0 then m_run Z (111, 48, [l0, l1, l2, l3, l4, l5], [], h) else m_run Z (111, 36, [l0, l1, l2, l3, l4, l5], [], h) := by
  exact g_brq (t := 48) (off := 15) (by decide +kernel : decode (m_byt 111) 33 = .ok (.ifCond .eq 15, 3)) rfl rfl (by decide)
theorem b_111_36 {Z : mZ} {l0 l1 l2 l3 l4 : mV} {x5 : Int} {h : mH} : m_run Z (111, 36, [l0, l1, l2, l3, l4, (0, x5)], [], h) = (m_cl Z 134 [(0, x5)] h).bind (m_aft (m_run Z) 111 38 [l0, l1, l2, l3, l4, (0, x5)] []) := by
  refine g_iload (k := 5) (x := x5) (by decide +kernel : decode (m_byt 111) 36 = .ok (.iload 5, 2)) rfl ?_
  exact g_inv (k := 0) (m' := 134) (np := 1) (as := [(0, x5)]) (by decide +kernel : decode (m_byt 111) 38 = .ok (.invokestatic 162, 3)) (Or.inr (Or.inr ⟨rfl, rfl, by decide, by decide⟩)) (by decide +kernel) (by decide +kernel) (by decide +kernel) (Nat.le_of_ble_eq_true rfl) rfl (Or.inl rfl)
theorem b_111_41 {Z : mZ} {l0 l1 l2 l3 l4 l5 : mV} {s0 : Int} {h : mH} : m_run Z (111, 41, [l0, l1, l2, l3, l4, l5], [(0, s0)], h) = if w32 s0 = 0 then m_run Z (111, 48, [l0, l1, l2, l3, l4, l5], [], h) else m_run Z (111, 44, [l0, l1, l2, l3, l4, l5], [], h) := by
  exact g_brq (t := 48) (off := 7) (by decide +kernel : decode (m_byt 111) 41 = .ok (.ifCond .eq 7, 3)) rfl rfl (by decide)
theorem b_111_44 {Z : mZ} {l0 l1 l2 l3 l4 l5 : mV} {h : mH} : m_run Z (111, 44, [l0, l1, l2, l3, l4, l5], [], h) = (m_cl Z 1001 [(0, 1)] h).bind (m_aft (m_run Z) 111 49 [l0, l1, l2, l3, l4, l5] []) := by
  refine g_base (by decide +kernel : decode (m_byt 111) 44 = .ok (.iconst 1, 1)) rfl rfl ?_
  show m_run Z (111, 45, [l0, l1, l2, l3, l4, l5], [(0, 1)], h) = _
  refine g_jmp (t := 49) (by decide +kernel : decode (m_byt 111) 45 = .ok (.goto 4, 3)) (by decide) ?_
  exact g_inv (k := 0) (m' := 1001) (np := 1) (as := [(0, 1)]) (by decide +kernel : decode (m_byt 111) 49 = .ok (.invokestatic 53, 3)) (Or.inr (Or.inr ⟨rfl, rfl, by decide, by decide⟩)) (by decide +kernel) (by decide +kernel) (by decide +kernel) (Nat.le_of_ble_eq_true rfl) rfl (Or.inl rfl)
theorem b_111_48 {Z : mZ} {l0 l1 l2 l3 l4 l5 : mV} {h : mH} : m_run Z (111, 48, [l0, l1, l2, l3, l4, l5], [], h) = m_run Z (111, 49, [l0, l1, l2, l3, l4, l5], [(0, 0)], h) := by
  refine g_base (by decide +kernel : decode (m_byt 111) 48 = .ok (.iconst 0, 1)) rfl rfl ?_
  show m_run Z (111, 49, [l0, l1, l2, l3, l4, l5], [(0, 0)], h) = _
  rfl
theorem b_111_49 {Z : mZ} {l0 l1 l2 l3 l4 l5 : mV} {s0 : Int} {h : mH} : m_run Z (111, 49, [l0, l1, l2, l3, l4, l5], [(0, s0)], h) = (m_cl Z 1001 [(0, s0)] h).bind (m_aft (m_run Z) 111 49 [l0, l1, l2, l3, l4, l5] []) := by
  exact g_inv (k := 0) (m' := 1001) (np := 1) (as := [(0, s0)]) (by decide +kernel : decode (m_byt 111) 49 = .ok (.invokestatic 53, 3)) (Or.inr (Or.inr ⟨rfl, rfl, by decide, by decide⟩)) (by decide +kernel) (by decide +kernel) (by decide +kernel) (Nat.le_of_ble_eq_true rfl) rfl (Or.inl rfl)
theorem b_111_52 {Z : mZ} {l1 l2 l3 l4 l5 : mV} {r0 : Nat} {K : Nat → mK} {σ : Nat → Nat → Int} {n e s : Nat} (h0 : q_ob K n r0 6) (h1 : q_rp K r0 4) (h2 : q_rp K r0 0) (h3 : q_ob K n (q_rf K r0 4) 5) : m_run Z (111, 52, [(2, ((r0 : Nat) : Int)), l1, l2, l3, l4, l5], [], (K, σ, n, e, s)) = (m_cl Z 65 [(2, ((q_rf K r0 4 : Nat) : Int)), (2, ((q_rf K r0 0 : Nat) : Int)), (0, 0)] (K, σ, n, e, s)).bind (m_aft (m_run Z) 111 61 [(2, ((r0 : Nat) : Int)), l1, l2, l3, l4, l5] []) := by
  refine g_aload_n (k := 0) (v := (2, ((r0 : Nat) : Int))) (by decide +kernel : decode (m_byt 111) 52 = .ok (.aload_n 0, 1)) rfl (Or.inl rfl) ?_
  refine g_getr (ci := 6) (f := 4) (by decide +kernel : decode (m_byt 111) 53 = .ok (.getfield 26, 3)) (by decide +kernel) (by decide +kernel) (by decide +kernel) h0 h1 ?_
  refine g_aload_n (k := 0) (v := (2, ((r0 : Nat) : Int))) (by decide +kernel : decode (m_byt 111) 56 = .ok (.aload_n 0, 1)) rfl (Or.inl rfl) ?_
  refine g_getr (ci := 6) (f := 0) (by decide +kernel : decode (m_byt 111) 57 = .ok (.getfield 12, 3)) (by decide +kernel) (by decide +kernel) (by decide +kernel) h0 h2 ?_
  refine g_base (by decide +kernel : decode (m_byt 111) 60 = .ok (.iconst 0, 1)) rfl rfl ?_
  show m_run Z (111, 61, [(2, ((r0 : Nat) : Int)), l1, l2, l3, l4, l5], [(0, 0), (2, ((q_rf K r0 0 : Nat) : Int)), (2, ((q_rf K r0 4 : Nat) : Int))], (K, σ, n, e, s)) = _
  exact g_inv (k := 1) (m' := 65) (np := 2) (as := [(2, ((q_rf K r0 4 : Nat) : Int)), (2, ((q_rf K r0 0 : Nat) : Int)), (0, 0)]) (by decide +kernel : decode (m_byt 111) 61 = .ok (.invokevirtual 124, 3)) (Or.inl ⟨rfl, rfl⟩) (by decide +kernel) (by decide +kernel) (by decide +kernel) (Nat.le_of_ble_eq_true rfl) rfl (Or.inr (g_rcv (by decide +kernel) h3))
theorem b_111_64 {Z : mZ} {l1 l2 l3 l4 l5 : mV} {r0 : Nat} {K : Nat → mK} {σ : Nat → Nat → Int} {n e s : Nat} (h0 : q_ob K n r0 6) (h1 : q_rp K r0 4) (h2 : q_ob K n (q_rf K r0 4) 5) : m_run Z (111, 64, [(2, ((r0 : Nat) : Int)), l1, l2, l3, l4, l5], [], (K, σ, n, e, s)) = (m_cl Z 1002 [(0, (σ ((q_rf K r0 4)) 3))] (K, σ, n, e, s)).bind (m_aft (m_run Z) 111 71 [(2, ((r0 : Nat) : Int)), l1, l2, l3, l4, l5] []) := by
  refine g_aload_n (k := 0) (v := (2, ((r0 : Nat) : Int))) (by decide +kernel : decode (m_byt 111) 64 = .ok (.aload_n 0, 1)) rfl (Or.inl rfl) ?_
  refine g_getr (ci := 6) (f := 4) (by decide +kernel : decode (m_byt 111) 65 = .ok (.getfield 26, 3)) (by decide +kernel) (by decide +kernel) (by decide +kernel) h0 h1 ?_
  refine g_getf (ci := 5) (f := 3) (by decide +kernel : decode (m_byt 111) 68 = .ok (.getfield 150, 3)) (by decide +kernel) (by decide +kernel) (by decide +kernel) h2 ?_
  exact g_inv (k := 0) (m' := 1002) (np := 1) (as := [(0, (σ ((q_rf K r0 4)) 3))]) (by decide +kernel : decode (m_byt 111) 71 = .ok (.invokestatic 168, 3)) (Or.inr (Or.inr ⟨rfl, rfl, by decide, by decide⟩)) (by decide +kernel) (by decide +kernel) (by decide +kernel) (Nat.le_of_ble_eq_true rfl) rfl (Or.inl rfl)
theorem b_111_74 {Z : mZ} {l5 : mV} {x1 x2 x3 x4 : Int} {r0 : Nat} {K : Nat → mK} {σ : Nat → Nat → Int} {n e s : Nat} (h0 : q_ob K n r0 6) (h1 : q_rp K r0 4) (h2 : q_ob K n (q_rf K r0 4) 5) : m_run Z (111, 74, [(2, ((r0 : Nat) : Int)), (0, x1), (0, x2), (0, x3), (0, x4), l5], [], (K, σ, n, e, s)) = (m_cl Z 81 [(2, ((q_rf K r0 4 : Nat) : Int)), (0, x1), (0, x2), (0, x3), (0, x4)] (K, σ, n, e, s)).bind (m_aft (m_run Z) 111 83 [(2, ((r0 : Nat) : Int)), (0, x1), (0, x2), (0, x3), (0, x4), l5] []) := by
  refine g_aload_n (k := 0) (v := (2, ((r0 : Nat) : Int))) (by decide +kernel : decode (m_byt 111) 74 = .ok (.aload_n 0, 1)) rfl (Or.inl rfl) ?_
  refine g_getr (ci := 6) (f := 4) (by decide +kernel : decode (m_byt 111) 75 = .ok (.getfield 26, 3)) (by decide +kernel) (by decide +kernel) (by decide +kernel) h0 h1 ?_
  refine g_iload_n (k := 1) (x := x1) (by decide +kernel : decode (m_byt 111) 78 = .ok (.iload_n 1, 1)) rfl ?_
  refine g_iload_n (k := 2) (x := x2) (by decide +kernel : decode (m_byt 111) 79 = .ok (.iload_n 2, 1)) rfl ?_
  refine g_iload_n (k := 3) (x := x3) (by decide +kernel : decode (m_byt 111) 80 = .ok (.iload_n 3, 1)) rfl ?_
  refine g_iload (k := 4) (x := x4) (by decide +kernel : decode (m_byt 111) 81 = .ok (.iload 4, 2)) rfl ?_
  exact g_inv (k := 1) (m' := 81) (np := 4) (as := [(2, ((q_rf K r0 4 : Nat) : Int)), (0, x1), (0, x2), (0, x3), (0, x4)]) (by decide +kernel : decode (m_byt 111) 83 = .ok (.invokevirtual 184, 3)) (Or.inl ⟨rfl, rfl⟩) (by decide +kernel) (by decide +kernel) (by decide +kernel) (Nat.le_of_ble_eq_true rfl) rfl (Or.inr (g_rcv (by decide +kernel) h2))
theorem b_111_86 {Z : mZ} {l0 l1 l2 l3 : mV} {s0 x4 x5 : Int} {h : mH} : m_run Z (111, 86, [l0, l1, l2, l3, (0, x4), (0, x5)], [(0, s0)], h) = (m_cl Z 135 [(0, s0), (0, x4), (0, x5)] h).bind (m_aft (m_run Z) 111 90 [l0, l1, l2, l3, (0, x4), (0, x5)] []) := by
  refine g_iload (k := 4) (x := x4) (by decide +kernel : decode (m_byt 111) 86 = .ok (.iload 4, 2)) rfl ?_
  refine g_iload (k := 5) (x := x5) (by decide +kernel : decode (m_byt 111) 88 = .ok (.iload 5, 2)) rfl ?_
  exact g_inv (k := 0) (m' := 135) (np := 3) (as := [(0, s0), (0, x4), (0, x5)]) (by decide +kernel : decode (m_byt 111) 90 = .ok (.invokestatic 175, 3)) (Or.inr (Or.inr ⟨rfl, rfl, by decide, by decide⟩)) (by decide +kernel) (by decide +kernel) (by decide +kernel) (Nat.le_of_ble_eq_true rfl) rfl (Or.inl rfl)
theorem b_111_93 {Z : mZ} {l0 l1 l2 l3 l4 l5 : mV} {s0 : Int} {h : mH} : m_run Z (111, 93, [l0, l1, l2, l3, l4, l5], [(0, s0)], h) = some (.inl (0, s0), h) := by
  exact g_iret (by decide +kernel : decode (m_byt 111) 93 = .ok (.ireturn, 1)) (by decide +kernel)
theorem e_112 {Z : mZ} {r0 : Nat} {x1 : Int} {x2 : Int} {x3 : Int} {x4 : Int} {h : mH} : m_cl Z 112 [(2, ((r0 : Nat) : Int)), (0, x1), (0, x2), (0, x3), (0, x4)] h = m_run Z (112, 0, [(2, ((r0 : Nat) : Int)), (0, x1), (0, x2), (0, x3), (0, x4)], [], h) := g_ent (k := 5) (by decide) (by decide +kernel) (Nat.le_of_ble_eq_true rfl) (by decide +kernel) rfl
theorem b_112_0 {Z : mZ} {l2 l3 l4 : mV} {x1 : Int} {r0 : Nat} {K : Nat → mK} {σ : Nat → Nat → Int} {n e s : Nat} (h0 : q_ob K n r0 6) (h1 : q_rp K r0 0) (h2 : q_ob K n (q_rf K r0 0) 1) : m_run Z (112, 0, [(2, ((r0 : Nat) : Int)), (0, x1), l2, l3, l4], [], (K, σ, n, e, s)) = (m_cl Z 16 [(2, ((q_rf K r0 0 : Nat) : Int)), (0, x1)] (K, σ, n, e, s)).bind (m_aft (m_run Z) 112 5 [(2, ((r0 : Nat) : Int)), (0, x1), l2, l3, l4] []) := by
  refine g_aload_n (k := 0) (v := (2, ((r0 : Nat) : Int))) (by decide +kernel : decode (m_byt 112) 0 = .ok (.aload_n 0, 1)) rfl (Or.inl rfl) ?_
  refine g_getr (ci := 6) (f := 0) (by decide +kernel : decode (m_byt 112) 1 = .ok (.getfield 12, 3)) (by decide +kernel) (by decide +kernel) (by decide +kernel) h0 h1 ?_
  refine g_iload_n (k := 1) (x := x1) (by decide +kernel : decode (m_byt 112) 4 = .ok (.iload_n 1, 1)) rfl ?_
  exact g_inv (k := 1) (m' := 16) (np := 1) (as := [(2, ((q_rf K r0 0 : Nat) : Int)), (0, x1)]) (by decide +kernel : decode (m_byt 112) 5 = .ok (.invokevirtual 78, 3)) (Or.inl ⟨rfl, rfl⟩) (by decide +kernel) (by decide +kernel) (by decide +kernel) (Nat.le_of_ble_eq_true rfl) rfl (Or.inr (g_rcv (by decide +kernel) h2))
theorem b_112_8 {Z : mZ} {l0 l1 l2 l3 l4 : mV} {s0 : Int} {h : mH} : m_run Z (112, 8, [l0, l1, l2, l3, l4], [(0, s0)], h) = (m_cl Z 1000 [(0, s0)] h).bind (m_aft (m_run Z) 112 8 [l0, l1, l2, l3, l4] []) := by
  exact g_inv (k := 0) (m' := 1000) (np := 1) (as := [(0, s0)]) (by decide +kernel : decode (m_byt 112) 8 = .ok (.invokestatic 82, 3)) (Or.inr (Or.inr ⟨rfl, rfl, by decide, by decide⟩)) (by decide +kernel) (by decide +kernel) (by decide +kernel) (Nat.le_of_ble_eq_true rfl) rfl (Or.inl rfl)
theorem b_112_11 {Z : mZ} {l4 : mV} {x1 x2 x3 : Int} {r0 : Nat} {K : Nat → mK} {σ : Nat → Nat → Int} {n e s : Nat} (h0 : q_ob K n r0 6) (h1 : q_rp K r0 0) (h2 : q_ob K n (q_rf K r0 0) 1) : m_run Z (112, 11, [(2, ((r0 : Nat) : Int)), (0, x1), (0, x2), (0, x3), l4], [], (K, σ, n, e, s)) = (m_cl Z 20 [(2, ((q_rf K r0 0 : Nat) : Int)), (0, x1), (0, x2), (0, x3)] (K, σ, n, e, s)).bind (m_aft (m_run Z) 112 18 [(2, ((r0 : Nat) : Int)), (0, x1), (0, x2), (0, x3), l4] []) := by
  refine g_aload_n (k := 0) (v := (2, ((r0 : Nat) : Int))) (by decide +kernel : decode (m_byt 112) 11 = .ok (.aload_n 0, 1)) rfl (Or.inl rfl) ?_
  refine g_getr (ci := 6) (f := 0) (by decide +kernel : decode (m_byt 112) 12 = .ok (.getfield 12, 3)) (by decide +kernel) (by decide +kernel) (by decide +kernel) h0 h1 ?_
  refine g_iload_n (k := 1) (x := x1) (by decide +kernel : decode (m_byt 112) 15 = .ok (.iload_n 1, 1)) rfl ?_
  refine g_iload_n (k := 2) (x := x2) (by decide +kernel : decode (m_byt 112) 16 = .ok (.iload_n 2, 1)) rfl ?_
  refine g_iload_n (k := 3) (x := x3) (by decide +kernel : decode (m_byt 112) 17 = .ok (.iload_n 3, 1)) rfl ?_
  exact g_inv (k := 1) (m' := 20) (np := 3) (as := [(2, ((q_rf K r0 0 : Nat) : Int)), (0, x1), (0, x2), (0, x3)]) (by decide +kernel : decode (m_byt 112) 18 = .ok (.invokevirtual 158, 3)) (Or.inl ⟨rfl, rfl⟩) (by decide +kernel) (by decide +kernel) (by decide +kernel) (Nat.le_of_ble_eq_true rfl) rfl (Or.inr (g_rcv (by decide +kernel) h2))
theorem b_112_21 {Z : mZ} {l0 l1 l2 l3 l4 : mV} {s0 : Int} {h : mH} : m_run Z (112, 21, [l0, l1, l2, l3, l4], [(0, s0)], h) = if w32 s0 = 0 then m_run Z (112, 36, [l0, l1, l2, l3, l4], [], h) else m_run Z (112, 24, [l0, l1, l2, l3, l4], [], h) := by
  exact g_brq (t := 36) (off := 15) (by decide +kernel : decode (m_byt 112) 21 = .ok (.ifCond .eq 15, 3)) rfl rfl (by decide)
theorem b_112_24 {Z : mZ} {l0 l1 l2 l3 : mV} {x4 : Int} {h : mH} : m_run Z (112, 24, [l0, l1, l2, l3, (0, x4)], [], h) = (m_cl Z 134 [(0, x4)] h).bind (m_aft (m_run Z) 112 26 [l0, l1, l2, l3, (0, x4)] []) := by
  refine g_iload (k := 4) (x := x4) (by decide +kernel : decode (m_byt 112) 24 = .ok (.iload 4, 2)) rfl ?_
  exact g_inv (k := 0) (m' := 134) (np := 1) (as := [(0, x4)]) (by decide +kernel : decode (m_byt 112) 26 = .ok (.invokestatic 162, 3)) (Or.inr (Or.inr ⟨rfl, rfl, by decide, by decide⟩)) (by decide +kernel) (by decide +kernel) (by decide +kernel) (Nat.le_of_ble_eq_true rfl) rfl (Or.inl rfl)
theorem b_112_29 {Z : mZ} {l0 l1 l2 l3 l4 : mV} {s0 : Int} {h : mH} : m_run Z (112, 29, [l0, l1, l2, l3, l4], [(0, s0)], h) = if w32 s0 = 0 then m_run Z (112, 36, [l0, l1, l2, l3, l4], [], h) else m_run Z (112, 32, [l0, l1, l2, l3, l4], [], h) := by
  exact g_brq (t := 36) (off := 7) (by decide +kernel : decode (m_byt 112) 29 = .ok (.ifCond .eq 7, 3)) rfl rfl (by decide)
theorem b_112_32 {Z : mZ} {l0 l1 l2 l3 l4 : mV} {h : mH} : m_run Z (112, 32, [l0, l1, l2, l3, l4], [], h) = (m_cl Z 1001 [(0, 1)] h).bind (m_aft (m_run Z) 112 37 [l0, l1, l2, l3, l4] []) := by
  refine g_base (by decide +kernel : decode (m_byt 112) 32 = .ok (.iconst 1, 1)) rfl rfl ?_
  show m_run Z (112, 33, [l0, l1, l2, l3, l4], [(0, 1)], h) = _
  refine g_jmp (t := 37) (by decide +kernel : decode (m_byt 112) 33 = .ok (.goto 4, 3)) (by decide) ?_
  exact g_inv (k := 0) (m' := 1001) (np := 1) (as := [(0, 1)]) (by decide +kernel : decode (m_byt 112) 37 = .ok (.invokestatic 53, 3)) (Or.inr (Or.inr ⟨rfl, rfl, by decide, by decide⟩)) (by decide +kernel) (by decide +kernel) (by decide +kernel) (Nat.le_of_ble_eq_true rfl) rfl (Or.inl rfl)
theorem b_112_36 {Z : mZ} {l0 l1 l2 l3 l4 : mV} {h : mH} : m_run Z (112, 36, [l0, l1, l2, l3, l4], [], h) = m_run Z (112, 37, [l0, l1, l2, l3, l4], [(0, 0)], h) := by
  refine g_base (by decide +kernel : decode (m_byt 112) 36 = .ok (.iconst 0, 1)) rfl rfl ?_
  show m_run Z (112, 37, [l0, l1, l2, l3, l4], [(0, 0)], h) = _
  rfl
theorem b_112_37 {Z : mZ} {l0 l1 l2 l3 l4 : mV} {s0 : Int} {h : mH} : m_run Z (112, 37, [l0, l1, l2, l3, l4], [(0, s0)], h) = (m_cl Z 1001 [(0, s0)] h).bind (m_aft (m_run Z) 112 37 [l0, l1, l2, l3, l4] []) := by
  exact g_inv (k := 0) (m' := 1001) (np := 1) (as := [(0, s0)]) (by decide +kernel : decode (m_byt 112) 37 = .ok (.invokestatic 53, 3)) (Or.inr (Or.inr ⟨rfl, rfl, by decide, by decide⟩)) (by decide +kernel) (by decide +kernel) (by decide +kernel) (Nat.le_of_ble_eq_true rfl) rfl (Or.inl rfl)
theorem b_112_40 {Z : mZ} {l1 l2 l3 l4 : mV} {r0 : Nat} {K : Nat → mK} {σ : Nat → Nat → Int} {n e s : Nat} (h0 : q_ob K n r0 6) (h1 : q_rp K r0 4) (h2 : q_rp K r0 0) (h3 : q_ob K n (q_rf K r0 4) 5) : m_run Z (112, 40, [(2, ((r0 : Nat) : Int)), l1, l2, l3, l4], [], (K, σ, n, e, s)) = (m_cl Z 65 [(2, ((q_rf K r0 4 : Nat) : Int)), (2, ((q_rf K r0 0 : Nat) : Int)), (0, 0)] (K, σ, n, e, s)).bind (m_aft (m_run Z) 112 49 [(2, ((r0 : Nat) : Int)), l1, l2, l3, l4] []) := by
  refine g_aload_n (k := 0) (v := (2, ((r0 : Nat) : Int))) (by decide +kernel : decode (m_byt 112) 40 = .ok (.aload_n 0, 1)) rfl (Or.inl rfl) ?_
  refine g_getr (ci := 6) (f := 4) (by decide +kernel : decode (m_byt 112) 41 = .ok (.getfield 26, 3)) (by decide +kernel) (by decide +kernel) (by decide +kernel) h0 h1 ?_
  refine g_aload_n (k := 0) (v := (2, ((r0 : Nat) : Int))) (by decide +kernel : decode (m_byt 112) 44 = .ok (.aload_n 0, 1)) rfl (Or.inl rfl) ?_
  refine g_getr (ci := 6) (f := 0) (by decide +kernel : decode (m_byt 112) 45 = .ok (.getfield 12, 3)) (by decide +kernel) (by decide +kernel) (by decide +kernel) h0 h2 ?_
  refine g_base (by decide +kernel : decode (m_byt 112) 48 = .ok (.iconst 0, 1)) rfl rfl ?_
  show m_run Z (112, 49, [(2, ((r0 : Nat) : Int)), l1, l2, l3, l4], [(0, 0), (2, ((q_rf K r0 0 : Nat) : Int)), (2, ((q_rf K r0 4 : Nat) : Int))], (K, σ, n, e, s)) = _
  exact g_inv (k := 1) (m' := 65) (np := 2) (as := [(2, ((q_rf K r0 4 : Nat) : Int)), (2, ((q_rf K r0 0 : Nat) : Int)), (0, 0)]) (by decide +kernel : decode (m_byt 112) 49 = .ok (.invokevirtual 124, 3)) (Or.inl ⟨rfl, rfl⟩) (by decide +kernel) (by decide +kernel) (by decide +kernel) (Nat.le_of_ble_eq_true rfl) rfl (Or.inr (g_rcv (by decide +kernel) h3))
theorem b_112_52 {Z : mZ} {l1 l2 l3 l4 : mV} {r0 : Nat} {K : Nat → mK} {σ : Nat → Nat → Int} {n e s : Nat} (h0 : q_ob K n r0 6) (h1 : q_rp K r0 4) (h2 : q_ob K n (q_rf K r0 4) 5) : m_run Z (112, 52, [(2, ((r0 : Nat) : Int)), l1, l2, l3, l4], [], (K, σ, n, e, s)) = (m_cl Z 1002 [(0, (σ ((q_rf K r0 4)) 3))] (K, σ, n, e, s)).bind (m_aft (m_run Z) 112 59 [(2, ((r0 : Nat) : Int)), l1, l2, l3, l4] []) := by
  refine g_aload_n (k := 0) (v := (2, ((r0 : Nat) : Int))) (by decide +kernel : decode (m_byt 112) 52 = .ok (.aload_n 0, 1)) rfl (Or.inl rfl) ?_
  refine g_getr (ci := 6) (f := 4) (by decide +kernel : decode (m_byt 112) 53 = .ok (.getfield 26, 3)) (by decide +kernel) (by decide +kernel) (by decide +kernel) h0 h1 ?_
  refine g_getf (ci := 5) (f := 3) (by decide +kernel : decode (m_byt 112) 56 = .ok (.getfield 150, 3)) (by decide +kernel) (by decide +kernel) (by decide +kernel) h2 ?_
  exact g_inv (k := 0) (m' := 1002) (np := 1) (as := [(0, (σ ((q_rf K r0 4)) 3))]) (by decide +kernel : decode (m_byt 112) 59 = .ok (.invokestatic 168, 3)) (Or.inr (Or.inr ⟨rfl, rfl, by decide, by decide⟩)) (by decide +kernel) (by decide +kernel) (by decide +kernel) (Nat.le_of_ble_eq_true rfl) rfl (Or.inl rfl)
theorem b_112_62 {Z : mZ} {l4 : mV} {x1 x2 x3 : Int} {r0 : Nat} {K : Nat → mK} {σ : Nat → Nat → Int} {n e s : Nat} (h0 : q_ob K n r0 6) (h1 : q_rp K r0 4) (h2 : q_ob K n (q_rf K r0 4) 5) : m_run Z (112, 62, [(2, ((r0 : Nat) : Int)), (0, x1), (0, x2), (0, x3), l4], [], (K, σ, n, e, s)) = (m_cl Z 82 [(2, ((q_rf K r0 4 : Nat) : Int)), (0, x1), (0, x2), (0, x3)] (K, σ, n, e, s)).bind (m_aft (m_run Z) 112 69 [(2, ((r0 : Nat) : Int)), (0, x1), (0, x2), (0, x3), l4] []) := by
  refine g_aload_n (k := 0) (v := (2, ((r0 : Nat) : Int))) (by decide +kernel : decode (m_byt 112) 62 = .ok (.aload_n 0, 1)) rfl (Or.inl rfl) ?_
  refine g_getr (ci := 6) (f := 4) (by decide +kernel : decode (m_byt 112) 63 = .ok (.getfield 26, 3)) (by decide +kernel) (by decide +kernel) (by decide +kernel) h0 h1 ?_
  refine g_iload_n (k := 1) (x := x1) (by decide +kernel : decode (m_byt 112) 66 = .ok (.iload_n 1, 1)) rfl ?_
  refine g_iload_n (k := 2) (x := x2) (by decide +kernel : decode (m_byt 112) 67 = .ok (.iload_n 2, 1)) rfl ?_
  refine g_iload_n (k := 3) (x := x3) (by decide +kernel : decode (m_byt 112) 68 = .ok (.iload_n 3, 1)) rfl ?_
  exact g_inv (k := 1) (m' := 82) (np := 3) (as := [(2, ((q_rf K r0 4 : Nat) : Int)), (0, x1), (0, x2), (0, x3)]) (by decide +kernel : decode (m_byt 112) 69 = .ok (.invokevirtual 187, 3)) (Or.inl ⟨rfl, rfl⟩) (by decide +kernel) (by decide +kernel) (by decide +kernel) (Nat.le_of_ble_eq_true rfl) rfl (Or.inr (g_rcv (by decide +kernel) h2))
theorem b_112_72 {Z : mZ} {l0 l1 l2 : mV} {s0 x3 x4 : Int} {h : mH} : m_run Z (112, 72, [l0, l1, l2, (0, x3), (0, x4)], [(0, s0)], h) = (m_cl Z 135 [(0, s0), (0, x3), (0, x4)] h).bind (m_aft (m_run Z) 112 75 [l0, l1, l2, (0, x3), (0, x4)] []) := by
  refine g_iload_n (k := 3) (x := x3) (by decide +kernel : decode (m_byt 112) 72 = .ok (.iload_n 3, 1)) rfl ?_
  refine g_iload (k := 4) (x := x4) (by decide +kernel : decode (m_byt 112) 73 = .ok (.iload 4, 2)) rfl ?_
  exact g_inv (k := 0) (m' := 135) (np := 3) (as := [(0, s0), (0, x3), (0, x4)]) (by decide +kernel : decode (m_byt 112) 75 = .ok (.invokestatic 175, 3)) (Or.inr (Or.inr ⟨rfl, rfl, by decide, by decide⟩)) (by decide +kernel) (by decide +kernel) (by decide +kernel) (Nat.le_of_ble_eq_true rfl) rfl (Or.inl rfl)
theorem b_112_78 {Z : mZ} {l0 l1 l2 l3 l4 : mV} {s0 : Int} {h : mH} : m_run Z (112, 78, [l0, l1, l2, l3, l4], [(0, s0)], h) = some (.inl (0, s0), h) := by
  exact g_iret (by decide +kernel : decode (m_byt 112) 78 = .ok (.ireturn, 1)) (by decide +kernel)
theorem e_113 {Z : mZ} {r0 : Nat} {x1 : Int} {x2 : Int} {x3 : Int} {h : mH} : m_cl Z 113 [(2, ((r0 : Nat) : Int)), (0, x1), (0, x2), (0, x3)] h = m_run Z (113, 0, [(2, ((r0 : Nat) : Int)), (0, x1), (0, x2), (0, x3)], [], h) := g_ent (k := 4) (by decide) (by decide +kernel) (Nat.le_of_ble_eq_true rfl) (by decide +kernel) rfl
theorem b_113_0 {Z : mZ} {l2 l3 : mV} {x1 : Int} {r0 : Nat} {K : Nat → mK} {σ : Nat → Nat → Int} {n e s : Nat} (h0 : q_ob K n r0 6) (h1 : q_rp K r0 0) (h2 : q_ob K n (q_rf K r0 0) 1) : m_run Z (113, 0, [(2, ((r0 : Nat) : Int)), (0, x1), l2, l3], [], (K, σ, n, e, s)) = (m_cl Z 16 [(2, ((q_rf K r0 0 : Nat) : Int)), (0, x1)] (K, σ, n, e, s)).bind (m_aft (m_run Z) 113 5 [(2, ((r0 : Nat) : Int)), (0, x1), l2, l3] []) := by
  refine g_aload_n (k := 0) (v := (2, ((r0 : Nat) : Int))) (by decide +kernel : decode (m_byt 113) 0 = .ok (.aload_n 0, 1)) rfl (Or.inl rfl) ?_
  refine g_getr (ci := 6) (f := 0) (by decide +kernel : decode (m_byt 113) 1 = .ok (.getfield 12, 3)) (by decide +kernel) (by decide +kernel) (by decide +kernel) h0 h1 ?_
  refine g_iload_n (k := 1) (x := x1) (by decide +kernel : decode (m_byt 113) 4 = .ok (.iload_n 1, 1)) rfl ?_
  exact g_inv (k := 1) (m' := 16) (np := 1) (as := [(2, ((q_rf K r0 0 : Nat) : Int)), (0, x1)]) (by decide +kernel : decode (m_byt 113) 5 = .ok (.invokevirtual 78, 3)) (Or.inl ⟨rfl, rfl⟩) (by decide +kernel) (by decide +kernel) (by decide +kernel) (Nat.le_of_ble_eq_true rfl) rfl (Or.inr (g_rcv (by decide +kernel) h2))
theorem b_113_8 {Z : mZ} {l0 l1 l2 l3 : mV} {s0 : Int} {h : mH} : m_run Z (113, 8, [l0, l1, l2, l3], [(0, s0)], h) = (m_cl Z 1000 [(0, s0)] h).bind (m_aft (m_run Z) 113 8 [l0, l1, l2, l3] []) := by
  exact g_inv (k := 0) (m' := 1000) (np := 1) (as := [(0, s0)]) (by decide +kernel : decode (m_byt 113) 8 = .ok (.invokestatic 82, 3)) (Or.inr (Or.inr ⟨rfl, rfl, by decide, by decide⟩)) (by decide +kernel) (by decide +kernel) (by decide +kernel) (Nat.le_of_ble_eq_true rfl) rfl (Or.inl rfl)
theorem b_113_11 {Z : mZ} {l0 l1 l2 : mV} {x3 : Int} {h : mH} : m_run Z (113, 11, [l0, l1, l2, (0, x3)], [], h) = if w32 x3 < 0 then m_run Z (113, 24, [l0, l1, l2, (0, x3)], [], h) else m_run Z (113, 15, [l0, l1, l2, (0, x3)], [], h) := by
  refine g_iload_n (k := 3) (x := x3) (by decide +kernel : decode (m_byt 113) 11 = .ok (.iload_n 3, 1)) rfl ?_
  exact g_brq (t := 24) (off := 12) (by decide +kernel : decode (m_byt 113) 12 = .ok (.ifCond .lt 12, 3)) rfl rfl (by decide)
theorem b_113_15 {Z : mZ} {l0 l1 l2 : mV} {x3 : Int} {h : mH} : m_run Z (113, 15, [l0, l1, l2, (0, x3)], [], h) = if w32 3 < w32 x3 then m_run Z (113, 24, [l0, l1, l2, (0, x3)], [], h) else m_run Z (113, 20, [l0, l1, l2, (0, x3)], [], h) := by
  refine g_iload_n (k := 3) (x := x3) (by decide +kernel : decode (m_byt 113) 15 = .ok (.iload_n 3, 1)) rfl ?_
  refine g_base (by decide +kernel : decode (m_byt 113) 16 = .ok (.iconst 3, 1)) rfl rfl ?_
  show m_run Z (113, 17, [l0, l1, l2, (0, x3)], [(0, 3), (0, x3)], h) = _
  exact g_brq (t := 24) (off := 7) (by decide +kernel : decode (m_byt 113) 17 = .ok (.if_icmp .gt 7, 3)) rfl rfl (by decide)
theorem b_113_20 {Z : mZ} {l0 l1 l2 l3 : mV} {h : mH} : m_run Z (113, 20, [l0, l1, l2, l3], [], h) = (m_cl Z 1001 [(0, 1)] h).bind (m_aft (m_run Z) 113 25 [l0, l1, l2, l3] []) := by
  refine g_base (by decide +kernel : decode (m_byt 113) 20 = .ok (.iconst 1, 1)) rfl rfl ?_
  show m_run Z (113, 21, [l0, l1, l2, l3], [(0, 1)], h) = _
  refine g_jmp (t := 25) (by decide +kernel : decode (m_byt 113) 21 = .ok (.goto 4, 3)) (by decide) ?_
  exact g_inv (k := 0) (m' := 1001) (np := 1) (as := [(0, 1)]) (by decide +kernel : decode (m_byt 113) 25 = .ok (.invokestatic 53, 3)) (Or.inr (Or.inr ⟨rfl, rfl, by decide, by decide⟩)) (by decide +kernel) (by decide +kernel) (by decide +kernel) (Nat.le_of_ble_eq_true rfl) rfl (Or.inl rfl)
theorem b_113_24 {Z : mZ} {l0 l1 l2 l3 : mV} {h : mH} : m_run Z (113, 24, [l0, l1, l2, l3], [], h) = m_run Z (113, 25, [l0, l1, l2, l3], [(0, 0)], h) := by
  refine g_base (by decide +kernel : decode (m_byt 113) 24 = .ok (.iconst 0, 1)) rfl rfl ?_
  show m_run Z (113, 25, [l0, l1, l2, l3], [(0, 0)], h) = _
  rfl
theorem b_113_25 {Z : mZ} {l0 l1 l2 l3 : mV} {s0 : Int} {h : mH} : m_run Z (113, 25, [l0, l1, l2, l3], [(0, s0)], h) = (m_cl Z 1001 [(0, s0)] h).bind (m_aft (m_run Z) 113 25 [l0, l1, l2, l3] []) := by
  exact g_inv (k := 0) (m' := 1001) (np := 1) (as := [(0, s0)]) (by decide +kernel : decode (m_byt 113) 25 = .ok (.invokestatic 53, 3)) (Or.inr (Or.inr ⟨rfl, rfl, by decide, by decide⟩)) (by decide +kernel) (by decide +kernel) (by decide +kernel) (Nat.le_of_ble_eq_true rfl) rfl (Or.inl rfl)
theorem b_113_28 {Z : mZ} {l1 l2 l3 : mV} {r0 : Nat} {K : Nat → mK} {σ : Nat → Nat → Int} {n e s : Nat} (h0 : q_ob K n r0 6) (h1 : q_rp K r0 4) (h2 : q_rp K r0 0) (h3 : q_ob K n (q_rf K r0 4) 5) : m_run Z (113, 28, [(2, ((r0 : Nat) : Int)), l1, l2, l3], [], (K, σ, n, e, s)) = (m_cl Z 65 [(2, ((q_rf K r0 4 : Nat) : Int)), (2, ((q_rf K r0 0 : Nat) : Int)), (0, 0)] (K, σ, n, e, s)).bind (m_aft (m_run Z) 113 37 [(2, ((r0 : Nat) : Int)), l1, l2, l3] []) := by
  refine g_aload_n (k := 0) (v := (2, ((r0 : Nat) : Int))) (by decide +kernel : decode (m_byt 113) 28 = .ok (.aload_n 0, 1)) rfl (Or.inl rfl) ?_
  refine g_getr (ci := 6) (f := 4) (by decide +kernel : decode (m_byt 113) 29 = .ok (.getfield 26, 3)) (by decide +kernel) (by decide +kernel) (by decide +kernel) h0 h1 ?_
  refine g_aload_n (k := 0) (v := (2, ((r0 : Nat) : Int))) (by decide +kernel : decode (m_byt 113) 32 = .ok (.aload_n 0, 1)) rfl (Or.inl rfl) ?_
  refine g_getr (ci := 6) (f := 0) (by decide +kernel : decode (m_byt 113) 33 = .ok (.getfield 12, 3)) (by decide +kernel) (by decide +kernel) (by decide +kernel) h0 h2 ?_
  refine g_base (by decide +kernel : decode (m_byt 113) 36 = .ok (.iconst 0, 1)) rfl rfl ?_
  show m_run Z (113, 37, [(2, ((r0 : Nat) : Int)), l1, l2, l3], [(0, 0), (2, ((q_rf K r0 0 : Nat) : Int)), (2, ((q_rf K r0 4 : Nat) : Int))], (K, σ, n, e, s)) = _
  exact g_inv (k := 1) (m' := 65) (np := 2) (as := [(2, ((q_rf K r0 4 : Nat) : Int)), (2, ((q_rf K r0 0 : Nat) : Int)), (0, 0)]) (by decide +kernel : decode (m_byt 113) 37 = .ok (.invokevirtual 124, 3)) (Or.inl ⟨rfl, rfl⟩) (by decide +kernel) (by decide +kernel) (by decide +kernel) (Nat.le_of_ble_eq_true rfl) rfl (Or.inr (g_rcv (by decide +kernel) h3))
theorem b_113_40 {Z : mZ} {l1 l2 l3 : mV} {r0 : Nat} {K : Nat → mK} {σ : Nat → Nat → Int} {n e s : Nat} (h0 : q_ob K n r0 6) (h1 : q_rp K r0 4) (h2 : q_ob K n (q_rf K r0 4) 5) : m_run Z (113, 40, [(2, ((r0 : Nat) : Int)), l1, l2, l3], [], (K, σ, n, e, s)) = (m_cl Z 1002 [(0, (σ ((q_rf K r0 4)) 3))] (K, σ, n, e, s)).bind (m_aft (m_run Z) 113 47 [(2, ((r0 : Nat) : Int)), l1, l2, l3] []) := by
  refine g_aload_n (k := 0) (v := (2, ((r0 : Nat) : Int))) (by decide +kernel : decode (m_byt 113) 40 = .ok (.aload_n 0, 1)) rfl (Or.inl rfl) ?_
  refine g_getr (ci := 6) (f := 4) (by decide +kernel : decode (m_byt 113) 41 = .ok (.getfield 26, 3)) (by decide +kernel) (by decide +kernel) (by decide +kernel) h0 h1 ?_
  refine g_getf (ci := 5) (f := 3) (by decide +kernel : decode (m_byt 113) 44 = .ok (.getfield 150, 3)) (by decide +kernel) (by decide +kernel) (by decide +kernel) h2 ?_
  exact g_inv (k := 0) (m' := 1002) (np := 1) (as := [(0, (σ ((q_rf K r0 4)) 3))]) (by decide +kernel : decode (m_byt 113) 47 = .ok (.invokestatic 168, 3)) (Or.inr (Or.inr ⟨rfl, rfl, by decide, by decide⟩)) (by decide +kernel) (by decide +kernel) (by decide +kernel) (Nat.le_of_ble_eq_true rfl) rfl (Or.inl rfl)
theorem b_113_50 {Z : mZ} {l2 l3 : mV} {x1 : Int} {r0 : Nat} {K : Nat → mK} {σ : Nat → Nat → Int} {n e s : Nat} (h0 : q_ob K n r0 6) (h1 : q_rp K r0 5) (h2 : q_ob K n (q_rf K r0 5) 2) : m_run Z (113, 50, [(2, ((r0 : Nat) : Int)), (0, x1), l2, l3], [], (K, σ, n, e, s)) = (m_cl Z 35 [(2, ((q_rf K r0 5 : Nat) : Int)), (0, x1)] (K, σ, n, e, s)).bind (m_aft (m_run Z) 113 55 [(2, ((r0 : Nat) : Int)), (0, x1), l2, l3] []) := by
  refine g_aload_n (k := 0) (v := (2, ((r0 : Nat) : Int))) (by decide +kernel : decode (m_byt 113) 50 = .ok (.aload_n 0, 1)) rfl (Or.inl rfl) ?_
  refine g_getr (ci := 6) (f := 5) (by decide +kernel : decode (m_byt 113) 51 = .ok (.getfield 35, 3)) (by decide +kernel) (by decide +kernel) (by decide +kernel) h0 h1 ?_
  refine g_iload_n (k := 1) (x := x1) (by decide +kernel : decode (m_byt 113) 54 = .ok (.iload_n 1, 1)) rfl ?_
  exact g_inv (k := 1) (m' := 35) (np := 1) (as := [(2, ((q_rf K r0 5 : Nat) : Int)), (0, x1)]) (by decide +kernel : decode (m_byt 113) 55 = .ok (.invokevirtual 190, 3)) (Or.inl ⟨rfl, rfl⟩) (by decide +kernel) (by decide +kernel) (by decide +kernel) (Nat.le_of_ble_eq_true rfl) rfl (Or.inr (g_rcv (by decide +kernel) h2))
theorem b_113_58 {Z : mZ} {l0 l1 l3 : mV} {x2 : Int} {h : mH} : m_run Z (113, 58, [l0, l1, (0, x2), l3], [], h) = if w32 x2 < 0 then m_run Z (113, 82, [l0, l1, (0, x2), l3], [], h) else m_run Z (113, 62, [l0, l1, (0, x2), l3], [], h) := by
  refine g_iload_n (k := 2) (x := x2) (by decide +kernel : decode (m_byt 113) 58 = .ok (.iload_n 2, 1)) rfl ?_
  exact g_brq (t := 82) (off := 23) (by decide +kernel : decode (m_byt 113) 59 = .ok (.ifCond .lt 23, 3)) rfl rfl (by decide)
theorem b_113_62 {Z : mZ} {l1 l3 : mV} {x2 : Int} {r0 : Nat} {K : Nat → mK} {σ : Nat → Nat → Int} {n e s : Nat} (h0 : q_ob K n r0 6) (h1 : q_rp K r0 5) (h2 : q_ob K n (q_rf K r0 5) 2) : m_run Z (113, 62, [(2, ((r0 : Nat) : Int)), l1, (0, x2), l3], [], (K, σ, n, e, s)) = if w32 (σ ((q_rf K r0 5)) 3) ≤ w32 x2 then m_run Z (113, 82, [(2, ((r0 : Nat) : Int)), l1, (0, x2), l3], [], (K, σ, n, e, s)) else m_run Z (113, 73, [(2, ((r0 : Nat) : Int)), l1, (0, x2), l3], [], (K, σ, n, e, s)) := by
  refine g_iload_n (k := 2) (x := x2) (by decide +kernel : decode (m_byt 113) 62 = .ok (.iload_n 2, 1)) rfl ?_
  refine g_aload_n (k := 0) (v := (2, ((r0 : Nat) : Int))) (by decide +kernel : decode (m_byt 113) 63 = .ok (.aload_n 0, 1)) rfl (Or.inl rfl) ?_
  refine g_getr (ci := 6) (f := 5) (by decide +kernel : decode (m_byt 113) 64 = .ok (.getfield 35, 3)) (by decide +kernel) (by decide +kernel) (by decide +kernel) h0 h1 ?_
  refine g_getf (ci := 2) (f := 3) (by decide +kernel : decode (m_byt 113) 67 = .ok (.getfield 193, 3)) (by decide +kernel) (by decide +kernel) (by decide +kernel) h2 ?_
  exact g_brq (t := 82) (off := 12) (by decide +kernel : decode (m_byt 113) 70 = .ok (.if_icmp .ge 12, 3)) rfl rfl (by decide)
theorem b_113_73 {Z : mZ} {l1 : mV} {x2 x3 : Int} {r0 : Nat} {K : Nat → mK} {σ : Nat → Nat → Int} {n e s : Nat} (h0 : q_ob K n r0 6) : m_run Z (113, 73, [(2, ((r0 : Nat) : Int)), l1, (0, x2), (0, x3)], [], (K, σ, n, e, s)) = (m_cl Z 142 [(2, ((r0 : Nat) : Int)), (0, x2), (0, x3)] (K, σ, n, e, s)).bind (m_aft (m_run Z) 113 76 [(2, ((r0 : Nat) : Int)), l1, (0, x2), (0, x3)] []) := by
  refine g_aload_n (k := 0) (v := (2, ((r0 : Nat) : Int))) (by decide +kernel : decode (m_byt 113) 73 = .ok (.aload_n 0, 1)) rfl (Or.inl rfl) ?_
  refine g_iload_n (k := 2) (x := x2) (by decide +kernel : decode (m_byt 113) 74 = .ok (.iload_n 2, 1)) rfl ?_
  refine g_iload_n (k := 3) (x := x3) (by decide +kernel : decode (m_byt 113) 75 = .ok (.iload_n 3, 1)) rfl ?_
  exact g_inv (k := 1) (m' := 142) (np := 2) (as := [(2, ((r0 : Nat) : Int)), (0, x2), (0, x3)]) (by decide +kernel : decode (m_byt 113) 76 = .ok (.invokevirtual 196, 3)) (Or.inl ⟨rfl, rfl⟩) (by decide +kernel) (by decide +kernel) (by decide +kernel) (Nat.le_of_ble_eq_true rfl) rfl (Or.inr (g_rcv (by decide +kernel) h0))
theorem b_113_79 {Z : mZ} {l0 l1 l2 l3 : mV} {s0 : Int} {h : mH} : m_run Z (113, 79, [l0, l1, l2, l3], [(0, s0)], h) = some (.inl (0, s0), h) := by
  refine g_jmp (t := 83) (by decide +kernel : decode (m_byt 113) 79 = .ok (.goto 4, 3)) (by decide) ?_
  exact g_iret (by decide +kernel : decode (m_byt 113) 83 = .ok (.ireturn, 1)) (by decide +kernel)
theorem b_113_82 {Z : mZ} {l0 l1 l2 l3 : mV} {h : mH} : m_run Z (113, 82, [l0, l1, l2, l3], [], h) = m_run Z (113, 83, [l0, l1, l2, l3], [(0, (-1))], h) := by
  refine g_base (by decide +kernel : decode (m_byt 113) 82 = .ok (.iconst (-1), 1)) rfl rfl ?_
  show m_run Z (113, 83, [l0, l1, l2, l3], [(0, (-1))], h) = _
  rfl
theorem b_113_83 {Z : mZ} {l0 l1 l2 l3 : mV} {s0 : Int} {h : mH} : m_run Z (113, 83, [l0, l1, l2, l3], [(0, s0)], h) = some (.inl (0, s0), h) := by
  exact g_iret (by decide +kernel : decode (m_byt 113) 83 = .ok (.ireturn, 1)) (by decide +kernel)
theorem e_114 {Z : mZ} {r0 : Nat} {x1 : Int} {x2 : Int} {h : mH} : m_cl Z 114 [(2, ((r0 : Nat) : Int)), (0, x1), (0, x2)] h = m_run Z (114, 0, [(2, ((r0 : Nat) : Int)), (0, x1), (0, x2)], [], h) := g_ent (k := 3) (by decide) (by decide +kernel) (Nat.le_of_ble_eq_true rfl) (by decide +kernel) rfl
theorem b_114_0 {Z : mZ} {l2 : mV} {x1 : Int} {r0 : Nat} {K : Nat → mK} {σ : Nat → Nat → Int} {n e s : Nat} (h0 : q_ob K n r0 6) (h1 : q_rp K r0 0) (h2 : q_ob K n (q_rf K r0 0) 1) : m_run Z (114, 0, [(2, ((r0 : Nat) : Int)), (0, x1), l2], [], (K, σ, n, e, s)) = (m_cl Z 18 [(2, ((q_rf K r0 0 : Nat) : Int)), (0, x1)] (K, σ, n, e, s)).bind (m_aft (m_run Z) 114 5 [(2, ((r0 : Nat) : Int)), (0, x1), l2] []) := by
  refine g_aload_n (k := 0) (v := (2, ((r0 : Nat) : Int))) (by decide +kernel : decode (m_byt 114) 0 = .ok (.aload_n 0, 1)) rfl (Or.inl rfl) ?_
  refine g_getr (ci := 6) (f := 0) (by decide +kernel : decode (m_byt 114) 1 = .ok (.getfield 12, 3)) (by decide +kernel) (by decide +kernel) (by decide +kernel) h0 h1 ?_
  refine g_iload_n (k := 1) (x := x1) (by decide +kernel : decode (m_byt 114) 4 = .ok (.iload_n 1, 1)) rfl ?_
  exact g_inv (k := 1) (m' := 18) (np := 1) (as := [(2, ((q_rf K r0 0 : Nat) : Int)), (0, x1)]) (by decide +kernel : decode (m_byt 114) 5 = .ok (.invokevirtual 181, 3)) (Or.inl ⟨rfl, rfl⟩) (by decide +kernel) (by decide +kernel) (by decide +kernel) (Nat.le_of_ble_eq_true rfl) rfl (Or.inr (g_rcv (by decide +kernel) h2))
theorem b_114_8 {Z : mZ} {l0 l1 l2 : mV} {s0 : Int} {h : mH} : m_run Z (114, 8, [l0, l1, l2], [(0, s0)], h) = if w32 s0 = 0 then m_run Z (114, 22, [l0, l1, l2], [], h) else m_run Z (114, 11, [l0, l1, l2], [], h) := by
  exact g_brq (t := 22) (off := 14) (by decide +kernel : decode (m_byt 114) 8 = .ok (.ifCond .eq 14, 3)) rfl rfl (by decide)
theorem b_114_11 {Z : mZ} {l0 l1 : mV} {x2 : Int} {h : mH} : m_run Z (114, 11, [l0, l1, (0, x2)], [], h) = (m_cl Z 134 [(0, x2)] h).bind (m_aft (m_run Z) 114 12 [l0, l1, (0, x2)] []) := by
  refine g_iload_n (k := 2) (x := x2) (by decide +kernel : decode (m_byt 114) 11 = .ok (.iload_n 2, 1)) rfl ?_
  exact g_inv (k := 0) (m' := 134) (np := 1) (as := [(0, x2)]) (by decide +kernel : decode (m_byt 114) 12 = .ok (.invokestatic 162, 3)) (Or.inr (Or.inr ⟨rfl, rfl, by decide, by decide⟩)) (by decide +kernel) (by decide +kernel) (by decide +kernel) (Nat.le_of_ble_eq_true rfl) rfl (Or.inl rfl)
theorem b_114_15 {Z : mZ} {l0 l1 l2 : mV} {s0 : Int} {h : mH} : m_run Z (114, 15, [l0, l1, l2], [(0, s0)], h) = if w32 s0 = 0 then m_run Z (114, 22, [l0, l1, l2], [], h) else m_run Z (114, 18, [l0, l1, l2], [], h) := by
  exact g_brq (t := 22) (off := 7) (by decide +kernel : decode (m_byt 114) 15 = .ok (.ifCond .eq 7, 3)) rfl rfl (by decide)
theorem b_114_18 {Z : mZ} {l0 l1 l2 : mV} {h : mH} : m_run Z (114, 18, [l0, l1, l2], [], h) = (m_cl Z 1001 [(0, 1)] h).bind (m_aft (m_run Z) 114 23 [l0, l1, l2] []) := by
  refine g_base (by decide +kernel : decode (m_byt 114) 18 = .ok (.iconst 1, 1)) rfl rfl ?_
  show m_run Z (114, 19, [l0, l1, l2], [(0, 1)], h) = _
  refine g_jmp (t := 23) (by decide +kernel : decode (m_byt 114) 19 = .ok (.goto 4, 3)) (by decide) ?_
  exact g_inv (k := 0) (m' := 1001) (np := 1) (as := [(0, 1)]) (by decide +kernel : decode (m_byt 114) 23 = .ok (.invokestatic 53, 3)) (Or.inr (Or.inr ⟨rfl, rfl, by decide, by decide⟩)) (by decide +kernel) (by decide +kernel) (by decide +kernel) (Nat.le_of_ble_eq_true rfl) rfl (Or.inl rfl)
theorem b_114_22 {Z : mZ} {l0 l1 l2 : mV} {h : mH} : m_run Z (114, 22, [l0, l1, l2], [], h) = m_run Z (114, 23, [l0, l1, l2], [(0, 0)], h) := by
  refine g_base (by decide +kernel : decode (m_byt 114) 22 = .ok (.iconst 0, 1)) rfl rfl ?_
  show m_run Z (114, 23, [l0, l1, l2], [(0, 0)], h) = _
  rfl
theorem b_114_23 {Z : mZ} {l0 l1 l2 : mV} {s0 : Int} {h : mH} : m_run Z (114, 23, [l0, l1, l2], [(0, s0)], h) = (m_cl Z 1001 [(0, s0)] h).bind (m_aft (m_run Z) 114 23 [l0, l1, l2] []) := by
  exact g_inv (k := 0) (m' := 1001) (np := 1) (as := [(0, s0)]) (by decide +kernel : decode (m_byt 114) 23 = .ok (.invokestatic 53, 3)) (Or.inr (Or.inr ⟨rfl, rfl, by decide, by decide⟩)) (by decide +kernel) (by decide +kernel) (by decide +kernel) (Nat.le_of_ble_eq_true rfl) rfl (Or.inl rfl)
theorem b_114_26 {Z : mZ} {l1 l2 : mV} {r0 : Nat} {K : Nat → mK} {σ : Nat → Nat → Int} {n e s : Nat} (h0 : q_ob K n r0 6) (h1 : q_rp K r0 4) (h2 : q_rp K r0 0) (h3 : q_ob K n (q_rf K r0 4) 5) : m_run Z (114, 26, [(2, ((r0 : Nat) : Int)), l1, l2], [], (K, σ, n, e, s)) = (m_cl Z 65 [(2, ((q_rf K r0 4 : Nat) : Int)), (2, ((q_rf K r0 0 : Nat) : Int)), (0, 0)] (K, σ, n, e, s)).bind (m_aft (m_run Z) 114 35 [(2, ((r0 : Nat) : Int)), l1, l2] []) := by
  refine g_aload_n (k := 0) (v := (2, ((r0 : Nat) : Int))) (by decide +kernel : decode (m_byt 114) 26 = .ok (.aload_n 0, 1)) rfl (Or.inl rfl) ?_
  refine g_getr (ci := 6) (f := 4) (by decide +kernel : decode (m_byt 114) 27 = .ok (.getfield 26, 3)) (by decide +kernel) (by decide +kernel) (by decide +kernel) h0 h1 ?_
  refine g_aload_n (k := 0) (v := (2, ((r0 : Nat) : Int))) (by decide +kernel : decode (m_byt 114) 30 = .ok (.aload_n 0, 1)) rfl (Or.inl rfl) ?_
  refine g_getr (ci := 6) (f := 0) (by decide +kernel : decode (m_byt 114) 31 = .ok (.getfield 12, 3)) (by decide +kernel) (by decide +kernel) (by decide +kernel) h0 h2 ?_
  refine g_base (by decide +kernel : decode (m_byt 114) 34 = .ok (.iconst 0, 1)) rfl rfl ?_
  show m_run Z (114, 35, [(2, ((r0 : Nat) : Int)), l1, l2], [(0, 0), (2, ((q_rf K r0 0 : Nat) : Int)), (2, ((q_rf K r0 4 : Nat) : Int))], (K, σ, n, e, s)) = _
  exact g_inv (k := 1) (m' := 65) (np := 2) (as := [(2, ((q_rf K r0 4 : Nat) : Int)), (2, ((q_rf K r0 0 : Nat) : Int)), (0, 0)]) (by decide +kernel : decode (m_byt 114) 35 = .ok (.invokevirtual 124, 3)) (Or.inl ⟨rfl, rfl⟩) (by decide +kernel) (by decide +kernel) (by decide +kernel) (Nat.le_of_ble_eq_true rfl) rfl (Or.inr (g_rcv (by decide +kernel) h3))
theorem b_114_38 {Z : mZ} {l1 l2 : mV} {r0 : Nat} {K : Nat → mK} {σ : Nat → Nat → Int} {n e s : Nat} (h0 : q_ob K n r0 6) (h1 : q_rp K r0 4) (h2 : q_ob K n (q_rf K r0 4) 5) : m_run Z (114, 38, [(2, ((r0 : Nat) : Int)), l1, l2], [], (K, σ, n, e, s)) = (m_cl Z 66 [(2, ((q_rf K r0 4 : Nat) : Int))] (K, σ, n, e, s)).bind (m_aft (m_run Z) 114 42 [(2, ((r0 : Nat) : Int)), l1, l2] []) := by
  refine g_aload_n (k := 0) (v := (2, ((r0 : Nat) : Int))) (by decide +kernel : decode (m_byt 114) 38 = .ok (.aload_n 0, 1)) rfl (Or.inl rfl) ?_
  refine g_getr (ci := 6) (f := 4) (by decide +kernel : decode (m_byt 114) 39 = .ok (.getfield 26, 3)) (by decide +kernel) (by decide +kernel) (by decide +kernel) h0 h1 ?_
  exact g_inv (k := 1) (m' := 66) (np := 0) (as := [(2, ((q_rf K r0 4 : Nat) : Int))]) (by decide +kernel : decode (m_byt 114) 42 = .ok (.invokevirtual 199, 3)) (Or.inl ⟨rfl, rfl⟩) (by decide +kernel) (by decide +kernel) (by decide +kernel) (Nat.le_of_ble_eq_true rfl) rfl (Or.inr (g_rcv (by decide +kernel) h2))
theorem b_114_45 {Z : mZ} {l0 l1 l2 : mV} {s0 : Int} {h : mH} : m_run Z (114, 45, [l0, l1, l2], [(0, s0)], h) = (m_cl Z 1002 [(0, s0)] h).bind (m_aft (m_run Z) 114 45 [l0, l1, l2] []) := by
  exact g_inv (k := 0) (m' := 1002) (np := 1) (as := [(0, s0)]) (by decide +kernel : decode (m_byt 114) 45 = .ok (.invokestatic 168, 3)) (Or.inr (Or.inr ⟨rfl, rfl, by decide, by decide⟩)) (by decide +kernel) (by decide +kernel) (by decide +kernel) (Nat.le_of_ble_eq_true rfl) rfl (Or.inl rfl)
theorem b_114_48 {Z : mZ} {l2 : mV} {x1 : Int} {r0 : Nat} {K : Nat → mK} {σ : Nat → Nat → Int} {n e s : Nat} (h0 : q_ob K n r0 6) (h1 : q_rp K r0 4) (h2 : q_ob K n (q_rf K r0 4) 5) : m_run Z (114, 48, [(2, ((r0 : Nat) : Int)), (0, x1), l2], [], (K, σ, n, e, s)) = (m_cl Z 88 [(2, ((q_rf K r0 4 : Nat) : Int)), (0, x1)] (K, σ, n, e, s)).bind (m_aft (m_run Z) 114 53 [(2, ((r0 : Nat) : Int)), (0, x1), l2] []) := by
  refine g_aload_n (k := 0) (v := (2, ((r0 : Nat) : Int))) (by decide +kernel : decode (m_byt 114) 48 = .ok (.aload_n 0, 1)) rfl (Or.inl rfl) ?_
  refine g_getr (ci := 6) (f := 4) (by decide +kernel : decode (m_byt 114) 49 = .ok (.getfield 26, 3)) (by decide +kernel) (by decide +kernel) (by decide +kernel) h0 h1 ?_
  refine g_iload_n (k := 1) (x := x1) (by decide +kernel : decode (m_byt 114) 52 = .ok (.iload_n 1, 1)) rfl ?_
  exact g_inv (k := 1) (m' := 88) (np := 1) (as := [(2, ((q_rf K r0 4 : Nat) : Int)), (0, x1)]) (by decide +kernel : decode (m_byt 114) 53 = .ok (.invokevirtual 203, 3)) (Or.inl ⟨rfl, rfl⟩) (by decide +kernel) (by decide +kernel) (by decide +kernel) (Nat.le_of_ble_eq_true rfl) rfl (Or.inr (g_rcv (by decide +kernel) h2))
theorem b_114_56 {Z : mZ} {l1 : mV} {x2 : Int} {r0 : Nat} {K : Nat → mK} {σ : Nat → Nat → Int} {n e s : Nat} (h0 : q_ob K n r0 6) (h1 : q_rp K r0 4) (h2 : q_ob K n (q_rf K r0 4) 5) : m_run Z (114, 56, [(2, ((r0 : Nat) : Int)), l1, (0, x2)], [], (K, σ, n, e, s)) = (m_cl Z 135 [(0, (σ ((q_rf K r0 4)) 16)), (0, (σ ((q_rf K r0 4)) 15)), (0, x2)] (K, σ, n, e, s)).bind (m_aft (m_run Z) 114 71 [(2, ((r0 : Nat) : Int)), l1, (0, x2)] []) := by
  refine g_aload_n (k := 0) (v := (2, ((r0 : Nat) : Int))) (by decide +kernel : decode (m_byt 114) 56 = .ok (.aload_n 0, 1)) rfl (Or.inl rfl) ?_
  refine g_getr (ci := 6) (f := 4) (by decide +kernel : decode (m_byt 114) 57 = .ok (.getfield 26, 3)) (by decide +kernel) (by decide +kernel) (by decide +kernel) h0 h1 ?_
  refine g_getf (ci := 5) (f := 16) (by decide +kernel : decode (m_byt 114) 60 = .ok (.getfield 206, 3)) (by decide +kernel) (by decide +kernel) (by decide +kernel) h2 ?_
  refine g_aload_n (k := 0) (v := (2, ((r0 : Nat) : Int))) (by decide +kernel : decode (m_byt 114) 63 = .ok (.aload_n 0, 1)) rfl (Or.inl rfl) ?_
  refine g_getr (ci := 6) (f := 4) (by decide +kernel : decode (m_byt 114) 64 = .ok (.getfield 26, 3)) (by decide +kernel) (by decide +kernel) (by decide +kernel) h0 h1 ?_
  refine g_getf (ci := 5) (f := 15) (by decide +kernel : decode (m_byt 114) 67 = .ok (.getfield 209, 3)) (by decide +kernel) (by decide +kernel) (by decide +kernel) h2 ?_
  refine g_iload_n (k := 2) (x := x2) (by decide +kernel : decode (m_byt 114) 70 = .ok (.iload_n 2, 1)) rfl ?_
  exact g_inv (k := 0) (m' := 135) (np := 3) (as := [(0, (σ ((q_rf K r0 4)) 16)), (0, (σ ((q_rf K r0 4)) 15)), (0, x2)]) (by decide +kernel : decode (m_byt 114) 71 = .ok (.invokestatic 175, 3)) (Or.inr (Or.inr ⟨rfl, rfl, by decide, by decide⟩)) (by decide +kernel) (by decide +kernel) (by decide +kernel) (Nat.le_of_ble_eq_true rfl) rfl (Or.inl rfl)
theorem b_114_74 {Z : mZ} {l0 l1 l2 : mV} {s0 : Int} {h : mH} : m_run Z (114, 74, [l0, l1, l2], [(0, s0)], h) = some (.inl (0, s0), h) := by
  exact g_iret (by decide +kernel : decode (m_byt 114) 74 = .ok (.ireturn, 1)) (by decide +kernel)
theorem e_115 {Z : mZ} {r0 : Nat} {x1 : Int} {x2 : Int} {h : mH} : m_cl Z 115 [(2, ((r0 : Nat) : Int)), (0, x1), (0, x2)] h = m_run Z (115, 0, [(2, ((r0 : Nat) : Int)), (0, x1), (0, x2)], [], h) := g_ent (k := 3) (by decide) (by decide +kernel) (Nat.le_of_ble_eq_true rfl) (by decide +kernel) rfl
theorem b_115_0 {Z : mZ} {l2 : mV} {x1 : Int} {r0 : Nat} {K : Nat → mK} {σ : Nat → Nat → Int} {n e s : Nat} (h0 : q_ob K n r0 6) (h1 : q_rp K r0 0) (h2 : q_ob K n (q_rf K r0 0) 1) : m_run Z (115, 0, [(2, ((r0 : Nat) : Int)), (0, x1), l2], [], (K, σ, n, e, s)) = (m_cl Z 18 [(2, ((q_rf K r0 0 : Nat) : Int)), (0, x1)] (K, σ, n, e, s)).bind (m_aft (m_run Z) 115 5 [(2, ((r0 : Nat) : Int)), (0, x1), l2] []) := by
  refine g_aload_n (k := 0) (v := (2, ((r0 : Nat) : Int))) (by decide +kernel : decode (m_byt 115) 0 = .ok (.aload_n 0, 1)) rfl (Or.inl rfl) ?_
  refine g_getr (ci := 6) (f := 0) (by decide +kernel : decode (m_byt 115) 1 = .ok (.getfield 12, 3)) (by decide +kernel) (by decide +kernel) (by decide +kernel) h0 h1 ?_
  refine g_iload_n (k := 1) (x := x1) (by decide +kernel : decode (m_byt 115) 4 = .ok (.iload_n 1, 1)) rfl ?_
  exact g_inv (k := 1) (m' := 18) (np := 1) (as := [(2, ((q_rf K r0 0 : Nat) : Int)), (0, x1)]) (by decide +kernel : decode (m_byt 115) 5 = .ok (.invokevirtual 181, 3)) (Or.inl ⟨rfl, rfl⟩) (by decide +kernel) (by decide +kernel) (by decide +kernel) (Nat.le_of_ble_eq_true rfl) rfl (Or.inr (g_rcv (by decide +kernel) h2))
theorem b_115_8 {Z : mZ} {l0 l1 l2 : mV} {s0 : Int} {h : mH} : m_run Z (115, 8, [l0, l1, l2], [(0, s0)], h) = if w32 s0 = 0 then m_run Z (115, 24, [l0, l1, l2], [], h) else m_run Z (115, 11, [l0, l1, l2], [], h) := by
  exact g_brq (t := 24) (off := 16) (by decide +kernel : decode (m_byt 115) 8 = .ok (.ifCond .eq 16, 3)) rfl rfl (by decide)
theorem b_115_11 {Z : mZ} {l0 l1 : mV} {x2 : Int} {h : mH} : m_run Z (115, 11, [l0, l1, (0, x2)], [], h) = if w32 x2 < 0 then m_run Z (115, 24, [l0, l1, (0, x2)], [], h) else m_run Z (115, 15, [l0, l1, (0, x2)], [], h) := by
  refine g_iload_n (k := 2) (x := x2) (by decide +kernel : decode (m_byt 115) 11 = .ok (.iload_n 2, 1)) rfl ?_
  exact g_brq (t := 24) (off := 12) (by decide +kernel : decode (m_byt 115) 12 = .ok (.ifCond .lt 12, 3)) rfl rfl (by decide)
theorem b_115_15 {Z : mZ} {l0 l1 : mV} {x2 : Int} {h : mH} : m_run Z (115, 15, [l0, l1, (0, x2)], [], h) = if w32 2 < w32 x2 then m_run Z (115, 24, [l0, l1, (0, x2)], [], h) else m_run Z (115, 20, [l0, l1, (0, x2)], [], h) := by
  refine g_iload_n (k := 2) (x := x2) (by decide +kernel : decode (m_byt 115) 15 = .ok (.iload_n 2, 1)) rfl ?_
  refine g_base (by decide +kernel : decode (m_byt 115) 16 = .ok (.iconst 2, 1)) rfl rfl ?_
  show m_run Z (115, 17, [l0, l1, (0, x2)], [(0, 2), (0, x2)], h) = _
  exact g_brq (t := 24) (off := 7) (by decide +kernel : decode (m_byt 115) 17 = .ok (.if_icmp .gt 7, 3)) rfl rfl (by decide)
theorem b_115_20 {Z : mZ} {l0 l1 l2 : mV} {h : mH} : m_run Z (115, 20, [l0, l1, l2], [], h) = (m_cl Z 1001 [(0, 1)] h).bind (m_aft (m_run Z) 115 25 [l0, l1, l2] []) := by
  refine g_base (by decide +kernel : decode (m_byt 115) 20 = .ok (.iconst 1, 1)) rfl rfl ?_
  show m_run Z (115, 21, [l0, l1, l2], [(0, 1)], h) = _
  refine g_jmp (t := 25) (by decide +kernel : decode (m_byt 115) 21 = .ok (.goto 4, 3)) (by decide) ?_
  exact g_inv (k := 0) (m' := 1001) (np := 1) (as := [(0, 1)]) (by decide +kernel : decode (m_byt 115) 25 = .ok (.invokestatic 53, 3)) (Or.inr (Or.inr ⟨rfl, rfl, by decide, by decide⟩)) (by decide +kernel) (by decide +kernel) (by decide +kernel) (Nat.le_of_ble_eq_true rfl) rfl (Or.inl rfl)
theorem b_115_24 {Z : mZ} {l0 l1 l2 : mV} {h : mH} : m_run Z (115, 24, [l0, l1, l2], [], h) = m_run Z (115, 25, [l0, l1, l2], [(0, 0)], h) := by
  refine g_base (by decide +kernel : decode (m_byt 115) 24 = .ok (.iconst 0, 1)) rfl rfl ?_
  show m_run Z (115, 25, [l0, l1, l2], [(0, 0)], h) = _
  rfl
theorem b_115_25 {Z : mZ} {l0 l1 l2 : mV} {s0 : Int} {h : mH} : m_run Z (115, 25, [l0, l1, l2], [(0, s0)], h) = (m_cl Z 1001 [(0, s0)] h).bind (m_aft (m_run Z) 115 25 [l0, l1, l2] []) := by
  exact g_inv (k := 0) (m' := 1001) (np := 1) (as := [(0, s0)]) (by decide +kernel : decode (m_byt 115) 25 = .ok (.invokestatic 53, 3)) (Or.inr (Or.inr ⟨rfl, rfl, by decide, by decide⟩)) (by decide +kernel) (by decide +kernel) (by decide +kernel) (Nat.le_of_ble_eq_true rfl) rfl (Or.inl rfl)
theorem b_115_28 {Z : mZ} {l1 l2 : mV} {r0 : Nat} {K : Nat → mK} {σ : Nat → Nat → Int} {n e s : Nat} (h0 : q_ob K n r0 6) (h1 : q_rp K r0 4) (h2 : q_rp K r0 0) (h3 : q_ob K n (q_rf K r0 4) 5) : m_run Z (115, 28, [(2, ((r0 : Nat) : Int)), l1, l2], [], (K, σ, n, e, s)) = (m_cl Z 65 [(2, ((q_rf K r0 4 : Nat) : Int)), (2, ((q_rf K r0 0 : Nat) : Int)), (0, 0)] (K, σ, n, e, s)).bind (m_aft (m_run Z) 115 37 [(2, ((r0 : Nat) : Int)), l1, l2] []) := by
  refine g_aload_n (k := 0) (v := (2, ((r0 : Nat) : Int))) (by decide +kernel : decode (m_byt 115) 28 = .ok (.aload_n 0, 1)) rfl (Or.inl rfl) ?_
  refine g_getr (ci := 6) (f := 4) (by decide +kernel : decode (m_byt 115) 29 = .ok (.getfield 26, 3)) (by decide +kernel) (by decide +kernel) (by decide +kernel) h0 h1 ?_
  refine g_aload_n (k := 0) (v := (2, ((r0 : Nat) : Int))) (by decide +kernel : decode (m_byt 115) 32 = .ok (.aload_n 0, 1)) rfl (Or.inl rfl) ?_
  refine g_getr (ci := 6) (f := 0) (by decide +kernel : decode (m_byt 115) 33 = .ok (.getfield 12, 3)) (by decide +kernel) (by decide +kernel) (by decide +kernel) h0 h2 ?_
  refine g_base (by decide +kernel : decode (m_byt 115) 36 = .ok (.iconst 0, 1)) rfl rfl ?_
  show m_run Z (115, 37, [(2, ((r0 : Nat) : Int)), l1, l2], [(0, 0), (2, ((q_rf K r0 0 : Nat) : Int)), (2, ((q_rf K r0 4 : Nat) : Int))], (K, σ, n, e, s)) = _
  exact g_inv (k := 1) (m' := 65) (np := 2) (as := [(2, ((q_rf K r0 4 : Nat) : Int)), (2, ((q_rf K r0 0 : Nat) : Int)), (0, 0)]) (by decide +kernel : decode (m_byt 115) 37 = .ok (.invokevirtual 124, 3)) (Or.inl ⟨rfl, rfl⟩) (by decide +kernel) (by decide +kernel) (by decide +kernel) (Nat.le_of_ble_eq_true rfl) rfl (Or.inr (g_rcv (by decide +kernel) h3))
theorem b_115_40 {Z : mZ} {l1 l2 : mV} {r0 : Nat} {K : Nat → mK} {σ : Nat → Nat → Int} {n e s : Nat} (h0 : q_ob K n r0 6) (h1 : q_rp K r0 4) (h2 : q_ob K n (q_rf K r0 4) 5) : m_run Z (115, 40, [(2, ((r0 : Nat) : Int)), l1, l2], [], (K, σ, n, e, s)) = (m_cl Z 66 [(2, ((q_rf K r0 4 : Nat) : Int))] (K, σ, n, e, s)).bind (m_aft (m_run Z) 115 44 [(2, ((r0 : Nat) : Int)), l1, l2] []) := by
  refine g_aload_n (k := 0) (v := (2, ((r0 : Nat) : Int))) (by decide +kernel : decode (m_byt 115) 40 = .ok (.aload_n 0, 1)) rfl (Or.inl rfl) ?_
  refine g_getr (ci := 6) (f := 4) (by decide +kernel : decode (m_byt 115) 41 = .ok (.getfield 26, 3)) (by decide +kernel) (by decide +kernel) (by decide +kernel) h0 h1 ?_
  exact g_inv (k := 1) (m' := 66) (np := 0) (as := [(2, ((q_rf K r0 4 : Nat) : Int))]) (by decide +kernel : decode (m_byt 115) 44 = .ok (.invokevirtual 199, 3)) (Or.inl ⟨rfl, rfl⟩) (by decide +kernel) (by decide +kernel) (by decide +kernel) (Nat.le_of_ble_eq_true rfl) rfl (Or.inr (g_rcv (by decide +kernel) h2))
theorem b_115_47 {Z : mZ} {l0 l1 l2 : mV} {s0 : Int} {h : mH} : m_run Z (115, 47, [l0, l1, l2], [(0, s0)], h) = (m_cl Z 1002 [(0, s0)] h).bind (m_aft (m_run Z) 115 47 [l0, l1, l2] []) := by
  exact g_inv (k := 0) (m' := 1002) (np := 1) (as := [(0, s0)]) (by decide +kernel : decode (m_byt 115) 47 = .ok (.invokestatic 168, 3)) (Or.inr (Or.inr ⟨rfl, rfl, by decide, by decide⟩)) (by decide +kernel) (by decide +kernel) (by decide +kernel) (Nat.le_of_ble_eq_true rfl) rfl (Or.inl rfl)
theorem b_115_50 {Z : mZ} {l2 : mV} {x1 : Int} {r0 : Nat} {K : Nat → mK} {σ : Nat → Nat → Int} {n e s : Nat} (h0 : q_ob K n r0 6) (h1 : q_rp K r0 4) (h2 : q_ob K n (q_rf K r0 4) 5) : m_run Z (115, 50, [(2, ((r0 : Nat) : Int)), (0, x1), l2], [], (K, σ, n, e, s)) = (m_cl Z 88 [(2, ((q_rf K r0 4 : Nat) : Int)), (0, x1)] (K, σ, n, e, s)).bind (m_aft (m_run Z) 115 55 [(2, ((r0 : Nat) : Int)), (0, x1), l2] []) := by
  refine g_aload_n (k := 0) (v := (2, ((r0 : Nat) : Int))) (by decide +kernel : decode (m_byt 115) 50 = .ok (.aload_n 0, 1)) rfl (Or.inl rfl) ?_
  refine g_getr (ci := 6) (f := 4) (by decide +kernel : decode (m_byt 115) 51 = .ok (.getfield 26, 3)) (by decide +kernel) (by decide +kernel) (by decide +kernel) h0 h1 ?_
  refine g_iload_n (k := 1) (x := x1) (by decide +kernel : decode (m_byt 115) 54 = .ok (.iload_n 1, 1)) rfl ?_
  exact g_inv (k := 1) (m' := 88) (np := 1) (as := [(2, ((q_rf K r0 4 : Nat) : Int)), (0, x1)]) (by decide +kernel : decode (m_byt 115) 55 = .ok (.invokevirtual 203, 3)) (Or.inl ⟨rfl, rfl⟩) (by decide +kernel) (by decide +kernel) (by decide +kernel) (Nat.le_of_ble_eq_true rfl) rfl (Or.inr (g_rcv (by decide +kernel) h2))
theorem b_115_58 {Z : mZ} {l1 : mV} {x2 : Int} {r0 : Nat} {K : Nat → mK} {σ : Nat → Nat → Int} {n e s : Nat} (h0 : q_ob K n r0 6) : m_run Z (115, 58, [(2, ((r0 : Nat) : Int)), l1, (0, x2)], [], (K, σ, n, e, s)) = (m_cl Z 143 [(2, ((r0 : Nat) : Int)), (0, x2)] (K, σ, n, e, s)).bind (m_aft (m_run Z) 115 60 [(2, ((r0 : Nat) : Int)), l1, (0, x2)] []) := by
  refine g_aload_n (k := 0) (v := (2, ((r0 : Nat) : Int))) (by decide +kernel : decode (m_byt 115) 58 = .ok (.aload_n 0, 1)) rfl (Or.inl rfl) ?_
  refine g_iload_n (k := 2) (x := x2) (by decide +kernel : decode (m_byt 115) 59 = .ok (.iload_n 2, 1)) rfl ?_
  exact g_inv (k := 1) (m' := 143) (np := 1) (as := [(2, ((r0 : Nat) : Int)), (0, x2)]) (by decide +kernel : decode (m_byt 115) 60 = .ok (.invokevirtual 212, 3)) (Or.inl ⟨rfl, rfl⟩) (by decide +kernel) (by decide +kernel) (by decide +kernel) (Nat.le_of_ble_eq_true rfl) rfl (Or.inr (g_rcv (by decide +kernel) h0))
theorem b_115_63 {Z : mZ} {l0 l1 l2 : mV} {s0 : Int} {h : mH} : m_run Z (115, 63, [l0, l1, l2], [(0, s0)], h) = some (.inl (0, s0), h) := by
  exact g_iret (by decide +kernel : decode (m_byt 115) 63 = .ok (.ireturn, 1)) (by decide +kernel)
theorem e_116 {Z : mZ} {r0 : Nat} {x1 : Int} {h : mH} : m_cl Z 116 [(2, ((r0 : Nat) : Int)), (0, x1)] h = m_run Z (116, 0, [(2, ((r0 : Nat) : Int)), (0, x1)], [], h) := g_ent (k := 2) (by decide) (by decide +kernel) (Nat.le_of_ble_eq_true rfl) (by decide +kernel) rfl
theorem b_116_0 {Z : mZ} {x1 : Int} {r0 : Nat} {K : Nat → mK} {σ : Nat → Nat → Int} {n e s : Nat} (h0 : q_ob K n r0 6) (h1 : q_rp K r0 0) (h2 : q_ob K n (q_rf K r0 0) 1) : m_run Z (116, 0, [(2, ((r0 : Nat) : Int)), (0, x1)], [], (K, σ, n, e, s)) = (m_cl Z 18 [(2, ((q_rf K r0 0 : Nat) : Int)), (0, x1)] (K, σ, n, e, s)).bind (m_aft (m_run Z) 116 5 [(2, ((r0 : Nat) : Int)), (0, x1)] []) := by
  refine g_aload_n (k := 0) (v := (2, ((r0 : Nat) : Int))) (by decide +kernel : decode (m_byt 116) 0 = .ok (.aload_n 0, 1)) rfl (Or.inl rfl) ?_
  refine g_getr (ci := 6) (f := 0) (by decide +kernel : decode (m_byt 116) 1 = .ok (.getfield 12, 3)) (by decide +kernel) (by decide +kernel) (by decide +kernel) h0 h1 ?_
  refine g_iload_n (k := 1) (x := x1) (by decide +kernel : decode (m_byt 116) 4 = .ok (.iload_n 1, 1)) rfl ?_
  exact g_inv (k := 1) (m' := 18) (np := 1) (as := [(2, ((q_rf K r0 0 : Nat) : Int)), (0, x1)]) (by decide +kernel : decode (m_byt 116) 5 = .ok (.invokevirtual 181, 3)) (Or.inl ⟨rfl, rfl⟩) (by decide +kernel) (by decide +kernel) (by decide +kernel) (Nat.le_of_ble_eq_true rfl) rfl (Or.inr (g_rcv (by decide +kernel) h2))
theorem b_116_8 {Z : mZ} {l0 l1 : mV} {s0 : Int} {h : mH} : m_run Z (116, 8, [l0, l1], [(0, s0)], h) = (m_cl Z 1001 [(0, s0)] h).bind (m_aft (m_run Z) 116 8 [l0, l1] []) := by
  exact g_inv (k := 0) (m' := 1001) (np := 1) (as := [(0, s0)]) (by decide +kernel : decode (m_byt 116) 8 = .ok (.invokestatic 53, 3)) (Or.inr (Or.inr ⟨rfl, rfl, by decide, by decide⟩)) (by decide +kernel) (by decide +kernel) (by decide +kernel) (Nat.le_of_ble_eq_true rfl) rfl (Or.inl rfl)
theorem b_116_11 {Z : mZ} {l1 : mV} {r0 : Nat} {K : Nat → mK} {σ : Nat → Nat → Int} {n e s : Nat} (h0 : q_ob K n r0 6) (h1 : q_rp K r0 4) (h2 : q_rp K r0 0) (h3 : q_ob K n (q_rf K r0 4) 5) : m_run Z (116, 11, [(2, ((r0 : Nat) : Int)), l1], [], (K, σ, n, e, s)) = (m_cl Z 65 [(2, ((q_rf K r0 4 : Nat) : Int)), (2, ((q_rf K r0 0 : Nat) : Int)), (0, 0)] (K, σ, n, e, s)).bind (m_aft (m_run Z) 116 20 [(2, ((r0 : Nat) : Int)), l1] []) := by
  refine g_aload_n (k := 0) (v := (2, ((r0 : Nat) : Int))) (by decide +kernel : decode (m_byt 116) 11 = .ok (.aload_n 0, 1)) rfl (Or.inl rfl) ?_
  refine g_getr (ci := 6) (f := 4) (by decide +kernel : decode (m_byt 116) 12 = .ok (.getfield 26, 3)) (by decide +kernel) (by decide +kernel) (by decide +kernel) h0 h1 ?_
  refine g_aload_n (k := 0) (v := (2, ((r0 : Nat) : Int))) (by decide +kernel : decode (m_byt 116) 15 = .ok (.aload_n 0, 1)) rfl (Or.inl rfl) ?_
  refine g_getr (ci := 6) (f := 0) (by decide +kernel : decode (m_byt 116) 16 = .ok (.getfield 12, 3)) (by decide +kernel) (by decide +kernel) (by decide +kernel) h0 h2 ?_
  refine g_base (by decide +kernel : decode (m_byt 116) 19 = .ok (.iconst 0, 1)) rfl rfl ?_
  show m_run Z (116, 20, [(2, ((r0 : Nat) : Int)), l1], [(0, 0), (2, ((q_rf K r0 0 : Nat) : Int)), (2, ((q_rf K r0 4 : Nat) : Int))], (K, σ, n, e, s)) = _
  exact g_inv (k := 1) (m' := 65) (np := 2) (as := [(2, ((q_rf K r0 4 : Nat) : Int)), (2, ((q_rf K r0 0 : Nat) : Int)), (0, 0)]) (by decide +kernel : decode (m_byt 116) 20 = .ok (.invokevirtual 124, 3)) (Or.inl ⟨rfl, rfl⟩) (by decide +kernel) (by decide +kernel) (by decide +kernel) (Nat.le_of_ble_eq_true rfl) rfl (Or.inr (g_rcv (by decide +kernel) h3))
theorem b_116_23 {Z : mZ} {l1 : mV} {r0 : Nat} {K : Nat → mK} {σ : Nat → Nat → Int} {n e s : Nat} (h0 : q_ob K n r0 6) (h1 : q_rp K r0 4) (h2 : q_ob K n (q_rf K r0 4) 5) : m_run Z (116, 23, [(2, ((r0 : Nat) : Int)), l1], [], (K, σ, n, e, s)) = (m_cl Z 66 [(2, ((q_rf K r0 4 : Nat) : Int))] (K, σ, n, e, s)).bind (m_aft (m_run Z) 116 27 [(2, ((r0 : Nat) : Int)), l1] []) := by
  refine g_aload_n (k := 0) (v := (2, ((r0 : Nat) : Int))) (by decide +kernel : decode (m_byt 116) 23 = .ok (.aload_n 0, 1)) rfl (Or.inl rfl) ?_
  refine g_getr (ci := 6) (f := 4) (by decide +kernel : decode (m_byt 116) 24 = .ok (.getfield 26, 3)) (by decide +kernel) (by decide +kernel) (by decide +kernel) h0 h1 ?_
  exact g_inv (k := 1) (m' := 66) (np := 0) (as := [(2, ((q_rf K r0 4 : Nat) : Int))]) (by decide +kernel : decode (m_byt 116) 27 = .ok (.invokevirtual 199, 3)) (Or.inl ⟨rfl, rfl⟩) (by decide +kernel) (by decide +kernel) (by decide +kernel) (Nat.le_of_ble_eq_true rfl) rfl (Or.inr (g_rcv (by decide +kernel) h2))
theorem b_116_30 {Z : mZ} {l0 l1 : mV} {s0 : Int} {h : mH} : m_run Z (116, 30, [l0, l1], [(0, s0)], h) = (m_cl Z 1002 [(0, s0)] h).bind (m_aft (m_run Z) 116 30 [l0, l1] []) := by
  exact g_inv (k := 0) (m' := 1002) (np := 1) (as := [(0, s0)]) (by decide +kernel : decode (m_byt 116) 30 = .ok (.invokestatic 168, 3)) (Or.inr (Or.inr ⟨rfl, rfl, by decide, by decide⟩)) (by decide +kernel) (by decide +kernel) (by decide +kernel) (Nat.le_of_ble_eq_true rfl) rfl (Or.inl rfl)
theorem b_116_33 {Z : mZ} {x1 : Int} {r0 : Nat} {K : Nat → mK} {σ : Nat → Nat → Int} {n e s : Nat} (h0 : q_ob K n r0 6) (h1 : q_rp K r0 4) (h2 : q_ob K n (q_rf K r0 4) 5) : m_run Z (116, 33, [(2, ((r0 : Nat) : Int)), (0, x1)], [], (K, σ, n, e, s)) = (m_cl Z 88 [(2, ((q_rf K r0 4 : Nat) : Int)), (0, x1)] (K, σ, n, e, s)).bind (m_aft (m_run Z) 116 38 [(2, ((r0 : Nat) : Int)), (0, x1)] []) := by
  refine g_aload_n (k := 0) (v := (2, ((r0 : Nat) : Int))) (by decide +kernel : decode (m_byt 116) 33 = .ok (.aload_n 0, 1)) rfl (Or.inl rfl) ?_
  refine g_getr (ci := 6) (f := 4) (by decide +kernel : decode (m_byt 116) 34 = .ok (.getfield 26, 3)) (by decide +kernel) (by decide +kernel) (by decide +kernel) h0 h1 ?_
  refine g_iload_n (k := 1) (x := x1) (by decide +kernel : decode (m_byt 116) 37 = .ok (.iload_n 1, 1)) rfl ?_
  exact g_inv (k := 1) (m' := 88) (np := 1) (as := [(2, ((q_rf K r0 4 : Nat) : Int)), (0, x1)]) (by decide +kernel : decode (m_byt 116) 38 = .ok (.invokevirtual 203, 3)) (Or.inl ⟨rfl, rfl⟩) (by decide +kernel) (by decide +kernel) (by decide +kernel) (Nat.le_of_ble_eq_true rfl) rfl (Or.inr (g_rcv (by decide +kernel) h2))
theorem b_116_41 {Z : mZ} {x1 : Int} {r0 : Nat} {K : Nat → mK} {σ : Nat → Nat → Int} {n e s : Nat} (h0 : q_ob K n r0 6) (h1 : q_rp K r0 4) (h2 : q_ob K n (q_rf K r0 4) 5) : m_run Z (116, 41, [(2, ((r0 : Nat) : Int)), (0, x1)], [], (K, σ, n, e, s)) = (m_cl Z 93 [(2, ((q_rf K r0 4 : Nat) : Int)), (0, x1)] (K, σ, n, e, s)).bind (m_aft (m_run Z) 116 46 [(2, ((r0 : Nat) : Int)), (0, x1)] []) := by
  refine g_aload_n (k := 0) (v := (2, ((r0 : Nat) : Int))) (by decide +kernel : decode (m_byt 116) 41 = .ok (.aload_n 0, 1)) rfl (Or.inl rfl) ?_
  refine g_getr (ci := 6) (f := 4) (by decide +kernel : decode (m_byt 116) 42 = .ok (.getfield 26, 3)) (by decide +kernel) (by decide +kernel) (by decide +kernel) h0 h1 ?_
  refine g_iload_n (k := 1) (x := x1) (by decide +kernel : decode (m_byt 116) 45 = .ok (.iload_n 1, 1)) rfl ?_
  exact g_inv (k := 1) (m' := 93) (np := 1) (as := [(2, ((q_rf K r0 4 : Nat) : Int)), (0, x1)]) (by decide +kernel : decode (m_byt 116) 46 = .ok (.invokevirtual 215, 3)) (Or.inl ⟨rfl, rfl⟩) (by decide +kernel) (by decide +kernel) (by decide +kernel) (Nat.le_of_ble_eq_true rfl) rfl (Or.inr (g_rcv (by decide +kernel) h2))
theorem b_116_49 {Z : mZ} {l0 l1 : mV} {s0 : Int} {h : mH} : m_run Z (116, 49, [l0, l1], [(0, s0)], h) = some (.inl (0, s0), h) := by
  exact g_iret (by decide +kernel : decode (m_byt 116) 49 = .ok (.ireturn, 1)) (by decide +kernel)
theorem e_117 {Z : mZ} {r0 : Nat} {x1 : Int} {h : mH} : m_cl Z 117 [(2, ((r0 : Nat) : Int)), (0, x1)] h = m_run Z (117, 0, [(2, ((r0 : Nat) : Int)), (0, x1)], [], h) := g_ent (k := 2) (by decide) (by decide +kernel) (Nat.le_of_ble_eq_true rfl) (by decide +kernel) rfl
theorem b_117_0 {Z : mZ} {l0 : mV} {x1 : Int} {h : mH} : m_run Z (117, 0, [l0, (0, x1)], [], h) = if w32 x1 < 0 then m_run Z (117, 13, [l0, (0, x1)], [], h) else m_run Z (117, 4, [l0, (0, x1)], [], h) := by
  refine g_iload_n (k := 1) (x := x1) (by decide +kernel : decode (m_byt 117) 0 = .ok (.iload_n 1, 1)) rfl ?_
  exact g_brq (t := 13) (off := 12) (by decide +kernel : decode (m_byt 117) 1 = .ok (.ifCond .lt 12, 3)) rfl rfl (by decide)
theorem b_117_4 {Z : mZ} {l0 : mV} {x1 : Int} {h : mH} : m_run Z (117, 4, [l0, (0, x1)], [], h) = if w32 4 < w32 x1 then m_run Z (117, 13, [l0, (0, x1)], [], h) else m_run Z (117, 9, [l0, (0, x1)], [], h) := by
  refine g_iload_n (k := 1) (x := x1) (by decide +kernel : decode (m_byt 117) 4 = .ok (.iload_n 1, 1)) rfl ?_
  refine g_base (by decide +kernel : decode (m_byt 117) 5 = .ok (.iconst 4, 1)) rfl rfl ?_
  show m_run Z (117, 6, [l0, (0, x1)], [(0, 4), (0, x1)], h) = _
  exact g_brq (t := 13) (off := 7) (by decide +kernel : decode (m_byt 117) 6 = .ok (.if_icmp .gt 7, 3)) rfl rfl (by decide)
theorem b_117_9 {Z : mZ} {l0 l1 : mV} {h : mH} : m_run Z (117, 9, [l0, l1], [], h) = (m_cl Z 1001 [(0, 1)] h).bind (m_aft (m_run Z) 117 14 [l0, l1] []) := by
  refine g_base (by decide +kernel : decode (m_byt 117) 9 = .ok (.iconst 1, 1)) rfl rfl ?_
  show m_run Z (117, 10, [l0, l1], [(0, 1)], h) = _
  refine g_jmp (t := 14) (by decide +kernel : decode (m_byt 117) 10 = .ok (.goto 4, 3)) (by decide) ?_
  exact g_inv (k := 0) (m' := 1001) (np := 1) (as := [(0, 1)]) (by decide +kernel : decode (m_byt 117) 14 = .ok (.invokestatic 53, 3)) (Or.inr (Or.inr ⟨rfl, rfl, by decide, by decide⟩)) (by decide +kernel) (by decide +kernel) (by decide +kernel) (Nat.le_of_ble_eq_true rfl) rfl (Or.inl rfl)
theorem b_117_13 {Z : mZ} {l0 l1 : mV} {h : mH} : m_run Z (117, 13, [l0, l1], [], h) = m_run Z (117, 14, [l0, l1], [(0, 0)], h) := by
  refine g_base (by decide +kernel : decode (m_byt 117) 13 = .ok (.iconst 0, 1)) rfl rfl ?_
  show m_run Z (117, 14, [l0, l1], [(0, 0)], h) = _
  rfl
theorem b_117_14 {Z : mZ} {l0 l1 : mV} {s0 : Int} {h : mH} : m_run Z (117, 14, [l0, l1], [(0, s0)], h) = (m_cl Z 1001 [(0, s0)] h).bind (m_aft (m_run Z) 117 14 [l0, l1] []) := by
  exact g_inv (k := 0) (m' := 1001) (np := 1) (as := [(0, s0)]) (by decide +kernel : decode (m_byt 117) 14 = .ok (.invokestatic 53, 3)) (Or.inr (Or.inr ⟨rfl, rfl, by decide, by decide⟩)) (by decide +kernel) (by decide +kernel) (by decide +kernel) (Nat.le_of_ble_eq_true rfl) rfl (Or.inl rfl)
theorem b_117_17 {Z : mZ} {l1 : mV} {r0 : Nat} {K : Nat → mK} {σ : Nat → Nat → Int} {n e s : Nat} (h0 : q_ob K n r0 6) (h1 : q_rp K r0 4) (h2 : q_rp K r0 0) (h3 : q_ob K n (q_rf K r0 4) 5) : m_run Z (117, 17, [(2, ((r0 : Nat) : Int)), l1], [], (K, σ, n, e, s)) = (m_cl Z 65 [(2, ((q_rf K r0 4 : Nat) : Int)), (2, ((q_rf K r0 0 : Nat) : Int)), (0, 0)] (K, σ, n, e, s)).bind (m_aft (m_run Z) 117 26 [(2, ((r0 : Nat) : Int)), l1] []) := by
  refine g_aload_n (k := 0) (v := (2, ((r0 : Nat) : Int))) (by decide +kernel : decode (m_byt 117) 17 = .ok (.aload_n 0, 1)) rfl (Or.inl rfl) ?_
  refine g_getr (ci := 6) (f := 4) (by decide +kernel : decode (m_byt 117) 18 = .ok (.getfield 26, 3)) (by decide +kernel) (by decide +kernel) (by decide +kernel) h0 h1 ?_
  refine g_aload_n (k := 0) (v := (2, ((r0 : Nat) : Int))) (by decide +kernel : decode (m_byt 117) 21 = .ok (.aload_n 0, 1)) rfl (Or.inl rfl) ?_
  refine g_getr (ci := 6) (f := 0) (by decide +kernel : decode (m_byt 117) 22 = .ok (.getfield 12, 3)) (by decide +kernel) (by decide +kernel) (by decide +kernel) h0 h2 ?_
  refine g_base (by decide +kernel : decode (m_byt 117) 25 = .ok (.iconst 0, 1)) rfl rfl ?_
  show m_run Z (117, 26, [(2, ((r0 : Nat) : Int)), l1], [(0, 0), (2, ((q_rf K r0 0 : Nat) : Int)), (2, ((q_rf K r0 4 : Nat) : Int))], (K, σ, n, e, s)) = _
  exact g_inv (k := 1) (m' := 65) (np := 2) (as := [(2, ((q_rf K r0 4 : Nat) : Int)), (2, ((q_rf K r0 0 : Nat) : Int)), (0, 0)]) (by decide +kernel : decode (m_byt 117) 26 = .ok (.invokevirtual 124, 3)) (Or.inl ⟨rfl, rfl⟩) (by decide +kernel) (by decide +kernel) (by decide +kernel) (Nat.le_of_ble_eq_true rfl) rfl (Or.inr (g_rcv (by decide +kernel) h3))
theorem b_117_29 {Z : mZ} {l1 : mV} {r0 : Nat} {K : Nat → mK} {σ : Nat → Nat → Int} {n e s : Nat} (h0 : q_ob K n r0 6) (h1 : q_rp K r0 4) (h2 : q_ob K n (q_rf K r0 4) 5) : m_run Z (117, 29, [(2, ((r0 : Nat) : Int)), l1], [], (K, σ, n, e, s)) = (m_cl Z 66 [(2, ((q_rf K r0 4 : Nat) : Int))] (K, σ, n, e, s)).bind (m_aft (m_run Z) 117 33 [(2, ((r0 : Nat) : Int)), l1] []) := by
  refine g_aload_n (k := 0) (v := (2, ((r0 : Nat) : Int))) (by decide +kernel : decode (m_byt 117) 29 = .ok (.aload_n 0, 1)) rfl (Or.inl rfl) ?_
  refine g_getr (ci := 6) (f := 4) (by decide +kernel : decode (m_byt 117) 30 = .ok (.getfield 26, 3)) (by decide +kernel) (by decide +kernel) (by decide +kernel) h0 h1 ?_
  exact g_inv (k := 1) (m' := 66) (np := 0) (as := [(2, ((q_rf K r0 4 : Nat) : Int))]) (by decide +kernel : decode (m_byt 117) 33 = .ok (.invokevirtual 199, 3)) (Or.inl ⟨rfl, rfl⟩) (by decide +kernel) (by decide +kernel) (by decide +kernel) (Nat.le_of_ble_eq_true rfl) rfl (Or.inr (g_rcv (by decide +kernel) h2))
theorem b_117_36 {Z : mZ} {l0 l1 : mV} {s0 : Int} {h : mH} : m_run Z (117, 36, [l0, l1], [(0, s0)], h) = (m_cl Z 1002 [(0, s0)] h).bind (m_aft (m_run Z) 117 36 [l0, l1] []) := by
  exact g_inv (k := 0) (m' := 1002) (np := 1) (as := [(0, s0)]) (by decide +kernel : decode (m_byt 117) 36 = .ok (.invokestatic 168, 3)) (Or.inr (Or.inr ⟨rfl, rfl, by decide, by decide⟩)) (by decide +kernel) (by decide +kernel) (by decide +kernel) (Nat.le_of_ble_eq_true rfl) rfl (Or.inl rfl)
theorem b_117_39 {Z : mZ} {l1 : mV} {r0 : Nat} {K : Nat → mK} {σ : Nat → Nat → Int} {n e s : Nat} (h0 : q_ob K n r0 6) (h1 : q_rp K r0 4) (h2 : q_ob K n (q_rf K r0 4) 5) : m_run Z (117, 39, [(2, ((r0 : Nat) : Int)), l1], [], (K, σ, n, e, s)) = (m_cl Z 89 [(2, ((q_rf K r0 4 : Nat) : Int))] (K, σ, n, e, s)).bind (m_aft (m_run Z) 117 43 [(2, ((r0 : Nat) : Int)), l1] []) := by
  refine g_aload_n (k := 0) (v := (2, ((r0 : Nat) : Int))) (by decide +kernel : decode (m_byt 117) 39 = .ok (.aload_n 0, 1)) rfl (Or.inl rfl) ?_
  refine g_getr (ci := 6) (f := 4) (by decide +kernel : decode (m_byt 117) 40 = .ok (.getfield 26, 3)) (by decide +kernel) (by decide +kernel) (by decide +kernel) h0 h1 ?_
  exact g_inv (k := 1) (m' := 89) (np := 0) (as := [(2, ((q_rf K r0 4 : Nat) : Int))]) (by decide +kernel : decode (m_byt 117) 43 = .ok (.invokevirtual 218, 3)) (Or.inl ⟨rfl, rfl⟩) (by decide +kernel) (by decide +kernel) (by decide +kernel) (Nat.le_of_ble_eq_true rfl) rfl (Or.inr (g_rcv (by decide +kernel) h2))
theorem b_117_46 {Z : mZ} {x1 : Int} {r0 : Nat} {K : Nat → mK} {σ : Nat → Nat → Int} {n e s : Nat} (h0 : q_ob K n r0 6) : m_run Z (117, 46, [(2, ((r0 : Nat) : Int)), (0, x1)], [], (K, σ, n, e, s)) = (m_cl Z 143 [(2, ((r0 : Nat) : Int)), (0, x1)] (K, σ, n, e, s)).bind (m_aft (m_run Z) 117 48 [(2, ((r0 : Nat) : Int)), (0, x1)] []) := by
  refine g_aload_n (k := 0) (v := (2, ((r0 : Nat) : Int))) (by decide +kernel : decode (m_byt 117) 46 = .ok (.aload_n 0, 1)) rfl (Or.inl rfl) ?_
  refine g_iload_n (k := 1) (x := x1) (by decide +kernel : decode (m_byt 117) 47 = .ok (.iload_n 1, 1)) rfl ?_
  exact g_inv (k := 1) (m' := 143) (np := 1) (as := [(2, ((r0 : Nat) : Int)), (0, x1)]) (by decide +kernel : decode (m_byt 117) 48 = .ok (.invokevirtual 212, 3)) (Or.inl ⟨rfl, rfl⟩) (by decide +kernel) (by decide +kernel) (by decide +kernel) (Nat.le_of_ble_eq_true rfl) rfl (Or.inr (g_rcv (by decide +kernel) h0))
theorem b_117_51 {Z : mZ} {l0 l1 : mV} {s0 : Int} {h : mH} : m_run Z (117, 51, [l0, l1], [(0, s0)], h) = some (.inl (0, s0), h) := by
  exact g_iret (by decide +kernel : decode (m_byt 117) 51 = .ok (.ireturn, 1)) (by decide +kernel)
theorem e_118 {Z : mZ} {r0 : Nat} {x1 : Int} {x2 : Int} {h : mH} : m_cl Z 118 [(2, ((r0 : Nat) : Int)), (0, x1), (0, x2)] h = m_run Z (118, 0, [(2, ((r0 : Nat) : Int)), (0, x1), (0, x2)], [], h) := g_ent (k := 3) (by decide) (by decide +kernel) (Nat.le_of_ble_eq_true rfl) (by decide +kernel) rfl
theorem b_118_0 {Z : mZ} {l0 l2 : mV} {x1 : Int} {h : mH} : m_run Z (118, 0, [l0, (0, x1), l2], [], h) = if w32 x1 < w32 1 then m_run Z (118, 21, [l0, (0, x1), l2], [], h) else m_run Z (118, 5, [l0, (0, x1), l2], [], h) := by
  refine g_iload_n (k := 1) (x := x1) (by decide +kernel : decode (m_byt 118) 0 = .ok (.iload_n 1, 1)) rfl ?_
  refine g_base (by decide +kernel : decode (m_byt 118) 1 = .ok (.iconst 1, 1)) rfl rfl ?_
  show m_run Z (118, 2, [l0, (0, x1), l2], [(0, 1), (0, x1)], h) = _
  exact g_brq (t := 21) (off := 19) (by decide +kernel : decode (m_byt 118) 2 = .ok (.if_icmp .lt 19, 3)) rfl rfl (by decide)
theorem b_118_5 {Z : mZ} {l0 l2 : mV} {x1 : Int} {h : mH} : m_run Z (118, 5, [l0, (0, x1), l2], [], h) = if w32 3 < w32 x1 then m_run Z (118, 21, [l0, (0, x1), l2], [], h) else m_run Z (118, 10, [l0, (0, x1), l2], [], h) := by
  refine g_iload_n (k := 1) (x := x1) (by decide +kernel : decode (m_byt 118) 5 = .ok (.iload_n 1, 1)) rfl ?_
  refine g_base (by decide +kernel : decode (m_byt 118) 6 = .ok (.iconst 3, 1)) rfl rfl ?_
  show m_run Z (118, 7, [l0, (0, x1), l2], [(0, 3), (0, x1)], h) = _
  exact g_brq (t := 21) (off := 14) (by decide +kernel : decode (m_byt 118) 7 = .ok (.if_icmp .gt 14, 3)) rfl rfl (by decide)
theorem b_118_10 {Z : mZ} {l0 l1 : mV} {x2 : Int} {h : mH} : m_run Z (118, 10, [l0, l1, (0, x2)], [], h) = (m_cl Z 134 [(0, x2)] h).bind (m_aft (m_run Z) 118 11 [l0, l1, (0, x2)] []) := by
  refine g_iload_n (k := 2) (x := x2) (by decide +kernel : decode (m_byt 118) 10 = .ok (.iload_n 2, 1)) rfl ?_
  exact g_inv (k := 0) (m' := 134) (np := 1) (as := [(0, x2)]) (by decide +kernel : decode (m_byt 118) 11 = .ok (.invokestatic 162, 3)) (Or.inr (Or.inr ⟨rfl, rfl, by decide, by decide⟩)) (by decide +kernel) (by decide +kernel) (by decide +kernel) (Nat.le_of_ble_eq_true rfl) rfl (Or.inl rfl)
theorem b_118_14 {Z : mZ} {l0 l1 l2 : mV} {s0 : Int} {h : mH} : m_run Z (118, 14, [l0, l1, l2], [(0, s0)], h) = if w32 s0 = 0 then m_run Z (118, 21, [l0, l1, l2], [], h) else m_run Z (118, 17, [l0, l1, l2], [], h) := by
  exact g_brq (t := 21) (off := 7) (by decide +kernel : decode (m_byt 118) 14 = .ok (.ifCond .eq 7, 3)) rfl rfl (by decide)
theorem b_118_17 {Z : mZ} {l0 l1 l2 : mV} {h : mH} : m_run Z (118, 17, [l0, l1, l2], [], h) = (m_cl Z 1001 [(0, 1)] h).bind (m_aft (m_run Z) 118 22 [l0, l1, l2] []) := by
  refine g_base (by decide +kernel : decode (m_byt 118) 17 = .ok (.iconst 1, 1)) rfl rfl ?_
  show m_run Z (118, 18, [l0, l1, l2], [(0, 1)], h) = _
  refine g_jmp (t := 22) (by decide +kernel : decode (m_byt 118) 18 = .ok (.goto 4, 3)) (by decide) ?_
  exact g_inv (k := 0) (m' := 1001) (np := 1) (as := [(0, 1)]) (by decide +kernel : decode (m_byt 118) 22 = .ok (.invokestatic 53, 3)) (Or.inr (Or.inr ⟨rfl, rfl, by decide, by decide⟩)) (by decide +kernel) (by decide +kernel) (by decide +kernel) (Nat.le_of_ble_eq_true rfl) rfl (Or.inl rfl)
theorem b_118_21 {Z : mZ} {l0 l1 l2 : mV} {h : mH} : m_run Z (118, 21, [l0, l1, l2], [], h) = m_run Z (118, 22, [l0, l1, l2], [(0, 0)], h) := by
  refine g_base (by decide +kernel : decode (m_byt 118) 21 = .ok (.iconst 0, 1)) rfl rfl ?_
  show m_run Z (118, 22, [l0, l1, l2], [(0, 0)], h) = _
  rfl
theorem b_118_22 {Z : mZ} {l0 l1 l2 : mV} {s0 : Int} {h : mH} : m_run Z (118, 22, [l0, l1, l2], [(0, s0)], h) = (m_cl Z 1001 [(0, s0)] h).bind (m_aft (m_run Z) 118 22 [l0, l1, l2] []) := by
  exact g_inv (k := 0) (m' := 1001) (np := 1) (as := [(0, s0)]) (by decide +kernel : decode (m_byt 118) 22 = .ok (.invokestatic 53, 3)) (Or.inr (Or.inr ⟨rfl, rfl, by decide, by decide⟩)) (by decide +kernel) (by decide +kernel) (by decide +kernel) (Nat.le_of_ble_eq_true rfl) rfl (Or.inl rfl)
theorem b_118_25 {Z : mZ} {l1 l2 : mV} {r0 : Nat} {K : Nat → mK} {σ : Nat → Nat → Int} {n e s : Nat} (h0 : q_ob K n r0 6) (h1 : q_rp K r0 4) (h2 : q_rp K r0 0) (h3 : q_ob K n (q_rf K r0 4) 5) : m_run Z (118, 25, [(2, ((r0 : Nat) : Int)), l1, l2], [], (K, σ, n, e, s)) = (m_cl Z 65 [(2, ((q_rf K r0 4 : Nat) : Int)), (2, ((q_rf K r0 0 : Nat) : Int)), (0, 0)] (K, σ, n, e, s)).bind (m_aft (m_run Z) 118 34 [(2, ((r0 : Nat) : Int)), l1, l2] []) := by
  refine g_aload_n (k := 0) (v := (2, ((r0 : Nat) : Int))) (by decide +kernel : decode (m_byt 118) 25 = .ok (.aload_n 0, 1)) rfl (Or.inl rfl) ?_
  refine g_getr (ci := 6) (f := 4) (by decide +kernel : decode (m_byt 118) 26 = .ok (.getfield 26, 3)) (by decide +kernel) (by decide +kernel) (by decide +kernel) h0 h1 ?_
  refine g_aload_n (k := 0) (v := (2, ((r0 : Nat) : Int))) (by decide +kernel : decode (m_byt 118) 29 = .ok (.aload_n 0, 1)) rfl (Or.inl rfl) ?_
  refine g_getr (ci := 6) (f := 0) (by decide +kernel : decode (m_byt 118) 30 = .ok (.getfield 12, 3)) (by decide +kernel) (by decide +kernel) (by decide +kernel) h0 h2 ?_
  refine g_base (by decide +kernel : decode (m_byt 118) 33 = .ok (.iconst 0, 1)) rfl rfl ?_
  show m_run Z (118, 34, [(2, ((r0 : Nat) : Int)), l1, l2], [(0, 0), (2, ((q_rf K r0 0 : Nat) : Int)), (2, ((q_rf K r0 4 : Nat) : Int))], (K, σ, n, e, s)) = _
  exact g_inv (k := 1) (m' := 65) (np := 2) (as := [(2, ((q_rf K r0 4 : Nat) : Int)), (2, ((q_rf K r0 0 : Nat) : Int)), (0, 0)]) (by decide +kernel : decode (m_byt 118) 34 = .ok (.invokevirtual 124, 3)) (Or.inl ⟨rfl, rfl⟩) (by decide +kernel) (by decide +kernel) (by decide +kernel) (Nat.le_of_ble_eq_true rfl) rfl (Or.inr (g_rcv (by decide +kernel) h3))
theorem b_118_37 {Z : mZ} {l1 l2 : mV} {r0 : Nat} {K : Nat → mK} {σ : Nat → Nat → Int} {n e s : Nat} (h0 : q_ob K n r0 6) (h1 : q_rp K r0 4) (h2 : q_ob K n (q_rf K r0 4) 5) : m_run Z (118, 37, [(2, ((r0 : Nat) : Int)), l1, l2], [], (K, σ, n, e, s)) = (m_cl Z 66 [(2, ((q_rf K r0 4 : Nat) : Int))] (K, σ, n, e, s)).bind (m_aft (m_run Z) 118 41 [(2, ((r0 : Nat) : Int)), l1, l2] []) := by
  refine g_aload_n (k := 0) (v := (2, ((r0 : Nat) : Int))) (by decide +kernel : decode (m_byt 118) 37 = .ok (.aload_n 0, 1)) rfl (Or.inl rfl) ?_
  refine g_getr (ci := 6) (f := 4) (by decide +kernel : decode (m_byt 118) 38 = .ok (.getfield 26, 3)) (by decide +kernel) (by decide +kernel) (by decide +kernel) h0 h1 ?_
  exact g_inv (k := 1) (m' := 66) (np := 0) (as := [(2, ((q_rf K r0 4 : Nat) : Int))]) (by decide +kernel : decode (m_byt 118) 41 = .ok (.invokevirtual 199, 3)) (Or.inl ⟨rfl, rfl⟩) (by decide +kernel) (by decide +kernel) (by decide +kernel) (Nat.le_of_ble_eq_true rfl) rfl (Or.inr (g_rcv (by decide +kernel) h2))
theorem b_118_44 {Z : mZ} {l0 l1 l2 : mV} {s0 : Int} {h : mH} : m_run Z (118, 44, [l0, l1, l2], [(0, s0)], h) = (m_cl Z 1002 [(0, s0)] h).bind (m_aft (m_run Z) 118 44 [l0, l1, l2] []) := by
  exact g_inv (k := 0) (m' := 1002) (np := 1) (as := [(0, s0)]) (by decide +kernel : decode (m_byt 118) 44 = .ok (.invokestatic 168, 3)) (Or.inr (Or.inr ⟨rfl, rfl, by decide, by decide⟩)) (by decide +kernel) (by decide +kernel) (by decide +kernel) (Nat.le_of_ble_eq_true rfl) rfl (Or.inl rfl)
theorem b_118_47 {Z : mZ} {l1 l2 : mV} {r0 : Nat} {K : Nat → mK} {σ : Nat → Nat → Int} {n e s : Nat} (h0 : q_ob K n r0 6) (h1 : q_rp K r0 6) (h2 : q_ob K n (q_rf K r0 6) 0) : m_run Z (118, 47, [(2, ((r0 : Nat) : Int)), l1, l2], [], (K, σ, n, e, s)) = (m_cl Z 2 [(2, ((q_rf K r0 6 : Nat) : Int))] (K, σ, n, e, s)).bind (m_aft (m_run Z) 118 51 [(2, ((r0 : Nat) : Int)), l1, l2] []) := by
  refine g_aload_n (k := 0) (v := (2, ((r0 : Nat) : Int))) (by decide +kernel : decode (m_byt 118) 47 = .ok (.aload_n 0, 1)) rfl (Or.inl rfl) ?_
  refine g_getr (ci := 6) (f := 6) (by decide +kernel : decode (m_byt 118) 48 = .ok (.getfield 42, 3)) (by decide +kernel) (by decide +kernel) (by decide +kernel) h0 h1 ?_
  exact g_inv (k := 1) (m' := 2) (np := 0) (as := [(2, ((q_rf K r0 6 : Nat) : Int))]) (by decide +kernel : decode (m_byt 118) 51 = .ok (.invokevirtual 221, 3)) (Or.inl ⟨rfl, rfl⟩) (by decide +kernel) (by decide +kernel) (by decide +kernel) (Nat.le_of_ble_eq_true rfl) rfl (Or.inr (g_rcv (by decide +kernel) h2))
theorem b_118_54 {Z : mZ} {x1 x2 : Int} {r0 : Nat} {K : Nat → mK} {σ : Nat → Nat → Int} {n e s : Nat} (h0 : q_ob K n r0 6) : m_run Z (118, 54, [(2, ((r0 : Nat) : Int)), (0, x1), (0, x2)], [], (K, σ, n, e, s)) = (m_cl Z 144 [(2, ((r0 : Nat) : Int)), (0, x1), (0, x2)] (K, σ, n, e, s)).bind (m_aft (m_run Z) 118 57 [(2, ((r0 : Nat) : Int)), (0, x1), (0, x2)] []) := by
  refine g_aload_n (k := 0) (v := (2, ((r0 : Nat) : Int))) (by decide +kernel : decode (m_byt 118) 54 = .ok (.aload_n 0, 1)) rfl (Or.inl rfl) ?_
  refine g_iload_n (k := 1) (x := x1) (by decide +kernel : decode (m_byt 118) 55 = .ok (.iload_n 1, 1)) rfl ?_
  refine g_iload_n (k := 2) (x := x2) (by decide +kernel : decode (m_byt 118) 56 = .ok (.iload_n 2, 1)) rfl ?_
  exact g_inv (k := 1) (m' := 144) (np := 2) (as := [(2, ((r0 : Nat) : Int)), (0, x1), (0, x2)]) (by decide +kernel : decode (m_byt 118) 57 = .ok (.invokevirtual 224, 3)) (Or.inl ⟨rfl, rfl⟩) (by decide +kernel) (by decide +kernel) (by decide +kernel) (Nat.le_of_ble_eq_true rfl) rfl (Or.inr (g_rcv (by decide +kernel) h0))
theorem b_118_60 {Z : mZ} {l0 l1 l2 : mV} {s0 : Int} {h : mH} : m_run Z (118, 60, [l0, l1, l2], [(0, s0)], h) = some (.inl (0, s0), h) := by
  exact g_iret (by decide +kernel : decode (m_byt 118) 60 = .ok (.ireturn, 1)) (by decide +kernel)
theorem e_119 {Z : mZ} {r0 : Nat} {x1 : Int} {x2 : Int} {h : mH} : m_cl Z 119 [(2, ((r0 : Nat) : Int)), (0, x1), (0, x2)] h = m_run Z (119, 0, [(2, ((r0 : Nat) : Int)), (0, x1), (0, x2)], [], h) := g_ent (k := 3) (by decide) (by decide +kernel) (Nat.le_of_ble_eq_true rfl) (by decide +kernel) rfl
theorem b_119_0 {Z : mZ} {l0 l2 : mV} {x1 : Int} {h : mH} : m_run Z (119, 0, [l0, (0, x1), l2], [], h) = if w32 x1 < w32 1 then m_run Z (119, 23, [l0, (0, x1), l2], [], h) else m_run Z (119, 5, [l0, (0, x1), l2], [], h) := by
  refine g_iload_n (k := 1) (x := x1) (by decide +kernel : decode (m_byt 119) 0 = .ok (.iload_n 1, 1)) rfl ?_
  refine g_base (by decide +kernel : decode (m_byt 119) 1 = .ok (.iconst 1, 1)) rfl rfl ?_
  show m_run Z (119, 2, [l0, (0, x1), l2], [(0, 1), (0, x1)], h) = _
  exact g_brq (t := 23) (off := 21) (by decide +kernel : decode (m_byt 119) 2 = .ok (.if_icmp .lt 21, 3)) rfl rfl (by decide)
theorem b_119_5 {Z : mZ} {l0 l2 : mV} {x1 : Int} {h : mH} : m_run Z (119, 5, [l0, (0, x1), l2], [], h) = if w32 3 < w32 x1 then m_run Z (119, 23, [l0, (0, x1), l2], [], h) else m_run Z (119, 10, [l0, (0, x1), l2], [], h) := by
  refine g_iload_n (k := 1) (x := x1) (by decide +kernel : decode (m_byt 119) 5 = .ok (.iload_n 1, 1)) rfl ?_
  refine g_base (by decide +kernel : decode (m_byt 119) 6 = .ok (.iconst 3, 1)) rfl rfl ?_
  show m_run Z (119, 7, [l0, (0, x1), l2], [(0, 3), (0, x1)], h) = _
  exact g_brq (t := 23) (off := 16) (by decide +kernel : decode (m_byt 119) 7 = .ok (.if_icmp .gt 16, 3)) rfl rfl (by decide)
theorem b_119_10 {Z : mZ} {l0 l1 : mV} {x2 : Int} {h : mH} : m_run Z (119, 10, [l0, l1, (0, x2)], [], h) = if w32 x2 < 0 then m_run Z (119, 23, [l0, l1, (0, x2)], [], h) else m_run Z (119, 14, [l0, l1, (0, x2)], [], h) := by
  refine g_iload_n (k := 2) (x := x2) (by decide +kernel : decode (m_byt 119) 10 = .ok (.iload_n 2, 1)) rfl ?_
  exact g_brq (t := 23) (off := 12) (by decide +kernel : decode (m_byt 119) 11 = .ok (.ifCond .lt 12, 3)) rfl rfl (by decide)
theorem b_119_14 {Z : mZ} {l0 : mV} {x2 x1 : Int} {h : mH} : m_run Z (119, 14, [l0, (0, x1), (0, x2)], [], h) = if w32 x1 ≤ w32 x2 then m_run Z (119, 23, [l0, (0, x1), (0, x2)], [], h) else m_run Z (119, 19, [l0, (0, x1), (0, x2)], [], h) := by
  refine g_iload_n (k := 2) (x := x2) (by decide +kernel : decode (m_byt 119) 14 = .ok (.iload_n 2, 1)) rfl ?_
  refine g_iload_n (k := 1) (x := x1) (by decide +kernel : decode (m_byt 119) 15 = .ok (.iload_n 1, 1)) rfl ?_
  exact g_brq (t := 23) (off := 7) (by decide +kernel : decode (m_byt 119) 16 = .ok (.if_icmp .ge 7, 3)) rfl rfl (by decide)
theorem b_119_19 {Z : mZ} {l0 l1 l2 : mV} {h : mH} : m_run Z (119, 19, [l0, l1, l2], [], h) = (m_cl Z 1001 [(0, 1)] h).bind (m_aft (m_run Z) 119 24 [l0, l1, l2] []) := by
  refine g_base (by decide +kernel : decode (m_byt 119) 19 = .ok (.iconst 1, 1)) rfl rfl ?_
  show m_run Z (119, 20, [l0, l1, l2], [(0, 1)], h) = _
  refine g_jmp (t := 24) (by decide +kernel : decode (m_byt 119) 20 = .ok (.goto 4, 3)) (by decide) ?_
  exact g_inv (k := 0) (m' := 1001) (np := 1) (as := [(0, 1)]) (by decide +kernel : decode (m_byt 119) 24 = .ok (.invokestatic 53, 3)) (Or.inr (Or.inr ⟨rfl, rfl, by decide, by decide⟩)) (by decide +kernel) (by decide +kernel) (by decide +kernel) (Nat.le_of_ble_eq_true rfl) rfl (Or.inl rfl)
theorem b_119_23 {Z : mZ} {l0 l1 l2 : mV} {h : mH} : m_run Z (119, 23, [l0, l1, l2], [], h) = m_run Z (119, 24, [l0, l1, l2], [(0, 0)], h) := by
  refine g_base (by decide +kernel : decode (m_byt 119) 23 = .ok (.iconst 0, 1)) rfl rfl ?_
  show m_run Z (119, 24, [l0, l1, l2], [(0, 0)], h) = _
  rfl
theorem b_119_24 {Z : mZ} {l0 l1 l2 : mV} {s0 : Int} {h : mH} : m_run Z (119, 24, [l0, l1, l2], [(0, s0)], h) = (m_cl Z 1001 [(0, s0)] h).bind (m_aft (m_run Z) 119 24 [l0, l1, l2] []) := by
  exact g_inv (k := 0) (m' := 1001) (np := 1) (as := [(0, s0)]) (by decide +kernel : decode (m_byt 119) 24 = .ok (.invokestatic 53, 3)) (Or.inr (Or.inr ⟨rfl, rfl, by decide, by decide⟩)) (by decide +kernel) (by decide +kernel) (by decide +kernel) (Nat.le_of_ble_eq_true rfl) rfl (Or.inl rfl)
theorem b_119_27 {Z : mZ} {l1 l2 : mV} {r0 : Nat} {K : Nat → mK} {σ : Nat → Nat → Int} {n e s : Nat} (h0 : q_ob K n r0 6) (h1 : q_rp K r0 4) (h2 : q_rp K r0 0) (h3 : q_ob K n (q_rf K r0 4) 5) : m_run Z (119, 27, [(2, ((r0 : Nat) : Int)), l1, l2], [], (K, σ, n, e, s)) = (m_cl Z 65 [(2, ((q_rf K r0 4 : Nat) : Int)), (2, ((q_rf K r0 0 : Nat) : Int)), (0, 0)] (K, σ, n, e, s)).bind (m_aft (m_run Z) 119 36 [(2, ((r0 : Nat) : Int)), l1, l2] []) := by
  refine g_aload_n (k := 0) (v := (2, ((r0 : Nat) : Int))) (by decide +kernel : decode (m_byt 119) 27 = .ok (.aload_n 0, 1)) rfl (Or.inl rfl) ?_
  refine g_getr (ci := 6) (f := 4) (by decide +kernel : decode (m_byt 119) 28 = .ok (.getfield 26, 3)) (by decide +kernel) (by decide +kernel) (by decide +kernel) h0 h1 ?_
  refine g_aload_n (k := 0) (v := (2, ((r0 : Nat) : Int))) (by decide +kernel : decode (m_byt 119) 31 = .ok (.aload_n 0, 1)) rfl (Or.inl rfl) ?_
  refine g_getr (ci := 6) (f := 0) (by decide +kernel : decode (m_byt 119) 32 = .ok (.getfield 12, 3)) (by decide +kernel) (by decide +kernel) (by decide +kernel) h0 h2 ?_
  refine g_base (by decide +kernel : decode (m_byt 119) 35 = .ok (.iconst 0, 1)) rfl rfl ?_
  show m_run Z (119, 36, [(2, ((r0 : Nat) : Int)), l1, l2], [(0, 0), (2, ((q_rf K r0 0 : Nat) : Int)), (2, ((q_rf K r0 4 : Nat) : Int))], (K, σ, n, e, s)) = _
  exact g_inv (k := 1) (m' := 65) (np := 2) (as := [(2, ((q_rf K r0 4 : Nat) : Int)), (2, ((q_rf K r0 0 : Nat) : Int)), (0, 0)]) (by decide +kernel : decode (m_byt 119) 36 = .ok (.invokevirtual 124, 3)) (Or.inl ⟨rfl, rfl⟩) (by decide +kernel) (by decide +kernel) (by decide +kernel) (Nat.le_of_ble_eq_true rfl) rfl (Or.inr (g_rcv (by decide +kernel) h3))
theorem b_119_39 {Z : mZ} {l1 l2 : mV} {r0 : Nat} {K : Nat → mK} {σ : Nat → Nat → Int} {n e s : Nat} (h0 : q_ob K n r0 6) (h1 : q_rp K r0 4) (h2 : q_ob K n (q_rf K r0 4) 5) : m_run Z (119, 39, [(2, ((r0 : Nat) : Int)), l1, l2], [], (K, σ, n, e, s)) = (m_cl Z 66 [(2, ((q_rf K r0 4 : Nat) : Int))] (K, σ, n, e, s)).bind (m_aft (m_run Z) 119 43 [(2, ((r0 : Nat) : Int)), l1, l2] []) := by
  refine g_aload_n (k := 0) (v := (2, ((r0 : Nat) : Int))) (by decide +kernel : decode (m_byt 119) 39 = .ok (.aload_n 0, 1)) rfl (Or.inl rfl) ?_
  refine g_getr (ci := 6) (f := 4) (by decide +kernel : decode (m_byt 119) 40 = .ok (.getfield 26, 3)) (by decide +kernel) (by decide +kernel) (by decide +kernel) h0 h1 ?_
  exact g_inv (k := 1) (m' := 66) (np := 0) (as := [(2, ((q_rf K r0 4 : Nat) : Int))]) (by decide +kernel : decode (m_byt 119) 43 = .ok (.invokevirtual 199, 3)) (Or.inl ⟨rfl, rfl⟩) (by decide +kernel) (by decide +kernel) (by decide +kernel) (Nat.le_of_ble_eq_true rfl) rfl (Or.inr (g_rcv (by decide +kernel) h2))
theorem b_119_46 {Z : mZ} {l0 l1 l2 : mV} {s0 : Int} {h : mH} : m_run Z (119, 46, [l0, l1, l2], [(0, s0)], h) = (m_cl Z 1002 [(0, s0)] h).bind (m_aft (m_run Z) 119 46 [l0, l1, l2] []) := by
  exact g_inv (k := 0) (m' := 1002) (np := 1) (as := [(0, s0)]) (by decide +kernel : decode (m_byt 119) 46 = .ok (.invokestatic 168, 3)) (Or.inr (Or.inr ⟨rfl, rfl, by decide, by decide⟩)) (by decide +kernel) (by decide +kernel) (by decide +kernel) (Nat.le_of_ble_eq_true rfl) rfl (Or.inl rfl)
theorem b_119_49 {Z : mZ} {l1 l2 : mV} {r0 : Nat} {K : Nat → mK} {σ : Nat → Nat → Int} {n e s : Nat} (h0 : q_ob K n r0 6) (h1 : q_rp K r0 6) (h2 : q_ob K n (q_rf K r0 6) 0) : m_run Z (119, 49, [(2, ((r0 : Nat) : Int)), l1, l2], [], (K, σ, n, e, s)) = (m_cl Z 2 [(2, ((q_rf K r0 6 : Nat) : Int))] (K, σ, n, e, s)).bind (m_aft (m_run Z) 119 53 [(2, ((r0 : Nat) : Int)), l1, l2] []) := by
  refine g_aload_n (k := 0) (v := (2, ((r0 : Nat) : Int))) (by decide +kernel : decode (m_byt 119) 49 = .ok (.aload_n 0, 1)) rfl (Or.inl rfl) ?_
  refine g_getr (ci := 6) (f := 6) (by decide +kernel : decode (m_byt 119) 50 = .ok (.getfield 42, 3)) (by decide +kernel) (by decide +kernel) (by decide +kernel) h0 h1 ?_
  exact g_inv (k := 1) (m' := 2) (np := 0) (as := [(2, ((q_rf K r0 6 : Nat) : Int))]) (by decide +kernel : decode (m_byt 119) 53 = .ok (.invokevirtual 221, 3)) (Or.inl ⟨rfl, rfl⟩) (by decide +kernel) (by decide +kernel) (by decide +kernel) (Nat.le_of_ble_eq_true rfl) rfl (Or.inr (g_rcv (by decide +kernel) h2))
theorem b_119_56 {Z : mZ} {x1 x2 : Int} {r0 : Nat} {K : Nat → mK} {σ : Nat → Nat → Int} {n e s : Nat} (h0 : q_ob K n r0 6) (h1 : q_rp K r0 6) (h2 : q_ob K n (q_rf K r0 6) 0) : m_run Z (119, 56, [(2, ((r0 : Nat) : Int)), (0, x1), (0, x2)], [], (K, σ, n, e, s)) = (m_cl Z 7 [(2, ((q_rf K r0 6 : Nat) : Int)), (0, x1), (0, x2)] (K, σ, n, e, s)).bind (m_aft (m_run Z) 119 62 [(2, ((r0 : Nat) : Int)), (0, x1), (0, x2)] []) := by
  refine g_aload_n (k := 0) (v := (2, ((r0 : Nat) : Int))) (by decide +kernel : decode (m_byt 119) 56 = .ok (.aload_n 0, 1)) rfl (Or.inl rfl) ?_
  refine g_getr (ci := 6) (f := 6) (by decide +kernel : decode (m_byt 119) 57 = .ok (.getfield 42, 3)) (by decide +kernel) (by decide +kernel) (by decide +kernel) h0 h1 ?_
  refine g_iload_n (k := 1) (x := x1) (by decide +kernel : decode (m_byt 119) 60 = .ok (.iload_n 1, 1)) rfl ?_
  refine g_iload_n (k := 2) (x := x2) (by decide +kernel : decode (m_byt 119) 61 = .ok (.iload_n 2, 1)) rfl ?_
  exact g_inv (k := 1) (m' := 7) (np := 2) (as := [(2, ((q_rf K r0 6 : Nat) : Int)), (0, x1), (0, x2)]) (by decide +kernel : decode (m_byt 119) 62 = .ok (.invokevirtual 227, 3)) (Or.inl ⟨rfl, rfl⟩) (by decide +kernel) (by decide +kernel) (by decide +kernel) (Nat.le_of_ble_eq_true rfl) rfl (Or.inr (g_rcv (by decide +kernel) h2))
theorem b_119_65 {Z : mZ} {l0 l1 l2 : mV} {s0 : Int} {h : mH} : m_run Z (119, 65, [l0, l1, l2], [(0, s0)], h) = some (.inl (0, s0), h) := by
  exact g_iret (by decide +kernel : decode (m_byt 119) 65 = .ok (.ireturn, 1)) (by decide +kernel)
theorem e_120 {Z : mZ} {r0 : Nat} {x1 : Int} {x2 : Int} {h : mH} : m_cl Z 120 [(2, ((r0 : Nat) : Int)), (0, x1), (0, x2)] h = m_run Z (120, 0, [(2, ((r0 : Nat) : Int)), (0, x1), (0, x2)], [], h) := g_ent (k := 3) (by decide) (by decide +kernel) (Nat.le_of_ble_eq_true rfl) (by decide +kernel) rfl
theorem b_120_0 {Z : mZ} {l0 l2 : mV} {x1 : Int} {h : mH} : m_run Z (120, 0, [l0, (0, x1), l2], [], h) = if w32 x1 < 0 then m_run Z (120, 20, [l0, (0, x1), l2], [], h) else m_run Z (120, 4, [l0, (0, x1), l2], [], h) := by
  refine g_iload_n (k := 1) (x := x1) (by decide +kernel : decode (m_byt 120) 0 = .ok (.iload_n 1, 1)) rfl ?_
  exact g_brq (t := 20) (off := 19) (by decide +kernel : decode (m_byt 120) 1 = .ok (.ifCond .lt 19, 3)) rfl rfl (by decide)
theorem b_120_4 {Z : mZ} {l0 l1 : mV} {x2 : Int} {h : mH} : m_run Z (120, 4, [l0, l1, (0, x2)], [], h) = if w32 x2 < w32 1 then m_run Z (120, 20, [l0, l1, (0, x2)], [], h) else m_run Z (120, 9, [l0, l1, (0, x2)], [], h) := by
  refine g_iload_n (k := 2) (x := x2) (by decide +kernel : decode (m_byt 120) 4 = .ok (.iload_n 2, 1)) rfl ?_
  refine g_base (by decide +kernel : decode (m_byt 120) 5 = .ok (.iconst 1, 1)) rfl rfl ?_
  show m_run Z (120, 6, [l0, l1, (0, x2)], [(0, 1), (0, x2)], h) = _
  exact g_brq (t := 20) (off := 14) (by decide +kernel : decode (m_byt 120) 6 = .ok (.if_icmp .lt 14, 3)) rfl rfl (by decide)
theorem b_120_9 {Z : mZ} {l0 l1 : mV} {x2 : Int} {h : mH} : m_run Z (120, 9, [l0, l1, (0, x2)], [], h) = if w32 1000 < w32 x2 then m_run Z (120, 20, [l0, l1, (0, x2)], [], h) else m_run Z (120, 16, [l0, l1, (0, x2)], [], h) := by
  refine g_iload_n (k := 2) (x := x2) (by decide +kernel : decode (m_byt 120) 9 = .ok (.iload_n 2, 1)) rfl ?_
  refine g_base (by decide +kernel : decode (m_byt 120) 10 = .ok (.sipush 1000, 3)) rfl rfl ?_
  show m_run Z (120, 13, [l0, l1, (0, x2)], [(0, 1000), (0, x2)], h) = _
  exact g_brq (t := 20) (off := 7) (by decide +kernel : decode (m_byt 120) 13 = .ok (.if_icmp .gt 7, 3)) rfl rfl (by decide)
theorem b_120_16 {Z : mZ} {l0 l1 l2 : mV} {h : mH} : m_run Z (120, 16, [l0, l1, l2], [], h) = (m_cl Z 1001 [(0, 1)] h).bind (m_aft (m_run Z) 120 21 [l0, l1, l2] []) := by
  refine g_base (by decide +kernel : decode (m_byt 120) 16 = .ok (.iconst 1, 1)) rfl rfl ?_
  show m_run Z (120, 17, [l0, l1, l2], [(0, 1)], h) = _
  refine g_jmp (t := 21) (by decide +kernel : decode (m_byt 120) 17 = .ok (.goto 4, 3)) (by decide) ?_
  exact g_inv (k := 0) (m' := 1001) (np := 1) (as := [(0, 1)]) (by decide +kernel : decode (m_byt 120) 21 = .ok (.invokestatic 53, 3)) (Or.inr (Or.inr ⟨rfl, rfl, by decide, by decide⟩)) (by decide +kernel) (by decide +kernel) (by decide +kernel) (Nat.le_of_ble_eq_true rfl) rfl (Or.inl rfl)
theorem b_120_20 {Z : mZ} {l0 l1 l2 : mV} {h : mH} : m_run Z (120, 20, [l0, l1, l2], [], h) = m_run Z (120, 21, [l0, l1, l2], [(0, 0)], h) := by
  refine g_base (by decide +kernel : decode (m_byt 120) 20 = .ok (.iconst 0, 1)) rfl rfl ?_
  show m_run Z (120, 21, [l0, l1, l2], [(0, 0)], h) = _
  rfl
theorem b_120_21 {Z : mZ} {l0 l1 l2 : mV} {s0 : Int} {h : mH} : m_run Z (120, 21, [l0, l1, l2], [(0, s0)], h) = (m_cl Z 1001 [(0, s0)] h).bind (m_aft (m_run Z) 120 21 [l0, l1, l2] []) := by
  exact g_inv (k := 0) (m' := 1001) (np := 1) (as := [(0, s0)]) (by decide +kernel : decode (m_byt 120) 21 = .ok (.invokestatic 53, 3)) (Or.inr (Or.inr ⟨rfl, rfl, by decide, by decide⟩)) (by decide +kernel) (by decide +kernel) (by decide +kernel) (Nat.le_of_ble_eq_true rfl) rfl (Or.inl rfl)
theorem b_120_24 {Z : mZ} {l1 l2 : mV} {r0 : Nat} {K : Nat → mK} {σ : Nat → Nat → Int} {n e s : Nat} (h0 : q_ob K n r0 6) (h1 : q_rp K r0 4) (h2 : q_rp K r0 0) (h3 : q_ob K n (q_rf K r0 4) 5) : m_run Z (120, 24, [(2, ((r0 : Nat) : Int)), l1, l2], [], (K, σ, n, e, s)) = (m_cl Z 65 [(2, ((q_rf K r0 4 : Nat) : Int)), (2, ((q_rf K r0 0 : Nat) : Int)), (0, 0)] (K, σ, n, e, s)).bind (m_aft (m_run Z) 120 33 [(2, ((r0 : Nat) : Int)), l1, l2] []) := by
  refine g_aload_n (k := 0) (v := (2, ((r0 : Nat) : Int))) (by decide +kernel : decode (m_byt 120) 24 = .ok (.aload_n 0, 1)) rfl (Or.inl rfl) ?_
  refine g_getr (ci := 6) (f := 4) (by decide +kernel : decode (m_byt 120) 25 = .ok (.getfield 26, 3)) (by decide +kernel) (by decide +kernel) (by decide +kernel) h0 h1 ?_
  refine g_aload_n (k := 0) (v := (2, ((r0 : Nat) : Int))) (by decide +kernel : decode (m_byt 120) 28 = .ok (.aload_n 0, 1)) rfl (Or.inl rfl) ?_
  refine g_getr (ci := 6) (f := 0) (by decide +kernel : decode (m_byt 120) 29 = .ok (.getfield 12, 3)) (by decide +kernel) (by decide +kernel) (by decide +kernel) h0 h2 ?_
  refine g_base (by decide +kernel : decode (m_byt 120) 32 = .ok (.iconst 0, 1)) rfl rfl ?_
  show m_run Z (120, 33, [(2, ((r0 : Nat) : Int)), l1, l2], [(0, 0), (2, ((q_rf K r0 0 : Nat) : Int)), (2, ((q_rf K r0 4 : Nat) : Int))], (K, σ, n, e, s)) = _
  exact g_inv (k := 1) (m' := 65) (np := 2) (as := [(2, ((q_rf K r0 4 : Nat) : Int)), (2, ((q_rf K r0 0 : Nat) : Int)), (0, 0)]) (by decide +kernel : decode (m_byt 120) 33 = .ok (.invokevirtual 124, 3)) (Or.inl ⟨rfl, rfl⟩) (by decide +kernel) (by decide +kernel) (by decide +kernel) (Nat.le_of_ble_eq_true rfl) rfl (Or.inr (g_rcv (by decide +kernel) h3))
theorem b_120_36 {Z : mZ} {l1 l2 : mV} {r0 : Nat} {K : Nat → mK} {σ : Nat → Nat → Int} {n e s : Nat} (h0 : q_ob K n r0 6) (h1 : q_rp K r0 4) (h2 : q_ob K n (q_rf K r0 4) 5) : m_run Z (120, 36, [(2, ((r0 : Nat) : Int)), l1, l2], [], (K, σ, n, e, s)) = (m_cl Z 66 [(2, ((q_rf K r0 4 : Nat) : Int))] (K, σ, n, e, s)).bind (m_aft (m_run Z) 120 40 [(2, ((r0 : Nat) : Int)), l1, l2] []) := by
  refine g_aload_n (k := 0) (v := (2, ((r0 : Nat) : Int))) (by decide +kernel : decode (m_byt 120) 36 = .ok (.aload_n 0, 1)) rfl (Or.inl rfl) ?_
  refine g_getr (ci := 6) (f := 4) (by decide +kernel : decode (m_byt 120) 37 = .ok (.getfield 26, 3)) (by decide +kernel) (by decide +kernel) (by decide +kernel) h0 h1 ?_
  exact g_inv (k := 1) (m' := 66) (np := 0) (as := [(2, ((q_rf K r0 4 : Nat) : Int))]) (by decide +kernel : decode (m_byt 120) 40 = .ok (.invokevirtual 199, 3)) (Or.inl ⟨rfl, rfl⟩) (by decide +kernel) (by decide +kernel) (by decide +kernel) (Nat.le_of_ble_eq_true rfl) rfl (Or.inr (g_rcv (by decide +kernel) h2))
theorem b_120_43 {Z : mZ} {l0 l1 l2 : mV} {s0 : Int} {h : mH} : m_run Z (120, 43, [l0, l1, l2], [(0, s0)], h) = (m_cl Z 1002 [(0, s0)] h).bind (m_aft (m_run Z) 120 43 [l0, l1, l2] []) := by
  exact g_inv (k := 0) (m' := 1002) (np := 1) (as := [(0, s0)]) (by decide +kernel : decode (m_byt 120) 43 = .ok (.invokestatic 168, 3)) (Or.inr (Or.inr ⟨rfl, rfl, by decide, by decide⟩)) (by decide +kernel) (by decide +kernel) (by decide +kernel) (Nat.le_of_ble_eq_true rfl) rfl (Or.inl rfl)
theorem b_120_46 {Z : mZ} {l1 l2 : mV} {r0 : Nat} {K : Nat → mK} {σ : Nat → Nat → Int} {n e s : Nat} (h0 : q_ob K n r0 6) (h1 : q_rp K r0 6) (h2 : q_ob K n (q_rf K r0 6) 0) : m_run Z (120, 46, [(2, ((r0 : Nat) : Int)), l1, l2], [], (K, σ, n, e, s)) = (m_cl Z 2 [(2, ((q_rf K r0 6 : Nat) : Int))] (K, σ, n, e, s)).bind (m_aft (m_run Z) 120 50 [(2, ((r0 : Nat) : Int)), l1, l2] []) := by
  refine g_aload_n (k := 0) (v := (2, ((r0 : Nat) : Int))) (by decide +kernel : decode (m_byt 120) 46 = .ok (.aload_n 0, 1)) rfl (Or.inl rfl) ?_
  refine g_getr (ci := 6) (f := 6) (by decide +kernel : decode (m_byt 120) 47 = .ok (.getfield 42, 3)) (by decide +kernel) (by decide +kernel) (by decide +kernel) h0 h1 ?_
  exact g_inv (k := 1) (m' := 2) (np := 0) (as := [(2, ((q_rf K r0 6 : Nat) : Int))]) (by decide +kernel : decode (m_byt 120) 50 = .ok (.invokevirtual 221, 3)) (Or.inl ⟨rfl, rfl⟩) (by decide +kernel) (by decide +kernel) (by decide +kernel) (Nat.le_of_ble_eq_true rfl) rfl (Or.inr (g_rcv (by decide +kernel) h2))
theorem b_120_53 {Z : mZ} {x1 x2 : Int} {r0 : Nat} {K : Nat → mK} {σ : Nat → Nat → Int} {n e s : Nat} (h0 : q_ob K n r0 6) (h1 : q_rp K r0 6) (h2 : q_ob K n (q_rf K r0 6) 0) : m_run Z (120, 53, [(2, ((r0 : Nat) : Int)), (0, x1), (0, x2)], [], (K, σ, n, e, s)) = (m_cl Z 9 [(2, ((q_rf K r0 6 : Nat) : Int)), (0, x1), (0, x2)] (K, σ, n, e, s)).bind (m_aft (m_run Z) 120 59 [(2, ((r0 : Nat) : Int)), (0, x1), (0, x2)] []) := by
  refine g_aload_n (k := 0) (v := (2, ((r0 : Nat) : Int))) (by decide +kernel : decode (m_byt 120) 53 = .ok (.aload_n 0, 1)) rfl (Or.inl rfl) ?_
  refine g_getr (ci := 6) (f := 6) (by decide +kernel : decode (m_byt 120) 54 = .ok (.getfield 42, 3)) (by decide +kernel) (by decide +kernel) (by decide +kernel) h0 h1 ?_
  refine g_iload_n (k := 1) (x := x1) (by decide +kernel : decode (m_byt 120) 57 = .ok (.iload_n 1, 1)) rfl ?_
  refine g_iload_n (k := 2) (x := x2) (by decide +kernel : decode (m_byt 120) 58 = .ok (.iload_n 2, 1)) rfl ?_
  exact g_inv (k := 1) (m' := 9) (np := 2) (as := [(2, ((q_rf K r0 6 : Nat) : Int)), (0, x1), (0, x2)]) (by decide +kernel : decode (m_byt 120) 59 = .ok (.invokevirtual 230, 3)) (Or.inl ⟨rfl, rfl⟩) (by decide +kernel) (by decide +kernel) (by decide +kernel) (Nat.le_of_ble_eq_true rfl) rfl (Or.inr (g_rcv (by decide +kernel) h2))
theorem b_120_62 {Z : mZ} {l0 l1 l2 : mV} {s0 : Int} {h : mH} : m_run Z (120, 62, [l0, l1, l2], [(0, s0)], h) = some (.inl (0, s0), h) := by
  exact g_iret (by decide +kernel : decode (m_byt 120) 62 = .ok (.ireturn, 1)) (by decide +kernel)
theorem e_121 {Z : mZ} {r0 : Nat} {x1 : Int} {x2 : Int} {x3 : Int} {h : mH} : m_cl Z 121 [(2, ((r0 : Nat) : Int)), (0, x1), (0, x2), (0, x3)] h = m_run Z (121, 0, [(2, ((r0 : Nat) : Int)), (0, x1), (0, x2), (0, x3)], [], h) := g_ent (k := 4) (by decide) (by decide +kernel) (Nat.le_of_ble_eq_true rfl) (by decide +kernel) rfl
theorem b_121_0 {Z : mZ} {l2 l3 : mV} {x1 : Int} {r0 : Nat} {K : Nat → mK} {σ : Nat → Nat → Int} {n e s : Nat} (h0 : q_ob K n r0 6) (h1 : q_rp K r0 0) (h2 : q_ob K n (q_rf K r0 0) 1) : m_run Z (121, 0, [(2, ((r0 : Nat) : Int)), (0, x1), l2, l3], [], (K, σ, n, e, s)) = (m_cl Z 16 [(2, ((q_rf K r0 0 : Nat) : Int)), (0, x1)] (K, σ, n, e, s)).bind (m_aft (m_run Z) 121 5 [(2, ((r0 : Nat) : Int)), (0, x1), l2, l3] []) := by
  refine g_aload_n (k := 0) (v := (2, ((r0 : Nat) : Int))) (by decide +kernel : decode (m_byt 121) 0 = .ok (.aload_n 0, 1)) rfl (Or.inl rfl) ?_
  refine g_getr (ci := 6) (f := 0) (by decide +kernel : decode (m_byt 121) 1 = .ok (.getfield 12, 3)) (by decide +kernel) (by decide +kernel) (by decide +kernel) h0 h1 ?_
  refine g_iload_n (k := 1) (x := x1) (by decide +kernel : decode (m_byt 121) 4 = .ok (.iload_n 1, 1)) rfl ?_
  exact g_inv (k := 1) (m' := 16) (np := 1) (as := [(2, ((q_rf K r0 0 : Nat) : Int)), (0, x1)]) (by decide +kernel : decode (m_byt 121) 5 = .ok (.invokevirtual 78, 3)) (Or.inl ⟨rfl, rfl⟩) (by decide +kernel) (by decide +kernel) (by decide +kernel) (Nat.le_of_ble_eq_true rfl) rfl (Or.inr (g_rcv (by decide +kernel) h2))
theorem b_121_8 {Z : mZ} {l0 l1 l2 l3 : mV} {s0 : Int} {h : mH} : m_run Z (121, 8, [l0, l1, l2, l3], [(0, s0)], h) = (m_cl Z 1000 [(0, s0)] h).bind (m_aft (m_run Z) 121 8 [l0, l1, l2, l3] []) := by
  exact g_inv (k := 0) (m' := 1000) (np := 1) (as := [(0, s0)]) (by decide +kernel : decode (m_byt 121) 8 = .ok (.invokestatic 82, 3)) (Or.inr (Or.inr ⟨rfl, rfl, by decide, by decide⟩)) (by decide +kernel) (by decide +kernel) (by decide +kernel) (Nat.le_of_ble_eq_true rfl) rfl (Or.inl rfl)
theorem b_121_11 {Z : mZ} {l0 l1 l3 : mV} {x2 : Int} {h : mH} : m_run Z (121, 11, [l0, l1, (0, x2), l3], [], h) = if w32 x2 < 0 then m_run Z (121, 38, [l0, l1, (0, x2), l3], [], h) else m_run Z (121, 15, [l0, l1, (0, x2), l3], [], h) := by
  refine g_iload_n (k := 2) (x := x2) (by decide +kernel : decode (m_byt 121) 11 = .ok (.iload_n 2, 1)) rfl ?_
  exact g_brq (t := 38) (off := 26) (by decide +kernel : decode (m_byt 121) 12 = .ok (.ifCond .lt 26, 3)) rfl rfl (by decide)
theorem b_121_15 {Z : mZ} {l3 : mV} {x2 x1 : Int} {r0 : Nat} {K : Nat → mK} {σ : Nat → Nat → Int} {n e s : Nat} (h0 : q_ob K n r0 6) (h1 : q_rp K r0 0) (h2 : q_ob K n (q_rf K r0 0) 1) (h3 : q_rp K (q_rf K r0 0) 7) (h4 : q_ob K n (q_rf K ((q_rf K r0 0)) 7) 3) : m_run Z (121, 15, [(2, ((r0 : Nat) : Int)), (0, x1), (0, x2), l3], [], (K, σ, n, e, s)) = (m_cl Z 44 [(2, ((q_rf K ((q_rf K r0 0)) 7 : Nat) : Int)), (0, x1)] (K, σ, n, e, s)).bind (m_aft (m_run Z) 121 24 [(2, ((r0 : Nat) : Int)), (0, x1), (0, x2), l3] [(0, x2)]) := by
  refine g_iload_n (k := 2) (x := x2) (by decide +kernel : decode (m_byt 121) 15 = .ok (.iload_n 2, 1)) rfl ?_
  refine g_aload_n (k := 0) (v := (2, ((r0 : Nat) : Int))) (by decide +kernel : decode (m_byt 121) 16 = .ok (.aload_n 0, 1)) rfl (Or.inl rfl) ?_
  refine g_getr (ci := 6) (f := 0) (by decide +kernel : decode (m_byt 121) 17 = .ok (.getfield 12, 3)) (by decide +kernel) (by decide +kernel) (by decide +kernel) h0 h1 ?_
  refine g_getr (ci := 1) (f := 7) (by decide +kernel : decode (m_byt 121) 20 = .ok (.getfield 233, 3)) (by decide +kernel) (by decide +kernel) (by decide +kernel) h2 h3 ?_
  refine g_iload_n (k := 1) (x := x1) (by decide +kernel : decode (m_byt 121) 23 = .ok (.iload_n 1, 1)) rfl ?_
  exact g_inv (k := 1) (m' := 44) (np := 1) (as := [(2, ((q_rf K ((q_rf K r0 0)) 7 : Nat) : Int)), (0, x1)]) (by decide +kernel : decode (m_byt 121) 24 = .ok (.invokevirtual 97, 3)) (Or.inl ⟨rfl, rfl⟩) (by decide +kernel) (by decide +kernel) (by decide +kernel) (Nat.le_of_ble_eq_true rfl) rfl (Or.inr (g_rcv (by decide +kernel) h4))
theorem b_121_27 {Z : mZ} {l0 l1 l2 l3 : mV} {s0 s1 : Int} {h : mH} : m_run Z (121, 27, [l0, l1, l2, l3], [(0, s0), (0, s1)], h) = if w32 s0 < w32 s1 then m_run Z (121, 38, [l0, l1, l2, l3], [], h) else m_run Z (121, 30, [l0, l1, l2, l3], [], h) := by
  exact g_brq (t := 38) (off := 11) (by decide +kernel : decode (m_byt 121) 27 = .ok (.if_icmp .gt 11, 3)) rfl rfl (by decide)
theorem b_121_30 {Z : mZ} {l0 l1 l2 : mV} {x3 : Int} {h : mH} : m_run Z (121, 30, [l0, l1, l2, (0, x3)], [], h) = if w32 x3 < 0 then m_run Z (121, 38, [l0, l1, l2, (0, x3)], [], h) else m_run Z (121, 34, [l0, l1, l2, (0, x3)], [], h) := by
  refine g_iload_n (k := 3) (x := x3) (by decide +kernel : decode (m_byt 121) 30 = .ok (.iload_n 3, 1)) rfl ?_
  exact g_brq (t := 38) (off := 7) (by decide +kernel : decode (m_byt 121) 31 = .ok (.ifCond .lt 7, 3)) rfl rfl (by decide)
theorem b_121_34 {Z : mZ} {l0 l1 l2 l3 : mV} {h : mH} : m_run Z (121, 34, [l0, l1, l2, l3], [], h) = (m_cl Z 1001 [(0, 1)] h).bind (m_aft (m_run Z) 121 39 [l0, l1, l2, l3] []) := by
  refine g_base (by decide +kernel : decode (m_byt 121) 34 = .ok (.iconst 1, 1)) rfl rfl ?_
  show m_run Z (121, 35, [l0, l1, l2, l3], [(0, 1)], h) = _
  refine g_jmp (t := 39) (by decide +kernel : decode (m_byt 121) 35 = .ok (.goto 4, 3)) (by decide) ?_
  exact g_inv (k := 0) (m' := 1001) (np := 1) (as := [(0, 1)]) (by decide +kernel : decode (m_byt 121) 39 = .ok (.invokestatic 53, 3)) (Or.inr (Or.inr ⟨rfl, rfl, by decide, by decide⟩)) (by decide +kernel) (by decide +kernel) (by decide +kernel) (Nat.le_of_ble_eq_true rfl) rfl (Or.inl rfl)
theorem b_121_38 {Z : mZ} {l0 l1 l2 l3 : mV} {h : mH} : m_run Z (121, 38, [l0, l1, l2, l3], [], h) = m_run Z (121, 39, [l0, l1, l2, l3], [(0, 0)], h) := by
  refine g_base (by decide +kernel : decode (m_byt 121) 38 = .ok (.iconst 0, 1)) rfl rfl ?_
  show m_run Z (121, 39, [l0, l1, l2, l3], [(0, 0)], h) = _
  rfl
theorem b_121_39 {Z : mZ} {l0 l1 l2 l3 : mV} {s0 : Int} {h : mH} : m_run Z (121, 39, [l0, l1, l2, l3], [(0, s0)], h) = (m_cl Z 1001 [(0, s0)] h).bind (m_aft (m_run Z) 121 39 [l0, l1, l2, l3] []) := by
  exact g_inv (k := 0) (m' := 1001) (np := 1) (as := [(0, s0)]) (by decide +kernel : decode (m_byt 121) 39 = .ok (.invokestatic 53, 3)) (Or.inr (Or.inr ⟨rfl, rfl, by decide, by decide⟩)) (by decide +kernel) (by decide +kernel) (by decide +kernel) (Nat.le_of_ble_eq_true rfl) rfl (Or.inl rfl)
theorem b_121_42 {Z : mZ} {l1 l2 l3 : mV} {r0 : Nat} {K : Nat → mK} {σ : Nat → Nat → Int} {n e s : Nat} (h0 : q_ob K n r0 6) (h1 : q_rp K r0 4) (h2 : q_rp K r0 0) (h3 : q_ob K n (q_rf K r0 4) 5) : m_run Z (121, 42, [(2, ((r0 : Nat) : Int)), l1, l2, l3], [], (K, σ, n, e, s)) = (m_cl Z 65 [(2, ((q_rf K r0 4 : Nat) : Int)), (2, ((q_rf K r0 0 : Nat) : Int)), (0, 0)] (K, σ, n, e, s)).bind (m_aft (m_run Z) 121 51 [(2, ((r0 : Nat) : Int)), l1, l2, l3] []) := by
  refine g_aload_n (k := 0) (v := (2, ((r0 : Nat) : Int))) (by decide +kernel : decode (m_byt 121) 42 = .ok (.aload_n 0, 1)) rfl (Or.inl rfl) ?_
  refine g_getr (ci := 6) (f := 4) (by decide +kernel : decode (m_byt 121) 43 = .ok (.getfield 26, 3)) (by decide +kernel) (by decide +kernel) (by decide +kernel) h0 h1 ?_
  refine g_aload_n (k := 0) (v := (2, ((r0 : Nat) : Int))) (by decide +kernel : decode (m_byt 121) 46 = .ok (.aload_n 0, 1)) rfl (Or.inl rfl) ?_
  refine g_getr (ci := 6) (f := 0) (by decide +kernel : decode (m_byt 121) 47 = .ok (.getfield 12, 3)) (by decide +kernel) (by decide +kernel) (by decide +kernel) h0 h2 ?_
  refine g_base (by decide +kernel : decode (m_byt 121) 50 = .ok (.iconst 0, 1)) rfl rfl ?_
  show m_run Z (121, 51, [(2, ((r0 : Nat) : Int)), l1, l2, l3], [(0, 0), (2, ((q_rf K r0 0 : Nat) : Int)), (2, ((q_rf K r0 4 : Nat) : Int))], (K, σ, n, e, s)) = _
  exact g_inv (k := 1) (m' := 65) (np := 2) (as := [(2, ((q_rf K r0 4 : Nat) : Int)), (2, ((q_rf K r0 0 : Nat) : Int)), (0, 0)]) (by decide +kernel : decode (m_byt 121) 51 = .ok (.invokevirtual 124, 3)) (Or.inl ⟨rfl, rfl⟩) (by decide +kernel) (by decide +kernel) (by decide +kernel) (Nat.le_of_ble_eq_true rfl) rfl (Or.inr (g_rcv (by decide +kernel) h3))
theorem b_121_54 {Z : mZ} {l1 l2 l3 : mV} {r0 : Nat} {K : Nat → mK} {σ : Nat → Nat → Int} {n e s : Nat} (h0 : q_ob K n r0 6) (h1 : q_rp K r0 4) (h2 : q_ob K n (q_rf K r0 4) 5) : m_run Z (121, 54, [(2, ((r0 : Nat) : Int)), l1, l2, l3], [], (K, σ, n, e, s)) = (m_cl Z 1002 [(0, (σ ((q_rf K r0 4)) 3))] (K, σ, n, e, s)).bind (m_aft (m_run Z) 121 61 [(2, ((r0 : Nat) : Int)), l1, l2, l3] []) := by
  refine g_aload_n (k := 0) (v := (2, ((r0 : Nat) : Int))) (by decide +kernel : decode (m_byt 121) 54 = .ok (.aload_n 0, 1)) rfl (Or.inl rfl) ?_
  refine g_getr (ci := 6) (f := 4) (by decide +kernel : decode (m_byt 121) 55 = .ok (.getfield 26, 3)) (by decide +kernel) (by decide +kernel) (by decide +kernel) h0 h1 ?_
  refine g_getf (ci := 5) (f := 3) (by decide +kernel : decode (m_byt 121) 58 = .ok (.getfield 150, 3)) (by decide +kernel) (by decide +kernel) (by decide +kernel) h2 ?_
  exact g_inv (k := 0) (m' := 1002) (np := 1) (as := [(0, (σ ((q_rf K r0 4)) 3))]) (by decide +kernel : decode (m_byt 121) 61 = .ok (.invokestatic 168, 3)) (Or.inr (Or.inr ⟨rfl, rfl, by decide, by decide⟩)) (by decide +kernel) (by decide +kernel) (by decide +kernel) (Nat.le_of_ble_eq_true rfl) rfl (Or.inl rfl)
theorem b_121_64 {Z : mZ} {x1 x2 x3 : Int} {r0 : Nat} {K : Nat → mK} {σ : Nat → Nat → Int} {n e s : Nat} (h0 : q_ob K n r0 6) (h1 : q_rp K r0 4) (h2 : q_ob K n (q_rf K r0 4) 5) : m_run Z (121, 64, [(2, ((r0 : Nat) : Int)), (0, x1), (0, x2), (0, x3)], [], (K, σ, n, e, s)) = (m_cl Z 83 [(2, ((q_rf K r0 4 : Nat) : Int)), (0, x1), (0, x2), (0, x3)] (K, σ, n, e, s)).bind (m_aft (m_run Z) 121 71 [(2, ((r0 : Nat) : Int)), (0, x1), (0, x2), (0, x3)] []) := by
  refine g_aload_n (k := 0) (v := (2, ((r0 : Nat) : Int))) (by decide +kernel : decode (m_byt 121) 64 = .ok (.aload_n 0, 1)) rfl (Or.inl rfl) ?_
  refine g_getr (ci := 6) (f := 4) (by decide +kernel : decode (m_byt 121) 65 = .ok (.getfield 26, 3)) (by decide +kernel) (by decide +kernel) (by decide +kernel) h0 h1 ?_
  refine g_iload_n (k := 1) (x := x1) (by decide +kernel : decode (m_byt 121) 68 = .ok (.iload_n 1, 1)) rfl ?_
  refine g_iload_n (k := 2) (x := x2) (by decide +kernel : decode (m_byt 121) 69 = .ok (.iload_n 2, 1)) rfl ?_
  refine g_iload_n (k := 3) (x := x3) (by decide +kernel : decode (m_byt 121) 70 = .ok (.iload_n 3, 1)) rfl ?_
  exact g_inv (k := 1) (m' := 83) (np := 3) (as := [(2, ((q_rf K r0 4 : Nat) : Int)), (0, x1), (0, x2), (0, x3)]) (by decide +kernel : decode (m_byt 121) 71 = .ok (.invokevirtual 236, 3)) (Or.inl ⟨rfl, rfl⟩) (by decide +kernel) (by decide +kernel) (by decide +kernel) (Nat.le_of_ble_eq_true rfl) rfl (Or.inr (g_rcv (by decide +kernel) h2))
theorem b_121_74 {Z : mZ} {l0 l1 l2 l3 : mV} {s0 : Int} {h : mH} : m_run Z (121, 74, [l0, l1, l2, l3], [(0, s0)], h) = some (.inl (0, s0), h) := by
  exact g_iret (by decide +kernel : decode (m_byt 121) 74 = .ok (.ireturn, 1)) (by decide +kernel)
theorem e_122 {Z : mZ} {r0 : Nat} {x1 : Int} {x2 : Int} {h : mH} : m_cl Z 122 [(2, ((r0 : Nat) : Int)), (0, x1), (0, x2)] h = m_run Z (122, 0, [(2, ((r0 : Nat) : Int)), (0, x1), (0, x2)], [], h) := g_ent (k := 3) (by decide) (by decide +kernel) (Nat.le_of_ble_eq_true rfl) (by decide +kernel) rfl
theorem b_122_0 {Z : mZ} {l0 l2 : mV} {x1 : Int} {h : mH} : m_run Z (122, 0, [l0, (0, x1), l2], [], h) = if w32 x1 < 0 then m_run Z (122, 21, [l0, (0, x1), l2], [], h) else m_run Z (122, 4, [l0, (0, x1), l2], [], h) := by
  refine g_iload_n (k := 1) (x := x1) (by decide +kernel : decode (m_byt 122) 0 = .ok (.iload_n 1, 1)) rfl ?_
  exact g_brq (t := 21) (off := 20) (by decide +kernel : decode (m_byt 122) 1 = .ok (.ifCond .lt 20, 3)) rfl rfl (by decide)
theorem b_122_4 {Z : mZ} {l0 l2 : mV} {x1 : Int} {h : mH} : m_run Z (122, 4, [l0, (0, x1), l2], [], h) = if w32 10 < w32 x1 then m_run Z (122, 21, [l0, (0, x1), l2], [], h) else m_run Z (122, 10, [l0, (0, x1), l2], [], h) := by
  refine g_iload_n (k := 1) (x := x1) (by decide +kernel : decode (m_byt 122) 4 = .ok (.iload_n 1, 1)) rfl ?_
  refine g_base (by decide +kernel : decode (m_byt 122) 5 = .ok (.bipush 10, 2)) rfl rfl ?_
  show m_run Z (122, 7, [l0, (0, x1), l2], [(0, 10), (0, x1)], h) = _
  exact g_brq (t := 21) (off := 14) (by decide +kernel : decode (m_byt 122) 7 = .ok (.if_icmp .gt 14, 3)) rfl rfl (by decide)
theorem b_122_10 {Z : mZ} {l0 l1 : mV} {x2 : Int} {h : mH} : m_run Z (122, 10, [l0, l1, (0, x2)], [], h) = (m_cl Z 134 [(0, x2)] h).bind (m_aft (m_run Z) 122 11 [l0, l1, (0, x2)] []) := by
  refine g_iload_n (k := 2) (x := x2) (by decide +kernel : decode (m_byt 122) 10 = .ok (.iload_n 2, 1)) rfl ?_
  exact g_inv (k := 0) (m' := 134) (np := 1) (as := [(0, x2)]) (by decide +kernel : decode (m_byt 122) 11 = .ok (.invokestatic 162, 3)) (Or.inr (Or.inr ⟨rfl, rfl, by decide, by decide⟩)) (by decide +kernel) (by decide +kernel) (by decide +kernel) (Nat.le_of_ble_eq_true rfl) rfl (Or.inl rfl)
theorem b_122_14 {Z : mZ} {l0 l1 l2 : mV} {s0 : Int} {h : mH} : m_run Z (122, 14, [l0, l1, l2], [(0, s0)], h) = if w32 s0 = 0 then m_run Z (122, 21, [l0, l1, l2], [], h) else m_run Z (122, 17, [l0, l1, l2], [], h) := by
  exact g_brq (t := 21) (off := 7) (by decide +kernel : decode (m_byt 122) 14 = .ok (.ifCond .eq 7, 3)) rfl rfl (by decide)
theorem b_122_17 {Z : mZ} {l0 l1 l2 : mV} {h : mH} : m_run Z (122, 17, [l0, l1, l2], [], h) = (m_cl Z 1001 [(0, 1)] h).bind (m_aft (m_run Z) 122 22 [l0, l1, l2] []) := by
  refine g_base (by decide +kernel : decode (m_byt 122) 17 = .ok (.iconst 1, 1)) rfl rfl ?_
  show m_run Z (122, 18, [l0, l1, l2], [(0, 1)], h) = _
  refine g_jmp (t := 22) (by decide +kernel : decode (m_byt 122) 18 = .ok (.goto 4, 3)) (by decide) ?_
  exact g_inv (k := 0) (m' := 1001) (np := 1) (as := [(0, 1)]) (by decide +kernel : decode (m_byt 122) 22 = .ok (.invokestatic 53, 3)) (Or.inr (Or.inr ⟨rfl, rfl, by decide, by decide⟩)) (by decide +kernel) (by decide +kernel) (by decide +kernel) (Nat.le_of_ble_eq_true rfl) rfl (Or.inl rfl)
theorem b_122_21 {Z : mZ} {l0 l1 l2 : mV} {h : mH} : m_run Z (122, 21, [l0, l1, l2], [], h) = m_run Z (122, 22, [l0, l1, l2], [(0, 0)], h) := by
  refine g_base (by decide +kernel : decode (m_byt 122) 21 = .ok (.iconst 0, 1)) rfl rfl ?_
  show m_run Z (122, 22, [l0, l1, l2], [(0, 0)], h) = _
  rfl
theorem b_122_22 {Z : mZ} {l0 l1 l2 : mV} {s0 : Int} {h : mH} : m_run Z (122, 22, [l0, l1, l2], [(0, s0)], h) = (m_cl Z 1001 [(0, s0)] h).bind (m_aft (m_run Z) 122 22 [l0, l1, l2] []) := by
  exact g_inv (k := 0) (m' := 1001) (np := 1) (as := [(0, s0)]) (by decide +kernel : decode (m_byt 122) 22 = .ok (.invokestatic 53, 3)) (Or.inr (Or.inr ⟨rfl, rfl, by decide, by decide⟩)) (by decide +kernel) (by decide +kernel) (by decide +kernel) (Nat.le_of_ble_eq_true rfl) rfl (Or.inl rfl)
theorem b_122_25 {Z : mZ} {l2 : mV} {x1 : Int} {r0 : Nat} {K : Nat → mK} {σ : Nat → Nat → Int} {n e s : Nat} (h0 : q_ob K n r0 6) (h1 : q_rp K r0 4) (h2 : q_rp K r0 0) (h3 : q_ob K n (q_rf K r0 4) 5) : m_run Z (122, 25, [(2, ((r0 : Nat) : Int)), (0, x1), l2], [], (K, σ, n, e, s)) = (m_cl Z 65 [(2, ((q_rf K r0 4 : Nat) : Int)), (2, ((q_rf K r0 0 : Nat) : Int)), (0, x1)] (K, σ, n, e, s)).bind (m_aft (m_run Z) 122 34 [(2, ((r0 : Nat) : Int)), (0, x1), l2] []) := by
  refine g_aload_n (k := 0) (v := (2, ((r0 : Nat) : Int))) (by decide +kernel : decode (m_byt 122) 25 = .ok (.aload_n 0, 1)) rfl (Or.inl rfl) ?_
  refine g_getr (ci := 6) (f := 4) (by decide +kernel : decode (m_byt 122) 26 = .ok (.getfield 26, 3)) (by decide +kernel) (by decide +kernel) (by decide +kernel) h0 h1 ?_
  refine g_aload_n (k := 0) (v := (2, ((r0 : Nat) : Int))) (by decide +kernel : decode (m_byt 122) 29 = .ok (.aload_n 0, 1)) rfl (Or.inl rfl) ?_
  refine g_getr (ci := 6) (f := 0) (by decide +kernel : decode (m_byt 122) 30 = .ok (.getfield 12, 3)) (by decide +kernel) (by decide +kernel) (by decide +kernel) h0 h2 ?_
  refine g_iload_n (k := 1) (x := x1) (by decide +kernel : decode (m_byt 122) 33 = .ok (.iload_n 1, 1)) rfl ?_
  exact g_inv (k := 1) (m' := 65) (np := 2) (as := [(2, ((q_rf K r0 4 : Nat) : Int)), (2, ((q_rf K r0 0 : Nat) : Int)), (0, x1)]) (by decide +kernel : decode (m_byt 122) 34 = .ok (.invokevirtual 124, 3)) (Or.inl ⟨rfl, rfl⟩) (by decide +kernel) (by decide +kernel) (by decide +kernel) (Nat.le_of_ble_eq_true rfl) rfl (Or.inr (g_rcv (by decide +kernel) h3))
theorem b_122_37 {Z : mZ} {l1 l2 : mV} {r0 : Nat} {K : Nat → mK} {σ : Nat → Nat → Int} {n e s : Nat} (h0 : q_ob K n r0 6) (h1 : q_rp K r0 4) (h2 : q_ob K n (q_rf K r0 4) 5) : m_run Z (122, 37, [(2, ((r0 : Nat) : Int)), l1, l2], [], (K, σ, n, e, s)) = (m_cl Z 66 [(2, ((q_rf K r0 4 : Nat) : Int))] (K, σ, n, e, s)).bind (m_aft (m_run Z) 122 41 [(2, ((r0 : Nat) : Int)), l1, l2] []) := by
  refine g_aload_n (k := 0) (v := (2, ((r0 : Nat) : Int))) (by decide +kernel : decode (m_byt 122) 37 = .ok (.aload_n 0, 1)) rfl (Or.inl rfl) ?_
  refine g_getr (ci := 6) (f := 4) (by decide +kernel : decode (m_byt 122) 38 = .ok (.getfield 26, 3)) (by decide +kernel) (by decide +kernel) (by decide +kernel) h0 h1 ?_
  exact g_inv (k := 1) (m' := 66) (np := 0) (as := [(2, ((q_rf K r0 4 : Nat) : Int))]) (by decide +kernel : decode (m_byt 122) 41 = .ok (.invokevirtual 199, 3)) (Or.inl ⟨rfl, rfl⟩) (by decide +kernel) (by decide +kernel) (by decide +kernel) (Nat.le_of_ble_eq_true rfl) rfl (Or.inr (g_rcv (by decide +kernel) h2))
theorem b_122_44 {Z : mZ} {l0 l1 l2 : mV} {s0 : Int} {h : mH} : m_run Z (122, 44, [l0, l1, l2], [(0, s0)], h) = (m_cl Z 1002 [(0, s0)] h).bind (m_aft (m_run Z) 122 44 [l0, l1, l2] []) := by
  exact g_inv (k := 0) (m' := 1002) (np := 1) (as := [(0, s0)]) (by decide +kernel : decode (m_byt 122) 44 = .ok (.invokestatic 168, 3)) (Or.inr (Or.inr ⟨rfl, rfl, by decide, by decide⟩)) (by decide +kernel) (by decide +kernel) (by decide +kernel) (Nat.le_of_ble_eq_true rfl) rfl (Or.inl rfl)
theorem b_122_47 {Z : mZ} {l1 l2 : mV} {r0 : Nat} {K : Nat → mK} {σ : Nat → Nat → Int} {n e s : Nat} (h0 : q_ob K n r0 6) (h1 : q_rp K r0 4) (h2 : q_rp K r0 0) (h3 : q_ob K n (q_rf K r0 0) 1) : m_run Z (122, 47, [(2, ((r0 : Nat) : Int)), l1, l2], [], (K, σ, n, e, s)) = (m_cl Z 19 [(2, ((q_rf K r0 0 : Nat) : Int))] (K, σ, n, e, s)).bind (m_aft (m_run Z) 122 55 [(2, ((r0 : Nat) : Int)), l1, l2] [(2, ((q_rf K r0 4 : Nat) : Int))]) := by
  refine g_aload_n (k := 0) (v := (2, ((r0 : Nat) : Int))) (by decide +kernel : decode (m_byt 122) 47 = .ok (.aload_n 0, 1)) rfl (Or.inl rfl) ?_
  refine g_getr (ci := 6) (f := 4) (by decide +kernel : decode (m_byt 122) 48 = .ok (.getfield 26, 3)) (by decide +kernel) (by decide +kernel) (by decide +kernel) h0 h1 ?_
  refine g_aload_n (k := 0) (v := (2, ((r0 : Nat) : Int))) (by decide +kernel : decode (m_byt 122) 51 = .ok (.aload_n 0, 1)) rfl (Or.inl rfl) ?_
  refine g_getr (ci := 6) (f := 0) (by decide +kernel : decode (m_byt 122) 52 = .ok (.getfield 12, 3)) (by decide +kernel) (by decide +kernel) (by decide +kernel) h0 h2 ?_
  exact g_inv (k := 1) (m' := 19) (np := 0) (as := [(2, ((q_rf K r0 0 : Nat) : Int))]) (by decide +kernel : decode (m_byt 122) 55 = .ok (.invokevirtual 239, 3)) (Or.inl ⟨rfl, rfl⟩) (by decide +kernel) (by decide +kernel) (by decide +kernel) (Nat.le_of_ble_eq_true rfl) rfl (Or.inr (g_rcv (by decide +kernel) h3))
theorem b_122_58 {Z : mZ} {l0 l1 l2 : mV} {s0 : Int} {s1 : Nat} {K : Nat → mK} {σ : Nat → Nat → Int} {n e s : Nat} (h0 : q_ob K n s1 5) : m_run Z (122, 58, [l0, l1, l2], [(0, s0), (2, ((s1 : Nat) : Int))], (K, σ, n, e, s)) = (m_cl Z 88 [(2, ((s1 : Nat) : Int)), (0, s0)] (K, σ, n, e, s)).bind (m_aft (m_run Z) 122 58 [l0, l1, l2] []) := by
  exact g_inv (k := 1) (m' := 88) (np := 1) (as := [(2, ((s1 : Nat) : Int)), (0, s0)]) (by decide +kernel : decode (m_byt 122) 58 = .ok (.invokevirtual 203, 3)) (Or.inl ⟨rfl, rfl⟩) (by decide +kernel) (by decide +kernel) (by decide +kernel) (Nat.le_of_ble_eq_true rfl) rfl (Or.inr (g_rcv (by decide +kernel) h0))
theorem b_122_61 {Z : mZ} {l1 : mV} {x2 : Int} {r0 : Nat} {K : Nat → mK} {σ : Nat → Nat → Int} {n e s : Nat} (h0 : q_ob K n r0 6) (h1 : q_rp K r0 4) (h2 : q_ob K n (q_rf K r0 4) 5) : m_run Z (122, 61, [(2, ((r0 : Nat) : Int)), l1, (0, x2)], [], (K, σ, n, e, s)) = (m_cl Z 135 [(0, (σ ((q_rf K r0 4)) 16)), (0, (σ ((q_rf K r0 4)) 15)), (0, x2)] (K, σ, n, e, s)).bind (m_aft (m_run Z) 122 76 [(2, ((r0 : Nat) : Int)), l1, (0, x2)] []) := by
  refine g_aload_n (k := 0) (v := (2, ((r0 : Nat) : Int))) (by decide +kernel : decode (m_byt 122) 61 = .ok (.aload_n 0, 1)) rfl (Or.inl rfl) ?_
  refine g_getr (ci := 6) (f := 4) (by decide +kernel : decode (m_byt 122) 62 = .ok (.getfield 26, 3)) (by decide +kernel) (by decide +kernel) (by decide +kernel) h0 h1 ?_
  refine g_getf (ci := 5) (f := 16) (by decide +kernel : decode (m_byt 122) 65 = .ok (.getfield 206, 3)) (by decide +kernel) (by decide +kernel) (by decide +kernel) h2 ?_
  refine g_aload_n (k := 0) (v := (2, ((r0 : Nat) : Int))) (by decide +kernel : decode (m_byt 122) 68 = .ok (.aload_n 0, 1)) rfl (Or.inl rfl) ?_
  refine g_getr (ci := 6) (f := 4) (by decide +kernel : decode (m_byt 122) 69 = .ok (.getfield 26, 3)) (by decide +kernel) (by decide +kernel) (by decide +kernel) h0 h1 ?_
  refine g_getf (ci := 5) (f := 15) (by decide +kernel : decode (m_byt 122) 72 = .ok (.getfield 209, 3)) (by decide +kernel) (by decide +kernel) (by decide +kernel) h2 ?_
  refine g_iload_n (k := 2) (x := x2) (by decide +kernel : decode (m_byt 122) 75 = .ok (.iload_n 2, 1)) rfl ?_
  exact g_inv (k := 0) (m' := 135) (np := 3) (as := [(0, (σ ((q_rf K r0 4)) 16)), (0, (σ ((q_rf K r0 4)) 15)), (0, x2)]) (by decide +kernel : decode (m_byt 122) 76 = .ok (.invokestatic 175, 3)) (Or.inr (Or.inr ⟨rfl, rfl, by decide, by decide⟩)) (by decide +kernel) (by decide +kernel) (by decide +kernel) (Nat.le_of_ble_eq_true rfl) rfl (Or.inl rfl)
theorem b_122_79 {Z : mZ} {l0 l1 l2 : mV} {s0 : Int} {h : mH} : m_run Z (122, 79, [l0, l1, l2], [(0, s0)], h) = some (.inl (0, s0), h) := by
  exact g_iret (by decide +kernel : decode (m_byt 122) 79 = .ok (.ireturn, 1)) (by decide +kernel)
theorem e_123 {Z : mZ} {r0 : Nat} {x1 : Int} {x2 : Int} {h : mH} : m_cl Z 123 [(2, ((r0 : Nat) : Int)), (0, x1), (0, x2)] h = m_run Z (123, 0, [(2, ((r0 : Nat) : Int)), (0, x1), (0, x2)], [], h) := g_ent (k := 3) (by decide) (by decide +kernel) (Nat.le_of_ble_eq_true rfl) (by decide +kernel) rfl
theorem b_123_0 {Z : mZ} {l2 : mV} {x1 : Int} {r0 : Nat} {K : Nat → mK} {σ : Nat → Nat → Int} {n e s : Nat} (h0 : q_ob K n r0 6) (h1 : q_rp K r0 0) (h2 : q_ob K n (q_rf K r0 0) 1) : m_run Z (123, 0, [(2, ((r0 : Nat) : Int)), (0, x1), l2], [], (K, σ, n, e, s)) = (m_cl Z 16 [(2, ((q_rf K r0 0 : Nat) : Int)), (0, x1)] (K, σ, n, e, s)).bind (m_aft (m_run Z) 123 5 [(2, ((r0 : Nat) : Int)), (0, x1), l2] []) := by
  refine g_aload_n (k := 0) (v := (2, ((r0 : Nat) : Int))) (by decide +kernel : decode (m_byt 123) 0 = .ok (.aload_n 0, 1)) rfl (Or.inl rfl) ?_
  refine g_getr (ci := 6) (f := 0) (by decide +kernel : decode (m_byt 123) 1 = .ok (.getfield 12, 3)) (by decide +kernel) (by decide +kernel) (by decide +kernel) h0 h1 ?_
  refine g_iload_n (k := 1) (x := x1) (by decide +kernel : decode (m_byt 123) 4 = .ok (.iload_n 1, 1)) rfl ?_
  exact g_inv (k := 1) (m' := 16) (np := 1) (as := [(2, ((q_rf K r0 0 : Nat) : Int)), (0, x1)]) (by decide +kernel : decode (m_byt 123) 5 = .ok (.invokevirtual 78, 3)) (Or.inl ⟨rfl, rfl⟩) (by decide +kernel) (by decide +kernel) (by decide +kernel) (Nat.le_of_ble_eq_true rfl) rfl (Or.inr (g_rcv (by decide +kernel) h2))
theorem b_123_8 {Z : mZ} {l0 l1 l2 : mV} {s0 : Int} {h : mH} : m_run Z (123, 8, [l0, l1, l2], [(0, s0)], h) = (m_cl Z 1000 [(0, s0)] h).bind (m_aft (m_run Z) 123 8 [l0, l1, l2] []) := by
  exact g_inv (k := 0) (m' := 1000) (np := 1) (as := [(0, s0)]) (by decide +kernel : decode (m_byt 123) 8 = .ok (.invokestatic 82, 3)) (Or.inr (Or.inr ⟨rfl, rfl, by decide, by decide⟩)) (by decide +kernel) (by decide +kernel) (by decide +kernel) (Nat.le_of_ble_eq_true rfl) rfl (Or.inl rfl)
theorem b_123_11 {Z : mZ} {l0 l1 : mV} {x2 : Int} {h : mH} : m_run Z (123, 11, [l0, l1, (0, x2)], [], h) = (m_cl Z 134 [(0, x2)] h).bind (m_aft (m_run Z) 123 12 [l0, l1, (0, x2)] []) := by
  refine g_iload_n (k := 2) (x := x2) (by decide +kernel : decode (m_byt 123) 11 = .ok (.iload_n 2, 1)) rfl ?_
  exact g_inv (k := 0) (m' := 134) (np := 1) (as := [(0, x2)]) (by decide +kernel : decode (m_byt 123) 12 = .ok (.invokestatic 162, 3)) (Or.inr (Or.inr ⟨rfl, rfl, by decide, by decide⟩)) (by decide +kernel) (by decide +kernel) (by decide +kernel) (Nat.le_of_ble_eq_true rfl) rfl (Or.inl rfl)
theorem b_123_15 {Z : mZ} {l0 l1 l2 : mV} {s0 : Int} {h : mH} : m_run Z (123, 15, [l0, l1, l2], [(0, s0)], h) = (m_cl Z 1001 [(0, s0)] h).bind (m_aft (m_run Z) 123 15 [l0, l1, l2] []) := by
  exact g_inv (k := 0) (m' := 1001) (np := 1) (as := [(0, s0)]) (by decide +kernel : decode (m_byt 123) 15 = .ok (.invokestatic 53, 3)) (Or.inr (Or.inr ⟨rfl, rfl, by decide, by decide⟩)) (by decide +kernel) (by decide +kernel) (by decide +kernel) (Nat.le_of_ble_eq_true rfl) rfl (Or.inl rfl)
theorem b_123_18 {Z : mZ} {l1 l2 : mV} {r0 : Nat} {K : Nat → mK} {σ : Nat → Nat → Int} {n e s : Nat} (h0 : q_ob K n r0 6) (h1 : q_rp K r0 1) (h2 : q_rp K r0 0) (h3 : q_ob K n (q_rf K r0 1) 1) : m_run Z (123, 18, [(2, ((r0 : Nat) : Int)), l1, l2], [], (K, σ, n, e, s)) = (m_cl Z 13 [(2, ((q_rf K r0 1 : Nat) : Int)), (2, ((q_rf K r0 0 : Nat) : Int))] (K, σ, n, e, s)).bind (m_aft (m_run Z) 123 26 [(2, ((r0 : Nat) : Int)), l1, l2] []) := by
  refine g_aload_n (k := 0) (v := (2, ((r0 : Nat) : Int))) (by decide +kernel : decode (m_byt 123) 18 = .ok (.aload_n 0, 1)) rfl (Or.inl rfl) ?_
  refine g_getr (ci := 6) (f := 1) (by decide +kernel : decode (m_byt 123) 19 = .ok (.getfield 16, 3)) (by decide +kernel) (by decide +kernel) (by decide +kernel) h0 h1 ?_
  refine g_aload_n (k := 0) (v := (2, ((r0 : Nat) : Int))) (by decide +kernel : decode (m_byt 123) 22 = .ok (.aload_n 0, 1)) rfl (Or.inl rfl) ?_
  refine g_getr (ci := 6) (f := 0) (by decide +kernel : decode (m_byt 123) 23 = .ok (.getfield 12, 3)) (by decide +kernel) (by decide +kernel) (by decide +kernel) h0 h2 ?_
  exact g_inv (k := 1) (m' := 13) (np := 1) (as := [(2, ((q_rf K r0 1 : Nat) : Int)), (2, ((q_rf K r0 0 : Nat) : Int))]) (by decide +kernel : decode (m_byt 123) 26 = .ok (.invokevirtual 242, 3)) (Or.inl ⟨rfl, rfl⟩) (by decide +kernel) (by decide +kernel) (by decide +kernel) (Nat.le_of_ble_eq_true rfl) rfl (Or.inr (g_rcv (by decide +kernel) h3))
theorem b_123_29 {Z : mZ} {l2 : mV} {x1 : Int} {r0 : Nat} {K : Nat → mK} {σ : Nat → Nat → Int} {n e s : Nat} (h0 : q_ob K n r0 6) (h1 : q_rp K r0 1) (h2 : q_ob K n (q_rf K r0 1) 1) : m_run Z (123, 29, [(2, ((r0 : Nat) : Int)), (0, x1), l2], [], (K, σ, n, e, s)) = (m_cl Z 27 [(2, ((q_rf K r0 1 : Nat) : Int)), (0, x1)] (K, σ, n, e, s)).bind (m_aft (m_run Z) 123 34 [(2, ((r0 : Nat) : Int)), (0, x1), l2] []) := by
  refine g_aload_n (k := 0) (v := (2, ((r0 : Nat) : Int))) (by decide +kernel : decode (m_byt 123) 29 = .ok (.aload_n 0, 1)) rfl (Or.inl rfl) ?_
  refine g_getr (ci := 6) (f := 1) (by decide +kernel : decode (m_byt 123) 30 = .ok (.getfield 16, 3)) (by decide +kernel) (by decide +kernel) (by decide +kernel) h0 h1 ?_
  refine g_iload_n (k := 1) (x := x1) (by decide +kernel : decode (m_byt 123) 33 = .ok (.iload_n 1, 1)) rfl ?_
  exact g_inv (k := 1) (m' := 27) (np := 1) (as := [(2, ((q_rf K r0 1 : Nat) : Int)), (0, x1)]) (by decide +kernel : decode (m_byt 123) 34 = .ok (.invokevirtual 85, 3)) (Or.inl ⟨rfl, rfl⟩) (by decide +kernel) (by decide +kernel) (by decide +kernel) (Nat.le_of_ble_eq_true rfl) rfl (Or.inr (g_rcv (by decide +kernel) h2))
theorem b_123_37 {Z : mZ} {l1 l2 : mV} {s0 : Int} {r0 : Nat} {K : Nat → mK} {σ : Nat → Nat → Int} {n e s : Nat} (h0 : q_ob K n r0 6) (h1 : q_rp K r0 4) (h2 : q_rp K r0 1) (h3 : q_ob K n (q_rf K r0 4) 5) : m_run Z (123, 37, [(2, ((r0 : Nat) : Int)), l1, l2], [(0, s0)], (K, σ, n, e, s)) = (m_cl Z 65 [(2, ((q_rf K r0 4 : Nat) : Int)), (2, ((q_rf K r0 1 : Nat) : Int)), (0, 0)] (K, σ, n, e, s)).bind (m_aft (m_run Z) 123 47 [(2, ((r0 : Nat) : Int)), l1, l2] []) := by
  refine g_base (by decide +kernel : decode (m_byt 123) 37 = .ok (.pop, 1)) rfl rfl ?_
  show m_run Z (123, 38, [(2, ((r0 : Nat) : Int)), l1, l2], [], (K, σ, n, e, s)) = _
  refine g_aload_n (k := 0) (v := (2, ((r0 : Nat) : Int))) (by decide +kernel : decode (m_byt 123) 38 = .ok (.aload_n 0, 1)) rfl (Or.inl rfl) ?_
  refine g_getr (ci := 6) (f := 4) (by decide +kernel : decode (m_byt 123) 39 = .ok (.getfield 26, 3)) (by decide +kernel) (by decide +kernel) (by decide +kernel) h0 h1 ?_
  refine g_aload_n (k := 0) (v := (2, ((r0 : Nat) : Int))) (by decide +kernel : decode (m_byt 123) 42 = .ok (.aload_n 0, 1)) rfl (Or.inl rfl) ?_
  refine g_getr (ci := 6) (f := 1) (by decide +kernel : decode (m_byt 123) 43 = .ok (.getfield 16, 3)) (by decide +kernel) (by decide +kernel) (by decide +kernel) h0 h2 ?_
  refine g_base (by decide +kernel : decode (m_byt 123) 46 = .ok (.iconst 0, 1)) rfl rfl ?_
  show m_run Z (123, 47, [(2, ((r0 : Nat) : Int)), l1, l2], [(0, 0), (2, ((q_rf K r0 1 : Nat) : Int)), (2, ((q_rf K r0 4 : Nat) : Int))], (K, σ, n, e, s)) = _
  exact g_inv (k := 1) (m' := 65) (np := 2) (as := [(2, ((q_rf K r0 4 : Nat) : Int)), (2, ((q_rf K r0 1 : Nat) : Int)), (0, 0)]) (by decide +kernel : decode (m_byt 123) 47 = .ok (.invokevirtual 124, 3)) (Or.inl ⟨rfl, rfl⟩) (by decide +kernel) (by decide +kernel) (by decide +kernel) (Nat.le_of_ble_eq_true rfl) rfl (Or.inr (g_rcv (by decide +kernel) h3))
theorem b_123_50 {Z : mZ} {l1 l2 : mV} {r0 : Nat} {K : Nat → mK} {σ : Nat → Nat → Int} {n e s : Nat} (h0 : q_ob K n r0 6) (h1 : q_rp K r0 4) (h2 : q_ob K n (q_rf K r0 4) 5) : m_run Z (123, 50, [(2, ((r0 : Nat) : Int)), l1, l2], [], (K, σ, n, e, s)) = (m_cl Z 66 [(2, ((q_rf K r0 4 : Nat) : Int))] (K, σ, n, e, s)).bind (m_aft (m_run Z) 123 54 [(2, ((r0 : Nat) : Int)), l1, l2] []) := by
  refine g_aload_n (k := 0) (v := (2, ((r0 : Nat) : Int))) (by decide +kernel : decode (m_byt 123) 50 = .ok (.aload_n 0, 1)) rfl (Or.inl rfl) ?_
  refine g_getr (ci := 6) (f := 4) (by decide +kernel : decode (m_byt 123) 51 = .ok (.getfield 26, 3)) (by decide +kernel) (by decide +kernel) (by decide +kernel) h0 h1 ?_
  exact g_inv (k := 1) (m' := 66) (np := 0) (as := [(2, ((q_rf K r0 4 : Nat) : Int))]) (by decide +kernel : decode (m_byt 123) 54 = .ok (.invokevirtual 199, 3)) (Or.inl ⟨rfl, rfl⟩) (by decide +kernel) (by decide +kernel) (by decide +kernel) (Nat.le_of_ble_eq_true rfl) rfl (Or.inr (g_rcv (by decide +kernel) h2))
theorem b_123_57 {Z : mZ} {l0 l1 l2 : mV} {s0 : Int} {h : mH} : m_run Z (123, 57, [l0, l1, l2], [(0, s0)], h) = if w32 s0 = 0 then m_run Z (123, 60, [l0, l1, l2], [], h) else m_run Z (123, 62, [l0, l1, l2], [], h) := by
  exact g_brn (t := 62) (off := 5) (by decide +kernel : decode (m_byt 123) 57 = .ok (.ifCond .ne 5, 3)) rfl rfl (by decide)
theorem b_123_60 {Z : mZ} {l0 l1 l2 : mV} {h : mH} : m_run Z (123, 60, [l0, l1, l2], [], h) = some (.inl (0, (-1)), h) := by
  refine g_base (by decide +kernel : decode (m_byt 123) 60 = .ok (.iconst (-1), 1)) rfl rfl ?_
  show m_run Z (123, 61, [l0, l1, l2], [(0, (-1))], h) = _
  exact g_iret (by decide +kernel : decode (m_byt 123) 61 = .ok (.ireturn, 1)) (by decide +kernel)
theorem b_123_62 {Z : mZ} {l1 l2 : mV} {r0 : Nat} {K : Nat → mK} {σ : Nat → Nat → Int} {n e s : Nat} (h0 : q_ob K n r0 6) (h1 : q_rp K r0 4) (h2 : q_rp K r0 0) (h3 : q_ob K n (q_rf K r0 0) 1) : m_run Z (123, 62, [(2, ((r0 : Nat) : Int)), l1, l2], [], (K, σ, n, e, s)) = (m_cl Z 19 [(2, ((q_rf K r0 0 : Nat) : Int))] (K, σ, n, e, s)).bind (m_aft (m_run Z) 123 70 [(2, ((r0 : Nat) : Int)), l1, l2] [(2, ((q_rf K r0 4 : Nat) : Int))]) := by
  refine g_aload_n (k := 0) (v := (2, ((r0 : Nat) : Int))) (by decide +kernel : decode (m_byt 123) 62 = .ok (.aload_n 0, 1)) rfl (Or.inl rfl) ?_
  refine g_getr (ci := 6) (f := 4) (by decide +kernel : decode (m_byt 123) 63 = .ok (.getfield 26, 3)) (by decide +kernel) (by decide +kernel) (by decide +kernel) h0 h1 ?_
  refine g_aload_n (k := 0) (v := (2, ((r0 : Nat) : Int))) (by decide +kernel : decode (m_byt 123) 66 = .ok (.aload_n 0, 1)) rfl (Or.inl rfl) ?_
  refine g_getr (ci := 6) (f := 0) (by decide +kernel : decode (m_byt 123) 67 = .ok (.getfield 12, 3)) (by decide +kernel) (by decide +kernel) (by decide +kernel) h0 h2 ?_
  exact g_inv (k := 1) (m' := 19) (np := 0) (as := [(2, ((q_rf K r0 0 : Nat) : Int))]) (by decide +kernel : decode (m_byt 123) 70 = .ok (.invokevirtual 239, 3)) (Or.inl ⟨rfl, rfl⟩) (by decide +kernel) (by decide +kernel) (by decide +kernel) (Nat.le_of_ble_eq_true rfl) rfl (Or.inr (g_rcv (by decide +kernel) h3))
theorem b_123_73 {Z : mZ} {l0 l1 l2 : mV} {s0 : Int} {s1 : Nat} {K : Nat → mK} {σ : Nat → Nat → Int} {n e s : Nat} (h0 : q_ob K n s1 5) : m_run Z (123, 73, [l0, l1, l2], [(0, s0), (2, ((s1 : Nat) : Int))], (K, σ, n, e, s)) = (m_cl Z 88 [(2, ((s1 : Nat) : Int)), (0, s0)] (K, σ, n, e, s)).bind (m_aft (m_run Z) 123 73 [l0, l1, l2] []) := by
  exact g_inv (k := 1) (m' := 88) (np := 1) (as := [(2, ((s1 : Nat) : Int)), (0, s0)]) (by decide +kernel : decode (m_byt 123) 73 = .ok (.invokevirtual 203, 3)) (Or.inl ⟨rfl, rfl⟩) (by decide +kernel) (by decide +kernel) (by decide +kernel) (Nat.le_of_ble_eq_true rfl) rfl (Or.inr (g_rcv (by decide +kernel) h0))
theorem b_123_76 {Z : mZ} {l1 : mV} {x2 : Int} {r0 : Nat} {K : Nat → mK} {σ : Nat → Nat → Int} {n e s : Nat} (h0 : q_ob K n r0 6) (h1 : q_rp K r0 4) (h2 : q_ob K n (q_rf K r0 4) 5) : m_run Z (123, 76, [(2, ((r0 : Nat) : Int)), l1, (0, x2)], [], (K, σ, n, e, s)) = (m_cl Z 135 [(0, (σ ((q_rf K r0 4)) 16)), (0, (σ ((q_rf K r0 4)) 15)), (0, x2)] (K, σ, n, e, s)).bind (m_aft (m_run Z) 123 91 [(2, ((r0 : Nat) : Int)), l1, (0, x2)] []) := by
  refine g_aload_n (k := 0) (v := (2, ((r0 : Nat) : Int))) (by decide +kernel : decode (m_byt 123) 76 = .ok (.aload_n 0, 1)) rfl (Or.inl rfl) ?_
  refine g_getr (ci := 6) (f := 4) (by decide +kernel : decode (m_byt 123) 77 = .ok (.getfield 26, 3)) (by decide +kernel) (by decide +kernel) (by decide +kernel) h0 h1 ?_
  refine g_getf (ci := 5) (f := 16) (by decide +kernel : decode (m_byt 123) 80 = .ok (.getfield 206, 3)) (by decide +kernel) (by decide +kernel) (by decide +kernel) h2 ?_
  refine g_aload_n (k := 0) (v := (2, ((r0 : Nat) : Int))) (by decide +kernel : decode (m_byt 123) 83 = .ok (.aload_n 0, 1)) rfl (Or.inl rfl) ?_
  refine g_getr (ci := 6) (f := 4) (by decide +kernel : decode (m_byt 123) 84 = .ok (.getfield 26, 3)) (by decide +kernel) (by decide +kernel) (by decide +kernel) h0 h1 ?_
  refine g_getf (ci := 5) (f := 15) (by decide +kernel : decode (m_byt 123) 87 = .ok (.getfield 209, 3)) (by decide +kernel) (by decide +kernel) (by decide +kernel) h2 ?_
  refine g_iload_n (k := 2) (x := x2) (by decide +kernel : decode (m_byt 123) 90 = .ok (.iload_n 2, 1)) rfl ?_
  exact g_inv (k := 0) (m' := 135) (np := 3) (as := [(0, (σ ((q_rf K r0 4)) 16)), (0, (σ ((q_rf K r0 4)) 15)), (0, x2)]) (by decide +kernel : decode (m_byt 123) 91 = .ok (.invokestatic 175, 3)) (Or.inr (Or.inr ⟨rfl, rfl, by decide, by decide⟩)) (by decide +kernel) (by decide +kernel) (by decide +kernel) (Nat.le_of_ble_eq_true rfl) rfl (Or.inl rfl)
theorem b_123_94 {Z : mZ} {l0 l1 l2 : mV} {s0 : Int} {h : mH} : m_run Z (123, 94, [l0, l1, l2], [(0, s0)], h) = some (.inl (0, s0), h) := by
  exact g_iret (by decide +kernel : decode (m_byt 123) 94 = .ok (.ireturn, 1)) (by decide +kernel)
theorem e_124 {Z : mZ} {r0 : Nat} {x1 : Int} {h : mH} : m_cl Z 124 [(2, ((r0 : Nat) : Int)), (0, x1)] h = m_run Z (124, 0, [(2, ((r0 : Nat) : Int)), (0, x1)], [], h) := g_ent (k := 2) (by decide) (by decide +kernel) (Nat.le_of_ble_eq_true rfl) (by decide +kernel) rfl
theorem b_124_0 {Z : mZ} {l0 : mV} {x1 : Int} {h : mH} : m_run Z (124, 0, [l0, (0, x1)], [], h) = if w32 x1 < w32 32 then m_run Z (124, 16, [l0, (0, x1)], [], h) else m_run Z (124, 6, [l0, (0, x1)], [], h) := by
  refine g_iload_n (k := 1) (x := x1) (by decide +kernel : decode (m_byt 124) 0 = .ok (.iload_n 1, 1)) rfl ?_
  refine g_base (by decide +kernel : decode (m_byt 124) 1 = .ok (.bipush 32, 2)) rfl rfl ?_
  show m_run Z (124, 3, [l0, (0, x1)], [(0, 32), (0, x1)], h) = _
  exact g_brq (t := 16) (off := 13) (by decide +kernel : decode (m_byt 124) 3 = .ok (.if_icmp .lt 13, 3)) rfl rfl (by decide)
theorem b_124_6 {Z : mZ} {l0 : mV} {x1 : Int} {h : mH} : m_run Z (124, 6, [l0, (0, x1)], [], h) = if w32 126 < w32 x1 then m_run Z (124, 16, [l0, (0, x1)], [], h) else m_run Z (124, 12, [l0, (0, x1)], [], h) := by
  refine g_iload_n (k := 1) (x := x1) (by decide +kernel : decode (m_byt 124) 6 = .ok (.iload_n 1, 1)) rfl ?_
  refine g_base (by decide +kernel : decode (m_byt 124) 7 = .ok (.bipush 126, 2)) rfl rfl ?_
  show m_run Z (124, 9, [l0, (0, x1)], [(0, 126), (0, x1)], h) = _
  exact g_brq (t := 16) (off := 7) (by decide +kernel : decode (m_byt 124) 9 = .ok (.if_icmp .gt 7, 3)) rfl rfl (by decide)
theorem b_124_12 {Z : mZ} {l0 l1 : mV} {h : mH} : m_run Z (124, 12, [l0, l1], [], h) = (m_cl Z 1001 [(0, 1)] h).bind (m_aft (m_run Z) 124 17 [l0, l1] []) := by
  refine g_base (by decide +kernel : decode (m_byt 124) 12 = .ok (.iconst 1, 1)) rfl rfl ?_
  show m_run Z (124, 13, [l0, l1], [(0, 1)], h) = _
  refine g_jmp (t := 17) (by decide +kernel : decode (m_byt 124) 13 = .ok (.goto 4, 3)) (by decide) ?_
  exact g_inv (k := 0) (m' := 1001) (np := 1) (as := [(0, 1)]) (by decide +kernel : decode (m_byt 124) 17 = .ok (.invokestatic 53, 3)) (Or.inr (Or.inr ⟨rfl, rfl, by decide, by decide⟩)) (by decide +kernel) (by decide +kernel) (by decide +kernel) (Nat.le_of_ble_eq_true rfl) rfl (Or.inl rfl)
theorem b_124_16 {Z : mZ} {l0 l1 : mV} {h : mH} : m_run Z (124, 16, [l0, l1], [], h) = m_run Z (124, 17, [l0, l1], [(0, 0)], h) := by
  refine g_base (by decide +kernel : decode (m_byt 124) 16 = .ok (.iconst 0, 1)) rfl rfl ?_
  show m_run Z (124, 17, [l0, l1], [(0, 0)], h) = _
  rfl
theorem b_124_17 {Z : mZ} {l0 l1 : mV} {s0 : Int} {h : mH} : m_run Z (124, 17, [l0, l1], [(0, s0)], h) = (m_cl Z 1001 [(0, s0)] h).bind (m_aft (m_run Z) 124 17 [l0, l1] []) := by
  exact g_inv (k := 0) (m' := 1001) (np := 1) (as := [(0, s0)]) (by decide +kernel : decode (m_byt 124) 17 = .ok (.invokestatic 53, 3)) (Or.inr (Or.inr ⟨rfl, rfl, by decide, by decide⟩)) (by decide +kernel) (by decide +kernel) (by decide +kernel) (Nat.le_of_ble_eq_true rfl) rfl (Or.inl rfl)
theorem b_124_20 {Z : mZ} {l1 : mV} {r0 : Nat} {K : Nat → mK} {σ : Nat → Nat → Int} {n e s : Nat} (h0 : q_ob K n r0 6) (h1 : q_rp K r0 7) (h2 : q_ob K n (q_rf K r0 7) 4) : m_run Z (124, 20, [(2, ((r0 : Nat) : Int)), l1], [], (K, σ, n, e, s)) = if w32 120 ≤ w32 (σ ((q_rf K r0 7)) 0) then m_run Z (124, 36, [(2, ((r0 : Nat) : Int)), l1], [], (K, σ, n, e, s)) else m_run Z (124, 32, [(2, ((r0 : Nat) : Int)), l1], [], (K, σ, n, e, s)) := by
  refine g_aload_n (k := 0) (v := (2, ((r0 : Nat) : Int))) (by decide +kernel : decode (m_byt 124) 20 = .ok (.aload_n 0, 1)) rfl (Or.inl rfl) ?_
  refine g_getr (ci := 6) (f := 7) (by decide +kernel : decode (m_byt 124) 21 = .ok (.getfield 49, 3)) (by decide +kernel) (by decide +kernel) (by decide +kernel) h0 h1 ?_
  refine g_getf (ci := 4) (f := 0) (by decide +kernel : decode (m_byt 124) 24 = .ok (.getfield 246, 3)) (by decide +kernel) (by decide +kernel) (by decide +kernel) h2 ?_
  refine g_base (by decide +kernel : decode (m_byt 124) 27 = .ok (.bipush 120, 2)) rfl rfl ?_
  show m_run Z (124, 29, [(2, ((r0 : Nat) : Int)), l1], [(0, 120), (0, (σ ((q_rf K r0 7)) 0))], (K, σ, n, e, s)) = _
  exact g_brq (t := 36) (off := 7) (by decide +kernel : decode (m_byt 124) 29 = .ok (.if_icmp .ge 7, 3)) rfl rfl (by decide)
theorem b_124_32 {Z : mZ} {l0 l1 : mV} {h : mH} : m_run Z (124, 32, [l0, l1], [], h) = (m_cl Z 1002 [(0, 1)] h).bind (m_aft (m_run Z) 124 37 [l0, l1] []) := by
  refine g_base (by decide +kernel : decode (m_byt 124) 32 = .ok (.iconst 1, 1)) rfl rfl ?_
  show m_run Z (124, 33, [l0, l1], [(0, 1)], h) = _
  refine g_jmp (t := 37) (by decide +kernel : decode (m_byt 124) 33 = .ok (.goto 4, 3)) (by decide) ?_
  exact g_inv (k := 0) (m' := 1002) (np := 1) (as := [(0, 1)]) (by decide +kernel : decode (m_byt 124) 37 = .ok (.invokestatic 168, 3)) (Or.inr (Or.inr ⟨rfl, rfl, by decide, by decide⟩)) (by decide +kernel) (by decide +kernel) (by decide +kernel) (Nat.le_of_ble_eq_true rfl) rfl (Or.inl rfl)
theorem b_124_36 {Z : mZ} {l0 l1 : mV} {h : mH} : m_run Z (124, 36, [l0, l1], [], h) = m_run Z (124, 37, [l0, l1], [(0, 0)], h) := by
  refine g_base (by decide +kernel : decode (m_byt 124) 36 = .ok (.iconst 0, 1)) rfl rfl ?_
  show m_run Z (124, 37, [l0, l1], [(0, 0)], h) = _
  rfl
theorem b_124_37 {Z : mZ} {l0 l1 : mV} {s0 : Int} {h : mH} : m_run Z (124, 37, [l0, l1], [(0, s0)], h) = (m_cl Z 1002 [(0, s0)] h).bind (m_aft (m_run Z) 124 37 [l0, l1] []) := by
  exact g_inv (k := 0) (m' := 1002) (np := 1) (as := [(0, s0)]) (by decide +kernel : decode (m_byt 124) 37 = .ok (.invokestatic 168, 3)) (Or.inr (Or.inr ⟨rfl, rfl, by decide, by decide⟩)) (by decide +kernel) (by decide +kernel) (by decide +kernel) (Nat.le_of_ble_eq_true rfl) rfl (Or.inl rfl)
theorem b_124_40 {Z : mZ} {x1 : Int} {r0 : Nat} {K : Nat → mK} {σ : Nat → Nat → Int} {n e s : Nat} (h0 : q_ob K n r0 6) (h1 : q_rp K r0 7) (h2 : q_ob K n (q_rf K r0 7) 4) : m_run Z (124, 40, [(2, ((r0 : Nat) : Int)), (0, x1)], [], (K, σ, n, e, s)) = (m_cl Z 52 [(2, ((q_rf K r0 7 : Nat) : Int)), (0, x1)] (K, σ, n, e, s)).bind (m_aft (m_run Z) 124 45 [(2, ((r0 : Nat) : Int)), (0, x1)] []) := by
  refine g_aload_n (k := 0) (v := (2, ((r0 : Nat) : Int))) (by decide +kernel : decode (m_byt 124) 40 = .ok (.aload_n 0, 1)) rfl (Or.inl rfl) ?_
  refine g_getr (ci := 6) (f := 7) (by decide +kernel : decode (m_byt 124) 41 = .ok (.getfield 49, 3)) (by decide +kernel) (by decide +kernel) (by decide +kernel) h0 h1 ?_
  refine g_iload_n (k := 1) (x := x1) (by decide +kernel : decode (m_byt 124) 44 = .ok (.iload_n 1, 1)) rfl ?_
  exact g_inv (k := 1) (m' := 52) (np := 1) (as := [(2, ((q_rf K r0 7 : Nat) : Int)), (0, x1)]) (by decide +kernel : decode (m_byt 124) 45 = .ok (.invokevirtual 249, 3)) (Or.inl ⟨rfl, rfl⟩) (by decide +kernel) (by decide +kernel) (by decide +kernel) (Nat.le_of_ble_eq_true rfl) rfl (Or.inr (g_rcv (by decide +kernel) h2))
theorem b_124_48 {Z : mZ} {l1 : mV} {r0 : Nat} {K : Nat → mK} {σ : Nat → Nat → Int} {n e s : Nat} (h0 : q_ob K n r0 6) (h1 : q_rp K r0 7) (h2 : q_ob K n (q_rf K r0 7) 4) : m_run Z (124, 48, [(2, ((r0 : Nat) : Int)), l1], [], (K, σ, n, e, s)) = some (.inl (0, (σ ((q_rf K r0 7)) 0)), (K, σ, n, e, s)) := by
  refine g_aload_n (k := 0) (v := (2, ((r0 : Nat) : Int))) (by decide +kernel : decode (m_byt 124) 48 = .ok (.aload_n 0, 1)) rfl (Or.inl rfl) ?_
  refine g_getr (ci := 6) (f := 7) (by decide +kernel : decode (m_byt 124) 49 = .ok (.getfield 49, 3)) (by decide +kernel) (by decide +kernel) (by decide +kernel) h0 h1 ?_
  refine g_getf (ci := 4) (f := 0) (by decide +kernel : decode (m_byt 124) 52 = .ok (.getfield 246, 3)) (by decide +kernel) (by decide +kernel) (by decide +kernel) h2 ?_
  exact g_iret (by decide +kernel : decode (m_byt 124) 55 = .ok (.ireturn, 1)) (by decide +kernel)
theorem e_128 {Z : mZ} {r0 : Nat} {h : mH} : m_cl Z 128 [(2, ((r0 : Nat) : Int))] h = m_run Z (128, 0, [(2, ((r0 : Nat) : Int)), (9, 0)], [], h) := g_ent (k := 2) (by decide) (by decide +kernel) (Nat.le_of_ble_eq_true rfl) (by decide +kernel) rfl
theorem b_128_0 {Z : mZ} {l1 : mV} {r0 : Nat} {K : Nat → mK} {σ : Nat → Nat → Int} {n e s : Nat} (h0 : q_ob K n r0 6) : m_run Z (128, 0, [(2, ((r0 : Nat) : Int)), l1], [], (K, σ, n, e, s)) = if w32 (σ r0 3) ≤ 0 then m_run Z (128, 11, [(2, ((r0 : Nat) : Int)), l1], [], (K, σ, n, e, s)) else m_run Z (128, 7, [(2, ((r0 : Nat) : Int)), l1], [], (K, σ, n, e, s)) := by
  refine g_aload_n (k := 0) (v := (2, ((r0 : Nat) : Int))) (by decide +kernel : decode (m_byt 128) 0 = .ok (.aload_n 0, 1)) rfl (Or.inl rfl) ?_
  refine g_getf (ci := 6) (f := 3) (by decide +kernel : decode (m_byt 128) 1 = .ok (.getfield 270, 3)) (by decide +kernel) (by decide +kernel) (by decide +kernel) h0 ?_
  exact g_brq (t := 11) (off := 7) (by decide +kernel : decode (m_byt 128) 4 = .ok (.ifCond .le 7, 3)) rfl rfl (by decide)
theorem b_128_7 {Z : mZ} {l0 l1 : mV} {h : mH} : m_run Z (128, 7, [l0, l1], [], h) = (m_cl Z 1002 [(0, 1)] h).bind (m_aft (m_run Z) 128 12 [l0, l1] []) := by
  refine g_base (by decide +kernel : decode (m_byt 128) 7 = .ok (.iconst 1, 1)) rfl rfl ?_
  show m_run Z (128, 8, [l0, l1], [(0, 1)], h) = _
  refine g_jmp (t := 12) (by decide +kernel : decode (m_byt 128) 8 = .ok (.goto 4, 3)) (by decide) ?_
  exact g_inv (k := 0) (m' := 1002) (np := 1) (as := [(0, 1)]) (by decide +kernel : decode (m_byt 128) 12 = .ok (.invokestatic 168, 3)) (Or.inr (Or.inr ⟨rfl, rfl, by decide, by decide⟩)) (by decide +kernel) (by decide +kernel) (by decide +kernel) (Nat.le_of_ble_eq_true rfl) rfl (Or.inl rfl)
theorem b_128_11 {Z : mZ} {l0 l1 : mV} {h : mH} : m_run Z (128, 11, [l0, l1], [], h) = m_run Z (128, 12, [l0, l1], [(0, 0)], h) := by
  refine g_base (by decide +kernel : decode (m_byt 128) 11 = .ok (.iconst 0, 1)) rfl rfl ?_
  show m_run Z (128, 12, [l0, l1], [(0, 0)], h) = _
  rfl
theorem b_128_12 {Z : mZ} {l0 l1 : mV} {s0 : Int} {h : mH} : m_run Z (128, 12, [l0, l1], [(0, s0)], h) = (m_cl Z 1002 [(0, s0)] h).bind (m_aft (m_run Z) 128 12 [l0, l1] []) := by
  exact g_inv (k := 0) (m' := 1002) (np := 1) (as := [(0, s0)]) (by decide +kernel : decode (m_byt 128) 12 = .ok (.invokestatic 168, 3)) (Or.inr (Or.inr ⟨rfl, rfl, by decide, by decide⟩)) (by decide +kernel) (by decide +kernel) (by decide +kernel) (Nat.le_of_ble_eq_true rfl) rfl (Or.inl rfl)
theorem b_128_15 {Z : mZ} {l1 : mV} {r0 : Nat} {K : Nat → mK} {σ : Nat → Nat → Int} {n e s : Nat} (h0 : q_ob K n r0 6) : m_run Z (128, 15, [(2, ((r0 : Nat) : Int)), l1], [], (K, σ, n, e, s)) = (m_cl Z 137 [(2, ((r0 : Nat) : Int)), (0, ((m_up2 σ r0 3 ((σ r0 3) - 1)) r0 3))] (K, (m_up2 σ r0 3 ((σ r0 3) - 1)), n, e, s)).bind (m_aft (m_run Z) 128 30 [(2, ((r0 : Nat) : Int)), l1] []) := by
  refine g_aload_n (k := 0) (v := (2, ((r0 : Nat) : Int))) (by decide +kernel : decode (m_byt 128) 15 = .ok (.aload_n 0, 1)) rfl (Or.inl rfl) ?_
  refine g_base (by decide +kernel : decode (m_byt 128) 16 = .ok (.dup, 1)) rfl rfl ?_
  show m_run Z (128, 17, [(2, ((r0 : Nat) : Int)), l1], [(2, ((r0 : Nat) : Int)), (2, ((r0 : Nat) : Int))], (K, σ, n, e, s)) = _
  refine g_getf (ci := 6) (f := 3) (by decide +kernel : decode (m_byt 128) 17 = .ok (.getfield 270, 3)) (by decide +kernel) (by decide +kernel) (by decide +kernel) h0 ?_
  refine g_base (by decide +kernel : decode (m_byt 128) 20 = .ok (.iconst 1, 1)) rfl rfl ?_
  show m_run Z (128, 21, [(2, ((r0 : Nat) : Int)), l1], [(0, 1), (0, (σ r0 3)), (2, ((r0 : Nat) : Int))], (K, σ, n, e, s)) = _
  refine g_base (by decide +kernel : decode (m_byt 128) 21 = .ok (.isub, 1)) rfl rfl ?_
  show m_run Z (128, 22, [(2, ((r0 : Nat) : Int)), l1], [(0, ((σ r0 3) - 1)), (2, ((r0 : Nat) : Int))], (K, σ, n, e, s)) = _
  refine g_putf (ci := 6) (f := 3) (by decide +kernel : decode (m_byt 128) 22 = .ok (.putfield 270, 3)) (by decide +kernel) (by decide +kernel) (by decide +kernel) h0 ?_
  show m_run Z (128, 25, [(2, ((r0 : Nat) : Int)), l1], [], (K, (m_up2 σ r0 3 ((σ r0 3) - 1)), n, e, s)) = _
  refine g_aload_n (k := 0) (v := (2, ((r0 : Nat) : Int))) (by decide +kernel : decode (m_byt 128) 25 = .ok (.aload_n 0, 1)) rfl (Or.inl rfl) ?_
  refine g_aload_n (k := 0) (v := (2, ((r0 : Nat) : Int))) (by decide +kernel : decode (m_byt 128) 26 = .ok (.aload_n 0, 1)) rfl (Or.inl rfl) ?_
  refine g_getf (ci := 6) (f := 3) (by decide +kernel : decode (m_byt 128) 27 = .ok (.getfield 270, 3)) (by decide +kernel) (by decide +kernel) (by decide +kernel) h0 ?_
  exact g_inv (k := 1) (m' := 137) (np := 1) (as := [(2, ((r0 : Nat) : Int)), (0, ((m_up2 σ r0 3 ((σ r0 3) - 1)) r0 3))]) (by decide +kernel : decode (m_byt 128) 30 = .ok (.invokevirtual 273, 3)) (Or.inl ⟨rfl, rfl⟩) (by decide +kernel) (by decide +kernel) (by decide +kernel) (Nat.le_of_ble_eq_true rfl) rfl (Or.inr (g_rcv (by decide +kernel) h0))
theorem b_128_33 {Z : mZ} {l1 : mV} {s0 r0 : Nat} {h : mH} : m_run Z (128, 33, [(2, ((r0 : Nat) : Int)), l1], [(2, ((s0 : Nat) : Int))], h) = m_run Z (128, 38, [(2, ((r0 : Nat) : Int)), (2, ((s0 : Nat) : Int))], [], h) := by
  refine g_astore_n (k := 1) (t := 2) (by decide) (by decide +kernel : decode (m_byt 128) 33 = .ok (.astore_n 1, 1)) (Nat.le_of_ble_eq_true rfl) ?_
  show m_run Z (128, 34, [(2, ((r0 : Nat) : Int)), (2, ((s0 : Nat) : Int))], [], h) = _
  refine g_aload_n (k := 1) (v := (2, ((s0 : Nat) : Int))) (by decide +kernel : decode (m_byt 128) 34 = .ok (.aload_n 1, 1)) rfl (Or.inl rfl) ?_
  refine g_nul (r := s0) (by decide +kernel : decode (m_byt 128) 35 = .ok (.ifnull 11, 3)) ⟨46, by decide⟩ ?_
  rfl
theorem b_128_38 {Z : mZ} {r0 r1 : Nat} {K : Nat → mK} {σ : Nat → Nat → Int} {n e s : Nat} (h0 : q_ob K n r0 6) (h1 : q_rp K r0 0) (h2 : q_ob K n (q_rf K r0 0) 1) : m_run Z (128, 38, [(2, ((r0 : Nat) : Int)), (2, ((r1 : Nat) : Int))], [], (K, σ, n, e, s)) = (m_cl Z 13 [(2, ((q_rf K r0 0 : Nat) : Int)), (2, ((r1 : Nat) : Int))] (K, σ, n, e, s)).bind (m_aft (m_run Z) 128 43 [(2, ((r0 : Nat) : Int)), (2, ((r1 : Nat) : Int))] []) := by
  refine g_aload_n (k := 0) (v := (2, ((r0 : Nat) : Int))) (by decide +kernel : decode (m_byt 128) 38 = .ok (.aload_n 0, 1)) rfl (Or.inl rfl) ?_
  refine g_getr (ci := 6) (f := 0) (by decide +kernel : decode (m_byt 128) 39 = .ok (.getfield 12, 3)) (by decide +kernel) (by decide +kernel) (by decide +kernel) h0 h1 ?_
  refine g_aload_n (k := 1) (v := (2, ((r1 : Nat) : Int))) (by decide +kernel : decode (m_byt 128) 42 = .ok (.aload_n 1, 1)) rfl (Or.inl rfl) ?_
  exact g_inv (k := 1) (m' := 13) (np := 1) (as := [(2, ((q_rf K r0 0 : Nat) : Int)), (2, ((r1 : Nat) : Int))]) (by decide +kernel : decode (m_byt 128) 43 = .ok (.invokevirtual 242, 3)) (Or.inl ⟨rfl, rfl⟩) (by decide +kernel) (by decide +kernel) (by decide +kernel) (Nat.le_of_ble_eq_true rfl) rfl (Or.inr (g_rcv (by decide +kernel) h2))
theorem b_128_46 {Z : mZ} {l1 : mV} {r0 : Nat} {K : Nat → mK} {σ : Nat → Nat → Int} {n e s : Nat} (h0 : q_ob K n r0 6) : m_run Z (128, 46, [(2, ((r0 : Nat) : Int)), l1], [], (K, σ, n, e, s)) = some (.inl (0, (σ r0 3)), (K, σ, n, e, s)) := by
  refine g_aload_n (k := 0) (v := (2, ((r0 : Nat) : Int))) (by decide +kernel : decode (m_byt 128) 46 = .ok (.aload_n 0, 1)) rfl (Or.inl rfl) ?_
  refine g_getf (ci := 6) (f := 3) (by decide +kernel : decode (m_byt 128) 47 = .ok (.getfield 270, 3)) (by decide +kernel) (by decide +kernel) (by decide +kernel) h0 ?_
  exact g_iret (by decide +kernel : decode (m_byt 128) 50 = .ok (.ireturn, 1)) (by decide +kernel)
theorem e_129 {Z : mZ} {r0 : Nat} {h : mH} : m_cl Z 129 [(2, ((r0 : Nat) : Int))] h = m_run Z (129, 0, [(2, ((r0 : Nat) : Int)), (9, 0), (9, 0)], [], h) := g_ent (k := 3) (by decide) (by decide +kernel) (Nat.le_of_ble_eq_true rfl) (by decide +kernel) rfl
theorem b_129_0 {Z : mZ} {l1 l2 : mV} {r0 : Nat} {K : Nat → mK} {σ : Nat → Nat → Int} {n e s : Nat} (h0 : q_ob K n r0 6) (h1 : q_rp K r0 4) (h2 : q_rp K r0 0) (h3 : q_ob K n (q_rf K r0 4) 5) : m_run Z (129, 0, [(2, ((r0 : Nat) : Int)), l1, l2], [], (K, σ, n, e, s)) = (m_cl Z 65 [(2, ((q_rf K r0 4 : Nat) : Int)), (2, ((q_rf K r0 0 : Nat) : Int)), (0, 0)] (K, σ, n, e, s)).bind (m_aft (m_run Z) 129 9 [(2, ((r0 : Nat) : Int)), l1, l2] []) := by
  refine g_aload_n (k := 0) (v := (2, ((r0 : Nat) : Int))) (by decide +kernel : decode (m_byt 129) 0 = .ok (.aload_n 0, 1)) rfl (Or.inl rfl) ?_
  refine g_getr (ci := 6) (f := 4) (by decide +kernel : decode (m_byt 129) 1 = .ok (.getfield 26, 3)) (by decide +kernel) (by decide +kernel) (by decide +kernel) h0 h1 ?_
  refine g_aload_n (k := 0) (v := (2, ((r0 : Nat) : Int))) (by decide +kernel : decode (m_byt 129) 4 = .ok (.aload_n 0, 1)) rfl (Or.inl rfl) ?_
  refine g_getr (ci := 6) (f := 0) (by decide +kernel : decode (m_byt 129) 5 = .ok (.getfield 12, 3)) (by decide +kernel) (by decide +kernel) (by decide +kernel) h0 h2 ?_
  refine g_base (by decide +kernel : decode (m_byt 129) 8 = .ok (.iconst 0, 1)) rfl rfl ?_
  show m_run Z (129, 9, [(2, ((r0 : Nat) : Int)), l1, l2], [(0, 0), (2, ((q_rf K r0 0 : Nat) : Int)), (2, ((q_rf K r0 4 : Nat) : Int))], (K, σ, n, e, s)) = _
  exact g_inv (k := 1) (m' := 65) (np := 2) (as := [(2, ((q_rf K r0 4 : Nat) : Int)), (2, ((q_rf K r0 0 : Nat) : Int)), (0, 0)]) (by decide +kernel : decode (m_byt 129) 9 = .ok (.invokevirtual 124, 3)) (Or.inl ⟨rfl, rfl⟩) (by decide +kernel) (by decide +kernel) (by decide +kernel) (Nat.le_of_ble_eq_true rfl) rfl (Or.inr (g_rcv (by decide +kernel) h3))
theorem b_129_12 {Z : mZ} {l1 l2 : mV} {r0 : Nat} {K : Nat → mK} {σ : Nat → Nat → Int} {n e s : Nat} (h0 : q_ob K n r0 6) : m_run Z (129, 12, [(2, ((r0 : Nat) : Int)), l1, l2], [], (K, σ, n, e, s)) = (m_cl Z 146 [(2, ((r0 : Nat) : Int)), (1, 18473)] (K, σ, n, e, s)).bind (m_aft (m_run Z) 129 16 [(2, ((r0 : Nat) : Int)), l1, l2] []) := by
  refine g_aload_n (k := 0) (v := (2, ((r0 : Nat) : Int))) (by decide +kernel : decode (m_byt 129) 12 = .ok (.aload_n 0, 1)) rfl (Or.inl rfl) ?_
  refine g_base (by decide +kernel : decode (m_byt 129) 13 = .ok (.ldc2_w 277, 3)) rfl rfl ?_
  show m_run Z (129, 16, [(2, ((r0 : Nat) : Int)), l1, l2], [(1, 18473), (2, ((r0 : Nat) : Int))], (K, σ, n, e, s)) = _
  exact g_inv (k := 1) (m' := 146) (np := 1) (as := [(2, ((r0 : Nat) : Int)), (1, 18473)]) (by decide +kernel : decode (m_byt 129) 16 = .ok (.invokevirtual 279, 3)) (Or.inl ⟨rfl, rfl⟩) (by decide +kernel) (by decide +kernel) (by decide +kernel) (Nat.le_of_ble_eq_true rfl) rfl (Or.inr (g_rcv (by decide +kernel) h0))
theorem b_129_19 {Z : mZ} {l1 l2 : mV} {s0 : Int} {r0 : Nat} {K : Nat → mK} {σ : Nat → Nat → Int} {n e s : Nat} (h0 : q_ob K n r0 6) (h1 : q_rp K r0 4) (h2 : q_ob K n (q_rf K r0 4) 5) : m_run Z (129, 19, [(2, ((r0 : Nat) : Int)), l1, l2], [(1, s0)], (K, σ, n, e, s)) = (m_cl Z 66 [(2, ((q_rf K r0 4 : Nat) : Int))] (K, σ, n, e, s)).bind (m_aft (m_run Z) 129 24 [(2, ((r0 : Nat) : Int)), (1, s0), (9, 0)] []) := by
  refine g_lstore_n (k := 1) (by decide +kernel : decode (m_byt 129) 19 = .ok (.lstore_n 1, 1)) (Nat.le_of_ble_eq_true rfl) ?_
  show m_run Z (129, 20, [(2, ((r0 : Nat) : Int)), (1, s0), (9, 0)], [], (K, σ, n, e, s)) = _
  refine g_aload_n (k := 0) (v := (2, ((r0 : Nat) : Int))) (by decide +kernel : decode (m_byt 129) 20 = .ok (.aload_n 0, 1)) rfl (Or.inl rfl) ?_
  refine g_getr (ci := 6) (f := 4) (by decide +kernel : decode (m_byt 129) 21 = .ok (.getfield 26, 3)) (by decide +kernel) (by decide +kernel) (by decide +kernel) h0 h1 ?_
  exact g_inv (k := 1) (m' := 66) (np := 0) (as := [(2, ((q_rf K r0 4 : Nat) : Int))]) (by decide +kernel : decode (m_byt 129) 24 = .ok (.invokevirtual 199, 3)) (Or.inl ⟨rfl, rfl⟩) (by decide +kernel) (by decide +kernel) (by decide +kernel) (Nat.le_of_ble_eq_true rfl) rfl (Or.inr (g_rcv (by decide +kernel) h2))
theorem b_129_27 {Z : mZ} {l0 l1 l2 : mV} {s0 : Int} {h : mH} : m_run Z (129, 27, [l0, l1, l2], [(0, s0)], h) = if w32 s0 = 0 then m_run Z (129, 36, [l0, l1, l2], [], h) else m_run Z (129, 30, [l0, l1, l2], [], h) := by
  exact g_brq (t := 36) (off := 9) (by decide +kernel : decode (m_byt 129) 27 = .ok (.ifCond .eq 9, 3)) rfl rfl (by decide)
theorem b_129_30 {Z : mZ} {l2 : mV} {x1 : Int} {r0 : Nat} {K : Nat → mK} {σ : Nat → Nat → Int} {n e s : Nat} (h0 : q_ob K n r0 6) : m_run Z (129, 30, [(2, ((r0 : Nat) : Int)), (1, x1), l2], [], (K, σ, n, e, s)) = (m_cl Z 147 [(2, ((r0 : Nat) : Int)), (1, x1)] (K, σ, n, e, s)).bind (m_aft (m_run Z) 129 32 [(2, ((r0 : Nat) : Int)), (1, x1), l2] []) := by
  refine g_aload_n (k := 0) (v := (2, ((r0 : Nat) : Int))) (by decide +kernel : decode (m_byt 129) 30 = .ok (.aload_n 0, 1)) rfl (Or.inl rfl) ?_
  refine g_lload_n (k := 1) (x := x1) (by decide +kernel : decode (m_byt 129) 31 = .ok (.lload_n 1, 1)) rfl ?_
  exact g_inv (k := 1) (m' := 147) (np := 1) (as := [(2, ((r0 : Nat) : Int)), (1, x1)]) (by decide +kernel : decode (m_byt 129) 32 = .ok (.invokevirtual 283, 3)) (Or.inl ⟨rfl, rfl⟩) (by decide +kernel) (by decide +kernel) (by decide +kernel) (Nat.le_of_ble_eq_true rfl) rfl (Or.inr (g_rcv (by decide +kernel) h0))
theorem b_129_35 {Z : mZ} {l1 l2 : mV} {s0 : Int} {r0 : Nat} {h : mH} : m_run Z (129, 35, [(2, ((r0 : Nat) : Int)), l1, l2], [(1, s0)], h) = m_run Z (129, 36, [(2, ((r0 : Nat) : Int)), (1, s0), (9, 0)], [], h) := by
  refine g_lstore_n (k := 1) (by decide +kernel : decode (m_byt 129) 35 = .ok (.lstore_n 1, 1)) (Nat.le_of_ble_eq_true rfl) ?_
  show m_run Z (129, 36, [(2, ((r0 : Nat) : Int)), (1, s0), (9, 0)], [], h) = _
  rfl
theorem b_129_36 {Z : mZ} {l2 : mV} {x1 : Int} {r0 : Nat} {K : Nat → mK} {σ : Nat → Nat → Int} {n e s : Nat} (h0 : q_ob K n r0 6) (h1 : q_rp K r0 7) (h2 : q_ob K n (q_rf K r0 7) 4) : m_run Z (129, 36, [(2, ((r0 : Nat) : Int)), (1, x1), l2], [], (K, σ, n, e, s)) = (m_cl Z 145 [(1, x1), (0, (σ ((q_rf K r0 7)) 0))] (K, σ, n, e, s)).bind (m_aft (m_run Z) 129 44 [(2, ((r0 : Nat) : Int)), (1, x1), l2] []) := by
  refine g_lload_n (k := 1) (x := x1) (by decide +kernel : decode (m_byt 129) 36 = .ok (.lload_n 1, 1)) rfl ?_
  refine g_aload_n (k := 0) (v := (2, ((r0 : Nat) : Int))) (by decide +kernel : decode (m_byt 129) 37 = .ok (.aload_n 0, 1)) rfl (Or.inl rfl) ?_
  refine g_getr (ci := 6) (f := 7) (by decide +kernel : decode (m_byt 129) 38 = .ok (.getfield 49, 3)) (by decide +kernel) (by decide +kernel) (by decide +kernel) h0 h1 ?_
  refine g_getf (ci := 4) (f := 0) (by decide +kernel : decode (m_byt 129) 41 = .ok (.getfield 246, 3)) (by decide +kernel) (by decide +kernel) (by decide +kernel) h2 ?_
  exact g_inv (k := 0) (m' := 145) (np := 2) (as := [(1, x1), (0, (σ ((q_rf K r0 7)) 0))]) (by decide +kernel : decode (m_byt 129) 44 = .ok (.invokestatic 286, 3)) (Or.inr (Or.inr ⟨rfl, rfl, by decide, by decide⟩)) (by decide +kernel) (by decide +kernel) (by decide +kernel) (Nat.le_of_ble_eq_true rfl) rfl (Or.inl rfl)
theorem b_129_47 {Z : mZ} {l1 l2 : mV} {s0 : Int} {r0 : Nat} {K : Nat → mK} {σ : Nat → Nat → Int} {n e s : Nat} (h0 : q_ob K n r0 6) : m_run Z (129, 47, [(2, ((r0 : Nat) : Int)), l1, l2], [(1, s0)], (K, σ, n, e, s)) = (m_cl Z 145 [(1, s0), (0, (σ r0 3))] (K, σ, n, e, s)).bind (m_aft (m_run Z) 129 53 [(2, ((r0 : Nat) : Int)), (1, s0), (9, 0)] []) := by
  refine g_lstore_n (k := 1) (by decide +kernel : decode (m_byt 129) 47 = .ok (.lstore_n 1, 1)) (Nat.le_of_ble_eq_true rfl) ?_
  show m_run Z (129, 48, [(2, ((r0 : Nat) : Int)), (1, s0), (9, 0)], [], (K, σ, n, e, s)) = _
  refine g_lload_n (k := 1) (x := s0) (by decide +kernel : decode (m_byt 129) 48 = .ok (.lload_n 1, 1)) rfl ?_
  refine g_aload_n (k := 0) (v := (2, ((r0 : Nat) : Int))) (by decide +kernel : decode (m_byt 129) 49 = .ok (.aload_n 0, 1)) rfl (Or.inl rfl) ?_
  refine g_getf (ci := 6) (f := 3) (by decide +kernel : decode (m_byt 129) 50 = .ok (.getfield 270, 3)) (by decide +kernel) (by decide +kernel) (by decide +kernel) h0 ?_
  exact g_inv (k := 0) (m' := 145) (np := 2) (as := [(1, s0), (0, (σ r0 3))]) (by decide +kernel : decode (m_byt 129) 53 = .ok (.invokestatic 286, 3)) (Or.inr (Or.inr ⟨rfl, rfl, by decide, by decide⟩)) (by decide +kernel) (by decide +kernel) (by decide +kernel) (Nat.le_of_ble_eq_true rfl) rfl (Or.inl rfl)
theorem b_129_56 {Z : mZ} {l0 l1 l2 : mV} {s0 : Int} {h : mH} : m_run Z (129, 56, [l0, l1, l2], [(1, s0)], h) = some (.inl (1, s0), h) := by
  exact g_lret (by decide +kernel : decode (m_byt 129) 56 = .ok (.lreturn, 1)) (by decide +kernel)
theorem e_133 {Z : mZ} {x0 : Int} {h : mH} : m_cl Z 133 [(0, x0)] h = m_run Z (133, 0, [(0, x0)], [], h) := g_ent (k := 1) (by decide) (by decide +kernel) (Nat.le_of_ble_eq_true rfl) (by decide +kernel) rfl
theorem b_133_0 {Z : mZ} {x0 : Int} {h : mH} : m_run Z (133, 0, [(0, x0)], [], h) = if w32 x0 = w32 1 then m_run Z (133, 9, [(0, x0)], [], h) else m_run Z (133, 5, [(0, x0)], [], h) := by
  refine g_iload_n (k := 0) (x := x0) (by decide +kernel : decode (m_byt 133) 0 = .ok (.iload_n 0, 1)) rfl ?_
  refine g_base (by decide +kernel : decode (m_byt 133) 1 = .ok (.iconst 1, 1)) rfl rfl ?_
  show m_run Z (133, 2, [(0, x0)], [(0, 1), (0, x0)], h) = _
  exact g_brq (t := 9) (off := 7) (by decide +kernel : decode (m_byt 133) 2 = .ok (.if_icmp .eq 7, 3)) rfl rfl (by decide)
theorem b_133_5 {Z : mZ} {l0 : mV} {h : mH} : m_run Z (133, 5, [l0], [], h) = (m_cl Z 1000 [(0, 1)] h).bind (m_aft (m_run Z) 133 10 [l0] []) := by
  refine g_base (by decide +kernel : decode (m_byt 133) 5 = .ok (.iconst 1, 1)) rfl rfl ?_
  show m_run Z (133, 6, [l0], [(0, 1)], h) = _
  refine g_jmp (t := 10) (by decide +kernel : decode (m_byt 133) 6 = .ok (.goto 4, 3)) (by decide) ?_
  exact g_inv (k := 0) (m' := 1000) (np := 1) (as := [(0, 1)]) (by decide +kernel : decode (m_byt 133) 10 = .ok (.invokestatic 82, 3)) (Or.inr (Or.inr ⟨rfl, rfl, by decide, by decide⟩)) (by decide +kernel) (by decide +kernel) (by decide +kernel) (Nat.le_of_ble_eq_true rfl) rfl (Or.inl rfl)
theorem b_133_9 {Z : mZ} {l0 : mV} {h : mH} : m_run Z (133, 9, [l0], [], h) = m_run Z (133, 10, [l0], [(0, 0)], h) := by
  refine g_base (by decide +kernel : decode (m_byt 133) 9 = .ok (.iconst 0, 1)) rfl rfl ?_
  show m_run Z (133, 10, [l0], [(0, 0)], h) = _
  rfl
theorem b_133_10 {Z : mZ} {l0 : mV} {s0 : Int} {h : mH} : m_run Z (133, 10, [l0], [(0, s0)], h) = (m_cl Z 1000 [(0, s0)] h).bind (m_aft (m_run Z) 133 10 [l0] []) := by
  exact g_inv (k := 0) (m' := 1000) (np := 1) (as := [(0, s0)]) (by decide +kernel : decode (m_byt 133) 10 = .ok (.invokestatic 82, 3)) (Or.inr (Or.inr ⟨rfl, rfl, by decide, by decide⟩)) (by decide +kernel) (by decide +kernel) (by decide +kernel) (Nat.le_of_ble_eq_true rfl) rfl (Or.inl rfl)
theorem b_133_13 {Z : mZ} {x0 : Int} {h : mH} : m_run Z (133, 13, [(0, x0)], [], h) = if w32 x0 = w32 2 then m_run Z (133, 22, [(0, x0)], [], h) else m_run Z (133, 18, [(0, x0)], [], h) := by
  refine g_iload_n (k := 0) (x := x0) (by decide +kernel : decode (m_byt 133) 13 = .ok (.iload_n 0, 1)) rfl ?_
  refine g_base (by decide +kernel : decode (m_byt 133) 14 = .ok (.iconst 2, 1)) rfl rfl ?_
  show m_run Z (133, 15, [(0, x0)], [(0, 2), (0, x0)], h) = _
  exact g_brq (t := 22) (off := 7) (by decide +kernel : decode (m_byt 133) 15 = .ok (.if_icmp .eq 7, 3)) rfl rfl (by decide)
theorem b_133_18 {Z : mZ} {l0 : mV} {h : mH} : m_run Z (133, 18, [l0], [], h) = (m_cl Z 1001 [(0, 1)] h).bind (m_aft (m_run Z) 133 23 [l0] []) := by
  refine g_base (by decide +kernel : decode (m_byt 133) 18 = .ok (.iconst 1, 1)) rfl rfl ?_
  show m_run Z (133, 19, [l0], [(0, 1)], h) = _
  refine g_jmp (t := 23) (by decide +kernel : decode (m_byt 133) 19 = .ok (.goto 4, 3)) (by decide) ?_
  exact g_inv (k := 0) (m' := 1001) (np := 1) (as := [(0, 1)]) (by decide +kernel : decode (m_byt 133) 23 = .ok (.invokestatic 53, 3)) (Or.inr (Or.inr ⟨rfl, rfl, by decide, by decide⟩)) (by decide +kernel) (by decide +kernel) (by decide +kernel) (Nat.le_of_ble_eq_true rfl) rfl (Or.inl rfl)
theorem b_133_22 {Z : mZ} {l0 : mV} {h : mH} : m_run Z (133, 22, [l0], [], h) = m_run Z (133, 23, [l0], [(0, 0)], h) := by
  refine g_base (by decide +kernel : decode (m_byt 133) 22 = .ok (.iconst 0, 1)) rfl rfl ?_
  show m_run Z (133, 23, [l0], [(0, 0)], h) = _
  rfl
theorem b_133_23 {Z : mZ} {l0 : mV} {s0 : Int} {h : mH} : m_run Z (133, 23, [l0], [(0, s0)], h) = (m_cl Z 1001 [(0, s0)] h).bind (m_aft (m_run Z) 133 23 [l0] []) := by
  exact g_inv (k := 0) (m' := 1001) (np := 1) (as := [(0, s0)]) (by decide +kernel : decode (m_byt 133) 23 = .ok (.invokestatic 53, 3)) (Or.inr (Or.inr ⟨rfl, rfl, by decide, by decide⟩)) (by decide +kernel) (by decide +kernel) (by decide +kernel) (Nat.le_of_ble_eq_true rfl) rfl (Or.inl rfl)
theorem b_133_26 {Z : mZ} {x0 : Int} {h : mH} : m_run Z (133, 26, [(0, x0)], [], h) = if w32 x0 = w32 3 then m_run Z (133, 35, [(0, x0)], [], h) else m_run Z (133, 31, [(0, x0)], [], h) := by
  refine g_iload_n (k := 0) (x := x0) (by decide +kernel : decode (m_byt 133) 26 = .ok (.iload_n 0, 1)) rfl ?_
  refine g_base (by decide +kernel : decode (m_byt 133) 27 = .ok (.iconst 3, 1)) rfl rfl ?_
  show m_run Z (133, 28, [(0, x0)], [(0, 3), (0, x0)], h) = _
  exact g_brq (t := 35) (off := 7) (by decide +kernel : decode (m_byt 133) 28 = .ok (.if_icmp .eq 7, 3)) rfl rfl (by decide)
theorem b_133_31 {Z : mZ} {l0 : mV} {h : mH} : m_run Z (133, 31, [l0], [], h) = (m_cl Z 1002 [(0, 1)] h).bind (m_aft (m_run Z) 133 36 [l0] []) := by
  refine g_base (by decide +kernel : decode (m_byt 133) 31 = .ok (.iconst 1, 1)) rfl rfl ?_
  show m_run Z (133, 32, [l0], [(0, 1)], h) = _
  refine g_jmp (t := 36) (by decide +kernel : decode (m_byt 133) 32 = .ok (.goto 4, 3)) (by decide) ?_
  exact g_inv (k := 0) (m' := 1002) (np := 1) (as := [(0, 1)]) (by decide +kernel : decode (m_byt 133) 36 = .ok (.invokestatic 168, 3)) (Or.inr (Or.inr ⟨rfl, rfl, by decide, by decide⟩)) (by decide +kernel) (by decide +kernel) (by decide +kernel) (Nat.le_of_ble_eq_true rfl) rfl (Or.inl rfl)
theorem b_133_35 {Z : mZ} {l0 : mV} {h : mH} : m_run Z (133, 35, [l0], [], h) = m_run Z (133, 36, [l0], [(0, 0)], h) := by
  refine g_base (by decide +kernel : decode (m_byt 133) 35 = .ok (.iconst 0, 1)) rfl rfl ?_
  show m_run Z (133, 36, [l0], [(0, 0)], h) = _
  rfl
theorem b_133_36 {Z : mZ} {l0 : mV} {s0 : Int} {h : mH} : m_run Z (133, 36, [l0], [(0, s0)], h) = (m_cl Z 1002 [(0, s0)] h).bind (m_aft (m_run Z) 133 36 [l0] []) := by
  exact g_inv (k := 0) (m' := 1002) (np := 1) (as := [(0, s0)]) (by decide +kernel : decode (m_byt 133) 36 = .ok (.invokestatic 168, 3)) (Or.inr (Or.inr ⟨rfl, rfl, by decide, by decide⟩)) (by decide +kernel) (by decide +kernel) (by decide +kernel) (Nat.le_of_ble_eq_true rfl) rfl (Or.inl rfl)
theorem b_133_39 {Z : mZ} {l0 : mV} {h : mH} : m_run Z (133, 39, [l0], [], h) = some (.inl (9, 0), h) := by
  exact g_vret (by decide +kernel : decode (m_byt 133) 39 = .ok (.return_, 1)) (by decide +kernel)
theorem e_134 {Z : mZ} {x0 : Int} {h : mH} : m_cl Z 134 [(0, x0)] h = m_run Z (134, 0, [(0, x0)], [], h) := g_ent (k := 1) (by decide) (by decide +kernel) (Nat.le_of_ble_eq_true rfl) (by decide +kernel) rfl
theorem b_134_0 {Z : mZ} {x0 : Int} {h : mH} : m_run Z (134, 0, [(0, x0)], [], h) = if w32 x0 = 0 then m_run Z (134, 9, [(0, x0)], [], h) else m_run Z (134, 4, [(0, x0)], [], h) := by
  refine g_iload_n (k := 0) (x := x0) (by decide +kernel : decode (m_byt 134) 0 = .ok (.iload_n 0, 1)) rfl ?_
  exact g_brq (t := 9) (off := 8) (by decide +kernel : decode (m_byt 134) 1 = .ok (.ifCond .eq 8, 3)) rfl rfl (by decide)
theorem b_134_4 {Z : mZ} {x0 : Int} {h : mH} : m_run Z (134, 4, [(0, x0)], [], h) = if w32 x0 = w32 1 then m_run Z (134, 9, [(0, x0)], [], h) else m_run Z (134, 13, [(0, x0)], [], h) := by
  refine g_iload_n (k := 0) (x := x0) (by decide +kernel : decode (m_byt 134) 4 = .ok (.iload_n 0, 1)) rfl ?_
  refine g_base (by decide +kernel : decode (m_byt 134) 5 = .ok (.iconst 1, 1)) rfl rfl ?_
  show m_run Z (134, 6, [(0, x0)], [(0, 1), (0, x0)], h) = _
  exact g_brn (t := 13) (off := 7) (by decide +kernel : decode (m_byt 134) 6 = .ok (.if_icmp .ne 7, 3)) rfl rfl (by decide)
theorem b_134_9 {Z : mZ} {l0 : mV} {h : mH} : m_run Z (134, 9, [l0], [], h) = some (.inl (0, 1), h) := by
  refine g_base (by decide +kernel : decode (m_byt 134) 9 = .ok (.iconst 1, 1)) rfl rfl ?_
  show m_run Z (134, 10, [l0], [(0, 1)], h) = _
  refine g_jmp (t := 14) (by decide +kernel : decode (m_byt 134) 10 = .ok (.goto 4, 3)) (by decide) ?_
  exact g_zret (by decide +kernel : decode (m_byt 134) 14 = .ok (.ireturn, 1)) (by decide +kernel) (by decide)
theorem b_134_13 {Z : mZ} {l0 : mV} {h : mH} : m_run Z (134, 13, [l0], [], h) = m_run Z (134, 14, [l0], [(0, 0)], h) := by
  refine g_base (by decide +kernel : decode (m_byt 134) 13 = .ok (.iconst 0, 1)) rfl rfl ?_
  show m_run Z (134, 14, [l0], [(0, 0)], h) = _
  rfl
theorem b_134_14 {Z : mZ} {l0 : mV} {s0 : Int} {h : mH} (h0 : w32 s0 = 0 ∨ w32 s0 = 1) : m_run Z (134, 14, [l0], [(0, s0)], h) = some (.inl (0, s0), h) := by
  exact g_zret (by decide +kernel : decode (m_byt 134) 14 = .ok (.ireturn, 1)) (by decide +kernel) h0
theorem e_135 {Z : mZ} {x0 : Int} {x1 : Int} {x2 : Int} {h : mH} : m_cl Z 135 [(0, x0), (0, x1), (0, x2)] h = m_run Z (135, 0, [(0, x0), (0, x1), (0, x2), (9, 0), (9, 0)], [], h) := g_ent (k := 5) (by decide) (by decide +kernel) (Nat.le_of_ble_eq_true rfl) (by decide +kernel) rfl
theorem b_135_0 {Z : mZ} {l2 l3 l4 : mV} {x0 x1 : Int} {h : mH} : m_run Z (135, 0, [(0, x0), (0, x1), l2, l3, l4], [], h) = (m_cl Z 136 [(0, x0), (0, x1)] h).bind (m_aft (m_run Z) 135 2 [(0, x0), (0, x1), l2, l3, l4] []) := by
  refine g_iload_n (k := 0) (x := x0) (by decide +kernel : decode (m_byt 135) 0 = .ok (.iload_n 0, 1)) rfl ?_
  refine g_iload_n (k := 1) (x := x1) (by decide +kernel : decode (m_byt 135) 1 = .ok (.iload_n 1, 1)) rfl ?_
  exact g_inv (k := 0) (m' := 136) (np := 2) (as := [(0, x0), (0, x1)]) (by decide +kernel : decode (m_byt 135) 2 = .ok (.invokestatic 307, 3)) (Or.inr (Or.inr ⟨rfl, rfl, by decide, by decide⟩)) (by decide +kernel) (by decide +kernel) (by decide +kernel) (Nat.le_of_ble_eq_true rfl) rfl (Or.inl rfl)
theorem b_135_5 {Z : mZ} {l0 l1 l3 l4 : mV} {s0 x2 : Int} {h : mH} : m_run Z (135, 5, [l0, l1, (0, x2), l3, l4], [(0, s0)], h) = if w32 x2 = 0 then m_run Z (135, 10, [l0, l1, (0, x2), (0, s0), l4], [], h) else m_run Z (135, 14, [l0, l1, (0, x2), (0, s0), l4], [], h) := by
  refine g_istore_n (k := 3) (by decide +kernel : decode (m_byt 135) 5 = .ok (.istore_n 3, 1)) (Nat.le_of_ble_eq_true rfl) ?_
  show m_run Z (135, 6, [l0, l1, (0, x2), (0, s0), l4], [], h) = _
  refine g_iload_n (k := 2) (x := x2) (by decide +kernel : decode (m_byt 135) 6 = .ok (.iload_n 2, 1)) rfl ?_
  exact g_brn (t := 14) (off := 7) (by decide +kernel : decode (m_byt 135) 7 = .ok (.ifCond .ne 7, 3)) rfl rfl (by decide)
theorem b_135_10 {Z : mZ} {l1 l2 l4 : mV} {x0 x3 : Int} {h : mH} : m_run Z (135, 10, [(0, x0), l1, l2, (0, x3), l4], [], h) = if w32 x3 ≤ w32 1 then m_run Z (135, 29, [(0, x0), l1, l2, (0, x3), (0, x0)], [], h) else m_run Z (135, 22, [(0, x0), l1, l2, (0, x3), (0, x0)], [], h) := by
  refine g_iload_n (k := 0) (x := x0) (by decide +kernel : decode (m_byt 135) 10 = .ok (.iload_n 0, 1)) rfl ?_
  refine g_jmp (t := 15) (by decide +kernel : decode (m_byt 135) 11 = .ok (.goto 4, 3)) (by decide) ?_
  refine g_istore (k := 4) (by decide +kernel : decode (m_byt 135) 15 = .ok (.istore 4, 2)) (Nat.le_of_ble_eq_true rfl) ?_
  show m_run Z (135, 17, [(0, x0), l1, l2, (0, x3), (0, x0)], [], h) = _
  refine g_iload_n (k := 3) (x := x3) (by decide +kernel : decode (m_byt 135) 17 = .ok (.iload_n 3, 1)) rfl ?_
  refine g_base (by decide +kernel : decode (m_byt 135) 18 = .ok (.iconst 1, 1)) rfl rfl ?_
  show m_run Z (135, 19, [(0, x0), l1, l2, (0, x3), (0, x0)], [(0, 1), (0, x3)], h) = _
  exact g_brq (t := 29) (off := 10) (by decide +kernel : decode (m_byt 135) 19 = .ok (.if_icmp .le 10, 3)) rfl rfl (by decide)
theorem b_135_14 {Z : mZ} {l0 l2 l3 l4 : mV} {x1 : Int} {h : mH} : m_run Z (135, 14, [l0, (0, x1), l2, l3, l4], [], h) = m_run Z (135, 15, [l0, (0, x1), l2, l3, l4], [(0, x1)], h) := by
  refine g_iload_n (k := 1) (x := x1) (by decide +kernel : decode (m_byt 135) 14 = .ok (.iload_n 1, 1)) rfl ?_
  rfl
theorem b_135_15 {Z : mZ} {l0 l1 l2 l4 : mV} {s0 x3 : Int} {h : mH} : m_run Z (135, 15, [l0, l1, l2, (0, x3), l4], [(0, s0)], h) = if w32 x3 ≤ w32 1 then m_run Z (135, 29, [l0, l1, l2, (0, x3), (0, s0)], [], h) else m_run Z (135, 22, [l0, l1, l2, (0, x3), (0, s0)], [], h) := by
  refine g_istore (k := 4) (by decide +kernel : decode (m_byt 135) 15 = .ok (.istore 4, 2)) (Nat.le_of_ble_eq_true rfl) ?_
  show m_run Z (135, 17, [l0, l1, l2, (0, x3), (0, s0)], [], h) = _
  refine g_iload_n (k := 3) (x := x3) (by decide +kernel : decode (m_byt 135) 17 = .ok (.iload_n 3, 1)) rfl ?_
  refine g_base (by decide +kernel : decode (m_byt 135) 18 = .ok (.iconst 1, 1)) rfl rfl ?_
  show m_run Z (135, 19, [l0, l1, l2, (0, x3), (0, s0)], [(0, 1), (0, x3)], h) = _
  exact g_brq (t := 29) (off := 10) (by decide +kernel : decode (m_byt 135) 19 = .ok (.if_icmp .le 10, 3)) rfl rfl (by decide)
theorem b_135_22 {Z : mZ} {l0 l1 l2 : mV} {x4 x3 : Int} {h : mH} (h0 : ¬ w32 x3 = 0) : m_run Z (135, 22, [l0, l1, l2, (0, x3), (0, x4)], [], h) = some (.inl (0, ((w32 x4).tdiv (w32 x3))), h) := by
  refine g_iload (k := 4) (x := x4) (by decide +kernel : decode (m_byt 135) 22 = .ok (.iload 4, 2)) rfl ?_
  refine g_iload_n (k := 3) (x := x3) (by decide +kernel : decode (m_byt 135) 24 = .ok (.iload_n 3, 1)) rfl ?_
  refine g_div (by decide +kernel : decode (m_byt 135) 25 = .ok (.idiv, 1)) h0 ?_
  show m_run Z (135, 26, [l0, l1, l2, (0, x3), (0, x4)], [(0, ((w32 x4).tdiv (w32 x3)))], h) = _
  refine g_jmp (t := 31) (by decide +kernel : decode (m_byt 135) 26 = .ok (.goto 5, 3)) (by decide) ?_
  exact g_iret (by decide +kernel : decode (m_byt 135) 31 = .ok (.ireturn, 1)) (by decide +kernel)
theorem b_135_29 {Z : mZ} {l0 l1 l2 l3 : mV} {x4 : Int} {h : mH} : m_run Z (135, 29, [l0, l1, l2, l3, (0, x4)], [], h) = m_run Z (135, 31, [l0, l1, l2, l3, (0, x4)], [(0, x4)], h) := by
  refine g_iload (k := 4) (x := x4) (by decide +kernel : decode (m_byt 135) 29 = .ok (.iload 4, 2)) rfl ?_
  rfl
theorem b_135_31 {Z : mZ} {l0 l1 l2 l3 l4 : mV} {s0 : Int} {h : mH} : m_run Z (135, 31, [l0, l1, l2, l3, l4], [(0, s0)], h) = some (.inl (0, s0), h) := by
  exact g_iret (by decide +kernel : decode (m_byt 135) 31 = .ok (.ireturn, 1)) (by decide +kernel)
theorem e_136 {Z : mZ} {x0 : Int} {x1 : Int} {h : mH} : m_cl Z 136 [(0, x0), (0, x1)] h = m_run Z (136, 0, [(0, x0), (0, x1), (9, 0), (9, 0), (9, 0), (9, 0)], [], h) := g_ent (k := 6) (by decide) (by decide +kernel) (Nat.le_of_ble_eq_true rfl) (by decide +kernel) rfl
theorem b_136_0 {Z : mZ} {l2 l3 l4 l5 : mV} {x0 x1 : Int} {h : mH} : m_run Z (136, 0, [(0, x0), (0, x1), l2, l3, l4, l5], [], h) = m_run Z (136, 7, [(0, x0), (0, x1), (0, x0), (0, x1), (0, 0), l5], [], h) := by
  refine g_iload_n (k := 0) (x := x0) (by decide +kernel : decode (m_byt 136) 0 = .ok (.iload_n 0, 1)) rfl ?_
  refine g_istore_n (k := 2) (by decide +kernel : decode (m_byt 136) 1 = .ok (.istore_n 2, 1)) (Nat.le_of_ble_eq_true rfl) ?_
  show m_run Z (136, 2, [(0, x0), (0, x1), (0, x0), l3, l4, l5], [], h) = _
  refine g_iload_n (k := 1) (x := x1) (by decide +kernel : decode (m_byt 136) 2 = .ok (.iload_n 1, 1)) rfl ?_
  refine g_istore_n (k := 3) (by decide +kernel : decode (m_byt 136) 3 = .ok (.istore_n 3, 1)) (Nat.le_of_ble_eq_true rfl) ?_
  show m_run Z (136, 4, [(0, x0), (0, x1), (0, x0), (0, x1), l4, l5], [], h) = _
  refine g_base (by decide +kernel : decode (m_byt 136) 4 = .ok (.iconst 0, 1)) rfl rfl ?_
  show m_run Z (136, 5, [(0, x0), (0, x1), (0, x0), (0, x1), l4, l5], [(0, 0)], h) = _
  refine g_istore (k := 4) (by decide +kernel : decode (m_byt 136) 5 = .ok (.istore 4, 2)) (Nat.le_of_ble_eq_true rfl) ?_
  show m_run Z (136, 7, [(0, x0), (0, x1), (0, x0), (0, x1), (0, 0), l5], [], h) = _
  rfl
theorem b_136_7 {Z : mZ} {l0 l1 l2 l3 l5 : mV} {x4 : Int} {h : mH} : m_run Z (136, 7, [l0, l1, l2, l3, (0, x4), l5], [], h) = if w32 50 ≤ w32 x4 then m_run Z (136, 34, [l0, l1, l2, l3, (0, x4), l5], [], h) else m_run Z (136, 14, [l0, l1, l2, l3, (0, x4), l5], [], h) := by
  refine g_iload (k := 4) (x := x4) (by decide +kernel : decode (m_byt 136) 7 = .ok (.iload 4, 2)) rfl ?_
  refine g_base (by decide +kernel : decode (m_byt 136) 9 = .ok (.bipush 50, 2)) rfl rfl ?_
  show m_run Z (136, 11, [l0, l1, l2, l3, (0, x4), l5], [(0, 50), (0, x4)], h) = _
  exact g_brq (t := 34) (off := 23) (by decide +kernel : decode (m_byt 136) 11 = .ok (.if_icmp .ge 23, 3)) rfl rfl (by decide)
theorem b_136_14 {Z : mZ} {l0 l1 l2 l4 l5 : mV} {x3 : Int} {h : mH} : m_run Z (136, 14, [l0, l1, l2, (0, x3), l4, l5], [], h) = if w32 x3 ≤ 0 then m_run Z (136, 34, [l0, l1, l2, (0, x3), l4, l5], [], h) else m_run Z (136, 18, [l0, l1, l2, (0, x3), l4, l5], [], h) := by
  refine g_iload_n (k := 3) (x := x3) (by decide +kernel : decode (m_byt 136) 14 = .ok (.iload_n 3, 1)) rfl ?_
  exact g_brq (t := 34) (off := 19) (by decide +kernel : decode (m_byt 136) 15 = .ok (.ifCond .le 19, 3)) rfl rfl (by decide)
theorem b_136_18 {Z : mZ} {l0 l5 : mV} {x2 x3 x4 x1 : Int} {h : mH} (h0 : ¬ w32 x3 = 0) : m_run Z (136, 18, [l0, (0, x1), (0, x2), (0, x3), (0, x4), l5], [], h) = m_run Z (136, 7, [l0, (0, x1), (0, x3), (0, ((w32 x2).tmod (w32 x3))), (0, x4 + 1), (0, ((w32 x2).tmod (w32 x3)))], [], h) := by
  refine g_iload_n (k := 2) (x := x2) (by decide +kernel : decode (m_byt 136) 18 = .ok (.iload_n 2, 1)) rfl ?_
  refine g_iload_n (k := 3) (x := x3) (by decide +kernel : decode (m_byt 136) 19 = .ok (.iload_n 3, 1)) rfl ?_
  refine g_rem (by decide +kernel : decode (m_byt 136) 20 = .ok (.irem, 1)) h0 ?_
  show m_run Z (136, 21, [l0, (0, x1), (0, x2), (0, x3), (0, x4), l5], [(0, ((w32 x2).tmod (w32 x3)))], h) = _
  refine g_istore (k := 5) (by decide +kernel : decode (m_byt 136) 21 = .ok (.istore 5, 2)) (Nat.le_of_ble_eq_true rfl) ?_
  show m_run Z (136, 23, [l0, (0, x1), (0, x2), (0, x3), (0, x4), (0, ((w32 x2).tmod (w32 x3)))], [], h) = _
  refine g_iload_n (k := 3) (x := x3) (by decide +kernel : decode (m_byt 136) 23 = .ok (.iload_n 3, 1)) rfl ?_
  refine g_istore_n (k := 2) (by decide +kernel : decode (m_byt 136) 24 = .ok (.istore_n 2, 1)) (Nat.le_of_ble_eq_true rfl) ?_
  show m_run Z (136, 25, [l0, (0, x1), (0, x3), (0, x3), (0, x4), (0, ((w32 x2).tmod (w32 x3)))], [], h) = _
  refine g_iload (k := 5) (x := ((w32 x2).tmod (w32 x3))) (by decide +kernel : decode (m_byt 136) 25 = .ok (.iload 5, 2)) rfl ?_
  refine g_istore_n (k := 3) (by decide +kernel : decode (m_byt 136) 27 = .ok (.istore_n 3, 1)) (Nat.le_of_ble_eq_true rfl) ?_
  show m_run Z (136, 28, [l0, (0, x1), (0, x3), (0, ((w32 x2).tmod (w32 x3))), (0, x4), (0, ((w32 x2).tmod (w32 x3)))], [], h) = _
  refine g_iinc (k := 4) (x := x4) (by decide +kernel : decode (m_byt 136) 28 = .ok (.iinc 4 1, 3)) rfl (Nat.le_of_ble_eq_true rfl) ?_
  show m_run Z (136, 31, [l0, (0, x1), (0, x3), (0, ((w32 x2).tmod (w32 x3))), (0, x4 + 1), (0, ((w32 x2).tmod (w32 x3)))], [], h) = _
  refine g_jmp (t := 7) (by decide +kernel : decode (m_byt 136) 31 = .ok (.goto (-24), 3)) (by decide) ?_
  rfl
theorem b_136_34 {Z : mZ} {l0 l1 l3 l4 l5 : mV} {x2 : Int} {h : mH} : m_run Z (136, 34, [l0, l1, (0, x2), l3, l4, l5], [], h) = some (.inl (0, x2), h) := by
  refine g_iload_n (k := 2) (x := x2) (by decide +kernel : decode (m_byt 136) 34 = .ok (.iload_n 2, 1)) rfl ?_
  exact g_iret (by decide +kernel : decode (m_byt 136) 35 = .ok (.ireturn, 1)) (by decide +kernel)
theorem e_137 {Z : mZ} {r0 : Nat} {x1 : Int} {h : mH} : m_cl Z 137 [(2, ((r0 : Nat) : Int)), (0, x1)] h = m_run Z (137, 0, [(2, ((r0 : Nat) : Int)), (0, x1)], [], h) := g_ent (k := 2) (by decide) (by decide +kernel) (Nat.le_of_ble_eq_true rfl) (by decide +kernel) rfl
theorem b_137_0 {Z : mZ} {l0 : mV} {x1 : Int} {h : mH} : m_run Z (137, 0, [l0, (0, x1)], [], h) = if w32 x1 < 0 then m_run Z (137, 22, [l0, (0, x1)], [], h) else m_run Z (137, 4, [l0, (0, x1)], [], h) := by
  refine g_iload_n (k := 1) (x := x1) (by decide +kernel : decode (m_byt 137) 0 = .ok (.iload_n 1, 1)) rfl ?_
  exact g_brq (t := 22) (off := 21) (by decide +kernel : decode (m_byt 137) 1 = .ok (.ifCond .lt 21, 3)) rfl rfl (by decide)
theorem b_137_4 {Z : mZ} {x1 : Int} {r0 : Nat} {K : Nat → mK} {σ : Nat → Nat → Int} {n e s : Nat} (h0 : q_ob K n r0 6) (h1 : q_rp K r0 2) (h2 : q_al K n (q_rf K r0 2)) : m_run Z (137, 4, [(2, ((r0 : Nat) : Int)), (0, x1)], [], (K, σ, n, e, s)) = if w32 (q_ln K (q_rf K r0 2) : Int) ≤ w32 x1 then m_run Z (137, 22, [(2, ((r0 : Nat) : Int)), (0, x1)], [], (K, σ, n, e, s)) else m_run Z (137, 13, [(2, ((r0 : Nat) : Int)), (0, x1)], [], (K, σ, n, e, s)) := by
  refine g_iload_n (k := 1) (x := x1) (by decide +kernel : decode (m_byt 137) 4 = .ok (.iload_n 1, 1)) rfl ?_
  refine g_aload_n (k := 0) (v := (2, ((r0 : Nat) : Int))) (by decide +kernel : decode (m_byt 137) 5 = .ok (.aload_n 0, 1)) rfl (Or.inl rfl) ?_
  refine g_getr (ci := 6) (f := 2) (by decide +kernel : decode (m_byt 137) 6 = .ok (.getfield 19, 3)) (by decide +kernel) (by decide +kernel) (by decide +kernel) h0 h1 ?_
  refine g_alen (by decide +kernel : decode (m_byt 137) 9 = .ok (.arraylength, 1)) h2 ?_
  exact g_brq (t := 22) (off := 12) (by decide +kernel : decode (m_byt 137) 10 = .ok (.if_icmp .ge 12, 3)) rfl rfl (by decide)
theorem b_137_13 {Z : mZ} {x1 : Int} {r0 : Nat} {K : Nat → mK} {σ : Nat → Nat → Int} {n e s : Nat} (h0 : q_ob K n r0 6) (h1 : q_rp K r0 2) (h2 : 0 ≤ w32 x1) (h3 : w32 x1 < (q_ln K (q_rf K r0 2) : Int)) (h4 : q_ak K n (q_rf K r0 2) 4) (h5 : q_rp K (q_rf K r0 2) (w32 x1).toNat) : m_run Z (137, 13, [(2, ((r0 : Nat) : Int)), (0, x1)], [], (K, σ, n, e, s)) = some (.inl (2, ((q_rf K (q_rf K r0 2) (w32 x1).toNat : Nat) : Int)), (K, σ, n, e, s)) := by
  refine g_aload_n (k := 0) (v := (2, ((r0 : Nat) : Int))) (by decide +kernel : decode (m_byt 137) 13 = .ok (.aload_n 0, 1)) rfl (Or.inl rfl) ?_
  refine g_getr (ci := 6) (f := 2) (by decide +kernel : decode (m_byt 137) 14 = .ok (.getfield 19, 3)) (by decide +kernel) (by decide +kernel) (by decide +kernel) h0 h1 ?_
  refine g_iload_n (k := 1) (x := x1) (by decide +kernel : decode (m_byt 137) 17 = .ok (.iload_n 1, 1)) rfl ?_
  refine g_aald (by decide +kernel : decode (m_byt 137) 18 = .ok (.aaload, 1)) h4 h2 h3 h5 ?_
  refine g_jmp (t := 23) (by decide +kernel : decode (m_byt 137) 19 = .ok (.goto 4, 3)) (by decide) ?_
  exact g_aret (t := 2) (by decide +kernel) (by decide +kernel : decode (m_byt 137) 23 = .ok (.areturn, 1))
theorem b_137_22 {Z : mZ} {l0 l1 : mV} {h : mH} : m_run Z (137, 22, [l0, l1], [], h) = m_run Z (137, 23, [l0, l1], [(2, (-1))], h) := by
  refine g_base (by decide +kernel : decode (m_byt 137) 22 = .ok (.aconst_null, 1)) rfl rfl ?_
  show m_run Z (137, 23, [l0, l1], [(2, (-1))], h) = _
  rfl
theorem b_137_23 {Z : mZ} {l0 l1 : mV} {s0 : Nat} {h : mH} : m_run Z (137, 23, [l0, l1], [(2, ((s0 : Nat) : Int))], h) = some (.inl (2, ((s0 : Nat) : Int)), h) := by
  exact g_aret (t := 2) (by decide +kernel) (by decide +kernel : decode (m_byt 137) 23 = .ok (.areturn, 1))
theorem e_138 {Z : mZ} {r0 : Nat} {h : mH} : m_cl Z 138 [(2, ((r0 : Nat) : Int))] h = m_run Z (138, 0, [(2, ((r0 : Nat) : Int)), (9, 0)], [], h) := g_ent (k := 2) (by decide) (by decide +kernel) (Nat.le_of_ble_eq_true rfl) (by decide +kernel) rfl
theorem b_138_0 {Z : mZ} {l1 : mV} {r0 : Nat} {K : Nat → mK} {σ : Nat → Nat → Int} {n e s : Nat} (h0 : q_ob K n r0 6) : m_run Z (138, 0, [(2, ((r0 : Nat) : Int)), l1], [], (K, σ, n, e, s)) = if w32 (σ r0 3) = w32 6 then m_run Z (138, 9, [(2, ((r0 : Nat) : Int)), l1], [], (K, σ, n, e, s)) else m_run Z (138, 13, [(2, ((r0 : Nat) : Int)), l1], [], (K, σ, n, e, s)) := by
  refine g_aload_n (k := 0) (v := (2, ((r0 : Nat) : Int))) (by decide +kernel : decode (m_byt 138) 0 = .ok (.aload_n 0, 1)) rfl (Or.inl rfl) ?_
  refine g_getf (ci := 6) (f := 3) (by decide +kernel : decode (m_byt 138) 1 = .ok (.getfield 270, 3)) (by decide +kernel) (by decide +kernel) (by decide +kernel) h0 ?_
  refine g_base (by decide +kernel : decode (m_byt 138) 4 = .ok (.bipush 6, 2)) rfl rfl ?_
  show m_run Z (138, 6, [(2, ((r0 : Nat) : Int)), l1], [(0, 6), (0, (σ r0 3))], (K, σ, n, e, s)) = _
  exact g_brn (t := 13) (off := 7) (by decide +kernel : decode (m_byt 138) 6 = .ok (.if_icmp .ne 7, 3)) rfl rfl (by decide)
theorem b_138_9 {Z : mZ} {l1 : mV} {r0 : Nat} {K : Nat → mK} {σ : Nat → Nat → Int} {n e s : Nat} (h0 : q_ob K n r0 6) : m_run Z (138, 9, [(2, ((r0 : Nat) : Int)), l1], [], (K, σ, n, e, s)) = (m_cl Z 139 [(2, ((r0 : Nat) : Int))] (K, σ, n, e, s)).bind (m_aft (m_run Z) 138 10 [(2, ((r0 : Nat) : Int)), l1] []) := by
  refine g_aload_n (k := 0) (v := (2, ((r0 : Nat) : Int))) (by decide +kernel : decode (m_byt 138) 9 = .ok (.aload_n 0, 1)) rfl (Or.inl rfl) ?_
  exact g_inv (k := 1) (m' := 139) (np := 0) (as := [(2, ((r0 : Nat) : Int))]) (by decide +kernel : decode (m_byt 138) 10 = .ok (.invokevirtual 310, 3)) (Or.inl ⟨rfl, rfl⟩) (by decide +kernel) (by decide +kernel) (by decide +kernel) (Nat.le_of_ble_eq_true rfl) rfl (Or.inr (g_rcv (by decide +kernel) h0))
theorem b_138_13 {Z : mZ} {l1 : mV} {r0 : Nat} {K : Nat → mK} {σ : Nat → Nat → Int} {n e s : Nat} (h0 : q_ob K n r0 6) : m_run Z (138, 13, [(2, ((r0 : Nat) : Int)), l1], [], (K, σ, n, e, s)) = (m_cl Z 137 [(2, ((r0 : Nat) : Int)), (0, (σ r0 3))] (K, σ, n, e, s)).bind (m_aft (m_run Z) 138 18 [(2, ((r0 : Nat) : Int)), l1] []) := by
  refine g_aload_n (k := 0) (v := (2, ((r0 : Nat) : Int))) (by decide +kernel : decode (m_byt 138) 13 = .ok (.aload_n 0, 1)) rfl (Or.inl rfl) ?_
  refine g_aload_n (k := 0) (v := (2, ((r0 : Nat) : Int))) (by decide +kernel : decode (m_byt 138) 14 = .ok (.aload_n 0, 1)) rfl (Or.inl rfl) ?_
  refine g_getf (ci := 6) (f := 3) (by decide +kernel : decode (m_byt 138) 15 = .ok (.getfield 270, 3)) (by decide +kernel) (by decide +kernel) (by decide +kernel) h0 ?_
  exact g_inv (k := 1) (m' := 137) (np := 1) (as := [(2, ((r0 : Nat) : Int)), (0, (σ r0 3))]) (by decide +kernel : decode (m_byt 138) 18 = .ok (.invokevirtual 273, 3)) (Or.inl ⟨rfl, rfl⟩) (by decide +kernel) (by decide +kernel) (by decide +kernel) (Nat.le_of_ble_eq_true rfl) rfl (Or.inr (g_rcv (by decide +kernel) h0))
theorem b_138_21 {Z : mZ} {l1 : mV} {s0 r0 : Nat} {h : mH} : m_run Z (138, 21, [(2, ((r0 : Nat) : Int)), l1], [(2, ((s0 : Nat) : Int))], h) = m_run Z (138, 26, [(2, ((r0 : Nat) : Int)), (2, ((s0 : Nat) : Int))], [], h) := by
  refine g_astore_n (k := 1) (t := 2) (by decide) (by decide +kernel : decode (m_byt 138) 21 = .ok (.astore_n 1, 1)) (Nat.le_of_ble_eq_true rfl) ?_
  show m_run Z (138, 22, [(2, ((r0 : Nat) : Int)), (2, ((s0 : Nat) : Int))], [], h) = _
  refine g_aload_n (k := 1) (v := (2, ((s0 : Nat) : Int))) (by decide +kernel : decode (m_byt 138) 22 = .ok (.aload_n 1, 1)) rfl (Or.inl rfl) ?_
  refine g_nul (r := s0) (by decide +kernel : decode (m_byt 138) 23 = .ok (.ifnull 21, 3)) ⟨44, by decide⟩ ?_
  rfl
theorem b_138_26 {Z : mZ} {r1 r0 : Nat} {K : Nat → mK} {σ : Nat → Nat → Int} {n e s : Nat} (h0 : q_ob K n r0 6) (h1 : q_rp K r0 0) (h2 : q_ob K n r1 1) : m_run Z (138, 26, [(2, ((r0 : Nat) : Int)), (2, ((r1 : Nat) : Int))], [], (K, σ, n, e, s)) = (m_cl Z 13 [(2, ((r1 : Nat) : Int)), (2, ((q_rf K r0 0 : Nat) : Int))] (K, σ, n, e, s)).bind (m_aft (m_run Z) 138 31 [(2, ((r0 : Nat) : Int)), (2, ((r1 : Nat) : Int))] []) := by
  refine g_aload_n (k := 1) (v := (2, ((r1 : Nat) : Int))) (by decide +kernel : decode (m_byt 138) 26 = .ok (.aload_n 1, 1)) rfl (Or.inl rfl) ?_
  refine g_aload_n (k := 0) (v := (2, ((r0 : Nat) : Int))) (by decide +kernel : decode (m_byt 138) 27 = .ok (.aload_n 0, 1)) rfl (Or.inl rfl) ?_
  refine g_getr (ci := 6) (f := 0) (by decide +kernel : decode (m_byt 138) 28 = .ok (.getfield 12, 3)) (by decide +kernel) (by decide +kernel) (by decide +kernel) h0 h1 ?_
  exact g_inv (k := 1) (m' := 13) (np := 1) (as := [(2, ((r1 : Nat) : Int)), (2, ((q_rf K r0 0 : Nat) : Int))]) (by decide +kernel : decode (m_byt 138) 31 = .ok (.invokevirtual 242, 3)) (Or.inl ⟨rfl, rfl⟩) (by decide +kernel) (by decide +kernel) (by decide +kernel) (Nat.le_of_ble_eq_true rfl) rfl (Or.inr (g_rcv (by decide +kernel) h2))
theorem b_138_34 {Z : mZ} {l1 : mV} {r0 : Nat} {K : Nat → mK} {σ : Nat → Nat → Int} {n e s : Nat} (h0 : q_ob K n r0 6) : m_run Z (138, 34, [(2, ((r0 : Nat) : Int)), l1], [], (K, σ, n, e, s)) = m_run Z (138, 44, [(2, ((r0 : Nat) : Int)), l1], [], (K, (m_up2 σ r0 3 ((σ r0 3) + 1)), n, e, s)) := by
  refine g_aload_n (k := 0) (v := (2, ((r0 : Nat) : Int))) (by decide +kernel : decode (m_byt 138) 34 = .ok (.aload_n 0, 1)) rfl (Or.inl rfl) ?_
  refine g_base (by decide +kernel : decode (m_byt 138) 35 = .ok (.dup, 1)) rfl rfl ?_
  show m_run Z (138, 36, [(2, ((r0 : Nat) : Int)), l1], [(2, ((r0 : Nat) : Int)), (2, ((r0 : Nat) : Int))], (K, σ, n, e, s)) = _
  refine g_getf (ci := 6) (f := 3) (by decide +kernel : decode (m_byt 138) 36 = .ok (.getfield 270, 3)) (by decide +kernel) (by decide +kernel) (by decide +kernel) h0 ?_
  refine g_base (by decide +kernel : decode (m_byt 138) 39 = .ok (.iconst 1, 1)) rfl rfl ?_
  show m_run Z (138, 40, [(2, ((r0 : Nat) : Int)), l1], [(0, 1), (0, (σ r0 3)), (2, ((r0 : Nat) : Int))], (K, σ, n, e, s)) = _
  refine g_base (by decide +kernel : decode (m_byt 138) 40 = .ok (.iadd, 1)) rfl rfl ?_
  show m_run Z (138, 41, [(2, ((r0 : Nat) : Int)), l1], [(0, ((σ r0 3) + 1)), (2, ((r0 : Nat) : Int))], (K, σ, n, e, s)) = _
  refine g_putf (ci := 6) (f := 3) (by decide +kernel : decode (m_byt 138) 41 = .ok (.putfield 270, 3)) (by decide +kernel) (by decide +kernel) (by decide +kernel) h0 ?_
  show m_run Z (138, 44, [(2, ((r0 : Nat) : Int)), l1], [], (K, (m_up2 σ r0 3 ((σ r0 3) + 1)), n, e, s)) = _
  rfl
theorem b_138_44 {Z : mZ} {l0 l1 : mV} {h : mH} : m_run Z (138, 44, [l0, l1], [], h) = some (.inl (9, 0), h) := by
  exact g_vret (by decide +kernel : decode (m_byt 138) 44 = .ok (.return_, 1)) (by decide +kernel)
theorem e_139 {Z : mZ} {r0 : Nat} {h : mH} : m_cl Z 139 [(2, ((r0 : Nat) : Int))] h = m_run Z (139, 0, [(2, ((r0 : Nat) : Int)), (9, 0), (9, 0), (9, 0)], [], h) := g_ent (k := 4) (by decide) (by decide +kernel) (Nat.le_of_ble_eq_true rfl) (by decide +kernel) rfl
theorem b_139_0 {Z : mZ} {l1 l2 l3 : mV} {r0 : Nat} {h : mH} : m_run Z (139, 0, [(2, ((r0 : Nat) : Int)), l1, l2, l3], [], h) = m_run Z (139, 2, [(2, ((r0 : Nat) : Int)), (0, 0), l2, l3], [], h) := by
  refine g_base (by decide +kernel : decode (m_byt 139) 0 = .ok (.iconst 0, 1)) rfl rfl ?_
  show m_run Z (139, 1, [(2, ((r0 : Nat) : Int)), l1, l2, l3], [(0, 0)], h) = _
  refine g_istore_n (k := 1) (by decide +kernel : decode (m_byt 139) 1 = .ok (.istore_n 1, 1)) (Nat.le_of_ble_eq_true rfl) ?_
  show m_run Z (139, 2, [(2, ((r0 : Nat) : Int)), (0, 0), l2, l3], [], h) = _
  rfl
theorem b_139_2 {Z : mZ} {l2 l3 : mV} {x1 : Int} {r0 : Nat} {K : Nat → mK} {σ : Nat → Nat → Int} {n e s : Nat} (h0 : q_ob K n r0 6) (h1 : q_rp K r0 2) (h2 : q_al K n (q_rf K r0 2)) : m_run Z (139, 2, [(2, ((r0 : Nat) : Int)), (0, x1), l2, l3], [], (K, σ, n, e, s)) = if w32 (q_ln K (q_rf K r0 2) : Int) ≤ w32 (x1 + 1) then m_run Z (139, 46, [(2, ((r0 : Nat) : Int)), (0, x1), l2, l3], [], (K, σ, n, e, s)) else m_run Z (139, 13, [(2, ((r0 : Nat) : Int)), (0, x1), l2, l3], [], (K, σ, n, e, s)) := by
  refine g_iload_n (k := 1) (x := x1) (by decide +kernel : decode (m_byt 139) 2 = .ok (.iload_n 1, 1)) rfl ?_
  refine g_base (by decide +kernel : decode (m_byt 139) 3 = .ok (.iconst 1, 1)) rfl rfl ?_
  show m_run Z (139, 4, [(2, ((r0 : Nat) : Int)), (0, x1), l2, l3], [(0, 1), (0, x1)], (K, σ, n, e, s)) = _
  refine g_base (by decide +kernel : decode (m_byt 139) 4 = .ok (.iadd, 1)) rfl rfl ?_
  show m_run Z (139, 5, [(2, ((r0 : Nat) : Int)), (0, x1), l2, l3], [(0, (x1 + 1))], (K, σ, n, e, s)) = _
  refine g_aload_n (k := 0) (v := (2, ((r0 : Nat) : Int))) (by decide +kernel : decode (m_byt 139) 5 = .ok (.aload_n 0, 1)) rfl (Or.inl rfl) ?_
  refine g_getr (ci := 6) (f := 2) (by decide +kernel : decode (m_byt 139) 6 = .ok (.getfield 19, 3)) (by decide +kernel) (by decide +kernel) (by decide +kernel) h0 h1 ?_
  refine g_alen (by decide +kernel : decode (m_byt 139) 9 = .ok (.arraylength, 1)) h2 ?_
  exact g_brq (t := 46) (off := 36) (by decide +kernel : decode (m_byt 139) 10 = .ok (.if_icmp .ge 36, 3)) rfl rfl (by decide)
theorem b_139_13 {Z : mZ} {l2 l3 : mV} {x1 : Int} {r0 : Nat} {K : Nat → mK} {σ : Nat → Nat → Int} {n e s : Nat} (h0 : q_ob K n r0 6) : m_run Z (139, 13, [(2, ((r0 : Nat) : Int)), (0, x1), l2, l3], [], (K, σ, n, e, s)) = (m_cl Z 137 [(2, ((r0 : Nat) : Int)), (0, x1)] (K, σ, n, e, s)).bind (m_aft (m_run Z) 139 15 [(2, ((r0 : Nat) : Int)), (0, x1), l2, l3] []) := by
  refine g_aload_n (k := 0) (v := (2, ((r0 : Nat) : Int))) (by decide +kernel : decode (m_byt 139) 13 = .ok (.aload_n 0, 1)) rfl (Or.inl rfl) ?_
  refine g_iload_n (k := 1) (x := x1) (by decide +kernel : decode (m_byt 139) 14 = .ok (.iload_n 1, 1)) rfl ?_
  exact g_inv (k := 1) (m' := 137) (np := 1) (as := [(2, ((r0 : Nat) : Int)), (0, x1)]) (by decide +kernel : decode (m_byt 139) 15 = .ok (.invokevirtual 273, 3)) (Or.inl ⟨rfl, rfl⟩) (by decide +kernel) (by decide +kernel) (by decide +kernel) (Nat.le_of_ble_eq_true rfl) rfl (Or.inr (g_rcv (by decide +kernel) h0))
theorem b_139_18 {Z : mZ} {l2 l3 : mV} {x1 : Int} {s0 r0 : Nat} {K : Nat → mK} {σ : Nat → Nat → Int} {n e s : Nat} (h0 : q_ob K n r0 6) : m_run Z (139, 18, [(2, ((r0 : Nat) : Int)), (0, x1), l2, l3], [(2, ((s0 : Nat) : Int))], (K, σ, n, e, s)) = (m_cl Z 137 [(2, ((r0 : Nat) : Int)), (0, (x1 + 1))] (K, σ, n, e, s)).bind (m_aft (m_run Z) 139 23 [(2, ((r0 : Nat) : Int)), (0, x1), (2, ((s0 : Nat) : Int)), l3] []) := by
  refine g_astore_n (k := 2) (t := 2) (by decide) (by decide +kernel : decode (m_byt 139) 18 = .ok (.astore_n 2, 1)) (Nat.le_of_ble_eq_true rfl) ?_
  show m_run Z (139, 19, [(2, ((r0 : Nat) : Int)), (0, x1), (2, ((s0 : Nat) : Int)), l3], [], (K, σ, n, e, s)) = _
  refine g_aload_n (k := 0) (v := (2, ((r0 : Nat) : Int))) (by decide +kernel : decode (m_byt 139) 19 = .ok (.aload_n 0, 1)) rfl (Or.inl rfl) ?_
  refine g_iload_n (k := 1) (x := x1) (by decide +kernel : decode (m_byt 139) 20 = .ok (.iload_n 1, 1)) rfl ?_
  refine g_base (by decide +kernel : decode (m_byt 139) 21 = .ok (.iconst 1, 1)) rfl rfl ?_
  show m_run Z (139, 22, [(2, ((r0 : Nat) : Int)), (0, x1), (2, ((s0 : Nat) : Int)), l3], [(0, 1), (0, x1), (2, ((r0 : Nat) : Int))], (K, σ, n, e, s)) = _
  refine g_base (by decide +kernel : decode (m_byt 139) 22 = .ok (.iadd, 1)) rfl rfl ?_
  show m_run Z (139, 23, [(2, ((r0 : Nat) : Int)), (0, x1), (2, ((s0 : Nat) : Int)), l3], [(0, (x1 + 1)), (2, ((r0 : Nat) : Int))], (K, σ, n, e, s)) = _
  exact g_inv (k := 1) (m' := 137) (np := 1) (as := [(2, ((r0 : Nat) : Int)), (0, (x1 + 1))]) (by decide +kernel : decode (m_byt 139) 23 = .ok (.invokevirtual 273, 3)) (Or.inl ⟨rfl, rfl⟩) (by decide +kernel) (by decide +kernel) (by decide +kernel) (Nat.le_of_ble_eq_true rfl) rfl (Or.inr (g_rcv (by decide +kernel) h0))
theorem b_139_26 {Z : mZ} {l0 l1 l3 : mV} {s0 r2 : Nat} {h : mH} : m_run Z (139, 26, [l0, l1, (2, ((r2 : Nat) : Int)), l3], [(2, ((s0 : Nat) : Int))], h) = m_run Z (139, 31, [l0, l1, (2, ((r2 : Nat) : Int)), (2, ((s0 : Nat) : Int))], [], h) := by
  refine g_astore_n (k := 3) (t := 2) (by decide) (by decide +kernel : decode (m_byt 139) 26 = .ok (.astore_n 3, 1)) (Nat.le_of_ble_eq_true rfl) ?_
  show m_run Z (139, 27, [l0, l1, (2, ((r2 : Nat) : Int)), (2, ((s0 : Nat) : Int))], [], h) = _
  refine g_aload_n (k := 2) (v := (2, ((r2 : Nat) : Int))) (by decide +kernel : decode (m_byt 139) 27 = .ok (.aload_n 2, 1)) rfl (Or.inl rfl) ?_
  refine g_nul (r := r2) (by decide +kernel : decode (m_byt 139) 28 = .ok (.ifnull 12, 3)) ⟨40, by decide⟩ ?_
  rfl
theorem b_139_31 {Z : mZ} {l0 l1 l2 : mV} {r3 : Nat} {h : mH} : m_run Z (139, 31, [l0, l1, l2, (2, ((r3 : Nat) : Int))], [], h) = m_run Z (139, 35, [l0, l1, l2, (2, ((r3 : Nat) : Int))], [], h) := by
  refine g_aload_n (k := 3) (v := (2, ((r3 : Nat) : Int))) (by decide +kernel : decode (m_byt 139) 31 = .ok (.aload_n 3, 1)) rfl (Or.inl rfl) ?_
  refine g_nul (r := r3) (by decide +kernel : decode (m_byt 139) 32 = .ok (.ifnull 8, 3)) ⟨40, by decide⟩ ?_
  rfl
theorem b_139_35 {Z : mZ} {l0 l1 : mV} {r2 r3 : Nat} {K : Nat → mK} {σ : Nat → Nat → Int} {n e s : Nat} (h0 : q_ob K n r2 1) : m_run Z (139, 35, [l0, l1, (2, ((r2 : Nat) : Int)), (2, ((r3 : Nat) : Int))], [], (K, σ, n, e, s)) = (m_cl Z 13 [(2, ((r2 : Nat) : Int)), (2, ((r3 : Nat) : Int))] (K, σ, n, e, s)).bind (m_aft (m_run Z) 139 37 [l0, l1, (2, ((r2 : Nat) : Int)), (2, ((r3 : Nat) : Int))] []) := by
  refine g_aload_n (k := 2) (v := (2, ((r2 : Nat) : Int))) (by decide +kernel : decode (m_byt 139) 35 = .ok (.aload_n 2, 1)) rfl (Or.inl rfl) ?_
  refine g_aload_n (k := 3) (v := (2, ((r3 : Nat) : Int))) (by decide +kernel : decode (m_byt 139) 36 = .ok (.aload_n 3, 1)) rfl (Or.inl rfl) ?_
  exact g_inv (k := 1) (m' := 13) (np := 1) (as := [(2, ((r2 : Nat) : Int)), (2, ((r3 : Nat) : Int))]) (by decide +kernel : decode (m_byt 139) 37 = .ok (.invokevirtual 242, 3)) (Or.inl ⟨rfl, rfl⟩) (by decide +kernel) (by decide +kernel) (by decide +kernel) (Nat.le_of_ble_eq_true rfl) rfl (Or.inr (g_rcv (by decide +kernel) h0))
theorem b_139_40 {Z : mZ} {l2 l3 : mV} {x1 : Int} {r0 : Nat} {h : mH} : m_run Z (139, 40, [(2, ((r0 : Nat) : Int)), (0, x1), l2, l3], [], h) = m_run Z (139, 2, [(2, ((r0 : Nat) : Int)), (0, x1 + 1), l2, l3], [], h) := by
  refine g_iinc (k := 1) (x := x1) (by decide +kernel : decode (m_byt 139) 40 = .ok (.iinc 1 1, 3)) rfl (Nat.le_of_ble_eq_true rfl) ?_
  show m_run Z (139, 43, [(2, ((r0 : Nat) : Int)), (0, x1 + 1), l2, l3], [], h) = _
  refine g_jmp (t := 2) (by decide +kernel : decode (m_byt 139) 43 = .ok (.goto (-41), 3)) (by decide) ?_
  rfl
theorem b_139_46 {Z : mZ} {l1 l2 l3 : mV} {r0 : Nat} {K : Nat → mK} {σ : Nat → Nat → Int} {n e s : Nat} (h0 : q_ob K n r0 6) : m_run Z (139, 46, [(2, ((r0 : Nat) : Int)), l1, l2, l3], [], (K, σ, n, e, s)) = some (.inl (9, 0), (K, (m_up2 σ r0 3 ((σ r0 3) - 1)), n, e, s)) := by
  refine g_aload_n (k := 0) (v := (2, ((r0 : Nat) : Int))) (by decide +kernel : decode (m_byt 139) 46 = .ok (.aload_n 0, 1)) rfl (Or.inl rfl) ?_
  refine g_base (by decide +kernel : decode (m_byt 139) 47 = .ok (.dup, 1)) rfl rfl ?_
  show m_run Z (139, 48, [(2, ((r0 : Nat) : Int)), l1, l2, l3], [(2, ((r0 : Nat) : Int)), (2, ((r0 : Nat) : Int))], (K, σ, n, e, s)) = _
  refine g_getf (ci := 6) (f := 3) (by decide +kernel : decode (m_byt 139) 48 = .ok (.getfield 270, 3)) (by decide +kernel) (by decide +kernel) (by decide +kernel) h0 ?_
  refine g_base (by decide +kernel : decode (m_byt 139) 51 = .ok (.iconst 1, 1)) rfl rfl ?_
  show m_run Z (139, 52, [(2, ((r0 : Nat) : Int)), l1, l2, l3], [(0, 1), (0, (σ r0 3)), (2, ((r0 : Nat) : Int))], (K, σ, n, e, s)) = _
  refine g_base (by decide +kernel : decode (m_byt 139) 52 = .ok (.isub, 1)) rfl rfl ?_
  show m_run Z (139, 53, [(2, ((r0 : Nat) : Int)), l1, l2, l3], [(0, ((σ r0 3) - 1)), (2, ((r0 : Nat) : Int))], (K, σ, n, e, s)) = _
  refine g_putf (ci := 6) (f := 3) (by decide +kernel : decode (m_byt 139) 53 = .ok (.putfield 270, 3)) (by decide +kernel) (by decide +kernel) (by decide +kernel) h0 ?_
  show m_run Z (139, 56, [(2, ((r0 : Nat) : Int)), l1, l2, l3], [], (K, (m_up2 σ r0 3 ((σ r0 3) - 1)), n, e, s)) = _
  exact g_vret (by decide +kernel : decode (m_byt 139) 56 = .ok (.return_, 1)) (by decide +kernel)
theorem e_141 {Z : mZ} {r0 : Nat} {x1 : Int} {h : mH} : m_cl Z 141 [(2, ((r0 : Nat) : Int)), (0, x1)] h = m_run Z (141, 0, [(2, ((r0 : Nat) : Int)), (0, x1)], [], h) := g_ent (k := 2) (by decide) (by decide +kernel) (Nat.le_of_ble_eq_true rfl) (by decide +kernel) rfl
theorem b_141_0 {Z : mZ} {l0 : mV} {x1 : Int} {h : mH} : m_run Z (141, 0, [l0, (0, x1)], [], h) = if w32 x1 = 0 then m_run Z (141, 28, [l0, (0, x1)], [], h) else if w32 x1 = 1 then m_run Z (141, 36, [l0, (0, x1)], [], h) else if w32 x1 = 2 then m_run Z (141, 44, [l0, (0, x1)], [], h) else m_run Z (141, 52, [l0, (0, x1)], [], h) := by
  refine g_iload_n (k := 1) (x := x1) (by decide +kernel : decode (m_byt 141) 0 = .ok (.iload_n 1, 1)) rfl ?_
  refine g_swt (f := fun x => if x = 0 then 28 else if x = 1 then 36 else if x = 2 then 44 else 52) (by decide +kernel : decode (m_byt 141) 1 = .ok (.tableswitch 51 0 2 #[27, 35, 43], 27)) (fun x => ?_) ?_
  · by_cases k0 : x = 0
    · subst k0; rw [if_neg (by decide)]; exact ⟨27, rfl, rfl⟩
    by_cases k1 : x = 1
    · subst k1; rw [if_neg (by decide)]; exact ⟨35, rfl, rfl⟩
    by_cases k2 : x = 2
    · subst k2; rw [if_neg (by decide)]; exact ⟨43, rfl, rfl⟩
    rw [if_pos (by omega)]
    show _ = (((if x = 0 then 28 else if x = 1 then 36 else if x = 2 then 44 else 52 : Nat)) : Int)
    rw [if_neg k0, if_neg k1, if_neg k2]
    rfl
  · generalize w32 x1 = x
    by_cases k0 : x = 0
    · subst k0; rfl
    by_cases k1 : x = 1
    · subst k1; rfl
    by_cases k2 : x = 2
    · subst k2; rfl
    show m_run Z (141, (if x = 0 then 28 else if x = 1 then 36 else if x = 2 then 44 else 52), [l0, (0, x1)], [], h) = _
    rw [if_neg k0, if_neg k1, if_neg k2, if_neg k0, if_neg k1, if_neg k2]
theorem b_141_28 {Z : mZ} {l1 : mV} {r0 : Nat} {K : Nat → mK} {σ : Nat → Nat → Int} {n e s : Nat} (h0 : q_ob K n r0 6) (h1 : q_rp K r0 0) (h2 : q_ob K n (q_rf K r0 0) 1) : m_run Z (141, 28, [(2, ((r0 : Nat) : Int)), l1], [], (K, σ, n, e, s)) = some (.inl (0, (σ ((q_rf K r0 0)) 0)), (K, σ, n, e, s)) := by
  refine g_aload_n (k := 0) (v := (2, ((r0 : Nat) : Int))) (by decide +kernel : decode (m_byt 141) 28 = .ok (.aload_n 0, 1)) rfl (Or.inl rfl) ?_
  refine g_getr (ci := 6) (f := 0) (by decide +kernel : decode (m_byt 141) 29 = .ok (.getfield 12, 3)) (by decide +kernel) (by decide +kernel) (by decide +kernel) h0 h1 ?_
  refine g_getf (ci := 1) (f := 0) (by decide +kernel : decode (m_byt 141) 32 = .ok (.getfield 57, 3)) (by decide +kernel) (by decide +kernel) (by decide +kernel) h2 ?_
  exact g_iret (by decide +kernel : decode (m_byt 141) 35 = .ok (.ireturn, 1)) (by decide +kernel)
theorem b_141_36 {Z : mZ} {l1 : mV} {r0 : Nat} {K : Nat → mK} {σ : Nat → Nat → Int} {n e s : Nat} (h0 : q_ob K n r0 6) (h1 : q_rp K r0 0) (h2 : q_ob K n (q_rf K r0 0) 1) : m_run Z (141, 36, [(2, ((r0 : Nat) : Int)), l1], [], (K, σ, n, e, s)) = some (.inl (0, (σ ((q_rf K r0 0)) 1)), (K, σ, n, e, s)) := by
  refine g_aload_n (k := 0) (v := (2, ((r0 : Nat) : Int))) (by decide +kernel : decode (m_byt 141) 36 = .ok (.aload_n 0, 1)) rfl (Or.inl rfl) ?_
  refine g_getr (ci := 6) (f := 0) (by decide +kernel : decode (m_byt 141) 37 = .ok (.getfield 12, 3)) (by decide +kernel) (by decide +kernel) (by decide +kernel) h0 h1 ?_
  refine g_getf (ci := 1) (f := 1) (by decide +kernel : decode (m_byt 141) 40 = .ok (.getfield 319, 3)) (by decide +kernel) (by decide +kernel) (by decide +kernel) h2 ?_
  exact g_iret (by decide +kernel : decode (m_byt 141) 43 = .ok (.ireturn, 1)) (by decide +kernel)
theorem b_141_44 {Z : mZ} {l1 : mV} {r0 : Nat} {K : Nat → mK} {σ : Nat → Nat → Int} {n e s : Nat} (h0 : q_ob K n r0 6) (h1 : q_rp K r0 0) (h2 : q_ob K n (q_rf K r0 0) 1) : m_run Z (141, 44, [(2, ((r0 : Nat) : Int)), l1], [], (K, σ, n, e, s)) = some (.inl (0, (σ ((q_rf K r0 0)) 2)), (K, σ, n, e, s)) := by
  refine g_aload_n (k := 0) (v := (2, ((r0 : Nat) : Int))) (by decide +kernel : decode (m_byt 141) 44 = .ok (.aload_n 0, 1)) rfl (Or.inl rfl) ?_
  refine g_getr (ci := 6) (f := 0) (by decide +kernel : decode (m_byt 141) 45 = .ok (.getfield 12, 3)) (by decide +kernel) (by decide +kernel) (by decide +kernel) h0 h1 ?_
  refine g_getf (ci := 1) (f := 2) (by decide +kernel : decode (m_byt 141) 48 = .ok (.getfield 322, 3)) (by decide +kernel) (by decide +kernel) (by decide +kernel) h2 ?_
  exact g_iret (by decide +kernel : decode (m_byt 141) 51 = .ok (.ireturn, 1)) (by decide +kernel)
theorem b_141_52 {Z : mZ} {l1 : mV} {r0 : Nat} {K : Nat → mK} {σ : Nat → Nat → Int} {n e s : Nat} (h0 : q_ob K n r0 6) (h1 : q_rp K r0 4) (h2 : q_ob K n (q_rf K r0 4) 5) : m_run Z (141, 52, [(2, ((r0 : Nat) : Int)), l1], [], (K, σ, n, e, s)) = if w32 (σ ((q_rf K r0 4)) 3) = 0 then m_run Z (141, 66, [(2, ((r0 : Nat) : Int)), l1], [], (K, σ, n, e, s)) else m_run Z (141, 62, [(2, ((r0 : Nat) : Int)), l1], [], (K, σ, n, e, s)) := by
  refine g_aload_n (k := 0) (v := (2, ((r0 : Nat) : Int))) (by decide +kernel : decode (m_byt 141) 52 = .ok (.aload_n 0, 1)) rfl (Or.inl rfl) ?_
  refine g_getr (ci := 6) (f := 4) (by decide +kernel : decode (m_byt 141) 53 = .ok (.getfield 26, 3)) (by decide +kernel) (by decide +kernel) (by decide +kernel) h0 h1 ?_
  refine g_getf (ci := 5) (f := 3) (by decide +kernel : decode (m_byt 141) 56 = .ok (.getfield 150, 3)) (by decide +kernel) (by decide +kernel) (by decide +kernel) h2 ?_
  exact g_brq (t := 66) (off := 7) (by decide +kernel : decode (m_byt 141) 59 = .ok (.ifCond .eq 7, 3)) rfl rfl (by decide)
theorem b_141_62 {Z : mZ} {l0 l1 : mV} {h : mH} : m_run Z (141, 62, [l0, l1], [], h) = some (.inl (0, 1), h) := by
  refine g_base (by decide +kernel : decode (m_byt 141) 62 = .ok (.iconst 1, 1)) rfl rfl ?_
  show m_run Z (141, 63, [l0, l1], [(0, 1)], h) = _
  refine g_jmp (t := 67) (by decide +kernel : decode (m_byt 141) 63 = .ok (.goto 4, 3)) (by decide) ?_
  exact g_iret (by decide +kernel : decode (m_byt 141) 67 = .ok (.ireturn, 1)) (by decide +kernel)
theorem b_141_66 {Z : mZ} {l0 l1 : mV} {h : mH} : m_run Z (141, 66, [l0, l1], [], h) = m_run Z (141, 67, [l0, l1], [(0, 0)], h) := by
  refine g_base (by decide +kernel : decode (m_byt 141) 66 = .ok (.iconst 0, 1)) rfl rfl ?_
  show m_run Z (141, 67, [l0, l1], [(0, 0)], h) = _
  rfl
theorem b_141_67 {Z : mZ} {l0 l1 : mV} {s0 : Int} {h : mH} : m_run Z (141, 67, [l0, l1], [(0, s0)], h) = some (.inl (0, s0), h) := by
  exact g_iret (by decide +kernel : decode (m_byt 141) 67 = .ok (.ireturn, 1)) (by decide +kernel)
theorem e_142 {Z : mZ} {r0 : Nat} {x1 : Int} {x2 : Int} {h : mH} : m_cl Z 142 [(2, ((r0 : Nat) : Int)), (0, x1), (0, x2)] h = m_run Z (142, 0, [(2, ((r0 : Nat) : Int)), (0, x1), (0, x2), (9, 0)], [], h) := g_ent (k := 4) (by decide) (by decide +kernel) (Nat.le_of_ble_eq_true rfl) (by decide +kernel) rfl
theorem b_142_0 {Z : mZ} {l0 l1 l3 : mV} {x2 : Int} {h : mH} : m_run Z (142, 0, [l0, l1, (0, x2), l3], [], h) = if w32 2 ≤ w32 x2 then m_run Z (142, 19, [l0, l1, (0, x2), l3], [], h) else m_run Z (142, 5, [l0, l1, (0, x2), l3], [], h) := by
  refine g_iload_n (k := 2) (x := x2) (by decide +kernel : decode (m_byt 142) 0 = .ok (.iload_n 2, 1)) rfl ?_
  refine g_base (by decide +kernel : decode (m_byt 142) 1 = .ok (.iconst 2, 1)) rfl rfl ?_
  show m_run Z (142, 2, [l0, l1, (0, x2), l3], [(0, 2), (0, x2)], h) = _
  exact g_brq (t := 19) (off := 17) (by decide +kernel : decode (m_byt 142) 2 = .ok (.if_icmp .ge 17, 3)) rfl rfl (by decide)
theorem b_142_5 {Z : mZ} {l2 l3 : mV} {x1 : Int} {r0 : Nat} {K : Nat → mK} {σ : Nat → Nat → Int} {n e s : Nat} (h0 : q_ob K n r0 6) (h1 : q_rp K r0 5) (h2 : q_ob K n (q_rf K r0 5) 2) (h3 : q_rp K (q_rf K r0 5) 4) (h4 : q_ob K n (q_rf K ((q_rf K r0 5)) 4) 3) : m_run Z (142, 5, [(2, ((r0 : Nat) : Int)), (0, x1), l2, l3], [], (K, σ, n, e, s)) = (m_cl Z 44 [(2, ((q_rf K ((q_rf K r0 5)) 4 : Nat) : Int)), (0, x1)] (K, σ, n, e, s)).bind (m_aft (m_run Z) 142 13 [(2, ((r0 : Nat) : Int)), (0, x1), l2, l3] []) := by
  refine g_aload_n (k := 0) (v := (2, ((r0 : Nat) : Int))) (by decide +kernel : decode (m_byt 142) 5 = .ok (.aload_n 0, 1)) rfl (Or.inl rfl) ?_
  refine g_getr (ci := 6) (f := 5) (by decide +kernel : decode (m_byt 142) 6 = .ok (.getfield 35, 3)) (by decide +kernel) (by decide +kernel) (by decide +kernel) h0 h1 ?_
  refine g_getr (ci := 2) (f := 4) (by decide +kernel : decode (m_byt 142) 9 = .ok (.getfield 325, 3)) (by decide +kernel) (by decide +kernel) (by decide +kernel) h2 h3 ?_
  refine g_iload_n (k := 1) (x := x1) (by decide +kernel : decode (m_byt 142) 12 = .ok (.iload_n 1, 1)) rfl ?_
  exact g_inv (k := 1) (m' := 44) (np := 1) (as := [(2, ((q_rf K ((q_rf K r0 5)) 4 : Nat) : Int)), (0, x1)]) (by decide +kernel : decode (m_byt 142) 13 = .ok (.invokevirtual 97, 3)) (Or.inl ⟨rfl, rfl⟩) (by decide +kernel) (by decide +kernel) (by decide +kernel) (Nat.le_of_ble_eq_true rfl) rfl (Or.inr (g_rcv (by decide +kernel) h4))
theorem b_142_16 {Z : mZ} {l3 : mV} {s0 x2 x1 : Int} {r0 : Nat} {K : Nat → mK} {σ : Nat → Nat → Int} {n e s : Nat} (h0 : q_ob K n r0 6) (h1 : q_rp K r0 5) (h2 : q_ob K n (q_rf K r0 5) 2) (h3 : q_rp K (q_rf K r0 5) 5) (h4 : q_ob K n (q_rf K ((q_rf K r0 5)) 5) 3) : m_run Z (142, 16, [(2, ((r0 : Nat) : Int)), (0, x1), (0, x2), l3], [(0, s0)], (K, σ, n, e, s)) = (m_cl Z 44 [(2, ((q_rf K ((q_rf K r0 5)) 5 : Nat) : Int)), (0, x1)] (K, σ, n, e, s)).bind (m_aft (m_run Z) 142 40 [(2, ((r0 : Nat) : Int)), (0, x1), (0, x2), (0, s0)] [(0, s0)]) := by
  refine g_jmp (t := 30) (by decide +kernel : decode (m_byt 142) 16 = .ok (.goto 14, 3)) (by decide) ?_
  refine g_istore_n (k := 3) (by decide +kernel : decode (m_byt 142) 30 = .ok (.istore_n 3, 1)) (Nat.le_of_ble_eq_true rfl) ?_
  show m_run Z (142, 31, [(2, ((r0 : Nat) : Int)), (0, x1), (0, x2), (0, s0)], [], (K, σ, n, e, s)) = _
  refine g_iload_n (k := 3) (x := s0) (by decide +kernel : decode (m_byt 142) 31 = .ok (.iload_n 3, 1)) rfl ?_
  refine g_aload_n (k := 0) (v := (2, ((r0 : Nat) : Int))) (by decide +kernel : decode (m_byt 142) 32 = .ok (.aload_n 0, 1)) rfl (Or.inl rfl) ?_
  refine g_getr (ci := 6) (f := 5) (by decide +kernel : decode (m_byt 142) 33 = .ok (.getfield 35, 3)) (by decide +kernel) (by decide +kernel) (by decide +kernel) h0 h1 ?_
  refine g_getr (ci := 2) (f := 5) (by decide +kernel : decode (m_byt 142) 36 = .ok (.getfield 331, 3)) (by decide +kernel) (by decide +kernel) (by decide +kernel) h2 h3 ?_
  refine g_iload_n (k := 1) (x := x1) (by decide +kernel : decode (m_byt 142) 39 = .ok (.iload_n 1, 1)) rfl ?_
  exact g_inv (k := 1) (m' := 44) (np := 1) (as := [(2, ((q_rf K ((q_rf K r0 5)) 5 : Nat) : Int)), (0, x1)]) (by decide +kernel : decode (m_byt 142) 40 = .ok (.invokevirtual 97, 3)) (Or.inl ⟨rfl, rfl⟩) (by decide +kernel) (by decide +kernel) (by decide +kernel) (Nat.le_of_ble_eq_true rfl) rfl (Or.inr (g_rcv (by decide +kernel) h4))
theorem b_142_19 {Z : mZ} {l2 l3 : mV} {x1 : Int} {r0 : Nat} {K : Nat → mK} {σ : Nat → Nat → Int} {n e s : Nat} (h0 : q_ob K n r0 6) (h1 : q_rp K r0 5) (h2 : q_ob K n (q_rf K r0 5) 2) (h3 : q_rp K (q_rf K r0 5) 6) (h4 : q_ob K n (q_rf K ((q_rf K r0 5)) 6) 3) : m_run Z (142, 19, [(2, ((r0 : Nat) : Int)), (0, x1), l2, l3], [], (K, σ, n, e, s)) = (m_cl Z 44 [(2, ((q_rf K ((q_rf K r0 5)) 6 : Nat) : Int)), (0, x1)] (K, σ, n, e, s)).bind (m_aft (m_run Z) 142 27 [(2, ((r0 : Nat) : Int)), (0, x1), l2, l3] []) := by
  refine g_aload_n (k := 0) (v := (2, ((r0 : Nat) : Int))) (by decide +kernel : decode (m_byt 142) 19 = .ok (.aload_n 0, 1)) rfl (Or.inl rfl) ?_
  refine g_getr (ci := 6) (f := 5) (by decide +kernel : decode (m_byt 142) 20 = .ok (.getfield 35, 3)) (by decide +kernel) (by decide +kernel) (by decide +kernel) h0 h1 ?_
  refine g_getr (ci := 2) (f := 6) (by decide +kernel : decode (m_byt 142) 23 = .ok (.getfield 328, 3)) (by decide +kernel) (by decide +kernel) (by decide +kernel) h2 h3 ?_
  refine g_iload_n (k := 1) (x := x1) (by decide +kernel : decode (m_byt 142) 26 = .ok (.iload_n 1, 1)) rfl ?_
  exact g_inv (k := 1) (m' := 44) (np := 1) (as := [(2, ((q_rf K ((q_rf K r0 5)) 6 : Nat) : Int)), (0, x1)]) (by decide +kernel : decode (m_byt 142) 27 = .ok (.invokevirtual 97, 3)) (Or.inl ⟨rfl, rfl⟩) (by decide +kernel) (by decide +kernel) (by decide +kernel) (Nat.le_of_ble_eq_true rfl) rfl (Or.inr (g_rcv (by decide +kernel) h4))
theorem b_142_30 {Z : mZ} {l3 : mV} {s0 x2 x1 : Int} {r0 : Nat} {K : Nat → mK} {σ : Nat → Nat → Int} {n e s : Nat} (h0 : q_ob K n r0 6) (h1 : q_rp K r0 5) (h2 : q_ob K n (q_rf K r0 5) 2) (h3 : q_rp K (q_rf K r0 5) 5) (h4 : q_ob K n (q_rf K ((q_rf K r0 5)) 5) 3) : m_run Z (142, 30, [(2, ((r0 : Nat) : Int)), (0, x1), (0, x2), l3], [(0, s0)], (K, σ, n, e, s)) = (m_cl Z 44 [(2, ((q_rf K ((q_rf K r0 5)) 5 : Nat) : Int)), (0, x1)] (K, σ, n, e, s)).bind (m_aft (m_run Z) 142 40 [(2, ((r0 : Nat) : Int)), (0, x1), (0, x2), (0, s0)] [(0, s0)]) := by
  refine g_istore_n (k := 3) (by decide +kernel : decode (m_byt 142) 30 = .ok (.istore_n 3, 1)) (Nat.le_of_ble_eq_true rfl) ?_
  show m_run Z (142, 31, [(2, ((r0 : Nat) : Int)), (0, x1), (0, x2), (0, s0)], [], (K, σ, n, e, s)) = _
  refine g_iload_n (k := 3) (x := s0) (by decide +kernel : decode (m_byt 142) 31 = .ok (.iload_n 3, 1)) rfl ?_
  refine g_aload_n (k := 0) (v := (2, ((r0 : Nat) : Int))) (by decide +kernel : decode (m_byt 142) 32 = .ok (.aload_n 0, 1)) rfl (Or.inl rfl) ?_
  refine g_getr (ci := 6) (f := 5) (by decide +kernel : decode (m_byt 142) 33 = .ok (.getfield 35, 3)) (by decide +kernel) (by decide +kernel) (by decide +kernel) h0 h1 ?_
  refine g_getr (ci := 2) (f := 5) (by decide +kernel : decode (m_byt 142) 36 = .ok (.getfield 331, 3)) (by decide +kernel) (by decide +kernel) (by decide +kernel) h2 h3 ?_
  refine g_iload_n (k := 1) (x := x1) (by decide +kernel : decode (m_byt 142) 39 = .ok (.iload_n 1, 1)) rfl ?_
  exact g_inv (k := 1) (m' := 44) (np := 1) (as := [(2, ((q_rf K ((q_rf K r0 5)) 5 : Nat) : Int)), (0, x1)]) (by decide +kernel : decode (m_byt 142) 40 = .ok (.invokevirtual 97, 3)) (Or.inl ⟨rfl, rfl⟩) (by decide +kernel) (by decide +kernel) (by decide +kernel) (Nat.le_of_ble_eq_true rfl) rfl (Or.inr (g_rcv (by decide +kernel) h4))
theorem b_142_43 {Z : mZ} {l0 l1 l3 : mV} {s0 s1 x2 : Int} {h : mH} (h0 : ¬ w32 2 = 0) : m_run Z (142, 43, [l0, l1, (0, x2), l3], [(0, s0), (0, s1)], h) = (m_cl Z 135 [(0, s1), (0, s0), (0, ((w32 x2).tmod (w32 2)))] h).bind (m_aft (m_run Z) 142 46 [l0, l1, (0, x2), l3] []) := by
  refine g_iload_n (k := 2) (x := x2) (by decide +kernel : decode (m_byt 142) 43 = .ok (.iload_n 2, 1)) rfl ?_
  refine g_base (by decide +kernel : decode (m_byt 142) 44 = .ok (.iconst 2, 1)) rfl rfl ?_
  show m_run Z (142, 45, [l0, l1, (0, x2), l3], [(0, 2), (0, x2), (0, s0), (0, s1)], h) = _
  refine g_rem (by decide +kernel : decode (m_byt 142) 45 = .ok (.irem, 1)) h0 ?_
  show m_run Z (142, 46, [l0, l1, (0, x2), l3], [(0, ((w32 x2).tmod (w32 2))), (0, s0), (0, s1)], h) = _
  exact g_inv (k := 0) (m' := 135) (np := 3) (as := [(0, s1), (0, s0), (0, ((w32 x2).tmod (w32 2)))]) (by decide +kernel : decode (m_byt 142) 46 = .ok (.invokestatic 175, 3)) (Or.inr (Or.inr ⟨rfl, rfl, by decide, by decide⟩)) (by decide +kernel) (by decide +kernel) (by decide +kernel) (Nat.le_of_ble_eq_true rfl) rfl (Or.inl rfl)
theorem b_142_49 {Z : mZ} {l0 l1 l2 l3 : mV} {s0 : Int} {h : mH} : m_run Z (142, 49, [l0, l1, l2, l3], [(0, s0)], h) = some (.inl (0, s0), h) := by
  exact g_iret (by decide +kernel : decode (m_byt 142) 49 = .ok (.ireturn, 1)) (by decide +kernel)
theorem e_143 {Z : mZ} {r0 : Nat} {x1 : Int} {h : mH} : m_cl Z 143 [(2, ((r0 : Nat) : Int)), (0, x1)] h = m_run Z (143, 0, [(2, ((r0 : Nat) : Int)), (0, x1), (9, 0)], [], h) := g_ent (k := 3) (by decide) (by decide +kernel) (Nat.le_of_ble_eq_true rfl) (by decide +kernel) rfl
theorem b_143_0 {Z : mZ} {l0 l2 : mV} {x1 : Int} {h : mH} : m_run Z (143, 0, [l0, (0, x1), l2], [], h) = if w32 x1 = 0 then m_run Z (143, 4, [l0, (0, x1), l2], [], h) else m_run Z (143, 12, [l0, (0, x1), l2], [], h) := by
  refine g_iload_n (k := 1) (x := x1) (by decide +kernel : decode (m_byt 143) 0 = .ok (.iload_n 1, 1)) rfl ?_
  exact g_brn (t := 12) (off := 11) (by decide +kernel : decode (m_byt 143) 1 = .ok (.ifCond .ne 11, 3)) rfl rfl (by decide)
theorem b_143_4 {Z : mZ} {l1 l2 : mV} {r0 : Nat} {K : Nat → mK} {σ : Nat → Nat → Int} {n e s : Nat} (h0 : q_ob K n r0 6) (h1 : q_rp K r0 4) (h2 : q_ob K n (q_rf K r0 4) 5) : m_run Z (143, 4, [(2, ((r0 : Nat) : Int)), l1, l2], [], (K, σ, n, e, s)) = some (.inl (0, (σ ((q_rf K r0 4)) 13)), (K, σ, n, e, s)) := by
  refine g_aload_n (k := 0) (v := (2, ((r0 : Nat) : Int))) (by decide +kernel : decode (m_byt 143) 4 = .ok (.aload_n 0, 1)) rfl (Or.inl rfl) ?_
  refine g_getr (ci := 6) (f := 4) (by decide +kernel : decode (m_byt 143) 5 = .ok (.getfield 26, 3)) (by decide +kernel) (by decide +kernel) (by decide +kernel) h0 h1 ?_
  refine g_getf (ci := 5) (f := 13) (by decide +kernel : decode (m_byt 143) 8 = .ok (.getfield 334, 3)) (by decide +kernel) (by decide +kernel) (by decide +kernel) h2 ?_
  exact g_iret (by decide +kernel : decode (m_byt 143) 11 = .ok (.ireturn, 1)) (by decide +kernel)
theorem b_143_12 {Z : mZ} {l0 l2 : mV} {x1 : Int} {h : mH} : m_run Z (143, 12, [l0, (0, x1), l2], [], h) = if w32 3 ≤ w32 x1 then m_run Z (143, 27, [l0, (0, x1), l2], [], h) else m_run Z (143, 17, [l0, (0, x1), l2], [], h) := by
  refine g_iload_n (k := 1) (x := x1) (by decide +kernel : decode (m_byt 143) 12 = .ok (.iload_n 1, 1)) rfl ?_
  refine g_base (by decide +kernel : decode (m_byt 143) 13 = .ok (.iconst 3, 1)) rfl rfl ?_
  show m_run Z (143, 14, [l0, (0, x1), l2], [(0, 3), (0, x1)], h) = _
  exact g_brq (t := 27) (off := 13) (by decide +kernel : decode (m_byt 143) 14 = .ok (.if_icmp .ge 13, 3)) rfl rfl (by decide)
theorem b_143_17 {Z : mZ} {l2 : mV} {x1 : Int} {r0 : Nat} {K : Nat → mK} {σ : Nat → Nat → Int} {n e s : Nat} (h0 : q_ob K n r0 6) (h1 : q_rp K r0 4) (h2 : q_ob K n (q_rf K r0 4) 5) (h3 : ¬ w32 2 = 0) : m_run Z (143, 17, [(2, ((r0 : Nat) : Int)), (0, x1), l2], [], (K, σ, n, e, s)) = (m_cl Z 135 [(0, (σ ((q_rf K r0 4)) 14)), (0, (σ ((q_rf K r0 4)) 15)), (0, ((w32 (x1 + 1)).tmod (w32 2)))] (K, σ, n, e, s)).bind (m_aft (m_run Z) 143 48 [(2, ((r0 : Nat) : Int)), (0, x1), (0, (σ ((q_rf K r0 4)) 14))] []) := by
  refine g_aload_n (k := 0) (v := (2, ((r0 : Nat) : Int))) (by decide +kernel : decode (m_byt 143) 17 = .ok (.aload_n 0, 1)) rfl (Or.inl rfl) ?_
  refine g_getr (ci := 6) (f := 4) (by decide +kernel : decode (m_byt 143) 18 = .ok (.getfield 26, 3)) (by decide +kernel) (by decide +kernel) (by decide +kernel) h0 h1 ?_
  refine g_getf (ci := 5) (f := 14) (by decide +kernel : decode (m_byt 143) 21 = .ok (.getfield 337, 3)) (by decide +kernel) (by decide +kernel) (by decide +kernel) h2 ?_
  refine g_jmp (t := 34) (by decide +kernel : decode (m_byt 143) 24 = .ok (.goto 10, 3)) (by decide) ?_
  refine g_istore_n (k := 2) (by decide +kernel : decode (m_byt 143) 34 = .ok (.istore_n 2, 1)) (Nat.le_of_ble_eq_true rfl) ?_
  show m_run Z (143, 35, [(2, ((r0 : Nat) : Int)), (0, x1), (0, (σ ((q_rf K r0 4)) 14))], [], (K, σ, n, e, s)) = _
  refine g_iload_n (k := 2) (x := (σ ((q_rf K r0 4)) 14)) (by decide +kernel : decode (m_byt 143) 35 = .ok (.iload_n 2, 1)) rfl ?_
  refine g_aload_n (k := 0) (v := (2, ((r0 : Nat) : Int))) (by decide +kernel : decode (m_byt 143) 36 = .ok (.aload_n 0, 1)) rfl (Or.inl rfl) ?_
  refine g_getr (ci := 6) (f := 4) (by decide +kernel : decode (m_byt 143) 37 = .ok (.getfield 26, 3)) (by decide +kernel) (by decide +kernel) (by decide +kernel) h0 h1 ?_
  refine g_getf (ci := 5) (f := 15) (by decide +kernel : decode (m_byt 143) 40 = .ok (.getfield 209, 3)) (by decide +kernel) (by decide +kernel) (by decide +kernel) h2 ?_
  refine g_iload_n (k := 1) (x := x1) (by decide +kernel : decode (m_byt 143) 43 = .ok (.iload_n 1, 1)) rfl ?_
  refine g_base (by decide +kernel : decode (m_byt 143) 44 = .ok (.iconst 1, 1)) rfl rfl ?_
  show m_run Z (143, 45, [(2, ((r0 : Nat) : Int)), (0, x1), (0, (σ ((q_rf K r0 4)) 14))], [(0, 1), (0, x1), (0, (σ ((q_rf K r0 4)) 15)), (0, (σ ((q_rf K r0 4)) 14))], (K, σ, n, e, s)) = _
  refine g_base (by decide +kernel : decode (m_byt 143) 45 = .ok (.iadd, 1)) rfl rfl ?_
  show m_run Z (143, 46, [(2, ((r0 : Nat) : Int)), (0, x1), (0, (σ ((q_rf K r0 4)) 14))], [(0, (x1 + 1)), (0, (σ ((q_rf K r0 4)) 15)), (0, (σ ((q_rf K r0 4)) 14))], (K, σ, n, e, s)) = _
  refine g_base (by decide +kernel : decode (m_byt 143) 46 = .ok (.iconst 2, 1)) rfl rfl ?_
  show m_run Z (143, 47, [(2, ((r0 : Nat) : Int)), (0, x1), (0, (σ ((q_rf K r0 4)) 14))], [(0, 2), (0, (x1 + 1)), (0, (σ ((q_rf K r0 4)) 15)), (0, (σ ((q_rf K r0 4)) 14))], (K, σ, n, e, s)) = _
  refine g_rem (by decide +kernel : decode (m_byt 143) 47 = .ok (.irem, 1)) h3 ?_
  show m_run Z (143, 48, [(2, ((r0 : Nat) : Int)), (0, x1), (0, (σ ((q_rf K r0 4)) 14))], [(0, ((w32 (x1 + 1)).tmod (w32 2))), (0, (σ ((q_rf K r0 4)) 15)), (0, (σ ((q_rf K r0 4)) 14))], (K, σ, n, e, s)) = _
  exact g_inv (k := 0) (m' := 135) (np := 3) (as := [(0, (σ ((q_rf K r0 4)) 14)), (0, (σ ((q_rf K r0 4)) 15)), (0, ((w32 (x1 + 1)).tmod (w32 2)))]) (by decide +kernel : decode (m_byt 143) 48 = .ok (.invokestatic 175, 3)) (Or.inr (Or.inr ⟨rfl, rfl, by decide, by decide⟩)) (by decide +kernel) (by decide +kernel) (by decide +kernel) (Nat.le_of_ble_eq_true rfl) rfl (Or.inl rfl)
theorem b_143_27 {Z : mZ} {l1 l2 : mV} {r0 : Nat} {K : Nat → mK} {σ : Nat → Nat → Int} {n e s : Nat} (h0 : q_ob K n r0 6) (h1 : q_rp K r0 4) (h2 : q_ob K n (q_rf K r0 4) 5) : m_run Z (143, 27, [(2, ((r0 : Nat) : Int)), l1, l2], [], (K, σ, n, e, s)) = m_run Z (143, 34, [(2, ((r0 : Nat) : Int)), l1, l2], [(0, (σ ((q_rf K r0 4)) 16))], (K, σ, n, e, s)) := by
  refine g_aload_n (k := 0) (v := (2, ((r0 : Nat) : Int))) (by decide +kernel : decode (m_byt 143) 27 = .ok (.aload_n 0, 1)) rfl (Or.inl rfl) ?_
  refine g_getr (ci := 6) (f := 4) (by decide +kernel : decode (m_byt 143) 28 = .ok (.getfield 26, 3)) (by decide +kernel) (by decide +kernel) (by decide +kernel) h0 h1 ?_
  refine g_getf (ci := 5) (f := 16) (by decide +kernel : decode (m_byt 143) 31 = .ok (.getfield 206, 3)) (by decide +kernel) (by decide +kernel) (by decide +kernel) h2 ?_
  rfl
theorem b_143_34 {Z : mZ} {l2 : mV} {s0 x1 : Int} {r0 : Nat} {K : Nat → mK} {σ : Nat → Nat → Int} {n e s : Nat} (h0 : q_ob K n r0 6) (h1 : q_rp K r0 4) (h2 : q_ob K n (q_rf K r0 4) 5) (h3 : ¬ w32 2 = 0) : m_run Z (143, 34, [(2, ((r0 : Nat) : Int)), (0, x1), l2], [(0, s0)], (K, σ, n, e, s)) = (m_cl Z 135 [(0, s0), (0, (σ ((q_rf K r0 4)) 15)), (0, ((w32 (x1 + 1)).tmod (w32 2)))] (K, σ, n, e, s)).bind (m_aft (m_run Z) 143 48 [(2, ((r0 : Nat) : Int)), (0, x1), (0, s0)] []) := by
  refine g_istore_n (k := 2) (by decide +kernel : decode (m_byt 143) 34 = .ok (.istore_n 2, 1)) (Nat.le_of_ble_eq_true rfl) ?_
  show m_run Z (143, 35, [(2, ((r0 : Nat) : Int)), (0, x1), (0, s0)], [], (K, σ, n, e, s)) = _
  refine g_iload_n (k := 2) (x := s0) (by decide +kernel : decode (m_byt 143) 35 = .ok (.iload_n 2, 1)) rfl ?_
  refine g_aload_n (k := 0) (v := (2, ((r0 : Nat) : Int))) (by decide +kernel : decode (m_byt 143) 36 = .ok (.aload_n 0, 1)) rfl (Or.inl rfl) ?_
  refine g_getr (ci := 6) (f := 4) (by decide +kernel : decode (m_byt 143) 37 = .ok (.getfield 26, 3)) (by decide +kernel) (by decide +kernel) (by decide +kernel) h0 h1 ?_
  refine g_getf (ci := 5) (f := 15) (by decide +kernel : decode (m_byt 143) 40 = .ok (.getfield 209, 3)) (by decide +kernel) (by decide +kernel) (by decide +kernel) h2 ?_
  refine g_iload_n (k := 1) (x := x1) (by decide +kernel : decode (m_byt 143) 43 = .ok (.iload_n 1, 1)) rfl ?_
  refine g_base (by decide +kernel : decode (m_byt 143) 44 = .ok (.iconst 1, 1)) rfl rfl ?_
  show m_run Z (143, 45, [(2, ((r0 : Nat) : Int)), (0, x1), (0, s0)], [(0, 1), (0, x1), (0, (σ ((q_rf K r0 4)) 15)), (0, s0)], (K, σ, n, e, s)) = _
  refine g_base (by decide +kernel : decode (m_byt 143) 45 = .ok (.iadd, 1)) rfl rfl ?_
  show m_run Z (143, 46, [(2, ((r0 : Nat) : Int)), (0, x1), (0, s0)], [(0, (x1 + 1)), (0, (σ ((q_rf K r0 4)) 15)), (0, s0)], (K, σ, n, e, s)) = _
  refine g_base (by decide +kernel : decode (m_byt 143) 46 = .ok (.iconst 2, 1)) rfl rfl ?_
  show m_run Z (143, 47, [(2, ((r0 : Nat) : Int)), (0, x1), (0, s0)], [(0, 2), (0, (x1 + 1)), (0, (σ ((q_rf K r0 4)) 15)), (0, s0)], (K, σ, n, e, s)) = _
  refine g_rem (by decide +kernel : decode (m_byt 143) 47 = .ok (.irem, 1)) h3 ?_
  show m_run Z (143, 48, [(2, ((r0 : Nat) : Int)), (0, x1), (0, s0)], [(0, ((w32 (x1 + 1)).tmod (w32 2))), (0, (σ ((q_rf K r0 4)) 15)), (0, s0)], (K, σ, n, e, s)) = _
  exact g_inv (k := 0) (m' := 135) (np := 3) (as := [(0, s0), (0, (σ ((q_rf K r0 4)) 15)), (0, ((w32 (x1 + 1)).tmod (w32 2)))]) (by decide +kernel : decode (m_byt 143) 48 = .ok (.invokestatic 175, 3)) (Or.inr (Or.inr ⟨rfl, rfl, by decide, by decide⟩)) (by decide +kernel) (by decide +kernel) (by decide +kernel) (Nat.le_of_ble_eq_true rfl) rfl (Or.inl rfl)
theorem b_143_51 {Z : mZ} {l0 l1 l2 : mV} {s0 : Int} {h : mH} : m_run Z (143, 51, [l0, l1, l2], [(0, s0)], h) = some (.inl (0, s0), h) := by
  exact g_iret (by decide +kernel : decode (m_byt 143) 51 = .ok (.ireturn, 1)) (by decide +kernel)
theorem e_144 {Z : mZ} {r0 : Nat} {x1 : Int} {x2 : Int} {h : mH} : m_cl Z 144 [(2, ((r0 : Nat) : Int)), (0, x1), (0, x2)] h = m_run Z (144, 0, [(2, ((r0 : Nat) : Int)), (0, x1), (0, x2), (9, 0)], [], h) := g_ent (k := 4) (by decide) (by decide +kernel) (Nat.le_of_ble_eq_true rfl) (by decide +kernel) rfl
theorem b_144_0 {Z : mZ} {l2 l3 : mV} {x1 : Int} {r0 : Nat} {K : Nat → mK} {σ : Nat → Nat → Int} {n e s : Nat} (h0 : q_ob K n r0 6) (h1 : q_rp K r0 0) (h2 : q_ob K n (q_rf K r0 0) 1) : m_run Z (144, 0, [(2, ((r0 : Nat) : Int)), (0, x1), l2, l3], [], (K, σ, n, e, s)) = (m_cl Z 19 [(2, ((q_rf K r0 0 : Nat) : Int))] (K, σ, n, e, s)).bind (m_aft (m_run Z) 144 5 [(2, ((r0 : Nat) : Int)), (0, x1), l2, l3] [(0, x1)]) := by
  refine g_iload_n (k := 1) (x := x1) (by decide +kernel : decode (m_byt 144) 0 = .ok (.iload_n 1, 1)) rfl ?_
  refine g_aload_n (k := 0) (v := (2, ((r0 : Nat) : Int))) (by decide +kernel : decode (m_byt 144) 1 = .ok (.aload_n 0, 1)) rfl (Or.inl rfl) ?_
  refine g_getr (ci := 6) (f := 0) (by decide +kernel : decode (m_byt 144) 2 = .ok (.getfield 12, 3)) (by decide +kernel) (by decide +kernel) (by decide +kernel) h0 h1 ?_
  exact g_inv (k := 1) (m' := 19) (np := 0) (as := [(2, ((q_rf K r0 0 : Nat) : Int))]) (by decide +kernel : decode (m_byt 144) 5 = .ok (.invokevirtual 239, 3)) (Or.inl ⟨rfl, rfl⟩) (by decide +kernel) (by decide +kernel) (by decide +kernel) (Nat.le_of_ble_eq_true rfl) rfl (Or.inr (g_rcv (by decide +kernel) h2))
theorem b_144_8 {Z : mZ} {l0 l1 l2 l3 : mV} {s0 s1 : Int} {h : mH} : m_run Z (144, 8, [l0, l1, l2, l3], [(0, s0), (0, s1)], h) = (m_cl Z 1 [(0, s1), (0, s0)] h).bind (m_aft (m_run Z) 144 8 [l0, l1, l2, l3] []) := by
  exact g_inv (k := 0) (m' := 1) (np := 2) (as := [(0, s1), (0, s0)]) (by decide +kernel : decode (m_byt 144) 8 = .ok (.invokestatic 340, 3)) (Or.inr (Or.inr ⟨rfl, rfl, by decide, by decide⟩)) (by decide +kernel) (by decide +kernel) (by decide +kernel) (Nat.le_of_ble_eq_true rfl) rfl (Or.inl rfl)
theorem b_144_11 {Z : mZ} {l1 l3 : mV} {s0 x2 : Int} {r0 : Nat} {K : Nat → mK} {σ : Nat → Nat → Int} {n e s : Nat} (h0 : q_ob K n r0 6) (h1 : q_rp K r0 6) (h2 : q_ob K n (q_rf K r0 6) 0) (h3 : q_rp K (q_rf K r0 6) 3) (h4 : q_ob K n (q_rf K ((q_rf K r0 6)) 3) 3) : m_run Z (144, 11, [(2, ((r0 : Nat) : Int)), l1, (0, x2), l3], [(0, s0)], (K, σ, n, e, s)) = (m_cl Z 44 [(2, ((q_rf K ((q_rf K r0 6)) 3 : Nat) : Int)), (0, s0)] (K, σ, n, e, s)).bind (m_aft (m_run Z) 144 20 [(2, ((r0 : Nat) : Int)), l1, (0, x2), (0, s0)] []) := by
  refine g_istore_n (k := 3) (by decide +kernel : decode (m_byt 144) 11 = .ok (.istore_n 3, 1)) (Nat.le_of_ble_eq_true rfl) ?_
  show m_run Z (144, 12, [(2, ((r0 : Nat) : Int)), l1, (0, x2), (0, s0)], [], (K, σ, n, e, s)) = _
  refine g_aload_n (k := 0) (v := (2, ((r0 : Nat) : Int))) (by decide +kernel : decode (m_byt 144) 12 = .ok (.aload_n 0, 1)) rfl (Or.inl rfl) ?_
  refine g_getr (ci := 6) (f := 6) (by decide +kernel : decode (m_byt 144) 13 = .ok (.getfield 42, 3)) (by decide +kernel) (by decide +kernel) (by decide +kernel) h0 h1 ?_
  refine g_getr (ci := 0) (f := 3) (by decide +kernel : decode (m_byt 144) 16 = .ok (.getfield 343, 3)) (by decide +kernel) (by decide +kernel) (by decide +kernel) h2 h3 ?_
  refine g_iload_n (k := 3) (x := s0) (by decide +kernel : decode (m_byt 144) 19 = .ok (.iload_n 3, 1)) rfl ?_
  exact g_inv (k := 1) (m' := 44) (np := 1) (as := [(2, ((q_rf K ((q_rf K r0 6)) 3 : Nat) : Int)), (0, s0)]) (by decide +kernel : decode (m_byt 144) 20 = .ok (.invokevirtual 97, 3)) (Or.inl ⟨rfl, rfl⟩) (by decide +kernel) (by decide +kernel) (by decide +kernel) (Nat.le_of_ble_eq_true rfl) rfl (Or.inr (g_rcv (by decide +kernel) h4))
theorem b_144_23 {Z : mZ} {l1 l2 : mV} {s0 x3 : Int} {r0 : Nat} {K : Nat → mK} {σ : Nat → Nat → Int} {n e s : Nat} (h0 : q_ob K n r0 6) (h1 : q_rp K r0 6) (h2 : q_ob K n (q_rf K r0 6) 0) (h3 : q_rp K (q_rf K r0 6) 4) (h4 : q_ob K n (q_rf K ((q_rf K r0 6)) 4) 3) : m_run Z (144, 23, [(2, ((r0 : Nat) : Int)), l1, l2, (0, x3)], [(0, s0)], (K, σ, n, e, s)) = (m_cl Z 44 [(2, ((q_rf K ((q_rf K r0 6)) 4 : Nat) : Int)), (0, x3)] (K, σ, n, e, s)).bind (m_aft (m_run Z) 144 31 [(2, ((r0 : Nat) : Int)), l1, l2, (0, x3)] [(0, s0)]) := by
  refine g_aload_n (k := 0) (v := (2, ((r0 : Nat) : Int))) (by decide +kernel : decode (m_byt 144) 23 = .ok (.aload_n 0, 1)) rfl (Or.inl rfl) ?_
  refine g_getr (ci := 6) (f := 6) (by decide +kernel : decode (m_byt 144) 24 = .ok (.getfield 42, 3)) (by decide +kernel) (by decide +kernel) (by decide +kernel) h0 h1 ?_
  refine g_getr (ci := 0) (f := 4) (by decide +kernel : decode (m_byt 144) 27 = .ok (.getfield 344, 3)) (by decide +kernel) (by decide +kernel) (by decide +kernel) h2 h3 ?_
  refine g_iload_n (k := 3) (x := x3) (by decide +kernel : decode (m_byt 144) 30 = .ok (.iload_n 3, 1)) rfl ?_
  exact g_inv (k := 1) (m' := 44) (np := 1) (as := [(2, ((q_rf K ((q_rf K r0 6)) 4 : Nat) : Int)), (0, x3)]) (by decide +kernel : decode (m_byt 144) 31 = .ok (.invokevirtual 97, 3)) (Or.inl ⟨rfl, rfl⟩) (by decide +kernel) (by decide +kernel) (by decide +kernel) (Nat.le_of_ble_eq_true rfl) rfl (Or.inr (g_rcv (by decide +kernel) h4))
theorem b_144_34 {Z : mZ} {l0 l1 l3 : mV} {s0 s1 x2 : Int} {h : mH} : m_run Z (144, 34, [l0, l1, (0, x2), l3], [(0, s0), (0, s1)], h) = (m_cl Z 135 [(0, s1), (0, s0), (0, x2)] h).bind (m_aft (m_run Z) 144 35 [l0, l1, (0, x2), l3] []) := by
  refine g_iload_n (k := 2) (x := x2) (by decide +kernel : decode (m_byt 144) 34 = .ok (.iload_n 2, 1)) rfl ?_
  exact g_inv (k := 0) (m' := 135) (np := 3) (as := [(0, s1), (0, s0), (0, x2)]) (by decide +kernel : decode (m_byt 144) 35 = .ok (.invokestatic 175, 3)) (Or.inr (Or.inr ⟨rfl, rfl, by decide, by decide⟩)) (by decide +kernel) (by decide +kernel) (by decide +kernel) (Nat.le_of_ble_eq_true rfl) rfl (Or.inl rfl)
theorem b_144_38 {Z : mZ} {l0 l1 l2 l3 : mV} {s0 : Int} {h : mH} : m_run Z (144, 38, [l0, l1, l2, l3], [(0, s0)], h) = some (.inl (0, s0), h) := by
  exact g_iret (by decide +kernel : decode (m_byt 144) 38 = .ok (.ireturn, 1)) (by decide +kernel)
theorem e_145 {Z : mZ} {x0 : Int} {x1 : Int} {h : mH} : m_cl Z 145 [(1, x0), (0, x1)] h = m_run Z (145, 0, [(1, x0), (9, 0), (0, x1)], [], h) := g_ent (k := 3) (by decide) (by decide +kernel) (Nat.le_of_ble_eq_true rfl) (by decide +kernel) rfl
theorem b_145_0 {Z : mZ} {l1 : mV} {x0 x2 : Int} {h : mH} : m_run Z (145, 0, [(1, x0), l1, (0, x2)], [], h) = some (.inl (1, ((31 * x0) + (w32 x2))), h) := by
  refine g_base (by decide +kernel : decode (m_byt 145) 0 = .ok (.ldc2_w 345, 3)) rfl rfl ?_
  show m_run Z (145, 3, [(1, x0), l1, (0, x2)], [(1, 31)], h) = _
  refine g_lload_n (k := 0) (x := x0) (by decide +kernel : decode (m_byt 145) 3 = .ok (.lload_n 0, 1)) rfl ?_
  refine g_base (by decide +kernel : decode (m_byt 145) 4 = .ok (.lmul, 1)) rfl rfl ?_
  show m_run Z (145, 5, [(1, x0), l1, (0, x2)], [(1, (31 * x0))], h) = _
  refine g_iload_n (k := 2) (x := x2) (by decide +kernel : decode (m_byt 145) 5 = .ok (.iload_n 2, 1)) rfl ?_
  refine g_base (by decide +kernel : decode (m_byt 145) 6 = .ok (.i2l, 1)) rfl rfl ?_
  show m_run Z (145, 7, [(1, x0), l1, (0, x2)], [(1, (w32 x2)), (1, (31 * x0))], h) = _
  refine g_base (by decide +kernel : decode (m_byt 145) 7 = .ok (.ladd, 1)) rfl rfl ?_
  show m_run Z (145, 8, [(1, x0), l1, (0, x2)], [(1, ((31 * x0) + (w32 x2)))], h) = _
  exact g_lret (by decide +kernel : decode (m_byt 145) 8 = .ok (.lreturn, 1)) (by decide +kernel)
theorem e_146 {Z : mZ} {r0 : Nat} {x1 : Int} {h : mH} : m_cl Z 146 [(2, ((r0 : Nat) : Int)), (1, x1)] h = m_run Z (146, 0, [(2, ((r0 : Nat) : Int)), (1, x1), (9, 0), (9, 0), (9, 0), (9, 0)], [], h) := g_ent (k := 6) (by decide) (by decide +kernel) (Nat.le_of_ble_eq_true rfl) (by decide +kernel) rfl
theorem b_146_0 {Z : mZ} {l0 l2 l3 l4 l5 : mV} {x1 : Int} {h : mH} : m_run Z (146, 0, [l0, (1, x1), l2, l3, l4, l5], [], h) = m_run Z (146, 5, [l0, (1, x1), m_kill l2, (1, x1), (9, 0), (0, 0)], [], h) := by
  refine g_lload_n (k := 1) (x := x1) (by decide +kernel : decode (m_byt 146) 0 = .ok (.lload_n 1, 1)) rfl ?_
  refine g_lstore_n (k := 3) (by decide +kernel : decode (m_byt 146) 1 = .ok (.lstore_n 3, 1)) (Nat.le_of_ble_eq_true rfl) ?_
  show m_run Z (146, 2, [l0, (1, x1), m_kill l2, (1, x1), (9, 0), l5], [], h) = _
  refine g_base (by decide +kernel : decode (m_byt 146) 2 = .ok (.iconst 0, 1)) rfl rfl ?_
  show m_run Z (146, 3, [l0, (1, x1), m_kill l2, (1, x1), (9, 0), l5], [(0, 0)], h) = _
  refine g_istore (k := 5) (by decide +kernel : decode (m_byt 146) 3 = .ok (.istore 5, 2)) (Nat.le_of_ble_eq_true rfl) ?_
  show m_run Z (146, 5, [l0, (1, x1), m_kill l2, (1, x1), (9, 0), (0, 0)], [], h) = _
  rfl
theorem b_146_5 {Z : mZ} {l0 l1 l2 l3 l4 : mV} {x5 : Int} {h : mH} : m_run Z (146, 5, [l0, l1, l2, l3, l4, (0, x5)], [], h) = if w32 4 ≤ w32 x5 then m_run Z (146, 28, [l0, l1, l2, l3, l4, (0, x5)], [], h) else m_run Z (146, 11, [l0, l1, l2, l3, l4, (0, x5)], [], h) := by
  refine g_iload (k := 5) (x := x5) (by decide +kernel : decode (m_byt 146) 5 = .ok (.iload 5, 2)) rfl ?_
  refine g_base (by decide +kernel : decode (m_byt 146) 7 = .ok (.iconst 4, 1)) rfl rfl ?_
  show m_run Z (146, 8, [l0, l1, l2, l3, l4, (0, x5)], [(0, 4), (0, x5)], h) = _
  exact g_brq (t := 28) (off := 20) (by decide +kernel : decode (m_byt 146) 8 = .ok (.if_icmp .ge 20, 3)) rfl rfl (by decide)
theorem b_146_11 {Z : mZ} {l1 l2 l4 : mV} {x3 x5 : Int} {r0 : Nat} {K : Nat → mK} {σ : Nat → Nat → Int} {n e s : Nat} (h0 : q_ob K n r0 6) : m_run Z (146, 11, [(2, ((r0 : Nat) : Int)), l1, l2, (1, x3), l4, (0, x5)], [], (K, σ, n, e, s)) = (m_cl Z 141 [(2, ((r0 : Nat) : Int)), (0, x5)] (K, σ, n, e, s)).bind (m_aft (m_run Z) 146 15 [(2, ((r0 : Nat) : Int)), l1, l2, (1, x3), l4, (0, x5)] [(1, x3)]) := by
  refine g_lload_n (k := 3) (x := x3) (by decide +kernel : decode (m_byt 146) 11 = .ok (.lload_n 3, 1)) rfl ?_
  refine g_aload_n (k := 0) (v := (2, ((r0 : Nat) : Int))) (by decide +kernel : decode (m_byt 146) 12 = .ok (.aload_n 0, 1)) rfl (Or.inl rfl) ?_
  refine g_iload (k := 5) (x := x5) (by decide +kernel : decode (m_byt 146) 13 = .ok (.iload 5, 2)) rfl ?_
  exact g_inv (k := 1) (m' := 141) (np := 1) (as := [(2, ((r0 : Nat) : Int)), (0, x5)]) (by decide +kernel : decode (m_byt 146) 15 = .ok (.invokevirtual 128, 3)) (Or.inl ⟨rfl, rfl⟩) (by decide +kernel) (by decide +kernel) (by decide +kernel) (Nat.le_of_ble_eq_true rfl) rfl (Or.inr (g_rcv (by decide +kernel) h0))
theorem b_146_18 {Z : mZ} {l0 l1 l2 l3 l4 l5 : mV} {s0 s1 : Int} {h : mH} : m_run Z (146, 18, [l0, l1, l2, l3, l4, l5], [(0, s0), (1, s1)], h) = (m_cl Z 145 [(1, s1), (0, s0)] h).bind (m_aft (m_run Z) 146 18 [l0, l1, l2, l3, l4, l5] []) := by
  exact g_inv (k := 0) (m' := 145) (np := 2) (as := [(1, s1), (0, s0)]) (by decide +kernel : decode (m_byt 146) 18 = .ok (.invokestatic 286, 3)) (Or.inr (Or.inr ⟨rfl, rfl, by decide, by decide⟩)) (by decide +kernel) (by decide +kernel) (by decide +kernel) (Nat.le_of_ble_eq_true rfl) rfl (Or.inl rfl)
theorem b_146_21 {Z : mZ} {l0 l1 l2 l3 l4 : mV} {s0 x5 : Int} {h : mH} : m_run Z (146, 21, [l0, l1, l2, l3, l4, (0, x5)], [(1, s0)], h) = m_run Z (146, 5, [l0, l1, m_kill l2, (1, s0), (9, 0), (0, x5 + 1)], [], h) := by
  refine g_lstore_n (k := 3) (by decide +kernel : decode (m_byt 146) 21 = .ok (.lstore_n 3, 1)) (Nat.le_of_ble_eq_true rfl) ?_
  show m_run Z (146, 22, [l0, l1, m_kill l2, (1, s0), (9, 0), (0, x5)], [], h) = _
  refine g_iinc (k := 5) (x := x5) (by decide +kernel : decode (m_byt 146) 22 = .ok (.iinc 5 1, 3)) rfl (Nat.le_of_ble_eq_true rfl) ?_
  show m_run Z (146, 25, [l0, l1, m_kill l2, (1, s0), (9, 0), (0, x5 + 1)], [], h) = _
  refine g_jmp (t := 5) (by decide +kernel : decode (m_byt 146) 25 = .ok (.goto (-20), 3)) (by decide) ?_
  rfl
theorem b_146_28 {Z : mZ} {l0 l1 l2 l3 l4 l5 : mV} {h : mH} : m_run Z (146, 28, [l0, l1, l2, l3, l4, l5], [], h) = m_run Z (146, 31, [l0, l1, l2, l3, m_kill l4, (0, 0)], [], h) := by
  refine g_base (by decide +kernel : decode (m_byt 146) 28 = .ok (.iconst 0, 1)) rfl rfl ?_
  show m_run Z (146, 29, [l0, l1, l2, l3, l4, l5], [(0, 0)], h) = _
  refine g_istore (k := 5) (by decide +kernel : decode (m_byt 146) 29 = .ok (.istore 5, 2)) (Nat.le_of_ble_eq_true rfl) ?_
  show m_run Z (146, 31, [l0, l1, l2, l3, m_kill l4, (0, 0)], [], h) = _
  rfl
theorem b_146_31 {Z : mZ} {l1 l2 l3 l4 : mV} {x5 : Int} {r0 : Nat} {K : Nat → mK} {σ : Nat → Nat → Int} {n e s : Nat} (h0 : q_ob K n r0 6) (h1 : q_rp K r0 0) (h2 : q_ob K n (q_rf K r0 0) 1) : m_run Z (146, 31, [(2, ((r0 : Nat) : Int)), l1, l2, l3, l4, (0, x5)], [], (K, σ, n, e, s)) = if w32 ((σ ((q_rf K r0 0)) 0) * 3) ≤ w32 x5 then m_run Z (146, 71, [(2, ((r0 : Nat) : Int)), l1, l2, l3, l4, (0, x5)], [], (K, σ, n, e, s)) else m_run Z (146, 45, [(2, ((r0 : Nat) : Int)), l1, l2, l3, l4, (0, x5)], [], (K, σ, n, e, s)) := by
  refine g_iload (k := 5) (x := x5) (by decide +kernel : decode (m_byt 146) 31 = .ok (.iload 5, 2)) rfl ?_
  refine g_aload_n (k := 0) (v := (2, ((r0 : Nat) : Int))) (by decide +kernel : decode (m_byt 146) 33 = .ok (.aload_n 0, 1)) rfl (Or.inl rfl) ?_
  refine g_getr (ci := 6) (f := 0) (by decide +kernel : decode (m_byt 146) 34 = .ok (.getfield 12, 3)) (by decide +kernel) (by decide +kernel) (by decide +kernel) h0 h1 ?_
  refine g_getf (ci := 1) (f := 0) (by decide +kernel : decode (m_byt 146) 37 = .ok (.getfield 57, 3)) (by decide +kernel) (by decide +kernel) (by decide +kernel) h2 ?_
  refine g_base (by decide +kernel : decode (m_byt 146) 40 = .ok (.iconst 3, 1)) rfl rfl ?_
  show m_run Z (146, 41, [(2, ((r0 : Nat) : Int)), l1, l2, l3, l4, (0, x5)], [(0, 3), (0, (σ ((q_rf K r0 0)) 0)), (0, x5)], (K, σ, n, e, s)) = _
  refine g_base (by decide +kernel : decode (m_byt 146) 41 = .ok (.imul, 1)) rfl rfl ?_
  show m_run Z (146, 42, [(2, ((r0 : Nat) : Int)), l1, l2, l3, l4, (0, x5)], [(0, ((σ ((q_rf K r0 0)) 0) * 3)), (0, x5)], (K, σ, n, e, s)) = _
  exact g_brq (t := 71) (off := 29) (by decide +kernel : decode (m_byt 146) 42 = .ok (.if_icmp .ge 29, 3)) rfl rfl (by decide)
theorem b_146_45 {Z : mZ} {l1 l2 l4 : mV} {x3 x5 : Int} {r0 : Nat} {K : Nat → mK} {σ : Nat → Nat → Int} {n e s : Nat} (h0 : q_ob K n r0 6) (h1 : q_rp K r0 0) (h2 : ¬ w32 3 = 0) (h3 : q_ob K n (q_rf K r0 0) 1) : m_run Z (146, 45, [(2, ((r0 : Nat) : Int)), l1, l2, (1, x3), l4, (0, x5)], [], (K, σ, n, e, s)) = (m_cl Z 30 [(2, ((q_rf K r0 0 : Nat) : Int)), (0, ((w32 x5).tdiv (w32 3))), (0, ((w32 x5).tmod (w32 3)))] (K, σ, n, e, s)).bind (m_aft (m_run Z) 146 58 [(2, ((r0 : Nat) : Int)), l1, l2, (1, x3), l4, (0, x5)] [(1, x3)]) := by
  refine g_lload_n (k := 3) (x := x3) (by decide +kernel : decode (m_byt 146) 45 = .ok (.lload_n 3, 1)) rfl ?_
  refine g_aload_n (k := 0) (v := (2, ((r0 : Nat) : Int))) (by decide +kernel : decode (m_byt 146) 46 = .ok (.aload_n 0, 1)) rfl (Or.inl rfl) ?_
  refine g_getr (ci := 6) (f := 0) (by decide +kernel : decode (m_byt 146) 47 = .ok (.getfield 12, 3)) (by decide +kernel) (by decide +kernel) (by decide +kernel) h0 h1 ?_
  refine g_iload (k := 5) (x := x5) (by decide +kernel : decode (m_byt 146) 50 = .ok (.iload 5, 2)) rfl ?_
  refine g_base (by decide +kernel : decode (m_byt 146) 52 = .ok (.iconst 3, 1)) rfl rfl ?_
  show m_run Z (146, 53, [(2, ((r0 : Nat) : Int)), l1, l2, (1, x3), l4, (0, x5)], [(0, 3), (0, x5), (2, ((q_rf K r0 0 : Nat) : Int)), (1, x3)], (K, σ, n, e, s)) = _
  refine g_div (by decide +kernel : decode (m_byt 146) 53 = .ok (.idiv, 1)) h2 ?_
  show m_run Z (146, 54, [(2, ((r0 : Nat) : Int)), l1, l2, (1, x3), l4, (0, x5)], [(0, ((w32 x5).tdiv (w32 3))), (2, ((q_rf K r0 0 : Nat) : Int)), (1, x3)], (K, σ, n, e, s)) = _
  refine g_iload (k := 5) (x := x5) (by decide +kernel : decode (m_byt 146) 54 = .ok (.iload 5, 2)) rfl ?_
  refine g_base (by decide +kernel : decode (m_byt 146) 56 = .ok (.iconst 3, 1)) rfl rfl ?_
  show m_run Z (146, 57, [(2, ((r0 : Nat) : Int)), l1, l2, (1, x3), l4, (0, x5)], [(0, 3), (0, x5), (0, ((w32 x5).tdiv (w32 3))), (2, ((q_rf K r0 0 : Nat) : Int)), (1, x3)], (K, σ, n, e, s)) = _
  refine g_rem (by decide +kernel : decode (m_byt 146) 57 = .ok (.irem, 1)) h2 ?_
  show m_run Z (146, 58, [(2, ((r0 : Nat) : Int)), l1, l2, (1, x3), l4, (0, x5)], [(0, ((w32 x5).tmod (w32 3))), (0, ((w32 x5).tdiv (w32 3))), (2, ((q_rf K r0 0 : Nat) : Int)), (1, x3)], (K, σ, n, e, s)) = _
  exact g_inv (k := 1) (m' := 30) (np := 2) (as := [(2, ((q_rf K r0 0 : Nat) : Int)), (0, ((w32 x5).tdiv (w32 3))), (0, ((w32 x5).tmod (w32 3)))]) (by decide +kernel : decode (m_byt 146) 58 = .ok (.invokevirtual 137, 3)) (Or.inl ⟨rfl, rfl⟩) (by decide +kernel) (by decide +kernel) (by decide +kernel) (Nat.le_of_ble_eq_true rfl) rfl (Or.inr (g_rcv (by decide +kernel) h3))
theorem b_146_61 {Z : mZ} {l0 l1 l2 l3 l4 l5 : mV} {s0 s1 : Int} {h : mH} : m_run Z (146, 61, [l0, l1, l2, l3, l4, l5], [(0, s0), (1, s1)], h) = (m_cl Z 145 [(1, s1), (0, s0)] h).bind (m_aft (m_run Z) 146 61 [l0, l1, l2, l3, l4, l5] []) := by
  exact g_inv (k := 0) (m' := 145) (np := 2) (as := [(1, s1), (0, s0)]) (by decide +kernel : decode (m_byt 146) 61 = .ok (.invokestatic 286, 3)) (Or.inr (Or.inr ⟨rfl, rfl, by decide, by decide⟩)) (by decide +kernel) (by decide +kernel) (by decide +kernel) (Nat.le_of_ble_eq_true rfl) rfl (Or.inl rfl)
theorem b_146_64 {Z : mZ} {l0 l1 l2 l3 l4 : mV} {s0 x5 : Int} {h : mH} : m_run Z (146, 64, [l0, l1, l2, l3, l4, (0, x5)], [(1, s0)], h) = m_run Z (146, 31, [l0, l1, m_kill l2, (1, s0), (9, 0), (0, x5 + 1)], [], h) := by
  refine g_lstore_n (k := 3) (by decide +kernel : decode (m_byt 146) 64 = .ok (.lstore_n 3, 1)) (Nat.le_of_ble_eq_true rfl) ?_
  show m_run Z (146, 65, [l0, l1, m_kill l2, (1, s0), (9, 0), (0, x5)], [], h) = _
  refine g_iinc (k := 5) (x := x5) (by decide +kernel : decode (m_byt 146) 65 = .ok (.iinc 5 1, 3)) rfl (Nat.le_of_ble_eq_true rfl) ?_
  show m_run Z (146, 68, [l0, l1, m_kill l2, (1, s0), (9, 0), (0, x5 + 1)], [], h) = _
  refine g_jmp (t := 31) (by decide +kernel : decode (m_byt 146) 68 = .ok (.goto (-37), 3)) (by decide) ?_
  rfl
theorem b_146_71 {Z : mZ} {l0 l1 l2 l3 l4 l5 : mV} {h : mH} : m_run Z (146, 71, [l0, l1, l2, l3, l4, l5], [], h) = m_run Z (146, 74, [l0, l1, l2, l3, m_kill l4, (0, 0)], [], h) := by
  refine g_base (by decide +kernel : decode (m_byt 146) 71 = .ok (.iconst 0, 1)) rfl rfl ?_
  show m_run Z (146, 72, [l0, l1, l2, l3, l4, l5], [(0, 0)], h) = _
  refine g_istore (k := 5) (by decide +kernel : decode (m_byt 146) 72 = .ok (.istore 5, 2)) (Nat.le_of_ble_eq_true rfl) ?_
  show m_run Z (146, 74, [l0, l1, l2, l3, m_kill l4, (0, 0)], [], h) = _
  rfl
theorem b_146_74 {Z : mZ} {l1 l2 l3 l4 : mV} {x5 : Int} {r0 : Nat} {K : Nat → mK} {σ : Nat → Nat → Int} {n e s : Nat} (h0 : q_ob K n r0 6) (h1 : q_rp K r0 0) (h2 : q_ob K n (q_rf K r0 0) 1) : m_run Z (146, 74, [(2, ((r0 : Nat) : Int)), l1, l2, l3, l4, (0, x5)], [], (K, σ, n, e, s)) = if w32 ((σ ((q_rf K r0 0)) 1) * 3) ≤ w32 x5 then m_run Z (146, 114, [(2, ((r0 : Nat) : Int)), l1, l2, l3, l4, (0, x5)], [], (K, σ, n, e, s)) else m_run Z (146, 88, [(2, ((r0 : Nat) : Int)), l1, l2, l3, l4, (0, x5)], [], (K, σ, n, e, s)) := by
  refine g_iload (k := 5) (x := x5) (by decide +kernel : decode (m_byt 146) 74 = .ok (.iload 5, 2)) rfl ?_
  refine g_aload_n (k := 0) (v := (2, ((r0 : Nat) : Int))) (by decide +kernel : decode (m_byt 146) 76 = .ok (.aload_n 0, 1)) rfl (Or.inl rfl) ?_
  refine g_getr (ci := 6) (f := 0) (by decide +kernel : decode (m_byt 146) 77 = .ok (.getfield 12, 3)) (by decide +kernel) (by decide +kernel) (by decide +kernel) h0 h1 ?_
  refine g_getf (ci := 1) (f := 1) (by decide +kernel : decode (m_byt 146) 80 = .ok (.getfield 319, 3)) (by decide +kernel) (by decide +kernel) (by decide +kernel) h2 ?_
  refine g_base (by decide +kernel : decode (m_byt 146) 83 = .ok (.iconst 3, 1)) rfl rfl ?_
  show m_run Z (146, 84, [(2, ((r0 : Nat) : Int)), l1, l2, l3, l4, (0, x5)], [(0, 3), (0, (σ ((q_rf K r0 0)) 1)), (0, x5)], (K, σ, n, e, s)) = _
  refine g_base (by decide +kernel : decode (m_byt 146) 84 = .ok (.imul, 1)) rfl rfl ?_
  show m_run Z (146, 85, [(2, ((r0 : Nat) : Int)), l1, l2, l3, l4, (0, x5)], [(0, ((σ ((q_rf K r0 0)) 1) * 3)), (0, x5)], (K, σ, n, e, s)) = _
  exact g_brq (t := 114) (off := 29) (by decide +kernel : decode (m_byt 146) 85 = .ok (.if_icmp .ge 29, 3)) rfl rfl (by decide)
theorem b_146_88 {Z : mZ} {l1 l2 l4 : mV} {x3 x5 : Int} {r0 : Nat} {K : Nat → mK} {σ : Nat → Nat → Int} {n e s : Nat} (h0 : q_ob K n r0 6) (h1 : q_rp K r0 0) (h2 : ¬ w32 3 = 0) (h3 : q_ob K n (q_rf K r0 0) 1) : m_run Z (146, 88, [(2, ((r0 : Nat) : Int)), l1, l2, (1, x3), l4, (0, x5)], [], (K, σ, n, e, s)) = (m_cl Z 29 [(2, ((q_rf K r0 0 : Nat) : Int)), (0, ((w32 x5).tdiv (w32 3))), (0, ((w32 x5).tmod (w32 3)))] (K, σ, n, e, s)).bind (m_aft (m_run Z) 146 101 [(2, ((r0 : Nat) : Int)), l1, l2, (1, x3), l4, (0, x5)] [(1, x3)]) := by
  refine g_lload_n (k := 3) (x := x3) (by decide +kernel : decode (m_byt 146) 88 = .ok (.lload_n 3, 1)) rfl ?_
  refine g_aload_n (k := 0) (v := (2, ((r0 : Nat) : Int))) (by decide +kernel : decode (m_byt 146) 89 = .ok (.aload_n 0, 1)) rfl (Or.inl rfl) ?_
  refine g_getr (ci := 6) (f := 0) (by decide +kernel : decode (m_byt 146) 90 = .ok (.getfield 12, 3)) (by decide +kernel) (by decide +kernel) (by decide +kernel) h0 h1 ?_
  refine g_iload (k := 5) (x := x5) (by decide +kernel : decode (m_byt 146) 93 = .ok (.iload 5, 2)) rfl ?_
  refine g_base (by decide +kernel : decode (m_byt 146) 95 = .ok (.iconst 3, 1)) rfl rfl ?_
  show m_run Z (146, 96, [(2, ((r0 : Nat) : Int)), l1, l2, (1, x3), l4, (0, x5)], [(0, 3), (0, x5), (2, ((q_rf K r0 0 : Nat) : Int)), (1, x3)], (K, σ, n, e, s)) = _
  refine g_div (by decide +kernel : decode (m_byt 146) 96 = .ok (.idiv, 1)) h2 ?_
  show m_run Z (146, 97, [(2, ((r0 : Nat) : Int)), l1, l2, (1, x3), l4, (0, x5)], [(0, ((w32 x5).tdiv (w32 3))), (2, ((q_rf K r0 0 : Nat) : Int)), (1, x3)], (K, σ, n, e, s)) = _
  refine g_iload (k := 5) (x := x5) (by decide +kernel : decode (m_byt 146) 97 = .ok (.iload 5, 2)) rfl ?_
  refine g_base (by decide +kernel : decode (m_byt 146) 99 = .ok (.iconst 3, 1)) rfl rfl ?_
  show m_run Z (146, 100, [(2, ((r0 : Nat) : Int)), l1, l2, (1, x3), l4, (0, x5)], [(0, 3), (0, x5), (0, ((w32 x5).tdiv (w32 3))), (2, ((q_rf K r0 0 : Nat) : Int)), (1, x3)], (K, σ, n, e, s)) = _
  refine g_rem (by decide +kernel : decode (m_byt 146) 100 = .ok (.irem, 1)) h2 ?_
  show m_run Z (146, 101, [(2, ((r0 : Nat) : Int)), l1, l2, (1, x3), l4, (0, x5)], [(0, ((w32 x5).tmod (w32 3))), (0, ((w32 x5).tdiv (w32 3))), (2, ((q_rf K r0 0 : Nat) : Int)), (1, x3)], (K, σ, n, e, s)) = _
  exact g_inv (k := 1) (m' := 29) (np := 2) (as := [(2, ((q_rf K r0 0 : Nat) : Int)), (0, ((w32 x5).tdiv (w32 3))), (0, ((w32 x5).tmod (w32 3)))]) (by decide +kernel : decode (m_byt 146) 101 = .ok (.invokevirtual 131, 3)) (Or.inl ⟨rfl, rfl⟩) (by decide +kernel) (by decide +kernel) (by decide +kernel) (Nat.le_of_ble_eq_true rfl) rfl (Or.inr (g_rcv (by decide +kernel) h3))
theorem b_146_104 {Z : mZ} {l0 l1 l2 l3 l4 l5 : mV} {s0 s1 : Int} {h : mH} : m_run Z (146, 104, [l0, l1, l2, l3, l4, l5], [(0, s0), (1, s1)], h) = (m_cl Z 145 [(1, s1), (0, s0)] h).bind (m_aft (m_run Z) 146 104 [l0, l1, l2, l3, l4, l5] []) := by
  exact g_inv (k := 0) (m' := 145) (np := 2) (as := [(1, s1), (0, s0)]) (by decide +kernel : decode (m_byt 146) 104 = .ok (.invokestatic 286, 3)) (Or.inr (Or.inr ⟨rfl, rfl, by decide, by decide⟩)) (by decide +kernel) (by decide +kernel) (by decide +kernel) (Nat.le_of_ble_eq_true rfl) rfl (Or.inl rfl)
theorem b_146_107 {Z : mZ} {l0 l1 l2 l3 l4 : mV} {s0 x5 : Int} {h : mH} : m_run Z (146, 107, [l0, l1, l2, l3, l4, (0, x5)], [(1, s0)], h) = m_run Z (146, 74, [l0, l1, m_kill l2, (1, s0), (9, 0), (0, x5 + 1)], [], h) := by
  refine g_lstore_n (k := 3) (by decide +kernel : decode (m_byt 146) 107 = .ok (.lstore_n 3, 1)) (Nat.le_of_ble_eq_true rfl) ?_
  show m_run Z (146, 108, [l0, l1, m_kill l2, (1, s0), (9, 0), (0, x5)], [], h) = _
  refine g_iinc (k := 5) (x := x5) (by decide +kernel : decode (m_byt 146) 108 = .ok (.iinc 5 1, 3)) rfl (Nat.le_of_ble_eq_true rfl) ?_
  show m_run Z (146, 111, [l0, l1, m_kill l2, (1, s0), (9, 0), (0, x5 + 1)], [], h) = _
  refine g_jmp (t := 74) (by decide +kernel : decode (m_byt 146) 111 = .ok (.goto (-37), 3)) (by decide) ?_
  rfl
theorem b_146_114 {Z : mZ} {l0 l1 l2 l3 l4 l5 : mV} {h : mH} : m_run Z (146, 114, [l0, l1, l2, l3, l4, l5], [], h) = m_run Z (146, 117, [l0, l1, l2, l3, m_kill l4, (0, 0)], [], h) := by
  refine g_base (by decide +kernel : decode (m_byt 146) 114 = .ok (.iconst 0, 1)) rfl rfl ?_
  show m_run Z (146, 115, [l0, l1, l2, l3, l4, l5], [(0, 0)], h) = _
  refine g_istore (k := 5) (by decide +kernel : decode (m_byt 146) 115 = .ok (.istore 5, 2)) (Nat.le_of_ble_eq_true rfl) ?_
  show m_run Z (146, 117, [l0, l1, l2, l3, m_kill l4, (0, 0)], [], h) = _
  rfl
theorem b_146_117 {Z : mZ} {l1 l2 l3 l4 : mV} {x5 : Int} {r0 : Nat} {K : Nat → mK} {σ : Nat → Nat → Int} {n e s : Nat} (h0 : q_ob K n r0 6) (h1 : q_rp K r0 0) (h2 : q_ob K n (q_rf K r0 0) 1) : m_run Z (146, 117, [(2, ((r0 : Nat) : Int)), l1, l2, l3, l4, (0, x5)], [], (K, σ, n, e, s)) = if w32 ((σ ((q_rf K r0 0)) 2) * 3) ≤ w32 x5 then m_run Z (146, 157, [(2, ((r0 : Nat) : Int)), l1, l2, l3, l4, (0, x5)], [], (K, σ, n, e, s)) else m_run Z (146, 131, [(2, ((r0 : Nat) : Int)), l1, l2, l3, l4, (0, x5)], [], (K, σ, n, e, s)) := by
  refine g_iload (k := 5) (x := x5) (by decide +kernel : decode (m_byt 146) 117 = .ok (.iload 5, 2)) rfl ?_
  refine g_aload_n (k := 0) (v := (2, ((r0 : Nat) : Int))) (by decide +kernel : decode (m_byt 146) 119 = .ok (.aload_n 0, 1)) rfl (Or.inl rfl) ?_
  refine g_getr (ci := 6) (f := 0) (by decide +kernel : decode (m_byt 146) 120 = .ok (.getfield 12, 3)) (by decide +kernel) (by decide +kernel) (by decide +kernel) h0 h1 ?_
  refine g_getf (ci := 1) (f := 2) (by decide +kernel : decode (m_byt 146) 123 = .ok (.getfield 322, 3)) (by decide +kernel) (by decide +kernel) (by decide +kernel) h2 ?_
  refine g_base (by decide +kernel : decode (m_byt 146) 126 = .ok (.iconst 3, 1)) rfl rfl ?_
  show m_run Z (146, 127, [(2, ((r0 : Nat) : Int)), l1, l2, l3, l4, (0, x5)], [(0, 3), (0, (σ ((q_rf K r0 0)) 2)), (0, x5)], (K, σ, n, e, s)) = _
  refine g_base (by decide +kernel : decode (m_byt 146) 127 = .ok (.imul, 1)) rfl rfl ?_
  show m_run Z (146, 128, [(2, ((r0 : Nat) : Int)), l1, l2, l3, l4, (0, x5)], [(0, ((σ ((q_rf K r0 0)) 2) * 3)), (0, x5)], (K, σ, n, e, s)) = _
  exact g_brq (t := 157) (off := 29) (by decide +kernel : decode (m_byt 146) 128 = .ok (.if_icmp .ge 29, 3)) rfl rfl (by decide)
theorem b_146_131 {Z : mZ} {l1 l2 l4 : mV} {x3 x5 : Int} {r0 : Nat} {K : Nat → mK} {σ : Nat → Nat → Int} {n e s : Nat} (h0 : q_ob K n r0 6) (h1 : q_rp K r0 0) (h2 : ¬ w32 3 = 0) (h3 : q_ob K n (q_rf K r0 0) 1) : m_run Z (146, 131, [(2, ((r0 : Nat) : Int)), l1, l2, (1, x3), l4, (0, x5)], [], (K, σ, n, e, s)) = (m_cl Z 32 [(2, ((q_rf K r0 0 : Nat) : Int)), (0, ((w32 x5).tdiv (w32 3))), (0, ((w32 x5).tmod (w32 3)))] (K, σ, n, e, s)).bind (m_aft (m_run Z) 146 144 [(2, ((r0 : Nat) : Int)), l1, l2, (1, x3), l4, (0, x5)] [(1, x3)]) := by
  refine g_lload_n (k := 3) (x := x3) (by decide +kernel : decode (m_byt 146) 131 = .ok (.lload_n 3, 1)) rfl ?_
  refine g_aload_n (k := 0) (v := (2, ((r0 : Nat) : Int))) (by decide +kernel : decode (m_byt 146) 132 = .ok (.aload_n 0, 1)) rfl (Or.inl rfl) ?_
  refine g_getr (ci := 6) (f := 0) (by decide +kernel : decode (m_byt 146) 133 = .ok (.getfield 12, 3)) (by decide +kernel) (by decide +kernel) (by decide +kernel) h0 h1 ?_
  refine g_iload (k := 5) (x := x5) (by decide +kernel : decode (m_byt 146) 136 = .ok (.iload 5, 2)) rfl ?_
  refine g_base (by decide +kernel : decode (m_byt 146) 138 = .ok (.iconst 3, 1)) rfl rfl ?_
  show m_run Z (146, 139, [(2, ((r0 : Nat) : Int)), l1, l2, (1, x3), l4, (0, x5)], [(0, 3), (0, x5), (2, ((q_rf K r0 0 : Nat) : Int)), (1, x3)], (K, σ, n, e, s)) = _
  refine g_div (by decide +kernel : decode (m_byt 146) 139 = .ok (.idiv, 1)) h2 ?_
  show m_run Z (146, 140, [(2, ((r0 : Nat) : Int)), l1, l2, (1, x3), l4, (0, x5)], [(0, ((w32 x5).tdiv (w32 3))), (2, ((q_rf K r0 0 : Nat) : Int)), (1, x3)], (K, σ, n, e, s)) = _
  refine g_iload (k := 5) (x := x5) (by decide +kernel : decode (m_byt 146) 140 = .ok (.iload 5, 2)) rfl ?_
  refine g_base (by decide +kernel : decode (m_byt 146) 142 = .ok (.iconst 3, 1)) rfl rfl ?_
  show m_run Z (146, 143, [(2, ((r0 : Nat) : Int)), l1, l2, (1, x3), l4, (0, x5)], [(0, 3), (0, x5), (0, ((w32 x5).tdiv (w32 3))), (2, ((q_rf K r0 0 : Nat) : Int)), (1, x3)], (K, σ, n, e, s)) = _
  refine g_rem (by decide +kernel : decode (m_byt 146) 143 = .ok (.irem, 1)) h2 ?_
  show m_run Z (146, 144, [(2, ((r0 : Nat) : Int)), l1, l2, (1, x3), l4, (0, x5)], [(0, ((w32 x5).tmod (w32 3))), (0, ((w32 x5).tdiv (w32 3))), (2, ((q_rf K r0 0 : Nat) : Int)), (1, x3)], (K, σ, n, e, s)) = _
  exact g_inv (k := 1) (m' := 32) (np := 2) (as := [(2, ((q_rf K r0 0 : Nat) : Int)), (0, ((w32 x5).tdiv (w32 3))), (0, ((w32 x5).tmod (w32 3)))]) (by decide +kernel : decode (m_byt 146) 144 = .ok (.invokevirtual 140, 3)) (Or.inl ⟨rfl, rfl⟩) (by decide +kernel) (by decide +kernel) (by decide +kernel) (Nat.le_of_ble_eq_true rfl) rfl (Or.inr (g_rcv (by decide +kernel) h3))
theorem b_146_147 {Z : mZ} {l0 l1 l2 l3 l4 l5 : mV} {s0 s1 : Int} {h : mH} : m_run Z (146, 147, [l0, l1, l2, l3, l4, l5], [(0, s0), (1, s1)], h) = (m_cl Z 145 [(1, s1), (0, s0)] h).bind (m_aft (m_run Z) 146 147 [l0, l1, l2, l3, l4, l5] []) := by
  exact g_inv (k := 0) (m' := 145) (np := 2) (as := [(1, s1), (0, s0)]) (by decide +kernel : decode (m_byt 146) 147 = .ok (.invokestatic 286, 3)) (Or.inr (Or.inr ⟨rfl, rfl, by decide, by decide⟩)) (by decide +kernel) (by decide +kernel) (by decide +kernel) (Nat.le_of_ble_eq_true rfl) rfl (Or.inl rfl)
theorem b_146_150 {Z : mZ} {l0 l1 l2 l3 l4 : mV} {s0 x5 : Int} {h : mH} : m_run Z (146, 150, [l0, l1, l2, l3, l4, (0, x5)], [(1, s0)], h) = m_run Z (146, 117, [l0, l1, m_kill l2, (1, s0), (9, 0), (0, x5 + 1)], [], h) := by
  refine g_lstore_n (k := 3) (by decide +kernel : decode (m_byt 146) 150 = .ok (.lstore_n 3, 1)) (Nat.le_of_ble_eq_true rfl) ?_
  show m_run Z (146, 151, [l0, l1, m_kill l2, (1, s0), (9, 0), (0, x5)], [], h) = _
  refine g_iinc (k := 5) (x := x5) (by decide +kernel : decode (m_byt 146) 151 = .ok (.iinc 5 1, 3)) rfl (Nat.le_of_ble_eq_true rfl) ?_
  show m_run Z (146, 154, [l0, l1, m_kill l2, (1, s0), (9, 0), (0, x5 + 1)], [], h) = _
  refine g_jmp (t := 117) (by decide +kernel : decode (m_byt 146) 154 = .ok (.goto (-37), 3)) (by decide) ?_
  rfl
theorem b_146_157 {Z : mZ} {l0 l1 l2 l4 l5 : mV} {x3 : Int} {h : mH} : m_run Z (146, 157, [l0, l1, l2, (1, x3), l4, l5], [], h) = some (.inl (1, x3), h) := by
  refine g_lload_n (k := 3) (x := x3) (by decide +kernel : decode (m_byt 146) 157 = .ok (.lload_n 3, 1)) rfl ?_
  exact g_lret (by decide +kernel : decode (m_byt 146) 158 = .ok (.lreturn, 1)) (by decide +kernel)
theorem e_147 {Z : mZ} {r0 : Nat} {x1 : Int} {h : mH} : m_cl Z 147 [(2, ((r0 : Nat) : Int)), (1, x1)] h = m_run Z (147, 0, [(2, ((r0 : Nat) : Int)), (1, x1), (9, 0), (9, 0), (9, 0), (9, 0), (9, 0), (9, 0)], [], h) := g_ent (k := 8) (by decide) (by decide +kernel) (Nat.le_of_ble_eq_true rfl) (by decide +kernel) rfl
theorem b_147_0 {Z : mZ} {l1 l2 l3 l4 l5 l6 l7 : mV} {r0 : Nat} {K : Nat → mK} {σ : Nat → Nat → Int} {n e s : Nat} (h0 : q_ob K n r0 6) (h1 : q_rp K r0 0) (h2 : q_ob K n (q_rf K r0 0) 1) : m_run Z (147, 0, [(2, ((r0 : Nat) : Int)), l1, l2, l3, l4, l5, l6, l7], [], (K, σ, n, e, s)) = (m_cl Z 19 [(2, ((q_rf K r0 0 : Nat) : Int))] (K, σ, n, e, s)).bind (m_aft (m_run Z) 147 4 [(2, ((r0 : Nat) : Int)), l1, l2, l3, l4, l5, l6, l7] []) := by
  refine g_aload_n (k := 0) (v := (2, ((r0 : Nat) : Int))) (by decide +kernel : decode (m_byt 147) 0 = .ok (.aload_n 0, 1)) rfl (Or.inl rfl) ?_
  refine g_getr (ci := 6) (f := 0) (by decide +kernel : decode (m_byt 147) 1 = .ok (.getfield 12, 3)) (by decide +kernel) (by decide +kernel) (by decide +kernel) h0 h1 ?_
  exact g_inv (k := 1) (m' := 19) (np := 0) (as := [(2, ((q_rf K r0 0 : Nat) : Int))]) (by decide +kernel : decode (m_byt 147) 4 = .ok (.invokevirtual 239, 3)) (Or.inl ⟨rfl, rfl⟩) (by decide +kernel) (by decide +kernel) (by decide +kernel) (Nat.le_of_ble_eq_true rfl) rfl (Or.inr (g_rcv (by decide +kernel) h2))
theorem b_147_7 {Z : mZ} {l1 l2 l3 l4 l5 l6 l7 : mV} {s0 : Int} {r0 : Nat} {K : Nat → mK} {σ : Nat → Nat → Int} {n e s : Nat} (h0 : q_ob K n r0 6) (h1 : q_rp K r0 4) (h2 : q_ob K n (q_rf K r0 4) 5) : m_run Z (147, 7, [(2, ((r0 : Nat) : Int)), l1, l2, l3, l4, l5, l6, l7], [(0, s0)], (K, σ, n, e, s)) = (m_cl Z 88 [(2, ((q_rf K r0 4 : Nat) : Int)), (0, s0)] (K, σ, n, e, s)).bind (m_aft (m_run Z) 147 13 [(2, ((r0 : Nat) : Int)), l1, m_kill l2, (0, s0), l4, l5, l6, l7] []) := by
  refine g_istore_n (k := 3) (by decide +kernel : decode (m_byt 147) 7 = .ok (.istore_n 3, 1)) (Nat.le_of_ble_eq_true rfl) ?_
  show m_run Z (147, 8, [(2, ((r0 : Nat) : Int)), l1, m_kill l2, (0, s0), l4, l5, l6, l7], [], (K, σ, n, e, s)) = _
  refine g_aload_n (k := 0) (v := (2, ((r0 : Nat) : Int))) (by decide +kernel : decode (m_byt 147) 8 = .ok (.aload_n 0, 1)) rfl (Or.inl rfl) ?_
  refine g_getr (ci := 6) (f := 4) (by decide +kernel : decode (m_byt 147) 9 = .ok (.getfield 26, 3)) (by decide +kernel) (by decide +kernel) (by decide +kernel) h0 h1 ?_
  refine g_iload_n (k := 3) (x := s0) (by decide +kernel : decode (m_byt 147) 12 = .ok (.iload_n 3, 1)) rfl ?_
  exact g_inv (k := 1) (m' := 88) (np := 1) (as := [(2, ((q_rf K r0 4 : Nat) : Int)), (0, s0)]) (by decide +kernel : decode (m_byt 147) 13 = .ok (.invokevirtual 203, 3)) (Or.inl ⟨rfl, rfl⟩) (by decide +kernel) (by decide +kernel) (by decide +kernel) (Nat.le_of_ble_eq_true rfl) rfl (Or.inr (g_rcv (by decide +kernel) h2))
theorem b_147_16 {Z : mZ} {l2 l3 l4 l5 l6 l7 : mV} {x1 : Int} {r0 : Nat} {K : Nat → mK} {σ : Nat → Nat → Int} {n e s : Nat} (h0 : q_ob K n r0 6) : m_run Z (147, 16, [(2, ((r0 : Nat) : Int)), (1, x1), l2, l3, l4, l5, l6, l7], [], (K, σ, n, e, s)) = (m_cl Z 143 [(2, ((r0 : Nat) : Int)), (0, 3)] (K, σ, n, e, s)).bind (m_aft (m_run Z) 147 19 [(2, ((r0 : Nat) : Int)), (1, x1), l2, l3, l4, l5, l6, l7] [(1, x1)]) := by
  refine g_lload_n (k := 1) (x := x1) (by decide +kernel : decode (m_byt 147) 16 = .ok (.lload_n 1, 1)) rfl ?_
  refine g_aload_n (k := 0) (v := (2, ((r0 : Nat) : Int))) (by decide +kernel : decode (m_byt 147) 17 = .ok (.aload_n 0, 1)) rfl (Or.inl rfl) ?_
  refine g_base (by decide +kernel : decode (m_byt 147) 18 = .ok (.iconst 3, 1)) rfl rfl ?_
  show m_run Z (147, 19, [(2, ((r0 : Nat) : Int)), (1, x1), l2, l3, l4, l5, l6, l7], [(0, 3), (2, ((r0 : Nat) : Int)), (1, x1)], (K, σ, n, e, s)) = _
  exact g_inv (k := 1) (m' := 143) (np := 1) (as := [(2, ((r0 : Nat) : Int)), (0, 3)]) (by decide +kernel : decode (m_byt 147) 19 = .ok (.invokevirtual 212, 3)) (Or.inl ⟨rfl, rfl⟩) (by decide +kernel) (by decide +kernel) (by decide +kernel) (Nat.le_of_ble_eq_true rfl) rfl (Or.inr (g_rcv (by decide +kernel) h0))
theorem b_147_22 {Z : mZ} {l0 l1 l2 l3 l4 l5 l6 l7 : mV} {s0 s1 : Int} {h : mH} : m_run Z (147, 22, [l0, l1, l2, l3, l4, l5, l6, l7], [(0, s0), (1, s1)], h) = (m_cl Z 145 [(1, s1), (0, s0)] h).bind (m_aft (m_run Z) 147 22 [l0, l1, l2, l3, l4, l5, l6, l7] []) := by
  exact g_inv (k := 0) (m' := 145) (np := 2) (as := [(1, s1), (0, s0)]) (by decide +kernel : decode (m_byt 147) 22 = .ok (.invokestatic 286, 3)) (Or.inr (Or.inr ⟨rfl, rfl, by decide, by decide⟩)) (by decide +kernel) (by decide +kernel) (by decide +kernel) (Nat.le_of_ble_eq_true rfl) rfl (Or.inl rfl)
theorem b_147_25 {Z : mZ} {l1 l2 l4 l5 l6 l7 : mV} {s0 x3 : Int} {r0 : Nat} {K : Nat → mK} {σ : Nat → Nat → Int} {n e s : Nat} (h0 : q_ob K n r0 6) : m_run Z (147, 25, [(2, ((r0 : Nat) : Int)), l1, l2, (0, x3), l4, l5, l6, l7], [(1, s0)], (K, σ, n, e, s)) = (m_cl Z 143 [(2, ((r0 : Nat) : Int)), (0, 4)] (K, σ, n, e, s)).bind (m_aft (m_run Z) 147 31 [(2, ((r0 : Nat) : Int)), l1, l2, (0, x3), (1, s0), (9, 0), l6, l7] [(1, s0)]) := by
  refine g_lstore (k := 4) (by decide +kernel : decode (m_byt 147) 25 = .ok (.lstore 4, 2)) (Nat.le_of_ble_eq_true rfl) ?_
  show m_run Z (147, 27, [(2, ((r0 : Nat) : Int)), l1, l2, (0, x3), (1, s0), (9, 0), l6, l7], [], (K, σ, n, e, s)) = _
  refine g_lload (k := 4) (x := s0) (by decide +kernel : decode (m_byt 147) 27 = .ok (.lload 4, 2)) rfl ?_
  refine g_aload_n (k := 0) (v := (2, ((r0 : Nat) : Int))) (by decide +kernel : decode (m_byt 147) 29 = .ok (.aload_n 0, 1)) rfl (Or.inl rfl) ?_
  refine g_base (by decide +kernel : decode (m_byt 147) 30 = .ok (.iconst 4, 1)) rfl rfl ?_
  show m_run Z (147, 31, [(2, ((r0 : Nat) : Int)), l1, l2, (0, x3), (1, s0), (9, 0), l6, l7], [(0, 4), (2, ((r0 : Nat) : Int)), (1, s0)], (K, σ, n, e, s)) = _
  exact g_inv (k := 1) (m' := 143) (np := 1) (as := [(2, ((r0 : Nat) : Int)), (0, 4)]) (by decide +kernel : decode (m_byt 147) 31 = .ok (.invokevirtual 212, 3)) (Or.inl ⟨rfl, rfl⟩) (by decide +kernel) (by decide +kernel) (by decide +kernel) (Nat.le_of_ble_eq_true rfl) rfl (Or.inr (g_rcv (by decide +kernel) h0))
theorem b_147_34 {Z : mZ} {l0 l1 l2 l3 l4 l5 l6 l7 : mV} {s0 s1 : Int} {h : mH} : m_run Z (147, 34, [l0, l1, l2, l3, l4, l5, l6, l7], [(0, s0), (1, s1)], h) = (m_cl Z 145 [(1, s1), (0, s0)] h).bind (m_aft (m_run Z) 147 34 [l0, l1, l2, l3, l4, l5, l6, l7] []) := by
  exact g_inv (k := 0) (m' := 145) (np := 2) (as := [(1, s1), (0, s0)]) (by decide +kernel : decode (m_byt 147) 34 = .ok (.invokestatic 286, 3)) (Or.inr (Or.inr ⟨rfl, rfl, by decide, by decide⟩)) (by decide +kernel) (by decide +kernel) (by decide +kernel) (Nat.le_of_ble_eq_true rfl) rfl (Or.inl rfl)
theorem b_147_37 {Z : mZ} {l0 l1 l2 l4 l5 l6 l7 : mV} {s0 x3 : Int} {h : mH} : m_run Z (147, 37, [l0, l1, l2, (0, x3), l4, l5, l6, l7], [(1, s0)], h) = m_run Z (147, 42, [l0, l1, l2, (0, x3), (1, s0), (9, 0), (0, 0), l7], [], h) := by
  refine g_lstore (k := 4) (by decide +kernel : decode (m_byt 147) 37 = .ok (.lstore 4, 2)) (Nat.le_of_ble_eq_true rfl) ?_
  show m_run Z (147, 39, [l0, l1, l2, (0, x3), (1, s0), (9, 0), l6, l7], [], h) = _
  refine g_base (by decide +kernel : decode (m_byt 147) 39 = .ok (.iconst 0, 1)) rfl rfl ?_
  show m_run Z (147, 40, [l0, l1, l2, (0, x3), (1, s0), (9, 0), l6, l7], [(0, 0)], h) = _
  refine g_istore (k := 6) (by decide +kernel : decode (m_byt 147) 40 = .ok (.istore 6, 2)) (Nat.le_of_ble_eq_true rfl) ?_
  show m_run Z (147, 42, [l0, l1, l2, (0, x3), (1, s0), (9, 0), (0, 0), l7], [], h) = _
  rfl
theorem b_147_42 {Z : mZ} {l0 l1 l2 l3 l4 l5 l7 : mV} {x6 : Int} {h : mH} : m_run Z (147, 42, [l0, l1, l2, l3, l4, l5, (0, x6), l7], [], h) = if w32 3 ≤ w32 x6 then m_run Z (147, 67, [l0, l1, l2, l3, l4, l5, (0, x6), l7], [], h) else m_run Z (147, 48, [l0, l1, l2, l3, l4, l5, (0, x6), l7], [], h) := by
  refine g_iload (k := 6) (x := x6) (by decide +kernel : decode (m_byt 147) 42 = .ok (.iload 6, 2)) rfl ?_
  refine g_base (by decide +kernel : decode (m_byt 147) 44 = .ok (.iconst 3, 1)) rfl rfl ?_
  show m_run Z (147, 45, [l0, l1, l2, l3, l4, l5, (0, x6), l7], [(0, 3), (0, x6)], h) = _
  exact g_brq (t := 67) (off := 22) (by decide +kernel : decode (m_byt 147) 45 = .ok (.if_icmp .ge 22, 3)) rfl rfl (by decide)
theorem b_147_48 {Z : mZ} {l1 l2 l3 l5 l7 : mV} {x4 x6 : Int} {r0 : Nat} {K : Nat → mK} {σ : Nat → Nat → Int} {n e s : Nat} (h0 : q_ob K n r0 6) : m_run Z (147, 48, [(2, ((r0 : Nat) : Int)), l1, l2, l3, (1, x4), l5, (0, x6), l7], [], (K, σ, n, e, s)) = (m_cl Z 143 [(2, ((r0 : Nat) : Int)), (0, x6)] (K, σ, n, e, s)).bind (m_aft (m_run Z) 147 53 [(2, ((r0 : Nat) : Int)), l1, l2, l3, (1, x4), l5, (0, x6), l7] [(1, x4)]) := by
  refine g_lload (k := 4) (x := x4) (by decide +kernel : decode (m_byt 147) 48 = .ok (.lload 4, 2)) rfl ?_
  refine g_aload_n (k := 0) (v := (2, ((r0 : Nat) : Int))) (by decide +kernel : decode (m_byt 147) 50 = .ok (.aload_n 0, 1)) rfl (Or.inl rfl) ?_
  refine g_iload (k := 6) (x := x6) (by decide +kernel : decode (m_byt 147) 51 = .ok (.iload 6, 2)) rfl ?_
  exact g_inv (k := 1) (m' := 143) (np := 1) (as := [(2, ((r0 : Nat) : Int)), (0, x6)]) (by decide +kernel : decode (m_byt 147) 53 = .ok (.invokevirtual 212, 3)) (Or.inl ⟨rfl, rfl⟩) (by decide +kernel) (by decide +kernel) (by decide +kernel) (Nat.le_of_ble_eq_true rfl) rfl (Or.inr (g_rcv (by decide +kernel) h0))
theorem b_147_56 {Z : mZ} {l0 l1 l2 l3 l4 l5 l6 l7 : mV} {s0 s1 : Int} {h : mH} : m_run Z (147, 56, [l0, l1, l2, l3, l4, l5, l6, l7], [(0, s0), (1, s1)], h) = (m_cl Z 145 [(1, s1), (0, s0)] h).bind (m_aft (m_run Z) 147 56 [l0, l1, l2, l3, l4, l5, l6, l7] []) := by
  exact g_inv (k := 0) (m' := 145) (np := 2) (as := [(1, s1), (0, s0)]) (by decide +kernel : decode (m_byt 147) 56 = .ok (.invokestatic 286, 3)) (Or.inr (Or.inr ⟨rfl, rfl, by decide, by decide⟩)) (by decide +kernel) (by decide +kernel) (by decide +kernel) (Nat.le_of_ble_eq_true rfl) rfl (Or.inl rfl)
theorem b_147_59 {Z : mZ} {l0 l1 l2 l4 l5 l7 : mV} {s0 x3 x6 : Int} {h : mH} : m_run Z (147, 59, [l0, l1, l2, (0, x3), l4, l5, (0, x6), l7], [(1, s0)], h) = m_run Z (147, 42, [l0, l1, l2, (0, x3), (1, s0), (9, 0), (0, x6 + 1), l7], [], h) := by
  refine g_lstore (k := 4) (by decide +kernel : decode (m_byt 147) 59 = .ok (.lstore 4, 2)) (Nat.le_of_ble_eq_true rfl) ?_
  show m_run Z (147, 61, [l0, l1, l2, (0, x3), (1, s0), (9, 0), (0, x6), l7], [], h) = _
  refine g_iinc (k := 6) (x := x6) (by decide +kernel : decode (m_byt 147) 61 = .ok (.iinc 6 1, 3)) rfl (Nat.le_of_ble_eq_true rfl) ?_
  show m_run Z (147, 64, [l0, l1, l2, (0, x3), (1, s0), (9, 0), (0, x6 + 1), l7], [], h) = _
  refine g_jmp (t := 42) (by decide +kernel : decode (m_byt 147) 64 = .ok (.goto (-22), 3)) (by decide) ?_
  rfl
theorem b_147_67 {Z : mZ} {l1 l2 l5 l6 l7 : mV} {x4 x3 : Int} {r0 : Nat} {K : Nat → mK} {σ : Nat → Nat → Int} {n e s : Nat} (h0 : q_ob K n r0 6) (h1 : q_rp K r0 4) (h2 : q_ob K n (q_rf K r0 4) 5) : m_run Z (147, 67, [(2, ((r0 : Nat) : Int)), l1, l2, (0, x3), (1, x4), l5, l6, l7], [], (K, σ, n, e, s)) = (m_cl Z 93 [(2, ((q_rf K r0 4 : Nat) : Int)), (0, x3)] (K, σ, n, e, s)).bind (m_aft (m_run Z) 147 74 [(2, ((r0 : Nat) : Int)), l1, l2, (0, x3), (1, x4), l5, l6, l7] [(1, x4)]) := by
  refine g_lload (k := 4) (x := x4) (by decide +kernel : decode (m_byt 147) 67 = .ok (.lload 4, 2)) rfl ?_
  refine g_aload_n (k := 0) (v := (2, ((r0 : Nat) : Int))) (by decide +kernel : decode (m_byt 147) 69 = .ok (.aload_n 0, 1)) rfl (Or.inl rfl) ?_
  refine g_getr (ci := 6) (f := 4) (by decide +kernel : decode (m_byt 147) 70 = .ok (.getfield 26, 3)) (by decide +kernel) (by decide +kernel) (by decide +kernel) h0 h1 ?_
  refine g_iload_n (k := 3) (x := x3) (by decide +kernel : decode (m_byt 147) 73 = .ok (.iload_n 3, 1)) rfl ?_
  exact g_inv (k := 1) (m' := 93) (np := 1) (as := [(2, ((q_rf K r0 4 : Nat) : Int)), (0, x3)]) (by decide +kernel : decode (m_byt 147) 74 = .ok (.invokevirtual 215, 3)) (Or.inl ⟨rfl, rfl⟩) (by decide +kernel) (by decide +kernel) (by decide +kernel) (Nat.le_of_ble_eq_true rfl) rfl (Or.inr (g_rcv (by decide +kernel) h2))
theorem b_147_77 {Z : mZ} {l0 l1 l2 l3 l4 l5 l6 l7 : mV} {s0 s1 : Int} {h : mH} : m_run Z (147, 77, [l0, l1, l2, l3, l4, l5, l6, l7], [(0, s0), (1, s1)], h) = (m_cl Z 145 [(1, s1), (0, s0)] h).bind (m_aft (m_run Z) 147 77 [l0, l1, l2, l3, l4, l5, l6, l7] []) := by
  exact g_inv (k := 0) (m' := 145) (np := 2) (as := [(1, s1), (0, s0)]) (by decide +kernel : decode (m_byt 147) 77 = .ok (.invokestatic 286, 3)) (Or.inr (Or.inr ⟨rfl, rfl, by decide, by decide⟩)) (by decide +kernel) (by decide +kernel) (by decide +kernel) (Nat.le_of_ble_eq_true rfl) rfl (Or.inl rfl)
theorem b_147_80 {Z : mZ} {l1 l2 l4 l5 l6 l7 : mV} {s0 x3 : Int} {r0 : Nat} {K : Nat → mK} {σ : Nat → Nat → Int} {n e s : Nat} (h0 : q_ob K n r0 6) (h1 : q_rp K r0 4) (h2 : q_ob K n (q_rf K r0 4) 5) : m_run Z (147, 80, [(2, ((r0 : Nat) : Int)), l1, l2, (0, x3), l4, l5, l6, l7], [(1, s0)], (K, σ, n, e, s)) = (m_cl Z 89 [(2, ((q_rf K r0 4 : Nat) : Int))] (K, σ, n, e, s)).bind (m_aft (m_run Z) 147 86 [(2, ((r0 : Nat) : Int)), l1, l2, (0, x3), (1, s0), (9, 0), l6, l7] []) := by
  refine g_lstore (k := 4) (by decide +kernel : decode (m_byt 147) 80 = .ok (.lstore 4, 2)) (Nat.le_of_ble_eq_true rfl) ?_
  show m_run Z (147, 82, [(2, ((r0 : Nat) : Int)), l1, l2, (0, x3), (1, s0), (9, 0), l6, l7], [], (K, σ, n, e, s)) = _
  refine g_aload_n (k := 0) (v := (2, ((r0 : Nat) : Int))) (by decide +kernel : decode (m_byt 147) 82 = .ok (.aload_n 0, 1)) rfl (Or.inl rfl) ?_
  refine g_getr (ci := 6) (f := 4) (by decide +kernel : decode (m_byt 147) 83 = .ok (.getfield 26, 3)) (by decide +kernel) (by decide +kernel) (by decide +kernel) h0 h1 ?_
  exact g_inv (k := 1) (m' := 89) (np := 0) (as := [(2, ((q_rf K r0 4 : Nat) : Int))]) (by decide +kernel : decode (m_byt 147) 86 = .ok (.invokevirtual 218, 3)) (Or.inl ⟨rfl, rfl⟩) (by decide +kernel) (by decide +kernel) (by decide +kernel) (Nat.le_of_ble_eq_true rfl) rfl (Or.inr (g_rcv (by decide +kernel) h2))
theorem b_147_89 {Z : mZ} {l0 l1 l2 l3 l4 l5 l6 l7 : mV} {h : mH} : m_run Z (147, 89, [l0, l1, l2, l3, l4, l5, l6, l7], [], h) = m_run Z (147, 92, [l0, l1, l2, l3, l4, m_kill l5, (0, 0), l7], [], h) := by
  refine g_base (by decide +kernel : decode (m_byt 147) 89 = .ok (.iconst 0, 1)) rfl rfl ?_
  show m_run Z (147, 90, [l0, l1, l2, l3, l4, l5, l6, l7], [(0, 0)], h) = _
  refine g_istore (k := 6) (by decide +kernel : decode (m_byt 147) 90 = .ok (.istore 6, 2)) (Nat.le_of_ble_eq_true rfl) ?_
  show m_run Z (147, 92, [l0, l1, l2, l3, l4, m_kill l5, (0, 0), l7], [], h) = _
  rfl
theorem b_147_92 {Z : mZ} {l0 l1 l2 l3 l4 l5 l7 : mV} {x6 : Int} {h : mH} : m_run Z (147, 92, [l0, l1, l2, l3, l4, l5, (0, x6), l7], [], h) = if w32 5 ≤ w32 x6 then m_run Z (147, 117, [l0, l1, l2, l3, l4, l5, (0, x6), l7], [], h) else m_run Z (147, 98, [l0, l1, l2, l3, l4, l5, (0, x6), l7], [], h) := by
  refine g_iload (k := 6) (x := x6) (by decide +kernel : decode (m_byt 147) 92 = .ok (.iload 6, 2)) rfl ?_
  refine g_base (by decide +kernel : decode (m_byt 147) 94 = .ok (.iconst 5, 1)) rfl rfl ?_
  show m_run Z (147, 95, [l0, l1, l2, l3, l4, l5, (0, x6), l7], [(0, 5), (0, x6)], h) = _
  exact g_brq (t := 117) (off := 22) (by decide +kernel : decode (m_byt 147) 95 = .ok (.if_icmp .ge 22, 3)) rfl rfl (by decide)
theorem b_147_98 {Z : mZ} {l1 l2 l3 l5 l7 : mV} {x4 x6 : Int} {r0 : Nat} {K : Nat → mK} {σ : Nat → Nat → Int} {n e s : Nat} (h0 : q_ob K n r0 6) : m_run Z (147, 98, [(2, ((r0 : Nat) : Int)), l1, l2, l3, (1, x4), l5, (0, x6), l7], [], (K, σ, n, e, s)) = (m_cl Z 143 [(2, ((r0 : Nat) : Int)), (0, x6)] (K, σ, n, e, s)).bind (m_aft (m_run Z) 147 103 [(2, ((r0 : Nat) : Int)), l1, l2, l3, (1, x4), l5, (0, x6), l7] [(1, x4)]) := by
  refine g_lload (k := 4) (x := x4) (by decide +kernel : decode (m_byt 147) 98 = .ok (.lload 4, 2)) rfl ?_
  refine g_aload_n (k := 0) (v := (2, ((r0 : Nat) : Int))) (by decide +kernel : decode (m_byt 147) 100 = .ok (.aload_n 0, 1)) rfl (Or.inl rfl) ?_
  refine g_iload (k := 6) (x := x6) (by decide +kernel : decode (m_byt 147) 101 = .ok (.iload 6, 2)) rfl ?_
  exact g_inv (k := 1) (m' := 143) (np := 1) (as := [(2, ((r0 : Nat) : Int)), (0, x6)]) (by decide +kernel : decode (m_byt 147) 103 = .ok (.invokevirtual 212, 3)) (Or.inl ⟨rfl, rfl⟩) (by decide +kernel) (by decide +kernel) (by decide +kernel) (Nat.le_of_ble_eq_true rfl) rfl (Or.inr (g_rcv (by decide +kernel) h0))
theorem b_147_106 {Z : mZ} {l0 l1 l2 l3 l4 l5 l6 l7 : mV} {s0 s1 : Int} {h : mH} : m_run Z (147, 106, [l0, l1, l2, l3, l4, l5, l6, l7], [(0, s0), (1, s1)], h) = (m_cl Z 145 [(1, s1), (0, s0)] h).bind (m_aft (m_run Z) 147 106 [l0, l1, l2, l3, l4, l5, l6, l7] []) := by
  exact g_inv (k := 0) (m' := 145) (np := 2) (as := [(1, s1), (0, s0)]) (by decide +kernel : decode (m_byt 147) 106 = .ok (.invokestatic 286, 3)) (Or.inr (Or.inr ⟨rfl, rfl, by decide, by decide⟩)) (by decide +kernel) (by decide +kernel) (by decide +kernel) (Nat.le_of_ble_eq_true rfl) rfl (Or.inl rfl)
theorem b_147_109 {Z : mZ} {l0 l1 l2 l4 l5 l7 : mV} {s0 x3 x6 : Int} {h : mH} : m_run Z (147, 109, [l0, l1, l2, (0, x3), l4, l5, (0, x6), l7], [(1, s0)], h) = m_run Z (147, 92, [l0, l1, l2, (0, x3), (1, s0), (9, 0), (0, x6 + 1), l7], [], h) := by
  refine g_lstore (k := 4) (by decide +kernel : decode (m_byt 147) 109 = .ok (.lstore 4, 2)) (Nat.le_of_ble_eq_true rfl) ?_
  show m_run Z (147, 111, [l0, l1, l2, (0, x3), (1, s0), (9, 0), (0, x6), l7], [], h) = _
  refine g_iinc (k := 6) (x := x6) (by decide +kernel : decode (m_byt 147) 111 = .ok (.iinc 6 1, 3)) rfl (Nat.le_of_ble_eq_true rfl) ?_
  show m_run Z (147, 114, [l0, l1, l2, (0, x3), (1, s0), (9, 0), (0, x6 + 1), l7], [], h) = _
  refine g_jmp (t := 92) (by decide +kernel : decode (m_byt 147) 114 = .ok (.goto (-22), 3)) (by decide) ?_
  rfl
theorem b_147_117 {Z : mZ} {l1 l2 l3 l4 l5 l6 l7 : mV} {r0 : Nat} {K : Nat → mK} {σ : Nat → Nat → Int} {n e s : Nat} (h0 : q_ob K n r0 6) (h1 : q_rp K r0 6) (h2 : q_ob K n (q_rf K r0 6) 0) : m_run Z (147, 117, [(2, ((r0 : Nat) : Int)), l1, l2, l3, l4, l5, l6, l7], [], (K, σ, n, e, s)) = (m_cl Z 2 [(2, ((q_rf K r0 6 : Nat) : Int))] (K, σ, n, e, s)).bind (m_aft (m_run Z) 147 121 [(2, ((r0 : Nat) : Int)), l1, l2, l3, l4, l5, l6, l7] []) := by
  refine g_aload_n (k := 0) (v := (2, ((r0 : Nat) : Int))) (by decide +kernel : decode (m_byt 147) 117 = .ok (.aload_n 0, 1)) rfl (Or.inl rfl) ?_
  refine g_getr (ci := 6) (f := 6) (by decide +kernel : decode (m_byt 147) 118 = .ok (.getfield 42, 3)) (by decide +kernel) (by decide +kernel) (by decide +kernel) h0 h1 ?_
  exact g_inv (k := 1) (m' := 2) (np := 0) (as := [(2, ((q_rf K r0 6 : Nat) : Int))]) (by decide +kernel : decode (m_byt 147) 121 = .ok (.invokevirtual 221, 3)) (Or.inl ⟨rfl, rfl⟩) (by decide +kernel) (by decide +kernel) (by decide +kernel) (Nat.le_of_ble_eq_true rfl) rfl (Or.inr (g_rcv (by decide +kernel) h2))
theorem b_147_124 {Z : mZ} {l1 l2 l3 l5 l6 l7 : mV} {x4 : Int} {r0 : Nat} {K : Nat → mK} {σ : Nat → Nat → Int} {n e s : Nat} (h0 : q_ob K n r0 6) : m_run Z (147, 124, [(2, ((r0 : Nat) : Int)), l1, l2, l3, (1, x4), l5, l6, l7], [], (K, σ, n, e, s)) = (m_cl Z 144 [(2, ((r0 : Nat) : Int)), (0, 2), (0, 0)] (K, σ, n, e, s)).bind (m_aft (m_run Z) 147 129 [(2, ((r0 : Nat) : Int)), l1, l2, l3, (1, x4), l5, l6, l7] [(1, x4)]) := by
  refine g_lload (k := 4) (x := x4) (by decide +kernel : decode (m_byt 147) 124 = .ok (.lload 4, 2)) rfl ?_
  refine g_aload_n (k := 0) (v := (2, ((r0 : Nat) : Int))) (by decide +kernel : decode (m_byt 147) 126 = .ok (.aload_n 0, 1)) rfl (Or.inl rfl) ?_
  refine g_base (by decide +kernel : decode (m_byt 147) 127 = .ok (.iconst 2, 1)) rfl rfl ?_
  show m_run Z (147, 128, [(2, ((r0 : Nat) : Int)), l1, l2, l3, (1, x4), l5, l6, l7], [(0, 2), (2, ((r0 : Nat) : Int)), (1, x4)], (K, σ, n, e, s)) = _
  refine g_base (by decide +kernel : decode (m_byt 147) 128 = .ok (.iconst 0, 1)) rfl rfl ?_
  show m_run Z (147, 129, [(2, ((r0 : Nat) : Int)), l1, l2, l3, (1, x4), l5, l6, l7], [(0, 0), (0, 2), (2, ((r0 : Nat) : Int)), (1, x4)], (K, σ, n, e, s)) = _
  exact g_inv (k := 1) (m' := 144) (np := 2) (as := [(2, ((r0 : Nat) : Int)), (0, 2), (0, 0)]) (by decide +kernel : decode (m_byt 147) 129 = .ok (.invokevirtual 224, 3)) (Or.inl ⟨rfl, rfl⟩) (by decide +kernel) (by decide +kernel) (by decide +kernel) (Nat.le_of_ble_eq_true rfl) rfl (Or.inr (g_rcv (by decide +kernel) h0))
theorem b_147_132 {Z : mZ} {l0 l1 l2 l3 l4 l5 l6 l7 : mV} {s0 s1 : Int} {h : mH} : m_run Z (147, 132, [l0, l1, l2, l3, l4, l5, l6, l7], [(0, s0), (1, s1)], h) = (m_cl Z 145 [(1, s1), (0, s0)] h).bind (m_aft (m_run Z) 147 132 [l0, l1, l2, l3, l4, l5, l6, l7] []) := by
  exact g_inv (k := 0) (m' := 145) (np := 2) (as := [(1, s1), (0, s0)]) (by decide +kernel : decode (m_byt 147) 132 = .ok (.invokestatic 286, 3)) (Or.inr (Or.inr ⟨rfl, rfl, by decide, by decide⟩)) (by decide +kernel) (by decide +kernel) (by decide +kernel) (Nat.le_of_ble_eq_true rfl) rfl (Or.inl rfl)
theorem b_147_135 {Z : mZ} {l1 l2 l4 l5 l6 l7 : mV} {s0 x3 : Int} {r0 : Nat} {K : Nat → mK} {σ : Nat → Nat → Int} {n e s : Nat} (h0 : q_ob K n r0 6) : m_run Z (147, 135, [(2, ((r0 : Nat) : Int)), l1, l2, (0, x3), l4, l5, l6, l7], [(1, s0)], (K, σ, n, e, s)) = (m_cl Z 144 [(2, ((r0 : Nat) : Int)), (0, 2), (0, 1)] (K, σ, n, e, s)).bind (m_aft (m_run Z) 147 142 [(2, ((r0 : Nat) : Int)), l1, l2, (0, x3), (1, s0), (9, 0), l6, l7] [(1, s0)]) := by
  refine g_lstore (k := 4) (by decide +kernel : decode (m_byt 147) 135 = .ok (.lstore 4, 2)) (Nat.le_of_ble_eq_true rfl) ?_
  show m_run Z (147, 137, [(2, ((r0 : Nat) : Int)), l1, l2, (0, x3), (1, s0), (9, 0), l6, l7], [], (K, σ, n, e, s)) = _
  refine g_lload (k := 4) (x := s0) (by decide +kernel : decode (m_byt 147) 137 = .ok (.lload 4, 2)) rfl ?_
  refine g_aload_n (k := 0) (v := (2, ((r0 : Nat) : Int))) (by decide +kernel : decode (m_byt 147) 139 = .ok (.aload_n 0, 1)) rfl (Or.inl rfl) ?_
  refine g_base (by decide +kernel : decode (m_byt 147) 140 = .ok (.iconst 2, 1)) rfl rfl ?_
  show m_run Z (147, 141, [(2, ((r0 : Nat) : Int)), l1, l2, (0, x3), (1, s0), (9, 0), l6, l7], [(0, 2), (2, ((r0 : Nat) : Int)), (1, s0)], (K, σ, n, e, s)) = _
  refine g_base (by decide +kernel : decode (m_byt 147) 141 = .ok (.iconst 1, 1)) rfl rfl ?_
  show m_run Z (147, 142, [(2, ((r0 : Nat) : Int)), l1, l2, (0, x3), (1, s0), (9, 0), l6, l7], [(0, 1), (0, 2), (2, ((r0 : Nat) : Int)), (1, s0)], (K, σ, n, e, s)) = _
  exact g_inv (k := 1) (m' := 144) (np := 2) (as := [(2, ((r0 : Nat) : Int)), (0, 2), (0, 1)]) (by decide +kernel : decode (m_byt 147) 142 = .ok (.invokevirtual 224, 3)) (Or.inl ⟨rfl, rfl⟩) (by decide +kernel) (by decide +kernel) (by decide +kernel) (Nat.le_of_ble_eq_true rfl) rfl (Or.inr (g_rcv (by decide +kernel) h0))
theorem b_147_145 {Z : mZ} {l0 l1 l2 l3 l4 l5 l6 l7 : mV} {s0 s1 : Int} {h : mH} : m_run Z (147, 145, [l0, l1, l2, l3, l4, l5, l6, l7], [(0, s0), (1, s1)], h) = (m_cl Z 145 [(1, s1), (0, s0)] h).bind (m_aft (m_run Z) 147 145 [l0, l1, l2, l3, l4, l5, l6, l7] []) := by
  exact g_inv (k := 0) (m' := 145) (np := 2) (as := [(1, s1), (0, s0)]) (by decide +kernel : decode (m_byt 147) 145 = .ok (.invokestatic 286, 3)) (Or.inr (Or.inr ⟨rfl, rfl, by decide, by decide⟩)) (by decide +kernel) (by decide +kernel) (by decide +kernel) (Nat.le_of_ble_eq_true rfl) rfl (Or.inl rfl)
theorem b_147_148 {Z : mZ} {l0 l1 l2 l4 l5 l6 l7 : mV} {s0 x3 : Int} {h : mH} : m_run Z (147, 148, [l0, l1, l2, (0, x3), l4, l5, l6, l7], [(1, s0)], h) = m_run Z (147, 153, [l0, l1, l2, (0, x3), (1, s0), (9, 0), (0, 0), l7], [], h) := by
  refine g_lstore (k := 4) (by decide +kernel : decode (m_byt 147) 148 = .ok (.lstore 4, 2)) (Nat.le_of_ble_eq_true rfl) ?_
  show m_run Z (147, 150, [l0, l1, l2, (0, x3), (1, s0), (9, 0), l6, l7], [], h) = _
  refine g_base (by decide +kernel : decode (m_byt 147) 150 = .ok (.iconst 0, 1)) rfl rfl ?_
  show m_run Z (147, 151, [l0, l1, l2, (0, x3), (1, s0), (9, 0), l6, l7], [(0, 0)], h) = _
  refine g_istore (k := 6) (by decide +kernel : decode (m_byt 147) 151 = .ok (.istore 6, 2)) (Nat.le_of_ble_eq_true rfl) ?_
  show m_run Z (147, 153, [l0, l1, l2, (0, x3), (1, s0), (9, 0), (0, 0), l7], [], h) = _
  rfl
theorem b_147_153 {Z : mZ} {l1 l2 l3 l4 l5 l7 : mV} {x6 : Int} {r0 : Nat} {K : Nat → mK} {σ : Nat → Nat → Int} {n e s : Nat} (h0 : q_ob K n r0 6) (h1 : q_rp K r0 0) (h2 : q_ob K n (q_rf K r0 0) 1) : m_run Z (147, 153, [(2, ((r0 : Nat) : Int)), l1, l2, l3, l4, l5, (0, x6), l7], [], (K, σ, n, e, s)) = if w32 (σ ((q_rf K r0 0)) 1) ≤ w32 x6 then m_run Z (147, 209, [(2, ((r0 : Nat) : Int)), l1, l2, l3, l4, l5, (0, x6), l7], [], (K, σ, n, e, s)) else m_run Z (147, 165, [(2, ((r0 : Nat) : Int)), l1, l2, l3, l4, l5, (0, x6), l7], [], (K, σ, n, e, s)) := by
  refine g_iload (k := 6) (x := x6) (by decide +kernel : decode (m_byt 147) 153 = .ok (.iload 6, 2)) rfl ?_
  refine g_aload_n (k := 0) (v := (2, ((r0 : Nat) : Int))) (by decide +kernel : decode (m_byt 147) 155 = .ok (.aload_n 0, 1)) rfl (Or.inl rfl) ?_
  refine g_getr (ci := 6) (f := 0) (by decide +kernel : decode (m_byt 147) 156 = .ok (.getfield 12, 3)) (by decide +kernel) (by decide +kernel) (by decide +kernel) h0 h1 ?_
  refine g_getf (ci := 1) (f := 1) (by decide +kernel : decode (m_byt 147) 159 = .ok (.getfield 319, 3)) (by decide +kernel) (by decide +kernel) (by decide +kernel) h2 ?_
  exact g_brq (t := 209) (off := 47) (by decide +kernel : decode (m_byt 147) 162 = .ok (.if_icmp .ge 47, 3)) rfl rfl (by decide)
theorem b_147_165 {Z : mZ} {l1 l2 l3 l4 l5 l7 : mV} {x6 : Int} {r0 : Nat} {K : Nat → mK} {σ : Nat → Nat → Int} {n e s : Nat} (h0 : q_ob K n r0 6) (h1 : q_rp K r0 5) (h2 : q_ob K n (q_rf K r0 5) 2) : m_run Z (147, 165, [(2, ((r0 : Nat) : Int)), l1, l2, l3, l4, l5, (0, x6), l7], [], (K, σ, n, e, s)) = (m_cl Z 35 [(2, ((q_rf K r0 5 : Nat) : Int)), (0, x6)] (K, σ, n, e, s)).bind (m_aft (m_run Z) 147 171 [(2, ((r0 : Nat) : Int)), l1, l2, l3, l4, l5, (0, x6), l7] []) := by
  refine g_aload_n (k := 0) (v := (2, ((r0 : Nat) : Int))) (by decide +kernel : decode (m_byt 147) 165 = .ok (.aload_n 0, 1)) rfl (Or.inl rfl) ?_
  refine g_getr (ci := 6) (f := 5) (by decide +kernel : decode (m_byt 147) 166 = .ok (.getfield 35, 3)) (by decide +kernel) (by decide +kernel) (by decide +kernel) h0 h1 ?_
  refine g_iload (k := 6) (x := x6) (by decide +kernel : decode (m_byt 147) 169 = .ok (.iload 6, 2)) rfl ?_
  exact g_inv (k := 1) (m' := 35) (np := 1) (as := [(2, ((q_rf K r0 5 : Nat) : Int)), (0, x6)]) (by decide +kernel : decode (m_byt 147) 171 = .ok (.invokevirtual 190, 3)) (Or.inl ⟨rfl, rfl⟩) (by decide +kernel) (by decide +kernel) (by decide +kernel) (Nat.le_of_ble_eq_true rfl) rfl (Or.inr (g_rcv (by decide +kernel) h2))
theorem b_147_174 {Z : mZ} {l0 l1 l2 l3 l4 l5 l7 : mV} {x6 : Int} {h : mH} : m_run Z (147, 174, [l0, l1, l2, l3, l4, l5, (0, x6), l7], [], h) = m_run Z (147, 177, [l0, l1, l2, l3, l4, l5, (0, x6), (0, 0)], [], h) := by
  refine g_base (by decide +kernel : decode (m_byt 147) 174 = .ok (.iconst 0, 1)) rfl rfl ?_
  show m_run Z (147, 175, [l0, l1, l2, l3, l4, l5, (0, x6), l7], [(0, 0)], h) = _
  refine g_istore (k := 7) (by decide +kernel : decode (m_byt 147) 175 = .ok (.istore 7, 2)) (Nat.le_of_ble_eq_true rfl) ?_
  show m_run Z (147, 177, [l0, l1, l2, l3, l4, l5, (0, x6), (0, 0)], [], h) = _
  rfl
theorem b_147_177 {Z : mZ} {l0 l1 l2 l3 l4 l5 l6 : mV} {x7 : Int} {h : mH} : m_run Z (147, 177, [l0, l1, l2, l3, l4, l5, l6, (0, x7)], [], h) = if w32 4 ≤ w32 x7 then m_run Z (147, 203, [l0, l1, l2, l3, l4, l5, l6, (0, x7)], [], h) else m_run Z (147, 183, [l0, l1, l2, l3, l4, l5, l6, (0, x7)], [], h) := by
  refine g_iload (k := 7) (x := x7) (by decide +kernel : decode (m_byt 147) 177 = .ok (.iload 7, 2)) rfl ?_
  refine g_base (by decide +kernel : decode (m_byt 147) 179 = .ok (.iconst 4, 1)) rfl rfl ?_
  show m_run Z (147, 180, [l0, l1, l2, l3, l4, l5, l6, (0, x7)], [(0, 4), (0, x7)], h) = _
  exact g_brq (t := 203) (off := 23) (by decide +kernel : decode (m_byt 147) 180 = .ok (.if_icmp .ge 23, 3)) rfl rfl (by decide)
theorem b_147_183 {Z : mZ} {l1 l2 l3 l5 l6 : mV} {x4 x7 : Int} {r0 : Nat} {K : Nat → mK} {σ : Nat → Nat → Int} {n e s : Nat} (h0 : q_ob K n r0 6) : m_run Z (147, 183, [(2, ((r0 : Nat) : Int)), l1, l2, l3, (1, x4), l5, l6, (0, x7)], [], (K, σ, n, e, s)) = (m_cl Z 142 [(2, ((r0 : Nat) : Int)), (0, 1), (0, x7)] (K, σ, n, e, s)).bind (m_aft (m_run Z) 147 189 [(2, ((r0 : Nat) : Int)), l1, l2, l3, (1, x4), l5, l6, (0, x7)] [(1, x4)]) := by
  refine g_lload (k := 4) (x := x4) (by decide +kernel : decode (m_byt 147) 183 = .ok (.lload 4, 2)) rfl ?_
  refine g_aload_n (k := 0) (v := (2, ((r0 : Nat) : Int))) (by decide +kernel : decode (m_byt 147) 185 = .ok (.aload_n 0, 1)) rfl (Or.inl rfl) ?_
  refine g_base (by decide +kernel : decode (m_byt 147) 186 = .ok (.iconst 1, 1)) rfl rfl ?_
  show m_run Z (147, 187, [(2, ((r0 : Nat) : Int)), l1, l2, l3, (1, x4), l5, l6, (0, x7)], [(0, 1), (2, ((r0 : Nat) : Int)), (1, x4)], (K, σ, n, e, s)) = _
  refine g_iload (k := 7) (x := x7) (by decide +kernel : decode (m_byt 147) 187 = .ok (.iload 7, 2)) rfl ?_
  exact g_inv (k := 1) (m' := 142) (np := 2) (as := [(2, ((r0 : Nat) : Int)), (0, 1), (0, x7)]) (by decide +kernel : decode (m_byt 147) 189 = .ok (.invokevirtual 196, 3)) (Or.inl ⟨rfl, rfl⟩) (by decide +kernel) (by decide +kernel) (by decide +kernel) (Nat.le_of_ble_eq_true rfl) rfl (Or.inr (g_rcv (by decide +kernel) h0))
theorem b_147_192 {Z : mZ} {l0 l1 l2 l3 l4 l5 l6 l7 : mV} {s0 s1 : Int} {h : mH} : m_run Z (147, 192, [l0, l1, l2, l3, l4, l5, l6, l7], [(0, s0), (1, s1)], h) = (m_cl Z 145 [(1, s1), (0, s0)] h).bind (m_aft (m_run Z) 147 192 [l0, l1, l2, l3, l4, l5, l6, l7] []) := by
  exact g_inv (k := 0) (m' := 145) (np := 2) (as := [(1, s1), (0, s0)]) (by decide +kernel : decode (m_byt 147) 192 = .ok (.invokestatic 286, 3)) (Or.inr (Or.inr ⟨rfl, rfl, by decide, by decide⟩)) (by decide +kernel) (by decide +kernel) (by decide +kernel) (Nat.le_of_ble_eq_true rfl) rfl (Or.inl rfl)
theorem b_147_195 {Z : mZ} {l0 l1 l2 l4 l5 : mV} {s0 x3 x7 x6 : Int} {h : mH} : m_run Z (147, 195, [l0, l1, l2, (0, x3), l4, l5, (0, x6), (0, x7)], [(1, s0)], h) = m_run Z (147, 177, [l0, l1, l2, (0, x3), (1, s0), (9, 0), (0, x6), (0, x7 + 1)], [], h) := by
  refine g_lstore (k := 4) (by decide +kernel : decode (m_byt 147) 195 = .ok (.lstore 4, 2)) (Nat.le_of_ble_eq_true rfl) ?_
  show m_run Z (147, 197, [l0, l1, l2, (0, x3), (1, s0), (9, 0), (0, x6), (0, x7)], [], h) = _
  refine g_iinc (k := 7) (x := x7) (by decide +kernel : decode (m_byt 147) 197 = .ok (.iinc 7 1, 3)) rfl (Nat.le_of_ble_eq_true rfl) ?_
  show m_run Z (147, 200, [l0, l1, l2, (0, x3), (1, s0), (9, 0), (0, x6), (0, x7 + 1)], [], h) = _
  refine g_jmp (t := 177) (by decide +kernel : decode (m_byt 147) 200 = .ok (.goto (-23), 3)) (by decide) ?_
  rfl
theorem b_147_203 {Z : mZ} {l0 l1 l2 l3 l4 l5 l7 : mV} {x6 : Int} {h : mH} : m_run Z (147, 203, [l0, l1, l2, l3, l4, l5, (0, x6), l7], [], h) = m_run Z (147, 153, [l0, l1, l2, l3, l4, m_kill l5, (0, x6 + 1), l7], [], h) := by
  refine g_iinc (k := 6) (x := x6) (by decide +kernel : decode (m_byt 147) 203 = .ok (.iinc 6 1, 3)) rfl (Nat.le_of_ble_eq_true rfl) ?_
  show m_run Z (147, 206, [l0, l1, l2, l3, l4, m_kill l5, (0, x6 + 1), l7], [], h) = _
  refine g_jmp (t := 153) (by decide +kernel : decode (m_byt 147) 206 = .ok (.goto (-53), 3)) (by decide) ?_
  rfl
theorem b_147_209 {Z : mZ} {l0 l1 l2 l3 l5 l6 l7 : mV} {x4 : Int} {h : mH} : m_run Z (147, 209, [l0, l1, l2, l3, (1, x4), l5, l6, l7], [], h) = some (.inl (1, x4), h) := by
  refine g_lload (k := 4) (x := x4) (by decide +kernel : decode (m_byt 147) 209 = .ok (.lload 4, 2)) rfl ?_
  exact g_lret (by decide +kernel : decode (m_byt 147) 211 = .ok (.lreturn, 1)) (by decide +kernel)
end
