section
theorem e_11 {Z : mZ} {r0 : Nat} {h h' : mH} {v : mV} (hr : m_run Z (11, 0, [(2, ((r0 : Nat) : Int))], [], h) = some (.inl v, h')) : m_cl Z 11 [(2, ((r0 : Nat) : Int))] h = some (.inl v, h') := g_enti (k := 1) (by decide) (by decide +kernel) (Nat.le_of_ble_eq_true rfl) rfl hr
theorem b_11_0 {Z : mZ} {r0 : Nat} {K : Nat → mK} {σ : Nat → Nat → Int} {n s : Nat} (h0 : q_ob (m_up K n (1, 3, fun _ => -1)) (n + 1) n 3) : m_run Z (11, 0, [(2, ((r0 : Nat) : Int))], [], (K, σ, n, 0, s)) = (m_cl Z 43 [(2, ((n : Nat) : Int)), (0, 8)] ((m_up K n (1, 3, fun _ => -1)), (m_up σ n (fun _ => 0)), (n + 1), 0, s + 1)).bind (m_aft (m_run Z) 11 11 [(2, ((r0 : Nat) : Int))] [(2, ((n : Nat) : Int)), (2, ((r0 : Nat) : Int))]) := by
  refine g_aload_n (k := 0) (v := (2, ((r0 : Nat) : Int))) (by decide +kernel : decode (m_byt 11) 0 = .ok (.aload_n 0, 1)) rfl (Or.inl rfl) ?_
  refine g_obj (r := r0) (by decide +kernel : decode (m_byt 11) 1 = .ok (.invokespecial 3, 3)) (by decide +kernel) (by decide +kernel) (Nat.le_of_ble_eq_true rfl) ?_
  refine g_aload_n (k := 0) (v := (2, ((r0 : Nat) : Int))) (by decide +kernel : decode (m_byt 11) 4 = .ok (.aload_n 0, 1)) rfl (Or.inl rfl) ?_
  refine g_new (ci := 3) (by decide +kernel : decode (m_byt 11) 5 = .ok (.new 9, 3)) (by decide +kernel) (by decide) ?_
  show m_run Z (11, 8, [(2, ((r0 : Nat) : Int))], [(2, ((n : Nat) : Int)), (2, ((r0 : Nat) : Int))], ((m_up K n (1, 3, fun _ => -1)), (m_up σ n (fun _ => 0)), (n + 1), 0, s + 1)) = _
  refine g_base (by decide +kernel : decode (m_byt 11) 8 = .ok (.dup, 1)) rfl rfl ?_
  show m_run Z (11, 9, [(2, ((r0 : Nat) : Int))], [(2, ((n : Nat) : Int)), (2, ((n : Nat) : Int)), (2, ((r0 : Nat) : Int))], ((m_up K n (1, 3, fun _ => -1)), (m_up σ n (fun _ => 0)), (n + 1), 0, s + 1)) = _
  refine g_base (by decide +kernel : decode (m_byt 11) 9 = .ok (.bipush 8, 2)) rfl rfl ?_
  show m_run Z (11, 11, [(2, ((r0 : Nat) : Int))], [(0, 8), (2, ((n : Nat) : Int)), (2, ((n : Nat) : Int)), (2, ((r0 : Nat) : Int))], ((m_up K n (1, 3, fun _ => -1)), (m_up σ n (fun _ => 0)), (n + 1), 0, s + 1)) = _
  exact g_inv (k := 2) (m' := 43) (np := 1) (as := [(2, ((n : Nat) : Int)), (0, 8)]) (by decide +kernel : decode (m_byt 11) 11 = .ok (.invokespecial 11, 3)) (Or.inr (Or.inl ⟨rfl, rfl, by decide⟩)) (by decide +kernel) (by decide +kernel) (by decide +kernel) (Nat.le_of_ble_eq_true rfl) rfl (Or.inr (g_rcv (by decide +kernel) h0))
theorem b_11_14 {Z : mZ} {s0 s1 r0 : Nat} {K : Nat → mK} {σ : Nat → Nat → Int} {n s : Nat} (h0 : q_ob K n s1 1) (h1 : ((s0 : Nat) : Int) < ((n : Nat) : Int)) (h2 : q_ob (m_up (q_pf K s1 1 3 ((s0 : Nat) : Int)) n (1, 3, fun _ => -1)) (n + 1) n 3) : m_run Z (11, 14, [(2, ((r0 : Nat) : Int))], [(2, ((s0 : Nat) : Int)), (2, ((s1 : Nat) : Int))], (K, σ, n, 0, s)) = (m_cl Z 43 [(2, ((n : Nat) : Int)), (0, 8)] ((m_up (q_pf K s1 1 3 ((s0 : Nat) : Int)) n (1, 3, fun _ => -1)), (m_up σ n (fun _ => 0)), (n + 1), 0, s + 1)).bind (m_aft (m_run Z) 11 24 [(2, ((r0 : Nat) : Int))] [(2, ((n : Nat) : Int)), (2, ((r0 : Nat) : Int))]) := by
  refine g_putr (ci := 1) (f := 3) (by decide +kernel : decode (m_byt 11) 14 = .ok (.putfield 14, 3)) (by decide +kernel) (by decide +kernel) (by decide +kernel) (by decide +kernel) (by decide +kernel) h0 h1 ?_
  show m_run Z (11, 17, [(2, ((r0 : Nat) : Int))], [], ((q_pf K s1 1 3 ((s0 : Nat) : Int)), σ, n, 0, s)) = _
  refine g_aload_n (k := 0) (v := (2, ((r0 : Nat) : Int))) (by decide +kernel : decode (m_byt 11) 17 = .ok (.aload_n 0, 1)) rfl (Or.inl rfl) ?_
  refine g_new (ci := 3) (by decide +kernel : decode (m_byt 11) 18 = .ok (.new 9, 3)) (by decide +kernel) (by decide) ?_
  show m_run Z (11, 21, [(2, ((r0 : Nat) : Int))], [(2, ((n : Nat) : Int)), (2, ((r0 : Nat) : Int))], ((m_up (q_pf K s1 1 3 ((s0 : Nat) : Int)) n (1, 3, fun _ => -1)), (m_up σ n (fun _ => 0)), (n + 1), 0, s + 1)) = _
  refine g_base (by decide +kernel : decode (m_byt 11) 21 = .ok (.dup, 1)) rfl rfl ?_
  show m_run Z (11, 22, [(2, ((r0 : Nat) : Int))], [(2, ((n : Nat) : Int)), (2, ((n : Nat) : Int)), (2, ((r0 : Nat) : Int))], ((m_up (q_pf K s1 1 3 ((s0 : Nat) : Int)) n (1, 3, fun _ => -1)), (m_up σ n (fun _ => 0)), (n + 1), 0, s + 1)) = _
  refine g_base (by decide +kernel : decode (m_byt 11) 22 = .ok (.bipush 8, 2)) rfl rfl ?_
  show m_run Z (11, 24, [(2, ((r0 : Nat) : Int))], [(0, 8), (2, ((n : Nat) : Int)), (2, ((n : Nat) : Int)), (2, ((r0 : Nat) : Int))], ((m_up (q_pf K s1 1 3 ((s0 : Nat) : Int)) n (1, 3, fun _ => -1)), (m_up σ n (fun _ => 0)), (n + 1), 0, s + 1)) = _
  exact g_inv (k := 2) (m' := 43) (np := 1) (as := [(2, ((n : Nat) : Int)), (0, 8)]) (by decide +kernel : decode (m_byt 11) 24 = .ok (.invokespecial 11, 3)) (Or.inr (Or.inl ⟨rfl, rfl, by decide⟩)) (by decide +kernel) (by decide +kernel) (by decide +kernel) (Nat.le_of_ble_eq_true rfl) rfl (Or.inr (g_rcv (by decide +kernel) h2))
theorem b_11_27 {Z : mZ} {s0 s1 r0 : Nat} {K : Nat → mK} {σ : Nat → Nat → Int} {n s : Nat} (h0 : q_ob K n s1 1) (h1 : ((s0 : Nat) : Int) < ((n : Nat) : Int)) (h2 : q_ob (m_up (q_pf K s1 1 4 ((s0 : Nat) : Int)) n (1, 3, fun _ => -1)) (n + 1) n 3) : m_run Z (11, 27, [(2, ((r0 : Nat) : Int))], [(2, ((s0 : Nat) : Int)), (2, ((s1 : Nat) : Int))], (K, σ, n, 0, s)) = (m_cl Z 43 [(2, ((n : Nat) : Int)), (0, 12)] ((m_up (q_pf K s1 1 4 ((s0 : Nat) : Int)) n (1, 3, fun _ => -1)), (m_up σ n (fun _ => 0)), (n + 1), 0, s + 1)).bind (m_aft (m_run Z) 11 37 [(2, ((r0 : Nat) : Int))] [(2, ((n : Nat) : Int)), (2, ((r0 : Nat) : Int))]) := by
  refine g_putr (ci := 1) (f := 4) (by decide +kernel : decode (m_byt 11) 27 = .ok (.putfield 20, 3)) (by decide +kernel) (by decide +kernel) (by decide +kernel) (by decide +kernel) (by decide +kernel) h0 h1 ?_
  show m_run Z (11, 30, [(2, ((r0 : Nat) : Int))], [], ((q_pf K s1 1 4 ((s0 : Nat) : Int)), σ, n, 0, s)) = _
  refine g_aload_n (k := 0) (v := (2, ((r0 : Nat) : Int))) (by decide +kernel : decode (m_byt 11) 30 = .ok (.aload_n 0, 1)) rfl (Or.inl rfl) ?_
  refine g_new (ci := 3) (by decide +kernel : decode (m_byt 11) 31 = .ok (.new 9, 3)) (by decide +kernel) (by decide) ?_
  show m_run Z (11, 34, [(2, ((r0 : Nat) : Int))], [(2, ((n : Nat) : Int)), (2, ((r0 : Nat) : Int))], ((m_up (q_pf K s1 1 4 ((s0 : Nat) : Int)) n (1, 3, fun _ => -1)), (m_up σ n (fun _ => 0)), (n + 1), 0, s + 1)) = _
  refine g_base (by decide +kernel : decode (m_byt 11) 34 = .ok (.dup, 1)) rfl rfl ?_
  show m_run Z (11, 35, [(2, ((r0 : Nat) : Int))], [(2, ((n : Nat) : Int)), (2, ((n : Nat) : Int)), (2, ((r0 : Nat) : Int))], ((m_up (q_pf K s1 1 4 ((s0 : Nat) : Int)) n (1, 3, fun _ => -1)), (m_up σ n (fun _ => 0)), (n + 1), 0, s + 1)) = _
  refine g_base (by decide +kernel : decode (m_byt 11) 35 = .ok (.bipush 12, 2)) rfl rfl ?_
  show m_run Z (11, 37, [(2, ((r0 : Nat) : Int))], [(0, 12), (2, ((n : Nat) : Int)), (2, ((n : Nat) : Int)), (2, ((r0 : Nat) : Int))], ((m_up (q_pf K s1 1 4 ((s0 : Nat) : Int)) n (1, 3, fun _ => -1)), (m_up σ n (fun _ => 0)), (n + 1), 0, s + 1)) = _
  exact g_inv (k := 2) (m' := 43) (np := 1) (as := [(2, ((n : Nat) : Int)), (0, 12)]) (by decide +kernel : decode (m_byt 11) 37 = .ok (.invokespecial 11, 3)) (Or.inr (Or.inl ⟨rfl, rfl, by decide⟩)) (by decide +kernel) (by decide +kernel) (by decide +kernel) (Nat.le_of_ble_eq_true rfl) rfl (Or.inr (g_rcv (by decide +kernel) h2))
theorem b_11_40 {Z : mZ} {s0 s1 r0 : Nat} {K : Nat → mK} {σ : Nat → Nat → Int} {n s : Nat} (h0 : q_ob K n s1 1) (h1 : ((s0 : Nat) : Int) < ((n : Nat) : Int)) (h2 : q_ob (m_up (q_pf K s1 1 5 ((s0 : Nat) : Int)) n (1, 3, fun _ => -1)) (n + 1) n 3) : m_run Z (11, 40, [(2, ((r0 : Nat) : Int))], [(2, ((s0 : Nat) : Int)), (2, ((s1 : Nat) : Int))], (K, σ, n, 0, s)) = (m_cl Z 43 [(2, ((n : Nat) : Int)), (0, 12)] ((m_up (q_pf K s1 1 5 ((s0 : Nat) : Int)) n (1, 3, fun _ => -1)), (m_up σ n (fun _ => 0)), (n + 1), 0, s + 1)).bind (m_aft (m_run Z) 11 50 [(2, ((r0 : Nat) : Int))] [(2, ((n : Nat) : Int)), (2, ((r0 : Nat) : Int))]) := by
  refine g_putr (ci := 1) (f := 5) (by decide +kernel : decode (m_byt 11) 40 = .ok (.putfield 23, 3)) (by decide +kernel) (by decide +kernel) (by decide +kernel) (by decide +kernel) (by decide +kernel) h0 h1 ?_
  show m_run Z (11, 43, [(2, ((r0 : Nat) : Int))], [], ((q_pf K s1 1 5 ((s0 : Nat) : Int)), σ, n, 0, s)) = _
  refine g_aload_n (k := 0) (v := (2, ((r0 : Nat) : Int))) (by decide +kernel : decode (m_byt 11) 43 = .ok (.aload_n 0, 1)) rfl (Or.inl rfl) ?_
  refine g_new (ci := 3) (by decide +kernel : decode (m_byt 11) 44 = .ok (.new 9, 3)) (by decide +kernel) (by decide) ?_
  show m_run Z (11, 47, [(2, ((r0 : Nat) : Int))], [(2, ((n : Nat) : Int)), (2, ((r0 : Nat) : Int))], ((m_up (q_pf K s1 1 5 ((s0 : Nat) : Int)) n (1, 3, fun _ => -1)), (m_up σ n (fun _ => 0)), (n + 1), 0, s + 1)) = _
  refine g_base (by decide +kernel : decode (m_byt 11) 47 = .ok (.dup, 1)) rfl rfl ?_
  show m_run Z (11, 48, [(2, ((r0 : Nat) : Int))], [(2, ((n : Nat) : Int)), (2, ((n : Nat) : Int)), (2, ((r0 : Nat) : Int))], ((m_up (q_pf K s1 1 5 ((s0 : Nat) : Int)) n (1, 3, fun _ => -1)), (m_up σ n (fun _ => 0)), (n + 1), 0, s + 1)) = _
  refine g_base (by decide +kernel : decode (m_byt 11) 48 = .ok (.bipush 12, 2)) rfl rfl ?_
  show m_run Z (11, 50, [(2, ((r0 : Nat) : Int))], [(0, 12), (2, ((n : Nat) : Int)), (2, ((n : Nat) : Int)), (2, ((r0 : Nat) : Int))], ((m_up (q_pf K s1 1 5 ((s0 : Nat) : Int)) n (1, 3, fun _ => -1)), (m_up σ n (fun _ => 0)), (n + 1), 0, s + 1)) = _
  exact g_inv (k := 2) (m' := 43) (np := 1) (as := [(2, ((n : Nat) : Int)), (0, 12)]) (by decide +kernel : decode (m_byt 11) 50 = .ok (.invokespecial 11, 3)) (Or.inr (Or.inl ⟨rfl, rfl, by decide⟩)) (by decide +kernel) (by decide +kernel) (by decide +kernel) (Nat.le_of_ble_eq_true rfl) rfl (Or.inr (g_rcv (by decide +kernel) h2))
theorem b_11_53 {Z : mZ} {s0 s1 r0 : Nat} {K : Nat → mK} {σ : Nat → Nat → Int} {n s : Nat} (h0 : q_ob K n s1 1) (h1 : ((s0 : Nat) : Int) < ((n : Nat) : Int)) (h2 : q_ob (m_up (q_pf K s1 1 6 ((s0 : Nat) : Int)) n (1, 3, fun _ => -1)) (n + 1) n 3) : m_run Z (11, 53, [(2, ((r0 : Nat) : Int))], [(2, ((s0 : Nat) : Int)), (2, ((s1 : Nat) : Int))], (K, σ, n, 0, s)) = (m_cl Z 43 [(2, ((n : Nat) : Int)), (0, 12)] ((m_up (q_pf K s1 1 6 ((s0 : Nat) : Int)) n (1, 3, fun _ => -1)), (m_up σ n (fun _ => 0)), (n + 1), 0, s + 1)).bind (m_aft (m_run Z) 11 63 [(2, ((r0 : Nat) : Int))] [(2, ((n : Nat) : Int)), (2, ((r0 : Nat) : Int))]) := by
  refine g_putr (ci := 1) (f := 6) (by decide +kernel : decode (m_byt 11) 53 = .ok (.putfield 26, 3)) (by decide +kernel) (by decide +kernel) (by decide +kernel) (by decide +kernel) (by decide +kernel) h0 h1 ?_
  show m_run Z (11, 56, [(2, ((r0 : Nat) : Int))], [], ((q_pf K s1 1 6 ((s0 : Nat) : Int)), σ, n, 0, s)) = _
  refine g_aload_n (k := 0) (v := (2, ((r0 : Nat) : Int))) (by decide +kernel : decode (m_byt 11) 56 = .ok (.aload_n 0, 1)) rfl (Or.inl rfl) ?_
  refine g_new (ci := 3) (by decide +kernel : decode (m_byt 11) 57 = .ok (.new 9, 3)) (by decide +kernel) (by decide) ?_
  show m_run Z (11, 60, [(2, ((r0 : Nat) : Int))], [(2, ((n : Nat) : Int)), (2, ((r0 : Nat) : Int))], ((m_up (q_pf K s1 1 6 ((s0 : Nat) : Int)) n (1, 3, fun _ => -1)), (m_up σ n (fun _ => 0)), (n + 1), 0, s + 1)) = _
  refine g_base (by decide +kernel : decode (m_byt 11) 60 = .ok (.dup, 1)) rfl rfl ?_
  show m_run Z (11, 61, [(2, ((r0 : Nat) : Int))], [(2, ((n : Nat) : Int)), (2, ((n : Nat) : Int)), (2, ((r0 : Nat) : Int))], ((m_up (q_pf K s1 1 6 ((s0 : Nat) : Int)) n (1, 3, fun _ => -1)), (m_up σ n (fun _ => 0)), (n + 1), 0, s + 1)) = _
  refine g_base (by decide +kernel : decode (m_byt 11) 61 = .ok (.bipush 12, 2)) rfl rfl ?_
  show m_run Z (11, 63, [(2, ((r0 : Nat) : Int))], [(0, 12), (2, ((n : Nat) : Int)), (2, ((n : Nat) : Int)), (2, ((r0 : Nat) : Int))], ((m_up (q_pf K s1 1 6 ((s0 : Nat) : Int)) n (1, 3, fun _ => -1)), (m_up σ n (fun _ => 0)), (n + 1), 0, s + 1)) = _
  exact g_inv (k := 2) (m' := 43) (np := 1) (as := [(2, ((n : Nat) : Int)), (0, 12)]) (by decide +kernel : decode (m_byt 11) 63 = .ok (.invokespecial 11, 3)) (Or.inr (Or.inl ⟨rfl, rfl, by decide⟩)) (by decide +kernel) (by decide +kernel) (by decide +kernel) (Nat.le_of_ble_eq_true rfl) rfl (Or.inr (g_rcv (by decide +kernel) h2))
theorem b_11_66 {Z : mZ} {s0 s1 r0 : Nat} {K : Nat → mK} {σ : Nat → Nat → Int} {n s : Nat} (h0 : q_ob K n s1 1) (h1 : ((s0 : Nat) : Int) < ((n : Nat) : Int)) (h2 : q_ob (m_up (q_pf K s1 1 7 ((s0 : Nat) : Int)) n (1, 3, fun _ => -1)) (n + 1) n 3) : m_run Z (11, 66, [(2, ((r0 : Nat) : Int))], [(2, ((s0 : Nat) : Int)), (2, ((s1 : Nat) : Int))], (K, σ, n, 0, s)) = (m_cl Z 43 [(2, ((n : Nat) : Int)), (0, 6)] ((m_up (q_pf K s1 1 7 ((s0 : Nat) : Int)) n (1, 3, fun _ => -1)), (m_up σ n (fun _ => 0)), (n + 1), 0, s + 1)).bind (m_aft (m_run Z) 11 76 [(2, ((r0 : Nat) : Int))] [(2, ((n : Nat) : Int)), (2, ((r0 : Nat) : Int))]) := by
  refine g_putr (ci := 1) (f := 7) (by decide +kernel : decode (m_byt 11) 66 = .ok (.putfield 29, 3)) (by decide +kernel) (by decide +kernel) (by decide +kernel) (by decide +kernel) (by decide +kernel) h0 h1 ?_
  show m_run Z (11, 69, [(2, ((r0 : Nat) : Int))], [], ((q_pf K s1 1 7 ((s0 : Nat) : Int)), σ, n, 0, s)) = _
  refine g_aload_n (k := 0) (v := (2, ((r0 : Nat) : Int))) (by decide +kernel : decode (m_byt 11) 69 = .ok (.aload_n 0, 1)) rfl (Or.inl rfl) ?_
  refine g_new (ci := 3) (by decide +kernel : decode (m_byt 11) 70 = .ok (.new 9, 3)) (by decide +kernel) (by decide) ?_
  show m_run Z (11, 73, [(2, ((r0 : Nat) : Int))], [(2, ((n : Nat) : Int)), (2, ((r0 : Nat) : Int))], ((m_up (q_pf K s1 1 7 ((s0 : Nat) : Int)) n (1, 3, fun _ => -1)), (m_up σ n (fun _ => 0)), (n + 1), 0, s + 1)) = _
  refine g_base (by decide +kernel : decode (m_byt 11) 73 = .ok (.dup, 1)) rfl rfl ?_
  show m_run Z (11, 74, [(2, ((r0 : Nat) : Int))], [(2, ((n : Nat) : Int)), (2, ((n : Nat) : Int)), (2, ((r0 : Nat) : Int))], ((m_up (q_pf K s1 1 7 ((s0 : Nat) : Int)) n (1, 3, fun _ => -1)), (m_up σ n (fun _ => 0)), (n + 1), 0, s + 1)) = _
  refine g_base (by decide +kernel : decode (m_byt 11) 74 = .ok (.bipush 6, 2)) rfl rfl ?_
  show m_run Z (11, 76, [(2, ((r0 : Nat) : Int))], [(0, 6), (2, ((n : Nat) : Int)), (2, ((n : Nat) : Int)), (2, ((r0 : Nat) : Int))], ((m_up (q_pf K s1 1 7 ((s0 : Nat) : Int)) n (1, 3, fun _ => -1)), (m_up σ n (fun _ => 0)), (n + 1), 0, s + 1)) = _
  exact g_inv (k := 2) (m' := 43) (np := 1) (as := [(2, ((n : Nat) : Int)), (0, 6)]) (by decide +kernel : decode (m_byt 11) 76 = .ok (.invokespecial 11, 3)) (Or.inr (Or.inl ⟨rfl, rfl, by decide⟩)) (by decide +kernel) (by decide +kernel) (by decide +kernel) (Nat.le_of_ble_eq_true rfl) rfl (Or.inr (g_rcv (by decide +kernel) h2))
theorem b_11_79 {Z : mZ} {s0 s1 r0 : Nat} {K : Nat → mK} {σ : Nat → Nat → Int} {n s : Nat} (h0 : q_ob K n s1 1) (h1 : ((s0 : Nat) : Int) < ((n : Nat) : Int)) (h2 : q_ob (m_up (q_pf K s1 1 8 ((s0 : Nat) : Int)) n (1, 3, fun _ => -1)) (n + 1) n 3) : m_run Z (11, 79, [(2, ((r0 : Nat) : Int))], [(2, ((s0 : Nat) : Int)), (2, ((s1 : Nat) : Int))], (K, σ, n, 0, s)) = (m_cl Z 43 [(2, ((n : Nat) : Int)), (0, 6)] ((m_up (q_pf K s1 1 8 ((s0 : Nat) : Int)) n (1, 3, fun _ => -1)), (m_up σ n (fun _ => 0)), (n + 1), 0, s + 1)).bind (m_aft (m_run Z) 11 89 [(2, ((r0 : Nat) : Int))] [(2, ((n : Nat) : Int)), (2, ((r0 : Nat) : Int))]) := by
  refine g_putr (ci := 1) (f := 8) (by decide +kernel : decode (m_byt 11) 79 = .ok (.putfield 32, 3)) (by decide +kernel) (by decide +kernel) (by decide +kernel) (by decide +kernel) (by decide +kernel) h0 h1 ?_
  show m_run Z (11, 82, [(2, ((r0 : Nat) : Int))], [], ((q_pf K s1 1 8 ((s0 : Nat) : Int)), σ, n, 0, s)) = _
  refine g_aload_n (k := 0) (v := (2, ((r0 : Nat) : Int))) (by decide +kernel : decode (m_byt 11) 82 = .ok (.aload_n 0, 1)) rfl (Or.inl rfl) ?_
  refine g_new (ci := 3) (by decide +kernel : decode (m_byt 11) 83 = .ok (.new 9, 3)) (by decide +kernel) (by decide) ?_
  show m_run Z (11, 86, [(2, ((r0 : Nat) : Int))], [(2, ((n : Nat) : Int)), (2, ((r0 : Nat) : Int))], ((m_up (q_pf K s1 1 8 ((s0 : Nat) : Int)) n (1, 3, fun _ => -1)), (m_up σ n (fun _ => 0)), (n + 1), 0, s + 1)) = _
  refine g_base (by decide +kernel : decode (m_byt 11) 86 = .ok (.dup, 1)) rfl rfl ?_
  show m_run Z (11, 87, [(2, ((r0 : Nat) : Int))], [(2, ((n : Nat) : Int)), (2, ((n : Nat) : Int)), (2, ((r0 : Nat) : Int))], ((m_up (q_pf K s1 1 8 ((s0 : Nat) : Int)) n (1, 3, fun _ => -1)), (m_up σ n (fun _ => 0)), (n + 1), 0, s + 1)) = _
  refine g_base (by decide +kernel : decode (m_byt 11) 87 = .ok (.bipush 6, 2)) rfl rfl ?_
  show m_run Z (11, 89, [(2, ((r0 : Nat) : Int))], [(0, 6), (2, ((n : Nat) : Int)), (2, ((n : Nat) : Int)), (2, ((r0 : Nat) : Int))], ((m_up (q_pf K s1 1 8 ((s0 : Nat) : Int)) n (1, 3, fun _ => -1)), (m_up σ n (fun _ => 0)), (n + 1), 0, s + 1)) = _
  exact g_inv (k := 2) (m' := 43) (np := 1) (as := [(2, ((n : Nat) : Int)), (0, 6)]) (by decide +kernel : decode (m_byt 11) 89 = .ok (.invokespecial 11, 3)) (Or.inr (Or.inl ⟨rfl, rfl, by decide⟩)) (by decide +kernel) (by decide +kernel) (by decide +kernel) (Nat.le_of_ble_eq_true rfl) rfl (Or.inr (g_rcv (by decide +kernel) h2))
theorem b_11_92 {Z : mZ} {s0 s1 r0 : Nat} {K : Nat → mK} {σ : Nat → Nat → Int} {n s : Nat} (h0 : q_ob K n s1 1) (h1 : ((s0 : Nat) : Int) < ((n : Nat) : Int)) (h2 : q_ob (m_up (q_pf K s1 1 9 ((s0 : Nat) : Int)) n (1, 3, fun _ => -1)) (n + 1) n 3) : m_run Z (11, 92, [(2, ((r0 : Nat) : Int))], [(2, ((s0 : Nat) : Int)), (2, ((s1 : Nat) : Int))], (K, σ, n, 0, s)) = (m_cl Z 43 [(2, ((n : Nat) : Int)), (0, 6)] ((m_up (q_pf K s1 1 9 ((s0 : Nat) : Int)) n (1, 3, fun _ => -1)), (m_up σ n (fun _ => 0)), (n + 1), 0, s + 1)).bind (m_aft (m_run Z) 11 102 [(2, ((r0 : Nat) : Int))] [(2, ((n : Nat) : Int)), (2, ((r0 : Nat) : Int))]) := by
  refine g_putr (ci := 1) (f := 9) (by decide +kernel : decode (m_byt 11) 92 = .ok (.putfield 35, 3)) (by decide +kernel) (by decide +kernel) (by decide +kernel) (by decide +kernel) (by decide +kernel) h0 h1 ?_
  show m_run Z (11, 95, [(2, ((r0 : Nat) : Int))], [], ((q_pf K s1 1 9 ((s0 : Nat) : Int)), σ, n, 0, s)) = _
  refine g_aload_n (k := 0) (v := (2, ((r0 : Nat) : Int))) (by decide +kernel : decode (m_byt 11) 95 = .ok (.aload_n 0, 1)) rfl (Or.inl rfl) ?_
  refine g_new (ci := 3) (by decide +kernel : decode (m_byt 11) 96 = .ok (.new 9, 3)) (by decide +kernel) (by decide) ?_
  show m_run Z (11, 99, [(2, ((r0 : Nat) : Int))], [(2, ((n : Nat) : Int)), (2, ((r0 : Nat) : Int))], ((m_up (q_pf K s1 1 9 ((s0 : Nat) : Int)) n (1, 3, fun _ => -1)), (m_up σ n (fun _ => 0)), (n + 1), 0, s + 1)) = _
  refine g_base (by decide +kernel : decode (m_byt 11) 99 = .ok (.dup, 1)) rfl rfl ?_
  show m_run Z (11, 100, [(2, ((r0 : Nat) : Int))], [(2, ((n : Nat) : Int)), (2, ((n : Nat) : Int)), (2, ((r0 : Nat) : Int))], ((m_up (q_pf K s1 1 9 ((s0 : Nat) : Int)) n (1, 3, fun _ => -1)), (m_up σ n (fun _ => 0)), (n + 1), 0, s + 1)) = _
  refine g_base (by decide +kernel : decode (m_byt 11) 100 = .ok (.bipush 6, 2)) rfl rfl ?_
  show m_run Z (11, 102, [(2, ((r0 : Nat) : Int))], [(0, 6), (2, ((n : Nat) : Int)), (2, ((n : Nat) : Int)), (2, ((r0 : Nat) : Int))], ((m_up (q_pf K s1 1 9 ((s0 : Nat) : Int)) n (1, 3, fun _ => -1)), (m_up σ n (fun _ => 0)), (n + 1), 0, s + 1)) = _
  exact g_inv (k := 2) (m' := 43) (np := 1) (as := [(2, ((n : Nat) : Int)), (0, 6)]) (by decide +kernel : decode (m_byt 11) 102 = .ok (.invokespecial 11, 3)) (Or.inr (Or.inl ⟨rfl, rfl, by decide⟩)) (by decide +kernel) (by decide +kernel) (by decide +kernel) (Nat.le_of_ble_eq_true rfl) rfl (Or.inr (g_rcv (by decide +kernel) h2))
theorem b_11_105 {Z : mZ} {s0 s1 r0 : Nat} {K : Nat → mK} {σ : Nat → Nat → Int} {n e s : Nat} (h0 : q_ob K n s1 1) (h1 : ((s0 : Nat) : Int) < ((n : Nat) : Int)) (h2 : q_ob (q_pf K s1 1 10 ((s0 : Nat) : Int)) n r0 1) : m_run Z (11, 105, [(2, ((r0 : Nat) : Int))], [(2, ((s0 : Nat) : Int)), (2, ((s1 : Nat) : Int))], (K, σ, n, e, s)) = (m_cl Z 12 [(2, ((r0 : Nat) : Int)), (0, 4)] ((q_pf K s1 1 10 ((s0 : Nat) : Int)), σ, n, e, s)).bind (m_aft (m_run Z) 11 110 [(2, ((r0 : Nat) : Int))] []) := by
  refine g_putr (ci := 1) (f := 10) (by decide +kernel : decode (m_byt 11) 105 = .ok (.putfield 38, 3)) (by decide +kernel) (by decide +kernel) (by decide +kernel) (by decide +kernel) (by decide +kernel) h0 h1 ?_
  show m_run Z (11, 108, [(2, ((r0 : Nat) : Int))], [], ((q_pf K s1 1 10 ((s0 : Nat) : Int)), σ, n, e, s)) = _
  refine g_aload_n (k := 0) (v := (2, ((r0 : Nat) : Int))) (by decide +kernel : decode (m_byt 11) 108 = .ok (.aload_n 0, 1)) rfl (Or.inl rfl) ?_
  refine g_base (by decide +kernel : decode (m_byt 11) 109 = .ok (.iconst 4, 1)) rfl rfl ?_
  show m_run Z (11, 110, [(2, ((r0 : Nat) : Int))], [(0, 4), (2, ((r0 : Nat) : Int))], ((q_pf K s1 1 10 ((s0 : Nat) : Int)), σ, n, e, s)) = _
  exact g_inv (k := 1) (m' := 12) (np := 1) (as := [(2, ((r0 : Nat) : Int)), (0, 4)]) (by decide +kernel : decode (m_byt 11) 110 = .ok (.invokevirtual 41, 3)) (Or.inl ⟨rfl, rfl⟩) (by decide +kernel) (by decide +kernel) (by decide +kernel) (Nat.le_of_ble_eq_true rfl) rfl (Or.inr (g_rcv (by decide +kernel) h2))
theorem b_11_113 {Z : mZ} {l0 : mV} {h : mH} : m_run Z (11, 113, [l0], [], h) = some (.inl (9, 0), h) := by
  exact g_vret (by decide +kernel : decode (m_byt 11) 113 = .ok (.return_, 1)) (by decide +kernel)
theorem e_12 {Z : mZ} {r0 : Nat} {x1 : Int} {h : mH} : m_cl Z 12 [(2, ((r0 : Nat) : Int)), (0, x1)] h = m_run Z (12, 0, [(2, ((r0 : Nat) : Int)), (0, x1)], [], h) := g_ent (k := 2) (by decide) (by decide +kernel) (Nat.le_of_ble_eq_true rfl) (by decide +kernel) rfl
theorem b_12_0 {Z : mZ} {x1 : Int} {r0 : Nat} {K : Nat → mK} {σ : Nat → Nat → Int} {n e s : Nat} (h0 : q_ob K n r0 1) (h1 : q_rp K r0 3) (h2 : q_ob K n (q_rf K r0 3) 3) : m_run Z (12, 0, [(2, ((r0 : Nat) : Int)), (0, x1)], [], (K, σ, n, e, s)) = (m_cl Z 46 [(2, ((q_rf K r0 3 : Nat) : Int)), (0, 1)] (K, (m_up2 (m_up2 (m_up2 σ r0 0 x1) r0 1 0) r0 2 0), n, e, s)).bind (m_aft (m_run Z) 12 20 [(2, ((r0 : Nat) : Int)), (0, x1)] []) := by
  refine g_aload_n (k := 0) (v := (2, ((r0 : Nat) : Int))) (by decide +kernel : decode (m_byt 12) 0 = .ok (.aload_n 0, 1)) rfl (Or.inl rfl) ?_
  refine g_iload_n (k := 1) (x := x1) (by decide +kernel : decode (m_byt 12) 1 = .ok (.iload_n 1, 1)) rfl ?_
  refine g_putf (ci := 1) (f := 0) (by decide +kernel : decode (m_byt 12) 2 = .ok (.putfield 44, 3)) (by decide +kernel) (by decide +kernel) (by decide +kernel) h0 ?_
  show m_run Z (12, 5, [(2, ((r0 : Nat) : Int)), (0, x1)], [], (K, (m_up2 σ r0 0 x1), n, e, s)) = _
  refine g_aload_n (k := 0) (v := (2, ((r0 : Nat) : Int))) (by decide +kernel : decode (m_byt 12) 5 = .ok (.aload_n 0, 1)) rfl (Or.inl rfl) ?_
  refine g_base (by decide +kernel : decode (m_byt 12) 6 = .ok (.iconst 0, 1)) rfl rfl ?_
  show m_run Z (12, 7, [(2, ((r0 : Nat) : Int)), (0, x1)], [(0, 0), (2, ((r0 : Nat) : Int))], (K, (m_up2 σ r0 0 x1), n, e, s)) = _
  refine g_putf (ci := 1) (f := 1) (by decide +kernel : decode (m_byt 12) 7 = .ok (.putfield 48, 3)) (by decide +kernel) (by decide +kernel) (by decide +kernel) h0 ?_
  show m_run Z (12, 10, [(2, ((r0 : Nat) : Int)), (0, x1)], [], (K, (m_up2 (m_up2 σ r0 0 x1) r0 1 0), n, e, s)) = _
  refine g_aload_n (k := 0) (v := (2, ((r0 : Nat) : Int))) (by decide +kernel : decode (m_byt 12) 10 = .ok (.aload_n 0, 1)) rfl (Or.inl rfl) ?_
  refine g_base (by decide +kernel : decode (m_byt 12) 11 = .ok (.iconst 0, 1)) rfl rfl ?_
  show m_run Z (12, 12, [(2, ((r0 : Nat) : Int)), (0, x1)], [(0, 0), (2, ((r0 : Nat) : Int))], (K, (m_up2 (m_up2 σ r0 0 x1) r0 1 0), n, e, s)) = _
  refine g_putf (ci := 1) (f := 2) (by decide +kernel : decode (m_byt 12) 12 = .ok (.putfield 51, 3)) (by decide +kernel) (by decide +kernel) (by decide +kernel) h0 ?_
  show m_run Z (12, 15, [(2, ((r0 : Nat) : Int)), (0, x1)], [], (K, (m_up2 (m_up2 (m_up2 σ r0 0 x1) r0 1 0) r0 2 0), n, e, s)) = _
  refine g_aload_n (k := 0) (v := (2, ((r0 : Nat) : Int))) (by decide +kernel : decode (m_byt 12) 15 = .ok (.aload_n 0, 1)) rfl (Or.inl rfl) ?_
  refine g_getr (ci := 1) (f := 3) (by decide +kernel : decode (m_byt 12) 16 = .ok (.getfield 14, 3)) (by decide +kernel) (by decide +kernel) (by decide +kernel) h0 h1 ?_
  refine g_base (by decide +kernel : decode (m_byt 12) 19 = .ok (.iconst 1, 1)) rfl rfl ?_
  show m_run Z (12, 20, [(2, ((r0 : Nat) : Int)), (0, x1)], [(0, 1), (2, ((q_rf K r0 3 : Nat) : Int))], (K, (m_up2 (m_up2 (m_up2 σ r0 0 x1) r0 1 0) r0 2 0), n, e, s)) = _
  exact g_inv (k := 1) (m' := 46) (np := 1) (as := [(2, ((q_rf K r0 3 : Nat) : Int)), (0, 1)]) (by decide +kernel : decode (m_byt 12) 20 = .ok (.invokevirtual 54, 3)) (Or.inl ⟨rfl, rfl⟩) (by decide +kernel) (by decide +kernel) (by decide +kernel) (Nat.le_of_ble_eq_true rfl) rfl (Or.inr (g_rcv (by decide +kernel) h2))
theorem b_12_23 {Z : mZ} {l1 : mV} {r0 : Nat} {K : Nat → mK} {σ : Nat → Nat → Int} {n e s : Nat} (h0 : q_ob K n r0 1) (h1 : q_rp K r0 4) (h2 : q_ob K n (q_rf K r0 4) 3) : m_run Z (12, 23, [(2, ((r0 : Nat) : Int)), l1], [], (K, σ, n, e, s)) = (m_cl Z 46 [(2, ((q_rf K r0 4 : Nat) : Int)), (0, 0)] (K, σ, n, e, s)).bind (m_aft (m_run Z) 12 28 [(2, ((r0 : Nat) : Int)), l1] []) := by
  refine g_aload_n (k := 0) (v := (2, ((r0 : Nat) : Int))) (by decide +kernel : decode (m_byt 12) 23 = .ok (.aload_n 0, 1)) rfl (Or.inl rfl) ?_
  refine g_getr (ci := 1) (f := 4) (by decide +kernel : decode (m_byt 12) 24 = .ok (.getfield 20, 3)) (by decide +kernel) (by decide +kernel) (by decide +kernel) h0 h1 ?_
  refine g_base (by decide +kernel : decode (m_byt 12) 27 = .ok (.iconst 0, 1)) rfl rfl ?_
  show m_run Z (12, 28, [(2, ((r0 : Nat) : Int)), l1], [(0, 0), (2, ((q_rf K r0 4 : Nat) : Int))], (K, σ, n, e, s)) = _
  exact g_inv (k := 1) (m' := 46) (np := 1) (as := [(2, ((q_rf K r0 4 : Nat) : Int)), (0, 0)]) (by decide +kernel : decode (m_byt 12) 28 = .ok (.invokevirtual 54, 3)) (Or.inl ⟨rfl, rfl⟩) (by decide +kernel) (by decide +kernel) (by decide +kernel) (Nat.le_of_ble_eq_true rfl) rfl (Or.inr (g_rcv (by decide +kernel) h2))
theorem b_12_31 {Z : mZ} {l0 l1 : mV} {h : mH} : m_run Z (12, 31, [l0, l1], [], h) = some (.inl (9, 0), h) := by
  exact g_vret (by decide +kernel : decode (m_byt 12) 31 = .ok (.return_, 1)) (by decide +kernel)
theorem e_13 {Z : mZ} {r0 : Nat} {r1 : Nat} {h : mH} : m_cl Z 13 [(2, ((r0 : Nat) : Int)), (2, ((r1 : Nat) : Int))] h = m_run Z (13, 0, [(2, ((r0 : Nat) : Int)), (2, ((r1 : Nat) : Int))], [], h) := g_ent (k := 2) (by decide) (by decide +kernel) (Nat.le_of_ble_eq_true rfl) (by decide +kernel) rfl
theorem b_13_0 {Z : mZ} {r0 r1 : Nat} {K : Nat → mK} {σ : Nat → Nat → Int} {n e s : Nat} (h0 : q_ob K n r1 1) (h1 : q_ob K n r0 1) (h2 : q_rp K r0 3) (h3 : q_rp K r1 3) (h4 : q_ob K n (q_rf K r0 3) 3) : m_run Z (13, 0, [(2, ((r0 : Nat) : Int)), (2, ((r1 : Nat) : Int))], [], (K, σ, n, e, s)) = (m_cl Z 47 [(2, ((q_rf K r0 3 : Nat) : Int)), (2, ((q_rf K r1 3 : Nat) : Int))] (K, (m_up2 (m_up2 (m_up2 σ r0 0 (σ r1 0)) r0 1 ((m_up2 σ r0 0 (σ r1 0)) r1 1)) r0 2 ((m_up2 (m_up2 σ r0 0 (σ r1 0)) r0 1 ((m_up2 σ r0 0 (σ r1 0)) r1 1)) r1 2)), n, e, s)).bind (m_aft (m_run Z) 13 32 [(2, ((r0 : Nat) : Int)), (2, ((r1 : Nat) : Int))] []) := by
  refine g_aload_n (k := 0) (v := (2, ((r0 : Nat) : Int))) (by decide +kernel : decode (m_byt 13) 0 = .ok (.aload_n 0, 1)) rfl (Or.inl rfl) ?_
  refine g_aload_n (k := 1) (v := (2, ((r1 : Nat) : Int))) (by decide +kernel : decode (m_byt 13) 1 = .ok (.aload_n 1, 1)) rfl (Or.inl rfl) ?_
  refine g_getf (ci := 1) (f := 0) (by decide +kernel : decode (m_byt 13) 2 = .ok (.getfield 44, 3)) (by decide +kernel) (by decide +kernel) (by decide +kernel) h0 ?_
  refine g_putf (ci := 1) (f := 0) (by decide +kernel : decode (m_byt 13) 5 = .ok (.putfield 44, 3)) (by decide +kernel) (by decide +kernel) (by decide +kernel) h1 ?_
  show m_run Z (13, 8, [(2, ((r0 : Nat) : Int)), (2, ((r1 : Nat) : Int))], [], (K, (m_up2 σ r0 0 (σ r1 0)), n, e, s)) = _
  refine g_aload_n (k := 0) (v := (2, ((r0 : Nat) : Int))) (by decide +kernel : decode (m_byt 13) 8 = .ok (.aload_n 0, 1)) rfl (Or.inl rfl) ?_
  refine g_aload_n (k := 1) (v := (2, ((r1 : Nat) : Int))) (by decide +kernel : decode (m_byt 13) 9 = .ok (.aload_n 1, 1)) rfl (Or.inl rfl) ?_
  refine g_getf (ci := 1) (f := 1) (by decide +kernel : decode (m_byt 13) 10 = .ok (.getfield 48, 3)) (by decide +kernel) (by decide +kernel) (by decide +kernel) h0 ?_
  refine g_putf (ci := 1) (f := 1) (by decide +kernel : decode (m_byt 13) 13 = .ok (.putfield 48, 3)) (by decide +kernel) (by decide +kernel) (by decide +kernel) h1 ?_
  show m_run Z (13, 16, [(2, ((r0 : Nat) : Int)), (2, ((r1 : Nat) : Int))], [], (K, (m_up2 (m_up2 σ r0 0 (σ r1 0)) r0 1 ((m_up2 σ r0 0 (σ r1 0)) r1 1)), n, e, s)) = _
  refine g_aload_n (k := 0) (v := (2, ((r0 : Nat) : Int))) (by decide +kernel : decode (m_byt 13) 16 = .ok (.aload_n 0, 1)) rfl (Or.inl rfl) ?_
  refine g_aload_n (k := 1) (v := (2, ((r1 : Nat) : Int))) (by decide +kernel : decode (m_byt 13) 17 = .ok (.aload_n 1, 1)) rfl (Or.inl rfl) ?_
  refine g_getf (ci := 1) (f := 2) (by decide +kernel : decode (m_byt 13) 18 = .ok (.getfield 51, 3)) (by decide +kernel) (by decide +kernel) (by decide +kernel) h0 ?_
  refine g_putf (ci := 1) (f := 2) (by decide +kernel : decode (m_byt 13) 21 = .ok (.putfield 51, 3)) (by decide +kernel) (by decide +kernel) (by decide +kernel) h1 ?_
  show m_run Z (13, 24, [(2, ((r0 : Nat) : Int)), (2, ((r1 : Nat) : Int))], [], (K, (m_up2 (m_up2 (m_up2 σ r0 0 (σ r1 0)) r0 1 ((m_up2 σ r0 0 (σ r1 0)) r1 1)) r0 2 ((m_up2 (m_up2 σ r0 0 (σ r1 0)) r0 1 ((m_up2 σ r0 0 (σ r1 0)) r1 1)) r1 2)), n, e, s)) = _
  refine g_aload_n (k := 0) (v := (2, ((r0 : Nat) : Int))) (by decide +kernel : decode (m_byt 13) 24 = .ok (.aload_n 0, 1)) rfl (Or.inl rfl) ?_
  refine g_getr (ci := 1) (f := 3) (by decide +kernel : decode (m_byt 13) 25 = .ok (.getfield 14, 3)) (by decide +kernel) (by decide +kernel) (by decide +kernel) h1 h2 ?_
  refine g_aload_n (k := 1) (v := (2, ((r1 : Nat) : Int))) (by decide +kernel : decode (m_byt 13) 28 = .ok (.aload_n 1, 1)) rfl (Or.inl rfl) ?_
  refine g_getr (ci := 1) (f := 3) (by decide +kernel : decode (m_byt 13) 29 = .ok (.getfield 14, 3)) (by decide +kernel) (by decide +kernel) (by decide +kernel) h0 h3 ?_
  exact g_inv (k := 1) (m' := 47) (np := 1) (as := [(2, ((q_rf K r0 3 : Nat) : Int)), (2, ((q_rf K r1 3 : Nat) : Int))]) (by decide +kernel : decode (m_byt 13) 32 = .ok (.invokevirtual 57, 3)) (Or.inl ⟨rfl, rfl⟩) (by decide +kernel) (by decide +kernel) (by decide +kernel) (Nat.le_of_ble_eq_true rfl) rfl (Or.inr (g_rcv (by decide +kernel) h4))
theorem b_13_35 {Z : mZ} {r0 r1 : Nat} {K : Nat → mK} {σ : Nat → Nat → Int} {n e s : Nat} (h0 : q_ob K n r0 1) (h1 : q_rp K r0 4) (h2 : q_ob K n r1 1) (h3 : q_rp K r1 4) (h4 : q_ob K n (q_rf K r0 4) 3) : m_run Z (13, 35, [(2, ((r0 : Nat) : Int)), (2, ((r1 : Nat) : Int))], [], (K, σ, n, e, s)) = (m_cl Z 47 [(2, ((q_rf K r0 4 : Nat) : Int)), (2, ((q_rf K r1 4 : Nat) : Int))] (K, σ, n, e, s)).bind (m_aft (m_run Z) 13 43 [(2, ((r0 : Nat) : Int)), (2, ((r1 : Nat) : Int))] []) := by
  refine g_aload_n (k := 0) (v := (2, ((r0 : Nat) : Int))) (by decide +kernel : decode (m_byt 13) 35 = .ok (.aload_n 0, 1)) rfl (Or.inl rfl) ?_
  refine g_getr (ci := 1) (f := 4) (by decide +kernel : decode (m_byt 13) 36 = .ok (.getfield 20, 3)) (by decide +kernel) (by decide +kernel) (by decide +kernel) h0 h1 ?_
  refine g_aload_n (k := 1) (v := (2, ((r1 : Nat) : Int))) (by decide +kernel : decode (m_byt 13) 39 = .ok (.aload_n 1, 1)) rfl (Or.inl rfl) ?_
  refine g_getr (ci := 1) (f := 4) (by decide +kernel : decode (m_byt 13) 40 = .ok (.getfield 20, 3)) (by decide +kernel) (by decide +kernel) (by decide +kernel) h2 h3 ?_
  exact g_inv (k := 1) (m' := 47) (np := 1) (as := [(2, ((q_rf K r0 4 : Nat) : Int)), (2, ((q_rf K r1 4 : Nat) : Int))]) (by decide +kernel : decode (m_byt 13) 43 = .ok (.invokevirtual 57, 3)) (Or.inl ⟨rfl, rfl⟩) (by decide +kernel) (by decide +kernel) (by decide +kernel) (Nat.le_of_ble_eq_true rfl) rfl (Or.inr (g_rcv (by decide +kernel) h4))
theorem b_13_46 {Z : mZ} {r0 r1 : Nat} {K : Nat → mK} {σ : Nat → Nat → Int} {n e s : Nat} (h0 : q_ob K n r0 1) (h1 : q_rp K r0 5) (h2 : q_ob K n r1 1) (h3 : q_rp K r1 5) (h4 : q_ob K n (q_rf K r0 5) 3) : m_run Z (13, 46, [(2, ((r0 : Nat) : Int)), (2, ((r1 : Nat) : Int))], [], (K, σ, n, e, s)) = (m_cl Z 47 [(2, ((q_rf K r0 5 : Nat) : Int)), (2, ((q_rf K r1 5 : Nat) : Int))] (K, σ, n, e, s)).bind (m_aft (m_run Z) 13 54 [(2, ((r0 : Nat) : Int)), (2, ((r1 : Nat) : Int))] []) := by
  refine g_aload_n (k := 0) (v := (2, ((r0 : Nat) : Int))) (by decide +kernel : decode (m_byt 13) 46 = .ok (.aload_n 0, 1)) rfl (Or.inl rfl) ?_
  refine g_getr (ci := 1) (f := 5) (by decide +kernel : decode (m_byt 13) 47 = .ok (.getfield 23, 3)) (by decide +kernel) (by decide +kernel) (by decide +kernel) h0 h1 ?_
  refine g_aload_n (k := 1) (v := (2, ((r1 : Nat) : Int))) (by decide +kernel : decode (m_byt 13) 50 = .ok (.aload_n 1, 1)) rfl (Or.inl rfl) ?_
  refine g_getr (ci := 1) (f := 5) (by decide +kernel : decode (m_byt 13) 51 = .ok (.getfield 23, 3)) (by decide +kernel) (by decide +kernel) (by decide +kernel) h2 h3 ?_
  exact g_inv (k := 1) (m' := 47) (np := 1) (as := [(2, ((q_rf K r0 5 : Nat) : Int)), (2, ((q_rf K r1 5 : Nat) : Int))]) (by decide +kernel : decode (m_byt 13) 54 = .ok (.invokevirtual 57, 3)) (Or.inl ⟨rfl, rfl⟩) (by decide +kernel) (by decide +kernel) (by decide +kernel) (Nat.le_of_ble_eq_true rfl) rfl (Or.inr (g_rcv (by decide +kernel) h4))
theorem b_13_57 {Z : mZ} {r0 r1 : Nat} {K : Nat → mK} {σ : Nat → Nat → Int} {n e s : Nat} (h0 : q_ob K n r0 1) (h1 : q_rp K r0 6) (h2 : q_ob K n r1 1) (h3 : q_rp K r1 6) (h4 : q_ob K n (q_rf K r0 6) 3) : m_run Z (13, 57, [(2, ((r0 : Nat) : Int)), (2, ((r1 : Nat) : Int))], [], (K, σ, n, e, s)) = (m_cl Z 47 [(2, ((q_rf K r0 6 : Nat) : Int)), (2, ((q_rf K r1 6 : Nat) : Int))] (K, σ, n, e, s)).bind (m_aft (m_run Z) 13 65 [(2, ((r0 : Nat) : Int)), (2, ((r1 : Nat) : Int))] []) := by
  refine g_aload_n (k := 0) (v := (2, ((r0 : Nat) : Int))) (by decide +kernel : decode (m_byt 13) 57 = .ok (.aload_n 0, 1)) rfl (Or.inl rfl) ?_
  refine g_getr (ci := 1) (f := 6) (by decide +kernel : decode (m_byt 13) 58 = .ok (.getfield 26, 3)) (by decide +kernel) (by decide +kernel) (by decide +kernel) h0 h1 ?_
  refine g_aload_n (k := 1) (v := (2, ((r1 : Nat) : Int))) (by decide +kernel : decode (m_byt 13) 61 = .ok (.aload_n 1, 1)) rfl (Or.inl rfl) ?_
  refine g_getr (ci := 1) (f := 6) (by decide +kernel : decode (m_byt 13) 62 = .ok (.getfield 26, 3)) (by decide +kernel) (by decide +kernel) (by decide +kernel) h2 h3 ?_
  exact g_inv (k := 1) (m' := 47) (np := 1) (as := [(2, ((q_rf K r0 6 : Nat) : Int)), (2, ((q_rf K r1 6 : Nat) : Int))]) (by decide +kernel : decode (m_byt 13) 65 = .ok (.invokevirtual 57, 3)) (Or.inl ⟨rfl, rfl⟩) (by decide +kernel) (by decide +kernel) (by decide +kernel) (Nat.le_of_ble_eq_true rfl) rfl (Or.inr (g_rcv (by decide +kernel) h4))
theorem b_13_68 {Z : mZ} {r0 r1 : Nat} {K : Nat → mK} {σ : Nat → Nat → Int} {n e s : Nat} (h0 : q_ob K n r0 1) (h1 : q_rp K r0 7) (h2 : q_ob K n r1 1) (h3 : q_rp K r1 7) (h4 : q_ob K n (q_rf K r0 7) 3) : m_run Z (13, 68, [(2, ((r0 : Nat) : Int)), (2, ((r1 : Nat) : Int))], [], (K, σ, n, e, s)) = (m_cl Z 47 [(2, ((q_rf K r0 7 : Nat) : Int)), (2, ((q_rf K r1 7 : Nat) : Int))] (K, σ, n, e, s)).bind (m_aft (m_run Z) 13 76 [(2, ((r0 : Nat) : Int)), (2, ((r1 : Nat) : Int))] []) := by
  refine g_aload_n (k := 0) (v := (2, ((r0 : Nat) : Int))) (by decide +kernel : decode (m_byt 13) 68 = .ok (.aload_n 0, 1)) rfl (Or.inl rfl) ?_
  refine g_getr (ci := 1) (f := 7) (by decide +kernel : decode (m_byt 13) 69 = .ok (.getfield 29, 3)) (by decide +kernel) (by decide +kernel) (by decide +kernel) h0 h1 ?_
  refine g_aload_n (k := 1) (v := (2, ((r1 : Nat) : Int))) (by decide +kernel : decode (m_byt 13) 72 = .ok (.aload_n 1, 1)) rfl (Or.inl rfl) ?_
  refine g_getr (ci := 1) (f := 7) (by decide +kernel : decode (m_byt 13) 73 = .ok (.getfield 29, 3)) (by decide +kernel) (by decide +kernel) (by decide +kernel) h2 h3 ?_
  exact g_inv (k := 1) (m' := 47) (np := 1) (as := [(2, ((q_rf K r0 7 : Nat) : Int)), (2, ((q_rf K r1 7 : Nat) : Int))]) (by decide +kernel : decode (m_byt 13) 76 = .ok (.invokevirtual 57, 3)) (Or.inl ⟨rfl, rfl⟩) (by decide +kernel) (by decide +kernel) (by decide +kernel) (Nat.le_of_ble_eq_true rfl) rfl (Or.inr (g_rcv (by decide +kernel) h4))
theorem b_13_79 {Z : mZ} {r0 r1 : Nat} {K : Nat → mK} {σ : Nat → Nat → Int} {n e s : Nat} (h0 : q_ob K n r0 1) (h1 : q_rp K r0 8) (h2 : q_ob K n r1 1) (h3 : q_rp K r1 8) (h4 : q_ob K n (q_rf K r0 8) 3) : m_run Z (13, 79, [(2, ((r0 : Nat) : Int)), (2, ((r1 : Nat) : Int))], [], (K, σ, n, e, s)) = (m_cl Z 47 [(2, ((q_rf K r0 8 : Nat) : Int)), (2, ((q_rf K r1 8 : Nat) : Int))] (K, σ, n, e, s)).bind (m_aft (m_run Z) 13 87 [(2, ((r0 : Nat) : Int)), (2, ((r1 : Nat) : Int))] []) := by
  refine g_aload_n (k := 0) (v := (2, ((r0 : Nat) : Int))) (by decide +kernel : decode (m_byt 13) 79 = .ok (.aload_n 0, 1)) rfl (Or.inl rfl) ?_
  refine g_getr (ci := 1) (f := 8) (by decide +kernel : decode (m_byt 13) 80 = .ok (.getfield 32, 3)) (by decide +kernel) (by decide +kernel) (by decide +kernel) h0 h1 ?_
  refine g_aload_n (k := 1) (v := (2, ((r1 : Nat) : Int))) (by decide +kernel : decode (m_byt 13) 83 = .ok (.aload_n 1, 1)) rfl (Or.inl rfl) ?_
  refine g_getr (ci := 1) (f := 8) (by decide +kernel : decode (m_byt 13) 84 = .ok (.getfield 32, 3)) (by decide +kernel) (by decide +kernel) (by decide +kernel) h2 h3 ?_
  exact g_inv (k := 1) (m' := 47) (np := 1) (as := [(2, ((q_rf K r0 8 : Nat) : Int)), (2, ((q_rf K r1 8 : Nat) : Int))]) (by decide +kernel : decode (m_byt 13) 87 = .ok (.invokevirtual 57, 3)) (Or.inl ⟨rfl, rfl⟩) (by decide +kernel) (by decide +kernel) (by decide +kernel) (Nat.le_of_ble_eq_true rfl) rfl (Or.inr (g_rcv (by decide +kernel) h4))
theorem b_13_90 {Z : mZ} {r0 r1 : Nat} {K : Nat → mK} {σ : Nat → Nat → Int} {n e s : Nat} (h0 : q_ob K n r0 1) (h1 : q_rp K r0 9) (h2 : q_ob K n r1 1) (h3 : q_rp K r1 9) (h4 : q_ob K n (q_rf K r0 9) 3) : m_run Z (13, 90, [(2, ((r0 : Nat) : Int)), (2, ((r1 : Nat) : Int))], [], (K, σ, n, e, s)) = (m_cl Z 47 [(2, ((q_rf K r0 9 : Nat) : Int)), (2, ((q_rf K r1 9 : Nat) : Int))] (K, σ, n, e, s)).bind (m_aft (m_run Z) 13 98 [(2, ((r0 : Nat) : Int)), (2, ((r1 : Nat) : Int))] []) := by
  refine g_aload_n (k := 0) (v := (2, ((r0 : Nat) : Int))) (by decide +kernel : decode (m_byt 13) 90 = .ok (.aload_n 0, 1)) rfl (Or.inl rfl) ?_
  refine g_getr (ci := 1) (f := 9) (by decide +kernel : decode (m_byt 13) 91 = .ok (.getfield 35, 3)) (by decide +kernel) (by decide +kernel) (by decide +kernel) h0 h1 ?_
  refine g_aload_n (k := 1) (v := (2, ((r1 : Nat) : Int))) (by decide +kernel : decode (m_byt 13) 94 = .ok (.aload_n 1, 1)) rfl (Or.inl rfl) ?_
  refine g_getr (ci := 1) (f := 9) (by decide +kernel : decode (m_byt 13) 95 = .ok (.getfield 35, 3)) (by decide +kernel) (by decide +kernel) (by decide +kernel) h2 h3 ?_
  exact g_inv (k := 1) (m' := 47) (np := 1) (as := [(2, ((q_rf K r0 9 : Nat) : Int)), (2, ((q_rf K r1 9 : Nat) : Int))]) (by decide +kernel : decode (m_byt 13) 98 = .ok (.invokevirtual 57, 3)) (Or.inl ⟨rfl, rfl⟩) (by decide +kernel) (by decide +kernel) (by decide +kernel) (Nat.le_of_ble_eq_true rfl) rfl (Or.inr (g_rcv (by decide +kernel) h4))
theorem b_13_101 {Z : mZ} {r0 r1 : Nat} {K : Nat → mK} {σ : Nat → Nat → Int} {n e s : Nat} (h0 : q_ob K n r0 1) (h1 : q_rp K r0 10) (h2 : q_ob K n r1 1) (h3 : q_rp K r1 10) (h4 : q_ob K n (q_rf K r0 10) 3) : m_run Z (13, 101, [(2, ((r0 : Nat) : Int)), (2, ((r1 : Nat) : Int))], [], (K, σ, n, e, s)) = (m_cl Z 47 [(2, ((q_rf K r0 10 : Nat) : Int)), (2, ((q_rf K r1 10 : Nat) : Int))] (K, σ, n, e, s)).bind (m_aft (m_run Z) 13 109 [(2, ((r0 : Nat) : Int)), (2, ((r1 : Nat) : Int))] []) := by
  refine g_aload_n (k := 0) (v := (2, ((r0 : Nat) : Int))) (by decide +kernel : decode (m_byt 13) 101 = .ok (.aload_n 0, 1)) rfl (Or.inl rfl) ?_
  refine g_getr (ci := 1) (f := 10) (by decide +kernel : decode (m_byt 13) 102 = .ok (.getfield 38, 3)) (by decide +kernel) (by decide +kernel) (by decide +kernel) h0 h1 ?_
  refine g_aload_n (k := 1) (v := (2, ((r1 : Nat) : Int))) (by decide +kernel : decode (m_byt 13) 105 = .ok (.aload_n 1, 1)) rfl (Or.inl rfl) ?_
  refine g_getr (ci := 1) (f := 10) (by decide +kernel : decode (m_byt 13) 106 = .ok (.getfield 38, 3)) (by decide +kernel) (by decide +kernel) (by decide +kernel) h2 h3 ?_
  exact g_inv (k := 1) (m' := 47) (np := 1) (as := [(2, ((q_rf K r0 10 : Nat) : Int)), (2, ((q_rf K r1 10 : Nat) : Int))]) (by decide +kernel : decode (m_byt 13) 109 = .ok (.invokevirtual 57, 3)) (Or.inl ⟨rfl, rfl⟩) (by decide +kernel) (by decide +kernel) (by decide +kernel) (Nat.le_of_ble_eq_true rfl) rfl (Or.inr (g_rcv (by decide +kernel) h4))
theorem b_13_112 {Z : mZ} {l0 l1 : mV} {h : mH} : m_run Z (13, 112, [l0, l1], [], h) = some (.inl (9, 0), h) := by
  exact g_vret (by decide +kernel : decode (m_byt 13) 112 = .ok (.return_, 1)) (by decide +kernel)
theorem e_14 {Z : mZ} {r0 : Nat} {r1 : Nat} {h : mH} : m_cl Z 14 [(2, ((r0 : Nat) : Int)), (2, ((r1 : Nat) : Int))] h = m_run Z (14, 0, [(2, ((r0 : Nat) : Int)), (2, ((r1 : Nat) : Int))], [], h) := g_ent (k := 2) (by decide) (by decide +kernel) (Nat.le_of_ble_eq_true rfl) (by decide +kernel) rfl
theorem b_14_0 {Z : mZ} {r0 r1 : Nat} {K : Nat → mK} {σ : Nat → Nat → Int} {n e s : Nat} (h0 : q_ob K n r0 1) (h1 : q_ob K n r1 1) : m_run Z (14, 0, [(2, ((r0 : Nat) : Int)), (2, ((r1 : Nat) : Int))], [], (K, σ, n, e, s)) = if w32 (σ r0 0) = w32 (σ r1 0) then m_run Z (14, 11, [(2, ((r0 : Nat) : Int)), (2, ((r1 : Nat) : Int))], [], (K, σ, n, e, s)) else m_run Z (14, 149, [(2, ((r0 : Nat) : Int)), (2, ((r1 : Nat) : Int))], [], (K, σ, n, e, s)) := by
  refine g_aload_n (k := 0) (v := (2, ((r0 : Nat) : Int))) (by decide +kernel : decode (m_byt 14) 0 = .ok (.aload_n 0, 1)) rfl (Or.inl rfl) ?_
  refine g_getf (ci := 1) (f := 0) (by decide +kernel : decode (m_byt 14) 1 = .ok (.getfield 44, 3)) (by decide +kernel) (by decide +kernel) (by decide +kernel) h0 ?_
  refine g_aload_n (k := 1) (v := (2, ((r1 : Nat) : Int))) (by decide +kernel : decode (m_byt 14) 4 = .ok (.aload_n 1, 1)) rfl (Or.inl rfl) ?_
  refine g_getf (ci := 1) (f := 0) (by decide +kernel : decode (m_byt 14) 5 = .ok (.getfield 44, 3)) (by decide +kernel) (by decide +kernel) (by decide +kernel) h1 ?_
  exact g_brn (t := 149) (off := 141) (by decide +kernel : decode (m_byt 14) 8 = .ok (.if_icmp .ne 141, 3)) rfl rfl (by decide)
theorem b_14_11 {Z : mZ} {r0 r1 : Nat} {K : Nat → mK} {σ : Nat → Nat → Int} {n e s : Nat} (h0 : q_ob K n r0 1) (h1 : q_ob K n r1 1) : m_run Z (14, 11, [(2, ((r0 : Nat) : Int)), (2, ((r1 : Nat) : Int))], [], (K, σ, n, e, s)) = if w32 (σ r0 1) = w32 (σ r1 1) then m_run Z (14, 22, [(2, ((r0 : Nat) : Int)), (2, ((r1 : Nat) : Int))], [], (K, σ, n, e, s)) else m_run Z (14, 149, [(2, ((r0 : Nat) : Int)), (2, ((r1 : Nat) : Int))], [], (K, σ, n, e, s)) := by
  refine g_aload_n (k := 0) (v := (2, ((r0 : Nat) : Int))) (by decide +kernel : decode (m_byt 14) 11 = .ok (.aload_n 0, 1)) rfl (Or.inl rfl) ?_
  refine g_getf (ci := 1) (f := 1) (by decide +kernel : decode (m_byt 14) 12 = .ok (.getfield 48, 3)) (by decide +kernel) (by decide +kernel) (by decide +kernel) h0 ?_
  refine g_aload_n (k := 1) (v := (2, ((r1 : Nat) : Int))) (by decide +kernel : decode (m_byt 14) 15 = .ok (.aload_n 1, 1)) rfl (Or.inl rfl) ?_
  refine g_getf (ci := 1) (f := 1) (by decide +kernel : decode (m_byt 14) 16 = .ok (.getfield 48, 3)) (by decide +kernel) (by decide +kernel) (by decide +kernel) h1 ?_
  exact g_brn (t := 149) (off := 130) (by decide +kernel : decode (m_byt 14) 19 = .ok (.if_icmp .ne 130, 3)) rfl rfl (by decide)
theorem b_14_22 {Z : mZ} {r0 r1 : Nat} {K : Nat → mK} {σ : Nat → Nat → Int} {n e s : Nat} (h0 : q_ob K n r0 1) (h1 : q_ob K n r1 1) : m_run Z (14, 22, [(2, ((r0 : Nat) : Int)), (2, ((r1 : Nat) : Int))], [], (K, σ, n, e, s)) = if w32 (σ r0 2) = w32 (σ r1 2) then m_run Z (14, 33, [(2, ((r0 : Nat) : Int)), (2, ((r1 : Nat) : Int))], [], (K, σ, n, e, s)) else m_run Z (14, 149, [(2, ((r0 : Nat) : Int)), (2, ((r1 : Nat) : Int))], [], (K, σ, n, e, s)) := by
  refine g_aload_n (k := 0) (v := (2, ((r0 : Nat) : Int))) (by decide +kernel : decode (m_byt 14) 22 = .ok (.aload_n 0, 1)) rfl (Or.inl rfl) ?_
  refine g_getf (ci := 1) (f := 2) (by decide +kernel : decode (m_byt 14) 23 = .ok (.getfield 51, 3)) (by decide +kernel) (by decide +kernel) (by decide +kernel) h0 ?_
  refine g_aload_n (k := 1) (v := (2, ((r1 : Nat) : Int))) (by decide +kernel : decode (m_byt 14) 26 = .ok (.aload_n 1, 1)) rfl (Or.inl rfl) ?_
  refine g_getf (ci := 1) (f := 2) (by decide +kernel : decode (m_byt 14) 27 = .ok (.getfield 51, 3)) (by decide +kernel) (by decide +kernel) (by decide +kernel) h1 ?_
  exact g_brn (t := 149) (off := 119) (by decide +kernel : decode (m_byt 14) 30 = .ok (.if_icmp .ne 119, 3)) rfl rfl (by decide)
theorem b_14_33 {Z : mZ} {r0 r1 : Nat} {K : Nat → mK} {σ : Nat → Nat → Int} {n e s : Nat} (h0 : q_ob K n r0 1) (h1 : q_rp K r0 3) (h2 : q_ob K n r1 1) (h3 : q_rp K r1 3) (h4 : q_ob K n (q_rf K r0 3) 3) : m_run Z (14, 33, [(2, ((r0 : Nat) : Int)), (2, ((r1 : Nat) : Int))], [], (K, σ, n, e, s)) = (m_cl Z 48 [(2, ((q_rf K r0 3 : Nat) : Int)), (2, ((q_rf K r1 3 : Nat) : Int))] (K, σ, n, e, s)).bind (m_aft (m_run Z) 14 41 [(2, ((r0 : Nat) : Int)), (2, ((r1 : Nat) : Int))] []) := by
  refine g_aload_n (k := 0) (v := (2, ((r0 : Nat) : Int))) (by decide +kernel : decode (m_byt 14) 33 = .ok (.aload_n 0, 1)) rfl (Or.inl rfl) ?_
  refine g_getr (ci := 1) (f := 3) (by decide +kernel : decode (m_byt 14) 34 = .ok (.getfield 14, 3)) (by decide +kernel) (by decide +kernel) (by decide +kernel) h0 h1 ?_
  refine g_aload_n (k := 1) (v := (2, ((r1 : Nat) : Int))) (by decide +kernel : decode (m_byt 14) 37 = .ok (.aload_n 1, 1)) rfl (Or.inl rfl) ?_
  refine g_getr (ci := 1) (f := 3) (by decide +kernel : decode (m_byt 14) 38 = .ok (.getfield 14, 3)) (by decide +kernel) (by decide +kernel) (by decide +kernel) h2 h3 ?_
  exact g_inv (k := 1) (m' := 48) (np := 1) (as := [(2, ((q_rf K r0 3 : Nat) : Int)), (2, ((q_rf K r1 3 : Nat) : Int))]) (by decide +kernel : decode (m_byt 14) 41 = .ok (.invokevirtual 61, 3)) (Or.inl ⟨rfl, rfl⟩) (by decide +kernel) (by decide +kernel) (by decide +kernel) (Nat.le_of_ble_eq_true rfl) rfl (Or.inr (g_rcv (by decide +kernel) h4))
theorem b_14_44 {Z : mZ} {l0 l1 : mV} {s0 : Int} {h : mH} : m_run Z (14, 44, [l0, l1], [(0, s0)], h) = if w32 s0 = 0 then m_run Z (14, 149, [l0, l1], [], h) else m_run Z (14, 47, [l0, l1], [], h) := by
  exact g_brq (t := 149) (off := 105) (by decide +kernel : decode (m_byt 14) 44 = .ok (.ifCond .eq 105, 3)) rfl rfl (by decide)
theorem b_14_47 {Z : mZ} {r0 r1 : Nat} {K : Nat → mK} {σ : Nat → Nat → Int} {n e s : Nat} (h0 : q_ob K n r0 1) (h1 : q_rp K r0 4) (h2 : q_ob K n r1 1) (h3 : q_rp K r1 4) (h4 : q_ob K n (q_rf K r0 4) 3) : m_run Z (14, 47, [(2, ((r0 : Nat) : Int)), (2, ((r1 : Nat) : Int))], [], (K, σ, n, e, s)) = (m_cl Z 48 [(2, ((q_rf K r0 4 : Nat) : Int)), (2, ((q_rf K r1 4 : Nat) : Int))] (K, σ, n, e, s)).bind (m_aft (m_run Z) 14 55 [(2, ((r0 : Nat) : Int)), (2, ((r1 : Nat) : Int))] []) := by
  refine g_aload_n (k := 0) (v := (2, ((r0 : Nat) : Int))) (by decide +kernel : decode (m_byt 14) 47 = .ok (.aload_n 0, 1)) rfl (Or.inl rfl) ?_
  refine g_getr (ci := 1) (f := 4) (by decide +kernel : decode (m_byt 14) 48 = .ok (.getfield 20, 3)) (by decide +kernel) (by decide +kernel) (by decide +kernel) h0 h1 ?_
  refine g_aload_n (k := 1) (v := (2, ((r1 : Nat) : Int))) (by decide +kernel : decode (m_byt 14) 51 = .ok (.aload_n 1, 1)) rfl (Or.inl rfl) ?_
  refine g_getr (ci := 1) (f := 4) (by decide +kernel : decode (m_byt 14) 52 = .ok (.getfield 20, 3)) (by decide +kernel) (by decide +kernel) (by decide +kernel) h2 h3 ?_
  exact g_inv (k := 1) (m' := 48) (np := 1) (as := [(2, ((q_rf K r0 4 : Nat) : Int)), (2, ((q_rf K r1 4 : Nat) : Int))]) (by decide +kernel : decode (m_byt 14) 55 = .ok (.invokevirtual 61, 3)) (Or.inl ⟨rfl, rfl⟩) (by decide +kernel) (by decide +kernel) (by decide +kernel) (Nat.le_of_ble_eq_true rfl) rfl (Or.inr (g_rcv (by decide +kernel) h4))
theorem b_14_58 {Z : mZ} {l0 l1 : mV} {s0 : Int} {h : mH} : m_run Z (14, 58, [l0, l1], [(0, s0)], h) = if w32 s0 = 0 then m_run Z (14, 149, [l0, l1], [], h) else m_run Z (14, 61, [l0, l1], [], h) := by
  exact g_brq (t := 149) (off := 91) (by decide +kernel : decode (m_byt 14) 58 = .ok (.ifCond .eq 91, 3)) rfl rfl (by decide)
theorem b_14_61 {Z : mZ} {r0 r1 : Nat} {K : Nat → mK} {σ : Nat → Nat → Int} {n e s : Nat} (h0 : q_ob K n r0 1) (h1 : q_rp K r0 5) (h2 : q_ob K n r1 1) (h3 : q_rp K r1 5) (h4 : q_ob K n (q_rf K r0 5) 3) : m_run Z (14, 61, [(2, ((r0 : Nat) : Int)), (2, ((r1 : Nat) : Int))], [], (K, σ, n, e, s)) = (m_cl Z 48 [(2, ((q_rf K r0 5 : Nat) : Int)), (2, ((q_rf K r1 5 : Nat) : Int))] (K, σ, n, e, s)).bind (m_aft (m_run Z) 14 69 [(2, ((r0 : Nat) : Int)), (2, ((r1 : Nat) : Int))] []) := by
  refine g_aload_n (k := 0) (v := (2, ((r0 : Nat) : Int))) (by decide +kernel : decode (m_byt 14) 61 = .ok (.aload_n 0, 1)) rfl (Or.inl rfl) ?_
  refine g_getr (ci := 1) (f := 5) (by decide +kernel : decode (m_byt 14) 62 = .ok (.getfield 23, 3)) (by decide +kernel) (by decide +kernel) (by decide +kernel) h0 h1 ?_
  refine g_aload_n (k := 1) (v := (2, ((r1 : Nat) : Int))) (by decide +kernel : decode (m_byt 14) 65 = .ok (.aload_n 1, 1)) rfl (Or.inl rfl) ?_
  refine g_getr (ci := 1) (f := 5) (by decide +kernel : decode (m_byt 14) 66 = .ok (.getfield 23, 3)) (by decide +kernel) (by decide +kernel) (by decide +kernel) h2 h3 ?_
  exact g_inv (k := 1) (m' := 48) (np := 1) (as := [(2, ((q_rf K r0 5 : Nat) : Int)), (2, ((q_rf K r1 5 : Nat) : Int))]) (by decide +kernel : decode (m_byt 14) 69 = .ok (.invokevirtual 61, 3)) (Or.inl ⟨rfl, rfl⟩) (by decide +kernel) (by decide +kernel) (by decide +kernel) (Nat.le_of_ble_eq_true rfl) rfl (Or.inr (g_rcv (by decide +kernel) h4))
theorem b_14_72 {Z : mZ} {l0 l1 : mV} {s0 : Int} {h : mH} : m_run Z (14, 72, [l0, l1], [(0, s0)], h) = if w32 s0 = 0 then m_run Z (14, 149, [l0, l1], [], h) else m_run Z (14, 75, [l0, l1], [], h) := by
  exact g_brq (t := 149) (off := 77) (by decide +kernel : decode (m_byt 14) 72 = .ok (.ifCond .eq 77, 3)) rfl rfl (by decide)
theorem b_14_75 {Z : mZ} {r0 r1 : Nat} {K : Nat → mK} {σ : Nat → Nat → Int} {n e s : Nat} (h0 : q_ob K n r0 1) (h1 : q_rp K r0 6) (h2 : q_ob K n r1 1) (h3 : q_rp K r1 6) (h4 : q_ob K n (q_rf K r0 6) 3) : m_run Z (14, 75, [(2, ((r0 : Nat) : Int)), (2, ((r1 : Nat) : Int))], [], (K, σ, n, e, s)) = (m_cl Z 48 [(2, ((q_rf K r0 6 : Nat) : Int)), (2, ((q_rf K r1 6 : Nat) : Int))] (K, σ, n, e, s)).bind (m_aft (m_run Z) 14 83 [(2, ((r0 : Nat) : Int)), (2, ((r1 : Nat) : Int))] []) := by
  refine g_aload_n (k := 0) (v := (2, ((r0 : Nat) : Int))) (by decide +kernel : decode (m_byt 14) 75 = .ok (.aload_n 0, 1)) rfl (Or.inl rfl) ?_
  refine g_getr (ci := 1) (f := 6) (by decide +kernel : decode (m_byt 14) 76 = .ok (.getfield 26, 3)) (by decide +kernel) (by decide +kernel) (by decide +kernel) h0 h1 ?_
  refine g_aload_n (k := 1) (v := (2, ((r1 : Nat) : Int))) (by decide +kernel : decode (m_byt 14) 79 = .ok (.aload_n 1, 1)) rfl (Or.inl rfl) ?_
  refine g_getr (ci := 1) (f := 6) (by decide +kernel : decode (m_byt 14) 80 = .ok (.getfield 26, 3)) (by decide +kernel) (by decide +kernel) (by decide +kernel) h2 h3 ?_
  exact g_inv (k := 1) (m' := 48) (np := 1) (as := [(2, ((q_rf K r0 6 : Nat) : Int)), (2, ((q_rf K r1 6 : Nat) : Int))]) (by decide +kernel : decode (m_byt 14) 83 = .ok (.invokevirtual 61, 3)) (Or.inl ⟨rfl, rfl⟩) (by decide +kernel) (by decide +kernel) (by decide +kernel) (Nat.le_of_ble_eq_true rfl) rfl (Or.inr (g_rcv (by decide +kernel) h4))
theorem b_14_86 {Z : mZ} {l0 l1 : mV} {s0 : Int} {h : mH} : m_run Z (14, 86, [l0, l1], [(0, s0)], h) = if w32 s0 = 0 then m_run Z (14, 149, [l0, l1], [], h) else m_run Z (14, 89, [l0, l1], [], h) := by
  exact g_brq (t := 149) (off := 63) (by decide +kernel : decode (m_byt 14) 86 = .ok (.ifCond .eq 63, 3)) rfl rfl (by decide)
theorem b_14_89 {Z : mZ} {r0 r1 : Nat} {K : Nat → mK} {σ : Nat → Nat → Int} {n e s : Nat} (h0 : q_ob K n r0 1) (h1 : q_rp K r0 7) (h2 : q_ob K n r1 1) (h3 : q_rp K r1 7) (h4 : q_ob K n (q_rf K r0 7) 3) : m_run Z (14, 89, [(2, ((r0 : Nat) : Int)), (2, ((r1 : Nat) : Int))], [], (K, σ, n, e, s)) = (m_cl Z 48 [(2, ((q_rf K r0 7 : Nat) : Int)), (2, ((q_rf K r1 7 : Nat) : Int))] (K, σ, n, e, s)).bind (m_aft (m_run Z) 14 97 [(2, ((r0 : Nat) : Int)), (2, ((r1 : Nat) : Int))] []) := by
  refine g_aload_n (k := 0) (v := (2, ((r0 : Nat) : Int))) (by decide +kernel : decode (m_byt 14) 89 = .ok (.aload_n 0, 1)) rfl (Or.inl rfl) ?_
  refine g_getr (ci := 1) (f := 7) (by decide +kernel : decode (m_byt 14) 90 = .ok (.getfield 29, 3)) (by decide +kernel) (by decide +kernel) (by decide +kernel) h0 h1 ?_
  refine g_aload_n (k := 1) (v := (2, ((r1 : Nat) : Int))) (by decide +kernel : decode (m_byt 14) 93 = .ok (.aload_n 1, 1)) rfl (Or.inl rfl) ?_
  refine g_getr (ci := 1) (f := 7) (by decide +kernel : decode (m_byt 14) 94 = .ok (.getfield 29, 3)) (by decide +kernel) (by decide +kernel) (by decide +kernel) h2 h3 ?_
  exact g_inv (k := 1) (m' := 48) (np := 1) (as := [(2, ((q_rf K r0 7 : Nat) : Int)), (2, ((q_rf K r1 7 : Nat) : Int))]) (by decide +kernel : decode (m_byt 14) 97 = .ok (.invokevirtual 61, 3)) (Or.inl ⟨rfl, rfl⟩) (by decide +kernel) (by decide +kernel) (by decide +kernel) (Nat.le_of_ble_eq_true rfl) rfl (Or.inr (g_rcv (by decide +kernel) h4))
theorem b_14_100 {Z : mZ} {l0 l1 : mV} {s0 : Int} {h : mH} : m_run Z (14, 100, [l0, l1], [(0, s0)], h) = if w32 s0 = 0 then m_run Z (14, 149, [l0, l1], [], h) else m_run Z (14, 103, [l0, l1], [], h) := by
  exact g_brq (t := 149) (off := 49) (by decide +kernel : decode (m_byt 14) 100 = .ok (.ifCond .eq 49, 3)) rfl rfl (by decide)
theorem b_14_103 {Z : mZ} {r0 r1 : Nat} {K : Nat → mK} {σ : Nat → Nat → Int} {n e s : Nat} (h0 : q_ob K n r0 1) (h1 : q_rp K r0 8) (h2 : q_ob K n r1 1) (h3 : q_rp K r1 8) (h4 : q_ob K n (q_rf K r0 8) 3) : m_run Z (14, 103, [(2, ((r0 : Nat) : Int)), (2, ((r1 : Nat) : Int))], [], (K, σ, n, e, s)) = (m_cl Z 48 [(2, ((q_rf K r0 8 : Nat) : Int)), (2, ((q_rf K r1 8 : Nat) : Int))] (K, σ, n, e, s)).bind (m_aft (m_run Z) 14 111 [(2, ((r0 : Nat) : Int)), (2, ((r1 : Nat) : Int))] []) := by
  refine g_aload_n (k := 0) (v := (2, ((r0 : Nat) : Int))) (by decide +kernel : decode (m_byt 14) 103 = .ok (.aload_n 0, 1)) rfl (Or.inl rfl) ?_
  refine g_getr (ci := 1) (f := 8) (by decide +kernel : decode (m_byt 14) 104 = .ok (.getfield 32, 3)) (by decide +kernel) (by decide +kernel) (by decide +kernel) h0 h1 ?_
  refine g_aload_n (k := 1) (v := (2, ((r1 : Nat) : Int))) (by decide +kernel : decode (m_byt 14) 107 = .ok (.aload_n 1, 1)) rfl (Or.inl rfl) ?_
  refine g_getr (ci := 1) (f := 8) (by decide +kernel : decode (m_byt 14) 108 = .ok (.getfield 32, 3)) (by decide +kernel) (by decide +kernel) (by decide +kernel) h2 h3 ?_
  exact g_inv (k := 1) (m' := 48) (np := 1) (as := [(2, ((q_rf K r0 8 : Nat) : Int)), (2, ((q_rf K r1 8 : Nat) : Int))]) (by decide +kernel : decode (m_byt 14) 111 = .ok (.invokevirtual 61, 3)) (Or.inl ⟨rfl, rfl⟩) (by decide +kernel) (by decide +kernel) (by decide +kernel) (Nat.le_of_ble_eq_true rfl) rfl (Or.inr (g_rcv (by decide +kernel) h4))
theorem b_14_114 {Z : mZ} {l0 l1 : mV} {s0 : Int} {h : mH} : m_run Z (14, 114, [l0, l1], [(0, s0)], h) = if w32 s0 = 0 then m_run Z (14, 149, [l0, l1], [], h) else m_run Z (14, 117, [l0, l1], [], h) := by
  exact g_brq (t := 149) (off := 35) (by decide +kernel : decode (m_byt 14) 114 = .ok (.ifCond .eq 35, 3)) rfl rfl (by decide)
theorem b_14_117 {Z : mZ} {r0 r1 : Nat} {K : Nat → mK} {σ : Nat → Nat → Int} {n e s : Nat} (h0 : q_ob K n r0 1) (h1 : q_rp K r0 9) (h2 : q_ob K n r1 1) (h3 : q_rp K r1 9) (h4 : q_ob K n (q_rf K r0 9) 3) : m_run Z (14, 117, [(2, ((r0 : Nat) : Int)), (2, ((r1 : Nat) : Int))], [], (K, σ, n, e, s)) = (m_cl Z 48 [(2, ((q_rf K r0 9 : Nat) : Int)), (2, ((q_rf K r1 9 : Nat) : Int))] (K, σ, n, e, s)).bind (m_aft (m_run Z) 14 125 [(2, ((r0 : Nat) : Int)), (2, ((r1 : Nat) : Int))] []) := by
  refine g_aload_n (k := 0) (v := (2, ((r0 : Nat) : Int))) (by decide +kernel : decode (m_byt 14) 117 = .ok (.aload_n 0, 1)) rfl (Or.inl rfl) ?_
  refine g_getr (ci := 1) (f := 9) (by decide +kernel : decode (m_byt 14) 118 = .ok (.getfield 35, 3)) (by decide +kernel) (by decide +kernel) (by decide +kernel) h0 h1 ?_
  refine g_aload_n (k := 1) (v := (2, ((r1 : Nat) : Int))) (by decide +kernel : decode (m_byt 14) 121 = .ok (.aload_n 1, 1)) rfl (Or.inl rfl) ?_
  refine g_getr (ci := 1) (f := 9) (by decide +kernel : decode (m_byt 14) 122 = .ok (.getfield 35, 3)) (by decide +kernel) (by decide +kernel) (by decide +kernel) h2 h3 ?_
  exact g_inv (k := 1) (m' := 48) (np := 1) (as := [(2, ((q_rf K r0 9 : Nat) : Int)), (2, ((q_rf K r1 9 : Nat) : Int))]) (by decide +kernel : decode (m_byt 14) 125 = .ok (.invokevirtual 61, 3)) (Or.inl ⟨rfl, rfl⟩) (by decide +kernel) (by decide +kernel) (by decide +kernel) (Nat.le_of_ble_eq_true rfl) rfl (Or.inr (g_rcv (by decide +kernel) h4))
theorem b_14_128 {Z : mZ} {l0 l1 : mV} {s0 : Int} {h : mH} : m_run Z (14, 128, [l0, l1], [(0, s0)], h) = if w32 s0 = 0 then m_run Z (14, 149, [l0, l1], [], h) else m_run Z (14, 131, [l0, l1], [], h) := by
  exact g_brq (t := 149) (off := 21) (by decide +kernel : decode (m_byt 14) 128 = .ok (.ifCond .eq 21, 3)) rfl rfl (by decide)
theorem b_14_131 {Z : mZ} {r0 r1 : Nat} {K : Nat → mK} {σ : Nat → Nat → Int} {n e s : Nat} (h0 : q_ob K n r0 1) (h1 : q_rp K r0 10) (h2 : q_ob K n r1 1) (h3 : q_rp K r1 10) (h4 : q_ob K n (q_rf K r0 10) 3) : m_run Z (14, 131, [(2, ((r0 : Nat) : Int)), (2, ((r1 : Nat) : Int))], [], (K, σ, n, e, s)) = (m_cl Z 48 [(2, ((q_rf K r0 10 : Nat) : Int)), (2, ((q_rf K r1 10 : Nat) : Int))] (K, σ, n, e, s)).bind (m_aft (m_run Z) 14 139 [(2, ((r0 : Nat) : Int)), (2, ((r1 : Nat) : Int))] []) := by
  refine g_aload_n (k := 0) (v := (2, ((r0 : Nat) : Int))) (by decide +kernel : decode (m_byt 14) 131 = .ok (.aload_n 0, 1)) rfl (Or.inl rfl) ?_
  refine g_getr (ci := 1) (f := 10) (by decide +kernel : decode (m_byt 14) 132 = .ok (.getfield 38, 3)) (by decide +kernel) (by decide +kernel) (by decide +kernel) h0 h1 ?_
  refine g_aload_n (k := 1) (v := (2, ((r1 : Nat) : Int))) (by decide +kernel : decode (m_byt 14) 135 = .ok (.aload_n 1, 1)) rfl (Or.inl rfl) ?_
  refine g_getr (ci := 1) (f := 10) (by decide +kernel : decode (m_byt 14) 136 = .ok (.getfield 38, 3)) (by decide +kernel) (by decide +kernel) (by decide +kernel) h2 h3 ?_
  exact g_inv (k := 1) (m' := 48) (np := 1) (as := [(2, ((q_rf K r0 10 : Nat) : Int)), (2, ((q_rf K r1 10 : Nat) : Int))]) (by decide +kernel : decode (m_byt 14) 139 = .ok (.invokevirtual 61, 3)) (Or.inl ⟨rfl, rfl⟩) (by decide +kernel) (by decide +kernel) (by decide +kernel) (Nat.le_of_ble_eq_true rfl) rfl (Or.inr (g_rcv (by decide +kernel) h4))
theorem b_14_142 {Z : mZ} {l0 l1 : mV} {s0 : Int} {h : mH} : m_run Z (14, 142, [l0, l1], [(0, s0)], h) = if w32 s0 = 0 then m_run Z (14, 149, [l0, l1], [], h) else m_run Z (14, 145, [l0, l1], [], h) := by
  exact g_brq (t := 149) (off := 7) (by decide +kernel : decode (m_byt 14) 142 = .ok (.ifCond .eq 7, 3)) rfl rfl (by decide)
theorem b_14_145 {Z : mZ} {l0 l1 : mV} {h : mH} : m_run Z (14, 145, [l0, l1], [], h) = some (.inl (0, 1), h) := by
  refine g_base (by decide +kernel : decode (m_byt 14) 145 = .ok (.iconst 1, 1)) rfl rfl ?_
  show m_run Z (14, 146, [l0, l1], [(0, 1)], h) = _
  refine g_jmp (t := 150) (by decide +kernel : decode (m_byt 14) 146 = .ok (.goto 4, 3)) (by decide) ?_
  exact g_zret (by decide +kernel : decode (m_byt 14) 150 = .ok (.ireturn, 1)) (by decide +kernel) (by decide)
theorem b_14_149 {Z : mZ} {l0 l1 : mV} {h : mH} : m_run Z (14, 149, [l0, l1], [], h) = m_run Z (14, 150, [l0, l1], [(0, 0)], h) := by
  refine g_base (by decide +kernel : decode (m_byt 14) 149 = .ok (.iconst 0, 1)) rfl rfl ?_
  show m_run Z (14, 150, [l0, l1], [(0, 0)], h) = _
  rfl
theorem b_14_150 {Z : mZ} {l0 l1 : mV} {s0 : Int} {h : mH} (h0 : w32 s0 = 0 ∨ w32 s0 = 1) : m_run Z (14, 150, [l0, l1], [(0, s0)], h) = some (.inl (0, s0), h) := by
  exact g_zret (by decide +kernel : decode (m_byt 14) 150 = .ok (.ireturn, 1)) (by decide +kernel) h0
theorem e_15 {Z : mZ} {r0 : Nat} {x1 : Int} {h : mH} : m_cl Z 15 [(2, ((r0 : Nat) : Int)), (0, x1)] h = m_run Z (15, 0, [(2, ((r0 : Nat) : Int)), (0, x1)], [], h) := g_ent (k := 2) (by decide) (by decide +kernel) (Nat.le_of_ble_eq_true rfl) (by decide +kernel) rfl
theorem b_15_0 {Z : mZ} {l0 : mV} {x1 : Int} {h : mH} : m_run Z (15, 0, [l0, (0, x1)], [], h) = if w32 x1 < 0 then m_run Z (15, 16, [l0, (0, x1)], [], h) else m_run Z (15, 4, [l0, (0, x1)], [], h) := by
  refine g_iload_n (k := 1) (x := x1) (by decide +kernel : decode (m_byt 15) 0 = .ok (.iload_n 1, 1)) rfl ?_
  exact g_brq (t := 16) (off := 15) (by decide +kernel : decode (m_byt 15) 1 = .ok (.ifCond .lt 15, 3)) rfl rfl (by decide)
theorem b_15_4 {Z : mZ} {x1 : Int} {r0 : Nat} {K : Nat → mK} {σ : Nat → Nat → Int} {n e s : Nat} (h0 : q_ob K n r0 1) : m_run Z (15, 4, [(2, ((r0 : Nat) : Int)), (0, x1)], [], (K, σ, n, e, s)) = if w32 (σ r0 0) ≤ w32 x1 then m_run Z (15, 16, [(2, ((r0 : Nat) : Int)), (0, x1)], [], (K, σ, n, e, s)) else m_run Z (15, 12, [(2, ((r0 : Nat) : Int)), (0, x1)], [], (K, σ, n, e, s)) := by
  refine g_iload_n (k := 1) (x := x1) (by decide +kernel : decode (m_byt 15) 4 = .ok (.iload_n 1, 1)) rfl ?_
  refine g_aload_n (k := 0) (v := (2, ((r0 : Nat) : Int))) (by decide +kernel : decode (m_byt 15) 5 = .ok (.aload_n 0, 1)) rfl (Or.inl rfl) ?_
  refine g_getf (ci := 1) (f := 0) (by decide +kernel : decode (m_byt 15) 6 = .ok (.getfield 44, 3)) (by decide +kernel) (by decide +kernel) (by decide +kernel) h0 ?_
  exact g_brq (t := 16) (off := 7) (by decide +kernel : decode (m_byt 15) 9 = .ok (.if_icmp .ge 7, 3)) rfl rfl (by decide)
theorem b_15_12 {Z : mZ} {l0 l1 : mV} {h : mH} : m_run Z (15, 12, [l0, l1], [], h) = some (.inl (0, 1), h) := by
  refine g_base (by decide +kernel : decode (m_byt 15) 12 = .ok (.iconst 1, 1)) rfl rfl ?_
  show m_run Z (15, 13, [l0, l1], [(0, 1)], h) = _
  refine g_jmp (t := 17) (by decide +kernel : decode (m_byt 15) 13 = .ok (.goto 4, 3)) (by decide) ?_
  exact g_zret (by decide +kernel : decode (m_byt 15) 17 = .ok (.ireturn, 1)) (by decide +kernel) (by decide)
theorem b_15_16 {Z : mZ} {l0 l1 : mV} {h : mH} : m_run Z (15, 16, [l0, l1], [], h) = m_run Z (15, 17, [l0, l1], [(0, 0)], h) := by
  refine g_base (by decide +kernel : decode (m_byt 15) 16 = .ok (.iconst 0, 1)) rfl rfl ?_
  show m_run Z (15, 17, [l0, l1], [(0, 0)], h) = _
  rfl
theorem b_15_17 {Z : mZ} {l0 l1 : mV} {s0 : Int} {h : mH} (h0 : w32 s0 = 0 ∨ w32 s0 = 1) : m_run Z (15, 17, [l0, l1], [(0, s0)], h) = some (.inl (0, s0), h) := by
  exact g_zret (by decide +kernel : decode (m_byt 15) 17 = .ok (.ireturn, 1)) (by decide +kernel) h0
theorem e_16 {Z : mZ} {r0 : Nat} {x1 : Int} {h : mH} : m_cl Z 16 [(2, ((r0 : Nat) : Int)), (0, x1)] h = m_run Z (16, 0, [(2, ((r0 : Nat) : Int)), (0, x1)], [], h) := g_ent (k := 2) (by decide) (by decide +kernel) (Nat.le_of_ble_eq_true rfl) (by decide +kernel) rfl
theorem b_16_0 {Z : mZ} {l0 : mV} {x1 : Int} {h : mH} : m_run Z (16, 0, [l0, (0, x1)], [], h) = if w32 x1 < 0 then m_run Z (16, 16, [l0, (0, x1)], [], h) else m_run Z (16, 4, [l0, (0, x1)], [], h) := by
  refine g_iload_n (k := 1) (x := x1) (by decide +kernel : decode (m_byt 16) 0 = .ok (.iload_n 1, 1)) rfl ?_
  exact g_brq (t := 16) (off := 15) (by decide +kernel : decode (m_byt 16) 1 = .ok (.ifCond .lt 15, 3)) rfl rfl (by decide)
theorem b_16_4 {Z : mZ} {x1 : Int} {r0 : Nat} {K : Nat → mK} {σ : Nat → Nat → Int} {n e s : Nat} (h0 : q_ob K n r0 1) : m_run Z (16, 4, [(2, ((r0 : Nat) : Int)), (0, x1)], [], (K, σ, n, e, s)) = if w32 (σ r0 1) ≤ w32 x1 then m_run Z (16, 16, [(2, ((r0 : Nat) : Int)), (0, x1)], [], (K, σ, n, e, s)) else m_run Z (16, 12, [(2, ((r0 : Nat) : Int)), (0, x1)], [], (K, σ, n, e, s)) := by
  refine g_iload_n (k := 1) (x := x1) (by decide +kernel : decode (m_byt 16) 4 = .ok (.iload_n 1, 1)) rfl ?_
  refine g_aload_n (k := 0) (v := (2, ((r0 : Nat) : Int))) (by decide +kernel : decode (m_byt 16) 5 = .ok (.aload_n 0, 1)) rfl (Or.inl rfl) ?_
  refine g_getf (ci := 1) (f := 1) (by decide +kernel : decode (m_byt 16) 6 = .ok (.getfield 48, 3)) (by decide +kernel) (by decide +kernel) (by decide +kernel) h0 ?_
  exact g_brq (t := 16) (off := 7) (by decide +kernel : decode (m_byt 16) 9 = .ok (.if_icmp .ge 7, 3)) rfl rfl (by decide)
theorem b_16_12 {Z : mZ} {l0 l1 : mV} {h : mH} : m_run Z (16, 12, [l0, l1], [], h) = some (.inl (0, 1), h) := by
  refine g_base (by decide +kernel : decode (m_byt 16) 12 = .ok (.iconst 1, 1)) rfl rfl ?_
  show m_run Z (16, 13, [l0, l1], [(0, 1)], h) = _
  refine g_jmp (t := 17) (by decide +kernel : decode (m_byt 16) 13 = .ok (.goto 4, 3)) (by decide) ?_
  exact g_zret (by decide +kernel : decode (m_byt 16) 17 = .ok (.ireturn, 1)) (by decide +kernel) (by decide)
theorem b_16_16 {Z : mZ} {l0 l1 : mV} {h : mH} : m_run Z (16, 16, [l0, l1], [], h) = m_run Z (16, 17, [l0, l1], [(0, 0)], h) := by
  refine g_base (by decide +kernel : decode (m_byt 16) 16 = .ok (.iconst 0, 1)) rfl rfl ?_
  show m_run Z (16, 17, [l0, l1], [(0, 0)], h) = _
  rfl
theorem b_16_17 {Z : mZ} {l0 l1 : mV} {s0 : Int} {h : mH} (h0 : w32 s0 = 0 ∨ w32 s0 = 1) : m_run Z (16, 17, [l0, l1], [(0, s0)], h) = some (.inl (0, s0), h) := by
  exact g_zret (by decide +kernel : decode (m_byt 16) 17 = .ok (.ireturn, 1)) (by decide +kernel) h0
theorem e_17 {Z : mZ} {r0 : Nat} {x1 : Int} {h : mH} : m_cl Z 17 [(2, ((r0 : Nat) : Int)), (0, x1)] h = m_run Z (17, 0, [(2, ((r0 : Nat) : Int)), (0, x1)], [], h) := g_ent (k := 2) (by decide) (by decide +kernel) (Nat.le_of_ble_eq_true rfl) (by decide +kernel) rfl
theorem b_17_0 {Z : mZ} {l0 : mV} {x1 : Int} {h : mH} : m_run Z (17, 0, [l0, (0, x1)], [], h) = if w32 x1 < 0 then m_run Z (17, 16, [l0, (0, x1)], [], h) else m_run Z (17, 4, [l0, (0, x1)], [], h) := by
  refine g_iload_n (k := 1) (x := x1) (by decide +kernel : decode (m_byt 17) 0 = .ok (.iload_n 1, 1)) rfl ?_
  exact g_brq (t := 16) (off := 15) (by decide +kernel : decode (m_byt 17) 1 = .ok (.ifCond .lt 15, 3)) rfl rfl (by decide)
theorem b_17_4 {Z : mZ} {x1 : Int} {r0 : Nat} {K : Nat → mK} {σ : Nat → Nat → Int} {n e s : Nat} (h0 : q_ob K n r0 1) : m_run Z (17, 4, [(2, ((r0 : Nat) : Int)), (0, x1)], [], (K, σ, n, e, s)) = if w32 (σ r0 2) ≤ w32 x1 then m_run Z (17, 16, [(2, ((r0 : Nat) : Int)), (0, x1)], [], (K, σ, n, e, s)) else m_run Z (17, 12, [(2, ((r0 : Nat) : Int)), (0, x1)], [], (K, σ, n, e, s)) := by
  refine g_iload_n (k := 1) (x := x1) (by decide +kernel : decode (m_byt 17) 4 = .ok (.iload_n 1, 1)) rfl ?_
  refine g_aload_n (k := 0) (v := (2, ((r0 : Nat) : Int))) (by decide +kernel : decode (m_byt 17) 5 = .ok (.aload_n 0, 1)) rfl (Or.inl rfl) ?_
  refine g_getf (ci := 1) (f := 2) (by decide +kernel : decode (m_byt 17) 6 = .ok (.getfield 51, 3)) (by decide +kernel) (by decide +kernel) (by decide +kernel) h0 ?_
  exact g_brq (t := 16) (off := 7) (by decide +kernel : decode (m_byt 17) 9 = .ok (.if_icmp .ge 7, 3)) rfl rfl (by decide)
theorem b_17_12 {Z : mZ} {l0 l1 : mV} {h : mH} : m_run Z (17, 12, [l0, l1], [], h) = some (.inl (0, 1), h) := by
  refine g_base (by decide +kernel : decode (m_byt 17) 12 = .ok (.iconst 1, 1)) rfl rfl ?_
  show m_run Z (17, 13, [l0, l1], [(0, 1)], h) = _
  refine g_jmp (t := 17) (by decide +kernel : decode (m_byt 17) 13 = .ok (.goto 4, 3)) (by decide) ?_
  exact g_zret (by decide +kernel : decode (m_byt 17) 17 = .ok (.ireturn, 1)) (by decide +kernel) (by decide)
theorem b_17_16 {Z : mZ} {l0 l1 : mV} {h : mH} : m_run Z (17, 16, [l0, l1], [], h) = m_run Z (17, 17, [l0, l1], [(0, 0)], h) := by
  refine g_base (by decide +kernel : decode (m_byt 17) 16 = .ok (.iconst 0, 1)) rfl rfl ?_
  show m_run Z (17, 17, [l0, l1], [(0, 0)], h) = _
  rfl
theorem b_17_17 {Z : mZ} {l0 l1 : mV} {s0 : Int} {h : mH} (h0 : w32 s0 = 0 ∨ w32 s0 = 1) : m_run Z (17, 17, [l0, l1], [(0, s0)], h) = some (.inl (0, s0), h) := by
  exact g_zret (by decide +kernel : decode (m_byt 17) 17 = .ok (.ireturn, 1)) (by decide +kernel) h0
theorem e_18 {Z : mZ} {r0 : Nat} {x1 : Int} {h : mH} : m_cl Z 18 [(2, ((r0 : Nat) : Int)), (0, x1)] h = m_run Z (18, 0, [(2, ((r0 : Nat) : Int)), (0, x1)], [], h) := g_ent (k := 2) (by decide) (by decide +kernel) (Nat.le_of_ble_eq_true rfl) (by decide +kernel) rfl
theorem b_18_0 {Z : mZ} {x1 : Int} {r0 : Nat} {K : Nat → mK} {σ : Nat → Nat → Int} {n e s : Nat} (h0 : q_ob K n r0 1) : m_run Z (18, 0, [(2, ((r0 : Nat) : Int)), (0, x1)], [], (K, σ, n, e, s)) = if w32 (i_ushr x1 (σ r0 0)) = 0 then m_run Z (18, 9, [(2, ((r0 : Nat) : Int)), (0, x1)], [], (K, σ, n, e, s)) else m_run Z (18, 13, [(2, ((r0 : Nat) : Int)), (0, x1)], [], (K, σ, n, e, s)) := by
  refine g_iload_n (k := 1) (x := x1) (by decide +kernel : decode (m_byt 18) 0 = .ok (.iload_n 1, 1)) rfl ?_
  refine g_aload_n (k := 0) (v := (2, ((r0 : Nat) : Int))) (by decide +kernel : decode (m_byt 18) 1 = .ok (.aload_n 0, 1)) rfl (Or.inl rfl) ?_
  refine g_getf (ci := 1) (f := 0) (by decide +kernel : decode (m_byt 18) 2 = .ok (.getfield 44, 3)) (by decide +kernel) (by decide +kernel) (by decide +kernel) h0 ?_
  refine g_base (by decide +kernel : decode (m_byt 18) 5 = .ok (.iushr, 1)) rfl rfl ?_
  show m_run Z (18, 6, [(2, ((r0 : Nat) : Int)), (0, x1)], [(0, (i_ushr x1 (σ r0 0)))], (K, σ, n, e, s)) = _
  exact g_brn (t := 13) (off := 7) (by decide +kernel : decode (m_byt 18) 6 = .ok (.ifCond .ne 7, 3)) rfl rfl (by decide)
theorem b_18_9 {Z : mZ} {l0 l1 : mV} {h : mH} : m_run Z (18, 9, [l0, l1], [], h) = some (.inl (0, 1), h) := by
  refine g_base (by decide +kernel : decode (m_byt 18) 9 = .ok (.iconst 1, 1)) rfl rfl ?_
  show m_run Z (18, 10, [l0, l1], [(0, 1)], h) = _
  refine g_jmp (t := 14) (by decide +kernel : decode (m_byt 18) 10 = .ok (.goto 4, 3)) (by decide) ?_
  exact g_zret (by decide +kernel : decode (m_byt 18) 14 = .ok (.ireturn, 1)) (by decide +kernel) (by decide)
theorem b_18_13 {Z : mZ} {l0 l1 : mV} {h : mH} : m_run Z (18, 13, [l0, l1], [], h) = m_run Z (18, 14, [l0, l1], [(0, 0)], h) := by
  refine g_base (by decide +kernel : decode (m_byt 18) 13 = .ok (.iconst 0, 1)) rfl rfl ?_
  show m_run Z (18, 14, [l0, l1], [(0, 0)], h) = _
  rfl
theorem b_18_14 {Z : mZ} {l0 l1 : mV} {s0 : Int} {h : mH} (h0 : w32 s0 = 0 ∨ w32 s0 = 1) : m_run Z (18, 14, [l0, l1], [(0, s0)], h) = some (.inl (0, s0), h) := by
  exact g_zret (by decide +kernel : decode (m_byt 18) 14 = .ok (.ireturn, 1)) (by decide +kernel) h0
theorem e_19 {Z : mZ} {r0 : Nat} {h : mH} : m_cl Z 19 [(2, ((r0 : Nat) : Int))] h = m_run Z (19, 0, [(2, ((r0 : Nat) : Int))], [], h) := g_ent (k := 1) (by decide) (by decide +kernel) (Nat.le_of_ble_eq_true rfl) (by decide +kernel) rfl
theorem b_19_0 {Z : mZ} {r0 : Nat} {K : Nat → mK} {σ : Nat → Nat → Int} {n e s : Nat} (h0 : q_ob K n r0 1) : m_run Z (19, 0, [(2, ((r0 : Nat) : Int))], [], (K, σ, n, e, s)) = some (.inl (0, ((i_shl 1 (σ r0 0)) - 1)), (K, σ, n, e, s)) := by
  refine g_base (by decide +kernel : decode (m_byt 19) 0 = .ok (.iconst 1, 1)) rfl rfl ?_
  show m_run Z (19, 1, [(2, ((r0 : Nat) : Int))], [(0, 1)], (K, σ, n, e, s)) = _
  refine g_aload_n (k := 0) (v := (2, ((r0 : Nat) : Int))) (by decide +kernel : decode (m_byt 19) 1 = .ok (.aload_n 0, 1)) rfl (Or.inl rfl) ?_
  refine g_getf (ci := 1) (f := 0) (by decide +kernel : decode (m_byt 19) 2 = .ok (.getfield 44, 3)) (by decide +kernel) (by decide +kernel) (by decide +kernel) h0 ?_
  refine g_base (by decide +kernel : decode (m_byt 19) 5 = .ok (.ishl, 1)) rfl rfl ?_
  show m_run Z (19, 6, [(2, ((r0 : Nat) : Int))], [(0, (i_shl 1 (σ r0 0)))], (K, σ, n, e, s)) = _
  refine g_base (by decide +kernel : decode (m_byt 19) 6 = .ok (.iconst 1, 1)) rfl rfl ?_
  show m_run Z (19, 7, [(2, ((r0 : Nat) : Int))], [(0, 1), (0, (i_shl 1 (σ r0 0)))], (K, σ, n, e, s)) = _
  refine g_base (by decide +kernel : decode (m_byt 19) 7 = .ok (.isub, 1)) rfl rfl ?_
  show m_run Z (19, 8, [(2, ((r0 : Nat) : Int))], [(0, ((i_shl 1 (σ r0 0)) - 1))], (K, σ, n, e, s)) = _
  exact g_iret (by decide +kernel : decode (m_byt 19) 8 = .ok (.ireturn, 1)) (by decide +kernel)
theorem e_20 {Z : mZ} {r0 : Nat} {x1 : Int} {x2 : Int} {x3 : Int} {h : mH} : m_cl Z 20 [(2, ((r0 : Nat) : Int)), (0, x1), (0, x2), (0, x3)] h = m_run Z (20, 0, [(2, ((r0 : Nat) : Int)), (0, x1), (0, x2), (0, x3)], [], h) := g_ent (k := 4) (by decide) (by decide +kernel) (Nat.le_of_ble_eq_true rfl) (by decide +kernel) rfl
theorem b_20_0 {Z : mZ} {l0 l1 l2 : mV} {x3 : Int} {h : mH} : m_run Z (20, 0, [l0, l1, l2, (0, x3)], [], h) = if w32 x3 < w32 1 then m_run Z (20, 34, [l0, l1, l2, (0, x3)], [], h) else m_run Z (20, 5, [l0, l1, l2, (0, x3)], [], h) := by
  refine g_iload_n (k := 3) (x := x3) (by decide +kernel : decode (m_byt 20) 0 = .ok (.iload_n 3, 1)) rfl ?_
  refine g_base (by decide +kernel : decode (m_byt 20) 1 = .ok (.iconst 1, 1)) rfl rfl ?_
  show m_run Z (20, 2, [l0, l1, l2, (0, x3)], [(0, 1), (0, x3)], h) = _
  exact g_brq (t := 34) (off := 32) (by decide +kernel : decode (m_byt 20) 2 = .ok (.if_icmp .lt 32, 3)) rfl rfl (by decide)
theorem b_20_5 {Z : mZ} {l0 l1 l2 : mV} {x3 : Int} {h : mH} : m_run Z (20, 5, [l0, l1, l2, (0, x3)], [], h) = if w32 1000 < w32 x3 then m_run Z (20, 34, [l0, l1, l2, (0, x3)], [], h) else m_run Z (20, 12, [l0, l1, l2, (0, x3)], [], h) := by
  refine g_iload_n (k := 3) (x := x3) (by decide +kernel : decode (m_byt 20) 5 = .ok (.iload_n 3, 1)) rfl ?_
  refine g_base (by decide +kernel : decode (m_byt 20) 6 = .ok (.sipush 1000, 3)) rfl rfl ?_
  show m_run Z (20, 9, [l0, l1, l2, (0, x3)], [(0, 1000), (0, x3)], h) = _
  exact g_brq (t := 34) (off := 25) (by decide +kernel : decode (m_byt 20) 9 = .ok (.if_icmp .gt 25, 3)) rfl rfl (by decide)
theorem b_20_12 {Z : mZ} {l0 l1 l3 : mV} {x2 : Int} {h : mH} : m_run Z (20, 12, [l0, l1, (0, x2), l3], [], h) = if w32 x2 < 0 then m_run Z (20, 34, [l0, l1, (0, x2), l3], [], h) else m_run Z (20, 16, [l0, l1, (0, x2), l3], [], h) := by
  refine g_iload_n (k := 2) (x := x2) (by decide +kernel : decode (m_byt 20) 12 = .ok (.iload_n 2, 1)) rfl ?_
  exact g_brq (t := 34) (off := 21) (by decide +kernel : decode (m_byt 20) 13 = .ok (.ifCond .lt 21, 3)) rfl rfl (by decide)
theorem b_20_16 {Z : mZ} {l3 : mV} {x2 x1 : Int} {r0 : Nat} {K : Nat → mK} {σ : Nat → Nat → Int} {n e s : Nat} (h0 : q_ob K n r0 1) (h1 : q_rp K r0 7) (h2 : q_ob K n (q_rf K r0 7) 3) : m_run Z (20, 16, [(2, ((r0 : Nat) : Int)), (0, x1), (0, x2), l3], [], (K, σ, n, e, s)) = (m_cl Z 44 [(2, ((q_rf K r0 7 : Nat) : Int)), (0, x1)] (K, σ, n, e, s)).bind (m_aft (m_run Z) 20 22 [(2, ((r0 : Nat) : Int)), (0, x1), (0, x2), l3] [(0, x2)]) := by
  refine g_iload_n (k := 2) (x := x2) (by decide +kernel : decode (m_byt 20) 16 = .ok (.iload_n 2, 1)) rfl ?_
  refine g_aload_n (k := 0) (v := (2, ((r0 : Nat) : Int))) (by decide +kernel : decode (m_byt 20) 17 = .ok (.aload_n 0, 1)) rfl (Or.inl rfl) ?_
  refine g_getr (ci := 1) (f := 7) (by decide +kernel : decode (m_byt 20) 18 = .ok (.getfield 29, 3)) (by decide +kernel) (by decide +kernel) (by decide +kernel) h0 h1 ?_
  refine g_iload_n (k := 1) (x := x1) (by decide +kernel : decode (m_byt 20) 21 = .ok (.iload_n 1, 1)) rfl ?_
  exact g_inv (k := 1) (m' := 44) (np := 1) (as := [(2, ((q_rf K r0 7 : Nat) : Int)), (0, x1)]) (by decide +kernel : decode (m_byt 20) 22 = .ok (.invokevirtual 65, 3)) (Or.inl ⟨rfl, rfl⟩) (by decide +kernel) (by decide +kernel) (by decide +kernel) (Nat.le_of_ble_eq_true rfl) rfl (Or.inr (g_rcv (by decide +kernel) h2))
theorem b_20_25 {Z : mZ} {l0 l1 l2 : mV} {s0 s1 x3 : Int} {h : mH} : m_run Z (20, 25, [l0, l1, l2, (0, x3)], [(0, s0), (0, s1)], h) = if w32 (s0 * x3) < w32 s1 then m_run Z (20, 34, [l0, l1, l2, (0, x3)], [], h) else m_run Z (20, 30, [l0, l1, l2, (0, x3)], [], h) := by
  refine g_iload_n (k := 3) (x := x3) (by decide +kernel : decode (m_byt 20) 25 = .ok (.iload_n 3, 1)) rfl ?_
  refine g_base (by decide +kernel : decode (m_byt 20) 26 = .ok (.imul, 1)) rfl rfl ?_
  show m_run Z (20, 27, [l0, l1, l2, (0, x3)], [(0, (s0 * x3)), (0, s1)], h) = _
  exact g_brq (t := 34) (off := 7) (by decide +kernel : decode (m_byt 20) 27 = .ok (.if_icmp .gt 7, 3)) rfl rfl (by decide)
theorem b_20_30 {Z : mZ} {l0 l1 l2 l3 : mV} {h : mH} : m_run Z (20, 30, [l0, l1, l2, l3], [], h) = some (.inl (0, 1), h) := by
  refine g_base (by decide +kernel : decode (m_byt 20) 30 = .ok (.iconst 1, 1)) rfl rfl ?_
  show m_run Z (20, 31, [l0, l1, l2, l3], [(0, 1)], h) = _
  refine g_jmp (t := 35) (by decide +kernel : decode (m_byt 20) 31 = .ok (.goto 4, 3)) (by decide) ?_
  exact g_zret (by decide +kernel : decode (m_byt 20) 35 = .ok (.ireturn, 1)) (by decide +kernel) (by decide)
theorem b_20_34 {Z : mZ} {l0 l1 l2 l3 : mV} {h : mH} : m_run Z (20, 34, [l0, l1, l2, l3], [], h) = m_run Z (20, 35, [l0, l1, l2, l3], [(0, 0)], h) := by
  refine g_base (by decide +kernel : decode (m_byt 20) 34 = .ok (.iconst 0, 1)) rfl rfl ?_
  show m_run Z (20, 35, [l0, l1, l2, l3], [(0, 0)], h) = _
  rfl
theorem b_20_35 {Z : mZ} {l0 l1 l2 l3 : mV} {s0 : Int} {h : mH} (h0 : w32 s0 = 0 ∨ w32 s0 = 1) : m_run Z (20, 35, [l0, l1, l2, l3], [(0, s0)], h) = some (.inl (0, s0), h) := by
  exact g_zret (by decide +kernel : decode (m_byt 20) 35 = .ok (.ireturn, 1)) (by decide +kernel) h0
theorem e_21 {Z : mZ} {r0 : Nat} {x1 : Int} {x2 : Int} {h : mH} : m_cl Z 21 [(2, ((r0 : Nat) : Int)), (0, x1), (0, x2)] h = m_run Z (21, 0, [(2, ((r0 : Nat) : Int)), (0, x1), (0, x2), (9, 0), (9, 0), (9, 0)], [], h) := g_ent (k := 6) (by decide) (by decide +kernel) (Nat.le_of_ble_eq_true rfl) (by decide +kernel) rfl
theorem b_21_0 {Z : mZ} {l0 l1 l3 l4 l5 : mV} {x2 : Int} {h : mH} : m_run Z (21, 0, [l0, l1, (0, x2), l3, l4, l5], [], h) = m_run Z (21, 2, [l0, l1, (0, x2), (0, 0), l4, l5], [], h) := by
  refine g_base (by decide +kernel : decode (m_byt 21) 0 = .ok (.iconst 0, 1)) rfl rfl ?_
  show m_run Z (21, 1, [l0, l1, (0, x2), l3, l4, l5], [(0, 0)], h) = _
  refine g_istore_n (k := 3) (by decide +kernel : decode (m_byt 21) 1 = .ok (.istore_n 3, 1)) (Nat.le_of_ble_eq_true rfl) ?_
  show m_run Z (21, 2, [l0, l1, (0, x2), (0, 0), l4, l5], [], h) = _
  rfl
theorem b_21_2 {Z : mZ} {l1 l2 l4 l5 : mV} {x3 : Int} {r0 : Nat} {K : Nat → mK} {σ : Nat → Nat → Int} {n e s : Nat} (h0 : q_ob K n r0 1) : m_run Z (21, 2, [(2, ((r0 : Nat) : Int)), l1, l2, (0, x3), l4, l5], [], (K, σ, n, e, s)) = if w32 (σ r0 1) ≤ w32 x3 then m_run Z (21, 62, [(2, ((r0 : Nat) : Int)), l1, l2, (0, x3), l4, l5], [], (K, σ, n, e, s)) else m_run Z (21, 10, [(2, ((r0 : Nat) : Int)), l1, l2, (0, x3), l4, l5], [], (K, σ, n, e, s)) := by
  refine g_iload_n (k := 3) (x := x3) (by decide +kernel : decode (m_byt 21) 2 = .ok (.iload_n 3, 1)) rfl ?_
  refine g_aload_n (k := 0) (v := (2, ((r0 : Nat) : Int))) (by decide +kernel : decode (m_byt 21) 3 = .ok (.aload_n 0, 1)) rfl (Or.inl rfl) ?_
  refine g_getf (ci := 1) (f := 1) (by decide +kernel : decode (m_byt 21) 4 = .ok (.getfield 48, 3)) (by decide +kernel) (by decide +kernel) (by decide +kernel) h0 ?_
  exact g_brq (t := 62) (off := 55) (by decide +kernel : decode (m_byt 21) 7 = .ok (.if_icmp .ge 55, 3)) rfl rfl (by decide)
theorem b_21_10 {Z : mZ} {l1 l2 l4 l5 : mV} {x3 : Int} {r0 : Nat} {K : Nat → mK} {σ : Nat → Nat → Int} {n e s : Nat} (h0 : q_ob K n r0 1) (h1 : q_rp K r0 5) (h2 : q_ob K n (q_rf K r0 5) 3) : m_run Z (21, 10, [(2, ((r0 : Nat) : Int)), l1, l2, (0, x3), l4, l5], [], (K, σ, n, e, s)) = (m_cl Z 44 [(2, ((q_rf K r0 5 : Nat) : Int)), (0, x3)] (K, σ, n, e, s)).bind (m_aft (m_run Z) 21 15 [(2, ((r0 : Nat) : Int)), l1, l2, (0, x3), l4, l5] []) := by
  refine g_aload_n (k := 0) (v := (2, ((r0 : Nat) : Int))) (by decide +kernel : decode (m_byt 21) 10 = .ok (.aload_n 0, 1)) rfl (Or.inl rfl) ?_
  refine g_getr (ci := 1) (f := 5) (by decide +kernel : decode (m_byt 21) 11 = .ok (.getfield 23, 3)) (by decide +kernel) (by decide +kernel) (by decide +kernel) h0 h1 ?_
  refine g_iload_n (k := 3) (x := x3) (by decide +kernel : decode (m_byt 21) 14 = .ok (.iload_n 3, 1)) rfl ?_
  exact g_inv (k := 1) (m' := 44) (np := 1) (as := [(2, ((q_rf K r0 5 : Nat) : Int)), (0, x3)]) (by decide +kernel : decode (m_byt 21) 15 = .ok (.invokevirtual 65, 3)) (Or.inl ⟨rfl, rfl⟩) (by decide +kernel) (by decide +kernel) (by decide +kernel) (Nat.le_of_ble_eq_true rfl) rfl (Or.inr (g_rcv (by decide +kernel) h2))
theorem b_21_18 {Z : mZ} {l1 l2 l4 l5 : mV} {s0 x3 : Int} {r0 : Nat} {K : Nat → mK} {σ : Nat → Nat → Int} {n e s : Nat} (h0 : q_ob K n r0 1) (h1 : q_rp K r0 6) (h2 : q_ob K n (q_rf K r0 6) 3) : m_run Z (21, 18, [(2, ((r0 : Nat) : Int)), l1, l2, (0, x3), l4, l5], [(0, s0)], (K, σ, n, e, s)) = (m_cl Z 44 [(2, ((q_rf K r0 6 : Nat) : Int)), (0, x3)] (K, σ, n, e, s)).bind (m_aft (m_run Z) 21 25 [(2, ((r0 : Nat) : Int)), l1, l2, (0, x3), (0, s0), l5] []) := by
  refine g_istore (k := 4) (by decide +kernel : decode (m_byt 21) 18 = .ok (.istore 4, 2)) (Nat.le_of_ble_eq_true rfl) ?_
  show m_run Z (21, 20, [(2, ((r0 : Nat) : Int)), l1, l2, (0, x3), (0, s0), l5], [], (K, σ, n, e, s)) = _
  refine g_aload_n (k := 0) (v := (2, ((r0 : Nat) : Int))) (by decide +kernel : decode (m_byt 21) 20 = .ok (.aload_n 0, 1)) rfl (Or.inl rfl) ?_
  refine g_getr (ci := 1) (f := 6) (by decide +kernel : decode (m_byt 21) 21 = .ok (.getfield 26, 3)) (by decide +kernel) (by decide +kernel) (by decide +kernel) h0 h1 ?_
  refine g_iload_n (k := 3) (x := x3) (by decide +kernel : decode (m_byt 21) 24 = .ok (.iload_n 3, 1)) rfl ?_
  exact g_inv (k := 1) (m' := 44) (np := 1) (as := [(2, ((q_rf K r0 6 : Nat) : Int)), (0, x3)]) (by decide +kernel : decode (m_byt 21) 25 = .ok (.invokevirtual 65, 3)) (Or.inl ⟨rfl, rfl⟩) (by decide +kernel) (by decide +kernel) (by decide +kernel) (Nat.le_of_ble_eq_true rfl) rfl (Or.inr (g_rcv (by decide +kernel) h2))
theorem b_21_28 {Z : mZ} {l0 l2 l3 l5 : mV} {s0 x4 x1 : Int} {h : mH} : m_run Z (21, 28, [l0, (0, x1), l2, l3, (0, x4), l5], [(0, s0)], h) = if w32 x4 = w32 x1 then m_run Z (21, 36, [l0, (0, x1), l2, l3, (0, x4), (0, s0)], [], h) else m_run Z (21, 42, [l0, (0, x1), l2, l3, (0, x4), (0, s0)], [], h) := by
  refine g_istore (k := 5) (by decide +kernel : decode (m_byt 21) 28 = .ok (.istore 5, 2)) (Nat.le_of_ble_eq_true rfl) ?_
  show m_run Z (21, 30, [l0, (0, x1), l2, l3, (0, x4), (0, s0)], [], h) = _
  refine g_iload (k := 4) (x := x4) (by decide +kernel : decode (m_byt 21) 30 = .ok (.iload 4, 2)) rfl ?_
  refine g_iload_n (k := 1) (x := x1) (by decide +kernel : decode (m_byt 21) 32 = .ok (.iload_n 1, 1)) rfl ?_
  exact g_brn (t := 42) (off := 9) (by decide +kernel : decode (m_byt 21) 33 = .ok (.if_icmp .ne 9, 3)) rfl rfl (by decide)
theorem b_21_36 {Z : mZ} {l0 l1 l3 l4 : mV} {x5 x2 : Int} {h : mH} : m_run Z (21, 36, [l0, l1, (0, x2), l3, l4, (0, x5)], [], h) = if w32 x5 = w32 x2 then m_run Z (21, 54, [l0, l1, (0, x2), l3, l4, (0, x5)], [], h) else m_run Z (21, 42, [l0, l1, (0, x2), l3, l4, (0, x5)], [], h) := by
  refine g_iload (k := 5) (x := x5) (by decide +kernel : decode (m_byt 21) 36 = .ok (.iload 5, 2)) rfl ?_
  refine g_iload_n (k := 2) (x := x2) (by decide +kernel : decode (m_byt 21) 38 = .ok (.iload_n 2, 1)) rfl ?_
  exact g_brq (t := 54) (off := 15) (by decide +kernel : decode (m_byt 21) 39 = .ok (.if_icmp .eq 15, 3)) rfl rfl (by decide)
theorem b_21_42 {Z : mZ} {l0 l1 l3 l5 : mV} {x4 x2 : Int} {h : mH} : m_run Z (21, 42, [l0, l1, (0, x2), l3, (0, x4), l5], [], h) = if w32 x4 = w32 x2 then m_run Z (21, 48, [l0, l1, (0, x2), l3, (0, x4), l5], [], h) else m_run Z (21, 56, [l0, l1, (0, x2), l3, (0, x4), l5], [], h) := by
  refine g_iload (k := 4) (x := x4) (by decide +kernel : decode (m_byt 21) 42 = .ok (.iload 4, 2)) rfl ?_
  refine g_iload_n (k := 2) (x := x2) (by decide +kernel : decode (m_byt 21) 44 = .ok (.iload_n 2, 1)) rfl ?_
  exact g_brn (t := 56) (off := 11) (by decide +kernel : decode (m_byt 21) 45 = .ok (.if_icmp .ne 11, 3)) rfl rfl (by decide)
theorem b_21_48 {Z : mZ} {l0 l2 l3 l4 : mV} {x5 x1 : Int} {h : mH} : m_run Z (21, 48, [l0, (0, x1), l2, l3, l4, (0, x5)], [], h) = if w32 x5 = w32 x1 then m_run Z (21, 54, [l0, (0, x1), l2, l3, l4, (0, x5)], [], h) else m_run Z (21, 56, [l0, (0, x1), l2, l3, l4, (0, x5)], [], h) := by
  refine g_iload (k := 5) (x := x5) (by decide +kernel : decode (m_byt 21) 48 = .ok (.iload 5, 2)) rfl ?_
  refine g_iload_n (k := 1) (x := x1) (by decide +kernel : decode (m_byt 21) 50 = .ok (.iload_n 1, 1)) rfl ?_
  exact g_brn (t := 56) (off := 5) (by decide +kernel : decode (m_byt 21) 51 = .ok (.if_icmp .ne 5, 3)) rfl rfl (by decide)
theorem b_21_54 {Z : mZ} {l0 l1 l2 l4 l5 : mV} {x3 : Int} {h : mH} : m_run Z (21, 54, [l0, l1, l2, (0, x3), l4, l5], [], h) = some (.inl (0, x3), h) := by
  refine g_iload_n (k := 3) (x := x3) (by decide +kernel : decode (m_byt 21) 54 = .ok (.iload_n 3, 1)) rfl ?_
  exact g_iret (by decide +kernel : decode (m_byt 21) 55 = .ok (.ireturn, 1)) (by decide +kernel)
theorem b_21_56 {Z : mZ} {l0 l1 l4 l5 : mV} {x3 x2 : Int} {h : mH} : m_run Z (21, 56, [l0, l1, (0, x2), (0, x3), l4, l5], [], h) = m_run Z (21, 2, [l0, l1, (0, x2), (0, x3 + 1), l4, l5], [], h) := by
  refine g_iinc (k := 3) (x := x3) (by decide +kernel : decode (m_byt 21) 56 = .ok (.iinc 3 1, 3)) rfl (Nat.le_of_ble_eq_true rfl) ?_
  show m_run Z (21, 59, [l0, l1, (0, x2), (0, x3 + 1), l4, l5], [], h) = _
  refine g_jmp (t := 2) (by decide +kernel : decode (m_byt 21) 59 = .ok (.goto (-57), 3)) (by decide) ?_
  rfl
theorem b_21_62 {Z : mZ} {l0 l1 l2 l3 l4 l5 : mV} {h : mH} : m_run Z (21, 62, [l0, l1, l2, l3, l4, l5], [], h) = some (.inl (0, (-1)), h) := by
  refine g_base (by decide +kernel : decode (m_byt 21) 62 = .ok (.iconst (-1), 1)) rfl rfl ?_
  show m_run Z (21, 63, [l0, l1, l2, l3, l4, l5], [(0, (-1))], h) = _
  exact g_iret (by decide +kernel : decode (m_byt 21) 63 = .ok (.ireturn, 1)) (by decide +kernel)
theorem e_22 {Z : mZ} {r0 : Nat} {x1 : Int} {x2 : Int} {x3 : Int} {h : mH} : m_cl Z 22 [(2, ((r0 : Nat) : Int)), (0, x1), (0, x2), (0, x3)] h = m_run Z (22, 0, [(2, ((r0 : Nat) : Int)), (0, x1), (0, x2), (0, x3)], [], h) := g_ent (k := 4) (by decide) (by decide +kernel) (Nat.le_of_ble_eq_true rfl) (by decide +kernel) rfl
theorem b_22_0 {Z : mZ} {l2 l3 : mV} {x1 : Int} {r0 : Nat} {K : Nat → mK} {σ : Nat → Nat → Int} {n e s : Nat} (h0 : q_ob K n r0 1) : m_run Z (22, 0, [(2, ((r0 : Nat) : Int)), (0, x1), l2, l3], [], (K, σ, n, e, s)) = (m_cl Z 15 [(2, ((r0 : Nat) : Int)), (0, x1)] (K, σ, n, e, s)).bind (m_aft (m_run Z) 22 2 [(2, ((r0 : Nat) : Int)), (0, x1), l2, l3] []) := by
  refine g_aload_n (k := 0) (v := (2, ((r0 : Nat) : Int))) (by decide +kernel : decode (m_byt 22) 0 = .ok (.aload_n 0, 1)) rfl (Or.inl rfl) ?_
  refine g_iload_n (k := 1) (x := x1) (by decide +kernel : decode (m_byt 22) 1 = .ok (.iload_n 1, 1)) rfl ?_
  exact g_inv (k := 1) (m' := 15) (np := 1) (as := [(2, ((r0 : Nat) : Int)), (0, x1)]) (by decide +kernel : decode (m_byt 22) 2 = .ok (.invokevirtual 69, 3)) (Or.inl ⟨rfl, rfl⟩) (by decide +kernel) (by decide +kernel) (by decide +kernel) (Nat.le_of_ble_eq_true rfl) rfl (Or.inr (g_rcv (by decide +kernel) h0))
theorem b_22_5 {Z : mZ} {l0 l1 l2 l3 : mV} {s0 : Int} {h : mH} : m_run Z (22, 5, [l0, l1, l2, l3], [(0, s0)], h) = if w32 s0 = 0 then m_run Z (22, 16, [l0, l1, l2, l3], [], h) else m_run Z (22, 8, [l0, l1, l2, l3], [], h) := by
  exact g_brq (t := 16) (off := 11) (by decide +kernel : decode (m_byt 22) 5 = .ok (.ifCond .eq 11, 3)) rfl rfl (by decide)
theorem b_22_8 {Z : mZ} {l1 l3 : mV} {x2 : Int} {r0 : Nat} {K : Nat → mK} {σ : Nat → Nat → Int} {n e s : Nat} (h0 : q_ob K n r0 1) : m_run Z (22, 8, [(2, ((r0 : Nat) : Int)), l1, (0, x2), l3], [], (K, σ, n, e, s)) = (m_cl Z 15 [(2, ((r0 : Nat) : Int)), (0, x2)] (K, σ, n, e, s)).bind (m_aft (m_run Z) 22 10 [(2, ((r0 : Nat) : Int)), l1, (0, x2), l3] []) := by
  refine g_aload_n (k := 0) (v := (2, ((r0 : Nat) : Int))) (by decide +kernel : decode (m_byt 22) 8 = .ok (.aload_n 0, 1)) rfl (Or.inl rfl) ?_
  refine g_iload_n (k := 2) (x := x2) (by decide +kernel : decode (m_byt 22) 9 = .ok (.iload_n 2, 1)) rfl ?_
  exact g_inv (k := 1) (m' := 15) (np := 1) (as := [(2, ((r0 : Nat) : Int)), (0, x2)]) (by decide +kernel : decode (m_byt 22) 10 = .ok (.invokevirtual 69, 3)) (Or.inl ⟨rfl, rfl⟩) (by decide +kernel) (by decide +kernel) (by decide +kernel) (Nat.le_of_ble_eq_true rfl) rfl (Or.inr (g_rcv (by decide +kernel) h0))
theorem b_22_13 {Z : mZ} {l0 l1 l2 l3 : mV} {s0 : Int} {h : mH} : m_run Z (22, 13, [l0, l1, l2, l3], [(0, s0)], h) = if w32 s0 = 0 then m_run Z (22, 16, [l0, l1, l2, l3], [], h) else m_run Z (22, 18, [l0, l1, l2, l3], [], h) := by
  exact g_brn (t := 18) (off := 5) (by decide +kernel : decode (m_byt 22) 13 = .ok (.ifCond .ne 5, 3)) rfl rfl (by decide)
theorem b_22_16 {Z : mZ} {l0 l1 l2 l3 : mV} {h : mH} : m_run Z (22, 16, [l0, l1, l2, l3], [], h) = some (.inl (0, 1), h) := by
  refine g_base (by decide +kernel : decode (m_byt 22) 16 = .ok (.iconst 1, 1)) rfl rfl ?_
  show m_run Z (22, 17, [l0, l1, l2, l3], [(0, 1)], h) = _
  exact g_iret (by decide +kernel : decode (m_byt 22) 17 = .ok (.ireturn, 1)) (by decide +kernel)
theorem b_22_18 {Z : mZ} {l0 l3 : mV} {x1 x2 : Int} {h : mH} : m_run Z (22, 18, [l0, (0, x1), (0, x2), l3], [], h) = if w32 x1 = w32 x2 then m_run Z (22, 34, [l0, (0, x1), (0, x2), l3], [], h) else m_run Z (22, 23, [l0, (0, x1), (0, x2), l3], [], h) := by
  refine g_iload_n (k := 1) (x := x1) (by decide +kernel : decode (m_byt 22) 18 = .ok (.iload_n 1, 1)) rfl ?_
  refine g_iload_n (k := 2) (x := x2) (by decide +kernel : decode (m_byt 22) 19 = .ok (.iload_n 2, 1)) rfl ?_
  exact g_brq (t := 34) (off := 14) (by decide +kernel : decode (m_byt 22) 20 = .ok (.if_icmp .eq 14, 3)) rfl rfl (by decide)
theorem b_22_23 {Z : mZ} {l0 l1 l2 : mV} {x3 : Int} {h : mH} : m_run Z (22, 23, [l0, l1, l2, (0, x3)], [], h) = if w32 x3 < w32 1 then m_run Z (22, 34, [l0, l1, l2, (0, x3)], [], h) else m_run Z (22, 28, [l0, l1, l2, (0, x3)], [], h) := by
  refine g_iload_n (k := 3) (x := x3) (by decide +kernel : decode (m_byt 22) 23 = .ok (.iload_n 3, 1)) rfl ?_
  refine g_base (by decide +kernel : decode (m_byt 22) 24 = .ok (.iconst 1, 1)) rfl rfl ?_
  show m_run Z (22, 25, [l0, l1, l2, (0, x3)], [(0, 1), (0, x3)], h) = _
  exact g_brq (t := 34) (off := 9) (by decide +kernel : decode (m_byt 22) 25 = .ok (.if_icmp .lt 9, 3)) rfl rfl (by decide)
theorem b_22_28 {Z : mZ} {l0 l1 l2 : mV} {x3 : Int} {h : mH} : m_run Z (22, 28, [l0, l1, l2, (0, x3)], [], h) = if w32 x3 ≤ w32 50 then m_run Z (22, 36, [l0, l1, l2, (0, x3)], [], h) else m_run Z (22, 34, [l0, l1, l2, (0, x3)], [], h) := by
  refine g_iload_n (k := 3) (x := x3) (by decide +kernel : decode (m_byt 22) 28 = .ok (.iload_n 3, 1)) rfl ?_
  refine g_base (by decide +kernel : decode (m_byt 22) 29 = .ok (.bipush 50, 2)) rfl rfl ?_
  show m_run Z (22, 31, [l0, l1, l2, (0, x3)], [(0, 50), (0, x3)], h) = _
  exact g_brq (t := 36) (off := 5) (by decide +kernel : decode (m_byt 22) 31 = .ok (.if_icmp .le 5, 3)) rfl rfl (by decide)
theorem b_22_34 {Z : mZ} {l0 l1 l2 l3 : mV} {h : mH} : m_run Z (22, 34, [l0, l1, l2, l3], [], h) = some (.inl (0, 2), h) := by
  refine g_base (by decide +kernel : decode (m_byt 22) 34 = .ok (.iconst 2, 1)) rfl rfl ?_
  show m_run Z (22, 35, [l0, l1, l2, l3], [(0, 2)], h) = _
  exact g_iret (by decide +kernel : decode (m_byt 22) 35 = .ok (.ireturn, 1)) (by decide +kernel)
theorem b_22_36 {Z : mZ} {l3 : mV} {x1 x2 : Int} {r0 : Nat} {K : Nat → mK} {σ : Nat → Nat → Int} {n e s : Nat} (h0 : q_ob K n r0 1) : m_run Z (22, 36, [(2, ((r0 : Nat) : Int)), (0, x1), (0, x2), l3], [], (K, σ, n, e, s)) = (m_cl Z 21 [(2, ((r0 : Nat) : Int)), (0, x1), (0, x2)] (K, σ, n, e, s)).bind (m_aft (m_run Z) 22 39 [(2, ((r0 : Nat) : Int)), (0, x1), (0, x2), l3] []) := by
  refine g_aload_n (k := 0) (v := (2, ((r0 : Nat) : Int))) (by decide +kernel : decode (m_byt 22) 36 = .ok (.aload_n 0, 1)) rfl (Or.inl rfl) ?_
  refine g_iload_n (k := 1) (x := x1) (by decide +kernel : decode (m_byt 22) 37 = .ok (.iload_n 1, 1)) rfl ?_
  refine g_iload_n (k := 2) (x := x2) (by decide +kernel : decode (m_byt 22) 38 = .ok (.iload_n 2, 1)) rfl ?_
  exact g_inv (k := 1) (m' := 21) (np := 2) (as := [(2, ((r0 : Nat) : Int)), (0, x1), (0, x2)]) (by decide +kernel : decode (m_byt 22) 39 = .ok (.invokevirtual 73, 3)) (Or.inl ⟨rfl, rfl⟩) (by decide +kernel) (by decide +kernel) (by decide +kernel) (Nat.le_of_ble_eq_true rfl) rfl (Or.inr (g_rcv (by decide +kernel) h0))
theorem b_22_42 {Z : mZ} {l0 l1 l2 l3 : mV} {s0 : Int} {h : mH} : m_run Z (22, 42, [l0, l1, l2, l3], [(0, s0)], h) = if w32 s0 = w32 (-1) then m_run Z (22, 46, [l0, l1, l2, l3], [], h) else m_run Z (22, 55, [l0, l1, l2, l3], [], h) := by
  refine g_base (by decide +kernel : decode (m_byt 22) 42 = .ok (.iconst (-1), 1)) rfl rfl ?_
  show m_run Z (22, 43, [l0, l1, l2, l3], [(0, (-1)), (0, s0)], h) = _
  exact g_brn (t := 55) (off := 12) (by decide +kernel : decode (m_byt 22) 43 = .ok (.if_icmp .ne 12, 3)) rfl rfl (by decide)
theorem b_22_46 {Z : mZ} {l1 l2 l3 : mV} {r0 : Nat} {K : Nat → mK} {σ : Nat → Nat → Int} {n e s : Nat} (h0 : q_ob K n r0 1) : m_run Z (22, 46, [(2, ((r0 : Nat) : Int)), l1, l2, l3], [], (K, σ, n, e, s)) = if w32 (σ r0 1) < w32 12 then m_run Z (22, 59, [(2, ((r0 : Nat) : Int)), l1, l2, l3], [], (K, σ, n, e, s)) else m_run Z (22, 55, [(2, ((r0 : Nat) : Int)), l1, l2, l3], [], (K, σ, n, e, s)) := by
  refine g_aload_n (k := 0) (v := (2, ((r0 : Nat) : Int))) (by decide +kernel : decode (m_byt 22) 46 = .ok (.aload_n 0, 1)) rfl (Or.inl rfl) ?_
  refine g_getf (ci := 1) (f := 1) (by decide +kernel : decode (m_byt 22) 47 = .ok (.getfield 48, 3)) (by decide +kernel) (by decide +kernel) (by decide +kernel) h0 ?_
  refine g_base (by decide +kernel : decode (m_byt 22) 50 = .ok (.bipush 12, 2)) rfl rfl ?_
  show m_run Z (22, 52, [(2, ((r0 : Nat) : Int)), l1, l2, l3], [(0, 12), (0, (σ r0 1))], (K, σ, n, e, s)) = _
  exact g_brq (t := 59) (off := 7) (by decide +kernel : decode (m_byt 22) 52 = .ok (.if_icmp .lt 7, 3)) rfl rfl (by decide)
theorem b_22_55 {Z : mZ} {l0 l1 l2 l3 : mV} {h : mH} : m_run Z (22, 55, [l0, l1, l2, l3], [], h) = some (.inl (0, 3), h) := by
  refine g_base (by decide +kernel : decode (m_byt 22) 55 = .ok (.iconst 3, 1)) rfl rfl ?_
  show m_run Z (22, 56, [l0, l1, l2, l3], [(0, 3)], h) = _
  refine g_jmp (t := 60) (by decide +kernel : decode (m_byt 22) 56 = .ok (.goto 4, 3)) (by decide) ?_
  exact g_iret (by decide +kernel : decode (m_byt 22) 60 = .ok (.ireturn, 1)) (by decide +kernel)
theorem b_22_59 {Z : mZ} {l0 l1 l2 l3 : mV} {h : mH} : m_run Z (22, 59, [l0, l1, l2, l3], [], h) = m_run Z (22, 60, [l0, l1, l2, l3], [(0, 0)], h) := by
  refine g_base (by decide +kernel : decode (m_byt 22) 59 = .ok (.iconst 0, 1)) rfl rfl ?_
  show m_run Z (22, 60, [l0, l1, l2, l3], [(0, 0)], h) = _
  rfl
theorem b_22_60 {Z : mZ} {l0 l1 l2 l3 : mV} {s0 : Int} {h : mH} : m_run Z (22, 60, [l0, l1, l2, l3], [(0, s0)], h) = some (.inl (0, s0), h) := by
  exact g_iret (by decide +kernel : decode (m_byt 22) 60 = .ok (.ireturn, 1)) (by decide +kernel)
theorem e_23 {Z : mZ} {r0 : Nat} {x1 : Int} {x2 : Int} {h : mH} : m_cl Z 23 [(2, ((r0 : Nat) : Int)), (0, x1), (0, x2)] h = m_run Z (23, 0, [(2, ((r0 : Nat) : Int)), (0, x1), (0, x2)], [], h) := g_ent (k := 3) (by decide) (by decide +kernel) (Nat.le_of_ble_eq_true rfl) (by decide +kernel) rfl
theorem b_23_0 {Z : mZ} {l2 : mV} {x1 : Int} {r0 : Nat} {K : Nat → mK} {σ : Nat → Nat → Int} {n e s : Nat} (h0 : q_ob K n r0 1) : m_run Z (23, 0, [(2, ((r0 : Nat) : Int)), (0, x1), l2], [], (K, σ, n, e, s)) = (m_cl Z 15 [(2, ((r0 : Nat) : Int)), (0, x1)] (K, σ, n, e, s)).bind (m_aft (m_run Z) 23 2 [(2, ((r0 : Nat) : Int)), (0, x1), l2] []) := by
  refine g_aload_n (k := 0) (v := (2, ((r0 : Nat) : Int))) (by decide +kernel : decode (m_byt 23) 0 = .ok (.aload_n 0, 1)) rfl (Or.inl rfl) ?_
  refine g_iload_n (k := 1) (x := x1) (by decide +kernel : decode (m_byt 23) 1 = .ok (.iload_n 1, 1)) rfl ?_
  exact g_inv (k := 1) (m' := 15) (np := 1) (as := [(2, ((r0 : Nat) : Int)), (0, x1)]) (by decide +kernel : decode (m_byt 23) 2 = .ok (.invokevirtual 69, 3)) (Or.inl ⟨rfl, rfl⟩) (by decide +kernel) (by decide +kernel) (by decide +kernel) (Nat.le_of_ble_eq_true rfl) rfl (Or.inr (g_rcv (by decide +kernel) h0))
theorem b_23_5 {Z : mZ} {l0 l1 l2 : mV} {s0 : Int} {h : mH} : m_run Z (23, 5, [l0, l1, l2], [(0, s0)], h) = if w32 s0 = 0 then m_run Z (23, 8, [l0, l1, l2], [], h) else m_run Z (23, 10, [l0, l1, l2], [], h) := by
  exact g_brn (t := 10) (off := 5) (by decide +kernel : decode (m_byt 23) 5 = .ok (.ifCond .ne 5, 3)) rfl rfl (by decide)
theorem b_23_8 {Z : mZ} {l0 l1 l2 : mV} {h : mH} : m_run Z (23, 8, [l0, l1, l2], [], h) = some (.inl (0, 1), h) := by
  refine g_base (by decide +kernel : decode (m_byt 23) 8 = .ok (.iconst 1, 1)) rfl rfl ?_
  show m_run Z (23, 9, [l0, l1, l2], [(0, 1)], h) = _
  exact g_iret (by decide +kernel : decode (m_byt 23) 9 = .ok (.ireturn, 1)) (by decide +kernel)
theorem b_23_10 {Z : mZ} {l0 l1 : mV} {x2 : Int} {h : mH} : m_run Z (23, 10, [l0, l1, (0, x2)], [], h) = if w32 x2 < 0 then m_run Z (23, 20, [l0, l1, (0, x2)], [], h) else m_run Z (23, 14, [l0, l1, (0, x2)], [], h) := by
  refine g_iload_n (k := 2) (x := x2) (by decide +kernel : decode (m_byt 23) 10 = .ok (.iload_n 2, 1)) rfl ?_
  exact g_brq (t := 20) (off := 9) (by decide +kernel : decode (m_byt 23) 11 = .ok (.ifCond .lt 9, 3)) rfl rfl (by decide)
theorem b_23_14 {Z : mZ} {l0 l1 : mV} {x2 : Int} {h : mH} : m_run Z (23, 14, [l0, l1, (0, x2)], [], h) = if w32 x2 ≤ w32 9 then m_run Z (23, 24, [l0, l1, (0, x2)], [], h) else m_run Z (23, 20, [l0, l1, (0, x2)], [], h) := by
  refine g_iload_n (k := 2) (x := x2) (by decide +kernel : decode (m_byt 23) 14 = .ok (.iload_n 2, 1)) rfl ?_
  refine g_base (by decide +kernel : decode (m_byt 23) 15 = .ok (.bipush 9, 2)) rfl rfl ?_
  show m_run Z (23, 17, [l0, l1, (0, x2)], [(0, 9), (0, x2)], h) = _
  exact g_brq (t := 24) (off := 7) (by decide +kernel : decode (m_byt 23) 17 = .ok (.if_icmp .le 7, 3)) rfl rfl (by decide)
theorem b_23_20 {Z : mZ} {l0 l1 l2 : mV} {h : mH} : m_run Z (23, 20, [l0, l1, l2], [], h) = some (.inl (0, 2), h) := by
  refine g_base (by decide +kernel : decode (m_byt 23) 20 = .ok (.iconst 2, 1)) rfl rfl ?_
  show m_run Z (23, 21, [l0, l1, l2], [(0, 2)], h) = _
  refine g_jmp (t := 25) (by decide +kernel : decode (m_byt 23) 21 = .ok (.goto 4, 3)) (by decide) ?_
  exact g_iret (by decide +kernel : decode (m_byt 23) 25 = .ok (.ireturn, 1)) (by decide +kernel)
theorem b_23_24 {Z : mZ} {l0 l1 l2 : mV} {h : mH} : m_run Z (23, 24, [l0, l1, l2], [], h) = m_run Z (23, 25, [l0, l1, l2], [(0, 0)], h) := by
  refine g_base (by decide +kernel : decode (m_byt 23) 24 = .ok (.iconst 0, 1)) rfl rfl ?_
  show m_run Z (23, 25, [l0, l1, l2], [(0, 0)], h) = _
  rfl
theorem b_23_25 {Z : mZ} {l0 l1 l2 : mV} {s0 : Int} {h : mH} : m_run Z (23, 25, [l0, l1, l2], [(0, s0)], h) = some (.inl (0, s0), h) := by
  exact g_iret (by decide +kernel : decode (m_byt 23) 25 = .ok (.ireturn, 1)) (by decide +kernel)
theorem e_24 {Z : mZ} {r0 : Nat} {x1 : Int} {x2 : Int} {x3 : Int} {h : mH} : m_cl Z 24 [(2, ((r0 : Nat) : Int)), (0, x1), (0, x2), (0, x3)] h = m_run Z (24, 0, [(2, ((r0 : Nat) : Int)), (0, x1), (0, x2), (0, x3)], [], h) := g_ent (k := 4) (by decide) (by decide +kernel) (Nat.le_of_ble_eq_true rfl) (by decide +kernel) rfl
theorem b_24_0 {Z : mZ} {l2 l3 : mV} {x1 : Int} {r0 : Nat} {K : Nat → mK} {σ : Nat → Nat → Int} {n e s : Nat} (h0 : q_ob K n r0 1) : m_run Z (24, 0, [(2, ((r0 : Nat) : Int)), (0, x1), l2, l3], [], (K, σ, n, e, s)) = (m_cl Z 16 [(2, ((r0 : Nat) : Int)), (0, x1)] (K, σ, n, e, s)).bind (m_aft (m_run Z) 24 2 [(2, ((r0 : Nat) : Int)), (0, x1), l2, l3] []) := by
  refine g_aload_n (k := 0) (v := (2, ((r0 : Nat) : Int))) (by decide +kernel : decode (m_byt 24) 0 = .ok (.aload_n 0, 1)) rfl (Or.inl rfl) ?_
  refine g_iload_n (k := 1) (x := x1) (by decide +kernel : decode (m_byt 24) 1 = .ok (.iload_n 1, 1)) rfl ?_
  exact g_inv (k := 1) (m' := 16) (np := 1) (as := [(2, ((r0 : Nat) : Int)), (0, x1)]) (by decide +kernel : decode (m_byt 24) 2 = .ok (.invokevirtual 77, 3)) (Or.inl ⟨rfl, rfl⟩) (by decide +kernel) (by decide +kernel) (by decide +kernel) (Nat.le_of_ble_eq_true rfl) rfl (Or.inr (g_rcv (by decide +kernel) h0))
theorem b_24_5 {Z : mZ} {l0 l1 l2 l3 : mV} {s0 : Int} {h : mH} : m_run Z (24, 5, [l0, l1, l2, l3], [(0, s0)], h) = if w32 s0 = 0 then m_run Z (24, 8, [l0, l1, l2, l3], [], h) else m_run Z (24, 10, [l0, l1, l2, l3], [], h) := by
  exact g_brn (t := 10) (off := 5) (by decide +kernel : decode (m_byt 24) 5 = .ok (.ifCond .ne 5, 3)) rfl rfl (by decide)
theorem b_24_8 {Z : mZ} {l0 l1 l2 l3 : mV} {h : mH} : m_run Z (24, 8, [l0, l1, l2, l3], [], h) = some (.inl (0, 1), h) := by
  refine g_base (by decide +kernel : decode (m_byt 24) 8 = .ok (.iconst 1, 1)) rfl rfl ?_
  show m_run Z (24, 9, [l0, l1, l2, l3], [(0, 1)], h) = _
  exact g_iret (by decide +kernel : decode (m_byt 24) 9 = .ok (.ireturn, 1)) (by decide +kernel)
theorem b_24_10 {Z : mZ} {l0 l1 l3 : mV} {x2 : Int} {h : mH} : m_run Z (24, 10, [l0, l1, (0, x2), l3], [], h) = if w32 x2 < 0 then m_run Z (24, 31, [l0, l1, (0, x2), l3], [], h) else m_run Z (24, 14, [l0, l1, (0, x2), l3], [], h) := by
  refine g_iload_n (k := 2) (x := x2) (by decide +kernel : decode (m_byt 24) 10 = .ok (.iload_n 2, 1)) rfl ?_
  exact g_brq (t := 31) (off := 20) (by decide +kernel : decode (m_byt 24) 11 = .ok (.ifCond .lt 20, 3)) rfl rfl (by decide)
theorem b_24_14 {Z : mZ} {l0 l1 : mV} {x2 x3 : Int} {h : mH} : m_run Z (24, 14, [l0, l1, (0, x2), (0, x3)], [], h) = if w32 x3 ≤ w32 x2 then m_run Z (24, 31, [l0, l1, (0, x2), (0, x3)], [], h) else m_run Z (24, 19, [l0, l1, (0, x2), (0, x3)], [], h) := by
  refine g_iload_n (k := 2) (x := x2) (by decide +kernel : decode (m_byt 24) 14 = .ok (.iload_n 2, 1)) rfl ?_
  refine g_iload_n (k := 3) (x := x3) (by decide +kernel : decode (m_byt 24) 15 = .ok (.iload_n 3, 1)) rfl ?_
  exact g_brq (t := 31) (off := 15) (by decide +kernel : decode (m_byt 24) 16 = .ok (.if_icmp .ge 15, 3)) rfl rfl (by decide)
theorem b_24_19 {Z : mZ} {l2 : mV} {x3 x1 : Int} {r0 : Nat} {K : Nat → mK} {σ : Nat → Nat → Int} {n e s : Nat} (h0 : q_ob K n r0 1) (h1 : q_rp K r0 7) (h2 : q_ob K n (q_rf K r0 7) 3) : m_run Z (24, 19, [(2, ((r0 : Nat) : Int)), (0, x1), l2, (0, x3)], [], (K, σ, n, e, s)) = (m_cl Z 44 [(2, ((q_rf K r0 7 : Nat) : Int)), (0, x1)] (K, σ, n, e, s)).bind (m_aft (m_run Z) 24 25 [(2, ((r0 : Nat) : Int)), (0, x1), l2, (0, x3)] [(0, x3)]) := by
  refine g_iload_n (k := 3) (x := x3) (by decide +kernel : decode (m_byt 24) 19 = .ok (.iload_n 3, 1)) rfl ?_
  refine g_aload_n (k := 0) (v := (2, ((r0 : Nat) : Int))) (by decide +kernel : decode (m_byt 24) 20 = .ok (.aload_n 0, 1)) rfl (Or.inl rfl) ?_
  refine g_getr (ci := 1) (f := 7) (by decide +kernel : decode (m_byt 24) 21 = .ok (.getfield 29, 3)) (by decide +kernel) (by decide +kernel) (by decide +kernel) h0 h1 ?_
  refine g_iload_n (k := 1) (x := x1) (by decide +kernel : decode (m_byt 24) 24 = .ok (.iload_n 1, 1)) rfl ?_
  exact g_inv (k := 1) (m' := 44) (np := 1) (as := [(2, ((q_rf K r0 7 : Nat) : Int)), (0, x1)]) (by decide +kernel : decode (m_byt 24) 25 = .ok (.invokevirtual 65, 3)) (Or.inl ⟨rfl, rfl⟩) (by decide +kernel) (by decide +kernel) (by decide +kernel) (Nat.le_of_ble_eq_true rfl) rfl (Or.inr (g_rcv (by decide +kernel) h2))
theorem b_24_28 {Z : mZ} {l0 l1 l2 l3 : mV} {s0 s1 : Int} {h : mH} : m_run Z (24, 28, [l0, l1, l2, l3], [(0, s0), (0, s1)], h) = if w32 s1 ≤ w32 s0 then m_run Z (24, 33, [l0, l1, l2, l3], [], h) else m_run Z (24, 31, [l0, l1, l2, l3], [], h) := by
  exact g_brq (t := 33) (off := 5) (by decide +kernel : decode (m_byt 24) 28 = .ok (.if_icmp .le 5, 3)) rfl rfl (by decide)
theorem b_24_31 {Z : mZ} {l0 l1 l2 l3 : mV} {h : mH} : m_run Z (24, 31, [l0, l1, l2, l3], [], h) = some (.inl (0, 2), h) := by
  refine g_base (by decide +kernel : decode (m_byt 24) 31 = .ok (.iconst 2, 1)) rfl rfl ?_
  show m_run Z (24, 32, [l0, l1, l2, l3], [(0, 2)], h) = _
  exact g_iret (by decide +kernel : decode (m_byt 24) 32 = .ok (.ireturn, 1)) (by decide +kernel)
theorem b_24_33 {Z : mZ} {l1 l2 l3 : mV} {r0 : Nat} {K : Nat → mK} {σ : Nat → Nat → Int} {n e s : Nat} (h0 : q_ob K n r0 1) : m_run Z (24, 33, [(2, ((r0 : Nat) : Int)), l1, l2, l3], [], (K, σ, n, e, s)) = if w32 (σ r0 2) < w32 6 then m_run Z (24, 46, [(2, ((r0 : Nat) : Int)), l1, l2, l3], [], (K, σ, n, e, s)) else m_run Z (24, 42, [(2, ((r0 : Nat) : Int)), l1, l2, l3], [], (K, σ, n, e, s)) := by
  refine g_aload_n (k := 0) (v := (2, ((r0 : Nat) : Int))) (by decide +kernel : decode (m_byt 24) 33 = .ok (.aload_n 0, 1)) rfl (Or.inl rfl) ?_
  refine g_getf (ci := 1) (f := 2) (by decide +kernel : decode (m_byt 24) 34 = .ok (.getfield 51, 3)) (by decide +kernel) (by decide +kernel) (by decide +kernel) h0 ?_
  refine g_base (by decide +kernel : decode (m_byt 24) 37 = .ok (.bipush 6, 2)) rfl rfl ?_
  show m_run Z (24, 39, [(2, ((r0 : Nat) : Int)), l1, l2, l3], [(0, 6), (0, (σ r0 2))], (K, σ, n, e, s)) = _
  exact g_brq (t := 46) (off := 7) (by decide +kernel : decode (m_byt 24) 39 = .ok (.if_icmp .lt 7, 3)) rfl rfl (by decide)
theorem b_24_42 {Z : mZ} {l0 l1 l2 l3 : mV} {h : mH} : m_run Z (24, 42, [l0, l1, l2, l3], [], h) = some (.inl (0, 3), h) := by
  refine g_base (by decide +kernel : decode (m_byt 24) 42 = .ok (.iconst 3, 1)) rfl rfl ?_
  show m_run Z (24, 43, [l0, l1, l2, l3], [(0, 3)], h) = _
  refine g_jmp (t := 47) (by decide +kernel : decode (m_byt 24) 43 = .ok (.goto 4, 3)) (by decide) ?_
  exact g_iret (by decide +kernel : decode (m_byt 24) 47 = .ok (.ireturn, 1)) (by decide +kernel)
theorem b_24_46 {Z : mZ} {l0 l1 l2 l3 : mV} {h : mH} : m_run Z (24, 46, [l0, l1, l2, l3], [], h) = m_run Z (24, 47, [l0, l1, l2, l3], [(0, 0)], h) := by
  refine g_base (by decide +kernel : decode (m_byt 24) 46 = .ok (.iconst 0, 1)) rfl rfl ?_
  show m_run Z (24, 47, [l0, l1, l2, l3], [(0, 0)], h) = _
  rfl
theorem b_24_47 {Z : mZ} {l0 l1 l2 l3 : mV} {s0 : Int} {h : mH} : m_run Z (24, 47, [l0, l1, l2, l3], [(0, s0)], h) = some (.inl (0, s0), h) := by
  exact g_iret (by decide +kernel : decode (m_byt 24) 47 = .ok (.ireturn, 1)) (by decide +kernel)
theorem e_25 {Z : mZ} {r0 : Nat} {x1 : Int} {x2 : Int} {x3 : Int} {h : mH} : m_cl Z 25 [(2, ((r0 : Nat) : Int)), (0, x1), (0, x2), (0, x3)] h = m_run Z (25, 0, [(2, ((r0 : Nat) : Int)), (0, x1), (0, x2), (0, x3)], [], h) := g_ent (k := 4) (by decide) (by decide +kernel) (Nat.le_of_ble_eq_true rfl) (by decide +kernel) rfl
theorem b_25_0 {Z : mZ} {l2 l3 : mV} {x1 : Int} {r0 : Nat} {K : Nat → mK} {σ : Nat → Nat → Int} {n e s : Nat} (h0 : q_ob K n r0 1) (h1 : q_rp K r0 5) (h2 : q_ob K n (q_rf K r0 5) 3) : m_run Z (25, 0, [(2, ((r0 : Nat) : Int)), (0, x1), l2, l3], [], (K, σ, n, e, s)) = (m_cl Z 45 [(2, ((q_rf K r0 5 : Nat) : Int)), (0, (σ r0 1)), (0, x1)] (K, σ, n, e, s)).bind (m_aft (m_run Z) 25 9 [(2, ((r0 : Nat) : Int)), (0, x1), l2, l3] []) := by
  refine g_aload_n (k := 0) (v := (2, ((r0 : Nat) : Int))) (by decide +kernel : decode (m_byt 25) 0 = .ok (.aload_n 0, 1)) rfl (Or.inl rfl) ?_
  refine g_getr (ci := 1) (f := 5) (by decide +kernel : decode (m_byt 25) 1 = .ok (.getfield 23, 3)) (by decide +kernel) (by decide +kernel) (by decide +kernel) h0 h1 ?_
  refine g_aload_n (k := 0) (v := (2, ((r0 : Nat) : Int))) (by decide +kernel : decode (m_byt 25) 4 = .ok (.aload_n 0, 1)) rfl (Or.inl rfl) ?_
  refine g_getf (ci := 1) (f := 1) (by decide +kernel : decode (m_byt 25) 5 = .ok (.getfield 48, 3)) (by decide +kernel) (by decide +kernel) (by decide +kernel) h0 ?_
  refine g_iload_n (k := 1) (x := x1) (by decide +kernel : decode (m_byt 25) 8 = .ok (.iload_n 1, 1)) rfl ?_
  exact g_inv (k := 1) (m' := 45) (np := 2) (as := [(2, ((q_rf K r0 5 : Nat) : Int)), (0, (σ r0 1)), (0, x1)]) (by decide +kernel : decode (m_byt 25) 9 = .ok (.invokevirtual 80, 3)) (Or.inl ⟨rfl, rfl⟩) (by decide +kernel) (by decide +kernel) (by decide +kernel) (Nat.le_of_ble_eq_true rfl) rfl (Or.inr (g_rcv (by decide +kernel) h2))
theorem b_25_12 {Z : mZ} {l1 l3 : mV} {x2 : Int} {r0 : Nat} {K : Nat → mK} {σ : Nat → Nat → Int} {n e s : Nat} (h0 : q_ob K n r0 1) (h1 : q_rp K r0 6) (h2 : q_ob K n (q_rf K r0 6) 3) : m_run Z (25, 12, [(2, ((r0 : Nat) : Int)), l1, (0, x2), l3], [], (K, σ, n, e, s)) = (m_cl Z 45 [(2, ((q_rf K r0 6 : Nat) : Int)), (0, (σ r0 1)), (0, x2)] (K, σ, n, e, s)).bind (m_aft (m_run Z) 25 21 [(2, ((r0 : Nat) : Int)), l1, (0, x2), l3] []) := by
  refine g_aload_n (k := 0) (v := (2, ((r0 : Nat) : Int))) (by decide +kernel : decode (m_byt 25) 12 = .ok (.aload_n 0, 1)) rfl (Or.inl rfl) ?_
  refine g_getr (ci := 1) (f := 6) (by decide +kernel : decode (m_byt 25) 13 = .ok (.getfield 26, 3)) (by decide +kernel) (by decide +kernel) (by decide +kernel) h0 h1 ?_
  refine g_aload_n (k := 0) (v := (2, ((r0 : Nat) : Int))) (by decide +kernel : decode (m_byt 25) 16 = .ok (.aload_n 0, 1)) rfl (Or.inl rfl) ?_
  refine g_getf (ci := 1) (f := 1) (by decide +kernel : decode (m_byt 25) 17 = .ok (.getfield 48, 3)) (by decide +kernel) (by decide +kernel) (by decide +kernel) h0 ?_
  refine g_iload_n (k := 2) (x := x2) (by decide +kernel : decode (m_byt 25) 20 = .ok (.iload_n 2, 1)) rfl ?_
  exact g_inv (k := 1) (m' := 45) (np := 2) (as := [(2, ((q_rf K r0 6 : Nat) : Int)), (0, (σ r0 1)), (0, x2)]) (by decide +kernel : decode (m_byt 25) 21 = .ok (.invokevirtual 80, 3)) (Or.inl ⟨rfl, rfl⟩) (by decide +kernel) (by decide +kernel) (by decide +kernel) (Nat.le_of_ble_eq_true rfl) rfl (Or.inr (g_rcv (by decide +kernel) h2))
theorem b_25_24 {Z : mZ} {l1 l2 : mV} {x3 : Int} {r0 : Nat} {K : Nat → mK} {σ : Nat → Nat → Int} {n e s : Nat} (h0 : q_ob K n r0 1) (h1 : q_rp K r0 7) (h2 : q_ob K n (q_rf K r0 7) 3) : m_run Z (25, 24, [(2, ((r0 : Nat) : Int)), l1, l2, (0, x3)], [], (K, σ, n, e, s)) = (m_cl Z 45 [(2, ((q_rf K r0 7 : Nat) : Int)), (0, (σ r0 1)), (0, x3)] (K, σ, n, e, s)).bind (m_aft (m_run Z) 25 33 [(2, ((r0 : Nat) : Int)), l1, l2, (0, x3)] []) := by
  refine g_aload_n (k := 0) (v := (2, ((r0 : Nat) : Int))) (by decide +kernel : decode (m_byt 25) 24 = .ok (.aload_n 0, 1)) rfl (Or.inl rfl) ?_
  refine g_getr (ci := 1) (f := 7) (by decide +kernel : decode (m_byt 25) 25 = .ok (.getfield 29, 3)) (by decide +kernel) (by decide +kernel) (by decide +kernel) h0 h1 ?_
  refine g_aload_n (k := 0) (v := (2, ((r0 : Nat) : Int))) (by decide +kernel : decode (m_byt 25) 28 = .ok (.aload_n 0, 1)) rfl (Or.inl rfl) ?_
  refine g_getf (ci := 1) (f := 1) (by decide +kernel : decode (m_byt 25) 29 = .ok (.getfield 48, 3)) (by decide +kernel) (by decide +kernel) (by decide +kernel) h0 ?_
  refine g_iload_n (k := 3) (x := x3) (by decide +kernel : decode (m_byt 25) 32 = .ok (.iload_n 3, 1)) rfl ?_
  exact g_inv (k := 1) (m' := 45) (np := 2) (as := [(2, ((q_rf K r0 7 : Nat) : Int)), (0, (σ r0 1)), (0, x3)]) (by decide +kernel : decode (m_byt 25) 33 = .ok (.invokevirtual 80, 3)) (Or.inl ⟨rfl, rfl⟩) (by decide +kernel) (by decide +kernel) (by decide +kernel) (Nat.le_of_ble_eq_true rfl) rfl (Or.inr (g_rcv (by decide +kernel) h2))
theorem b_25_36 {Z : mZ} {l1 l2 l3 : mV} {r0 : Nat} {K : Nat → mK} {σ : Nat → Nat → Int} {n e s : Nat} (h0 : q_ob K n r0 1) : m_run Z (25, 36, [(2, ((r0 : Nat) : Int)), l1, l2, l3], [], (K, σ, n, e, s)) = some (.inl (0, (σ r0 1)), (K, (m_up2 σ r0 1 ((σ r0 1) + 1)), n, e, s)) := by
  refine g_aload_n (k := 0) (v := (2, ((r0 : Nat) : Int))) (by decide +kernel : decode (m_byt 25) 36 = .ok (.aload_n 0, 1)) rfl (Or.inl rfl) ?_
  refine g_base (by decide +kernel : decode (m_byt 25) 37 = .ok (.dup, 1)) rfl rfl ?_
  show m_run Z (25, 38, [(2, ((r0 : Nat) : Int)), l1, l2, l3], [(2, ((r0 : Nat) : Int)), (2, ((r0 : Nat) : Int))], (K, σ, n, e, s)) = _
  refine g_getf (ci := 1) (f := 1) (by decide +kernel : decode (m_byt 25) 38 = .ok (.getfield 48, 3)) (by decide +kernel) (by decide +kernel) (by decide +kernel) h0 ?_
  refine g_base (by decide +kernel : decode (m_byt 25) 41 = .ok (.dup_x1, 1)) rfl rfl ?_
  show m_run Z (25, 42, [(2, ((r0 : Nat) : Int)), l1, l2, l3], [(0, (σ r0 1)), (2, ((r0 : Nat) : Int)), (0, (σ r0 1))], (K, σ, n, e, s)) = _
  refine g_base (by decide +kernel : decode (m_byt 25) 42 = .ok (.iconst 1, 1)) rfl rfl ?_
  show m_run Z (25, 43, [(2, ((r0 : Nat) : Int)), l1, l2, l3], [(0, 1), (0, (σ r0 1)), (2, ((r0 : Nat) : Int)), (0, (σ r0 1))], (K, σ, n, e, s)) = _
  refine g_base (by decide +kernel : decode (m_byt 25) 43 = .ok (.iadd, 1)) rfl rfl ?_
  show m_run Z (25, 44, [(2, ((r0 : Nat) : Int)), l1, l2, l3], [(0, ((σ r0 1) + 1)), (2, ((r0 : Nat) : Int)), (0, (σ r0 1))], (K, σ, n, e, s)) = _
  refine g_putf (ci := 1) (f := 1) (by decide +kernel : decode (m_byt 25) 44 = .ok (.putfield 48, 3)) (by decide +kernel) (by decide +kernel) (by decide +kernel) h0 ?_
  show m_run Z (25, 47, [(2, ((r0 : Nat) : Int)), l1, l2, l3], [(0, (σ r0 1))], (K, (m_up2 σ r0 1 ((σ r0 1) + 1)), n, e, s)) = _
  exact g_iret (by decide +kernel : decode (m_byt 25) 47 = .ok (.ireturn, 1)) (by decide +kernel)
theorem e_26 {Z : mZ} {r0 : Nat} {x1 : Int} {x2 : Int} {x3 : Int} {h : mH} : m_cl Z 26 [(2, ((r0 : Nat) : Int)), (0, x1), (0, x2), (0, x3)] h = m_run Z (26, 0, [(2, ((r0 : Nat) : Int)), (0, x1), (0, x2), (0, x3)], [], h) := g_ent (k := 4) (by decide) (by decide +kernel) (Nat.le_of_ble_eq_true rfl) (by decide +kernel) rfl
theorem b_26_0 {Z : mZ} {l2 l3 : mV} {x1 : Int} {r0 : Nat} {K : Nat → mK} {σ : Nat → Nat → Int} {n e s : Nat} (h0 : q_ob K n r0 1) (h1 : q_rp K r0 8) (h2 : q_ob K n (q_rf K r0 8) 3) : m_run Z (26, 0, [(2, ((r0 : Nat) : Int)), (0, x1), l2, l3], [], (K, σ, n, e, s)) = (m_cl Z 45 [(2, ((q_rf K r0 8 : Nat) : Int)), (0, (σ r0 2)), (0, x1)] (K, σ, n, e, s)).bind (m_aft (m_run Z) 26 9 [(2, ((r0 : Nat) : Int)), (0, x1), l2, l3] []) := by
  refine g_aload_n (k := 0) (v := (2, ((r0 : Nat) : Int))) (by decide +kernel : decode (m_byt 26) 0 = .ok (.aload_n 0, 1)) rfl (Or.inl rfl) ?_
  refine g_getr (ci := 1) (f := 8) (by decide +kernel : decode (m_byt 26) 1 = .ok (.getfield 32, 3)) (by decide +kernel) (by decide +kernel) (by decide +kernel) h0 h1 ?_
  refine g_aload_n (k := 0) (v := (2, ((r0 : Nat) : Int))) (by decide +kernel : decode (m_byt 26) 4 = .ok (.aload_n 0, 1)) rfl (Or.inl rfl) ?_
  refine g_getf (ci := 1) (f := 2) (by decide +kernel : decode (m_byt 26) 5 = .ok (.getfield 51, 3)) (by decide +kernel) (by decide +kernel) (by decide +kernel) h0 ?_
  refine g_iload_n (k := 1) (x := x1) (by decide +kernel : decode (m_byt 26) 8 = .ok (.iload_n 1, 1)) rfl ?_
  exact g_inv (k := 1) (m' := 45) (np := 2) (as := [(2, ((q_rf K r0 8 : Nat) : Int)), (0, (σ r0 2)), (0, x1)]) (by decide +kernel : decode (m_byt 26) 9 = .ok (.invokevirtual 80, 3)) (Or.inl ⟨rfl, rfl⟩) (by decide +kernel) (by decide +kernel) (by decide +kernel) (Nat.le_of_ble_eq_true rfl) rfl (Or.inr (g_rcv (by decide +kernel) h2))
theorem b_26_12 {Z : mZ} {l1 l3 : mV} {x2 : Int} {r0 : Nat} {K : Nat → mK} {σ : Nat → Nat → Int} {n e s : Nat} (h0 : q_ob K n r0 1) (h1 : q_rp K r0 9) (h2 : q_ob K n (q_rf K r0 9) 3) : m_run Z (26, 12, [(2, ((r0 : Nat) : Int)), l1, (0, x2), l3], [], (K, σ, n, e, s)) = (m_cl Z 45 [(2, ((q_rf K r0 9 : Nat) : Int)), (0, (σ r0 2)), (0, x2)] (K, σ, n, e, s)).bind (m_aft (m_run Z) 26 21 [(2, ((r0 : Nat) : Int)), l1, (0, x2), l3] []) := by
  refine g_aload_n (k := 0) (v := (2, ((r0 : Nat) : Int))) (by decide +kernel : decode (m_byt 26) 12 = .ok (.aload_n 0, 1)) rfl (Or.inl rfl) ?_
  refine g_getr (ci := 1) (f := 9) (by decide +kernel : decode (m_byt 26) 13 = .ok (.getfield 35, 3)) (by decide +kernel) (by decide +kernel) (by decide +kernel) h0 h1 ?_
  refine g_aload_n (k := 0) (v := (2, ((r0 : Nat) : Int))) (by decide +kernel : decode (m_byt 26) 16 = .ok (.aload_n 0, 1)) rfl (Or.inl rfl) ?_
  refine g_getf (ci := 1) (f := 2) (by decide +kernel : decode (m_byt 26) 17 = .ok (.getfield 51, 3)) (by decide +kernel) (by decide +kernel) (by decide +kernel) h0 ?_
  refine g_iload_n (k := 2) (x := x2) (by decide +kernel : decode (m_byt 26) 20 = .ok (.iload_n 2, 1)) rfl ?_
  exact g_inv (k := 1) (m' := 45) (np := 2) (as := [(2, ((q_rf K r0 9 : Nat) : Int)), (0, (σ r0 2)), (0, x2)]) (by decide +kernel : decode (m_byt 26) 21 = .ok (.invokevirtual 80, 3)) (Or.inl ⟨rfl, rfl⟩) (by decide +kernel) (by decide +kernel) (by decide +kernel) (Nat.le_of_ble_eq_true rfl) rfl (Or.inr (g_rcv (by decide +kernel) h2))
theorem b_26_24 {Z : mZ} {l1 l2 : mV} {x3 : Int} {r0 : Nat} {K : Nat → mK} {σ : Nat → Nat → Int} {n e s : Nat} (h0 : q_ob K n r0 1) (h1 : q_rp K r0 10) (h2 : q_ob K n (q_rf K r0 10) 3) : m_run Z (26, 24, [(2, ((r0 : Nat) : Int)), l1, l2, (0, x3)], [], (K, σ, n, e, s)) = (m_cl Z 45 [(2, ((q_rf K r0 10 : Nat) : Int)), (0, (σ r0 2)), (0, x3)] (K, σ, n, e, s)).bind (m_aft (m_run Z) 26 33 [(2, ((r0 : Nat) : Int)), l1, l2, (0, x3)] []) := by
  refine g_aload_n (k := 0) (v := (2, ((r0 : Nat) : Int))) (by decide +kernel : decode (m_byt 26) 24 = .ok (.aload_n 0, 1)) rfl (Or.inl rfl) ?_
  refine g_getr (ci := 1) (f := 10) (by decide +kernel : decode (m_byt 26) 25 = .ok (.getfield 38, 3)) (by decide +kernel) (by decide +kernel) (by decide +kernel) h0 h1 ?_
  refine g_aload_n (k := 0) (v := (2, ((r0 : Nat) : Int))) (by decide +kernel : decode (m_byt 26) 28 = .ok (.aload_n 0, 1)) rfl (Or.inl rfl) ?_
  refine g_getf (ci := 1) (f := 2) (by decide +kernel : decode (m_byt 26) 29 = .ok (.getfield 51, 3)) (by decide +kernel) (by decide +kernel) (by decide +kernel) h0 ?_
  refine g_iload_n (k := 3) (x := x3) (by decide +kernel : decode (m_byt 26) 32 = .ok (.iload_n 3, 1)) rfl ?_
  exact g_inv (k := 1) (m' := 45) (np := 2) (as := [(2, ((q_rf K r0 10 : Nat) : Int)), (0, (σ r0 2)), (0, x3)]) (by decide +kernel : decode (m_byt 26) 33 = .ok (.invokevirtual 80, 3)) (Or.inl ⟨rfl, rfl⟩) (by decide +kernel) (by decide +kernel) (by decide +kernel) (Nat.le_of_ble_eq_true rfl) rfl (Or.inr (g_rcv (by decide +kernel) h2))
theorem b_26_36 {Z : mZ} {l1 l2 l3 : mV} {r0 : Nat} {K : Nat → mK} {σ : Nat → Nat → Int} {n e s : Nat} (h0 : q_ob K n r0 1) : m_run Z (26, 36, [(2, ((r0 : Nat) : Int)), l1, l2, l3], [], (K, σ, n, e, s)) = some (.inl (0, (σ r0 2)), (K, (m_up2 σ r0 2 ((σ r0 2) + 1)), n, e, s)) := by
  refine g_aload_n (k := 0) (v := (2, ((r0 : Nat) : Int))) (by decide +kernel : decode (m_byt 26) 36 = .ok (.aload_n 0, 1)) rfl (Or.inl rfl) ?_
  refine g_base (by decide +kernel : decode (m_byt 26) 37 = .ok (.dup, 1)) rfl rfl ?_
  show m_run Z (26, 38, [(2, ((r0 : Nat) : Int)), l1, l2, l3], [(2, ((r0 : Nat) : Int)), (2, ((r0 : Nat) : Int))], (K, σ, n, e, s)) = _
  refine g_getf (ci := 1) (f := 2) (by decide +kernel : decode (m_byt 26) 38 = .ok (.getfield 51, 3)) (by decide +kernel) (by decide +kernel) (by decide +kernel) h0 ?_
  refine g_base (by decide +kernel : decode (m_byt 26) 41 = .ok (.dup_x1, 1)) rfl rfl ?_
  show m_run Z (26, 42, [(2, ((r0 : Nat) : Int)), l1, l2, l3], [(0, (σ r0 2)), (2, ((r0 : Nat) : Int)), (0, (σ r0 2))], (K, σ, n, e, s)) = _
  refine g_base (by decide +kernel : decode (m_byt 26) 42 = .ok (.iconst 1, 1)) rfl rfl ?_
  show m_run Z (26, 43, [(2, ((r0 : Nat) : Int)), l1, l2, l3], [(0, 1), (0, (σ r0 2)), (2, ((r0 : Nat) : Int)), (0, (σ r0 2))], (K, σ, n, e, s)) = _
  refine g_base (by decide +kernel : decode (m_byt 26) 43 = .ok (.iadd, 1)) rfl rfl ?_
  show m_run Z (26, 44, [(2, ((r0 : Nat) : Int)), l1, l2, l3], [(0, ((σ r0 2) + 1)), (2, ((r0 : Nat) : Int)), (0, (σ r0 2))], (K, σ, n, e, s)) = _
  refine g_putf (ci := 1) (f := 2) (by decide +kernel : decode (m_byt 26) 44 = .ok (.putfield 51, 3)) (by decide +kernel) (by decide +kernel) (by decide +kernel) h0 ?_
  show m_run Z (26, 47, [(2, ((r0 : Nat) : Int)), l1, l2, l3], [(0, (σ r0 2))], (K, (m_up2 σ r0 2 ((σ r0 2) + 1)), n, e, s)) = _
  exact g_iret (by decide +kernel : decode (m_byt 26) 47 = .ok (.ireturn, 1)) (by decide +kernel)
theorem e_27 {Z : mZ} {r0 : Nat} {x1 : Int} {h : mH} : m_cl Z 27 [(2, ((r0 : Nat) : Int)), (0, x1)] h = m_run Z (27, 0, [(2, ((r0 : Nat) : Int)), (0, x1), (9, 0), (9, 0), (9, 0)], [], h) := g_ent (k := 5) (by decide) (by decide +kernel) (Nat.le_of_ble_eq_true rfl) (by decide +kernel) rfl
theorem b_27_0 {Z : mZ} {l2 l3 l4 : mV} {x1 : Int} {r0 : Nat} {K : Nat → mK} {σ : Nat → Nat → Int} {n e s : Nat} (h0 : q_ob K n r0 1) : m_run Z (27, 0, [(2, ((r0 : Nat) : Int)), (0, x1), l2, l3, l4], [], (K, σ, n, e, s)) = m_run Z (27, 9, [(2, ((r0 : Nat) : Int)), (0, x1), (0, 0), (0, ((σ r0 2) - 1)), l4], [], (K, σ, n, e, s)) := by
  refine g_base (by decide +kernel : decode (m_byt 27) 0 = .ok (.iconst 0, 1)) rfl rfl ?_
  show m_run Z (27, 1, [(2, ((r0 : Nat) : Int)), (0, x1), l2, l3, l4], [(0, 0)], (K, σ, n, e, s)) = _
  refine g_istore_n (k := 2) (by decide +kernel : decode (m_byt 27) 1 = .ok (.istore_n 2, 1)) (Nat.le_of_ble_eq_true rfl) ?_
  show m_run Z (27, 2, [(2, ((r0 : Nat) : Int)), (0, x1), (0, 0), l3, l4], [], (K, σ, n, e, s)) = _
  refine g_aload_n (k := 0) (v := (2, ((r0 : Nat) : Int))) (by decide +kernel : decode (m_byt 27) 2 = .ok (.aload_n 0, 1)) rfl (Or.inl rfl) ?_
  refine g_getf (ci := 1) (f := 2) (by decide +kernel : decode (m_byt 27) 3 = .ok (.getfield 51, 3)) (by decide +kernel) (by decide +kernel) (by decide +kernel) h0 ?_
  refine g_base (by decide +kernel : decode (m_byt 27) 6 = .ok (.iconst 1, 1)) rfl rfl ?_
  show m_run Z (27, 7, [(2, ((r0 : Nat) : Int)), (0, x1), (0, 0), l3, l4], [(0, 1), (0, (σ r0 2))], (K, σ, n, e, s)) = _
  refine g_base (by decide +kernel : decode (m_byt 27) 7 = .ok (.isub, 1)) rfl rfl ?_
  show m_run Z (27, 8, [(2, ((r0 : Nat) : Int)), (0, x1), (0, 0), l3, l4], [(0, ((σ r0 2) - 1))], (K, σ, n, e, s)) = _
  refine g_istore_n (k := 3) (by decide +kernel : decode (m_byt 27) 8 = .ok (.istore_n 3, 1)) (Nat.le_of_ble_eq_true rfl) ?_
  show m_run Z (27, 9, [(2, ((r0 : Nat) : Int)), (0, x1), (0, 0), (0, ((σ r0 2) - 1)), l4], [], (K, σ, n, e, s)) = _
  rfl
theorem b_27_9 {Z : mZ} {l0 l1 l2 l4 : mV} {x3 : Int} {h : mH} : m_run Z (27, 9, [l0, l1, l2, (0, x3), l4], [], h) = if w32 x3 < 0 then m_run Z (27, 64, [l0, l1, l2, (0, x3), l4], [], h) else m_run Z (27, 13, [l0, l1, l2, (0, x3), l4], [], h) := by
  refine g_iload_n (k := 3) (x := x3) (by decide +kernel : decode (m_byt 27) 9 = .ok (.iload_n 3, 1)) rfl ?_
  exact g_brq (t := 64) (off := 54) (by decide +kernel : decode (m_byt 27) 10 = .ok (.ifCond .lt 54, 3)) rfl rfl (by decide)
theorem b_27_13 {Z : mZ} {l1 l2 l4 : mV} {x3 : Int} {r0 : Nat} {K : Nat → mK} {σ : Nat → Nat → Int} {n e s : Nat} (h0 : q_ob K n r0 1) (h1 : q_rp K r0 8) (h2 : q_ob K n (q_rf K r0 8) 3) : m_run Z (27, 13, [(2, ((r0 : Nat) : Int)), l1, l2, (0, x3), l4], [], (K, σ, n, e, s)) = (m_cl Z 44 [(2, ((q_rf K r0 8 : Nat) : Int)), (0, x3)] (K, σ, n, e, s)).bind (m_aft (m_run Z) 27 18 [(2, ((r0 : Nat) : Int)), l1, l2, (0, x3), l4] []) := by
  refine g_aload_n (k := 0) (v := (2, ((r0 : Nat) : Int))) (by decide +kernel : decode (m_byt 27) 13 = .ok (.aload_n 0, 1)) rfl (Or.inl rfl) ?_
  refine g_getr (ci := 1) (f := 8) (by decide +kernel : decode (m_byt 27) 14 = .ok (.getfield 32, 3)) (by decide +kernel) (by decide +kernel) (by decide +kernel) h0 h1 ?_
  refine g_iload_n (k := 3) (x := x3) (by decide +kernel : decode (m_byt 27) 17 = .ok (.iload_n 3, 1)) rfl ?_
  exact g_inv (k := 1) (m' := 44) (np := 1) (as := [(2, ((q_rf K r0 8 : Nat) : Int)), (0, x3)]) (by decide +kernel : decode (m_byt 27) 18 = .ok (.invokevirtual 65, 3)) (Or.inl ⟨rfl, rfl⟩) (by decide +kernel) (by decide +kernel) (by decide +kernel) (Nat.le_of_ble_eq_true rfl) rfl (Or.inr (g_rcv (by decide +kernel) h2))
theorem b_27_21 {Z : mZ} {l0 l2 l4 : mV} {s0 x3 x1 : Int} {h : mH} : m_run Z (27, 21, [l0, (0, x1), l2, (0, x3), l4], [(0, s0)], h) = if w32 s0 = w32 x1 then m_run Z (27, 29, [l0, (0, x1), l2, (0, x3), (0, s0)], [], h) else m_run Z (27, 40, [l0, (0, x1), l2, (0, x3), (0, s0)], [], h) := by
  refine g_istore (k := 4) (by decide +kernel : decode (m_byt 27) 21 = .ok (.istore 4, 2)) (Nat.le_of_ble_eq_true rfl) ?_
  show m_run Z (27, 23, [l0, (0, x1), l2, (0, x3), (0, s0)], [], h) = _
  refine g_iload (k := 4) (x := s0) (by decide +kernel : decode (m_byt 27) 23 = .ok (.iload 4, 2)) rfl ?_
  refine g_iload_n (k := 1) (x := x1) (by decide +kernel : decode (m_byt 27) 25 = .ok (.iload_n 1, 1)) rfl ?_
  exact g_brn (t := 40) (off := 14) (by decide +kernel : decode (m_byt 27) 26 = .ok (.if_icmp .ne 14, 3)) rfl rfl (by decide)
theorem b_27_29 {Z : mZ} {l1 l2 l4 : mV} {x3 : Int} {r0 : Nat} {K : Nat → mK} {σ : Nat → Nat → Int} {n e s : Nat} (h0 : q_ob K n r0 1) : m_run Z (27, 29, [(2, ((r0 : Nat) : Int)), l1, l2, (0, x3), l4], [], (K, σ, n, e, s)) = (m_cl Z 28 [(2, ((r0 : Nat) : Int)), (0, x3)] (K, σ, n, e, s)).bind (m_aft (m_run Z) 27 31 [(2, ((r0 : Nat) : Int)), l1, l2, (0, x3), l4] []) := by
  refine g_aload_n (k := 0) (v := (2, ((r0 : Nat) : Int))) (by decide +kernel : decode (m_byt 27) 29 = .ok (.aload_n 0, 1)) rfl (Or.inl rfl) ?_
  refine g_iload_n (k := 3) (x := x3) (by decide +kernel : decode (m_byt 27) 30 = .ok (.iload_n 3, 1)) rfl ?_
  exact g_inv (k := 1) (m' := 28) (np := 1) (as := [(2, ((r0 : Nat) : Int)), (0, x3)]) (by decide +kernel : decode (m_byt 27) 31 = .ok (.invokevirtual 84, 3)) (Or.inl ⟨rfl, rfl⟩) (by decide +kernel) (by decide +kernel) (by decide +kernel) (Nat.le_of_ble_eq_true rfl) rfl (Or.inr (g_rcv (by decide +kernel) h0))
theorem b_27_34 {Z : mZ} {l0 l4 : mV} {x2 x1 x3 : Int} {h : mH} : m_run Z (27, 34, [l0, (0, x1), (0, x2), (0, x3), l4], [], h) = m_run Z (27, 9, [l0, (0, x1), (0, x2 + 1), (0, x3 + (-1)), l4], [], h) := by
  refine g_iinc (k := 2) (x := x2) (by decide +kernel : decode (m_byt 27) 34 = .ok (.iinc 2 1, 3)) rfl (Nat.le_of_ble_eq_true rfl) ?_
  show m_run Z (27, 37, [l0, (0, x1), (0, x2 + 1), (0, x3), l4], [], h) = _
  refine g_jmp (t := 58) (by decide +kernel : decode (m_byt 27) 37 = .ok (.goto 21, 3)) (by decide) ?_
  refine g_iinc (k := 3) (x := x3) (by decide +kernel : decode (m_byt 27) 58 = .ok (.iinc 3 (-1), 3)) rfl (Nat.le_of_ble_eq_true rfl) ?_
  show m_run Z (27, 61, [l0, (0, x1), (0, x2 + 1), (0, x3 + (-1)), l4], [], h) = _
  refine g_jmp (t := 9) (by decide +kernel : decode (m_byt 27) 61 = .ok (.goto (-52), 3)) (by decide) ?_
  rfl
theorem b_27_40 {Z : mZ} {l0 l2 l3 : mV} {x4 x1 : Int} {h : mH} : m_run Z (27, 40, [l0, (0, x1), l2, l3, (0, x4)], [], h) = if w32 x4 ≤ w32 x1 then m_run Z (27, 58, [l0, (0, x1), l2, l3, (0, x4)], [], h) else m_run Z (27, 46, [l0, (0, x1), l2, l3, (0, x4)], [], h) := by
  refine g_iload (k := 4) (x := x4) (by decide +kernel : decode (m_byt 27) 40 = .ok (.iload 4, 2)) rfl ?_
  refine g_iload_n (k := 1) (x := x1) (by decide +kernel : decode (m_byt 27) 42 = .ok (.iload_n 1, 1)) rfl ?_
  exact g_brq (t := 58) (off := 15) (by decide +kernel : decode (m_byt 27) 43 = .ok (.if_icmp .le 15, 3)) rfl rfl (by decide)
theorem b_27_46 {Z : mZ} {l1 l2 : mV} {x3 x4 : Int} {r0 : Nat} {K : Nat → mK} {σ : Nat → Nat → Int} {n e s : Nat} (h0 : q_ob K n r0 1) (h1 : q_rp K r0 8) (h2 : q_ob K n (q_rf K r0 8) 3) : m_run Z (27, 46, [(2, ((r0 : Nat) : Int)), l1, l2, (0, x3), (0, x4)], [], (K, σ, n, e, s)) = (m_cl Z 45 [(2, ((q_rf K r0 8 : Nat) : Int)), (0, x3), (0, (x4 - 1))] (K, σ, n, e, s)).bind (m_aft (m_run Z) 27 55 [(2, ((r0 : Nat) : Int)), l1, l2, (0, x3), (0, x4)] []) := by
  refine g_aload_n (k := 0) (v := (2, ((r0 : Nat) : Int))) (by decide +kernel : decode (m_byt 27) 46 = .ok (.aload_n 0, 1)) rfl (Or.inl rfl) ?_
  refine g_getr (ci := 1) (f := 8) (by decide +kernel : decode (m_byt 27) 47 = .ok (.getfield 32, 3)) (by decide +kernel) (by decide +kernel) (by decide +kernel) h0 h1 ?_
  refine g_iload_n (k := 3) (x := x3) (by decide +kernel : decode (m_byt 27) 50 = .ok (.iload_n 3, 1)) rfl ?_
  refine g_iload (k := 4) (x := x4) (by decide +kernel : decode (m_byt 27) 51 = .ok (.iload 4, 2)) rfl ?_
  refine g_base (by decide +kernel : decode (m_byt 27) 53 = .ok (.iconst 1, 1)) rfl rfl ?_
  show m_run Z (27, 54, [(2, ((r0 : Nat) : Int)), l1, l2, (0, x3), (0, x4)], [(0, 1), (0, x4), (0, x3), (2, ((q_rf K r0 8 : Nat) : Int))], (K, σ, n, e, s)) = _
  refine g_base (by decide +kernel : decode (m_byt 27) 54 = .ok (.isub, 1)) rfl rfl ?_
  show m_run Z (27, 55, [(2, ((r0 : Nat) : Int)), l1, l2, (0, x3), (0, x4)], [(0, (x4 - 1)), (0, x3), (2, ((q_rf K r0 8 : Nat) : Int))], (K, σ, n, e, s)) = _
  exact g_inv (k := 1) (m' := 45) (np := 2) (as := [(2, ((q_rf K r0 8 : Nat) : Int)), (0, x3), (0, (x4 - 1))]) (by decide +kernel : decode (m_byt 27) 55 = .ok (.invokevirtual 80, 3)) (Or.inl ⟨rfl, rfl⟩) (by decide +kernel) (by decide +kernel) (by decide +kernel) (Nat.le_of_ble_eq_true rfl) rfl (Or.inr (g_rcv (by decide +kernel) h2))
theorem b_27_58 {Z : mZ} {l0 l1 l4 : mV} {x3 x2 : Int} {h : mH} : m_run Z (27, 58, [l0, l1, (0, x2), (0, x3), l4], [], h) = m_run Z (27, 9, [l0, l1, (0, x2), (0, x3 + (-1)), l4], [], h) := by
  refine g_iinc (k := 3) (x := x3) (by decide +kernel : decode (m_byt 27) 58 = .ok (.iinc 3 (-1), 3)) rfl (Nat.le_of_ble_eq_true rfl) ?_
  show m_run Z (27, 61, [l0, l1, (0, x2), (0, x3 + (-1)), l4], [], h) = _
  refine g_jmp (t := 9) (by decide +kernel : decode (m_byt 27) 61 = .ok (.goto (-52), 3)) (by decide) ?_
  rfl
theorem b_27_64 {Z : mZ} {l2 l3 l4 : mV} {x1 : Int} {r0 : Nat} {K : Nat → mK} {σ : Nat → Nat → Int} {n e s : Nat} (h0 : q_ob K n r0 1) (h1 : q_rp K r0 5) (h2 : q_ob K n (q_rf K r0 5) 3) : m_run Z (27, 64, [(2, ((r0 : Nat) : Int)), (0, x1), l2, l3, l4], [], (K, σ, n, e, s)) = (m_cl Z 50 [(2, ((q_rf K r0 5 : Nat) : Int)), (0, x1)] (K, σ, n, e, s)).bind (m_aft (m_run Z) 27 69 [(2, ((r0 : Nat) : Int)), (0, x1), l2, l3, l4] []) := by
  refine g_aload_n (k := 0) (v := (2, ((r0 : Nat) : Int))) (by decide +kernel : decode (m_byt 27) 64 = .ok (.aload_n 0, 1)) rfl (Or.inl rfl) ?_
  refine g_getr (ci := 1) (f := 5) (by decide +kernel : decode (m_byt 27) 65 = .ok (.getfield 23, 3)) (by decide +kernel) (by decide +kernel) (by decide +kernel) h0 h1 ?_
  refine g_iload_n (k := 1) (x := x1) (by decide +kernel : decode (m_byt 27) 68 = .ok (.iload_n 1, 1)) rfl ?_
  exact g_inv (k := 1) (m' := 50) (np := 1) (as := [(2, ((q_rf K r0 5 : Nat) : Int)), (0, x1)]) (by decide +kernel : decode (m_byt 27) 69 = .ok (.invokevirtual 87, 3)) (Or.inl ⟨rfl, rfl⟩) (by decide +kernel) (by decide +kernel) (by decide +kernel) (Nat.le_of_ble_eq_true rfl) rfl (Or.inr (g_rcv (by decide +kernel) h2))
theorem b_27_72 {Z : mZ} {l2 l3 l4 : mV} {x1 : Int} {r0 : Nat} {K : Nat → mK} {σ : Nat → Nat → Int} {n e s : Nat} (h0 : q_ob K n r0 1) (h1 : q_rp K r0 6) (h2 : q_ob K n (q_rf K r0 6) 3) : m_run Z (27, 72, [(2, ((r0 : Nat) : Int)), (0, x1), l2, l3, l4], [], (K, σ, n, e, s)) = (m_cl Z 50 [(2, ((q_rf K r0 6 : Nat) : Int)), (0, x1)] (K, σ, n, e, s)).bind (m_aft (m_run Z) 27 77 [(2, ((r0 : Nat) : Int)), (0, x1), l2, l3, l4] []) := by
  refine g_aload_n (k := 0) (v := (2, ((r0 : Nat) : Int))) (by decide +kernel : decode (m_byt 27) 72 = .ok (.aload_n 0, 1)) rfl (Or.inl rfl) ?_
  refine g_getr (ci := 1) (f := 6) (by decide +kernel : decode (m_byt 27) 73 = .ok (.getfield 26, 3)) (by decide +kernel) (by decide +kernel) (by decide +kernel) h0 h1 ?_
  refine g_iload_n (k := 1) (x := x1) (by decide +kernel : decode (m_byt 27) 76 = .ok (.iload_n 1, 1)) rfl ?_
  exact g_inv (k := 1) (m' := 50) (np := 1) (as := [(2, ((q_rf K r0 6 : Nat) : Int)), (0, x1)]) (by decide +kernel : decode (m_byt 27) 77 = .ok (.invokevirtual 87, 3)) (Or.inl ⟨rfl, rfl⟩) (by decide +kernel) (by decide +kernel) (by decide +kernel) (Nat.le_of_ble_eq_true rfl) rfl (Or.inr (g_rcv (by decide +kernel) h2))
theorem b_27_80 {Z : mZ} {l2 l3 l4 : mV} {x1 : Int} {r0 : Nat} {K : Nat → mK} {σ : Nat → Nat → Int} {n e s : Nat} (h0 : q_ob K n r0 1) (h1 : q_rp K r0 7) (h2 : q_ob K n (q_rf K r0 7) 3) : m_run Z (27, 80, [(2, ((r0 : Nat) : Int)), (0, x1), l2, l3, l4], [], (K, σ, n, e, s)) = (m_cl Z 50 [(2, ((q_rf K r0 7 : Nat) : Int)), (0, x1)] (K, σ, n, e, s)).bind (m_aft (m_run Z) 27 85 [(2, ((r0 : Nat) : Int)), (0, x1), l2, l3, l4] []) := by
  refine g_aload_n (k := 0) (v := (2, ((r0 : Nat) : Int))) (by decide +kernel : decode (m_byt 27) 80 = .ok (.aload_n 0, 1)) rfl (Or.inl rfl) ?_
  refine g_getr (ci := 1) (f := 7) (by decide +kernel : decode (m_byt 27) 81 = .ok (.getfield 29, 3)) (by decide +kernel) (by decide +kernel) (by decide +kernel) h0 h1 ?_
  refine g_iload_n (k := 1) (x := x1) (by decide +kernel : decode (m_byt 27) 84 = .ok (.iload_n 1, 1)) rfl ?_
  exact g_inv (k := 1) (m' := 50) (np := 1) (as := [(2, ((q_rf K r0 7 : Nat) : Int)), (0, x1)]) (by decide +kernel : decode (m_byt 27) 85 = .ok (.invokevirtual 87, 3)) (Or.inl ⟨rfl, rfl⟩) (by decide +kernel) (by decide +kernel) (by decide +kernel) (Nat.le_of_ble_eq_true rfl) rfl (Or.inr (g_rcv (by decide +kernel) h2))
theorem b_27_88 {Z : mZ} {l1 l3 l4 : mV} {x2 : Int} {r0 : Nat} {K : Nat → mK} {σ : Nat → Nat → Int} {n e s : Nat} (h0 : q_ob K n r0 1) : m_run Z (27, 88, [(2, ((r0 : Nat) : Int)), l1, (0, x2), l3, l4], [], (K, σ, n, e, s)) = some (.inl (0, x2), (K, (m_up2 σ r0 1 ((σ r0 1) - 1)), n, e, s)) := by
  refine g_aload_n (k := 0) (v := (2, ((r0 : Nat) : Int))) (by decide +kernel : decode (m_byt 27) 88 = .ok (.aload_n 0, 1)) rfl (Or.inl rfl) ?_
  refine g_base (by decide +kernel : decode (m_byt 27) 89 = .ok (.dup, 1)) rfl rfl ?_
  show m_run Z (27, 90, [(2, ((r0 : Nat) : Int)), l1, (0, x2), l3, l4], [(2, ((r0 : Nat) : Int)), (2, ((r0 : Nat) : Int))], (K, σ, n, e, s)) = _
  refine g_getf (ci := 1) (f := 1) (by decide +kernel : decode (m_byt 27) 90 = .ok (.getfield 48, 3)) (by decide +kernel) (by decide +kernel) (by decide +kernel) h0 ?_
  refine g_base (by decide +kernel : decode (m_byt 27) 93 = .ok (.iconst 1, 1)) rfl rfl ?_
  show m_run Z (27, 94, [(2, ((r0 : Nat) : Int)), l1, (0, x2), l3, l4], [(0, 1), (0, (σ r0 1)), (2, ((r0 : Nat) : Int))], (K, σ, n, e, s)) = _
  refine g_base (by decide +kernel : decode (m_byt 27) 94 = .ok (.isub, 1)) rfl rfl ?_
  show m_run Z (27, 95, [(2, ((r0 : Nat) : Int)), l1, (0, x2), l3, l4], [(0, ((σ r0 1) - 1)), (2, ((r0 : Nat) : Int))], (K, σ, n, e, s)) = _
  refine g_putf (ci := 1) (f := 1) (by decide +kernel : decode (m_byt 27) 95 = .ok (.putfield 48, 3)) (by decide +kernel) (by decide +kernel) (by decide +kernel) h0 ?_
  show m_run Z (27, 98, [(2, ((r0 : Nat) : Int)), l1, (0, x2), l3, l4], [], (K, (m_up2 σ r0 1 ((σ r0 1) - 1)), n, e, s)) = _
  refine g_iload_n (k := 2) (x := x2) (by decide +kernel : decode (m_byt 27) 98 = .ok (.iload_n 2, 1)) rfl ?_
  exact g_iret (by decide +kernel : decode (m_byt 27) 99 = .ok (.ireturn, 1)) (by decide +kernel)
theorem e_28 {Z : mZ} {r0 : Nat} {x1 : Int} {h : mH} : m_cl Z 28 [(2, ((r0 : Nat) : Int)), (0, x1)] h = m_run Z (28, 0, [(2, ((r0 : Nat) : Int)), (0, x1)], [], h) := g_ent (k := 2) (by decide) (by decide +kernel) (Nat.le_of_ble_eq_true rfl) (by decide +kernel) rfl
theorem b_28_0 {Z : mZ} {x1 : Int} {r0 : Nat} {K : Nat → mK} {σ : Nat → Nat → Int} {n e s : Nat} (h0 : q_ob K n r0 1) (h1 : q_rp K r0 8) (h2 : q_ob K n (q_rf K r0 8) 3) : m_run Z (28, 0, [(2, ((r0 : Nat) : Int)), (0, x1)], [], (K, σ, n, e, s)) = (m_cl Z 50 [(2, ((q_rf K r0 8 : Nat) : Int)), (0, x1)] (K, σ, n, e, s)).bind (m_aft (m_run Z) 28 5 [(2, ((r0 : Nat) : Int)), (0, x1)] []) := by
  refine g_aload_n (k := 0) (v := (2, ((r0 : Nat) : Int))) (by decide +kernel : decode (m_byt 28) 0 = .ok (.aload_n 0, 1)) rfl (Or.inl rfl) ?_
  refine g_getr (ci := 1) (f := 8) (by decide +kernel : decode (m_byt 28) 1 = .ok (.getfield 32, 3)) (by decide +kernel) (by decide +kernel) (by decide +kernel) h0 h1 ?_
  refine g_iload_n (k := 1) (x := x1) (by decide +kernel : decode (m_byt 28) 4 = .ok (.iload_n 1, 1)) rfl ?_
  exact g_inv (k := 1) (m' := 50) (np := 1) (as := [(2, ((q_rf K r0 8 : Nat) : Int)), (0, x1)]) (by decide +kernel : decode (m_byt 28) 5 = .ok (.invokevirtual 87, 3)) (Or.inl ⟨rfl, rfl⟩) (by decide +kernel) (by decide +kernel) (by decide +kernel) (Nat.le_of_ble_eq_true rfl) rfl (Or.inr (g_rcv (by decide +kernel) h2))
theorem b_28_8 {Z : mZ} {x1 : Int} {r0 : Nat} {K : Nat → mK} {σ : Nat → Nat → Int} {n e s : Nat} (h0 : q_ob K n r0 1) (h1 : q_rp K r0 9) (h2 : q_ob K n (q_rf K r0 9) 3) : m_run Z (28, 8, [(2, ((r0 : Nat) : Int)), (0, x1)], [], (K, σ, n, e, s)) = (m_cl Z 50 [(2, ((q_rf K r0 9 : Nat) : Int)), (0, x1)] (K, σ, n, e, s)).bind (m_aft (m_run Z) 28 13 [(2, ((r0 : Nat) : Int)), (0, x1)] []) := by
  refine g_aload_n (k := 0) (v := (2, ((r0 : Nat) : Int))) (by decide +kernel : decode (m_byt 28) 8 = .ok (.aload_n 0, 1)) rfl (Or.inl rfl) ?_
  refine g_getr (ci := 1) (f := 9) (by decide +kernel : decode (m_byt 28) 9 = .ok (.getfield 35, 3)) (by decide +kernel) (by decide +kernel) (by decide +kernel) h0 h1 ?_
  refine g_iload_n (k := 1) (x := x1) (by decide +kernel : decode (m_byt 28) 12 = .ok (.iload_n 1, 1)) rfl ?_
  exact g_inv (k := 1) (m' := 50) (np := 1) (as := [(2, ((q_rf K r0 9 : Nat) : Int)), (0, x1)]) (by decide +kernel : decode (m_byt 28) 13 = .ok (.invokevirtual 87, 3)) (Or.inl ⟨rfl, rfl⟩) (by decide +kernel) (by decide +kernel) (by decide +kernel) (Nat.le_of_ble_eq_true rfl) rfl (Or.inr (g_rcv (by decide +kernel) h2))
theorem b_28_16 {Z : mZ} {x1 : Int} {r0 : Nat} {K : Nat → mK} {σ : Nat → Nat → Int} {n e s : Nat} (h0 : q_ob K n r0 1) (h1 : q_rp K r0 10) (h2 : q_ob K n (q_rf K r0 10) 3) : m_run Z (28, 16, [(2, ((r0 : Nat) : Int)), (0, x1)], [], (K, σ, n, e, s)) = (m_cl Z 50 [(2, ((q_rf K r0 10 : Nat) : Int)), (0, x1)] (K, σ, n, e, s)).bind (m_aft (m_run Z) 28 21 [(2, ((r0 : Nat) : Int)), (0, x1)] []) := by
  refine g_aload_n (k := 0) (v := (2, ((r0 : Nat) : Int))) (by decide +kernel : decode (m_byt 28) 16 = .ok (.aload_n 0, 1)) rfl (Or.inl rfl) ?_
  refine g_getr (ci := 1) (f := 10) (by decide +kernel : decode (m_byt 28) 17 = .ok (.getfield 38, 3)) (by decide +kernel) (by decide +kernel) (by decide +kernel) h0 h1 ?_
  refine g_iload_n (k := 1) (x := x1) (by decide +kernel : decode (m_byt 28) 20 = .ok (.iload_n 1, 1)) rfl ?_
  exact g_inv (k := 1) (m' := 50) (np := 1) (as := [(2, ((q_rf K r0 10 : Nat) : Int)), (0, x1)]) (by decide +kernel : decode (m_byt 28) 21 = .ok (.invokevirtual 87, 3)) (Or.inl ⟨rfl, rfl⟩) (by decide +kernel) (by decide +kernel) (by decide +kernel) (Nat.le_of_ble_eq_true rfl) rfl (Or.inr (g_rcv (by decide +kernel) h2))
theorem b_28_24 {Z : mZ} {l1 : mV} {r0 : Nat} {K : Nat → mK} {σ : Nat → Nat → Int} {n e s : Nat} (h0 : q_ob K n r0 1) : m_run Z (28, 24, [(2, ((r0 : Nat) : Int)), l1], [], (K, σ, n, e, s)) = some (.inl (9, 0), (K, (m_up2 σ r0 2 ((σ r0 2) - 1)), n, e, s)) := by
  refine g_aload_n (k := 0) (v := (2, ((r0 : Nat) : Int))) (by decide +kernel : decode (m_byt 28) 24 = .ok (.aload_n 0, 1)) rfl (Or.inl rfl) ?_
  refine g_base (by decide +kernel : decode (m_byt 28) 25 = .ok (.dup, 1)) rfl rfl ?_
  show m_run Z (28, 26, [(2, ((r0 : Nat) : Int)), l1], [(2, ((r0 : Nat) : Int)), (2, ((r0 : Nat) : Int))], (K, σ, n, e, s)) = _
  refine g_getf (ci := 1) (f := 2) (by decide +kernel : decode (m_byt 28) 26 = .ok (.getfield 51, 3)) (by decide +kernel) (by decide +kernel) (by decide +kernel) h0 ?_
  refine g_base (by decide +kernel : decode (m_byt 28) 29 = .ok (.iconst 1, 1)) rfl rfl ?_
  show m_run Z (28, 30, [(2, ((r0 : Nat) : Int)), l1], [(0, 1), (0, (σ r0 2)), (2, ((r0 : Nat) : Int))], (K, σ, n, e, s)) = _
  refine g_base (by decide +kernel : decode (m_byt 28) 30 = .ok (.isub, 1)) rfl rfl ?_
  show m_run Z (28, 31, [(2, ((r0 : Nat) : Int)), l1], [(0, ((σ r0 2) - 1)), (2, ((r0 : Nat) : Int))], (K, σ, n, e, s)) = _
  refine g_putf (ci := 1) (f := 2) (by decide +kernel : decode (m_byt 28) 31 = .ok (.putfield 51, 3)) (by decide +kernel) (by decide +kernel) (by decide +kernel) h0 ?_
  show m_run Z (28, 34, [(2, ((r0 : Nat) : Int)), l1], [], (K, (m_up2 σ r0 2 ((σ r0 2) - 1)), n, e, s)) = _
  exact g_vret (by decide +kernel : decode (m_byt 28) 34 = .ok (.return_, 1)) (by decide +kernel)
theorem e_29 {Z : mZ} {r0 : Nat} {x1 : Int} {x2 : Int} {h : mH} : m_cl Z 29 [(2, ((r0 : Nat) : Int)), (0, x1), (0, x2)] h = m_run Z (29, 0, [(2, ((r0 : Nat) : Int)), (0, x1), (0, x2)], [], h) := g_ent (k := 3) (by decide) (by decide +kernel) (Nat.le_of_ble_eq_true rfl) (by decide +kernel) rfl
theorem b_29_0 {Z : mZ} {l0 l1 : mV} {x2 : Int} {h : mH} : m_run Z (29, 0, [l0, l1, (0, x2)], [], h) = if w32 x2 = 0 then m_run Z (29, 28, [l0, l1, (0, x2)], [], h) else if w32 x2 = 1 then m_run Z (29, 37, [l0, l1, (0, x2)], [], h) else m_run Z (29, 46, [l0, l1, (0, x2)], [], h) := by
  refine g_iload_n (k := 2) (x := x2) (by decide +kernel : decode (m_byt 29) 0 = .ok (.iload_n 2, 1)) rfl ?_
  refine g_swl (f := fun x => if x = 0 then 28 else if x = 1 then 37 else 46) (by decide +kernel : decode (m_byt 29) 1 = .ok (.lookupswitch 45 #[(0, 27), (1, 36)], 27)) (by decide) (fun x => ?_) ?_
  · by_cases k0 : x = 0
    · subst k0; rfl
    by_cases k1 : x = 1
    · subst k1; rfl
    show ((1 : Nat) : Int) + (if (0 : Int) = x then 27 else if (1 : Int) = x then 36 else 45) = _
    rw [if_neg (fun q => k0 q.symm), if_neg (fun q => k1 q.symm)]
    show _ = (((if x = 0 then 28 else if x = 1 then 37 else 46 : Nat)) : Int)
    rw [if_neg k0, if_neg k1]
    rfl
  · generalize w32 x2 = x
    by_cases k0 : x = 0
    · subst k0; rfl
    by_cases k1 : x = 1
    · subst k1; rfl
    show m_run Z (29, (if x = 0 then 28 else if x = 1 then 37 else 46), [l0, l1, (0, x2)], [], h) = _
    rw [if_neg k0, if_neg k1, if_neg k0, if_neg k1]
theorem b_29_28 {Z : mZ} {l2 : mV} {x1 : Int} {r0 : Nat} {K : Nat → mK} {σ : Nat → Nat → Int} {n e s : Nat} (h0 : q_ob K n r0 1) (h1 : q_rp K r0 5) (h2 : q_ob K n (q_rf K r0 5) 3) : m_run Z (29, 28, [(2, ((r0 : Nat) : Int)), (0, x1), l2], [], (K, σ, n, e, s)) = (m_cl Z 44 [(2, ((q_rf K r0 5 : Nat) : Int)), (0, x1)] (K, σ, n, e, s)).bind (m_aft (m_run Z) 29 33 [(2, ((r0 : Nat) : Int)), (0, x1), l2] []) := by
  refine g_aload_n (k := 0) (v := (2, ((r0 : Nat) : Int))) (by decide +kernel : decode (m_byt 29) 28 = .ok (.aload_n 0, 1)) rfl (Or.inl rfl) ?_
  refine g_getr (ci := 1) (f := 5) (by decide +kernel : decode (m_byt 29) 29 = .ok (.getfield 23, 3)) (by decide +kernel) (by decide +kernel) (by decide +kernel) h0 h1 ?_
  refine g_iload_n (k := 1) (x := x1) (by decide +kernel : decode (m_byt 29) 32 = .ok (.iload_n 1, 1)) rfl ?_
  exact g_inv (k := 1) (m' := 44) (np := 1) (as := [(2, ((q_rf K r0 5 : Nat) : Int)), (0, x1)]) (by decide +kernel : decode (m_byt 29) 33 = .ok (.invokevirtual 65, 3)) (Or.inl ⟨rfl, rfl⟩) (by decide +kernel) (by decide +kernel) (by decide +kernel) (Nat.le_of_ble_eq_true rfl) rfl (Or.inr (g_rcv (by decide +kernel) h2))
theorem b_29_36 {Z : mZ} {l0 l1 l2 : mV} {s0 : Int} {h : mH} : m_run Z (29, 36, [l0, l1, l2], [(0, s0)], h) = some (.inl (0, s0), h) := by
  exact g_iret (by decide +kernel : decode (m_byt 29) 36 = .ok (.ireturn, 1)) (by decide +kernel)
theorem b_29_37 {Z : mZ} {l2 : mV} {x1 : Int} {r0 : Nat} {K : Nat → mK} {σ : Nat → Nat → Int} {n e s : Nat} (h0 : q_ob K n r0 1) (h1 : q_rp K r0 6) (h2 : q_ob K n (q_rf K r0 6) 3) : m_run Z (29, 37, [(2, ((r0 : Nat) : Int)), (0, x1), l2], [], (K, σ, n, e, s)) = (m_cl Z 44 [(2, ((q_rf K r0 6 : Nat) : Int)), (0, x1)] (K, σ, n, e, s)).bind (m_aft (m_run Z) 29 42 [(2, ((r0 : Nat) : Int)), (0, x1), l2] []) := by
  refine g_aload_n (k := 0) (v := (2, ((r0 : Nat) : Int))) (by decide +kernel : decode (m_byt 29) 37 = .ok (.aload_n 0, 1)) rfl (Or.inl rfl) ?_
  refine g_getr (ci := 1) (f := 6) (by decide +kernel : decode (m_byt 29) 38 = .ok (.getfield 26, 3)) (by decide +kernel) (by decide +kernel) (by decide +kernel) h0 h1 ?_
  refine g_iload_n (k := 1) (x := x1) (by decide +kernel : decode (m_byt 29) 41 = .ok (.iload_n 1, 1)) rfl ?_
  exact g_inv (k := 1) (m' := 44) (np := 1) (as := [(2, ((q_rf K r0 6 : Nat) : Int)), (0, x1)]) (by decide +kernel : decode (m_byt 29) 42 = .ok (.invokevirtual 65, 3)) (Or.inl ⟨rfl, rfl⟩) (by decide +kernel) (by decide +kernel) (by decide +kernel) (Nat.le_of_ble_eq_true rfl) rfl (Or.inr (g_rcv (by decide +kernel) h2))
theorem b_29_45 {Z : mZ} {l0 l1 l2 : mV} {s0 : Int} {h : mH} : m_run Z (29, 45, [l0, l1, l2], [(0, s0)], h) = some (.inl (0, s0), h) := by
  exact g_iret (by decide +kernel : decode (m_byt 29) 45 = .ok (.ireturn, 1)) (by decide +kernel)
theorem b_29_46 {Z : mZ} {l2 : mV} {x1 : Int} {r0 : Nat} {K : Nat → mK} {σ : Nat → Nat → Int} {n e s : Nat} (h0 : q_ob K n r0 1) (h1 : q_rp K r0 7) (h2 : q_ob K n (q_rf K r0 7) 3) : m_run Z (29, 46, [(2, ((r0 : Nat) : Int)), (0, x1), l2], [], (K, σ, n, e, s)) = (m_cl Z 44 [(2, ((q_rf K r0 7 : Nat) : Int)), (0, x1)] (K, σ, n, e, s)).bind (m_aft (m_run Z) 29 51 [(2, ((r0 : Nat) : Int)), (0, x1), l2] []) := by
  refine g_aload_n (k := 0) (v := (2, ((r0 : Nat) : Int))) (by decide +kernel : decode (m_byt 29) 46 = .ok (.aload_n 0, 1)) rfl (Or.inl rfl) ?_
  refine g_getr (ci := 1) (f := 7) (by decide +kernel : decode (m_byt 29) 47 = .ok (.getfield 29, 3)) (by decide +kernel) (by decide +kernel) (by decide +kernel) h0 h1 ?_
  refine g_iload_n (k := 1) (x := x1) (by decide +kernel : decode (m_byt 29) 50 = .ok (.iload_n 1, 1)) rfl ?_
  exact g_inv (k := 1) (m' := 44) (np := 1) (as := [(2, ((q_rf K r0 7 : Nat) : Int)), (0, x1)]) (by decide +kernel : decode (m_byt 29) 51 = .ok (.invokevirtual 65, 3)) (Or.inl ⟨rfl, rfl⟩) (by decide +kernel) (by decide +kernel) (by decide +kernel) (Nat.le_of_ble_eq_true rfl) rfl (Or.inr (g_rcv (by decide +kernel) h2))
theorem b_29_54 {Z : mZ} {l0 l1 l2 : mV} {s0 : Int} {h : mH} : m_run Z (29, 54, [l0, l1, l2], [(0, s0)], h) = some (.inl (0, s0), h) := by
  exact g_iret (by decide +kernel : decode (m_byt 29) 54 = .ok (.ireturn, 1)) (by decide +kernel)
theorem e_30 {Z : mZ} {r0 : Nat} {x1 : Int} {x2 : Int} {h : mH} : m_cl Z 30 [(2, ((r0 : Nat) : Int)), (0, x1), (0, x2)] h = m_run Z (30, 0, [(2, ((r0 : Nat) : Int)), (0, x1), (0, x2)], [], h) := g_ent (k := 3) (by decide) (by decide +kernel) (Nat.le_of_ble_eq_true rfl) (by decide +kernel) rfl
theorem b_30_0 {Z : mZ} {l0 l1 : mV} {x2 : Int} {h : mH} : m_run Z (30, 0, [l0, l1, (0, x2)], [], h) = if w32 x2 = 0 then m_run Z (30, 28, [l0, l1, (0, x2)], [], h) else if w32 x2 = 1 then m_run Z (30, 37, [l0, l1, (0, x2)], [], h) else m_run Z (30, 46, [l0, l1, (0, x2)], [], h) := by
  refine g_iload_n (k := 2) (x := x2) (by decide +kernel : decode (m_byt 30) 0 = .ok (.iload_n 2, 1)) rfl ?_
  refine g_swl (f := fun x => if x = 0 then 28 else if x = 1 then 37 else 46) (by decide +kernel : decode (m_byt 30) 1 = .ok (.lookupswitch 45 #[(0, 27), (1, 36)], 27)) (by decide) (fun x => ?_) ?_
  · by_cases k0 : x = 0
    · subst k0; rfl
    by_cases k1 : x = 1
    · subst k1; rfl
    show ((1 : Nat) : Int) + (if (0 : Int) = x then 27 else if (1 : Int) = x then 36 else 45) = _
    rw [if_neg (fun q => k0 q.symm), if_neg (fun q => k1 q.symm)]
    show _ = (((if x = 0 then 28 else if x = 1 then 37 else 46 : Nat)) : Int)
    rw [if_neg k0, if_neg k1]
    rfl
  · generalize w32 x2 = x
    by_cases k0 : x = 0
    · subst k0; rfl
    by_cases k1 : x = 1
    · subst k1; rfl
    show m_run Z (30, (if x = 0 then 28 else if x = 1 then 37 else 46), [l0, l1, (0, x2)], [], h) = _
    rw [if_neg k0, if_neg k1, if_neg k0, if_neg k1]
theorem b_30_28 {Z : mZ} {l2 : mV} {x1 : Int} {r0 : Nat} {K : Nat → mK} {σ : Nat → Nat → Int} {n e s : Nat} (h0 : q_ob K n r0 1) (h1 : q_rp K r0 3) (h2 : q_ob K n (q_rf K r0 3) 3) : m_run Z (30, 28, [(2, ((r0 : Nat) : Int)), (0, x1), l2], [], (K, σ, n, e, s)) = (m_cl Z 44 [(2, ((q_rf K r0 3 : Nat) : Int)), (0, x1)] (K, σ, n, e, s)).bind (m_aft (m_run Z) 30 33 [(2, ((r0 : Nat) : Int)), (0, x1), l2] []) := by
  refine g_aload_n (k := 0) (v := (2, ((r0 : Nat) : Int))) (by decide +kernel : decode (m_byt 30) 28 = .ok (.aload_n 0, 1)) rfl (Or.inl rfl) ?_
  refine g_getr (ci := 1) (f := 3) (by decide +kernel : decode (m_byt 30) 29 = .ok (.getfield 14, 3)) (by decide +kernel) (by decide +kernel) (by decide +kernel) h0 h1 ?_
  refine g_iload_n (k := 1) (x := x1) (by decide +kernel : decode (m_byt 30) 32 = .ok (.iload_n 1, 1)) rfl ?_
  exact g_inv (k := 1) (m' := 44) (np := 1) (as := [(2, ((q_rf K r0 3 : Nat) : Int)), (0, x1)]) (by decide +kernel : decode (m_byt 30) 33 = .ok (.invokevirtual 65, 3)) (Or.inl ⟨rfl, rfl⟩) (by decide +kernel) (by decide +kernel) (by decide +kernel) (Nat.le_of_ble_eq_true rfl) rfl (Or.inr (g_rcv (by decide +kernel) h2))
theorem b_30_36 {Z : mZ} {l0 l1 l2 : mV} {s0 : Int} {h : mH} : m_run Z (30, 36, [l0, l1, l2], [(0, s0)], h) = some (.inl (0, s0), h) := by
  exact g_iret (by decide +kernel : decode (m_byt 30) 36 = .ok (.ireturn, 1)) (by decide +kernel)
theorem b_30_37 {Z : mZ} {l2 : mV} {x1 : Int} {r0 : Nat} {K : Nat → mK} {σ : Nat → Nat → Int} {n e s : Nat} (h0 : q_ob K n r0 1) (h1 : q_rp K r0 4) (h2 : q_ob K n (q_rf K r0 4) 3) : m_run Z (30, 37, [(2, ((r0 : Nat) : Int)), (0, x1), l2], [], (K, σ, n, e, s)) = (m_cl Z 44 [(2, ((q_rf K r0 4 : Nat) : Int)), (0, x1)] (K, σ, n, e, s)).bind (m_aft (m_run Z) 30 42 [(2, ((r0 : Nat) : Int)), (0, x1), l2] []) := by
  refine g_aload_n (k := 0) (v := (2, ((r0 : Nat) : Int))) (by decide +kernel : decode (m_byt 30) 37 = .ok (.aload_n 0, 1)) rfl (Or.inl rfl) ?_
  refine g_getr (ci := 1) (f := 4) (by decide +kernel : decode (m_byt 30) 38 = .ok (.getfield 20, 3)) (by decide +kernel) (by decide +kernel) (by decide +kernel) h0 h1 ?_
  refine g_iload_n (k := 1) (x := x1) (by decide +kernel : decode (m_byt 30) 41 = .ok (.iload_n 1, 1)) rfl ?_
  exact g_inv (k := 1) (m' := 44) (np := 1) (as := [(2, ((q_rf K r0 4 : Nat) : Int)), (0, x1)]) (by decide +kernel : decode (m_byt 30) 42 = .ok (.invokevirtual 65, 3)) (Or.inl ⟨rfl, rfl⟩) (by decide +kernel) (by decide +kernel) (by decide +kernel) (Nat.le_of_ble_eq_true rfl) rfl (Or.inr (g_rcv (by decide +kernel) h2))
theorem b_30_45 {Z : mZ} {l0 l1 l2 : mV} {s0 : Int} {h : mH} : m_run Z (30, 45, [l0, l1, l2], [(0, s0)], h) = some (.inl (0, s0), h) := by
  exact g_iret (by decide +kernel : decode (m_byt 30) 45 = .ok (.ireturn, 1)) (by decide +kernel)
theorem b_30_46 {Z : mZ} {l2 : mV} {x1 : Int} {r0 : Nat} {K : Nat → mK} {σ : Nat → Nat → Int} {n e s : Nat} (h0 : q_ob K n r0 1) : m_run Z (30, 46, [(2, ((r0 : Nat) : Int)), (0, x1), l2], [], (K, σ, n, e, s)) = (m_cl Z 31 [(2, ((r0 : Nat) : Int)), (0, x1)] (K, σ, n, e, s)).bind (m_aft (m_run Z) 30 48 [(2, ((r0 : Nat) : Int)), (0, x1), l2] []) := by
  refine g_aload_n (k := 0) (v := (2, ((r0 : Nat) : Int))) (by decide +kernel : decode (m_byt 30) 46 = .ok (.aload_n 0, 1)) rfl (Or.inl rfl) ?_
  refine g_iload_n (k := 1) (x := x1) (by decide +kernel : decode (m_byt 30) 47 = .ok (.iload_n 1, 1)) rfl ?_
  exact g_inv (k := 1) (m' := 31) (np := 1) (as := [(2, ((r0 : Nat) : Int)), (0, x1)]) (by decide +kernel : decode (m_byt 30) 48 = .ok (.invokevirtual 90, 3)) (Or.inl ⟨rfl, rfl⟩) (by decide +kernel) (by decide +kernel) (by decide +kernel) (Nat.le_of_ble_eq_true rfl) rfl (Or.inr (g_rcv (by decide +kernel) h0))
theorem b_30_51 {Z : mZ} {l0 l1 l2 : mV} {s0 : Int} {h : mH} : m_run Z (30, 51, [l0, l1, l2], [(0, s0)], h) = some (.inl (0, s0), h) := by
  exact g_iret (by decide +kernel : decode (m_byt 30) 51 = .ok (.ireturn, 1)) (by decide +kernel)
theorem e_31 {Z : mZ} {r0 : Nat} {x1 : Int} {h : mH} : m_cl Z 31 [(2, ((r0 : Nat) : Int)), (0, x1)] h = m_run Z (31, 0, [(2, ((r0 : Nat) : Int)), (0, x1), (9, 0), (9, 0)], [], h) := g_ent (k := 4) (by decide) (by decide +kernel) (Nat.le_of_ble_eq_true rfl) (by decide +kernel) rfl
theorem b_31_0 {Z : mZ} {l0 l2 l3 : mV} {x1 : Int} {h : mH} : m_run Z (31, 0, [l0, (0, x1), l2, l3], [], h) = m_run Z (31, 4, [l0, (0, x1), (0, 0), (0, 0)], [], h) := by
  refine g_base (by decide +kernel : decode (m_byt 31) 0 = .ok (.iconst 0, 1)) rfl rfl ?_
  show m_run Z (31, 1, [l0, (0, x1), l2, l3], [(0, 0)], h) = _
  refine g_istore_n (k := 2) (by decide +kernel : decode (m_byt 31) 1 = .ok (.istore_n 2, 1)) (Nat.le_of_ble_eq_true rfl) ?_
  show m_run Z (31, 2, [l0, (0, x1), (0, 0), l3], [], h) = _
  refine g_base (by decide +kernel : decode (m_byt 31) 2 = .ok (.iconst 0, 1)) rfl rfl ?_
  show m_run Z (31, 3, [l0, (0, x1), (0, 0), l3], [(0, 0)], h) = _
  refine g_istore_n (k := 3) (by decide +kernel : decode (m_byt 31) 3 = .ok (.istore_n 3, 1)) (Nat.le_of_ble_eq_true rfl) ?_
  show m_run Z (31, 4, [l0, (0, x1), (0, 0), (0, 0)], [], h) = _
  rfl
theorem b_31_4 {Z : mZ} {l1 l2 : mV} {x3 : Int} {r0 : Nat} {K : Nat → mK} {σ : Nat → Nat → Int} {n e s : Nat} (h0 : q_ob K n r0 1) : m_run Z (31, 4, [(2, ((r0 : Nat) : Int)), l1, l2, (0, x3)], [], (K, σ, n, e, s)) = if w32 (σ r0 1) ≤ w32 x3 then m_run Z (31, 45, [(2, ((r0 : Nat) : Int)), l1, l2, (0, x3)], [], (K, σ, n, e, s)) else m_run Z (31, 12, [(2, ((r0 : Nat) : Int)), l1, l2, (0, x3)], [], (K, σ, n, e, s)) := by
  refine g_iload_n (k := 3) (x := x3) (by decide +kernel : decode (m_byt 31) 4 = .ok (.iload_n 3, 1)) rfl ?_
  refine g_aload_n (k := 0) (v := (2, ((r0 : Nat) : Int))) (by decide +kernel : decode (m_byt 31) 5 = .ok (.aload_n 0, 1)) rfl (Or.inl rfl) ?_
  refine g_getf (ci := 1) (f := 1) (by decide +kernel : decode (m_byt 31) 6 = .ok (.getfield 48, 3)) (by decide +kernel) (by decide +kernel) (by decide +kernel) h0 ?_
  exact g_brq (t := 45) (off := 36) (by decide +kernel : decode (m_byt 31) 9 = .ok (.if_icmp .ge 36, 3)) rfl rfl (by decide)
theorem b_31_12 {Z : mZ} {l1 l2 : mV} {x3 : Int} {r0 : Nat} {K : Nat → mK} {σ : Nat → Nat → Int} {n e s : Nat} (h0 : q_ob K n r0 1) (h1 : q_rp K r0 5) (h2 : q_ob K n (q_rf K r0 5) 3) : m_run Z (31, 12, [(2, ((r0 : Nat) : Int)), l1, l2, (0, x3)], [], (K, σ, n, e, s)) = (m_cl Z 44 [(2, ((q_rf K r0 5 : Nat) : Int)), (0, x3)] (K, σ, n, e, s)).bind (m_aft (m_run Z) 31 17 [(2, ((r0 : Nat) : Int)), l1, l2, (0, x3)] []) := by
  refine g_aload_n (k := 0) (v := (2, ((r0 : Nat) : Int))) (by decide +kernel : decode (m_byt 31) 12 = .ok (.aload_n 0, 1)) rfl (Or.inl rfl) ?_
  refine g_getr (ci := 1) (f := 5) (by decide +kernel : decode (m_byt 31) 13 = .ok (.getfield 23, 3)) (by decide +kernel) (by decide +kernel) (by decide +kernel) h0 h1 ?_
  refine g_iload_n (k := 3) (x := x3) (by decide +kernel : decode (m_byt 31) 16 = .ok (.iload_n 3, 1)) rfl ?_
  exact g_inv (k := 1) (m' := 44) (np := 1) (as := [(2, ((q_rf K r0 5 : Nat) : Int)), (0, x3)]) (by decide +kernel : decode (m_byt 31) 17 = .ok (.invokevirtual 65, 3)) (Or.inl ⟨rfl, rfl⟩) (by decide +kernel) (by decide +kernel) (by decide +kernel) (Nat.le_of_ble_eq_true rfl) rfl (Or.inr (g_rcv (by decide +kernel) h2))
theorem b_31_20 {Z : mZ} {l0 l2 l3 : mV} {s0 x1 : Int} {h : mH} : m_run Z (31, 20, [l0, (0, x1), l2, l3], [(0, s0)], h) = if w32 s0 = w32 x1 then m_run Z (31, 36, [l0, (0, x1), l2, l3], [], h) else m_run Z (31, 24, [l0, (0, x1), l2, l3], [], h) := by
  refine g_iload_n (k := 1) (x := x1) (by decide +kernel : decode (m_byt 31) 20 = .ok (.iload_n 1, 1)) rfl ?_
  exact g_brq (t := 36) (off := 15) (by decide +kernel : decode (m_byt 31) 21 = .ok (.if_icmp .eq 15, 3)) rfl rfl (by decide)
theorem b_31_24 {Z : mZ} {l1 l2 : mV} {x3 : Int} {r0 : Nat} {K : Nat → mK} {σ : Nat → Nat → Int} {n e s : Nat} (h0 : q_ob K n r0 1) (h1 : q_rp K r0 6) (h2 : q_ob K n (q_rf K r0 6) 3) : m_run Z (31, 24, [(2, ((r0 : Nat) : Int)), l1, l2, (0, x3)], [], (K, σ, n, e, s)) = (m_cl Z 44 [(2, ((q_rf K r0 6 : Nat) : Int)), (0, x3)] (K, σ, n, e, s)).bind (m_aft (m_run Z) 31 29 [(2, ((r0 : Nat) : Int)), l1, l2, (0, x3)] []) := by
  refine g_aload_n (k := 0) (v := (2, ((r0 : Nat) : Int))) (by decide +kernel : decode (m_byt 31) 24 = .ok (.aload_n 0, 1)) rfl (Or.inl rfl) ?_
  refine g_getr (ci := 1) (f := 6) (by decide +kernel : decode (m_byt 31) 25 = .ok (.getfield 26, 3)) (by decide +kernel) (by decide +kernel) (by decide +kernel) h0 h1 ?_
  refine g_iload_n (k := 3) (x := x3) (by decide +kernel : decode (m_byt 31) 28 = .ok (.iload_n 3, 1)) rfl ?_
  exact g_inv (k := 1) (m' := 44) (np := 1) (as := [(2, ((q_rf K r0 6 : Nat) : Int)), (0, x3)]) (by decide +kernel : decode (m_byt 31) 29 = .ok (.invokevirtual 65, 3)) (Or.inl ⟨rfl, rfl⟩) (by decide +kernel) (by decide +kernel) (by decide +kernel) (Nat.le_of_ble_eq_true rfl) rfl (Or.inr (g_rcv (by decide +kernel) h2))
theorem b_31_32 {Z : mZ} {l0 l2 l3 : mV} {s0 x1 : Int} {h : mH} : m_run Z (31, 32, [l0, (0, x1), l2, l3], [(0, s0)], h) = if w32 s0 = w32 x1 then m_run Z (31, 36, [l0, (0, x1), l2, l3], [], h) else m_run Z (31, 39, [l0, (0, x1), l2, l3], [], h) := by
  refine g_iload_n (k := 1) (x := x1) (by decide +kernel : decode (m_byt 31) 32 = .ok (.iload_n 1, 1)) rfl ?_
  exact g_brn (t := 39) (off := 6) (by decide +kernel : decode (m_byt 31) 33 = .ok (.if_icmp .ne 6, 3)) rfl rfl (by decide)
theorem b_31_36 {Z : mZ} {l0 l3 : mV} {x2 x1 : Int} {h : mH} : m_run Z (31, 36, [l0, (0, x1), (0, x2), l3], [], h) = m_run Z (31, 39, [l0, (0, x1), (0, x2 + 1), l3], [], h) := by
  refine g_iinc (k := 2) (x := x2) (by decide +kernel : decode (m_byt 31) 36 = .ok (.iinc 2 1, 3)) rfl (Nat.le_of_ble_eq_true rfl) ?_
  show m_run Z (31, 39, [l0, (0, x1), (0, x2 + 1), l3], [], h) = _
  rfl
theorem b_31_39 {Z : mZ} {l0 l1 : mV} {x3 x2 : Int} {h : mH} : m_run Z (31, 39, [l0, l1, (0, x2), (0, x3)], [], h) = m_run Z (31, 4, [l0, l1, (0, x2), (0, x3 + 1)], [], h) := by
  refine g_iinc (k := 3) (x := x3) (by decide +kernel : decode (m_byt 31) 39 = .ok (.iinc 3 1, 3)) rfl (Nat.le_of_ble_eq_true rfl) ?_
  show m_run Z (31, 42, [l0, l1, (0, x2), (0, x3 + 1)], [], h) = _
  refine g_jmp (t := 4) (by decide +kernel : decode (m_byt 31) 42 = .ok (.goto (-38), 3)) (by decide) ?_
  rfl
theorem b_31_45 {Z : mZ} {l0 l1 l3 : mV} {x2 : Int} {h : mH} : m_run Z (31, 45, [l0, l1, (0, x2), l3], [], h) = some (.inl (0, x2), h) := by
  refine g_iload_n (k := 2) (x := x2) (by decide +kernel : decode (m_byt 31) 45 = .ok (.iload_n 2, 1)) rfl ?_
  exact g_iret (by decide +kernel : decode (m_byt 31) 46 = .ok (.ireturn, 1)) (by decide +kernel)
theorem e_32 {Z : mZ} {r0 : Nat} {x1 : Int} {x2 : Int} {h : mH} : m_cl Z 32 [(2, ((r0 : Nat) : Int)), (0, x1), (0, x2)] h = m_run Z (32, 0, [(2, ((r0 : Nat) : Int)), (0, x1), (0, x2)], [], h) := g_ent (k := 3) (by decide) (by decide +kernel) (Nat.le_of_ble_eq_true rfl) (by decide +kernel) rfl
theorem b_32_0 {Z : mZ} {l0 l1 : mV} {x2 : Int} {h : mH} : m_run Z (32, 0, [l0, l1, (0, x2)], [], h) = if w32 x2 = 0 then m_run Z (32, 28, [l0, l1, (0, x2)], [], h) else if w32 x2 = 1 then m_run Z (32, 37, [l0, l1, (0, x2)], [], h) else m_run Z (32, 46, [l0, l1, (0, x2)], [], h) := by
  refine g_iload_n (k := 2) (x := x2) (by decide +kernel : decode (m_byt 32) 0 = .ok (.iload_n 2, 1)) rfl ?_
  refine g_swl (f := fun x => if x = 0 then 28 else if x = 1 then 37 else 46) (by decide +kernel : decode (m_byt 32) 1 = .ok (.lookupswitch 45 #[(0, 27), (1, 36)], 27)) (by decide) (fun x => ?_) ?_
  · by_cases k0 : x = 0
    · subst k0; rfl
    by_cases k1 : x = 1
    · subst k1; rfl
    show ((1 : Nat) : Int) + (if (0 : Int) = x then 27 else if (1 : Int) = x then 36 else 45) = _
    rw [if_neg (fun q => k0 q.symm), if_neg (fun q => k1 q.symm)]
    show _ = (((if x = 0 then 28 else if x = 1 then 37 else 46 : Nat)) : Int)
    rw [if_neg k0, if_neg k1]
    rfl
  · generalize w32 x2 = x
    by_cases k0 : x = 0
    · subst k0; rfl
    by_cases k1 : x = 1
    · subst k1; rfl
    show m_run Z (32, (if x = 0 then 28 else if x = 1 then 37 else 46), [l0, l1, (0, x2)], [], h) = _
    rw [if_neg k0, if_neg k1, if_neg k0, if_neg k1]
theorem b_32_28 {Z : mZ} {l2 : mV} {x1 : Int} {r0 : Nat} {K : Nat → mK} {σ : Nat → Nat → Int} {n e s : Nat} (h0 : q_ob K n r0 1) (h1 : q_rp K r0 8) (h2 : q_ob K n (q_rf K r0 8) 3) : m_run Z (32, 28, [(2, ((r0 : Nat) : Int)), (0, x1), l2], [], (K, σ, n, e, s)) = (m_cl Z 44 [(2, ((q_rf K r0 8 : Nat) : Int)), (0, x1)] (K, σ, n, e, s)).bind (m_aft (m_run Z) 32 33 [(2, ((r0 : Nat) : Int)), (0, x1), l2] []) := by
  refine g_aload_n (k := 0) (v := (2, ((r0 : Nat) : Int))) (by decide +kernel : decode (m_byt 32) 28 = .ok (.aload_n 0, 1)) rfl (Or.inl rfl) ?_
  refine g_getr (ci := 1) (f := 8) (by decide +kernel : decode (m_byt 32) 29 = .ok (.getfield 32, 3)) (by decide +kernel) (by decide +kernel) (by decide +kernel) h0 h1 ?_
  refine g_iload_n (k := 1) (x := x1) (by decide +kernel : decode (m_byt 32) 32 = .ok (.iload_n 1, 1)) rfl ?_
  exact g_inv (k := 1) (m' := 44) (np := 1) (as := [(2, ((q_rf K r0 8 : Nat) : Int)), (0, x1)]) (by decide +kernel : decode (m_byt 32) 33 = .ok (.invokevirtual 65, 3)) (Or.inl ⟨rfl, rfl⟩) (by decide +kernel) (by decide +kernel) (by decide +kernel) (Nat.le_of_ble_eq_true rfl) rfl (Or.inr (g_rcv (by decide +kernel) h2))
theorem b_32_36 {Z : mZ} {l0 l1 l2 : mV} {s0 : Int} {h : mH} : m_run Z (32, 36, [l0, l1, l2], [(0, s0)], h) = some (.inl (0, s0), h) := by
  exact g_iret (by decide +kernel : decode (m_byt 32) 36 = .ok (.ireturn, 1)) (by decide +kernel)
theorem b_32_37 {Z : mZ} {l2 : mV} {x1 : Int} {r0 : Nat} {K : Nat → mK} {σ : Nat → Nat → Int} {n e s : Nat} (h0 : q_ob K n r0 1) (h1 : q_rp K r0 9) (h2 : q_ob K n (q_rf K r0 9) 3) : m_run Z (32, 37, [(2, ((r0 : Nat) : Int)), (0, x1), l2], [], (K, σ, n, e, s)) = (m_cl Z 44 [(2, ((q_rf K r0 9 : Nat) : Int)), (0, x1)] (K, σ, n, e, s)).bind (m_aft (m_run Z) 32 42 [(2, ((r0 : Nat) : Int)), (0, x1), l2] []) := by
  refine g_aload_n (k := 0) (v := (2, ((r0 : Nat) : Int))) (by decide +kernel : decode (m_byt 32) 37 = .ok (.aload_n 0, 1)) rfl (Or.inl rfl) ?_
  refine g_getr (ci := 1) (f := 9) (by decide +kernel : decode (m_byt 32) 38 = .ok (.getfield 35, 3)) (by decide +kernel) (by decide +kernel) (by decide +kernel) h0 h1 ?_
  refine g_iload_n (k := 1) (x := x1) (by decide +kernel : decode (m_byt 32) 41 = .ok (.iload_n 1, 1)) rfl ?_
  exact g_inv (k := 1) (m' := 44) (np := 1) (as := [(2, ((q_rf K r0 9 : Nat) : Int)), (0, x1)]) (by decide +kernel : decode (m_byt 32) 42 = .ok (.invokevirtual 65, 3)) (Or.inl ⟨rfl, rfl⟩) (by decide +kernel) (by decide +kernel) (by decide +kernel) (Nat.le_of_ble_eq_true rfl) rfl (Or.inr (g_rcv (by decide +kernel) h2))
theorem b_32_45 {Z : mZ} {l0 l1 l2 : mV} {s0 : Int} {h : mH} : m_run Z (32, 45, [l0, l1, l2], [(0, s0)], h) = some (.inl (0, s0), h) := by
  exact g_iret (by decide +kernel : decode (m_byt 32) 45 = .ok (.ireturn, 1)) (by decide +kernel)
theorem b_32_46 {Z : mZ} {l2 : mV} {x1 : Int} {r0 : Nat} {K : Nat → mK} {σ : Nat → Nat → Int} {n e s : Nat} (h0 : q_ob K n r0 1) (h1 : q_rp K r0 10) (h2 : q_ob K n (q_rf K r0 10) 3) : m_run Z (32, 46, [(2, ((r0 : Nat) : Int)), (0, x1), l2], [], (K, σ, n, e, s)) = (m_cl Z 44 [(2, ((q_rf K r0 10 : Nat) : Int)), (0, x1)] (K, σ, n, e, s)).bind (m_aft (m_run Z) 32 51 [(2, ((r0 : Nat) : Int)), (0, x1), l2] []) := by
  refine g_aload_n (k := 0) (v := (2, ((r0 : Nat) : Int))) (by decide +kernel : decode (m_byt 32) 46 = .ok (.aload_n 0, 1)) rfl (Or.inl rfl) ?_
  refine g_getr (ci := 1) (f := 10) (by decide +kernel : decode (m_byt 32) 47 = .ok (.getfield 38, 3)) (by decide +kernel) (by decide +kernel) (by decide +kernel) h0 h1 ?_
  refine g_iload_n (k := 1) (x := x1) (by decide +kernel : decode (m_byt 32) 50 = .ok (.iload_n 1, 1)) rfl ?_
  exact g_inv (k := 1) (m' := 44) (np := 1) (as := [(2, ((q_rf K r0 10 : Nat) : Int)), (0, x1)]) (by decide +kernel : decode (m_byt 32) 51 = .ok (.invokevirtual 65, 3)) (Or.inl ⟨rfl, rfl⟩) (by decide +kernel) (by decide +kernel) (by decide +kernel) (Nat.le_of_ble_eq_true rfl) rfl (Or.inr (g_rcv (by decide +kernel) h2))
theorem b_32_54 {Z : mZ} {l0 l1 l2 : mV} {s0 : Int} {h : mH} : m_run Z (32, 54, [l0, l1, l2], [(0, s0)], h) = some (.inl (0, s0), h) := by
  exact g_iret (by decide +kernel : decode (m_byt 32) 54 = .ok (.ireturn, 1)) (by decide +kernel)
theorem e_33 {Z : mZ} {r0 : Nat} {x1 : Int} {x2 : Int} {x3 : Int} {h : mH} : m_cl Z 33 [(2, ((r0 : Nat) : Int)), (0, x1), (0, x2), (0, x3)] h = m_run Z (33, 0, [(2, ((r0 : Nat) : Int)), (0, x1), (0, x2), (0, x3), (9, 0)], [], h) := g_ent (k := 5) (by decide) (by decide +kernel) (Nat.le_of_ble_eq_true rfl) (by decide +kernel) rfl
theorem b_33_0 {Z : mZ} {l0 l1 l2 l4 : mV} {x3 : Int} {h : mH} : m_run Z (33, 0, [l0, l1, l2, (0, x3), l4], [], h) = m_run Z (33, 3, [l0, l1, l2, (0, x3), (0, 0)], [], h) := by
  refine g_base (by decide +kernel : decode (m_byt 33) 0 = .ok (.iconst 0, 1)) rfl rfl ?_
  show m_run Z (33, 1, [l0, l1, l2, (0, x3), l4], [(0, 0)], h) = _
  refine g_istore (k := 4) (by decide +kernel : decode (m_byt 33) 1 = .ok (.istore 4, 2)) (Nat.le_of_ble_eq_true rfl) ?_
  show m_run Z (33, 3, [l0, l1, l2, (0, x3), (0, 0)], [], h) = _
  rfl
theorem b_33_3 {Z : mZ} {l1 l2 l3 : mV} {x4 : Int} {r0 : Nat} {K : Nat → mK} {σ : Nat → Nat → Int} {n e s : Nat} (h0 : q_ob K n r0 1) : m_run Z (33, 3, [(2, ((r0 : Nat) : Int)), l1, l2, l3, (0, x4)], [], (K, σ, n, e, s)) = if w32 (σ r0 2) ≤ w32 x4 then m_run Z (33, 63, [(2, ((r0 : Nat) : Int)), l1, l2, l3, (0, x4)], [], (K, σ, n, e, s)) else m_run Z (33, 12, [(2, ((r0 : Nat) : Int)), l1, l2, l3, (0, x4)], [], (K, σ, n, e, s)) := by
  refine g_iload (k := 4) (x := x4) (by decide +kernel : decode (m_byt 33) 3 = .ok (.iload 4, 2)) rfl ?_
  refine g_aload_n (k := 0) (v := (2, ((r0 : Nat) : Int))) (by decide +kernel : decode (m_byt 33) 5 = .ok (.aload_n 0, 1)) rfl (Or.inl rfl) ?_
  refine g_getf (ci := 1) (f := 2) (by decide +kernel : decode (m_byt 33) 6 = .ok (.getfield 51, 3)) (by decide +kernel) (by decide +kernel) (by decide +kernel) h0 ?_
  exact g_brq (t := 63) (off := 54) (by decide +kernel : decode (m_byt 33) 9 = .ok (.if_icmp .ge 54, 3)) rfl rfl (by decide)
theorem b_33_12 {Z : mZ} {l1 l2 l3 : mV} {x4 : Int} {r0 : Nat} {K : Nat → mK} {σ : Nat → Nat → Int} {n e s : Nat} (h0 : q_ob K n r0 1) (h1 : q_rp K r0 8) (h2 : q_ob K n (q_rf K r0 8) 3) : m_run Z (33, 12, [(2, ((r0 : Nat) : Int)), l1, l2, l3, (0, x4)], [], (K, σ, n, e, s)) = (m_cl Z 44 [(2, ((q_rf K r0 8 : Nat) : Int)), (0, x4)] (K, σ, n, e, s)).bind (m_aft (m_run Z) 33 18 [(2, ((r0 : Nat) : Int)), l1, l2, l3, (0, x4)] []) := by
  refine g_aload_n (k := 0) (v := (2, ((r0 : Nat) : Int))) (by decide +kernel : decode (m_byt 33) 12 = .ok (.aload_n 0, 1)) rfl (Or.inl rfl) ?_
  refine g_getr (ci := 1) (f := 8) (by decide +kernel : decode (m_byt 33) 13 = .ok (.getfield 32, 3)) (by decide +kernel) (by decide +kernel) (by decide +kernel) h0 h1 ?_
  refine g_iload (k := 4) (x := x4) (by decide +kernel : decode (m_byt 33) 16 = .ok (.iload 4, 2)) rfl ?_
  exact g_inv (k := 1) (m' := 44) (np := 1) (as := [(2, ((q_rf K r0 8 : Nat) : Int)), (0, x4)]) (by decide +kernel : decode (m_byt 33) 18 = .ok (.invokevirtual 65, 3)) (Or.inl ⟨rfl, rfl⟩) (by decide +kernel) (by decide +kernel) (by decide +kernel) (Nat.le_of_ble_eq_true rfl) rfl (Or.inr (g_rcv (by decide +kernel) h2))
theorem b_33_21 {Z : mZ} {l0 l2 l3 l4 : mV} {s0 x1 : Int} {h : mH} : m_run Z (33, 21, [l0, (0, x1), l2, l3, l4], [(0, s0)], h) = if w32 s0 = w32 x1 then m_run Z (33, 25, [l0, (0, x1), l2, l3, l4], [], h) else m_run Z (33, 57, [l0, (0, x1), l2, l3, l4], [], h) := by
  refine g_iload_n (k := 1) (x := x1) (by decide +kernel : decode (m_byt 33) 21 = .ok (.iload_n 1, 1)) rfl ?_
  exact g_brn (t := 57) (off := 35) (by decide +kernel : decode (m_byt 33) 22 = .ok (.if_icmp .ne 35, 3)) rfl rfl (by decide)
theorem b_33_25 {Z : mZ} {l1 l3 : mV} {x2 x4 : Int} {r0 : Nat} {K : Nat → mK} {σ : Nat → Nat → Int} {n e s : Nat} (h0 : q_ob K n r0 1) (h1 : q_rp K r0 9) (h2 : q_ob K n (q_rf K r0 9) 3) : m_run Z (33, 25, [(2, ((r0 : Nat) : Int)), l1, (0, x2), l3, (0, x4)], [], (K, σ, n, e, s)) = (m_cl Z 44 [(2, ((q_rf K r0 9 : Nat) : Int)), (0, x4)] (K, σ, n, e, s)).bind (m_aft (m_run Z) 33 32 [(2, ((r0 : Nat) : Int)), l1, (0, x2), l3, (0, x4)] [(0, x2)]) := by
  refine g_iload_n (k := 2) (x := x2) (by decide +kernel : decode (m_byt 33) 25 = .ok (.iload_n 2, 1)) rfl ?_
  refine g_aload_n (k := 0) (v := (2, ((r0 : Nat) : Int))) (by decide +kernel : decode (m_byt 33) 26 = .ok (.aload_n 0, 1)) rfl (Or.inl rfl) ?_
  refine g_getr (ci := 1) (f := 9) (by decide +kernel : decode (m_byt 33) 27 = .ok (.getfield 35, 3)) (by decide +kernel) (by decide +kernel) (by decide +kernel) h0 h1 ?_
  refine g_iload (k := 4) (x := x4) (by decide +kernel : decode (m_byt 33) 30 = .ok (.iload 4, 2)) rfl ?_
  exact g_inv (k := 1) (m' := 44) (np := 1) (as := [(2, ((q_rf K r0 9 : Nat) : Int)), (0, x4)]) (by decide +kernel : decode (m_byt 33) 32 = .ok (.invokevirtual 65, 3)) (Or.inl ⟨rfl, rfl⟩) (by decide +kernel) (by decide +kernel) (by decide +kernel) (Nat.le_of_ble_eq_true rfl) rfl (Or.inr (g_rcv (by decide +kernel) h2))
theorem b_33_35 {Z : mZ} {l0 l1 l2 l4 : mV} {s0 s1 x3 : Int} {h : mH} : m_run Z (33, 35, [l0, l1, l2, (0, x3), l4], [(0, s0), (0, s1)], h) = if w32 s1 ≤ w32 (s0 * x3) then m_run Z (33, 57, [l0, l1, l2, (0, x3), l4], [], h) else m_run Z (33, 40, [l0, l1, l2, (0, x3), l4], [], h) := by
  refine g_iload_n (k := 3) (x := x3) (by decide +kernel : decode (m_byt 33) 35 = .ok (.iload_n 3, 1)) rfl ?_
  refine g_base (by decide +kernel : decode (m_byt 33) 36 = .ok (.imul, 1)) rfl rfl ?_
  show m_run Z (33, 37, [l0, l1, l2, (0, x3), l4], [(0, (s0 * x3)), (0, s1)], h) = _
  exact g_brq (t := 57) (off := 20) (by decide +kernel : decode (m_byt 33) 37 = .ok (.if_icmp .le 20, 3)) rfl rfl (by decide)
theorem b_33_40 {Z : mZ} {l1 l3 : mV} {x2 x4 : Int} {r0 : Nat} {K : Nat → mK} {σ : Nat → Nat → Int} {n e s : Nat} (h0 : q_ob K n r0 1) (h1 : q_rp K r0 10) (h2 : q_ob K n (q_rf K r0 10) 3) : m_run Z (33, 40, [(2, ((r0 : Nat) : Int)), l1, (0, x2), l3, (0, x4)], [], (K, σ, n, e, s)) = (m_cl Z 44 [(2, ((q_rf K r0 10 : Nat) : Int)), (0, x4)] (K, σ, n, e, s)).bind (m_aft (m_run Z) 33 47 [(2, ((r0 : Nat) : Int)), l1, (0, x2), l3, (0, x4)] [(0, x2)]) := by
  refine g_iload_n (k := 2) (x := x2) (by decide +kernel : decode (m_byt 33) 40 = .ok (.iload_n 2, 1)) rfl ?_
  refine g_aload_n (k := 0) (v := (2, ((r0 : Nat) : Int))) (by decide +kernel : decode (m_byt 33) 41 = .ok (.aload_n 0, 1)) rfl (Or.inl rfl) ?_
  refine g_getr (ci := 1) (f := 10) (by decide +kernel : decode (m_byt 33) 42 = .ok (.getfield 38, 3)) (by decide +kernel) (by decide +kernel) (by decide +kernel) h0 h1 ?_
  refine g_iload (k := 4) (x := x4) (by decide +kernel : decode (m_byt 33) 45 = .ok (.iload 4, 2)) rfl ?_
  exact g_inv (k := 1) (m' := 44) (np := 1) (as := [(2, ((q_rf K r0 10 : Nat) : Int)), (0, x4)]) (by decide +kernel : decode (m_byt 33) 47 = .ok (.invokevirtual 65, 3)) (Or.inl ⟨rfl, rfl⟩) (by decide +kernel) (by decide +kernel) (by decide +kernel) (Nat.le_of_ble_eq_true rfl) rfl (Or.inr (g_rcv (by decide +kernel) h2))
theorem b_33_50 {Z : mZ} {l0 l1 l2 l4 : mV} {s0 s1 x3 : Int} {h : mH} : m_run Z (33, 50, [l0, l1, l2, (0, x3), l4], [(0, s0), (0, s1)], h) = if w32 (s0 * x3) ≤ w32 s1 then m_run Z (33, 57, [l0, l1, l2, (0, x3), l4], [], h) else m_run Z (33, 55, [l0, l1, l2, (0, x3), l4], [], h) := by
  refine g_iload_n (k := 3) (x := x3) (by decide +kernel : decode (m_byt 33) 50 = .ok (.iload_n 3, 1)) rfl ?_
  refine g_base (by decide +kernel : decode (m_byt 33) 51 = .ok (.imul, 1)) rfl rfl ?_
  show m_run Z (33, 52, [l0, l1, l2, (0, x3), l4], [(0, (s0 * x3)), (0, s1)], h) = _
  exact g_brq (t := 57) (off := 5) (by decide +kernel : decode (m_byt 33) 52 = .ok (.if_icmp .ge 5, 3)) rfl rfl (by decide)
theorem b_33_55 {Z : mZ} {l0 l1 l2 l3 l4 : mV} {h : mH} : m_run Z (33, 55, [l0, l1, l2, l3, l4], [], h) = some (.inl (0, 0), h) := by
  refine g_base (by decide +kernel : decode (m_byt 33) 55 = .ok (.iconst 0, 1)) rfl rfl ?_
  show m_run Z (33, 56, [l0, l1, l2, l3, l4], [(0, 0)], h) = _
  exact g_zret (by decide +kernel : decode (m_byt 33) 56 = .ok (.ireturn, 1)) (by decide +kernel) (by decide)
theorem b_33_57 {Z : mZ} {l0 l1 l2 : mV} {x4 x3 : Int} {h : mH} : m_run Z (33, 57, [l0, l1, l2, (0, x3), (0, x4)], [], h) = m_run Z (33, 3, [l0, l1, l2, (0, x3), (0, x4 + 1)], [], h) := by
  refine g_iinc (k := 4) (x := x4) (by decide +kernel : decode (m_byt 33) 57 = .ok (.iinc 4 1, 3)) rfl (Nat.le_of_ble_eq_true rfl) ?_
  show m_run Z (33, 60, [l0, l1, l2, (0, x3), (0, x4 + 1)], [], h) = _
  refine g_jmp (t := 3) (by decide +kernel : decode (m_byt 33) 60 = .ok (.goto (-57), 3)) (by decide) ?_
  rfl
theorem b_33_63 {Z : mZ} {l0 l1 l2 l3 l4 : mV} {h : mH} : m_run Z (33, 63, [l0, l1, l2, l3, l4], [], h) = some (.inl (0, 1), h) := by
  refine g_base (by decide +kernel : decode (m_byt 33) 63 = .ok (.iconst 1, 1)) rfl rfl ?_
  show m_run Z (33, 64, [l0, l1, l2, l3, l4], [(0, 1)], h) = _
  exact g_zret (by decide +kernel : decode (m_byt 33) 64 = .ok (.ireturn, 1)) (by decide +kernel) (by decide)
end
