section
theorem e_64 {Z : mZ} {r0 : Nat} {h h' : mH} {v : mV} (hr : m_run Z (64, 0, [(2, ((r0 : Nat) : Int))], [], h) = some (.inl v, h')) : m_cl Z 64 [(2, ((r0 : Nat) : Int))] h = some (.inl v, h') := g_enti (k := 1) (by decide) (by decide +kernel) (Nat.le_of_ble_eq_true rfl) rfl hr
theorem b_64_0 {Z : mZ} {r0 : Nat} {K : Nat → mK} {σ : Nat → Nat → Int} {n s : Nat} (h0 : q_ob (m_up K n (1, 1, fun _ => -1)) (n + 1) n 1) : m_run Z (64, 0, [(2, ((r0 : Nat) : Int))], [], (K, σ, n, 0, s)) = (m_cl Z 11 [(2, ((n : Nat) : Int))] ((m_up K n (1, 1, fun _ => -1)), (m_up σ n (fun _ => 0)), (n + 1), 0, s + 11)).bind (m_aft (m_run Z) 64 9 [(2, ((r0 : Nat) : Int))] [(2, ((n : Nat) : Int)), (2, ((r0 : Nat) : Int))]) := by
  refine g_aload_n (k := 0) (v := (2, ((r0 : Nat) : Int))) (by decide +kernel : decode (m_byt 64) 0 = .ok (.aload_n 0, 1)) rfl (Or.inl rfl) ?_
  refine g_obj (r := r0) (by decide +kernel : decode (m_byt 64) 1 = .ok (.invokespecial 3, 3)) (by decide +kernel) (by decide +kernel) (Nat.le_of_ble_eq_true rfl) ?_
  refine g_aload_n (k := 0) (v := (2, ((r0 : Nat) : Int))) (by decide +kernel : decode (m_byt 64) 4 = .ok (.aload_n 0, 1)) rfl (Or.inl rfl) ?_
  refine g_new (ci := 1) (by decide +kernel : decode (m_byt 64) 5 = .ok (.new 9, 3)) (by decide +kernel) (by decide) ?_
  show m_run Z (64, 8, [(2, ((r0 : Nat) : Int))], [(2, ((n : Nat) : Int)), (2, ((r0 : Nat) : Int))], ((m_up K n (1, 1, fun _ => -1)), (m_up σ n (fun _ => 0)), (n + 1), 0, s + 11)) = _
  refine g_base (by decide +kernel : decode (m_byt 64) 8 = .ok (.dup, 1)) rfl rfl ?_
  show m_run Z (64, 9, [(2, ((r0 : Nat) : Int))], [(2, ((n : Nat) : Int)), (2, ((n : Nat) : Int)), (2, ((r0 : Nat) : Int))], ((m_up K n (1, 1, fun _ => -1)), (m_up σ n (fun _ => 0)), (n + 1), 0, s + 11)) = _
  exact g_inv (k := 2) (m' := 11) (np := 0) (as := [(2, ((n : Nat) : Int))]) (by decide +kernel : decode (m_byt 64) 9 = .ok (.invokespecial 11, 3)) (Or.inr (Or.inl ⟨rfl, rfl, by decide⟩)) (by decide +kernel) (by decide +kernel) (by decide +kernel) (Nat.le_of_ble_eq_true rfl) rfl (Or.inr (g_rcv (by decide +kernel) h0))
theorem b_64_12 {Z : mZ} {s0 s1 r0 : Nat} {K : Nat → mK} {σ : Nat → Nat → Int} {n s : Nat} (h0 : q_ob K n s1 5) (h1 : ((s0 : Nat) : Int) < ((n : Nat) : Int)) (h2 : q_ob (m_up (q_pf K s1 5 0 ((s0 : Nat) : Int)) n (1, 3, fun _ => -1)) (n + 1) n 3) : m_run Z (64, 12, [(2, ((r0 : Nat) : Int))], [(2, ((s0 : Nat) : Int)), (2, ((s1 : Nat) : Int))], (K, σ, n, 0, s)) = (m_cl Z 43 [(2, ((n : Nat) : Int)), (0, 8)] ((m_up (q_pf K s1 5 0 ((s0 : Nat) : Int)) n (1, 3, fun _ => -1)), (m_up σ n (fun _ => 0)), (n + 1), 0, s + 1)).bind (m_aft (m_run Z) 64 22 [(2, ((r0 : Nat) : Int))] [(2, ((n : Nat) : Int)), (2, ((r0 : Nat) : Int))]) := by
  refine g_putr (ci := 5) (f := 0) (by decide +kernel : decode (m_byt 64) 12 = .ok (.putfield 12, 3)) (by decide +kernel) (by decide +kernel) (by decide +kernel) (by decide +kernel) (by decide +kernel) h0 h1 ?_
  show m_run Z (64, 15, [(2, ((r0 : Nat) : Int))], [], ((q_pf K s1 5 0 ((s0 : Nat) : Int)), σ, n, 0, s)) = _
  refine g_aload_n (k := 0) (v := (2, ((r0 : Nat) : Int))) (by decide +kernel : decode (m_byt 64) 15 = .ok (.aload_n 0, 1)) rfl (Or.inl rfl) ?_
  refine g_new (ci := 3) (by decide +kernel : decode (m_byt 64) 16 = .ok (.new 18, 3)) (by decide +kernel) (by decide) ?_
  show m_run Z (64, 19, [(2, ((r0 : Nat) : Int))], [(2, ((n : Nat) : Int)), (2, ((r0 : Nat) : Int))], ((m_up (q_pf K s1 5 0 ((s0 : Nat) : Int)) n (1, 3, fun _ => -1)), (m_up σ n (fun _ => 0)), (n + 1), 0, s + 1)) = _
  refine g_base (by decide +kernel : decode (m_byt 64) 19 = .ok (.dup, 1)) rfl rfl ?_
  show m_run Z (64, 20, [(2, ((r0 : Nat) : Int))], [(2, ((n : Nat) : Int)), (2, ((n : Nat) : Int)), (2, ((r0 : Nat) : Int))], ((m_up (q_pf K s1 5 0 ((s0 : Nat) : Int)) n (1, 3, fun _ => -1)), (m_up σ n (fun _ => 0)), (n + 1), 0, s + 1)) = _
  refine g_base (by decide +kernel : decode (m_byt 64) 20 = .ok (.bipush 8, 2)) rfl rfl ?_
  show m_run Z (64, 22, [(2, ((r0 : Nat) : Int))], [(0, 8), (2, ((n : Nat) : Int)), (2, ((n : Nat) : Int)), (2, ((r0 : Nat) : Int))], ((m_up (q_pf K s1 5 0 ((s0 : Nat) : Int)) n (1, 3, fun _ => -1)), (m_up σ n (fun _ => 0)), (n + 1), 0, s + 1)) = _
  exact g_inv (k := 2) (m' := 43) (np := 1) (as := [(2, ((n : Nat) : Int)), (0, 8)]) (by decide +kernel : decode (m_byt 64) 22 = .ok (.invokespecial 20, 3)) (Or.inr (Or.inl ⟨rfl, rfl, by decide⟩)) (by decide +kernel) (by decide +kernel) (by decide +kernel) (Nat.le_of_ble_eq_true rfl) rfl (Or.inr (g_rcv (by decide +kernel) h2))
theorem b_64_25 {Z : mZ} {s0 s1 r0 : Nat} {K : Nat → mK} {σ : Nat → Nat → Int} {n s : Nat} (h0 : q_ob K n s1 5) (h1 : ((s0 : Nat) : Int) < ((n : Nat) : Int)) (h2 : q_ob (m_up (q_pf K s1 5 4 ((s0 : Nat) : Int)) n (1, 3, fun _ => -1)) (n + 1) n 3) : m_run Z (64, 25, [(2, ((r0 : Nat) : Int))], [(2, ((s0 : Nat) : Int)), (2, ((s1 : Nat) : Int))], (K, σ, n, 0, s)) = (m_cl Z 43 [(2, ((n : Nat) : Int)), (0, 64)] ((m_up (q_pf K s1 5 4 ((s0 : Nat) : Int)) n (1, 3, fun _ => -1)), (m_up σ n (fun _ => 0)), (n + 1), 0, s + 1)).bind (m_aft (m_run Z) 64 35 [(2, ((r0 : Nat) : Int))] [(2, ((n : Nat) : Int)), (2, ((r0 : Nat) : Int))]) := by
  refine g_putr (ci := 5) (f := 4) (by decide +kernel : decode (m_byt 64) 25 = .ok (.putfield 23, 3)) (by decide +kernel) (by decide +kernel) (by decide +kernel) (by decide +kernel) (by decide +kernel) h0 h1 ?_
  show m_run Z (64, 28, [(2, ((r0 : Nat) : Int))], [], ((q_pf K s1 5 4 ((s0 : Nat) : Int)), σ, n, 0, s)) = _
  refine g_aload_n (k := 0) (v := (2, ((r0 : Nat) : Int))) (by decide +kernel : decode (m_byt 64) 28 = .ok (.aload_n 0, 1)) rfl (Or.inl rfl) ?_
  refine g_new (ci := 3) (by decide +kernel : decode (m_byt 64) 29 = .ok (.new 18, 3)) (by decide +kernel) (by decide) ?_
  show m_run Z (64, 32, [(2, ((r0 : Nat) : Int))], [(2, ((n : Nat) : Int)), (2, ((r0 : Nat) : Int))], ((m_up (q_pf K s1 5 4 ((s0 : Nat) : Int)) n (1, 3, fun _ => -1)), (m_up σ n (fun _ => 0)), (n + 1), 0, s + 1)) = _
  refine g_base (by decide +kernel : decode (m_byt 64) 32 = .ok (.dup, 1)) rfl rfl ?_
  show m_run Z (64, 33, [(2, ((r0 : Nat) : Int))], [(2, ((n : Nat) : Int)), (2, ((n : Nat) : Int)), (2, ((r0 : Nat) : Int))], ((m_up (q_pf K s1 5 4 ((s0 : Nat) : Int)) n (1, 3, fun _ => -1)), (m_up σ n (fun _ => 0)), (n + 1), 0, s + 1)) = _
  refine g_base (by decide +kernel : decode (m_byt 64) 33 = .ok (.bipush 64, 2)) rfl rfl ?_
  show m_run Z (64, 35, [(2, ((r0 : Nat) : Int))], [(0, 64), (2, ((n : Nat) : Int)), (2, ((n : Nat) : Int)), (2, ((r0 : Nat) : Int))], ((m_up (q_pf K s1 5 4 ((s0 : Nat) : Int)) n (1, 3, fun _ => -1)), (m_up σ n (fun _ => 0)), (n + 1), 0, s + 1)) = _
  exact g_inv (k := 2) (m' := 43) (np := 1) (as := [(2, ((n : Nat) : Int)), (0, 64)]) (by decide +kernel : decode (m_byt 64) 35 = .ok (.invokespecial 20, 3)) (Or.inr (Or.inl ⟨rfl, rfl, by decide⟩)) (by decide +kernel) (by decide +kernel) (by decide +kernel) (Nat.le_of_ble_eq_true rfl) rfl (Or.inr (g_rcv (by decide +kernel) h2))
theorem b_64_38 {Z : mZ} {s0 s1 r0 : Nat} {K : Nat → mK} {σ : Nat → Nat → Int} {n s : Nat} (h0 : q_ob K n s1 5) (h1 : ((s0 : Nat) : Int) < ((n : Nat) : Int)) (h2 : q_ob (m_up (q_pf K s1 5 5 ((s0 : Nat) : Int)) n (1, 3, fun _ => -1)) (n + 1) n 3) : m_run Z (64, 38, [(2, ((r0 : Nat) : Int))], [(2, ((s0 : Nat) : Int)), (2, ((s1 : Nat) : Int))], (K, σ, n, 0, s)) = (m_cl Z 43 [(2, ((n : Nat) : Int)), (0, 96)] ((m_up (q_pf K s1 5 5 ((s0 : Nat) : Int)) n (1, 3, fun _ => -1)), (m_up σ n (fun _ => 0)), (n + 1), 0, s + 1)).bind (m_aft (m_run Z) 64 48 [(2, ((r0 : Nat) : Int))] [(2, ((n : Nat) : Int)), (2, ((r0 : Nat) : Int))]) := by
  refine g_putr (ci := 5) (f := 5) (by decide +kernel : decode (m_byt 64) 38 = .ok (.putfield 27, 3)) (by decide +kernel) (by decide +kernel) (by decide +kernel) (by decide +kernel) (by decide +kernel) h0 h1 ?_
  show m_run Z (64, 41, [(2, ((r0 : Nat) : Int))], [], ((q_pf K s1 5 5 ((s0 : Nat) : Int)), σ, n, 0, s)) = _
  refine g_aload_n (k := 0) (v := (2, ((r0 : Nat) : Int))) (by decide +kernel : decode (m_byt 64) 41 = .ok (.aload_n 0, 1)) rfl (Or.inl rfl) ?_
  refine g_new (ci := 3) (by decide +kernel : decode (m_byt 64) 42 = .ok (.new 18, 3)) (by decide +kernel) (by decide) ?_
  show m_run Z (64, 45, [(2, ((r0 : Nat) : Int))], [(2, ((n : Nat) : Int)), (2, ((r0 : Nat) : Int))], ((m_up (q_pf K s1 5 5 ((s0 : Nat) : Int)) n (1, 3, fun _ => -1)), (m_up σ n (fun _ => 0)), (n + 1), 0, s + 1)) = _
  refine g_base (by decide +kernel : decode (m_byt 64) 45 = .ok (.dup, 1)) rfl rfl ?_
  show m_run Z (64, 46, [(2, ((r0 : Nat) : Int))], [(2, ((n : Nat) : Int)), (2, ((n : Nat) : Int)), (2, ((r0 : Nat) : Int))], ((m_up (q_pf K s1 5 5 ((s0 : Nat) : Int)) n (1, 3, fun _ => -1)), (m_up σ n (fun _ => 0)), (n + 1), 0, s + 1)) = _
  refine g_base (by decide +kernel : decode (m_byt 64) 46 = .ok (.bipush 96, 2)) rfl rfl ?_
  show m_run Z (64, 48, [(2, ((r0 : Nat) : Int))], [(0, 96), (2, ((n : Nat) : Int)), (2, ((n : Nat) : Int)), (2, ((r0 : Nat) : Int))], ((m_up (q_pf K s1 5 5 ((s0 : Nat) : Int)) n (1, 3, fun _ => -1)), (m_up σ n (fun _ => 0)), (n + 1), 0, s + 1)) = _
  exact g_inv (k := 2) (m' := 43) (np := 1) (as := [(2, ((n : Nat) : Int)), (0, 96)]) (by decide +kernel : decode (m_byt 64) 48 = .ok (.invokespecial 20, 3)) (Or.inr (Or.inl ⟨rfl, rfl, by decide⟩)) (by decide +kernel) (by decide +kernel) (by decide +kernel) (Nat.le_of_ble_eq_true rfl) rfl (Or.inr (g_rcv (by decide +kernel) h2))
theorem b_64_51 {Z : mZ} {s0 s1 r0 : Nat} {K : Nat → mK} {σ : Nat → Nat → Int} {n s : Nat} (h0 : q_ob K n s1 5) (h1 : ((s0 : Nat) : Int) < ((n : Nat) : Int)) (h2 : q_ob (m_up (q_pf K s1 5 6 ((s0 : Nat) : Int)) n (1, 3, fun _ => -1)) (n + 1) n 3) : m_run Z (64, 51, [(2, ((r0 : Nat) : Int))], [(2, ((s0 : Nat) : Int)), (2, ((s1 : Nat) : Int))], (K, σ, n, 0, s)) = (m_cl Z 43 [(2, ((n : Nat) : Int)), (0, 96)] ((m_up (q_pf K s1 5 6 ((s0 : Nat) : Int)) n (1, 3, fun _ => -1)), (m_up σ n (fun _ => 0)), (n + 1), 0, s + 1)).bind (m_aft (m_run Z) 64 61 [(2, ((r0 : Nat) : Int))] [(2, ((n : Nat) : Int)), (2, ((r0 : Nat) : Int))]) := by
  refine g_putr (ci := 5) (f := 6) (by decide +kernel : decode (m_byt 64) 51 = .ok (.putfield 30, 3)) (by decide +kernel) (by decide +kernel) (by decide +kernel) (by decide +kernel) (by decide +kernel) h0 h1 ?_
  show m_run Z (64, 54, [(2, ((r0 : Nat) : Int))], [], ((q_pf K s1 5 6 ((s0 : Nat) : Int)), σ, n, 0, s)) = _
  refine g_aload_n (k := 0) (v := (2, ((r0 : Nat) : Int))) (by decide +kernel : decode (m_byt 64) 54 = .ok (.aload_n 0, 1)) rfl (Or.inl rfl) ?_
  refine g_new (ci := 3) (by decide +kernel : decode (m_byt 64) 55 = .ok (.new 18, 3)) (by decide +kernel) (by decide) ?_
  show m_run Z (64, 58, [(2, ((r0 : Nat) : Int))], [(2, ((n : Nat) : Int)), (2, ((r0 : Nat) : Int))], ((m_up (q_pf K s1 5 6 ((s0 : Nat) : Int)) n (1, 3, fun _ => -1)), (m_up σ n (fun _ => 0)), (n + 1), 0, s + 1)) = _
  refine g_base (by decide +kernel : decode (m_byt 64) 58 = .ok (.dup, 1)) rfl rfl ?_
  show m_run Z (64, 59, [(2, ((r0 : Nat) : Int))], [(2, ((n : Nat) : Int)), (2, ((n : Nat) : Int)), (2, ((r0 : Nat) : Int))], ((m_up (q_pf K s1 5 6 ((s0 : Nat) : Int)) n (1, 3, fun _ => -1)), (m_up σ n (fun _ => 0)), (n + 1), 0, s + 1)) = _
  refine g_base (by decide +kernel : decode (m_byt 64) 59 = .ok (.bipush 96, 2)) rfl rfl ?_
  show m_run Z (64, 61, [(2, ((r0 : Nat) : Int))], [(0, 96), (2, ((n : Nat) : Int)), (2, ((n : Nat) : Int)), (2, ((r0 : Nat) : Int))], ((m_up (q_pf K s1 5 6 ((s0 : Nat) : Int)) n (1, 3, fun _ => -1)), (m_up σ n (fun _ => 0)), (n + 1), 0, s + 1)) = _
  exact g_inv (k := 2) (m' := 43) (np := 1) (as := [(2, ((n : Nat) : Int)), (0, 96)]) (by decide +kernel : decode (m_byt 64) 61 = .ok (.invokespecial 20, 3)) (Or.inr (Or.inl ⟨rfl, rfl, by decide⟩)) (by decide +kernel) (by decide +kernel) (by decide +kernel) (Nat.le_of_ble_eq_true rfl) rfl (Or.inr (g_rcv (by decide +kernel) h2))
theorem b_64_64 {Z : mZ} {s0 s1 r0 : Nat} {K : Nat → mK} {σ : Nat → Nat → Int} {n s : Nat} (h0 : q_ob K n s1 5) (h1 : ((s0 : Nat) : Int) < ((n : Nat) : Int)) (h2 : q_ob (m_up (q_pf K s1 5 7 ((s0 : Nat) : Int)) n (1, 3, fun _ => -1)) (n + 1) n 3) : m_run Z (64, 64, [(2, ((r0 : Nat) : Int))], [(2, ((s0 : Nat) : Int)), (2, ((s1 : Nat) : Int))], (K, σ, n, 0, s)) = (m_cl Z 43 [(2, ((n : Nat) : Int)), (0, 372)] ((m_up (q_pf K s1 5 7 ((s0 : Nat) : Int)) n (1, 3, fun _ => -1)), (m_up σ n (fun _ => 0)), (n + 1), 0, s + 1)).bind (m_aft (m_run Z) 64 75 [(2, ((r0 : Nat) : Int))] [(2, ((n : Nat) : Int)), (2, ((r0 : Nat) : Int))]) := by
  refine g_putr (ci := 5) (f := 7) (by decide +kernel : decode (m_byt 64) 64 = .ok (.putfield 33, 3)) (by decide +kernel) (by decide +kernel) (by decide +kernel) (by decide +kernel) (by decide +kernel) h0 h1 ?_
  show m_run Z (64, 67, [(2, ((r0 : Nat) : Int))], [], ((q_pf K s1 5 7 ((s0 : Nat) : Int)), σ, n, 0, s)) = _
  refine g_aload_n (k := 0) (v := (2, ((r0 : Nat) : Int))) (by decide +kernel : decode (m_byt 64) 67 = .ok (.aload_n 0, 1)) rfl (Or.inl rfl) ?_
  refine g_new (ci := 3) (by decide +kernel : decode (m_byt 64) 68 = .ok (.new 18, 3)) (by decide +kernel) (by decide) ?_
  show m_run Z (64, 71, [(2, ((r0 : Nat) : Int))], [(2, ((n : Nat) : Int)), (2, ((r0 : Nat) : Int))], ((m_up (q_pf K s1 5 7 ((s0 : Nat) : Int)) n (1, 3, fun _ => -1)), (m_up σ n (fun _ => 0)), (n + 1), 0, s + 1)) = _
  refine g_base (by decide +kernel : decode (m_byt 64) 71 = .ok (.dup, 1)) rfl rfl ?_
  show m_run Z (64, 72, [(2, ((r0 : Nat) : Int))], [(2, ((n : Nat) : Int)), (2, ((n : Nat) : Int)), (2, ((r0 : Nat) : Int))], ((m_up (q_pf K s1 5 7 ((s0 : Nat) : Int)) n (1, 3, fun _ => -1)), (m_up σ n (fun _ => 0)), (n + 1), 0, s + 1)) = _
  refine g_base (by decide +kernel : decode (m_byt 64) 72 = .ok (.sipush 372, 3)) rfl rfl ?_
  show m_run Z (64, 75, [(2, ((r0 : Nat) : Int))], [(0, 372), (2, ((n : Nat) : Int)), (2, ((n : Nat) : Int)), (2, ((r0 : Nat) : Int))], ((m_up (q_pf K s1 5 7 ((s0 : Nat) : Int)) n (1, 3, fun _ => -1)), (m_up σ n (fun _ => 0)), (n + 1), 0, s + 1)) = _
  exact g_inv (k := 2) (m' := 43) (np := 1) (as := [(2, ((n : Nat) : Int)), (0, 372)]) (by decide +kernel : decode (m_byt 64) 75 = .ok (.invokespecial 20, 3)) (Or.inr (Or.inl ⟨rfl, rfl, by decide⟩)) (by decide +kernel) (by decide +kernel) (by decide +kernel) (Nat.le_of_ble_eq_true rfl) rfl (Or.inr (g_rcv (by decide +kernel) h2))
theorem b_64_78 {Z : mZ} {s0 s1 r0 : Nat} {K : Nat → mK} {σ : Nat → Nat → Int} {n s : Nat} (h0 : q_ob K n s1 5) (h1 : ((s0 : Nat) : Int) < ((n : Nat) : Int)) (h2 : q_ob (m_up (q_pf K s1 5 9 ((s0 : Nat) : Int)) n (1, 3, fun _ => -1)) (n + 1) n 3) : m_run Z (64, 78, [(2, ((r0 : Nat) : Int))], [(2, ((s0 : Nat) : Int)), (2, ((s1 : Nat) : Int))], (K, σ, n, 0, s)) = (m_cl Z 43 [(2, ((n : Nat) : Int)), (0, 372)] ((m_up (q_pf K s1 5 9 ((s0 : Nat) : Int)) n (1, 3, fun _ => -1)), (m_up σ n (fun _ => 0)), (n + 1), 0, s + 1)).bind (m_aft (m_run Z) 64 89 [(2, ((r0 : Nat) : Int))] [(2, ((n : Nat) : Int)), (2, ((r0 : Nat) : Int))]) := by
  refine g_putr (ci := 5) (f := 9) (by decide +kernel : decode (m_byt 64) 78 = .ok (.putfield 36, 3)) (by decide +kernel) (by decide +kernel) (by decide +kernel) (by decide +kernel) (by decide +kernel) h0 h1 ?_
  show m_run Z (64, 81, [(2, ((r0 : Nat) : Int))], [], ((q_pf K s1 5 9 ((s0 : Nat) : Int)), σ, n, 0, s)) = _
  refine g_aload_n (k := 0) (v := (2, ((r0 : Nat) : Int))) (by decide +kernel : decode (m_byt 64) 81 = .ok (.aload_n 0, 1)) rfl (Or.inl rfl) ?_
  refine g_new (ci := 3) (by decide +kernel : decode (m_byt 64) 82 = .ok (.new 18, 3)) (by decide +kernel) (by decide) ?_
  show m_run Z (64, 85, [(2, ((r0 : Nat) : Int))], [(2, ((n : Nat) : Int)), (2, ((r0 : Nat) : Int))], ((m_up (q_pf K s1 5 9 ((s0 : Nat) : Int)) n (1, 3, fun _ => -1)), (m_up σ n (fun _ => 0)), (n + 1), 0, s + 1)) = _
  refine g_base (by decide +kernel : decode (m_byt 64) 85 = .ok (.dup, 1)) rfl rfl ?_
  show m_run Z (64, 86, [(2, ((r0 : Nat) : Int))], [(2, ((n : Nat) : Int)), (2, ((n : Nat) : Int)), (2, ((r0 : Nat) : Int))], ((m_up (q_pf K s1 5 9 ((s0 : Nat) : Int)) n (1, 3, fun _ => -1)), (m_up σ n (fun _ => 0)), (n + 1), 0, s + 1)) = _
  refine g_base (by decide +kernel : decode (m_byt 64) 86 = .ok (.sipush 372, 3)) rfl rfl ?_
  show m_run Z (64, 89, [(2, ((r0 : Nat) : Int))], [(0, 372), (2, ((n : Nat) : Int)), (2, ((n : Nat) : Int)), (2, ((r0 : Nat) : Int))], ((m_up (q_pf K s1 5 9 ((s0 : Nat) : Int)) n (1, 3, fun _ => -1)), (m_up σ n (fun _ => 0)), (n + 1), 0, s + 1)) = _
  exact g_inv (k := 2) (m' := 43) (np := 1) (as := [(2, ((n : Nat) : Int)), (0, 372)]) (by decide +kernel : decode (m_byt 64) 89 = .ok (.invokespecial 20, 3)) (Or.inr (Or.inl ⟨rfl, rfl, by decide⟩)) (by decide +kernel) (by decide +kernel) (by decide +kernel) (Nat.le_of_ble_eq_true rfl) rfl (Or.inr (g_rcv (by decide +kernel) h2))
theorem b_64_92 {Z : mZ} {s0 s1 r0 : Nat} {K : Nat → mK} {σ : Nat → Nat → Int} {n s : Nat} (h0 : q_ob K n s1 5) (h1 : ((s0 : Nat) : Int) < ((n : Nat) : Int)) (h2 : q_ob (m_up (q_pf K s1 5 10 ((s0 : Nat) : Int)) n (1, 3, fun _ => -1)) (n + 1) n 3) : m_run Z (64, 92, [(2, ((r0 : Nat) : Int))], [(2, ((s0 : Nat) : Int)), (2, ((s1 : Nat) : Int))], (K, σ, n, 0, s)) = (m_cl Z 43 [(2, ((n : Nat) : Int)), (0, 372)] ((m_up (q_pf K s1 5 10 ((s0 : Nat) : Int)) n (1, 3, fun _ => -1)), (m_up σ n (fun _ => 0)), (n + 1), 0, s + 1)).bind (m_aft (m_run Z) 64 103 [(2, ((r0 : Nat) : Int))] [(2, ((n : Nat) : Int)), (2, ((r0 : Nat) : Int))]) := by
  refine g_putr (ci := 5) (f := 10) (by decide +kernel : decode (m_byt 64) 92 = .ok (.putfield 39, 3)) (by decide +kernel) (by decide +kernel) (by decide +kernel) (by decide +kernel) (by decide +kernel) h0 h1 ?_
  show m_run Z (64, 95, [(2, ((r0 : Nat) : Int))], [], ((q_pf K s1 5 10 ((s0 : Nat) : Int)), σ, n, 0, s)) = _
  refine g_aload_n (k := 0) (v := (2, ((r0 : Nat) : Int))) (by decide +kernel : decode (m_byt 64) 95 = .ok (.aload_n 0, 1)) rfl (Or.inl rfl) ?_
  refine g_new (ci := 3) (by decide +kernel : decode (m_byt 64) 96 = .ok (.new 18, 3)) (by decide +kernel) (by decide) ?_
  show m_run Z (64, 99, [(2, ((r0 : Nat) : Int))], [(2, ((n : Nat) : Int)), (2, ((r0 : Nat) : Int))], ((m_up (q_pf K s1 5 10 ((s0 : Nat) : Int)) n (1, 3, fun _ => -1)), (m_up σ n (fun _ => 0)), (n + 1), 0, s + 1)) = _
  refine g_base (by decide +kernel : decode (m_byt 64) 99 = .ok (.dup, 1)) rfl rfl ?_
  show m_run Z (64, 100, [(2, ((r0 : Nat) : Int))], [(2, ((n : Nat) : Int)), (2, ((n : Nat) : Int)), (2, ((r0 : Nat) : Int))], ((m_up (q_pf K s1 5 10 ((s0 : Nat) : Int)) n (1, 3, fun _ => -1)), (m_up σ n (fun _ => 0)), (n + 1), 0, s + 1)) = _
  refine g_base (by decide +kernel : decode (m_byt 64) 100 = .ok (.sipush 372, 3)) rfl rfl ?_
  show m_run Z (64, 103, [(2, ((r0 : Nat) : Int))], [(0, 372), (2, ((n : Nat) : Int)), (2, ((n : Nat) : Int)), (2, ((r0 : Nat) : Int))], ((m_up (q_pf K s1 5 10 ((s0 : Nat) : Int)) n (1, 3, fun _ => -1)), (m_up σ n (fun _ => 0)), (n + 1), 0, s + 1)) = _
  exact g_inv (k := 2) (m' := 43) (np := 1) (as := [(2, ((n : Nat) : Int)), (0, 372)]) (by decide +kernel : decode (m_byt 64) 103 = .ok (.invokespecial 20, 3)) (Or.inr (Or.inl ⟨rfl, rfl, by decide⟩)) (by decide +kernel) (by decide +kernel) (by decide +kernel) (Nat.le_of_ble_eq_true rfl) rfl (Or.inr (g_rcv (by decide +kernel) h2))
theorem b_64_106 {Z : mZ} {l0 : mV} {s0 s1 : Nat} {K : Nat → mK} {σ : Nat → Nat → Int} {n e s : Nat} (h0 : q_ob K n s1 5) (h1 : ((s0 : Nat) : Int) < ((n : Nat) : Int)) : m_run Z (64, 106, [l0], [(2, ((s0 : Nat) : Int)), (2, ((s1 : Nat) : Int))], (K, σ, n, e, s)) = some (.inl (9, 0), ((q_pf K s1 5 11 ((s0 : Nat) : Int)), σ, n, e, s)) := by
  refine g_putr (ci := 5) (f := 11) (by decide +kernel : decode (m_byt 64) 106 = .ok (.putfield 42, 3)) (by decide +kernel) (by decide +kernel) (by decide +kernel) (by decide +kernel) (by decide +kernel) h0 h1 ?_
  show m_run Z (64, 109, [l0], [], ((q_pf K s1 5 11 ((s0 : Nat) : Int)), σ, n, e, s)) = _
  exact g_vret (by decide +kernel : decode (m_byt 64) 109 = .ok (.return_, 1)) (by decide +kernel)
theorem e_65 {Z : mZ} {r0 : Nat} {r1 : Nat} {x2 : Int} {h : mH} : m_cl Z 65 [(2, ((r0 : Nat) : Int)), (2, ((r1 : Nat) : Int)), (0, x2)] h = m_run Z (65, 0, [(2, ((r0 : Nat) : Int)), (2, ((r1 : Nat) : Int)), (0, x2), (9, 0)], [], h) := g_ent (k := 4) (by decide) (by decide +kernel) (Nat.le_of_ble_eq_true rfl) (by decide +kernel) rfl
theorem b_65_0 {Z : mZ} {l1 l2 l3 : mV} {r0 : Nat} {K : Nat → mK} {σ : Nat → Nat → Int} {n e s : Nat} (h0 : q_ob K n r0 5) : m_run Z (65, 0, [(2, ((r0 : Nat) : Int)), l1, l2, l3], [], (K, σ, n, e, s)) = if w32 (σ r0 2) ≤ 0 then m_run Z (65, 27, [(2, ((r0 : Nat) : Int)), l1, l2, l3], [], (K, σ, n, e, s)) else m_run Z (65, 7, [(2, ((r0 : Nat) : Int)), l1, l2, l3], [], (K, σ, n, e, s)) := by
  refine g_aload_n (k := 0) (v := (2, ((r0 : Nat) : Int))) (by decide +kernel : decode (m_byt 65) 0 = .ok (.aload_n 0, 1)) rfl (Or.inl rfl) ?_
  refine g_getf (ci := 5) (f := 2) (by decide +kernel : decode (m_byt 65) 1 = .ok (.getfield 45, 3)) (by decide +kernel) (by decide +kernel) (by decide +kernel) h0 ?_
  exact g_brq (t := 27) (off := 23) (by decide +kernel : decode (m_byt 65) 4 = .ok (.ifCond .le 23, 3)) rfl rfl (by decide)
theorem b_65_7 {Z : mZ} {l1 l3 : mV} {x2 : Int} {r0 : Nat} {K : Nat → mK} {σ : Nat → Nat → Int} {n e s : Nat} (h0 : q_ob K n r0 5) : m_run Z (65, 7, [(2, ((r0 : Nat) : Int)), l1, (0, x2), l3], [], (K, σ, n, e, s)) = if w32 x2 = w32 (σ r0 1) then m_run Z (65, 15, [(2, ((r0 : Nat) : Int)), l1, (0, x2), l3], [], (K, σ, n, e, s)) else m_run Z (65, 27, [(2, ((r0 : Nat) : Int)), l1, (0, x2), l3], [], (K, σ, n, e, s)) := by
  refine g_iload_n (k := 2) (x := x2) (by decide +kernel : decode (m_byt 65) 7 = .ok (.iload_n 2, 1)) rfl ?_
  refine g_aload_n (k := 0) (v := (2, ((r0 : Nat) : Int))) (by decide +kernel : decode (m_byt 65) 8 = .ok (.aload_n 0, 1)) rfl (Or.inl rfl) ?_
  refine g_getf (ci := 5) (f := 1) (by decide +kernel : decode (m_byt 65) 9 = .ok (.getfield 49, 3)) (by decide +kernel) (by decide +kernel) (by decide +kernel) h0 ?_
  exact g_brn (t := 27) (off := 15) (by decide +kernel : decode (m_byt 65) 12 = .ok (.if_icmp .ne 15, 3)) rfl rfl (by decide)
theorem b_65_15 {Z : mZ} {l2 l3 : mV} {r0 r1 : Nat} {K : Nat → mK} {σ : Nat → Nat → Int} {n e s : Nat} (h0 : q_ob K n r0 5) (h1 : q_rp K r0 0) (h2 : q_ob K n (q_rf K r0 0) 1) : m_run Z (65, 15, [(2, ((r0 : Nat) : Int)), (2, ((r1 : Nat) : Int)), l2, l3], [], (K, σ, n, e, s)) = (m_cl Z 14 [(2, ((q_rf K r0 0 : Nat) : Int)), (2, ((r1 : Nat) : Int))] (K, σ, n, e, s)).bind (m_aft (m_run Z) 65 20 [(2, ((r0 : Nat) : Int)), (2, ((r1 : Nat) : Int)), l2, l3] []) := by
  refine g_aload_n (k := 0) (v := (2, ((r0 : Nat) : Int))) (by decide +kernel : decode (m_byt 65) 15 = .ok (.aload_n 0, 1)) rfl (Or.inl rfl) ?_
  refine g_getr (ci := 5) (f := 0) (by decide +kernel : decode (m_byt 65) 16 = .ok (.getfield 12, 3)) (by decide +kernel) (by decide +kernel) (by decide +kernel) h0 h1 ?_
  refine g_aload_n (k := 1) (v := (2, ((r1 : Nat) : Int))) (by decide +kernel : decode (m_byt 65) 19 = .ok (.aload_n 1, 1)) rfl (Or.inl rfl) ?_
  exact g_inv (k := 1) (m' := 14) (np := 1) (as := [(2, ((q_rf K r0 0 : Nat) : Int)), (2, ((r1 : Nat) : Int))]) (by decide +kernel : decode (m_byt 65) 20 = .ok (.invokevirtual 52, 3)) (Or.inl ⟨rfl, rfl⟩) (by decide +kernel) (by decide +kernel) (by decide +kernel) (Nat.le_of_ble_eq_true rfl) rfl (Or.inr (g_rcv (by decide +kernel) h2))
theorem b_65_23 {Z : mZ} {l0 l1 l2 l3 : mV} {s0 : Int} {h : mH} : m_run Z (65, 23, [l0, l1, l2, l3], [(0, s0)], h) = if w32 s0 = 0 then m_run Z (65, 27, [l0, l1, l2, l3], [], h) else m_run Z (65, 26, [l0, l1, l2, l3], [], h) := by
  exact g_brq (t := 27) (off := 4) (by decide +kernel : decode (m_byt 65) 23 = .ok (.ifCond .eq 4, 3)) rfl rfl (by decide)
theorem b_65_26 {Z : mZ} {l0 l1 l2 l3 : mV} {h : mH} : m_run Z (65, 26, [l0, l1, l2, l3], [], h) = some (.inl (9, 0), h) := by
  exact g_vret (by decide +kernel : decode (m_byt 65) 26 = .ok (.return_, 1)) (by decide +kernel)
theorem b_65_27 {Z : mZ} {l2 l3 : mV} {r0 r1 : Nat} {K : Nat → mK} {σ : Nat → Nat → Int} {n e s : Nat} (h0 : q_ob K n r0 5) (h1 : q_rp K r0 0) (h2 : q_ob K n (q_rf K r0 0) 1) : m_run Z (65, 27, [(2, ((r0 : Nat) : Int)), (2, ((r1 : Nat) : Int)), l2, l3], [], (K, σ, n, e, s)) = (m_cl Z 13 [(2, ((q_rf K r0 0 : Nat) : Int)), (2, ((r1 : Nat) : Int))] (K, σ, n, e, s)).bind (m_aft (m_run Z) 65 32 [(2, ((r0 : Nat) : Int)), (2, ((r1 : Nat) : Int)), l2, l3] []) := by
  refine g_aload_n (k := 0) (v := (2, ((r0 : Nat) : Int))) (by decide +kernel : decode (m_byt 65) 27 = .ok (.aload_n 0, 1)) rfl (Or.inl rfl) ?_
  refine g_getr (ci := 5) (f := 0) (by decide +kernel : decode (m_byt 65) 28 = .ok (.getfield 12, 3)) (by decide +kernel) (by decide +kernel) (by decide +kernel) h0 h1 ?_
  refine g_aload_n (k := 1) (v := (2, ((r1 : Nat) : Int))) (by decide +kernel : decode (m_byt 65) 31 = .ok (.aload_n 1, 1)) rfl (Or.inl rfl) ?_
  exact g_inv (k := 1) (m' := 13) (np := 1) (as := [(2, ((q_rf K r0 0 : Nat) : Int)), (2, ((r1 : Nat) : Int))]) (by decide +kernel : decode (m_byt 65) 32 = .ok (.invokevirtual 56, 3)) (Or.inl ⟨rfl, rfl⟩) (by decide +kernel) (by decide +kernel) (by decide +kernel) (Nat.le_of_ble_eq_true rfl) rfl (Or.inr (g_rcv (by decide +kernel) h2))
theorem b_65_35 {Z : mZ} {l1 l3 : mV} {x2 : Int} {r0 : Nat} {K : Nat → mK} {σ : Nat → Nat → Int} {n e s : Nat} (h0 : q_ob K n r0 5) : m_run Z (65, 35, [(2, ((r0 : Nat) : Int)), l1, (0, x2), l3], [], (K, σ, n, e, s)) = m_run Z (65, 52, [(2, ((r0 : Nat) : Int)), l1, (0, x2), (0, 0)], [], (K, (m_up2 (m_up2 σ r0 1 x2) r0 2 (((m_up2 σ r0 1 x2) r0 2) + 1)), n, e, s)) := by
  refine g_aload_n (k := 0) (v := (2, ((r0 : Nat) : Int))) (by decide +kernel : decode (m_byt 65) 35 = .ok (.aload_n 0, 1)) rfl (Or.inl rfl) ?_
  refine g_iload_n (k := 2) (x := x2) (by decide +kernel : decode (m_byt 65) 36 = .ok (.iload_n 2, 1)) rfl ?_
  refine g_putf (ci := 5) (f := 1) (by decide +kernel : decode (m_byt 65) 37 = .ok (.putfield 49, 3)) (by decide +kernel) (by decide +kernel) (by decide +kernel) h0 ?_
  show m_run Z (65, 40, [(2, ((r0 : Nat) : Int)), l1, (0, x2), l3], [], (K, (m_up2 σ r0 1 x2), n, e, s)) = _
  refine g_aload_n (k := 0) (v := (2, ((r0 : Nat) : Int))) (by decide +kernel : decode (m_byt 65) 40 = .ok (.aload_n 0, 1)) rfl (Or.inl rfl) ?_
  refine g_base (by decide +kernel : decode (m_byt 65) 41 = .ok (.dup, 1)) rfl rfl ?_
  show m_run Z (65, 42, [(2, ((r0 : Nat) : Int)), l1, (0, x2), l3], [(2, ((r0 : Nat) : Int)), (2, ((r0 : Nat) : Int))], (K, (m_up2 σ r0 1 x2), n, e, s)) = _
  refine g_getf (ci := 5) (f := 2) (by decide +kernel : decode (m_byt 65) 42 = .ok (.getfield 45, 3)) (by decide +kernel) (by decide +kernel) (by decide +kernel) h0 ?_
  refine g_base (by decide +kernel : decode (m_byt 65) 45 = .ok (.iconst 1, 1)) rfl rfl ?_
  show m_run Z (65, 46, [(2, ((r0 : Nat) : Int)), l1, (0, x2), l3], [(0, 1), (0, ((m_up2 σ r0 1 x2) r0 2)), (2, ((r0 : Nat) : Int))], (K, (m_up2 σ r0 1 x2), n, e, s)) = _
  refine g_base (by decide +kernel : decode (m_byt 65) 46 = .ok (.iadd, 1)) rfl rfl ?_
  show m_run Z (65, 47, [(2, ((r0 : Nat) : Int)), l1, (0, x2), l3], [(0, (((m_up2 σ r0 1 x2) r0 2) + 1)), (2, ((r0 : Nat) : Int))], (K, (m_up2 σ r0 1 x2), n, e, s)) = _
  refine g_putf (ci := 5) (f := 2) (by decide +kernel : decode (m_byt 65) 47 = .ok (.putfield 45, 3)) (by decide +kernel) (by decide +kernel) (by decide +kernel) h0 ?_
  show m_run Z (65, 50, [(2, ((r0 : Nat) : Int)), l1, (0, x2), l3], [], (K, (m_up2 (m_up2 σ r0 1 x2) r0 2 (((m_up2 σ r0 1 x2) r0 2) + 1)), n, e, s)) = _
  refine g_base (by decide +kernel : decode (m_byt 65) 50 = .ok (.iconst 0, 1)) rfl rfl ?_
  show m_run Z (65, 51, [(2, ((r0 : Nat) : Int)), l1, (0, x2), l3], [(0, 0)], (K, (m_up2 (m_up2 σ r0 1 x2) r0 2 (((m_up2 σ r0 1 x2) r0 2) + 1)), n, e, s)) = _
  refine g_istore_n (k := 3) (by decide +kernel : decode (m_byt 65) 51 = .ok (.istore_n 3, 1)) (Nat.le_of_ble_eq_true rfl) ?_
  show m_run Z (65, 52, [(2, ((r0 : Nat) : Int)), l1, (0, x2), (0, 0)], [], (K, (m_up2 (m_up2 σ r0 1 x2) r0 2 (((m_up2 σ r0 1 x2) r0 2) + 1)), n, e, s)) = _
  rfl
theorem b_65_52 {Z : mZ} {l0 l1 l2 : mV} {x3 : Int} {h : mH} : m_run Z (65, 52, [l0, l1, l2, (0, x3)], [], h) = if w32 8 ≤ w32 x3 then m_run Z (65, 97, [l0, l1, l2, (0, x3)], [], h) else m_run Z (65, 58, [l0, l1, l2, (0, x3)], [], h) := by
  refine g_iload_n (k := 3) (x := x3) (by decide +kernel : decode (m_byt 65) 52 = .ok (.iload_n 3, 1)) rfl ?_
  refine g_base (by decide +kernel : decode (m_byt 65) 53 = .ok (.bipush 8, 2)) rfl rfl ?_
  show m_run Z (65, 55, [l0, l1, l2, (0, x3)], [(0, 8), (0, x3)], h) = _
  exact g_brq (t := 97) (off := 42) (by decide +kernel : decode (m_byt 65) 55 = .ok (.if_icmp .ge 42, 3)) rfl rfl (by decide)
theorem b_65_58 {Z : mZ} {l1 l2 : mV} {x3 : Int} {r0 : Nat} {K : Nat → mK} {σ : Nat → Nat → Int} {n e s : Nat} (h0 : q_ob K n r0 5) (h1 : q_rp K r0 4) (h2 : q_rp K r0 0) (h3 : q_ob K n (q_rf K r0 0) 1) (h4 : q_rp K (q_rf K r0 0) 3) (h5 : q_ob K n (q_rf K ((q_rf K r0 0)) 3) 3) : m_run Z (65, 58, [(2, ((r0 : Nat) : Int)), l1, l2, (0, x3)], [], (K, σ, n, e, s)) = (m_cl Z 44 [(2, ((q_rf K ((q_rf K r0 0)) 3 : Nat) : Int)), (0, x3)] (K, σ, n, e, s)).bind (m_aft (m_run Z) 65 71 [(2, ((r0 : Nat) : Int)), l1, l2, (0, x3)] [(0, x3), (2, ((q_rf K r0 4 : Nat) : Int))]) := by
  refine g_aload_n (k := 0) (v := (2, ((r0 : Nat) : Int))) (by decide +kernel : decode (m_byt 65) 58 = .ok (.aload_n 0, 1)) rfl (Or.inl rfl) ?_
  refine g_getr (ci := 5) (f := 4) (by decide +kernel : decode (m_byt 65) 59 = .ok (.getfield 23, 3)) (by decide +kernel) (by decide +kernel) (by decide +kernel) h0 h1 ?_
  refine g_iload_n (k := 3) (x := x3) (by decide +kernel : decode (m_byt 65) 62 = .ok (.iload_n 3, 1)) rfl ?_
  refine g_aload_n (k := 0) (v := (2, ((r0 : Nat) : Int))) (by decide +kernel : decode (m_byt 65) 63 = .ok (.aload_n 0, 1)) rfl (Or.inl rfl) ?_
  refine g_getr (ci := 5) (f := 0) (by decide +kernel : decode (m_byt 65) 64 = .ok (.getfield 12, 3)) (by decide +kernel) (by decide +kernel) (by decide +kernel) h0 h2 ?_
  refine g_getr (ci := 1) (f := 3) (by decide +kernel : decode (m_byt 65) 67 = .ok (.getfield 60, 3)) (by decide +kernel) (by decide +kernel) (by decide +kernel) h3 h4 ?_
  refine g_iload_n (k := 3) (x := x3) (by decide +kernel : decode (m_byt 65) 70 = .ok (.iload_n 3, 1)) rfl ?_
  exact g_inv (k := 1) (m' := 44) (np := 1) (as := [(2, ((q_rf K ((q_rf K r0 0)) 3 : Nat) : Int)), (0, x3)]) (by decide +kernel : decode (m_byt 65) 71 = .ok (.invokevirtual 61, 3)) (Or.inl ⟨rfl, rfl⟩) (by decide +kernel) (by decide +kernel) (by decide +kernel) (Nat.le_of_ble_eq_true rfl) rfl (Or.inr (g_rcv (by decide +kernel) h5))
theorem b_65_74 {Z : mZ} {l1 : mV} {s0 s1 x2 x3 : Int} {s2 r0 : Nat} {K : Nat → mK} {σ : Nat → Nat → Int} {n e s : Nat} (h0 : q_ob K n r0 5) (h1 : q_rp K r0 0) (h2 : q_ob K n (q_rf K r0 0) 1) (h3 : q_rp K (q_rf K r0 0) 4) (h4 : q_ob K n (q_rf K ((q_rf K r0 0)) 4) 3) : m_run Z (65, 74, [(2, ((r0 : Nat) : Int)), l1, (0, x2), (0, x3)], [(0, s0), (0, s1), (2, ((s2 : Nat) : Int))], (K, σ, n, e, s)) = (m_cl Z 44 [(2, ((q_rf K ((q_rf K r0 0)) 4 : Nat) : Int)), (0, x3)] (K, σ, n, e, s)).bind (m_aft (m_run Z) 65 83 [(2, ((r0 : Nat) : Int)), l1, (0, x2), (0, x3)] [(0, x2), (0, s0), (0, s1), (2, ((s2 : Nat) : Int))]) := by
  refine g_iload_n (k := 2) (x := x2) (by decide +kernel : decode (m_byt 65) 74 = .ok (.iload_n 2, 1)) rfl ?_
  refine g_aload_n (k := 0) (v := (2, ((r0 : Nat) : Int))) (by decide +kernel : decode (m_byt 65) 75 = .ok (.aload_n 0, 1)) rfl (Or.inl rfl) ?_
  refine g_getr (ci := 5) (f := 0) (by decide +kernel : decode (m_byt 65) 76 = .ok (.getfield 12, 3)) (by decide +kernel) (by decide +kernel) (by decide +kernel) h0 h1 ?_
  refine g_getr (ci := 1) (f := 4) (by decide +kernel : decode (m_byt 65) 79 = .ok (.getfield 65, 3)) (by decide +kernel) (by decide +kernel) (by decide +kernel) h2 h3 ?_
  refine g_iload_n (k := 3) (x := x3) (by decide +kernel : decode (m_byt 65) 82 = .ok (.iload_n 3, 1)) rfl ?_
  exact g_inv (k := 1) (m' := 44) (np := 1) (as := [(2, ((q_rf K ((q_rf K r0 0)) 4 : Nat) : Int)), (0, x3)]) (by decide +kernel : decode (m_byt 65) 83 = .ok (.invokevirtual 61, 3)) (Or.inl ⟨rfl, rfl⟩) (by decide +kernel) (by decide +kernel) (by decide +kernel) (Nat.le_of_ble_eq_true rfl) rfl (Or.inr (g_rcv (by decide +kernel) h4))
theorem b_65_86 {Z : mZ} {l0 l1 l2 l3 : mV} {s0 s1 s2 s3 : Int} {s4 : Nat} {K : Nat → mK} {σ : Nat → Nat → Int} {n e s : Nat} (h0 : q_ob K n s4 3) : m_run Z (65, 86, [l0, l1, l2, l3], [(0, s0), (0, s1), (0, s2), (0, s3), (2, ((s4 : Nat) : Int))], (K, σ, n, e, s)) = (m_cl Z 45 [(2, ((s4 : Nat) : Int)), (0, s3), (0, (s2 + (s1 * s0)))] (K, σ, n, e, s)).bind (m_aft (m_run Z) 65 88 [l0, l1, l2, l3] []) := by
  refine g_base (by decide +kernel : decode (m_byt 65) 86 = .ok (.imul, 1)) rfl rfl ?_
  show m_run Z (65, 87, [l0, l1, l2, l3], [(0, (s1 * s0)), (0, s2), (0, s3), (2, ((s4 : Nat) : Int))], (K, σ, n, e, s)) = _
  refine g_base (by decide +kernel : decode (m_byt 65) 87 = .ok (.iadd, 1)) rfl rfl ?_
  show m_run Z (65, 88, [l0, l1, l2, l3], [(0, (s2 + (s1 * s0))), (0, s3), (2, ((s4 : Nat) : Int))], (K, σ, n, e, s)) = _
  exact g_inv (k := 1) (m' := 45) (np := 2) (as := [(2, ((s4 : Nat) : Int)), (0, s3), (0, (s2 + (s1 * s0)))]) (by decide +kernel : decode (m_byt 65) 88 = .ok (.invokevirtual 68, 3)) (Or.inl ⟨rfl, rfl⟩) (by decide +kernel) (by decide +kernel) (by decide +kernel) (Nat.le_of_ble_eq_true rfl) rfl (Or.inr (g_rcv (by decide +kernel) h0))
theorem b_65_91 {Z : mZ} {l0 l1 : mV} {x3 x2 : Int} {h : mH} : m_run Z (65, 91, [l0, l1, (0, x2), (0, x3)], [], h) = m_run Z (65, 52, [l0, l1, (0, x2), (0, x3 + 1)], [], h) := by
  refine g_iinc (k := 3) (x := x3) (by decide +kernel : decode (m_byt 65) 91 = .ok (.iinc 3 1, 3)) rfl (Nat.le_of_ble_eq_true rfl) ?_
  show m_run Z (65, 94, [l0, l1, (0, x2), (0, x3 + 1)], [], h) = _
  refine g_jmp (t := 52) (by decide +kernel : decode (m_byt 65) 94 = .ok (.goto (-42), 3)) (by decide) ?_
  rfl
theorem b_65_97 {Z : mZ} {l1 l2 l3 : mV} {r0 : Nat} {K : Nat → mK} {σ : Nat → Nat → Int} {n e s : Nat} (h0 : q_ob K n r0 5) : m_run Z (65, 97, [(2, ((r0 : Nat) : Int)), l1, l2, l3], [], (K, σ, n, e, s)) = (m_cl Z 72 [(2, ((r0 : Nat) : Int))] (K, σ, n, e, s)).bind (m_aft (m_run Z) 65 98 [(2, ((r0 : Nat) : Int)), l1, l2, l3] []) := by
  refine g_aload_n (k := 0) (v := (2, ((r0 : Nat) : Int))) (by decide +kernel : decode (m_byt 65) 97 = .ok (.aload_n 0, 1)) rfl (Or.inl rfl) ?_
  exact g_inv (k := 1) (m' := 72) (np := 0) (as := [(2, ((r0 : Nat) : Int))]) (by decide +kernel : decode (m_byt 65) 98 = .ok (.invokevirtual 72, 3)) (Or.inl ⟨rfl, rfl⟩) (by decide +kernel) (by decide +kernel) (by decide +kernel) (Nat.le_of_ble_eq_true rfl) rfl (Or.inr (g_rcv (by decide +kernel) h0))
theorem b_65_101 {Z : mZ} {l1 l2 l3 : mV} {r0 : Nat} {K : Nat → mK} {σ : Nat → Nat → Int} {n e s : Nat} (h0 : q_ob K n r0 5) : m_run Z (65, 101, [(2, ((r0 : Nat) : Int)), l1, l2, l3], [], (K, σ, n, e, s)) = (m_cl Z 74 [(2, ((r0 : Nat) : Int))] (K, σ, n, e, s)).bind (m_aft (m_run Z) 65 102 [(2, ((r0 : Nat) : Int)), l1, l2, l3] []) := by
  refine g_aload_n (k := 0) (v := (2, ((r0 : Nat) : Int))) (by decide +kernel : decode (m_byt 65) 101 = .ok (.aload_n 0, 1)) rfl (Or.inl rfl) ?_
  exact g_inv (k := 1) (m' := 74) (np := 0) (as := [(2, ((r0 : Nat) : Int))]) (by decide +kernel : decode (m_byt 65) 102 = .ok (.invokevirtual 75, 3)) (Or.inl ⟨rfl, rfl⟩) (by decide +kernel) (by decide +kernel) (by decide +kernel) (Nat.le_of_ble_eq_true rfl) rfl (Or.inr (g_rcv (by decide +kernel) h0))
theorem b_65_105 {Z : mZ} {l1 l2 l3 : mV} {r0 : Nat} {K : Nat → mK} {σ : Nat → Nat → Int} {n e s : Nat} (h0 : q_ob K n r0 5) : m_run Z (65, 105, [(2, ((r0 : Nat) : Int)), l1, l2, l3], [], (K, σ, n, e, s)) = (m_cl Z 84 [(2, ((r0 : Nat) : Int))] (K, σ, n, e, s)).bind (m_aft (m_run Z) 65 106 [(2, ((r0 : Nat) : Int)), l1, l2, l3] []) := by
  refine g_aload_n (k := 0) (v := (2, ((r0 : Nat) : Int))) (by decide +kernel : decode (m_byt 65) 105 = .ok (.aload_n 0, 1)) rfl (Or.inl rfl) ?_
  exact g_inv (k := 1) (m' := 84) (np := 0) (as := [(2, ((r0 : Nat) : Int))]) (by decide +kernel : decode (m_byt 65) 106 = .ok (.invokevirtual 78, 3)) (Or.inl ⟨rfl, rfl⟩) (by decide +kernel) (by decide +kernel) (by decide +kernel) (Nat.le_of_ble_eq_true rfl) rfl (Or.inr (g_rcv (by decide +kernel) h0))
theorem b_65_109 {Z : mZ} {l0 l1 l2 l3 : mV} {h : mH} : m_run Z (65, 109, [l0, l1, l2, l3], [], h) = some (.inl (9, 0), h) := by
  exact g_vret (by decide +kernel : decode (m_byt 65) 109 = .ok (.return_, 1)) (by decide +kernel)
theorem e_66 {Z : mZ} {r0 : Nat} {h : mH} : m_cl Z 66 [(2, ((r0 : Nat) : Int))] h = m_run Z (66, 0, [(2, ((r0 : Nat) : Int))], [], h) := g_ent (k := 1) (by decide) (by decide +kernel) (Nat.le_of_ble_eq_true rfl) (by decide +kernel) rfl
theorem b_66_0 {Z : mZ} {r0 : Nat} {K : Nat → mK} {σ : Nat → Nat → Int} {n e s : Nat} (h0 : q_ob K n r0 5) : m_run Z (66, 0, [(2, ((r0 : Nat) : Int))], [], (K, σ, n, e, s)) = if w32 (σ r0 3) = 0 then m_run Z (66, 21, [(2, ((r0 : Nat) : Int))], [], (K, σ, n, e, s)) else m_run Z (66, 7, [(2, ((r0 : Nat) : Int))], [], (K, σ, n, e, s)) := by
  refine g_aload_n (k := 0) (v := (2, ((r0 : Nat) : Int))) (by decide +kernel : decode (m_byt 66) 0 = .ok (.aload_n 0, 1)) rfl (Or.inl rfl) ?_
  refine g_getf (ci := 5) (f := 3) (by decide +kernel : decode (m_byt 66) 1 = .ok (.getfield 81, 3)) (by decide +kernel) (by decide +kernel) (by decide +kernel) h0 ?_
  exact g_brq (t := 21) (off := 17) (by decide +kernel : decode (m_byt 66) 4 = .ok (.ifCond .eq 17, 3)) rfl rfl (by decide)
theorem b_66_7 {Z : mZ} {r0 : Nat} {K : Nat → mK} {σ : Nat → Nat → Int} {n e s : Nat} (h0 : q_ob K n r0 5) (h1 : q_rp K r0 0) (h2 : q_ob K n (q_rf K r0 0) 1) : m_run Z (66, 7, [(2, ((r0 : Nat) : Int))], [], (K, σ, n, e, s)) = if w32 (σ ((q_rf K r0 0)) 1) ≤ 0 then m_run Z (66, 21, [(2, ((r0 : Nat) : Int))], [], (K, σ, n, e, s)) else m_run Z (66, 17, [(2, ((r0 : Nat) : Int))], [], (K, σ, n, e, s)) := by
  refine g_aload_n (k := 0) (v := (2, ((r0 : Nat) : Int))) (by decide +kernel : decode (m_byt 66) 7 = .ok (.aload_n 0, 1)) rfl (Or.inl rfl) ?_
  refine g_getr (ci := 5) (f := 0) (by decide +kernel : decode (m_byt 66) 8 = .ok (.getfield 12, 3)) (by decide +kernel) (by decide +kernel) (by decide +kernel) h0 h1 ?_
  refine g_getf (ci := 1) (f := 1) (by decide +kernel : decode (m_byt 66) 11 = .ok (.getfield 85, 3)) (by decide +kernel) (by decide +kernel) (by decide +kernel) h2 ?_
  exact g_brq (t := 21) (off := 7) (by decide +kernel : decode (m_byt 66) 14 = .ok (.ifCond .le 7, 3)) rfl rfl (by decide)
theorem b_66_17 {Z : mZ} {l0 : mV} {h : mH} : m_run Z (66, 17, [l0], [], h) = some (.inl (0, 1), h) := by
  refine g_base (by decide +kernel : decode (m_byt 66) 17 = .ok (.iconst 1, 1)) rfl rfl ?_
  show m_run Z (66, 18, [l0], [(0, 1)], h) = _
  refine g_jmp (t := 22) (by decide +kernel : decode (m_byt 66) 18 = .ok (.goto 4, 3)) (by decide) ?_
  exact g_zret (by decide +kernel : decode (m_byt 66) 22 = .ok (.ireturn, 1)) (by decide +kernel) (by decide)
theorem b_66_21 {Z : mZ} {l0 : mV} {h : mH} : m_run Z (66, 21, [l0], [], h) = m_run Z (66, 22, [l0], [(0, 0)], h) := by
  refine g_base (by decide +kernel : decode (m_byt 66) 21 = .ok (.iconst 0, 1)) rfl rfl ?_
  show m_run Z (66, 22, [l0], [(0, 0)], h) = _
  rfl
theorem b_66_22 {Z : mZ} {l0 : mV} {s0 : Int} {h : mH} (h0 : w32 s0 = 0 ∨ w32 s0 = 1) : m_run Z (66, 22, [l0], [(0, s0)], h) = some (.inl (0, s0), h) := by
  exact g_zret (by decide +kernel : decode (m_byt 66) 22 = .ok (.ireturn, 1)) (by decide +kernel) h0
theorem e_67 {Z : mZ} {r0 : Nat} {h : mH} : m_cl Z 67 [(2, ((r0 : Nat) : Int))] h = m_run Z (67, 0, [(2, ((r0 : Nat) : Int))], [], h) := g_ent (k := 1) (by decide) (by decide +kernel) (Nat.le_of_ble_eq_true rfl) (by decide +kernel) rfl
theorem b_67_0 {Z : mZ} {r0 : Nat} {K : Nat → mK} {σ : Nat → Nat → Int} {n e s : Nat} (h0 : q_ob K n r0 5) (h1 : q_rp K r0 0) (h2 : q_ob K n (q_rf K r0 0) 1) : m_run Z (67, 0, [(2, ((r0 : Nat) : Int))], [], (K, σ, n, e, s)) = some (.inl (0, (σ ((q_rf K r0 0)) 0)), (K, σ, n, e, s)) := by
  refine g_aload_n (k := 0) (v := (2, ((r0 : Nat) : Int))) (by decide +kernel : decode (m_byt 67) 0 = .ok (.aload_n 0, 1)) rfl (Or.inl rfl) ?_
  refine g_getr (ci := 5) (f := 0) (by decide +kernel : decode (m_byt 67) 1 = .ok (.getfield 12, 3)) (by decide +kernel) (by decide +kernel) (by decide +kernel) h0 h1 ?_
  refine g_getf (ci := 1) (f := 0) (by decide +kernel : decode (m_byt 67) 4 = .ok (.getfield 87, 3)) (by decide +kernel) (by decide +kernel) (by decide +kernel) h2 ?_
  exact g_iret (by decide +kernel : decode (m_byt 67) 7 = .ok (.ireturn, 1)) (by decide +kernel)
theorem e_68 {Z : mZ} {r0 : Nat} {h : mH} : m_cl Z 68 [(2, ((r0 : Nat) : Int))] h = m_run Z (68, 0, [(2, ((r0 : Nat) : Int))], [], h) := g_ent (k := 1) (by decide) (by decide +kernel) (Nat.le_of_ble_eq_true rfl) (by decide +kernel) rfl
theorem b_68_0 {Z : mZ} {r0 : Nat} {K : Nat → mK} {σ : Nat → Nat → Int} {n e s : Nat} (h0 : q_ob K n r0 5) (h1 : q_rp K r0 0) (h2 : q_ob K n (q_rf K r0 0) 1) : m_run Z (68, 0, [(2, ((r0 : Nat) : Int))], [], (K, σ, n, e, s)) = (m_cl Z 19 [(2, ((q_rf K r0 0 : Nat) : Int))] (K, σ, n, e, s)).bind (m_aft (m_run Z) 68 4 [(2, ((r0 : Nat) : Int))] []) := by
  refine g_aload_n (k := 0) (v := (2, ((r0 : Nat) : Int))) (by decide +kernel : decode (m_byt 68) 0 = .ok (.aload_n 0, 1)) rfl (Or.inl rfl) ?_
  refine g_getr (ci := 5) (f := 0) (by decide +kernel : decode (m_byt 68) 1 = .ok (.getfield 12, 3)) (by decide +kernel) (by decide +kernel) (by decide +kernel) h0 h1 ?_
  exact g_inv (k := 1) (m' := 19) (np := 0) (as := [(2, ((q_rf K r0 0 : Nat) : Int))]) (by decide +kernel : decode (m_byt 68) 4 = .ok (.invokevirtual 90, 3)) (Or.inl ⟨rfl, rfl⟩) (by decide +kernel) (by decide +kernel) (by decide +kernel) (Nat.le_of_ble_eq_true rfl) rfl (Or.inr (g_rcv (by decide +kernel) h2))
theorem b_68_7 {Z : mZ} {l0 : mV} {s0 : Int} {h : mH} : m_run Z (68, 7, [l0], [(0, s0)], h) = some (.inl (0, s0), h) := by
  exact g_iret (by decide +kernel : decode (m_byt 68) 7 = .ok (.ireturn, 1)) (by decide +kernel)
theorem e_69 {Z : mZ} {r0 : Nat} {x1 : Int} {h : mH} : m_cl Z 69 [(2, ((r0 : Nat) : Int)), (0, x1)] h = m_run Z (69, 0, [(2, ((r0 : Nat) : Int)), (0, x1)], [], h) := g_ent (k := 2) (by decide) (by decide +kernel) (Nat.le_of_ble_eq_true rfl) (by decide +kernel) rfl
theorem b_69_0 {Z : mZ} {x1 : Int} {r0 : Nat} {K : Nat → mK} {σ : Nat → Nat → Int} {n e s : Nat} (h0 : q_ob K n r0 5) (h1 : q_rp K r0 0) (h2 : q_ob K n (q_rf K r0 0) 1) (h3 : q_rp K (q_rf K r0 0) 7) (h4 : q_ob K n (q_rf K ((q_rf K r0 0)) 7) 3) : m_run Z (69, 0, [(2, ((r0 : Nat) : Int)), (0, x1)], [], (K, σ, n, e, s)) = (m_cl Z 44 [(2, ((q_rf K ((q_rf K r0 0)) 7 : Nat) : Int)), (0, x1)] (K, σ, n, e, s)).bind (m_aft (m_run Z) 69 8 [(2, ((r0 : Nat) : Int)), (0, x1)] []) := by
  refine g_aload_n (k := 0) (v := (2, ((r0 : Nat) : Int))) (by decide +kernel : decode (m_byt 69) 0 = .ok (.aload_n 0, 1)) rfl (Or.inl rfl) ?_
  refine g_getr (ci := 5) (f := 0) (by decide +kernel : decode (m_byt 69) 1 = .ok (.getfield 12, 3)) (by decide +kernel) (by decide +kernel) (by decide +kernel) h0 h1 ?_
  refine g_getr (ci := 1) (f := 7) (by decide +kernel : decode (m_byt 69) 4 = .ok (.getfield 94, 3)) (by decide +kernel) (by decide +kernel) (by decide +kernel) h2 h3 ?_
  refine g_iload_n (k := 1) (x := x1) (by decide +kernel : decode (m_byt 69) 7 = .ok (.iload_n 1, 1)) rfl ?_
  exact g_inv (k := 1) (m' := 44) (np := 1) (as := [(2, ((q_rf K ((q_rf K r0 0)) 7 : Nat) : Int)), (0, x1)]) (by decide +kernel : decode (m_byt 69) 8 = .ok (.invokevirtual 61, 3)) (Or.inl ⟨rfl, rfl⟩) (by decide +kernel) (by decide +kernel) (by decide +kernel) (Nat.le_of_ble_eq_true rfl) rfl (Or.inr (g_rcv (by decide +kernel) h4))
theorem b_69_11 {Z : mZ} {l0 l1 : mV} {s0 : Int} {h : mH} : m_run Z (69, 11, [l0, l1], [(0, s0)], h) = some (.inl (0, s0), h) := by
  exact g_iret (by decide +kernel : decode (m_byt 69) 11 = .ok (.ireturn, 1)) (by decide +kernel)
theorem e_70 {Z : mZ} {r0 : Nat} {x1 : Int} {h : mH} : m_cl Z 70 [(2, ((r0 : Nat) : Int)), (0, x1)] h = m_run Z (70, 0, [(2, ((r0 : Nat) : Int)), (0, x1)], [], h) := g_ent (k := 2) (by decide) (by decide +kernel) (Nat.le_of_ble_eq_true rfl) (by decide +kernel) rfl
theorem b_70_0 {Z : mZ} {x1 : Int} {r0 : Nat} {K : Nat → mK} {σ : Nat → Nat → Int} {n e s : Nat} (h0 : q_ob K n r0 5) (h1 : q_rp K r0 4) (h2 : q_ob K n (q_rf K r0 4) 3) : m_run Z (70, 0, [(2, ((r0 : Nat) : Int)), (0, x1)], [], (K, σ, n, e, s)) = (m_cl Z 44 [(2, ((q_rf K r0 4 : Nat) : Int)), (0, x1)] (K, σ, n, e, s)).bind (m_aft (m_run Z) 70 5 [(2, ((r0 : Nat) : Int)), (0, x1)] []) := by
  refine g_aload_n (k := 0) (v := (2, ((r0 : Nat) : Int))) (by decide +kernel : decode (m_byt 70) 0 = .ok (.aload_n 0, 1)) rfl (Or.inl rfl) ?_
  refine g_getr (ci := 5) (f := 4) (by decide +kernel : decode (m_byt 70) 1 = .ok (.getfield 23, 3)) (by decide +kernel) (by decide +kernel) (by decide +kernel) h0 h1 ?_
  refine g_iload_n (k := 1) (x := x1) (by decide +kernel : decode (m_byt 70) 4 = .ok (.iload_n 1, 1)) rfl ?_
  exact g_inv (k := 1) (m' := 44) (np := 1) (as := [(2, ((q_rf K r0 4 : Nat) : Int)), (0, x1)]) (by decide +kernel : decode (m_byt 70) 5 = .ok (.invokevirtual 61, 3)) (Or.inl ⟨rfl, rfl⟩) (by decide +kernel) (by decide +kernel) (by decide +kernel) (Nat.le_of_ble_eq_true rfl) rfl (Or.inr (g_rcv (by decide +kernel) h2))
theorem b_70_8 {Z : mZ} {l0 l1 : mV} {s0 : Int} {h : mH} : m_run Z (70, 8, [l0, l1], [(0, s0)], h) = some (.inl (0, s0), h) := by
  exact g_iret (by decide +kernel : decode (m_byt 70) 8 = .ok (.ireturn, 1)) (by decide +kernel)
theorem e_71 {Z : mZ} {r0 : Nat} {x1 : Int} {x2 : Int} {h : mH} : m_cl Z 71 [(2, ((r0 : Nat) : Int)), (0, x1), (0, x2)] h = m_run Z (71, 0, [(2, ((r0 : Nat) : Int)), (0, x1), (0, x2)], [], h) := g_ent (k := 3) (by decide) (by decide +kernel) (Nat.le_of_ble_eq_true rfl) (by decide +kernel) rfl
theorem b_71_0 {Z : mZ} {x1 x2 : Int} {r0 : Nat} {K : Nat → mK} {σ : Nat → Nat → Int} {n e s : Nat} (h0 : q_ob K n r0 5) (h1 : q_rp K r0 5) (h2 : q_ob K n (q_rf K r0 5) 3) : m_run Z (71, 0, [(2, ((r0 : Nat) : Int)), (0, x1), (0, x2)], [], (K, σ, n, e, s)) = (m_cl Z 44 [(2, ((q_rf K r0 5 : Nat) : Int)), (0, ((x1 * 8) + x2))] (K, σ, n, e, s)).bind (m_aft (m_run Z) 71 10 [(2, ((r0 : Nat) : Int)), (0, x1), (0, x2)] []) := by
  refine g_aload_n (k := 0) (v := (2, ((r0 : Nat) : Int))) (by decide +kernel : decode (m_byt 71) 0 = .ok (.aload_n 0, 1)) rfl (Or.inl rfl) ?_
  refine g_getr (ci := 5) (f := 5) (by decide +kernel : decode (m_byt 71) 1 = .ok (.getfield 27, 3)) (by decide +kernel) (by decide +kernel) (by decide +kernel) h0 h1 ?_
  refine g_iload_n (k := 1) (x := x1) (by decide +kernel : decode (m_byt 71) 4 = .ok (.iload_n 1, 1)) rfl ?_
  refine g_base (by decide +kernel : decode (m_byt 71) 5 = .ok (.bipush 8, 2)) rfl rfl ?_
  show m_run Z (71, 7, [(2, ((r0 : Nat) : Int)), (0, x1), (0, x2)], [(0, 8), (0, x1), (2, ((q_rf K r0 5 : Nat) : Int))], (K, σ, n, e, s)) = _
  refine g_base (by decide +kernel : decode (m_byt 71) 7 = .ok (.imul, 1)) rfl rfl ?_
  show m_run Z (71, 8, [(2, ((r0 : Nat) : Int)), (0, x1), (0, x2)], [(0, (x1 * 8)), (2, ((q_rf K r0 5 : Nat) : Int))], (K, σ, n, e, s)) = _
  refine g_iload_n (k := 2) (x := x2) (by decide +kernel : decode (m_byt 71) 8 = .ok (.iload_n 2, 1)) rfl ?_
  refine g_base (by decide +kernel : decode (m_byt 71) 9 = .ok (.iadd, 1)) rfl rfl ?_
  show m_run Z (71, 10, [(2, ((r0 : Nat) : Int)), (0, x1), (0, x2)], [(0, ((x1 * 8) + x2)), (2, ((q_rf K r0 5 : Nat) : Int))], (K, σ, n, e, s)) = _
  exact g_inv (k := 1) (m' := 44) (np := 1) (as := [(2, ((q_rf K r0 5 : Nat) : Int)), (0, ((x1 * 8) + x2))]) (by decide +kernel : decode (m_byt 71) 10 = .ok (.invokevirtual 61, 3)) (Or.inl ⟨rfl, rfl⟩) (by decide +kernel) (by decide +kernel) (by decide +kernel) (Nat.le_of_ble_eq_true rfl) rfl (Or.inr (g_rcv (by decide +kernel) h2))
theorem b_71_13 {Z : mZ} {l0 l1 l2 : mV} {s0 : Int} {h : mH} : m_run Z (71, 13, [l0, l1, l2], [(0, s0)], h) = some (.inl (0, s0), h) := by
  exact g_iret (by decide +kernel : decode (m_byt 71) 13 = .ok (.ireturn, 1)) (by decide +kernel)
theorem e_72 {Z : mZ} {r0 : Nat} {h : mH} : m_cl Z 72 [(2, ((r0 : Nat) : Int))] h = m_run Z (72, 0, [(2, ((r0 : Nat) : Int)), (9, 0), (9, 0), (9, 0)], [], h) := g_ent (k := 4) (by decide) (by decide +kernel) (Nat.le_of_ble_eq_true rfl) (by decide +kernel) rfl
theorem b_72_0 {Z : mZ} {l1 l2 l3 : mV} {r0 : Nat} {K : Nat → mK} {σ : Nat → Nat → Int} {n e s : Nat} (h0 : q_ob K n r0 5) (h1 : q_rp K r0 5) (h2 : q_ob K n (q_rf K r0 5) 3) : m_run Z (72, 0, [(2, ((r0 : Nat) : Int)), l1, l2, l3], [], (K, σ, n, e, s)) = (m_cl Z 46 [(2, ((q_rf K r0 5 : Nat) : Int)), (0, 1000000)] (K, σ, n, e, s)).bind (m_aft (m_run Z) 72 6 [(2, ((r0 : Nat) : Int)), l1, l2, l3] []) := by
  refine g_aload_n (k := 0) (v := (2, ((r0 : Nat) : Int))) (by decide +kernel : decode (m_byt 72) 0 = .ok (.aload_n 0, 1)) rfl (Or.inl rfl) ?_
  refine g_getr (ci := 5) (f := 5) (by decide +kernel : decode (m_byt 72) 1 = .ok (.getfield 27, 3)) (by decide +kernel) (by decide +kernel) (by decide +kernel) h0 h1 ?_
  refine g_base (by decide +kernel : decode (m_byt 72) 4 = .ok (.ldc 97, 2)) rfl rfl ?_
  show m_run Z (72, 6, [(2, ((r0 : Nat) : Int)), l1, l2, l3], [(0, 1000000), (2, ((q_rf K r0 5 : Nat) : Int))], (K, σ, n, e, s)) = _
  exact g_inv (k := 1) (m' := 46) (np := 1) (as := [(2, ((q_rf K r0 5 : Nat) : Int)), (0, 1000000)]) (by decide +kernel : decode (m_byt 72) 6 = .ok (.invokevirtual 98, 3)) (Or.inl ⟨rfl, rfl⟩) (by decide +kernel) (by decide +kernel) (by decide +kernel) (Nat.le_of_ble_eq_true rfl) rfl (Or.inr (g_rcv (by decide +kernel) h2))
theorem b_72_9 {Z : mZ} {l1 l2 l3 : mV} {r0 : Nat} {h : mH} : m_run Z (72, 9, [(2, ((r0 : Nat) : Int)), l1, l2, l3], [], h) = m_run Z (72, 11, [(2, ((r0 : Nat) : Int)), (0, 0), l2, l3], [], h) := by
  refine g_base (by decide +kernel : decode (m_byt 72) 9 = .ok (.iconst 0, 1)) rfl rfl ?_
  show m_run Z (72, 10, [(2, ((r0 : Nat) : Int)), l1, l2, l3], [(0, 0)], h) = _
  refine g_istore_n (k := 1) (by decide +kernel : decode (m_byt 72) 10 = .ok (.istore_n 1, 1)) (Nat.le_of_ble_eq_true rfl) ?_
  show m_run Z (72, 11, [(2, ((r0 : Nat) : Int)), (0, 0), l2, l3], [], h) = _
  rfl
theorem b_72_11 {Z : mZ} {l0 l2 l3 : mV} {x1 : Int} {h : mH} : m_run Z (72, 11, [l0, (0, x1), l2, l3], [], h) = if w32 8 ≤ w32 x1 then m_run Z (72, 37, [l0, (0, x1), l2, l3], [], h) else m_run Z (72, 17, [l0, (0, x1), l2, l3], [], h) := by
  refine g_iload_n (k := 1) (x := x1) (by decide +kernel : decode (m_byt 72) 11 = .ok (.iload_n 1, 1)) rfl ?_
  refine g_base (by decide +kernel : decode (m_byt 72) 12 = .ok (.bipush 8, 2)) rfl rfl ?_
  show m_run Z (72, 14, [l0, (0, x1), l2, l3], [(0, 8), (0, x1)], h) = _
  exact g_brq (t := 37) (off := 23) (by decide +kernel : decode (m_byt 72) 14 = .ok (.if_icmp .ge 23, 3)) rfl rfl (by decide)
theorem b_72_17 {Z : mZ} {l2 l3 : mV} {x1 : Int} {r0 : Nat} {K : Nat → mK} {σ : Nat → Nat → Int} {n e s : Nat} (h0 : q_ob K n r0 5) (h1 : q_rp K r0 5) (h2 : q_ob K n (q_rf K r0 5) 3) : m_run Z (72, 17, [(2, ((r0 : Nat) : Int)), (0, x1), l2, l3], [], (K, σ, n, e, s)) = (m_cl Z 45 [(2, ((q_rf K r0 5 : Nat) : Int)), (0, ((x1 * 8) + x1)), (0, 0)] (K, σ, n, e, s)).bind (m_aft (m_run Z) 72 28 [(2, ((r0 : Nat) : Int)), (0, x1), l2, l3] []) := by
  refine g_aload_n (k := 0) (v := (2, ((r0 : Nat) : Int))) (by decide +kernel : decode (m_byt 72) 17 = .ok (.aload_n 0, 1)) rfl (Or.inl rfl) ?_
  refine g_getr (ci := 5) (f := 5) (by decide +kernel : decode (m_byt 72) 18 = .ok (.getfield 27, 3)) (by decide +kernel) (by decide +kernel) (by decide +kernel) h0 h1 ?_
  refine g_iload_n (k := 1) (x := x1) (by decide +kernel : decode (m_byt 72) 21 = .ok (.iload_n 1, 1)) rfl ?_
  refine g_base (by decide +kernel : decode (m_byt 72) 22 = .ok (.bipush 8, 2)) rfl rfl ?_
  show m_run Z (72, 24, [(2, ((r0 : Nat) : Int)), (0, x1), l2, l3], [(0, 8), (0, x1), (2, ((q_rf K r0 5 : Nat) : Int))], (K, σ, n, e, s)) = _
  refine g_base (by decide +kernel : decode (m_byt 72) 24 = .ok (.imul, 1)) rfl rfl ?_
  show m_run Z (72, 25, [(2, ((r0 : Nat) : Int)), (0, x1), l2, l3], [(0, (x1 * 8)), (2, ((q_rf K r0 5 : Nat) : Int))], (K, σ, n, e, s)) = _
  refine g_iload_n (k := 1) (x := x1) (by decide +kernel : decode (m_byt 72) 25 = .ok (.iload_n 1, 1)) rfl ?_
  refine g_base (by decide +kernel : decode (m_byt 72) 26 = .ok (.iadd, 1)) rfl rfl ?_
  show m_run Z (72, 27, [(2, ((r0 : Nat) : Int)), (0, x1), l2, l3], [(0, ((x1 * 8) + x1)), (2, ((q_rf K r0 5 : Nat) : Int))], (K, σ, n, e, s)) = _
  refine g_base (by decide +kernel : decode (m_byt 72) 27 = .ok (.iconst 0, 1)) rfl rfl ?_
  show m_run Z (72, 28, [(2, ((r0 : Nat) : Int)), (0, x1), l2, l3], [(0, 0), (0, ((x1 * 8) + x1)), (2, ((q_rf K r0 5 : Nat) : Int))], (K, σ, n, e, s)) = _
  exact g_inv (k := 1) (m' := 45) (np := 2) (as := [(2, ((q_rf K r0 5 : Nat) : Int)), (0, ((x1 * 8) + x1)), (0, 0)]) (by decide +kernel : decode (m_byt 72) 28 = .ok (.invokevirtual 68, 3)) (Or.inl ⟨rfl, rfl⟩) (by decide +kernel) (by decide +kernel) (by decide +kernel) (Nat.le_of_ble_eq_true rfl) rfl (Or.inr (g_rcv (by decide +kernel) h2))
theorem b_72_31 {Z : mZ} {l2 l3 : mV} {x1 : Int} {r0 : Nat} {h : mH} : m_run Z (72, 31, [(2, ((r0 : Nat) : Int)), (0, x1), l2, l3], [], h) = m_run Z (72, 11, [(2, ((r0 : Nat) : Int)), (0, x1 + 1), l2, l3], [], h) := by
  refine g_iinc (k := 1) (x := x1) (by decide +kernel : decode (m_byt 72) 31 = .ok (.iinc 1 1, 3)) rfl (Nat.le_of_ble_eq_true rfl) ?_
  show m_run Z (72, 34, [(2, ((r0 : Nat) : Int)), (0, x1 + 1), l2, l3], [], h) = _
  refine g_jmp (t := 11) (by decide +kernel : decode (m_byt 72) 34 = .ok (.goto (-23), 3)) (by decide) ?_
  rfl
theorem b_72_37 {Z : mZ} {l1 l2 l3 : mV} {r0 : Nat} {h : mH} : m_run Z (72, 37, [(2, ((r0 : Nat) : Int)), l1, l2, l3], [], h) = m_run Z (72, 39, [(2, ((r0 : Nat) : Int)), (0, 0), l2, l3], [], h) := by
  refine g_base (by decide +kernel : decode (m_byt 72) 37 = .ok (.iconst 0, 1)) rfl rfl ?_
  show m_run Z (72, 38, [(2, ((r0 : Nat) : Int)), l1, l2, l3], [(0, 0)], h) = _
  refine g_istore_n (k := 1) (by decide +kernel : decode (m_byt 72) 38 = .ok (.istore_n 1, 1)) (Nat.le_of_ble_eq_true rfl) ?_
  show m_run Z (72, 39, [(2, ((r0 : Nat) : Int)), (0, 0), l2, l3], [], h) = _
  rfl
theorem b_72_39 {Z : mZ} {l2 l3 : mV} {x1 : Int} {r0 : Nat} {K : Nat → mK} {σ : Nat → Nat → Int} {n e s : Nat} (h0 : q_ob K n r0 5) (h1 : q_rp K r0 0) (h2 : q_ob K n (q_rf K r0 0) 1) : m_run Z (72, 39, [(2, ((r0 : Nat) : Int)), (0, x1), l2, l3], [], (K, σ, n, e, s)) = if w32 (σ ((q_rf K r0 0)) 1) ≤ w32 x1 then m_run Z (72, 116, [(2, ((r0 : Nat) : Int)), (0, x1), l2, l3], [], (K, σ, n, e, s)) else m_run Z (72, 50, [(2, ((r0 : Nat) : Int)), (0, x1), l2, l3], [], (K, σ, n, e, s)) := by
  refine g_iload_n (k := 1) (x := x1) (by decide +kernel : decode (m_byt 72) 39 = .ok (.iload_n 1, 1)) rfl ?_
  refine g_aload_n (k := 0) (v := (2, ((r0 : Nat) : Int))) (by decide +kernel : decode (m_byt 72) 40 = .ok (.aload_n 0, 1)) rfl (Or.inl rfl) ?_
  refine g_getr (ci := 5) (f := 0) (by decide +kernel : decode (m_byt 72) 41 = .ok (.getfield 12, 3)) (by decide +kernel) (by decide +kernel) (by decide +kernel) h0 h1 ?_
  refine g_getf (ci := 1) (f := 1) (by decide +kernel : decode (m_byt 72) 44 = .ok (.getfield 85, 3)) (by decide +kernel) (by decide +kernel) (by decide +kernel) h2 ?_
  exact g_brq (t := 116) (off := 69) (by decide +kernel : decode (m_byt 72) 47 = .ok (.if_icmp .ge 69, 3)) rfl rfl (by decide)
theorem b_72_50 {Z : mZ} {l2 l3 : mV} {x1 : Int} {r0 : Nat} {K : Nat → mK} {σ : Nat → Nat → Int} {n e s : Nat} (h0 : q_ob K n r0 5) (h1 : q_rp K r0 0) (h2 : q_ob K n (q_rf K r0 0) 1) (h3 : q_rp K (q_rf K r0 0) 5) (h4 : q_ob K n (q_rf K ((q_rf K r0 0)) 5) 3) : m_run Z (72, 50, [(2, ((r0 : Nat) : Int)), (0, x1), l2, l3], [], (K, σ, n, e, s)) = (m_cl Z 44 [(2, ((q_rf K ((q_rf K r0 0)) 5 : Nat) : Int)), (0, x1)] (K, σ, n, e, s)).bind (m_aft (m_run Z) 72 58 [(2, ((r0 : Nat) : Int)), (0, x1), l2, l3] []) := by
  refine g_aload_n (k := 0) (v := (2, ((r0 : Nat) : Int))) (by decide +kernel : decode (m_byt 72) 50 = .ok (.aload_n 0, 1)) rfl (Or.inl rfl) ?_
  refine g_getr (ci := 5) (f := 0) (by decide +kernel : decode (m_byt 72) 51 = .ok (.getfield 12, 3)) (by decide +kernel) (by decide +kernel) (by decide +kernel) h0 h1 ?_
  refine g_getr (ci := 1) (f := 5) (by decide +kernel : decode (m_byt 72) 54 = .ok (.getfield 101, 3)) (by decide +kernel) (by decide +kernel) (by decide +kernel) h2 h3 ?_
  refine g_iload_n (k := 1) (x := x1) (by decide +kernel : decode (m_byt 72) 57 = .ok (.iload_n 1, 1)) rfl ?_
  exact g_inv (k := 1) (m' := 44) (np := 1) (as := [(2, ((q_rf K ((q_rf K r0 0)) 5 : Nat) : Int)), (0, x1)]) (by decide +kernel : decode (m_byt 72) 58 = .ok (.invokevirtual 61, 3)) (Or.inl ⟨rfl, rfl⟩) (by decide +kernel) (by decide +kernel) (by decide +kernel) (Nat.le_of_ble_eq_true rfl) rfl (Or.inr (g_rcv (by decide +kernel) h4))
theorem b_72_61 {Z : mZ} {l2 l3 : mV} {s0 x1 : Int} {r0 : Nat} {K : Nat → mK} {σ : Nat → Nat → Int} {n e s : Nat} (h0 : q_ob K n r0 5) (h1 : q_rp K r0 0) (h2 : q_ob K n (q_rf K r0 0) 1) (h3 : q_rp K (q_rf K r0 0) 6) (h4 : q_ob K n (q_rf K ((q_rf K r0 0)) 6) 3) : m_run Z (72, 61, [(2, ((r0 : Nat) : Int)), (0, x1), l2, l3], [(0, s0)], (K, σ, n, e, s)) = (m_cl Z 44 [(2, ((q_rf K ((q_rf K r0 0)) 6 : Nat) : Int)), (0, x1)] (K, σ, n, e, s)).bind (m_aft (m_run Z) 72 70 [(2, ((r0 : Nat) : Int)), (0, x1), (0, s0), l3] []) := by
  refine g_istore_n (k := 2) (by decide +kernel : decode (m_byt 72) 61 = .ok (.istore_n 2, 1)) (Nat.le_of_ble_eq_true rfl) ?_
  show m_run Z (72, 62, [(2, ((r0 : Nat) : Int)), (0, x1), (0, s0), l3], [], (K, σ, n, e, s)) = _
  refine g_aload_n (k := 0) (v := (2, ((r0 : Nat) : Int))) (by decide +kernel : decode (m_byt 72) 62 = .ok (.aload_n 0, 1)) rfl (Or.inl rfl) ?_
  refine g_getr (ci := 5) (f := 0) (by decide +kernel : decode (m_byt 72) 63 = .ok (.getfield 12, 3)) (by decide +kernel) (by decide +kernel) (by decide +kernel) h0 h1 ?_
  refine g_getr (ci := 1) (f := 6) (by decide +kernel : decode (m_byt 72) 66 = .ok (.getfield 104, 3)) (by decide +kernel) (by decide +kernel) (by decide +kernel) h2 h3 ?_
  refine g_iload_n (k := 1) (x := x1) (by decide +kernel : decode (m_byt 72) 69 = .ok (.iload_n 1, 1)) rfl ?_
  exact g_inv (k := 1) (m' := 44) (np := 1) (as := [(2, ((q_rf K ((q_rf K r0 0)) 6 : Nat) : Int)), (0, x1)]) (by decide +kernel : decode (m_byt 72) 70 = .ok (.invokevirtual 61, 3)) (Or.inl ⟨rfl, rfl⟩) (by decide +kernel) (by decide +kernel) (by decide +kernel) (Nat.le_of_ble_eq_true rfl) rfl (Or.inr (g_rcv (by decide +kernel) h4))
theorem b_72_73 {Z : mZ} {l3 : mV} {s0 x2 x1 : Int} {r0 : Nat} {K : Nat → mK} {σ : Nat → Nat → Int} {n e s : Nat} (h0 : q_ob K n r0 5) (h1 : q_rp K r0 5) : m_run Z (72, 73, [(2, ((r0 : Nat) : Int)), (0, x1), (0, x2), l3], [(0, s0)], (K, σ, n, e, s)) = (m_cl Z 69 [(2, ((r0 : Nat) : Int)), (0, x1)] (K, σ, n, e, s)).bind (m_aft (m_run Z) 72 86 [(2, ((r0 : Nat) : Int)), (0, x1), (0, x2), (0, s0)] [(0, ((x2 * 8) + s0)), (2, ((q_rf K r0 5 : Nat) : Int))]) := by
  refine g_istore_n (k := 3) (by decide +kernel : decode (m_byt 72) 73 = .ok (.istore_n 3, 1)) (Nat.le_of_ble_eq_true rfl) ?_
  show m_run Z (72, 74, [(2, ((r0 : Nat) : Int)), (0, x1), (0, x2), (0, s0)], [], (K, σ, n, e, s)) = _
  refine g_aload_n (k := 0) (v := (2, ((r0 : Nat) : Int))) (by decide +kernel : decode (m_byt 72) 74 = .ok (.aload_n 0, 1)) rfl (Or.inl rfl) ?_
  refine g_getr (ci := 5) (f := 5) (by decide +kernel : decode (m_byt 72) 75 = .ok (.getfield 27, 3)) (by decide +kernel) (by decide +kernel) (by decide +kernel) h0 h1 ?_
  refine g_iload_n (k := 2) (x := x2) (by decide +kernel : decode (m_byt 72) 78 = .ok (.iload_n 2, 1)) rfl ?_
  refine g_base (by decide +kernel : decode (m_byt 72) 79 = .ok (.bipush 8, 2)) rfl rfl ?_
  show m_run Z (72, 81, [(2, ((r0 : Nat) : Int)), (0, x1), (0, x2), (0, s0)], [(0, 8), (0, x2), (2, ((q_rf K r0 5 : Nat) : Int))], (K, σ, n, e, s)) = _
  refine g_base (by decide +kernel : decode (m_byt 72) 81 = .ok (.imul, 1)) rfl rfl ?_
  show m_run Z (72, 82, [(2, ((r0 : Nat) : Int)), (0, x1), (0, x2), (0, s0)], [(0, (x2 * 8)), (2, ((q_rf K r0 5 : Nat) : Int))], (K, σ, n, e, s)) = _
  refine g_iload_n (k := 3) (x := s0) (by decide +kernel : decode (m_byt 72) 82 = .ok (.iload_n 3, 1)) rfl ?_
  refine g_base (by decide +kernel : decode (m_byt 72) 83 = .ok (.iadd, 1)) rfl rfl ?_
  show m_run Z (72, 84, [(2, ((r0 : Nat) : Int)), (0, x1), (0, x2), (0, s0)], [(0, ((x2 * 8) + s0)), (2, ((q_rf K r0 5 : Nat) : Int))], (K, σ, n, e, s)) = _
  refine g_aload_n (k := 0) (v := (2, ((r0 : Nat) : Int))) (by decide +kernel : decode (m_byt 72) 84 = .ok (.aload_n 0, 1)) rfl (Or.inl rfl) ?_
  refine g_iload_n (k := 1) (x := x1) (by decide +kernel : decode (m_byt 72) 85 = .ok (.iload_n 1, 1)) rfl ?_
  exact g_inv (k := 1) (m' := 69) (np := 1) (as := [(2, ((r0 : Nat) : Int)), (0, x1)]) (by decide +kernel : decode (m_byt 72) 86 = .ok (.invokevirtual 107, 3)) (Or.inl ⟨rfl, rfl⟩) (by decide +kernel) (by decide +kernel) (by decide +kernel) (Nat.le_of_ble_eq_true rfl) rfl (Or.inr (g_rcv (by decide +kernel) h0))
theorem b_72_89 {Z : mZ} {l0 l1 l2 l3 : mV} {s0 s1 : Int} {s2 : Nat} {K : Nat → mK} {σ : Nat → Nat → Int} {n e s : Nat} (h0 : q_ob K n s2 3) : m_run Z (72, 89, [l0, l1, l2, l3], [(0, s0), (0, s1), (2, ((s2 : Nat) : Int))], (K, σ, n, e, s)) = (m_cl Z 45 [(2, ((s2 : Nat) : Int)), (0, s1), (0, s0)] (K, σ, n, e, s)).bind (m_aft (m_run Z) 72 89 [l0, l1, l2, l3] []) := by
  exact g_inv (k := 1) (m' := 45) (np := 2) (as := [(2, ((s2 : Nat) : Int)), (0, s1), (0, s0)]) (by decide +kernel : decode (m_byt 72) 89 = .ok (.invokevirtual 68, 3)) (Or.inl ⟨rfl, rfl⟩) (by decide +kernel) (by decide +kernel) (by decide +kernel) (Nat.le_of_ble_eq_true rfl) rfl (Or.inr (g_rcv (by decide +kernel) h0))
theorem b_72_92 {Z : mZ} {x3 x2 x1 : Int} {r0 : Nat} {K : Nat → mK} {σ : Nat → Nat → Int} {n e s : Nat} (h0 : q_ob K n r0 5) (h1 : q_rp K r0 5) : m_run Z (72, 92, [(2, ((r0 : Nat) : Int)), (0, x1), (0, x2), (0, x3)], [], (K, σ, n, e, s)) = (m_cl Z 69 [(2, ((r0 : Nat) : Int)), (0, x1)] (K, σ, n, e, s)).bind (m_aft (m_run Z) 72 104 [(2, ((r0 : Nat) : Int)), (0, x1), (0, x2), (0, x3)] [(0, ((x3 * 8) + x2)), (2, ((q_rf K r0 5 : Nat) : Int))]) := by
  refine g_aload_n (k := 0) (v := (2, ((r0 : Nat) : Int))) (by decide +kernel : decode (m_byt 72) 92 = .ok (.aload_n 0, 1)) rfl (Or.inl rfl) ?_
  refine g_getr (ci := 5) (f := 5) (by decide +kernel : decode (m_byt 72) 93 = .ok (.getfield 27, 3)) (by decide +kernel) (by decide +kernel) (by decide +kernel) h0 h1 ?_
  refine g_iload_n (k := 3) (x := x3) (by decide +kernel : decode (m_byt 72) 96 = .ok (.iload_n 3, 1)) rfl ?_
  refine g_base (by decide +kernel : decode (m_byt 72) 97 = .ok (.bipush 8, 2)) rfl rfl ?_
  show m_run Z (72, 99, [(2, ((r0 : Nat) : Int)), (0, x1), (0, x2), (0, x3)], [(0, 8), (0, x3), (2, ((q_rf K r0 5 : Nat) : Int))], (K, σ, n, e, s)) = _
  refine g_base (by decide +kernel : decode (m_byt 72) 99 = .ok (.imul, 1)) rfl rfl ?_
  show m_run Z (72, 100, [(2, ((r0 : Nat) : Int)), (0, x1), (0, x2), (0, x3)], [(0, (x3 * 8)), (2, ((q_rf K r0 5 : Nat) : Int))], (K, σ, n, e, s)) = _
  refine g_iload_n (k := 2) (x := x2) (by decide +kernel : decode (m_byt 72) 100 = .ok (.iload_n 2, 1)) rfl ?_
  refine g_base (by decide +kernel : decode (m_byt 72) 101 = .ok (.iadd, 1)) rfl rfl ?_
  show m_run Z (72, 102, [(2, ((r0 : Nat) : Int)), (0, x1), (0, x2), (0, x3)], [(0, ((x3 * 8) + x2)), (2, ((q_rf K r0 5 : Nat) : Int))], (K, σ, n, e, s)) = _
  refine g_aload_n (k := 0) (v := (2, ((r0 : Nat) : Int))) (by decide +kernel : decode (m_byt 72) 102 = .ok (.aload_n 0, 1)) rfl (Or.inl rfl) ?_
  refine g_iload_n (k := 1) (x := x1) (by decide +kernel : decode (m_byt 72) 103 = .ok (.iload_n 1, 1)) rfl ?_
  exact g_inv (k := 1) (m' := 69) (np := 1) (as := [(2, ((r0 : Nat) : Int)), (0, x1)]) (by decide +kernel : decode (m_byt 72) 104 = .ok (.invokevirtual 107, 3)) (Or.inl ⟨rfl, rfl⟩) (by decide +kernel) (by decide +kernel) (by decide +kernel) (Nat.le_of_ble_eq_true rfl) rfl (Or.inr (g_rcv (by decide +kernel) h0))
theorem b_72_107 {Z : mZ} {l0 l1 l2 l3 : mV} {s0 s1 : Int} {s2 : Nat} {K : Nat → mK} {σ : Nat → Nat → Int} {n e s : Nat} (h0 : q_ob K n s2 3) : m_run Z (72, 107, [l0, l1, l2, l3], [(0, s0), (0, s1), (2, ((s2 : Nat) : Int))], (K, σ, n, e, s)) = (m_cl Z 45 [(2, ((s2 : Nat) : Int)), (0, s1), (0, s0)] (K, σ, n, e, s)).bind (m_aft (m_run Z) 72 107 [l0, l1, l2, l3] []) := by
  exact g_inv (k := 1) (m' := 45) (np := 2) (as := [(2, ((s2 : Nat) : Int)), (0, s1), (0, s0)]) (by decide +kernel : decode (m_byt 72) 107 = .ok (.invokevirtual 68, 3)) (Or.inl ⟨rfl, rfl⟩) (by decide +kernel) (by decide +kernel) (by decide +kernel) (Nat.le_of_ble_eq_true rfl) rfl (Or.inr (g_rcv (by decide +kernel) h0))
theorem b_72_110 {Z : mZ} {l2 l3 : mV} {x1 : Int} {r0 : Nat} {h : mH} : m_run Z (72, 110, [(2, ((r0 : Nat) : Int)), (0, x1), l2, l3], [], h) = m_run Z (72, 39, [(2, ((r0 : Nat) : Int)), (0, x1 + 1), l2, l3], [], h) := by
  refine g_iinc (k := 1) (x := x1) (by decide +kernel : decode (m_byt 72) 110 = .ok (.iinc 1 1, 3)) rfl (Nat.le_of_ble_eq_true rfl) ?_
  show m_run Z (72, 113, [(2, ((r0 : Nat) : Int)), (0, x1 + 1), l2, l3], [], h) = _
  refine g_jmp (t := 39) (by decide +kernel : decode (m_byt 72) 113 = .ok (.goto (-74), 3)) (by decide) ?_
  rfl
theorem b_72_116 {Z : mZ} {l1 l2 l3 : mV} {r0 : Nat} {h : mH} : m_run Z (72, 116, [(2, ((r0 : Nat) : Int)), l1, l2, l3], [], h) = m_run Z (72, 118, [(2, ((r0 : Nat) : Int)), (0, 0), l2, l3], [], h) := by
  refine g_base (by decide +kernel : decode (m_byt 72) 116 = .ok (.iconst 0, 1)) rfl rfl ?_
  show m_run Z (72, 117, [(2, ((r0 : Nat) : Int)), l1, l2, l3], [(0, 0)], h) = _
  refine g_istore_n (k := 1) (by decide +kernel : decode (m_byt 72) 117 = .ok (.istore_n 1, 1)) (Nat.le_of_ble_eq_true rfl) ?_
  show m_run Z (72, 118, [(2, ((r0 : Nat) : Int)), (0, 0), l2, l3], [], h) = _
  rfl
theorem b_72_118 {Z : mZ} {l2 l3 : mV} {x1 : Int} {r0 : Nat} {K : Nat → mK} {σ : Nat → Nat → Int} {n e s : Nat} (h0 : q_ob K n r0 5) (h1 : q_rp K r0 0) (h2 : q_ob K n (q_rf K r0 0) 1) : m_run Z (72, 118, [(2, ((r0 : Nat) : Int)), (0, x1), l2, l3], [], (K, σ, n, e, s)) = if w32 (σ ((q_rf K r0 0)) 0) ≤ w32 x1 then m_run Z (72, 140, [(2, ((r0 : Nat) : Int)), (0, x1), l2, l3], [], (K, σ, n, e, s)) else m_run Z (72, 129, [(2, ((r0 : Nat) : Int)), (0, x1), l2, l3], [], (K, σ, n, e, s)) := by
  refine g_iload_n (k := 1) (x := x1) (by decide +kernel : decode (m_byt 72) 118 = .ok (.iload_n 1, 1)) rfl ?_
  refine g_aload_n (k := 0) (v := (2, ((r0 : Nat) : Int))) (by decide +kernel : decode (m_byt 72) 119 = .ok (.aload_n 0, 1)) rfl (Or.inl rfl) ?_
  refine g_getr (ci := 5) (f := 0) (by decide +kernel : decode (m_byt 72) 120 = .ok (.getfield 12, 3)) (by decide +kernel) (by decide +kernel) (by decide +kernel) h0 h1 ?_
  refine g_getf (ci := 1) (f := 0) (by decide +kernel : decode (m_byt 72) 123 = .ok (.getfield 87, 3)) (by decide +kernel) (by decide +kernel) (by decide +kernel) h2 ?_
  exact g_brq (t := 140) (off := 14) (by decide +kernel : decode (m_byt 72) 126 = .ok (.if_icmp .ge 14, 3)) rfl rfl (by decide)
theorem b_72_129 {Z : mZ} {l2 l3 : mV} {x1 : Int} {r0 : Nat} {K : Nat → mK} {σ : Nat → Nat → Int} {n e s : Nat} (h0 : q_ob K n r0 5) : m_run Z (72, 129, [(2, ((r0 : Nat) : Int)), (0, x1), l2, l3], [], (K, σ, n, e, s)) = (m_cl Z 73 [(2, ((r0 : Nat) : Int)), (0, x1)] (K, σ, n, e, s)).bind (m_aft (m_run Z) 72 131 [(2, ((r0 : Nat) : Int)), (0, x1), l2, l3] []) := by
  refine g_aload_n (k := 0) (v := (2, ((r0 : Nat) : Int))) (by decide +kernel : decode (m_byt 72) 129 = .ok (.aload_n 0, 1)) rfl (Or.inl rfl) ?_
  refine g_iload_n (k := 1) (x := x1) (by decide +kernel : decode (m_byt 72) 130 = .ok (.iload_n 1, 1)) rfl ?_
  exact g_inv (k := 1) (m' := 73) (np := 1) (as := [(2, ((r0 : Nat) : Int)), (0, x1)]) (by decide +kernel : decode (m_byt 72) 131 = .ok (.invokevirtual 110, 3)) (Or.inl ⟨rfl, rfl⟩) (by decide +kernel) (by decide +kernel) (by decide +kernel) (Nat.le_of_ble_eq_true rfl) rfl (Or.inr (g_rcv (by decide +kernel) h0))
theorem b_72_134 {Z : mZ} {l2 l3 : mV} {x1 : Int} {r0 : Nat} {h : mH} : m_run Z (72, 134, [(2, ((r0 : Nat) : Int)), (0, x1), l2, l3], [], h) = m_run Z (72, 118, [(2, ((r0 : Nat) : Int)), (0, x1 + 1), l2, l3], [], h) := by
  refine g_iinc (k := 1) (x := x1) (by decide +kernel : decode (m_byt 72) 134 = .ok (.iinc 1 1, 3)) rfl (Nat.le_of_ble_eq_true rfl) ?_
  show m_run Z (72, 137, [(2, ((r0 : Nat) : Int)), (0, x1 + 1), l2, l3], [], h) = _
  refine g_jmp (t := 118) (by decide +kernel : decode (m_byt 72) 137 = .ok (.goto (-19), 3)) (by decide) ?_
  rfl
theorem b_72_140 {Z : mZ} {l1 l2 l3 : mV} {r0 : Nat} {K : Nat → mK} {σ : Nat → Nat → Int} {n e s : Nat} (h0 : q_ob K n r0 5) (h1 : w32 1 = 0 ∨ w32 1 = 1) : m_run Z (72, 140, [(2, ((r0 : Nat) : Int)), l1, l2, l3], [], (K, σ, n, e, s)) = m_run Z (72, 147, [(2, ((r0 : Nat) : Int)), (0, 0), l2, l3], [], (K, (m_up2 σ r0 3 1), n, e, s)) := by
  refine g_aload_n (k := 0) (v := (2, ((r0 : Nat) : Int))) (by decide +kernel : decode (m_byt 72) 140 = .ok (.aload_n 0, 1)) rfl (Or.inl rfl) ?_
  refine g_base (by decide +kernel : decode (m_byt 72) 141 = .ok (.iconst 1, 1)) rfl rfl ?_
  show m_run Z (72, 142, [(2, ((r0 : Nat) : Int)), l1, l2, l3], [(0, 1), (2, ((r0 : Nat) : Int))], (K, σ, n, e, s)) = _
  refine g_putz (ci := 5) (f := 3) (by decide +kernel : decode (m_byt 72) 142 = .ok (.putfield 81, 3)) (by decide +kernel) (by decide +kernel) (by decide +kernel) h0 h1 ?_
  show m_run Z (72, 145, [(2, ((r0 : Nat) : Int)), l1, l2, l3], [], (K, (m_up2 σ r0 3 1), n, e, s)) = _
  refine g_base (by decide +kernel : decode (m_byt 72) 145 = .ok (.iconst 0, 1)) rfl rfl ?_
  show m_run Z (72, 146, [(2, ((r0 : Nat) : Int)), l1, l2, l3], [(0, 0)], (K, (m_up2 σ r0 3 1), n, e, s)) = _
  refine g_istore_n (k := 1) (by decide +kernel : decode (m_byt 72) 146 = .ok (.istore_n 1, 1)) (Nat.le_of_ble_eq_true rfl) ?_
  show m_run Z (72, 147, [(2, ((r0 : Nat) : Int)), (0, 0), l2, l3], [], (K, (m_up2 σ r0 3 1), n, e, s)) = _
  rfl
theorem b_72_147 {Z : mZ} {l2 l3 : mV} {x1 : Int} {r0 : Nat} {K : Nat → mK} {σ : Nat → Nat → Int} {n e s : Nat} (h0 : q_ob K n r0 5) (h1 : q_rp K r0 0) (h2 : q_ob K n (q_rf K r0 0) 1) : m_run Z (72, 147, [(2, ((r0 : Nat) : Int)), (0, x1), l2, l3], [], (K, σ, n, e, s)) = if w32 (σ ((q_rf K r0 0)) 0) ≤ w32 x1 then m_run Z (72, 191, [(2, ((r0 : Nat) : Int)), (0, x1), l2, l3], [], (K, σ, n, e, s)) else m_run Z (72, 158, [(2, ((r0 : Nat) : Int)), (0, x1), l2, l3], [], (K, σ, n, e, s)) := by
  refine g_iload_n (k := 1) (x := x1) (by decide +kernel : decode (m_byt 72) 147 = .ok (.iload_n 1, 1)) rfl ?_
  refine g_aload_n (k := 0) (v := (2, ((r0 : Nat) : Int))) (by decide +kernel : decode (m_byt 72) 148 = .ok (.aload_n 0, 1)) rfl (Or.inl rfl) ?_
  refine g_getr (ci := 5) (f := 0) (by decide +kernel : decode (m_byt 72) 149 = .ok (.getfield 12, 3)) (by decide +kernel) (by decide +kernel) (by decide +kernel) h0 h1 ?_
  refine g_getf (ci := 1) (f := 0) (by decide +kernel : decode (m_byt 72) 152 = .ok (.getfield 87, 3)) (by decide +kernel) (by decide +kernel) (by decide +kernel) h2 ?_
  exact g_brq (t := 191) (off := 36) (by decide +kernel : decode (m_byt 72) 155 = .ok (.if_icmp .ge 36, 3)) rfl rfl (by decide)
theorem b_72_158 {Z : mZ} {l1 l2 l3 : mV} {r0 : Nat} {K : Nat → mK} {σ : Nat → Nat → Int} {n e s : Nat} (h0 : q_ob K n r0 5) : m_run Z (72, 158, [(2, ((r0 : Nat) : Int)), l1, l2, l3], [], (K, σ, n, e, s)) = if w32 (σ r0 3) = 0 then m_run Z (72, 181, [(2, ((r0 : Nat) : Int)), l1, l2, l3], [(2, ((r0 : Nat) : Int))], (K, σ, n, e, s)) else m_run Z (72, 166, [(2, ((r0 : Nat) : Int)), l1, l2, l3], [(2, ((r0 : Nat) : Int))], (K, σ, n, e, s)) := by
  refine g_aload_n (k := 0) (v := (2, ((r0 : Nat) : Int))) (by decide +kernel : decode (m_byt 72) 158 = .ok (.aload_n 0, 1)) rfl (Or.inl rfl) ?_
  refine g_aload_n (k := 0) (v := (2, ((r0 : Nat) : Int))) (by decide +kernel : decode (m_byt 72) 159 = .ok (.aload_n 0, 1)) rfl (Or.inl rfl) ?_
  refine g_getf (ci := 5) (f := 3) (by decide +kernel : decode (m_byt 72) 160 = .ok (.getfield 81, 3)) (by decide +kernel) (by decide +kernel) (by decide +kernel) h0 ?_
  exact g_brq (t := 181) (off := 18) (by decide +kernel : decode (m_byt 72) 163 = .ok (.ifCond .eq 18, 3)) rfl rfl (by decide)
theorem b_72_166 {Z : mZ} {l2 l3 : mV} {x1 : Int} {s0 r0 : Nat} {K : Nat → mK} {σ : Nat → Nat → Int} {n e s : Nat} (h0 : q_ob K n r0 5) : m_run Z (72, 166, [(2, ((r0 : Nat) : Int)), (0, x1), l2, l3], [(2, ((s0 : Nat) : Int))], (K, σ, n, e, s)) = (m_cl Z 71 [(2, ((r0 : Nat) : Int)), (0, 0), (0, x1)] (K, σ, n, e, s)).bind (m_aft (m_run Z) 72 169 [(2, ((r0 : Nat) : Int)), (0, x1), l2, l3] [(2, ((s0 : Nat) : Int))]) := by
  refine g_aload_n (k := 0) (v := (2, ((r0 : Nat) : Int))) (by decide +kernel : decode (m_byt 72) 166 = .ok (.aload_n 0, 1)) rfl (Or.inl rfl) ?_
  refine g_base (by decide +kernel : decode (m_byt 72) 167 = .ok (.iconst 0, 1)) rfl rfl ?_
  show m_run Z (72, 168, [(2, ((r0 : Nat) : Int)), (0, x1), l2, l3], [(0, 0), (2, ((r0 : Nat) : Int)), (2, ((s0 : Nat) : Int))], (K, σ, n, e, s)) = _
  refine g_iload_n (k := 1) (x := x1) (by decide +kernel : decode (m_byt 72) 168 = .ok (.iload_n 1, 1)) rfl ?_
  exact g_inv (k := 1) (m' := 71) (np := 2) (as := [(2, ((r0 : Nat) : Int)), (0, 0), (0, x1)]) (by decide +kernel : decode (m_byt 72) 169 = .ok (.invokevirtual 113, 3)) (Or.inl ⟨rfl, rfl⟩) (by decide +kernel) (by decide +kernel) (by decide +kernel) (Nat.le_of_ble_eq_true rfl) rfl (Or.inr (g_rcv (by decide +kernel) h0))
theorem b_72_172 {Z : mZ} {l0 l1 l2 l3 : mV} {s0 : Int} {s1 : Nat} {h : mH} : m_run Z (72, 172, [l0, l1, l2, l3], [(0, s0), (2, ((s1 : Nat) : Int))], h) = if w32 1000000 ≤ w32 s0 then m_run Z (72, 181, [l0, l1, l2, l3], [(2, ((s1 : Nat) : Int))], h) else m_run Z (72, 177, [l0, l1, l2, l3], [(2, ((s1 : Nat) : Int))], h) := by
  refine g_base (by decide +kernel : decode (m_byt 72) 172 = .ok (.ldc 97, 2)) rfl rfl ?_
  show m_run Z (72, 174, [l0, l1, l2, l3], [(0, 1000000), (0, s0), (2, ((s1 : Nat) : Int))], h) = _
  exact g_brq (t := 181) (off := 7) (by decide +kernel : decode (m_byt 72) 174 = .ok (.if_icmp .ge 7, 3)) rfl rfl (by decide)
theorem b_72_177 {Z : mZ} {l2 l3 : mV} {x1 : Int} {s0 r0 : Nat} {K : Nat → mK} {σ : Nat → Nat → Int} {n e s : Nat} (h0 : q_ob K n s0 5) (h1 : w32 1 = 0 ∨ w32 1 = 1) : m_run Z (72, 177, [(2, ((r0 : Nat) : Int)), (0, x1), l2, l3], [(2, ((s0 : Nat) : Int))], (K, σ, n, e, s)) = m_run Z (72, 147, [(2, ((r0 : Nat) : Int)), (0, x1 + 1), l2, l3], [], (K, (m_up2 σ s0 3 1), n, e, s)) := by
  refine g_base (by decide +kernel : decode (m_byt 72) 177 = .ok (.iconst 1, 1)) rfl rfl ?_
  show m_run Z (72, 178, [(2, ((r0 : Nat) : Int)), (0, x1), l2, l3], [(0, 1), (2, ((s0 : Nat) : Int))], (K, σ, n, e, s)) = _
  refine g_jmp (t := 182) (by decide +kernel : decode (m_byt 72) 178 = .ok (.goto 4, 3)) (by decide) ?_
  refine g_putz (ci := 5) (f := 3) (by decide +kernel : decode (m_byt 72) 182 = .ok (.putfield 81, 3)) (by decide +kernel) (by decide +kernel) (by decide +kernel) h0 h1 ?_
  show m_run Z (72, 185, [(2, ((r0 : Nat) : Int)), (0, x1), l2, l3], [], (K, (m_up2 σ s0 3 1), n, e, s)) = _
  refine g_iinc (k := 1) (x := x1) (by decide +kernel : decode (m_byt 72) 185 = .ok (.iinc 1 1, 3)) rfl (Nat.le_of_ble_eq_true rfl) ?_
  show m_run Z (72, 188, [(2, ((r0 : Nat) : Int)), (0, x1 + 1), l2, l3], [], (K, (m_up2 σ s0 3 1), n, e, s)) = _
  refine g_jmp (t := 147) (by decide +kernel : decode (m_byt 72) 188 = .ok (.goto (-41), 3)) (by decide) ?_
  rfl
theorem b_72_181 {Z : mZ} {l0 l1 l2 l3 : mV} {s0 : Nat} {h : mH} : m_run Z (72, 181, [l0, l1, l2, l3], [(2, ((s0 : Nat) : Int))], h) = m_run Z (72, 182, [l0, l1, l2, l3], [(0, 0), (2, ((s0 : Nat) : Int))], h) := by
  refine g_base (by decide +kernel : decode (m_byt 72) 181 = .ok (.iconst 0, 1)) rfl rfl ?_
  show m_run Z (72, 182, [l0, l1, l2, l3], [(0, 0), (2, ((s0 : Nat) : Int))], h) = _
  rfl
theorem b_72_182 {Z : mZ} {l2 l3 : mV} {s0 x1 : Int} {s1 r0 : Nat} {K : Nat → mK} {σ : Nat → Nat → Int} {n e s : Nat} (h0 : q_ob K n s1 5) (h1 : w32 s0 = 0 ∨ w32 s0 = 1) : m_run Z (72, 182, [(2, ((r0 : Nat) : Int)), (0, x1), l2, l3], [(0, s0), (2, ((s1 : Nat) : Int))], (K, σ, n, e, s)) = m_run Z (72, 147, [(2, ((r0 : Nat) : Int)), (0, x1 + 1), l2, l3], [], (K, (m_up2 σ s1 3 s0), n, e, s)) := by
  refine g_putz (ci := 5) (f := 3) (by decide +kernel : decode (m_byt 72) 182 = .ok (.putfield 81, 3)) (by decide +kernel) (by decide +kernel) (by decide +kernel) h0 h1 ?_
  show m_run Z (72, 185, [(2, ((r0 : Nat) : Int)), (0, x1), l2, l3], [], (K, (m_up2 σ s1 3 s0), n, e, s)) = _
  refine g_iinc (k := 1) (x := x1) (by decide +kernel : decode (m_byt 72) 185 = .ok (.iinc 1 1, 3)) rfl (Nat.le_of_ble_eq_true rfl) ?_
  show m_run Z (72, 188, [(2, ((r0 : Nat) : Int)), (0, x1 + 1), l2, l3], [], (K, (m_up2 σ s1 3 s0), n, e, s)) = _
  refine g_jmp (t := 147) (by decide +kernel : decode (m_byt 72) 188 = .ok (.goto (-41), 3)) (by decide) ?_
  rfl
theorem b_72_191 {Z : mZ} {l0 l1 l2 l3 : mV} {h : mH} : m_run Z (72, 191, [l0, l1, l2, l3], [], h) = some (.inl (9, 0), h) := by
  exact g_vret (by decide +kernel : decode (m_byt 72) 191 = .ok (.return_, 1)) (by decide +kernel)
theorem e_73 {Z : mZ} {r0 : Nat} {x1 : Int} {h : mH} : m_cl Z 73 [(2, ((r0 : Nat) : Int)), (0, x1)] h = m_run Z (73, 0, [(2, ((r0 : Nat) : Int)), (0, x1), (9, 0), (9, 0), (9, 0)], [], h) := g_ent (k := 5) (by decide) (by decide +kernel) (Nat.le_of_ble_eq_true rfl) (by decide +kernel) rfl
theorem b_73_0 {Z : mZ} {l0 l2 l3 l4 : mV} {x1 : Int} {h : mH} : m_run Z (73, 0, [l0, (0, x1), l2, l3, l4], [], h) = m_run Z (73, 2, [l0, (0, x1), (0, 0), l3, l4], [], h) := by
  refine g_base (by decide +kernel : decode (m_byt 73) 0 = .ok (.iconst 0, 1)) rfl rfl ?_
  show m_run Z (73, 1, [l0, (0, x1), l2, l3, l4], [(0, 0)], h) = _
  refine g_istore_n (k := 2) (by decide +kernel : decode (m_byt 73) 1 = .ok (.istore_n 2, 1)) (Nat.le_of_ble_eq_true rfl) ?_
  show m_run Z (73, 2, [l0, (0, x1), (0, 0), l3, l4], [], h) = _
  rfl
theorem b_73_2 {Z : mZ} {l1 l3 l4 : mV} {x2 : Int} {r0 : Nat} {K : Nat → mK} {σ : Nat → Nat → Int} {n e s : Nat} (h0 : q_ob K n r0 5) (h1 : q_rp K r0 0) (h2 : q_ob K n (q_rf K r0 0) 1) : m_run Z (73, 2, [(2, ((r0 : Nat) : Int)), l1, (0, x2), l3, l4], [], (K, σ, n, e, s)) = if w32 (σ ((q_rf K r0 0)) 0) ≤ w32 x2 then m_run Z (73, 79, [(2, ((r0 : Nat) : Int)), l1, (0, x2), l3, l4], [], (K, σ, n, e, s)) else m_run Z (73, 13, [(2, ((r0 : Nat) : Int)), l1, (0, x2), l3, l4], [], (K, σ, n, e, s)) := by
  refine g_iload_n (k := 2) (x := x2) (by decide +kernel : decode (m_byt 73) 2 = .ok (.iload_n 2, 1)) rfl ?_
  refine g_aload_n (k := 0) (v := (2, ((r0 : Nat) : Int))) (by decide +kernel : decode (m_byt 73) 3 = .ok (.aload_n 0, 1)) rfl (Or.inl rfl) ?_
  refine g_getr (ci := 5) (f := 0) (by decide +kernel : decode (m_byt 73) 4 = .ok (.getfield 12, 3)) (by decide +kernel) (by decide +kernel) (by decide +kernel) h0 h1 ?_
  refine g_getf (ci := 1) (f := 0) (by decide +kernel : decode (m_byt 73) 7 = .ok (.getfield 87, 3)) (by decide +kernel) (by decide +kernel) (by decide +kernel) h2 ?_
  exact g_brq (t := 79) (off := 69) (by decide +kernel : decode (m_byt 73) 10 = .ok (.if_icmp .ge 69, 3)) rfl rfl (by decide)
theorem b_73_13 {Z : mZ} {l0 l1 l3 l4 : mV} {x2 : Int} {h : mH} : m_run Z (73, 13, [l0, l1, (0, x2), l3, l4], [], h) = m_run Z (73, 15, [l0, l1, (0, x2), (0, 0), l4], [], h) := by
  refine g_base (by decide +kernel : decode (m_byt 73) 13 = .ok (.iconst 0, 1)) rfl rfl ?_
  show m_run Z (73, 14, [l0, l1, (0, x2), l3, l4], [(0, 0)], h) = _
  refine g_istore_n (k := 3) (by decide +kernel : decode (m_byt 73) 14 = .ok (.istore_n 3, 1)) (Nat.le_of_ble_eq_true rfl) ?_
  show m_run Z (73, 15, [l0, l1, (0, x2), (0, 0), l4], [], h) = _
  rfl
theorem b_73_15 {Z : mZ} {l1 l2 l4 : mV} {x3 : Int} {r0 : Nat} {K : Nat → mK} {σ : Nat → Nat → Int} {n e s : Nat} (h0 : q_ob K n r0 5) (h1 : q_rp K r0 0) (h2 : q_ob K n (q_rf K r0 0) 1) : m_run Z (73, 15, [(2, ((r0 : Nat) : Int)), l1, l2, (0, x3), l4], [], (K, σ, n, e, s)) = if w32 (σ ((q_rf K r0 0)) 0) ≤ w32 x3 then m_run Z (73, 73, [(2, ((r0 : Nat) : Int)), l1, l2, (0, x3), l4], [], (K, σ, n, e, s)) else m_run Z (73, 26, [(2, ((r0 : Nat) : Int)), l1, l2, (0, x3), l4], [], (K, σ, n, e, s)) := by
  refine g_iload_n (k := 3) (x := x3) (by decide +kernel : decode (m_byt 73) 15 = .ok (.iload_n 3, 1)) rfl ?_
  refine g_aload_n (k := 0) (v := (2, ((r0 : Nat) : Int))) (by decide +kernel : decode (m_byt 73) 16 = .ok (.aload_n 0, 1)) rfl (Or.inl rfl) ?_
  refine g_getr (ci := 5) (f := 0) (by decide +kernel : decode (m_byt 73) 17 = .ok (.getfield 12, 3)) (by decide +kernel) (by decide +kernel) (by decide +kernel) h0 h1 ?_
  refine g_getf (ci := 1) (f := 0) (by decide +kernel : decode (m_byt 73) 20 = .ok (.getfield 87, 3)) (by decide +kernel) (by decide +kernel) (by decide +kernel) h2 ?_
  exact g_brq (t := 73) (off := 50) (by decide +kernel : decode (m_byt 73) 23 = .ok (.if_icmp .ge 50, 3)) rfl rfl (by decide)
theorem b_73_26 {Z : mZ} {l3 l4 : mV} {x2 x1 : Int} {r0 : Nat} {K : Nat → mK} {σ : Nat → Nat → Int} {n e s : Nat} (h0 : q_ob K n r0 5) : m_run Z (73, 26, [(2, ((r0 : Nat) : Int)), (0, x1), (0, x2), l3, l4], [], (K, σ, n, e, s)) = (m_cl Z 71 [(2, ((r0 : Nat) : Int)), (0, x2), (0, x1)] (K, σ, n, e, s)).bind (m_aft (m_run Z) 73 29 [(2, ((r0 : Nat) : Int)), (0, x1), (0, x2), l3, l4] []) := by
  refine g_aload_n (k := 0) (v := (2, ((r0 : Nat) : Int))) (by decide +kernel : decode (m_byt 73) 26 = .ok (.aload_n 0, 1)) rfl (Or.inl rfl) ?_
  refine g_iload_n (k := 2) (x := x2) (by decide +kernel : decode (m_byt 73) 27 = .ok (.iload_n 2, 1)) rfl ?_
  refine g_iload_n (k := 1) (x := x1) (by decide +kernel : decode (m_byt 73) 28 = .ok (.iload_n 1, 1)) rfl ?_
  exact g_inv (k := 1) (m' := 71) (np := 2) (as := [(2, ((r0 : Nat) : Int)), (0, x2), (0, x1)]) (by decide +kernel : decode (m_byt 73) 29 = .ok (.invokevirtual 113, 3)) (Or.inl ⟨rfl, rfl⟩) (by decide +kernel) (by decide +kernel) (by decide +kernel) (Nat.le_of_ble_eq_true rfl) rfl (Or.inr (g_rcv (by decide +kernel) h0))
theorem b_73_32 {Z : mZ} {l2 l4 : mV} {s0 x1 x3 : Int} {r0 : Nat} {K : Nat → mK} {σ : Nat → Nat → Int} {n e s : Nat} (h0 : q_ob K n r0 5) : m_run Z (73, 32, [(2, ((r0 : Nat) : Int)), (0, x1), l2, (0, x3), l4], [(0, s0)], (K, σ, n, e, s)) = (m_cl Z 71 [(2, ((r0 : Nat) : Int)), (0, x1), (0, x3)] (K, σ, n, e, s)).bind (m_aft (m_run Z) 73 35 [(2, ((r0 : Nat) : Int)), (0, x1), l2, (0, x3), l4] [(0, s0)]) := by
  refine g_aload_n (k := 0) (v := (2, ((r0 : Nat) : Int))) (by decide +kernel : decode (m_byt 73) 32 = .ok (.aload_n 0, 1)) rfl (Or.inl rfl) ?_
  refine g_iload_n (k := 1) (x := x1) (by decide +kernel : decode (m_byt 73) 33 = .ok (.iload_n 1, 1)) rfl ?_
  refine g_iload_n (k := 3) (x := x3) (by decide +kernel : decode (m_byt 73) 34 = .ok (.iload_n 3, 1)) rfl ?_
  exact g_inv (k := 1) (m' := 71) (np := 2) (as := [(2, ((r0 : Nat) : Int)), (0, x1), (0, x3)]) (by decide +kernel : decode (m_byt 73) 35 = .ok (.invokevirtual 113, 3)) (Or.inl ⟨rfl, rfl⟩) (by decide +kernel) (by decide +kernel) (by decide +kernel) (Nat.le_of_ble_eq_true rfl) rfl (Or.inr (g_rcv (by decide +kernel) h0))
theorem b_73_38 {Z : mZ} {l1 l4 : mV} {s0 s1 x3 x2 : Int} {r0 : Nat} {K : Nat → mK} {σ : Nat → Nat → Int} {n e s : Nat} (h0 : q_ob K n r0 5) : m_run Z (73, 38, [(2, ((r0 : Nat) : Int)), l1, (0, x2), (0, x3), l4], [(0, s0), (0, s1)], (K, σ, n, e, s)) = (m_cl Z 71 [(2, ((r0 : Nat) : Int)), (0, x2), (0, x3)] (K, σ, n, e, s)).bind (m_aft (m_run Z) 73 46 [(2, ((r0 : Nat) : Int)), l1, (0, x2), (0, x3), (0, (s1 + s0))] [(0, (s1 + s0))]) := by
  refine g_base (by decide +kernel : decode (m_byt 73) 38 = .ok (.iadd, 1)) rfl rfl ?_
  show m_run Z (73, 39, [(2, ((r0 : Nat) : Int)), l1, (0, x2), (0, x3), l4], [(0, (s1 + s0))], (K, σ, n, e, s)) = _
  refine g_istore (k := 4) (by decide +kernel : decode (m_byt 73) 39 = .ok (.istore 4, 2)) (Nat.le_of_ble_eq_true rfl) ?_
  show m_run Z (73, 41, [(2, ((r0 : Nat) : Int)), l1, (0, x2), (0, x3), (0, (s1 + s0))], [], (K, σ, n, e, s)) = _
  refine g_iload (k := 4) (x := (s1 + s0)) (by decide +kernel : decode (m_byt 73) 41 = .ok (.iload 4, 2)) rfl ?_
  refine g_aload_n (k := 0) (v := (2, ((r0 : Nat) : Int))) (by decide +kernel : decode (m_byt 73) 43 = .ok (.aload_n 0, 1)) rfl (Or.inl rfl) ?_
  refine g_iload_n (k := 2) (x := x2) (by decide +kernel : decode (m_byt 73) 44 = .ok (.iload_n 2, 1)) rfl ?_
  refine g_iload_n (k := 3) (x := x3) (by decide +kernel : decode (m_byt 73) 45 = .ok (.iload_n 3, 1)) rfl ?_
  exact g_inv (k := 1) (m' := 71) (np := 2) (as := [(2, ((r0 : Nat) : Int)), (0, x2), (0, x3)]) (by decide +kernel : decode (m_byt 73) 46 = .ok (.invokevirtual 113, 3)) (Or.inl ⟨rfl, rfl⟩) (by decide +kernel) (by decide +kernel) (by decide +kernel) (Nat.le_of_ble_eq_true rfl) rfl (Or.inr (g_rcv (by decide +kernel) h0))
theorem b_73_49 {Z : mZ} {l0 l1 l2 l3 l4 : mV} {s0 s1 : Int} {h : mH} : m_run Z (73, 49, [l0, l1, l2, l3, l4], [(0, s0), (0, s1)], h) = if w32 s0 ≤ w32 s1 then m_run Z (73, 67, [l0, l1, l2, l3, l4], [], h) else m_run Z (73, 52, [l0, l1, l2, l3, l4], [], h) := by
  exact g_brq (t := 67) (off := 18) (by decide +kernel : decode (m_byt 73) 49 = .ok (.if_icmp .ge 18, 3)) rfl rfl (by decide)
theorem b_73_52 {Z : mZ} {l1 : mV} {x2 x3 x4 : Int} {r0 : Nat} {K : Nat → mK} {σ : Nat → Nat → Int} {n e s : Nat} (h0 : q_ob K n r0 5) (h1 : q_rp K r0 5) (h2 : q_ob K n (q_rf K r0 5) 3) : m_run Z (73, 52, [(2, ((r0 : Nat) : Int)), l1, (0, x2), (0, x3), (0, x4)], [], (K, σ, n, e, s)) = (m_cl Z 45 [(2, ((q_rf K r0 5 : Nat) : Int)), (0, ((x2 * 8) + x3)), (0, x4)] (K, σ, n, e, s)).bind (m_aft (m_run Z) 73 64 [(2, ((r0 : Nat) : Int)), l1, (0, x2), (0, x3), (0, x4)] []) := by
  refine g_aload_n (k := 0) (v := (2, ((r0 : Nat) : Int))) (by decide +kernel : decode (m_byt 73) 52 = .ok (.aload_n 0, 1)) rfl (Or.inl rfl) ?_
  refine g_getr (ci := 5) (f := 5) (by decide +kernel : decode (m_byt 73) 53 = .ok (.getfield 27, 3)) (by decide +kernel) (by decide +kernel) (by decide +kernel) h0 h1 ?_
  refine g_iload_n (k := 2) (x := x2) (by decide +kernel : decode (m_byt 73) 56 = .ok (.iload_n 2, 1)) rfl ?_
  refine g_base (by decide +kernel : decode (m_byt 73) 57 = .ok (.bipush 8, 2)) rfl rfl ?_
  show m_run Z (73, 59, [(2, ((r0 : Nat) : Int)), l1, (0, x2), (0, x3), (0, x4)], [(0, 8), (0, x2), (2, ((q_rf K r0 5 : Nat) : Int))], (K, σ, n, e, s)) = _
  refine g_base (by decide +kernel : decode (m_byt 73) 59 = .ok (.imul, 1)) rfl rfl ?_
  show m_run Z (73, 60, [(2, ((r0 : Nat) : Int)), l1, (0, x2), (0, x3), (0, x4)], [(0, (x2 * 8)), (2, ((q_rf K r0 5 : Nat) : Int))], (K, σ, n, e, s)) = _
  refine g_iload_n (k := 3) (x := x3) (by decide +kernel : decode (m_byt 73) 60 = .ok (.iload_n 3, 1)) rfl ?_
  refine g_base (by decide +kernel : decode (m_byt 73) 61 = .ok (.iadd, 1)) rfl rfl ?_
  show m_run Z (73, 62, [(2, ((r0 : Nat) : Int)), l1, (0, x2), (0, x3), (0, x4)], [(0, ((x2 * 8) + x3)), (2, ((q_rf K r0 5 : Nat) : Int))], (K, σ, n, e, s)) = _
  refine g_iload (k := 4) (x := x4) (by decide +kernel : decode (m_byt 73) 62 = .ok (.iload 4, 2)) rfl ?_
  exact g_inv (k := 1) (m' := 45) (np := 2) (as := [(2, ((q_rf K r0 5 : Nat) : Int)), (0, ((x2 * 8) + x3)), (0, x4)]) (by decide +kernel : decode (m_byt 73) 64 = .ok (.invokevirtual 68, 3)) (Or.inl ⟨rfl, rfl⟩) (by decide +kernel) (by decide +kernel) (by decide +kernel) (Nat.le_of_ble_eq_true rfl) rfl (Or.inr (g_rcv (by decide +kernel) h2))
theorem b_73_67 {Z : mZ} {l0 l1 l4 : mV} {x3 x2 : Int} {h : mH} : m_run Z (73, 67, [l0, l1, (0, x2), (0, x3), l4], [], h) = m_run Z (73, 15, [l0, l1, (0, x2), (0, x3 + 1), l4], [], h) := by
  refine g_iinc (k := 3) (x := x3) (by decide +kernel : decode (m_byt 73) 67 = .ok (.iinc 3 1, 3)) rfl (Nat.le_of_ble_eq_true rfl) ?_
  show m_run Z (73, 70, [l0, l1, (0, x2), (0, x3 + 1), l4], [], h) = _
  refine g_jmp (t := 15) (by decide +kernel : decode (m_byt 73) 70 = .ok (.goto (-55), 3)) (by decide) ?_
  rfl
theorem b_73_73 {Z : mZ} {l0 l3 l4 : mV} {x2 x1 : Int} {h : mH} : m_run Z (73, 73, [l0, (0, x1), (0, x2), l3, l4], [], h) = m_run Z (73, 2, [l0, (0, x1), (0, x2 + 1), l3, l4], [], h) := by
  refine g_iinc (k := 2) (x := x2) (by decide +kernel : decode (m_byt 73) 73 = .ok (.iinc 2 1, 3)) rfl (Nat.le_of_ble_eq_true rfl) ?_
  show m_run Z (73, 76, [l0, (0, x1), (0, x2 + 1), l3, l4], [], h) = _
  refine g_jmp (t := 2) (by decide +kernel : decode (m_byt 73) 76 = .ok (.goto (-74), 3)) (by decide) ?_
  rfl
theorem b_73_79 {Z : mZ} {l0 l1 l2 l3 l4 : mV} {h : mH} : m_run Z (73, 79, [l0, l1, l2, l3, l4], [], h) = some (.inl (9, 0), h) := by
  exact g_vret (by decide +kernel : decode (m_byt 73) 79 = .ok (.return_, 1)) (by decide +kernel)
theorem e_74 {Z : mZ} {r0 : Nat} {h : mH} : m_cl Z 74 [(2, ((r0 : Nat) : Int))] h = m_run Z (74, 0, [(2, ((r0 : Nat) : Int)), (9, 0), (9, 0)], [], h) := g_ent (k := 3) (by decide) (by decide +kernel) (Nat.le_of_ble_eq_true rfl) (by decide +kernel) rfl
theorem b_74_0 {Z : mZ} {l1 l2 : mV} {r0 : Nat} {h : mH} : m_run Z (74, 0, [(2, ((r0 : Nat) : Int)), l1, l2], [], h) = m_run Z (74, 2, [(2, ((r0 : Nat) : Int)), (0, 0), l2], [], h) := by
  refine g_base (by decide +kernel : decode (m_byt 74) 0 = .ok (.iconst 0, 1)) rfl rfl ?_
  show m_run Z (74, 1, [(2, ((r0 : Nat) : Int)), l1, l2], [(0, 0)], h) = _
  refine g_istore_n (k := 1) (by decide +kernel : decode (m_byt 74) 1 = .ok (.istore_n 1, 1)) (Nat.le_of_ble_eq_true rfl) ?_
  show m_run Z (74, 2, [(2, ((r0 : Nat) : Int)), (0, 0), l2], [], h) = _
  rfl
theorem b_74_2 {Z : mZ} {l2 : mV} {x1 : Int} {r0 : Nat} {K : Nat → mK} {σ : Nat → Nat → Int} {n e s : Nat} (h0 : q_ob K n r0 5) (h1 : q_rp K r0 0) (h2 : q_ob K n (q_rf K r0 0) 1) : m_run Z (74, 2, [(2, ((r0 : Nat) : Int)), (0, x1), l2], [], (K, σ, n, e, s)) = if w32 (σ ((q_rf K r0 0)) 1) ≤ w32 x1 then m_run Z (74, 102, [(2, ((r0 : Nat) : Int)), (0, x1), l2], [], (K, σ, n, e, s)) else m_run Z (74, 13, [(2, ((r0 : Nat) : Int)), (0, x1), l2], [], (K, σ, n, e, s)) := by
  refine g_iload_n (k := 1) (x := x1) (by decide +kernel : decode (m_byt 74) 2 = .ok (.iload_n 1, 1)) rfl ?_
  refine g_aload_n (k := 0) (v := (2, ((r0 : Nat) : Int))) (by decide +kernel : decode (m_byt 74) 3 = .ok (.aload_n 0, 1)) rfl (Or.inl rfl) ?_
  refine g_getr (ci := 5) (f := 0) (by decide +kernel : decode (m_byt 74) 4 = .ok (.getfield 12, 3)) (by decide +kernel) (by decide +kernel) (by decide +kernel) h0 h1 ?_
  refine g_getf (ci := 1) (f := 1) (by decide +kernel : decode (m_byt 74) 7 = .ok (.getfield 85, 3)) (by decide +kernel) (by decide +kernel) (by decide +kernel) h2 ?_
  exact g_brq (t := 102) (off := 92) (by decide +kernel : decode (m_byt 74) 10 = .ok (.if_icmp .ge 92, 3)) rfl rfl (by decide)
theorem b_74_13 {Z : mZ} {l0 l2 : mV} {x1 : Int} {h : mH} : m_run Z (74, 13, [l0, (0, x1), l2], [], h) = m_run Z (74, 15, [l0, (0, x1), (0, 0)], [], h) := by
  refine g_base (by decide +kernel : decode (m_byt 74) 13 = .ok (.iconst 0, 1)) rfl rfl ?_
  show m_run Z (74, 14, [l0, (0, x1), l2], [(0, 0)], h) = _
  refine g_istore_n (k := 2) (by decide +kernel : decode (m_byt 74) 14 = .ok (.istore_n 2, 1)) (Nat.le_of_ble_eq_true rfl) ?_
  show m_run Z (74, 15, [l0, (0, x1), (0, 0)], [], h) = _
  rfl
theorem b_74_15 {Z : mZ} {l1 : mV} {x2 : Int} {r0 : Nat} {K : Nat → mK} {σ : Nat → Nat → Int} {n e s : Nat} (h0 : q_ob K n r0 5) (h1 : q_rp K r0 0) (h2 : q_ob K n (q_rf K r0 0) 1) : m_run Z (74, 15, [(2, ((r0 : Nat) : Int)), l1, (0, x2)], [], (K, σ, n, e, s)) = if w32 (σ ((q_rf K r0 0)) 0) ≤ w32 x2 then m_run Z (74, 96, [(2, ((r0 : Nat) : Int)), l1, (0, x2)], [], (K, σ, n, e, s)) else m_run Z (74, 26, [(2, ((r0 : Nat) : Int)), l1, (0, x2)], [], (K, σ, n, e, s)) := by
  refine g_iload_n (k := 2) (x := x2) (by decide +kernel : decode (m_byt 74) 15 = .ok (.iload_n 2, 1)) rfl ?_
  refine g_aload_n (k := 0) (v := (2, ((r0 : Nat) : Int))) (by decide +kernel : decode (m_byt 74) 16 = .ok (.aload_n 0, 1)) rfl (Or.inl rfl) ?_
  refine g_getr (ci := 5) (f := 0) (by decide +kernel : decode (m_byt 74) 17 = .ok (.getfield 12, 3)) (by decide +kernel) (by decide +kernel) (by decide +kernel) h0 h1 ?_
  refine g_getf (ci := 1) (f := 0) (by decide +kernel : decode (m_byt 74) 20 = .ok (.getfield 87, 3)) (by decide +kernel) (by decide +kernel) (by decide +kernel) h2 ?_
  exact g_brq (t := 96) (off := 73) (by decide +kernel : decode (m_byt 74) 23 = .ok (.if_icmp .ge 73, 3)) rfl rfl (by decide)
theorem b_74_26 {Z : mZ} {x1 x2 : Int} {r0 : Nat} {K : Nat → mK} {σ : Nat → Nat → Int} {n e s : Nat} (h0 : q_ob K n r0 5) (h1 : q_rp K r0 6) (h2 : q_rp K r0 0) (h3 : q_ob K n (q_rf K r0 0) 1) (h4 : q_rp K (q_rf K r0 0) 5) (h5 : q_ob K n (q_rf K ((q_rf K r0 0)) 5) 3) : m_run Z (74, 26, [(2, ((r0 : Nat) : Int)), (0, x1), (0, x2)], [], (K, σ, n, e, s)) = (m_cl Z 44 [(2, ((q_rf K ((q_rf K r0 0)) 5 : Nat) : Int)), (0, x1)] (K, σ, n, e, s)).bind (m_aft (m_run Z) 74 46 [(2, ((r0 : Nat) : Int)), (0, x1), (0, x2)] [(0, x2), (2, ((r0 : Nat) : Int)), (0, ((x1 * 8) + x2)), (2, ((q_rf K r0 6 : Nat) : Int))]) := by
  refine g_aload_n (k := 0) (v := (2, ((r0 : Nat) : Int))) (by decide +kernel : decode (m_byt 74) 26 = .ok (.aload_n 0, 1)) rfl (Or.inl rfl) ?_
  refine g_getr (ci := 5) (f := 6) (by decide +kernel : decode (m_byt 74) 27 = .ok (.getfield 30, 3)) (by decide +kernel) (by decide +kernel) (by decide +kernel) h0 h1 ?_
  refine g_iload_n (k := 1) (x := x1) (by decide +kernel : decode (m_byt 74) 30 = .ok (.iload_n 1, 1)) rfl ?_
  refine g_base (by decide +kernel : decode (m_byt 74) 31 = .ok (.bipush 8, 2)) rfl rfl ?_
  show m_run Z (74, 33, [(2, ((r0 : Nat) : Int)), (0, x1), (0, x2)], [(0, 8), (0, x1), (2, ((q_rf K r0 6 : Nat) : Int))], (K, σ, n, e, s)) = _
  refine g_base (by decide +kernel : decode (m_byt 74) 33 = .ok (.imul, 1)) rfl rfl ?_
  show m_run Z (74, 34, [(2, ((r0 : Nat) : Int)), (0, x1), (0, x2)], [(0, (x1 * 8)), (2, ((q_rf K r0 6 : Nat) : Int))], (K, σ, n, e, s)) = _
  refine g_iload_n (k := 2) (x := x2) (by decide +kernel : decode (m_byt 74) 34 = .ok (.iload_n 2, 1)) rfl ?_
  refine g_base (by decide +kernel : decode (m_byt 74) 35 = .ok (.iadd, 1)) rfl rfl ?_
  show m_run Z (74, 36, [(2, ((r0 : Nat) : Int)), (0, x1), (0, x2)], [(0, ((x1 * 8) + x2)), (2, ((q_rf K r0 6 : Nat) : Int))], (K, σ, n, e, s)) = _
  refine g_aload_n (k := 0) (v := (2, ((r0 : Nat) : Int))) (by decide +kernel : decode (m_byt 74) 36 = .ok (.aload_n 0, 1)) rfl (Or.inl rfl) ?_
  refine g_iload_n (k := 2) (x := x2) (by decide +kernel : decode (m_byt 74) 37 = .ok (.iload_n 2, 1)) rfl ?_
  refine g_aload_n (k := 0) (v := (2, ((r0 : Nat) : Int))) (by decide +kernel : decode (m_byt 74) 38 = .ok (.aload_n 0, 1)) rfl (Or.inl rfl) ?_
  refine g_getr (ci := 5) (f := 0) (by decide +kernel : decode (m_byt 74) 39 = .ok (.getfield 12, 3)) (by decide +kernel) (by decide +kernel) (by decide +kernel) h0 h2 ?_
  refine g_getr (ci := 1) (f := 5) (by decide +kernel : decode (m_byt 74) 42 = .ok (.getfield 101, 3)) (by decide +kernel) (by decide +kernel) (by decide +kernel) h3 h4 ?_
  refine g_iload_n (k := 1) (x := x1) (by decide +kernel : decode (m_byt 74) 45 = .ok (.iload_n 1, 1)) rfl ?_
  exact g_inv (k := 1) (m' := 44) (np := 1) (as := [(2, ((q_rf K ((q_rf K r0 0)) 5 : Nat) : Int)), (0, x1)]) (by decide +kernel : decode (m_byt 74) 46 = .ok (.invokevirtual 61, 3)) (Or.inl ⟨rfl, rfl⟩) (by decide +kernel) (by decide +kernel) (by decide +kernel) (Nat.le_of_ble_eq_true rfl) rfl (Or.inr (g_rcv (by decide +kernel) h5))
theorem b_74_49 {Z : mZ} {l0 l1 l2 : mV} {s0 s1 s3 : Int} {s2 s4 : Nat} {K : Nat → mK} {σ : Nat → Nat → Int} {n e s : Nat} (h0 : q_ob K n s2 5) : m_run Z (74, 49, [l0, l1, l2], [(0, s0), (0, s1), (2, ((s2 : Nat) : Int)), (0, s3), (2, ((s4 : Nat) : Int))], (K, σ, n, e, s)) = (m_cl Z 71 [(2, ((s2 : Nat) : Int)), (0, s1), (0, s0)] (K, σ, n, e, s)).bind (m_aft (m_run Z) 74 49 [l0, l1, l2] [(0, s3), (2, ((s4 : Nat) : Int))]) := by
  exact g_inv (k := 1) (m' := 71) (np := 2) (as := [(2, ((s2 : Nat) : Int)), (0, s1), (0, s0)]) (by decide +kernel : decode (m_byt 74) 49 = .ok (.invokevirtual 113, 3)) (Or.inl ⟨rfl, rfl⟩) (by decide +kernel) (by decide +kernel) (by decide +kernel) (Nat.le_of_ble_eq_true rfl) rfl (Or.inr (g_rcv (by decide +kernel) h0))
theorem b_74_52 {Z : mZ} {l0 l1 l2 : mV} {s0 s1 : Int} {s2 : Nat} {K : Nat → mK} {σ : Nat → Nat → Int} {n e s : Nat} (h0 : q_ob K n s2 3) : m_run Z (74, 52, [l0, l1, l2], [(0, s0), (0, s1), (2, ((s2 : Nat) : Int))], (K, σ, n, e, s)) = (m_cl Z 45 [(2, ((s2 : Nat) : Int)), (0, s1), (0, s0)] (K, σ, n, e, s)).bind (m_aft (m_run Z) 74 52 [l0, l1, l2] []) := by
  exact g_inv (k := 1) (m' := 45) (np := 2) (as := [(2, ((s2 : Nat) : Int)), (0, s1), (0, s0)]) (by decide +kernel : decode (m_byt 74) 52 = .ok (.invokevirtual 68, 3)) (Or.inl ⟨rfl, rfl⟩) (by decide +kernel) (by decide +kernel) (by decide +kernel) (Nat.le_of_ble_eq_true rfl) rfl (Or.inr (g_rcv (by decide +kernel) h0))
theorem b_74_55 {Z : mZ} {x1 x2 : Int} {r0 : Nat} {K : Nat → mK} {σ : Nat → Nat → Int} {n e s : Nat} (h0 : q_ob K n r0 5) (h1 : q_rp K r0 7) (h2 : q_rp K r0 0) (h3 : q_ob K n (q_rf K r0 0) 1) (h4 : q_rp K (q_rf K r0 0) 6) (h5 : q_ob K n (q_rf K ((q_rf K r0 0)) 6) 3) : m_run Z (74, 55, [(2, ((r0 : Nat) : Int)), (0, x1), (0, x2)], [], (K, σ, n, e, s)) = (m_cl Z 44 [(2, ((q_rf K ((q_rf K r0 0)) 6 : Nat) : Int)), (0, x1)] (K, σ, n, e, s)).bind (m_aft (m_run Z) 74 75 [(2, ((r0 : Nat) : Int)), (0, x1), (0, x2)] [(0, x2), (2, ((r0 : Nat) : Int)), (0, ((x1 * 8) + x2)), (2, ((q_rf K r0 7 : Nat) : Int))]) := by
  refine g_aload_n (k := 0) (v := (2, ((r0 : Nat) : Int))) (by decide +kernel : decode (m_byt 74) 55 = .ok (.aload_n 0, 1)) rfl (Or.inl rfl) ?_
  refine g_getr (ci := 5) (f := 7) (by decide +kernel : decode (m_byt 74) 56 = .ok (.getfield 33, 3)) (by decide +kernel) (by decide +kernel) (by decide +kernel) h0 h1 ?_
  refine g_iload_n (k := 1) (x := x1) (by decide +kernel : decode (m_byt 74) 59 = .ok (.iload_n 1, 1)) rfl ?_
  refine g_base (by decide +kernel : decode (m_byt 74) 60 = .ok (.bipush 8, 2)) rfl rfl ?_
  show m_run Z (74, 62, [(2, ((r0 : Nat) : Int)), (0, x1), (0, x2)], [(0, 8), (0, x1), (2, ((q_rf K r0 7 : Nat) : Int))], (K, σ, n, e, s)) = _
  refine g_base (by decide +kernel : decode (m_byt 74) 62 = .ok (.imul, 1)) rfl rfl ?_
  show m_run Z (74, 63, [(2, ((r0 : Nat) : Int)), (0, x1), (0, x2)], [(0, (x1 * 8)), (2, ((q_rf K r0 7 : Nat) : Int))], (K, σ, n, e, s)) = _
  refine g_iload_n (k := 2) (x := x2) (by decide +kernel : decode (m_byt 74) 63 = .ok (.iload_n 2, 1)) rfl ?_
  refine g_base (by decide +kernel : decode (m_byt 74) 64 = .ok (.iadd, 1)) rfl rfl ?_
  show m_run Z (74, 65, [(2, ((r0 : Nat) : Int)), (0, x1), (0, x2)], [(0, ((x1 * 8) + x2)), (2, ((q_rf K r0 7 : Nat) : Int))], (K, σ, n, e, s)) = _
  refine g_aload_n (k := 0) (v := (2, ((r0 : Nat) : Int))) (by decide +kernel : decode (m_byt 74) 65 = .ok (.aload_n 0, 1)) rfl (Or.inl rfl) ?_
  refine g_iload_n (k := 2) (x := x2) (by decide +kernel : decode (m_byt 74) 66 = .ok (.iload_n 2, 1)) rfl ?_
  refine g_aload_n (k := 0) (v := (2, ((r0 : Nat) : Int))) (by decide +kernel : decode (m_byt 74) 67 = .ok (.aload_n 0, 1)) rfl (Or.inl rfl) ?_
  refine g_getr (ci := 5) (f := 0) (by decide +kernel : decode (m_byt 74) 68 = .ok (.getfield 12, 3)) (by decide +kernel) (by decide +kernel) (by decide +kernel) h0 h2 ?_
  refine g_getr (ci := 1) (f := 6) (by decide +kernel : decode (m_byt 74) 71 = .ok (.getfield 104, 3)) (by decide +kernel) (by decide +kernel) (by decide +kernel) h3 h4 ?_
  refine g_iload_n (k := 1) (x := x1) (by decide +kernel : decode (m_byt 74) 74 = .ok (.iload_n 1, 1)) rfl ?_
  exact g_inv (k := 1) (m' := 44) (np := 1) (as := [(2, ((q_rf K ((q_rf K r0 0)) 6 : Nat) : Int)), (0, x1)]) (by decide +kernel : decode (m_byt 74) 75 = .ok (.invokevirtual 61, 3)) (Or.inl ⟨rfl, rfl⟩) (by decide +kernel) (by decide +kernel) (by decide +kernel) (Nat.le_of_ble_eq_true rfl) rfl (Or.inr (g_rcv (by decide +kernel) h5))
theorem b_74_78 {Z : mZ} {l0 l1 l2 : mV} {s0 s1 s3 : Int} {s2 s4 : Nat} {K : Nat → mK} {σ : Nat → Nat → Int} {n e s : Nat} (h0 : q_ob K n s2 5) : m_run Z (74, 78, [l0, l1, l2], [(0, s0), (0, s1), (2, ((s2 : Nat) : Int)), (0, s3), (2, ((s4 : Nat) : Int))], (K, σ, n, e, s)) = (m_cl Z 71 [(2, ((s2 : Nat) : Int)), (0, s1), (0, s0)] (K, σ, n, e, s)).bind (m_aft (m_run Z) 74 78 [l0, l1, l2] [(0, s3), (2, ((s4 : Nat) : Int))]) := by
  exact g_inv (k := 1) (m' := 71) (np := 2) (as := [(2, ((s2 : Nat) : Int)), (0, s1), (0, s0)]) (by decide +kernel : decode (m_byt 74) 78 = .ok (.invokevirtual 113, 3)) (Or.inl ⟨rfl, rfl⟩) (by decide +kernel) (by decide +kernel) (by decide +kernel) (Nat.le_of_ble_eq_true rfl) rfl (Or.inr (g_rcv (by decide +kernel) h0))
theorem b_74_81 {Z : mZ} {l2 : mV} {s0 s1 x1 : Int} {s2 r0 : Nat} {K : Nat → mK} {σ : Nat → Nat → Int} {n e s : Nat} (h0 : q_ob K n r0 5) : m_run Z (74, 81, [(2, ((r0 : Nat) : Int)), (0, x1), l2], [(0, s0), (0, s1), (2, ((s2 : Nat) : Int))], (K, σ, n, e, s)) = (m_cl Z 69 [(2, ((r0 : Nat) : Int)), (0, x1)] (K, σ, n, e, s)).bind (m_aft (m_run Z) 74 83 [(2, ((r0 : Nat) : Int)), (0, x1), l2] [(0, s0), (0, s1), (2, ((s2 : Nat) : Int))]) := by
  refine g_aload_n (k := 0) (v := (2, ((r0 : Nat) : Int))) (by decide +kernel : decode (m_byt 74) 81 = .ok (.aload_n 0, 1)) rfl (Or.inl rfl) ?_
  refine g_iload_n (k := 1) (x := x1) (by decide +kernel : decode (m_byt 74) 82 = .ok (.iload_n 1, 1)) rfl ?_
  exact g_inv (k := 1) (m' := 69) (np := 1) (as := [(2, ((r0 : Nat) : Int)), (0, x1)]) (by decide +kernel : decode (m_byt 74) 83 = .ok (.invokevirtual 107, 3)) (Or.inl ⟨rfl, rfl⟩) (by decide +kernel) (by decide +kernel) (by decide +kernel) (Nat.le_of_ble_eq_true rfl) rfl (Or.inr (g_rcv (by decide +kernel) h0))
theorem b_74_86 {Z : mZ} {l0 l1 l2 : mV} {s0 s1 s2 : Int} {s3 : Nat} {K : Nat → mK} {σ : Nat → Nat → Int} {n e s : Nat} (h0 : q_ob K n s3 3) : m_run Z (74, 86, [l0, l1, l2], [(0, s0), (0, s1), (0, s2), (2, ((s3 : Nat) : Int))], (K, σ, n, e, s)) = (m_cl Z 45 [(2, ((s3 : Nat) : Int)), (0, s2), (0, (s1 + s0))] (K, σ, n, e, s)).bind (m_aft (m_run Z) 74 87 [l0, l1, l2] []) := by
  refine g_base (by decide +kernel : decode (m_byt 74) 86 = .ok (.iadd, 1)) rfl rfl ?_
  show m_run Z (74, 87, [l0, l1, l2], [(0, (s1 + s0)), (0, s2), (2, ((s3 : Nat) : Int))], (K, σ, n, e, s)) = _
  exact g_inv (k := 1) (m' := 45) (np := 2) (as := [(2, ((s3 : Nat) : Int)), (0, s2), (0, (s1 + s0))]) (by decide +kernel : decode (m_byt 74) 87 = .ok (.invokevirtual 68, 3)) (Or.inl ⟨rfl, rfl⟩) (by decide +kernel) (by decide +kernel) (by decide +kernel) (Nat.le_of_ble_eq_true rfl) rfl (Or.inr (g_rcv (by decide +kernel) h0))
theorem b_74_90 {Z : mZ} {l0 : mV} {x2 x1 : Int} {h : mH} : m_run Z (74, 90, [l0, (0, x1), (0, x2)], [], h) = m_run Z (74, 15, [l0, (0, x1), (0, x2 + 1)], [], h) := by
  refine g_iinc (k := 2) (x := x2) (by decide +kernel : decode (m_byt 74) 90 = .ok (.iinc 2 1, 3)) rfl (Nat.le_of_ble_eq_true rfl) ?_
  show m_run Z (74, 93, [l0, (0, x1), (0, x2 + 1)], [], h) = _
  refine g_jmp (t := 15) (by decide +kernel : decode (m_byt 74) 93 = .ok (.goto (-78), 3)) (by decide) ?_
  rfl
theorem b_74_96 {Z : mZ} {l2 : mV} {x1 : Int} {r0 : Nat} {h : mH} : m_run Z (74, 96, [(2, ((r0 : Nat) : Int)), (0, x1), l2], [], h) = m_run Z (74, 2, [(2, ((r0 : Nat) : Int)), (0, x1 + 1), l2], [], h) := by
  refine g_iinc (k := 1) (x := x1) (by decide +kernel : decode (m_byt 74) 96 = .ok (.iinc 1 1, 3)) rfl (Nat.le_of_ble_eq_true rfl) ?_
  show m_run Z (74, 99, [(2, ((r0 : Nat) : Int)), (0, x1 + 1), l2], [], h) = _
  refine g_jmp (t := 2) (by decide +kernel : decode (m_byt 74) 99 = .ok (.goto (-97), 3)) (by decide) ?_
  rfl
theorem b_74_102 {Z : mZ} {l0 l1 l2 : mV} {h : mH} : m_run Z (74, 102, [l0, l1, l2], [], h) = some (.inl (9, 0), h) := by
  exact g_vret (by decide +kernel : decode (m_byt 74) 102 = .ok (.return_, 1)) (by decide +kernel)
theorem e_75 {Z : mZ} {r0 : Nat} {h : mH} : m_cl Z 75 [(2, ((r0 : Nat) : Int))] h = m_run Z (75, 0, [(2, ((r0 : Nat) : Int)), (9, 0), (9, 0), (9, 0)], [], h) := g_ent (k := 4) (by decide) (by decide +kernel) (Nat.le_of_ble_eq_true rfl) (by decide +kernel) rfl
theorem b_75_0 {Z : mZ} {l1 l2 l3 : mV} {r0 : Nat} {h : mH} : m_run Z (75, 0, [(2, ((r0 : Nat) : Int)), l1, l2, l3], [], h) = m_run Z (75, 4, [(2, ((r0 : Nat) : Int)), (0, 0), (0, 0), l3], [], h) := by
  refine g_base (by decide +kernel : decode (m_byt 75) 0 = .ok (.iconst 0, 1)) rfl rfl ?_
  show m_run Z (75, 1, [(2, ((r0 : Nat) : Int)), l1, l2, l3], [(0, 0)], h) = _
  refine g_istore_n (k := 1) (by decide +kernel : decode (m_byt 75) 1 = .ok (.istore_n 1, 1)) (Nat.le_of_ble_eq_true rfl) ?_
  show m_run Z (75, 2, [(2, ((r0 : Nat) : Int)), (0, 0), l2, l3], [], h) = _
  refine g_base (by decide +kernel : decode (m_byt 75) 2 = .ok (.iconst 0, 1)) rfl rfl ?_
  show m_run Z (75, 3, [(2, ((r0 : Nat) : Int)), (0, 0), l2, l3], [(0, 0)], h) = _
  refine g_istore_n (k := 2) (by decide +kernel : decode (m_byt 75) 3 = .ok (.istore_n 2, 1)) (Nat.le_of_ble_eq_true rfl) ?_
  show m_run Z (75, 4, [(2, ((r0 : Nat) : Int)), (0, 0), (0, 0), l3], [], h) = _
  rfl
theorem b_75_4 {Z : mZ} {l1 l3 : mV} {x2 : Int} {r0 : Nat} {K : Nat → mK} {σ : Nat → Nat → Int} {n e s : Nat} (h0 : q_ob K n r0 5) (h1 : q_rp K r0 0) (h2 : q_ob K n (q_rf K r0 0) 1) : m_run Z (75, 4, [(2, ((r0 : Nat) : Int)), l1, (0, x2), l3], [], (K, σ, n, e, s)) = if w32 (σ ((q_rf K r0 0)) 0) ≤ w32 x2 then m_run Z (75, 51, [(2, ((r0 : Nat) : Int)), l1, (0, x2), l3], [], (K, σ, n, e, s)) else m_run Z (75, 15, [(2, ((r0 : Nat) : Int)), l1, (0, x2), l3], [], (K, σ, n, e, s)) := by
  refine g_iload_n (k := 2) (x := x2) (by decide +kernel : decode (m_byt 75) 4 = .ok (.iload_n 2, 1)) rfl ?_
  refine g_aload_n (k := 0) (v := (2, ((r0 : Nat) : Int))) (by decide +kernel : decode (m_byt 75) 5 = .ok (.aload_n 0, 1)) rfl (Or.inl rfl) ?_
  refine g_getr (ci := 5) (f := 0) (by decide +kernel : decode (m_byt 75) 6 = .ok (.getfield 12, 3)) (by decide +kernel) (by decide +kernel) (by decide +kernel) h0 h1 ?_
  refine g_getf (ci := 1) (f := 0) (by decide +kernel : decode (m_byt 75) 9 = .ok (.getfield 87, 3)) (by decide +kernel) (by decide +kernel) (by decide +kernel) h2 ?_
  exact g_brq (t := 51) (off := 39) (by decide +kernel : decode (m_byt 75) 12 = .ok (.if_icmp .ge 39, 3)) rfl rfl (by decide)
theorem b_75_15 {Z : mZ} {l0 l1 l3 : mV} {x2 : Int} {h : mH} : m_run Z (75, 15, [l0, l1, (0, x2), l3], [], h) = m_run Z (75, 17, [l0, l1, (0, x2), (0, 0)], [], h) := by
  refine g_base (by decide +kernel : decode (m_byt 75) 15 = .ok (.iconst 0, 1)) rfl rfl ?_
  show m_run Z (75, 16, [l0, l1, (0, x2), l3], [(0, 0)], h) = _
  refine g_istore_n (k := 3) (by decide +kernel : decode (m_byt 75) 16 = .ok (.istore_n 3, 1)) (Nat.le_of_ble_eq_true rfl) ?_
  show m_run Z (75, 17, [l0, l1, (0, x2), (0, 0)], [], h) = _
  rfl
theorem b_75_17 {Z : mZ} {l1 l2 : mV} {x3 : Int} {r0 : Nat} {K : Nat → mK} {σ : Nat → Nat → Int} {n e s : Nat} (h0 : q_ob K n r0 5) (h1 : q_rp K r0 0) (h2 : q_ob K n (q_rf K r0 0) 1) : m_run Z (75, 17, [(2, ((r0 : Nat) : Int)), l1, l2, (0, x3)], [], (K, σ, n, e, s)) = if w32 (σ ((q_rf K r0 0)) 0) ≤ w32 x3 then m_run Z (75, 45, [(2, ((r0 : Nat) : Int)), l1, l2, (0, x3)], [], (K, σ, n, e, s)) else m_run Z (75, 28, [(2, ((r0 : Nat) : Int)), l1, l2, (0, x3)], [], (K, σ, n, e, s)) := by
  refine g_iload_n (k := 3) (x := x3) (by decide +kernel : decode (m_byt 75) 17 = .ok (.iload_n 3, 1)) rfl ?_
  refine g_aload_n (k := 0) (v := (2, ((r0 : Nat) : Int))) (by decide +kernel : decode (m_byt 75) 18 = .ok (.aload_n 0, 1)) rfl (Or.inl rfl) ?_
  refine g_getr (ci := 5) (f := 0) (by decide +kernel : decode (m_byt 75) 19 = .ok (.getfield 12, 3)) (by decide +kernel) (by decide +kernel) (by decide +kernel) h0 h1 ?_
  refine g_getf (ci := 1) (f := 0) (by decide +kernel : decode (m_byt 75) 22 = .ok (.getfield 87, 3)) (by decide +kernel) (by decide +kernel) (by decide +kernel) h2 ?_
  exact g_brq (t := 45) (off := 20) (by decide +kernel : decode (m_byt 75) 25 = .ok (.if_icmp .ge 20, 3)) rfl rfl (by decide)
theorem b_75_28 {Z : mZ} {x1 x2 x3 : Int} {r0 : Nat} {K : Nat → mK} {σ : Nat → Nat → Int} {n e s : Nat} (h0 : q_ob K n r0 5) : m_run Z (75, 28, [(2, ((r0 : Nat) : Int)), (0, x1), (0, x2), (0, x3)], [], (K, σ, n, e, s)) = (m_cl Z 71 [(2, ((r0 : Nat) : Int)), (0, x2), (0, x3)] (K, σ, n, e, s)).bind (m_aft (m_run Z) 75 32 [(2, ((r0 : Nat) : Int)), (0, x1), (0, x2), (0, x3)] [(0, x1)]) := by
  refine g_iload_n (k := 1) (x := x1) (by decide +kernel : decode (m_byt 75) 28 = .ok (.iload_n 1, 1)) rfl ?_
  refine g_aload_n (k := 0) (v := (2, ((r0 : Nat) : Int))) (by decide +kernel : decode (m_byt 75) 29 = .ok (.aload_n 0, 1)) rfl (Or.inl rfl) ?_
  refine g_iload_n (k := 2) (x := x2) (by decide +kernel : decode (m_byt 75) 30 = .ok (.iload_n 2, 1)) rfl ?_
  refine g_iload_n (k := 3) (x := x3) (by decide +kernel : decode (m_byt 75) 31 = .ok (.iload_n 3, 1)) rfl ?_
  exact g_inv (k := 1) (m' := 71) (np := 2) (as := [(2, ((r0 : Nat) : Int)), (0, x2), (0, x3)]) (by decide +kernel : decode (m_byt 75) 32 = .ok (.invokevirtual 113, 3)) (Or.inl ⟨rfl, rfl⟩) (by decide +kernel) (by decide +kernel) (by decide +kernel) (Nat.le_of_ble_eq_true rfl) rfl (Or.inr (g_rcv (by decide +kernel) h0))
theorem b_75_35 {Z : mZ} {l1 : mV} {s0 s1 x3 x2 : Int} {r0 : Nat} {h : mH} : m_run Z (75, 35, [(2, ((r0 : Nat) : Int)), l1, (0, x2), (0, x3)], [(0, s0), (0, s1)], h) = m_run Z (75, 17, [(2, ((r0 : Nat) : Int)), (0, (if w32 s1 < w32 s0 then s0 else s1)), (0, x2), (0, x3 + 1)], [], h) := by
  refine g_max (by decide +kernel : decode (m_byt 75) 35 = .ok (.invokestatic 117, 3)) (by decide +kernel) (by decide +kernel) (Nat.le_of_ble_eq_true rfl) ?_
  show m_run Z (75, 38, [(2, ((r0 : Nat) : Int)), l1, (0, x2), (0, x3)], [(0, (if w32 s1 < w32 s0 then s0 else s1))], h) = _
  refine g_istore_n (k := 1) (by decide +kernel : decode (m_byt 75) 38 = .ok (.istore_n 1, 1)) (Nat.le_of_ble_eq_true rfl) ?_
  show m_run Z (75, 39, [(2, ((r0 : Nat) : Int)), (0, (if w32 s1 < w32 s0 then s0 else s1)), (0, x2), (0, x3)], [], h) = _
  refine g_iinc (k := 3) (x := x3) (by decide +kernel : decode (m_byt 75) 39 = .ok (.iinc 3 1, 3)) rfl (Nat.le_of_ble_eq_true rfl) ?_
  show m_run Z (75, 42, [(2, ((r0 : Nat) : Int)), (0, (if w32 s1 < w32 s0 then s0 else s1)), (0, x2), (0, x3 + 1)], [], h) = _
  refine g_jmp (t := 17) (by decide +kernel : decode (m_byt 75) 42 = .ok (.goto (-25), 3)) (by decide) ?_
  rfl
theorem b_75_45 {Z : mZ} {l0 l3 : mV} {x2 x1 : Int} {h : mH} : m_run Z (75, 45, [l0, (0, x1), (0, x2), l3], [], h) = m_run Z (75, 4, [l0, (0, x1), (0, x2 + 1), l3], [], h) := by
  refine g_iinc (k := 2) (x := x2) (by decide +kernel : decode (m_byt 75) 45 = .ok (.iinc 2 1, 3)) rfl (Nat.le_of_ble_eq_true rfl) ?_
  show m_run Z (75, 48, [l0, (0, x1), (0, x2 + 1), l3], [], h) = _
  refine g_jmp (t := 4) (by decide +kernel : decode (m_byt 75) 48 = .ok (.goto (-44), 3)) (by decide) ?_
  rfl
theorem b_75_51 {Z : mZ} {l0 l2 l3 : mV} {x1 : Int} {h : mH} : m_run Z (75, 51, [l0, (0, x1), l2, l3], [], h) = some (.inl (0, x1), h) := by
  refine g_iload_n (k := 1) (x := x1) (by decide +kernel : decode (m_byt 75) 51 = .ok (.iload_n 1, 1)) rfl ?_
  exact g_iret (by decide +kernel : decode (m_byt 75) 52 = .ok (.ireturn, 1)) (by decide +kernel)
theorem e_76 {Z : mZ} {r0 : Nat} {x1 : Int} {x2 : Int} {h : mH} : m_cl Z 76 [(2, ((r0 : Nat) : Int)), (0, x1), (0, x2)] h = m_run Z (76, 0, [(2, ((r0 : Nat) : Int)), (0, x1), (0, x2), (9, 0), (9, 0)], [], h) := g_ent (k := 5) (by decide) (by decide +kernel) (Nat.le_of_ble_eq_true rfl) (by decide +kernel) rfl
theorem b_76_0 {Z : mZ} {l0 l3 l4 : mV} {x1 x2 : Int} {h : mH} : m_run Z (76, 0, [l0, (0, x1), (0, x2), l3, l4], [], h) = if w32 x1 = w32 x2 then m_run Z (76, 16, [l0, (0, x1), (0, x2), l3, l4], [], h) else m_run Z (76, 5, [l0, (0, x1), (0, x2), l3, l4], [], h) := by
  refine g_iload_n (k := 1) (x := x1) (by decide +kernel : decode (m_byt 76) 0 = .ok (.iload_n 1, 1)) rfl ?_
  refine g_iload_n (k := 2) (x := x2) (by decide +kernel : decode (m_byt 76) 1 = .ok (.iload_n 2, 1)) rfl ?_
  exact g_brq (t := 16) (off := 14) (by decide +kernel : decode (m_byt 76) 2 = .ok (.if_icmp .eq 14, 3)) rfl rfl (by decide)
theorem b_76_5 {Z : mZ} {l3 l4 : mV} {x1 x2 : Int} {r0 : Nat} {K : Nat → mK} {σ : Nat → Nat → Int} {n e s : Nat} (h0 : q_ob K n r0 5) : m_run Z (76, 5, [(2, ((r0 : Nat) : Int)), (0, x1), (0, x2), l3, l4], [], (K, σ, n, e, s)) = (m_cl Z 71 [(2, ((r0 : Nat) : Int)), (0, x1), (0, x2)] (K, σ, n, e, s)).bind (m_aft (m_run Z) 76 8 [(2, ((r0 : Nat) : Int)), (0, x1), (0, x2), l3, l4] []) := by
  refine g_aload_n (k := 0) (v := (2, ((r0 : Nat) : Int))) (by decide +kernel : decode (m_byt 76) 5 = .ok (.aload_n 0, 1)) rfl (Or.inl rfl) ?_
  refine g_iload_n (k := 1) (x := x1) (by decide +kernel : decode (m_byt 76) 6 = .ok (.iload_n 1, 1)) rfl ?_
  refine g_iload_n (k := 2) (x := x2) (by decide +kernel : decode (m_byt 76) 7 = .ok (.iload_n 2, 1)) rfl ?_
  exact g_inv (k := 1) (m' := 71) (np := 2) (as := [(2, ((r0 : Nat) : Int)), (0, x1), (0, x2)]) (by decide +kernel : decode (m_byt 76) 8 = .ok (.invokevirtual 113, 3)) (Or.inl ⟨rfl, rfl⟩) (by decide +kernel) (by decide +kernel) (by decide +kernel) (Nat.le_of_ble_eq_true rfl) rfl (Or.inr (g_rcv (by decide +kernel) h0))
theorem b_76_11 {Z : mZ} {l0 l1 l2 l3 l4 : mV} {s0 : Int} {h : mH} : m_run Z (76, 11, [l0, l1, l2, l3, l4], [(0, s0)], h) = if w32 s0 < w32 1000000 then m_run Z (76, 18, [l0, l1, l2, l3, l4], [], h) else m_run Z (76, 16, [l0, l1, l2, l3, l4], [], h) := by
  refine g_base (by decide +kernel : decode (m_byt 76) 11 = .ok (.ldc 97, 2)) rfl rfl ?_
  show m_run Z (76, 13, [l0, l1, l2, l3, l4], [(0, 1000000), (0, s0)], h) = _
  exact g_brq (t := 18) (off := 5) (by decide +kernel : decode (m_byt 76) 13 = .ok (.if_icmp .lt 5, 3)) rfl rfl (by decide)
theorem b_76_16 {Z : mZ} {l0 l1 l2 l3 l4 : mV} {h : mH} : m_run Z (76, 16, [l0, l1, l2, l3, l4], [], h) = some (.inl (0, (-1)), h) := by
  refine g_base (by decide +kernel : decode (m_byt 76) 16 = .ok (.iconst (-1), 1)) rfl rfl ?_
  show m_run Z (76, 17, [l0, l1, l2, l3, l4], [(0, (-1))], h) = _
  exact g_iret (by decide +kernel : decode (m_byt 76) 17 = .ok (.ireturn, 1)) (by decide +kernel)
theorem b_76_18 {Z : mZ} {l0 l1 l3 l4 : mV} {x2 : Int} {h : mH} : m_run Z (76, 18, [l0, l1, (0, x2), l3, l4], [], h) = m_run Z (76, 20, [l0, l1, (0, x2), (0, 0), l4], [], h) := by
  refine g_base (by decide +kernel : decode (m_byt 76) 18 = .ok (.iconst 0, 1)) rfl rfl ?_
  show m_run Z (76, 19, [l0, l1, (0, x2), l3, l4], [(0, 0)], h) = _
  refine g_istore_n (k := 3) (by decide +kernel : decode (m_byt 76) 19 = .ok (.istore_n 3, 1)) (Nat.le_of_ble_eq_true rfl) ?_
  show m_run Z (76, 20, [l0, l1, (0, x2), (0, 0), l4], [], h) = _
  rfl
theorem b_76_20 {Z : mZ} {l1 l2 l4 : mV} {x3 : Int} {r0 : Nat} {K : Nat → mK} {σ : Nat → Nat → Int} {n e s : Nat} (h0 : q_ob K n r0 5) (h1 : q_rp K r0 0) (h2 : q_ob K n (q_rf K r0 0) 1) : m_run Z (76, 20, [(2, ((r0 : Nat) : Int)), l1, l2, (0, x3), l4], [], (K, σ, n, e, s)) = if w32 (σ ((q_rf K r0 0)) 0) ≤ w32 x3 then m_run Z (76, 78, [(2, ((r0 : Nat) : Int)), l1, l2, (0, x3), l4], [], (K, σ, n, e, s)) else m_run Z (76, 31, [(2, ((r0 : Nat) : Int)), l1, l2, (0, x3), l4], [], (K, σ, n, e, s)) := by
  refine g_iload_n (k := 3) (x := x3) (by decide +kernel : decode (m_byt 76) 20 = .ok (.iload_n 3, 1)) rfl ?_
  refine g_aload_n (k := 0) (v := (2, ((r0 : Nat) : Int))) (by decide +kernel : decode (m_byt 76) 21 = .ok (.aload_n 0, 1)) rfl (Or.inl rfl) ?_
  refine g_getr (ci := 5) (f := 0) (by decide +kernel : decode (m_byt 76) 22 = .ok (.getfield 12, 3)) (by decide +kernel) (by decide +kernel) (by decide +kernel) h0 h1 ?_
  refine g_getf (ci := 1) (f := 0) (by decide +kernel : decode (m_byt 76) 25 = .ok (.getfield 87, 3)) (by decide +kernel) (by decide +kernel) (by decide +kernel) h2 ?_
  exact g_brq (t := 78) (off := 50) (by decide +kernel : decode (m_byt 76) 28 = .ok (.if_icmp .ge 50, 3)) rfl rfl (by decide)
theorem b_76_31 {Z : mZ} {l2 l4 : mV} {x1 x3 : Int} {r0 : Nat} {K : Nat → mK} {σ : Nat → Nat → Int} {n e s : Nat} (h0 : q_ob K n r0 5) (h1 : q_rp K r0 0) (h2 : q_ob K n (q_rf K r0 0) 1) : m_run Z (76, 31, [(2, ((r0 : Nat) : Int)), (0, x1), l2, (0, x3), l4], [], (K, σ, n, e, s)) = (m_cl Z 21 [(2, ((q_rf K r0 0 : Nat) : Int)), (0, x1), (0, x3)] (K, σ, n, e, s)).bind (m_aft (m_run Z) 76 37 [(2, ((r0 : Nat) : Int)), (0, x1), l2, (0, x3), l4] []) := by
  refine g_aload_n (k := 0) (v := (2, ((r0 : Nat) : Int))) (by decide +kernel : decode (m_byt 76) 31 = .ok (.aload_n 0, 1)) rfl (Or.inl rfl) ?_
  refine g_getr (ci := 5) (f := 0) (by decide +kernel : decode (m_byt 76) 32 = .ok (.getfield 12, 3)) (by decide +kernel) (by decide +kernel) (by decide +kernel) h0 h1 ?_
  refine g_iload_n (k := 1) (x := x1) (by decide +kernel : decode (m_byt 76) 35 = .ok (.iload_n 1, 1)) rfl ?_
  refine g_iload_n (k := 3) (x := x3) (by decide +kernel : decode (m_byt 76) 36 = .ok (.iload_n 3, 1)) rfl ?_
  exact g_inv (k := 1) (m' := 21) (np := 2) (as := [(2, ((q_rf K r0 0 : Nat) : Int)), (0, x1), (0, x3)]) (by decide +kernel : decode (m_byt 76) 37 = .ok (.invokevirtual 122, 3)) (Or.inl ⟨rfl, rfl⟩) (by decide +kernel) (by decide +kernel) (by decide +kernel) (Nat.le_of_ble_eq_true rfl) rfl (Or.inr (g_rcv (by decide +kernel) h2))
theorem b_76_40 {Z : mZ} {l0 l1 l2 l4 : mV} {s0 x3 : Int} {h : mH} : m_run Z (76, 40, [l0, l1, l2, (0, x3), l4], [(0, s0)], h) = if w32 s0 = w32 (-1) then m_run Z (76, 72, [l0, l1, l2, (0, x3), (0, s0)], [], h) else m_run Z (76, 48, [l0, l1, l2, (0, x3), (0, s0)], [], h) := by
  refine g_istore (k := 4) (by decide +kernel : decode (m_byt 76) 40 = .ok (.istore 4, 2)) (Nat.le_of_ble_eq_true rfl) ?_
  show m_run Z (76, 42, [l0, l1, l2, (0, x3), (0, s0)], [], h) = _
  refine g_iload (k := 4) (x := s0) (by decide +kernel : decode (m_byt 76) 42 = .ok (.iload 4, 2)) rfl ?_
  refine g_base (by decide +kernel : decode (m_byt 76) 44 = .ok (.iconst (-1), 1)) rfl rfl ?_
  show m_run Z (76, 45, [l0, l1, l2, (0, x3), (0, s0)], [(0, (-1)), (0, s0)], h) = _
  exact g_brq (t := 72) (off := 27) (by decide +kernel : decode (m_byt 76) 45 = .ok (.if_icmp .eq 27, 3)) rfl rfl (by decide)
theorem b_76_48 {Z : mZ} {l1 l2 l3 : mV} {x4 : Int} {r0 : Nat} {K : Nat → mK} {σ : Nat → Nat → Int} {n e s : Nat} (h0 : q_ob K n r0 5) : m_run Z (76, 48, [(2, ((r0 : Nat) : Int)), l1, l2, l3, (0, x4)], [], (K, σ, n, e, s)) = (m_cl Z 69 [(2, ((r0 : Nat) : Int)), (0, x4)] (K, σ, n, e, s)).bind (m_aft (m_run Z) 76 51 [(2, ((r0 : Nat) : Int)), l1, l2, l3, (0, x4)] []) := by
  refine g_aload_n (k := 0) (v := (2, ((r0 : Nat) : Int))) (by decide +kernel : decode (m_byt 76) 48 = .ok (.aload_n 0, 1)) rfl (Or.inl rfl) ?_
  refine g_iload (k := 4) (x := x4) (by decide +kernel : decode (m_byt 76) 49 = .ok (.iload 4, 2)) rfl ?_
  exact g_inv (k := 1) (m' := 69) (np := 1) (as := [(2, ((r0 : Nat) : Int)), (0, x4)]) (by decide +kernel : decode (m_byt 76) 51 = .ok (.invokevirtual 107, 3)) (Or.inl ⟨rfl, rfl⟩) (by decide +kernel) (by decide +kernel) (by decide +kernel) (Nat.le_of_ble_eq_true rfl) rfl (Or.inr (g_rcv (by decide +kernel) h0))
theorem b_76_54 {Z : mZ} {l1 l4 : mV} {s0 x3 x2 : Int} {r0 : Nat} {K : Nat → mK} {σ : Nat → Nat → Int} {n e s : Nat} (h0 : q_ob K n r0 5) : m_run Z (76, 54, [(2, ((r0 : Nat) : Int)), l1, (0, x2), (0, x3), l4], [(0, s0)], (K, σ, n, e, s)) = (m_cl Z 71 [(2, ((r0 : Nat) : Int)), (0, x3), (0, x2)] (K, σ, n, e, s)).bind (m_aft (m_run Z) 76 57 [(2, ((r0 : Nat) : Int)), l1, (0, x2), (0, x3), l4] [(0, s0)]) := by
  refine g_aload_n (k := 0) (v := (2, ((r0 : Nat) : Int))) (by decide +kernel : decode (m_byt 76) 54 = .ok (.aload_n 0, 1)) rfl (Or.inl rfl) ?_
  refine g_iload_n (k := 3) (x := x3) (by decide +kernel : decode (m_byt 76) 55 = .ok (.iload_n 3, 1)) rfl ?_
  refine g_iload_n (k := 2) (x := x2) (by decide +kernel : decode (m_byt 76) 56 = .ok (.iload_n 2, 1)) rfl ?_
  exact g_inv (k := 1) (m' := 71) (np := 2) (as := [(2, ((r0 : Nat) : Int)), (0, x3), (0, x2)]) (by decide +kernel : decode (m_byt 76) 57 = .ok (.invokevirtual 113, 3)) (Or.inl ⟨rfl, rfl⟩) (by decide +kernel) (by decide +kernel) (by decide +kernel) (Nat.le_of_ble_eq_true rfl) rfl (Or.inr (g_rcv (by decide +kernel) h0))
theorem b_76_60 {Z : mZ} {l3 l4 : mV} {s0 s1 x1 x2 : Int} {r0 : Nat} {K : Nat → mK} {σ : Nat → Nat → Int} {n e s : Nat} (h0 : q_ob K n r0 5) : m_run Z (76, 60, [(2, ((r0 : Nat) : Int)), (0, x1), (0, x2), l3, l4], [(0, s0), (0, s1)], (K, σ, n, e, s)) = (m_cl Z 71 [(2, ((r0 : Nat) : Int)), (0, x1), (0, x2)] (K, σ, n, e, s)).bind (m_aft (m_run Z) 76 64 [(2, ((r0 : Nat) : Int)), (0, x1), (0, x2), l3, l4] [(0, (s1 + s0))]) := by
  refine g_base (by decide +kernel : decode (m_byt 76) 60 = .ok (.iadd, 1)) rfl rfl ?_
  show m_run Z (76, 61, [(2, ((r0 : Nat) : Int)), (0, x1), (0, x2), l3, l4], [(0, (s1 + s0))], (K, σ, n, e, s)) = _
  refine g_aload_n (k := 0) (v := (2, ((r0 : Nat) : Int))) (by decide +kernel : decode (m_byt 76) 61 = .ok (.aload_n 0, 1)) rfl (Or.inl rfl) ?_
  refine g_iload_n (k := 1) (x := x1) (by decide +kernel : decode (m_byt 76) 62 = .ok (.iload_n 1, 1)) rfl ?_
  refine g_iload_n (k := 2) (x := x2) (by decide +kernel : decode (m_byt 76) 63 = .ok (.iload_n 2, 1)) rfl ?_
  exact g_inv (k := 1) (m' := 71) (np := 2) (as := [(2, ((r0 : Nat) : Int)), (0, x1), (0, x2)]) (by decide +kernel : decode (m_byt 76) 64 = .ok (.invokevirtual 113, 3)) (Or.inl ⟨rfl, rfl⟩) (by decide +kernel) (by decide +kernel) (by decide +kernel) (Nat.le_of_ble_eq_true rfl) rfl (Or.inr (g_rcv (by decide +kernel) h0))
theorem b_76_67 {Z : mZ} {l0 l1 l2 l3 l4 : mV} {s0 s1 : Int} {h : mH} : m_run Z (76, 67, [l0, l1, l2, l3, l4], [(0, s0), (0, s1)], h) = if w32 s1 = w32 s0 then m_run Z (76, 70, [l0, l1, l2, l3, l4], [], h) else m_run Z (76, 72, [l0, l1, l2, l3, l4], [], h) := by
  exact g_brn (t := 72) (off := 5) (by decide +kernel : decode (m_byt 76) 67 = .ok (.if_icmp .ne 5, 3)) rfl rfl (by decide)
theorem b_76_70 {Z : mZ} {l0 l1 l2 l4 : mV} {x3 : Int} {h : mH} : m_run Z (76, 70, [l0, l1, l2, (0, x3), l4], [], h) = some (.inl (0, x3), h) := by
  refine g_iload_n (k := 3) (x := x3) (by decide +kernel : decode (m_byt 76) 70 = .ok (.iload_n 3, 1)) rfl ?_
  exact g_iret (by decide +kernel : decode (m_byt 76) 71 = .ok (.ireturn, 1)) (by decide +kernel)
theorem b_76_72 {Z : mZ} {l0 l1 l4 : mV} {x3 x2 : Int} {h : mH} : m_run Z (76, 72, [l0, l1, (0, x2), (0, x3), l4], [], h) = m_run Z (76, 20, [l0, l1, (0, x2), (0, x3 + 1), l4], [], h) := by
  refine g_iinc (k := 3) (x := x3) (by decide +kernel : decode (m_byt 76) 72 = .ok (.iinc 3 1, 3)) rfl (Nat.le_of_ble_eq_true rfl) ?_
  show m_run Z (76, 75, [l0, l1, (0, x2), (0, x3 + 1), l4], [], h) = _
  refine g_jmp (t := 20) (by decide +kernel : decode (m_byt 76) 75 = .ok (.goto (-55), 3)) (by decide) ?_
  rfl
theorem b_76_78 {Z : mZ} {l0 l1 l2 l3 l4 : mV} {h : mH} : m_run Z (76, 78, [l0, l1, l2, l3, l4], [], h) = some (.inl (0, (-1)), h) := by
  refine g_base (by decide +kernel : decode (m_byt 76) 78 = .ok (.iconst (-1), 1)) rfl rfl ?_
  show m_run Z (76, 79, [l0, l1, l2, l3, l4], [(0, (-1))], h) = _
  exact g_iret (by decide +kernel : decode (m_byt 76) 79 = .ok (.ireturn, 1)) (by decide +kernel)
theorem e_77 {Z : mZ} {r0 : Nat} {x1 : Int} {x2 : Int} {h : mH} : m_cl Z 77 [(2, ((r0 : Nat) : Int)), (0, x1), (0, x2)] h = m_run Z (77, 0, [(2, ((r0 : Nat) : Int)), (0, x1), (0, x2)], [], h) := g_ent (k := 3) (by decide) (by decide +kernel) (Nat.le_of_ble_eq_true rfl) (by decide +kernel) rfl
theorem b_77_0 {Z : mZ} {x2 x1 : Int} {r0 : Nat} {K : Nat → mK} {σ : Nat → Nat → Int} {n e s : Nat} (h0 : q_ob K n r0 5) (h1 : q_rp K r0 6) (h2 : q_ob K n (q_rf K r0 6) 3) : m_run Z (77, 0, [(2, ((r0 : Nat) : Int)), (0, x1), (0, x2)], [], (K, σ, n, e, s)) = (m_cl Z 44 [(2, ((q_rf K r0 6 : Nat) : Int)), (0, ((x2 * 8) + x1))] (K, σ, n, e, s)).bind (m_aft (m_run Z) 77 10 [(2, ((r0 : Nat) : Int)), (0, x1), (0, x2)] []) := by
  refine g_aload_n (k := 0) (v := (2, ((r0 : Nat) : Int))) (by decide +kernel : decode (m_byt 77) 0 = .ok (.aload_n 0, 1)) rfl (Or.inl rfl) ?_
  refine g_getr (ci := 5) (f := 6) (by decide +kernel : decode (m_byt 77) 1 = .ok (.getfield 30, 3)) (by decide +kernel) (by decide +kernel) (by decide +kernel) h0 h1 ?_
  refine g_iload_n (k := 2) (x := x2) (by decide +kernel : decode (m_byt 77) 4 = .ok (.iload_n 2, 1)) rfl ?_
  refine g_base (by decide +kernel : decode (m_byt 77) 5 = .ok (.bipush 8, 2)) rfl rfl ?_
  show m_run Z (77, 7, [(2, ((r0 : Nat) : Int)), (0, x1), (0, x2)], [(0, 8), (0, x2), (2, ((q_rf K r0 6 : Nat) : Int))], (K, σ, n, e, s)) = _
  refine g_base (by decide +kernel : decode (m_byt 77) 7 = .ok (.imul, 1)) rfl rfl ?_
  show m_run Z (77, 8, [(2, ((r0 : Nat) : Int)), (0, x1), (0, x2)], [(0, (x2 * 8)), (2, ((q_rf K r0 6 : Nat) : Int))], (K, σ, n, e, s)) = _
  refine g_iload_n (k := 1) (x := x1) (by decide +kernel : decode (m_byt 77) 8 = .ok (.iload_n 1, 1)) rfl ?_
  refine g_base (by decide +kernel : decode (m_byt 77) 9 = .ok (.iadd, 1)) rfl rfl ?_
  show m_run Z (77, 10, [(2, ((r0 : Nat) : Int)), (0, x1), (0, x2)], [(0, ((x2 * 8) + x1)), (2, ((q_rf K r0 6 : Nat) : Int))], (K, σ, n, e, s)) = _
  exact g_inv (k := 1) (m' := 44) (np := 1) (as := [(2, ((q_rf K r0 6 : Nat) : Int)), (0, ((x2 * 8) + x1))]) (by decide +kernel : decode (m_byt 77) 10 = .ok (.invokevirtual 61, 3)) (Or.inl ⟨rfl, rfl⟩) (by decide +kernel) (by decide +kernel) (by decide +kernel) (Nat.le_of_ble_eq_true rfl) rfl (Or.inr (g_rcv (by decide +kernel) h2))
theorem b_77_13 {Z : mZ} {l0 l1 l2 : mV} {s0 : Int} {h : mH} : m_run Z (77, 13, [l0, l1, l2], [(0, s0)], h) = some (.inl (0, s0), h) := by
  exact g_iret (by decide +kernel : decode (m_byt 77) 13 = .ok (.ireturn, 1)) (by decide +kernel)
theorem e_78 {Z : mZ} {r0 : Nat} {x1 : Int} {x2 : Int} {h : mH} : m_cl Z 78 [(2, ((r0 : Nat) : Int)), (0, x1), (0, x2)] h = m_run Z (78, 0, [(2, ((r0 : Nat) : Int)), (0, x1), (0, x2)], [], h) := g_ent (k := 3) (by decide) (by decide +kernel) (Nat.le_of_ble_eq_true rfl) (by decide +kernel) rfl
theorem b_78_0 {Z : mZ} {x2 x1 : Int} {r0 : Nat} {K : Nat → mK} {σ : Nat → Nat → Int} {n e s : Nat} (h0 : q_ob K n r0 5) (h1 : q_rp K r0 7) (h2 : q_ob K n (q_rf K r0 7) 3) : m_run Z (78, 0, [(2, ((r0 : Nat) : Int)), (0, x1), (0, x2)], [], (K, σ, n, e, s)) = (m_cl Z 44 [(2, ((q_rf K r0 7 : Nat) : Int)), (0, ((x2 * 8) + x1))] (K, σ, n, e, s)).bind (m_aft (m_run Z) 78 10 [(2, ((r0 : Nat) : Int)), (0, x1), (0, x2)] []) := by
  refine g_aload_n (k := 0) (v := (2, ((r0 : Nat) : Int))) (by decide +kernel : decode (m_byt 78) 0 = .ok (.aload_n 0, 1)) rfl (Or.inl rfl) ?_
  refine g_getr (ci := 5) (f := 7) (by decide +kernel : decode (m_byt 78) 1 = .ok (.getfield 33, 3)) (by decide +kernel) (by decide +kernel) (by decide +kernel) h0 h1 ?_
  refine g_iload_n (k := 2) (x := x2) (by decide +kernel : decode (m_byt 78) 4 = .ok (.iload_n 2, 1)) rfl ?_
  refine g_base (by decide +kernel : decode (m_byt 78) 5 = .ok (.bipush 8, 2)) rfl rfl ?_
  show m_run Z (78, 7, [(2, ((r0 : Nat) : Int)), (0, x1), (0, x2)], [(0, 8), (0, x2), (2, ((q_rf K r0 7 : Nat) : Int))], (K, σ, n, e, s)) = _
  refine g_base (by decide +kernel : decode (m_byt 78) 7 = .ok (.imul, 1)) rfl rfl ?_
  show m_run Z (78, 8, [(2, ((r0 : Nat) : Int)), (0, x1), (0, x2)], [(0, (x2 * 8)), (2, ((q_rf K r0 7 : Nat) : Int))], (K, σ, n, e, s)) = _
  refine g_iload_n (k := 1) (x := x1) (by decide +kernel : decode (m_byt 78) 8 = .ok (.iload_n 1, 1)) rfl ?_
  refine g_base (by decide +kernel : decode (m_byt 78) 9 = .ok (.iadd, 1)) rfl rfl ?_
  show m_run Z (78, 10, [(2, ((r0 : Nat) : Int)), (0, x1), (0, x2)], [(0, ((x2 * 8) + x1)), (2, ((q_rf K r0 7 : Nat) : Int))], (K, σ, n, e, s)) = _
  exact g_inv (k := 1) (m' := 44) (np := 1) (as := [(2, ((q_rf K r0 7 : Nat) : Int)), (0, ((x2 * 8) + x1))]) (by decide +kernel : decode (m_byt 78) 10 = .ok (.invokevirtual 61, 3)) (Or.inl ⟨rfl, rfl⟩) (by decide +kernel) (by decide +kernel) (by decide +kernel) (Nat.le_of_ble_eq_true rfl) rfl (Or.inr (g_rcv (by decide +kernel) h2))
theorem b_78_13 {Z : mZ} {l0 l1 l2 : mV} {s0 : Int} {h : mH} : m_run Z (78, 13, [l0, l1, l2], [(0, s0)], h) = some (.inl (0, s0), h) := by
  exact g_iret (by decide +kernel : decode (m_byt 78) 13 = .ok (.ireturn, 1)) (by decide +kernel)
theorem e_79 {Z : mZ} {r0 : Nat} {x1 : Int} {x2 : Int} {x3 : Int} {x4 : Int} {h : mH} : m_cl Z 79 [(2, ((r0 : Nat) : Int)), (0, x1), (0, x2), (0, x3), (0, x4)] h = m_run Z (79, 0, [(2, ((r0 : Nat) : Int)), (0, x1), (0, x2), (0, x3), (0, x4), (9, 0)], [], h) := g_ent (k := 6) (by decide) (by decide +kernel) (Nat.le_of_ble_eq_true rfl) (by decide +kernel) rfl
theorem b_79_0 {Z : mZ} {l3 l5 : mV} {x2 x1 x4 : Int} {r0 : Nat} {K : Nat → mK} {σ : Nat → Nat → Int} {n e s : Nat} (h0 : q_ob K n r0 5) (h1 : q_rp K r0 6) (h2 : q_ob K n (q_rf K r0 6) 3) : m_run Z (79, 0, [(2, ((r0 : Nat) : Int)), (0, x1), (0, x2), l3, (0, x4), l5], [], (K, σ, n, e, s)) = (m_cl Z 44 [(2, ((q_rf K r0 6 : Nat) : Int)), (0, ((x2 * 8) + x1))] (K, σ, n, e, s)).bind (m_aft (m_run Z) 79 14 [(2, ((r0 : Nat) : Int)), (0, x1), (0, x2), l3, (0, x4), (0, ((x2 * 8) + x1))] []) := by
  refine g_iload_n (k := 2) (x := x2) (by decide +kernel : decode (m_byt 79) 0 = .ok (.iload_n 2, 1)) rfl ?_
  refine g_base (by decide +kernel : decode (m_byt 79) 1 = .ok (.bipush 8, 2)) rfl rfl ?_
  show m_run Z (79, 3, [(2, ((r0 : Nat) : Int)), (0, x1), (0, x2), l3, (0, x4), l5], [(0, 8), (0, x2)], (K, σ, n, e, s)) = _
  refine g_base (by decide +kernel : decode (m_byt 79) 3 = .ok (.imul, 1)) rfl rfl ?_
  show m_run Z (79, 4, [(2, ((r0 : Nat) : Int)), (0, x1), (0, x2), l3, (0, x4), l5], [(0, (x2 * 8))], (K, σ, n, e, s)) = _
  refine g_iload_n (k := 1) (x := x1) (by decide +kernel : decode (m_byt 79) 4 = .ok (.iload_n 1, 1)) rfl ?_
  refine g_base (by decide +kernel : decode (m_byt 79) 5 = .ok (.iadd, 1)) rfl rfl ?_
  show m_run Z (79, 6, [(2, ((r0 : Nat) : Int)), (0, x1), (0, x2), l3, (0, x4), l5], [(0, ((x2 * 8) + x1))], (K, σ, n, e, s)) = _
  refine g_istore (k := 5) (by decide +kernel : decode (m_byt 79) 6 = .ok (.istore 5, 2)) (Nat.le_of_ble_eq_true rfl) ?_
  show m_run Z (79, 8, [(2, ((r0 : Nat) : Int)), (0, x1), (0, x2), l3, (0, x4), (0, ((x2 * 8) + x1))], [], (K, σ, n, e, s)) = _
  refine g_aload_n (k := 0) (v := (2, ((r0 : Nat) : Int))) (by decide +kernel : decode (m_byt 79) 8 = .ok (.aload_n 0, 1)) rfl (Or.inl rfl) ?_
  refine g_getr (ci := 5) (f := 6) (by decide +kernel : decode (m_byt 79) 9 = .ok (.getfield 30, 3)) (by decide +kernel) (by decide +kernel) (by decide +kernel) h0 h1 ?_
  refine g_iload (k := 5) (x := ((x2 * 8) + x1)) (by decide +kernel : decode (m_byt 79) 12 = .ok (.iload 5, 2)) rfl ?_
  exact g_inv (k := 1) (m' := 44) (np := 1) (as := [(2, ((q_rf K r0 6 : Nat) : Int)), (0, ((x2 * 8) + x1))]) (by decide +kernel : decode (m_byt 79) 14 = .ok (.invokevirtual 61, 3)) (Or.inl ⟨rfl, rfl⟩) (by decide +kernel) (by decide +kernel) (by decide +kernel) (Nat.le_of_ble_eq_true rfl) rfl (Or.inr (g_rcv (by decide +kernel) h2))
theorem b_79_17 {Z : mZ} {l1 l2 : mV} {s0 x4 x3 x5 : Int} {r0 : Nat} {K : Nat → mK} {σ : Nat → Nat → Int} {n e s : Nat} (h0 : q_ob K n r0 5) (h1 : q_rp K r0 7) (h2 : q_ob K n (q_rf K r0 7) 3) : m_run Z (79, 17, [(2, ((r0 : Nat) : Int)), l1, l2, (0, x3), (0, x4), (0, x5)], [(0, s0)], (K, σ, n, e, s)) = (m_cl Z 44 [(2, ((q_rf K r0 7 : Nat) : Int)), (0, x5)] (K, σ, n, e, s)).bind (m_aft (m_run Z) 79 28 [(2, ((r0 : Nat) : Int)), l1, l2, (0, x3), (0, x4), (0, x5)] [(0, ((s0 * x4) + x3))]) := by
  refine g_iload (k := 4) (x := x4) (by decide +kernel : decode (m_byt 79) 17 = .ok (.iload 4, 2)) rfl ?_
  refine g_base (by decide +kernel : decode (m_byt 79) 19 = .ok (.imul, 1)) rfl rfl ?_
  show m_run Z (79, 20, [(2, ((r0 : Nat) : Int)), l1, l2, (0, x3), (0, x4), (0, x5)], [(0, (s0 * x4))], (K, σ, n, e, s)) = _
  refine g_iload_n (k := 3) (x := x3) (by decide +kernel : decode (m_byt 79) 20 = .ok (.iload_n 3, 1)) rfl ?_
  refine g_base (by decide +kernel : decode (m_byt 79) 21 = .ok (.iadd, 1)) rfl rfl ?_
  show m_run Z (79, 22, [(2, ((r0 : Nat) : Int)), l1, l2, (0, x3), (0, x4), (0, x5)], [(0, ((s0 * x4) + x3))], (K, σ, n, e, s)) = _
  refine g_aload_n (k := 0) (v := (2, ((r0 : Nat) : Int))) (by decide +kernel : decode (m_byt 79) 22 = .ok (.aload_n 0, 1)) rfl (Or.inl rfl) ?_
  refine g_getr (ci := 5) (f := 7) (by decide +kernel : decode (m_byt 79) 23 = .ok (.getfield 33, 3)) (by decide +kernel) (by decide +kernel) (by decide +kernel) h0 h1 ?_
  refine g_iload (k := 5) (x := x5) (by decide +kernel : decode (m_byt 79) 26 = .ok (.iload 5, 2)) rfl ?_
  exact g_inv (k := 1) (m' := 44) (np := 1) (as := [(2, ((q_rf K r0 7 : Nat) : Int)), (0, x5)]) (by decide +kernel : decode (m_byt 79) 28 = .ok (.invokevirtual 61, 3)) (Or.inl ⟨rfl, rfl⟩) (by decide +kernel) (by decide +kernel) (by decide +kernel) (Nat.le_of_ble_eq_true rfl) rfl (Or.inr (g_rcv (by decide +kernel) h2))
theorem b_79_31 {Z : mZ} {l0 l1 l2 l5 : mV} {s0 s1 x4 x3 : Int} {h : mH} : m_run Z (79, 31, [l0, l1, l2, (0, x3), (0, x4), l5], [(0, s0), (0, s1)], h) = some (.inl (0, (if w32 ((s0 * x4) - x3) < w32 s1 then ((s0 * x4) - x3) else s1)), h) := by
  refine g_iload (k := 4) (x := x4) (by decide +kernel : decode (m_byt 79) 31 = .ok (.iload 4, 2)) rfl ?_
  refine g_base (by decide +kernel : decode (m_byt 79) 33 = .ok (.imul, 1)) rfl rfl ?_
  show m_run Z (79, 34, [l0, l1, l2, (0, x3), (0, x4), l5], [(0, (s0 * x4)), (0, s1)], h) = _
  refine g_iload_n (k := 3) (x := x3) (by decide +kernel : decode (m_byt 79) 34 = .ok (.iload_n 3, 1)) rfl ?_
  refine g_base (by decide +kernel : decode (m_byt 79) 35 = .ok (.isub, 1)) rfl rfl ?_
  show m_run Z (79, 36, [l0, l1, l2, (0, x3), (0, x4), l5], [(0, ((s0 * x4) - x3)), (0, s1)], h) = _
  refine g_min (by decide +kernel : decode (m_byt 79) 36 = .ok (.invokestatic 125, 3)) (by decide +kernel) (by decide +kernel) (Nat.le_of_ble_eq_true rfl) ?_
  show m_run Z (79, 39, [l0, l1, l2, (0, x3), (0, x4), l5], [(0, (if w32 ((s0 * x4) - x3) < w32 s1 then ((s0 * x4) - x3) else s1))], h) = _
  exact g_iret (by decide +kernel : decode (m_byt 79) 39 = .ok (.ireturn, 1)) (by decide +kernel)
theorem e_80 {Z : mZ} {r0 : Nat} {x1 : Int} {x2 : Int} {x3 : Int} {x4 : Int} {h : mH} : m_cl Z 80 [(2, ((r0 : Nat) : Int)), (0, x1), (0, x2), (0, x3), (0, x4)] h = m_run Z (80, 0, [(2, ((r0 : Nat) : Int)), (0, x1), (0, x2), (0, x3), (0, x4)], [], h) := g_ent (k := 5) (by decide) (by decide +kernel) (Nat.le_of_ble_eq_true rfl) (by decide +kernel) rfl
theorem b_80_0 {Z : mZ} {l2 l3 l4 : mV} {x1 : Int} {r0 : Nat} {K : Nat → mK} {σ : Nat → Nat → Int} {n e s : Nat} (h0 : q_ob K n r0 5) (h1 : q_rp K r0 4) (h2 : q_ob K n (q_rf K r0 4) 3) : m_run Z (80, 0, [(2, ((r0 : Nat) : Int)), (0, x1), l2, l3, l4], [], (K, σ, n, e, s)) = (m_cl Z 44 [(2, ((q_rf K r0 4 : Nat) : Int)), (0, x1)] (K, σ, n, e, s)).bind (m_aft (m_run Z) 80 5 [(2, ((r0 : Nat) : Int)), (0, x1), l2, l3, l4] []) := by
  refine g_aload_n (k := 0) (v := (2, ((r0 : Nat) : Int))) (by decide +kernel : decode (m_byt 80) 0 = .ok (.aload_n 0, 1)) rfl (Or.inl rfl) ?_
  refine g_getr (ci := 5) (f := 4) (by decide +kernel : decode (m_byt 80) 1 = .ok (.getfield 23, 3)) (by decide +kernel) (by decide +kernel) (by decide +kernel) h0 h1 ?_
  refine g_iload_n (k := 1) (x := x1) (by decide +kernel : decode (m_byt 80) 4 = .ok (.iload_n 1, 1)) rfl ?_
  exact g_inv (k := 1) (m' := 44) (np := 1) (as := [(2, ((q_rf K r0 4 : Nat) : Int)), (0, x1)]) (by decide +kernel : decode (m_byt 80) 5 = .ok (.invokevirtual 61, 3)) (Or.inl ⟨rfl, rfl⟩) (by decide +kernel) (by decide +kernel) (by decide +kernel) (Nat.le_of_ble_eq_true rfl) rfl (Or.inr (g_rcv (by decide +kernel) h2))
theorem b_80_8 {Z : mZ} {s0 x1 x2 x3 x4 : Int} {r0 : Nat} {K : Nat → mK} {σ : Nat → Nat → Int} {n e s : Nat} (h0 : q_ob K n r0 5) : m_run Z (80, 8, [(2, ((r0 : Nat) : Int)), (0, x1), (0, x2), (0, x3), (0, x4)], [(0, s0)], (K, σ, n, e, s)) = (m_cl Z 79 [(2, ((r0 : Nat) : Int)), (0, x1), (0, x2), (0, x3), (0, x4)] (K, σ, n, e, s)).bind (m_aft (m_run Z) 80 14 [(2, ((r0 : Nat) : Int)), (0, x1), (0, x2), (0, x3), (0, x4)] [(0, s0)]) := by
  refine g_aload_n (k := 0) (v := (2, ((r0 : Nat) : Int))) (by decide +kernel : decode (m_byt 80) 8 = .ok (.aload_n 0, 1)) rfl (Or.inl rfl) ?_
  refine g_iload_n (k := 1) (x := x1) (by decide +kernel : decode (m_byt 80) 9 = .ok (.iload_n 1, 1)) rfl ?_
  refine g_iload_n (k := 2) (x := x2) (by decide +kernel : decode (m_byt 80) 10 = .ok (.iload_n 2, 1)) rfl ?_
  refine g_iload_n (k := 3) (x := x3) (by decide +kernel : decode (m_byt 80) 11 = .ok (.iload_n 3, 1)) rfl ?_
  refine g_iload (k := 4) (x := x4) (by decide +kernel : decode (m_byt 80) 12 = .ok (.iload 4, 2)) rfl ?_
  exact g_inv (k := 1) (m' := 79) (np := 4) (as := [(2, ((r0 : Nat) : Int)), (0, x1), (0, x2), (0, x3), (0, x4)]) (by decide +kernel : decode (m_byt 80) 14 = .ok (.invokevirtual 128, 3)) (Or.inl ⟨rfl, rfl⟩) (by decide +kernel) (by decide +kernel) (by decide +kernel) (Nat.le_of_ble_eq_true rfl) rfl (Or.inr (g_rcv (by decide +kernel) h0))
theorem b_80_17 {Z : mZ} {l0 l1 l2 l3 l4 : mV} {s0 s1 : Int} {h : mH} : m_run Z (80, 17, [l0, l1, l2, l3, l4], [(0, s0), (0, s1)], h) = some (.inl (0, (s1 * s0)), h) := by
  refine g_base (by decide +kernel : decode (m_byt 80) 17 = .ok (.imul, 1)) rfl rfl ?_
  show m_run Z (80, 18, [l0, l1, l2, l3, l4], [(0, (s1 * s0))], h) = _
  exact g_iret (by decide +kernel : decode (m_byt 80) 18 = .ok (.ireturn, 1)) (by decide +kernel)
theorem e_81 {Z : mZ} {r0 : Nat} {x1 : Int} {x2 : Int} {x3 : Int} {x4 : Int} {h : mH} : m_cl Z 81 [(2, ((r0 : Nat) : Int)), (0, x1), (0, x2), (0, x3), (0, x4)] h = m_run Z (81, 0, [(2, ((r0 : Nat) : Int)), (0, x1), (0, x2), (0, x3), (0, x4), (9, 0), (9, 0)], [], h) := g_ent (k := 7) (by decide) (by decide +kernel) (Nat.le_of_ble_eq_true rfl) (by decide +kernel) rfl
theorem b_81_0 {Z : mZ} {l0 l1 l2 l3 l5 l6 : mV} {x4 : Int} {h : mH} : m_run Z (81, 0, [l0, l1, l2, l3, (0, x4), l5, l6], [], h) = m_run Z (81, 6, [l0, l1, l2, l3, (0, x4), (0, 0), (0, 0)], [], h) := by
  refine g_base (by decide +kernel : decode (m_byt 81) 0 = .ok (.iconst 0, 1)) rfl rfl ?_
  show m_run Z (81, 1, [l0, l1, l2, l3, (0, x4), l5, l6], [(0, 0)], h) = _
  refine g_istore (k := 5) (by decide +kernel : decode (m_byt 81) 1 = .ok (.istore 5, 2)) (Nat.le_of_ble_eq_true rfl) ?_
  show m_run Z (81, 3, [l0, l1, l2, l3, (0, x4), (0, 0), l6], [], h) = _
  refine g_base (by decide +kernel : decode (m_byt 81) 3 = .ok (.iconst 0, 1)) rfl rfl ?_
  show m_run Z (81, 4, [l0, l1, l2, l3, (0, x4), (0, 0), l6], [(0, 0)], h) = _
  refine g_istore (k := 6) (by decide +kernel : decode (m_byt 81) 4 = .ok (.istore 6, 2)) (Nat.le_of_ble_eq_true rfl) ?_
  show m_run Z (81, 6, [l0, l1, l2, l3, (0, x4), (0, 0), (0, 0)], [], h) = _
  rfl
theorem b_81_6 {Z : mZ} {l1 l2 l3 l4 l5 : mV} {x6 : Int} {r0 : Nat} {K : Nat → mK} {σ : Nat → Nat → Int} {n e s : Nat} (h0 : q_ob K n r0 5) (h1 : q_rp K r0 0) (h2 : q_ob K n (q_rf K r0 0) 1) : m_run Z (81, 6, [(2, ((r0 : Nat) : Int)), l1, l2, l3, l4, l5, (0, x6)], [], (K, σ, n, e, s)) = if w32 (σ ((q_rf K r0 0)) 0) ≤ w32 x6 then m_run Z (81, 51, [(2, ((r0 : Nat) : Int)), l1, l2, l3, l4, l5, (0, x6)], [], (K, σ, n, e, s)) else m_run Z (81, 18, [(2, ((r0 : Nat) : Int)), l1, l2, l3, l4, l5, (0, x6)], [], (K, σ, n, e, s)) := by
  refine g_iload (k := 6) (x := x6) (by decide +kernel : decode (m_byt 81) 6 = .ok (.iload 6, 2)) rfl ?_
  refine g_aload_n (k := 0) (v := (2, ((r0 : Nat) : Int))) (by decide +kernel : decode (m_byt 81) 8 = .ok (.aload_n 0, 1)) rfl (Or.inl rfl) ?_
  refine g_getr (ci := 5) (f := 0) (by decide +kernel : decode (m_byt 81) 9 = .ok (.getfield 12, 3)) (by decide +kernel) (by decide +kernel) (by decide +kernel) h0 h1 ?_
  refine g_getf (ci := 1) (f := 0) (by decide +kernel : decode (m_byt 81) 12 = .ok (.getfield 87, 3)) (by decide +kernel) (by decide +kernel) (by decide +kernel) h2 ?_
  exact g_brq (t := 51) (off := 36) (by decide +kernel : decode (m_byt 81) 15 = .ok (.if_icmp .ge 36, 3)) rfl rfl (by decide)
theorem b_81_18 {Z : mZ} {l0 l2 l3 l4 l5 : mV} {x1 x6 : Int} {h : mH} : m_run Z (81, 18, [l0, (0, x1), l2, l3, l4, l5, (0, x6)], [], h) = if w32 (i_and (i_shr x1 x6) 1) = w32 1 then m_run Z (81, 28, [l0, (0, x1), l2, l3, l4, l5, (0, x6)], [], h) else m_run Z (81, 45, [l0, (0, x1), l2, l3, l4, l5, (0, x6)], [], h) := by
  refine g_iload_n (k := 1) (x := x1) (by decide +kernel : decode (m_byt 81) 18 = .ok (.iload_n 1, 1)) rfl ?_
  refine g_iload (k := 6) (x := x6) (by decide +kernel : decode (m_byt 81) 19 = .ok (.iload 6, 2)) rfl ?_
  refine g_base (by decide +kernel : decode (m_byt 81) 21 = .ok (.ishr, 1)) rfl rfl ?_
  show m_run Z (81, 22, [l0, (0, x1), l2, l3, l4, l5, (0, x6)], [(0, (i_shr x1 x6))], h) = _
  refine g_base (by decide +kernel : decode (m_byt 81) 22 = .ok (.iconst 1, 1)) rfl rfl ?_
  show m_run Z (81, 23, [l0, (0, x1), l2, l3, l4, l5, (0, x6)], [(0, 1), (0, (i_shr x1 x6))], h) = _
  refine g_base (by decide +kernel : decode (m_byt 81) 23 = .ok (.iand, 1)) rfl rfl ?_
  show m_run Z (81, 24, [l0, (0, x1), l2, l3, l4, l5, (0, x6)], [(0, (i_and (i_shr x1 x6) 1))], h) = _
  refine g_base (by decide +kernel : decode (m_byt 81) 24 = .ok (.iconst 1, 1)) rfl rfl ?_
  show m_run Z (81, 25, [l0, (0, x1), l2, l3, l4, l5, (0, x6)], [(0, 1), (0, (i_and (i_shr x1 x6) 1))], h) = _
  exact g_brn (t := 45) (off := 20) (by decide +kernel : decode (m_byt 81) 25 = .ok (.if_icmp .ne 20, 3)) rfl rfl (by decide)
theorem b_81_28 {Z : mZ} {l1 : mV} {x5 x6 x2 x3 x4 : Int} {r0 : Nat} {K : Nat → mK} {σ : Nat → Nat → Int} {n e s : Nat} (h0 : q_ob K n r0 5) : m_run Z (81, 28, [(2, ((r0 : Nat) : Int)), l1, (0, x2), (0, x3), (0, x4), (0, x5), (0, x6)], [], (K, σ, n, e, s)) = (m_cl Z 80 [(2, ((r0 : Nat) : Int)), (0, x6), (0, x2), (0, x3), (0, x4)] (K, σ, n, e, s)).bind (m_aft (m_run Z) 81 37 [(2, ((r0 : Nat) : Int)), l1, (0, x2), (0, x3), (0, x4), (0, x5), (0, x6)] [(0, x5)]) := by
  refine g_iload (k := 5) (x := x5) (by decide +kernel : decode (m_byt 81) 28 = .ok (.iload 5, 2)) rfl ?_
  refine g_aload_n (k := 0) (v := (2, ((r0 : Nat) : Int))) (by decide +kernel : decode (m_byt 81) 30 = .ok (.aload_n 0, 1)) rfl (Or.inl rfl) ?_
  refine g_iload (k := 6) (x := x6) (by decide +kernel : decode (m_byt 81) 31 = .ok (.iload 6, 2)) rfl ?_
  refine g_iload_n (k := 2) (x := x2) (by decide +kernel : decode (m_byt 81) 33 = .ok (.iload_n 2, 1)) rfl ?_
  refine g_iload_n (k := 3) (x := x3) (by decide +kernel : decode (m_byt 81) 34 = .ok (.iload_n 3, 1)) rfl ?_
  refine g_iload (k := 4) (x := x4) (by decide +kernel : decode (m_byt 81) 35 = .ok (.iload 4, 2)) rfl ?_
  exact g_inv (k := 1) (m' := 80) (np := 4) (as := [(2, ((r0 : Nat) : Int)), (0, x6), (0, x2), (0, x3), (0, x4)]) (by decide +kernel : decode (m_byt 81) 37 = .ok (.invokevirtual 132, 3)) (Or.inl ⟨rfl, rfl⟩) (by decide +kernel) (by decide +kernel) (by decide +kernel) (Nat.le_of_ble_eq_true rfl) rfl (Or.inr (g_rcv (by decide +kernel) h0))
theorem b_81_40 {Z : mZ} {l0 l1 l2 l3 l5 l6 : mV} {s0 s1 x4 : Int} {h : mH} : m_run Z (81, 40, [l0, l1, l2, l3, (0, x4), l5, l6], [(0, s0), (0, s1)], h) = m_run Z (81, 45, [l0, l1, l2, l3, (0, x4), (0, (if w32 s1 < w32 s0 then s0 else s1)), l6], [], h) := by
  refine g_max (by decide +kernel : decode (m_byt 81) 40 = .ok (.invokestatic 117, 3)) (by decide +kernel) (by decide +kernel) (Nat.le_of_ble_eq_true rfl) ?_
  show m_run Z (81, 43, [l0, l1, l2, l3, (0, x4), l5, l6], [(0, (if w32 s1 < w32 s0 then s0 else s1))], h) = _
  refine g_istore (k := 5) (by decide +kernel : decode (m_byt 81) 43 = .ok (.istore 5, 2)) (Nat.le_of_ble_eq_true rfl) ?_
  show m_run Z (81, 45, [l0, l1, l2, l3, (0, x4), (0, (if w32 s1 < w32 s0 then s0 else s1)), l6], [], h) = _
  rfl
theorem b_81_45 {Z : mZ} {l0 l1 l2 l3 l4 : mV} {x6 x5 : Int} {h : mH} : m_run Z (81, 45, [l0, l1, l2, l3, l4, (0, x5), (0, x6)], [], h) = m_run Z (81, 6, [l0, l1, l2, l3, l4, (0, x5), (0, x6 + 1)], [], h) := by
  refine g_iinc (k := 6) (x := x6) (by decide +kernel : decode (m_byt 81) 45 = .ok (.iinc 6 1, 3)) rfl (Nat.le_of_ble_eq_true rfl) ?_
  show m_run Z (81, 48, [l0, l1, l2, l3, l4, (0, x5), (0, x6 + 1)], [], h) = _
  refine g_jmp (t := 6) (by decide +kernel : decode (m_byt 81) 48 = .ok (.goto (-42), 3)) (by decide) ?_
  rfl
theorem b_81_51 {Z : mZ} {l0 l1 l2 l3 l4 l6 : mV} {x5 : Int} {h : mH} : m_run Z (81, 51, [l0, l1, l2, l3, l4, (0, x5), l6], [], h) = some (.inl (0, x5), h) := by
  refine g_iload (k := 5) (x := x5) (by decide +kernel : decode (m_byt 81) 51 = .ok (.iload 5, 2)) rfl ?_
  exact g_iret (by decide +kernel : decode (m_byt 81) 53 = .ok (.ireturn, 1)) (by decide +kernel)
theorem e_82 {Z : mZ} {r0 : Nat} {x1 : Int} {x2 : Int} {x3 : Int} {h : mH} : m_cl Z 82 [(2, ((r0 : Nat) : Int)), (0, x1), (0, x2), (0, x3)] h = m_run Z (82, 0, [(2, ((r0 : Nat) : Int)), (0, x1), (0, x2), (0, x3), (9, 0), (9, 0)], [], h) := g_ent (k := 6) (by decide) (by decide +kernel) (Nat.le_of_ble_eq_true rfl) (by decide +kernel) rfl
theorem b_82_0 {Z : mZ} {l0 l1 l2 l4 l5 : mV} {x3 : Int} {h : mH} : m_run Z (82, 0, [l0, l1, l2, (0, x3), l4, l5], [], h) = m_run Z (82, 6, [l0, l1, l2, (0, x3), (0, 0), (0, 0)], [], h) := by
  refine g_base (by decide +kernel : decode (m_byt 82) 0 = .ok (.iconst 0, 1)) rfl rfl ?_
  show m_run Z (82, 1, [l0, l1, l2, (0, x3), l4, l5], [(0, 0)], h) = _
  refine g_istore (k := 4) (by decide +kernel : decode (m_byt 82) 1 = .ok (.istore 4, 2)) (Nat.le_of_ble_eq_true rfl) ?_
  show m_run Z (82, 3, [l0, l1, l2, (0, x3), (0, 0), l5], [], h) = _
  refine g_base (by decide +kernel : decode (m_byt 82) 3 = .ok (.iconst 0, 1)) rfl rfl ?_
  show m_run Z (82, 4, [l0, l1, l2, (0, x3), (0, 0), l5], [(0, 0)], h) = _
  refine g_istore (k := 5) (by decide +kernel : decode (m_byt 82) 4 = .ok (.istore 5, 2)) (Nat.le_of_ble_eq_true rfl) ?_
  show m_run Z (82, 6, [l0, l1, l2, (0, x3), (0, 0), (0, 0)], [], h) = _
  rfl
theorem b_82_6 {Z : mZ} {l1 l2 l3 l4 : mV} {x5 : Int} {r0 : Nat} {K : Nat → mK} {σ : Nat → Nat → Int} {n e s : Nat} (h0 : q_ob K n r0 5) (h1 : q_rp K r0 0) (h2 : q_ob K n (q_rf K r0 0) 1) : m_run Z (82, 6, [(2, ((r0 : Nat) : Int)), l1, l2, l3, l4, (0, x5)], [], (K, σ, n, e, s)) = if w32 (σ ((q_rf K r0 0)) 0) ≤ w32 x5 then m_run Z (82, 38, [(2, ((r0 : Nat) : Int)), l1, l2, l3, l4, (0, x5)], [], (K, σ, n, e, s)) else m_run Z (82, 18, [(2, ((r0 : Nat) : Int)), l1, l2, l3, l4, (0, x5)], [], (K, σ, n, e, s)) := by
  refine g_iload (k := 5) (x := x5) (by decide +kernel : decode (m_byt 82) 6 = .ok (.iload 5, 2)) rfl ?_
  refine g_aload_n (k := 0) (v := (2, ((r0 : Nat) : Int))) (by decide +kernel : decode (m_byt 82) 8 = .ok (.aload_n 0, 1)) rfl (Or.inl rfl) ?_
  refine g_getr (ci := 5) (f := 0) (by decide +kernel : decode (m_byt 82) 9 = .ok (.getfield 12, 3)) (by decide +kernel) (by decide +kernel) (by decide +kernel) h0 h1 ?_
  refine g_getf (ci := 1) (f := 0) (by decide +kernel : decode (m_byt 82) 12 = .ok (.getfield 87, 3)) (by decide +kernel) (by decide +kernel) (by decide +kernel) h2 ?_
  exact g_brq (t := 38) (off := 23) (by decide +kernel : decode (m_byt 82) 15 = .ok (.if_icmp .ge 23, 3)) rfl rfl (by decide)
theorem b_82_18 {Z : mZ} {x4 x5 x1 x2 x3 : Int} {r0 : Nat} {K : Nat → mK} {σ : Nat → Nat → Int} {n e s : Nat} (h0 : q_ob K n r0 5) : m_run Z (82, 18, [(2, ((r0 : Nat) : Int)), (0, x1), (0, x2), (0, x3), (0, x4), (0, x5)], [], (K, σ, n, e, s)) = (m_cl Z 80 [(2, ((r0 : Nat) : Int)), (0, x5), (0, x1), (0, x2), (0, x3)] (K, σ, n, e, s)).bind (m_aft (m_run Z) 82 26 [(2, ((r0 : Nat) : Int)), (0, x1), (0, x2), (0, x3), (0, x4), (0, x5)] [(0, x4)]) := by
  refine g_iload (k := 4) (x := x4) (by decide +kernel : decode (m_byt 82) 18 = .ok (.iload 4, 2)) rfl ?_
  refine g_aload_n (k := 0) (v := (2, ((r0 : Nat) : Int))) (by decide +kernel : decode (m_byt 82) 20 = .ok (.aload_n 0, 1)) rfl (Or.inl rfl) ?_
  refine g_iload (k := 5) (x := x5) (by decide +kernel : decode (m_byt 82) 21 = .ok (.iload 5, 2)) rfl ?_
  refine g_iload_n (k := 1) (x := x1) (by decide +kernel : decode (m_byt 82) 23 = .ok (.iload_n 1, 1)) rfl ?_
  refine g_iload_n (k := 2) (x := x2) (by decide +kernel : decode (m_byt 82) 24 = .ok (.iload_n 2, 1)) rfl ?_
  refine g_iload_n (k := 3) (x := x3) (by decide +kernel : decode (m_byt 82) 25 = .ok (.iload_n 3, 1)) rfl ?_
  exact g_inv (k := 1) (m' := 80) (np := 4) (as := [(2, ((r0 : Nat) : Int)), (0, x5), (0, x1), (0, x2), (0, x3)]) (by decide +kernel : decode (m_byt 82) 26 = .ok (.invokevirtual 132, 3)) (Or.inl ⟨rfl, rfl⟩) (by decide +kernel) (by decide +kernel) (by decide +kernel) (Nat.le_of_ble_eq_true rfl) rfl (Or.inr (g_rcv (by decide +kernel) h0))
theorem b_82_29 {Z : mZ} {l0 l1 l2 l4 : mV} {s0 s1 x3 x5 : Int} {h : mH} : m_run Z (82, 29, [l0, l1, l2, (0, x3), l4, (0, x5)], [(0, s0), (0, s1)], h) = m_run Z (82, 6, [l0, l1, l2, (0, x3), (0, (s1 + s0)), (0, x5 + 1)], [], h) := by
  refine g_base (by decide +kernel : decode (m_byt 82) 29 = .ok (.iadd, 1)) rfl rfl ?_
  show m_run Z (82, 30, [l0, l1, l2, (0, x3), l4, (0, x5)], [(0, (s1 + s0))], h) = _
  refine g_istore (k := 4) (by decide +kernel : decode (m_byt 82) 30 = .ok (.istore 4, 2)) (Nat.le_of_ble_eq_true rfl) ?_
  show m_run Z (82, 32, [l0, l1, l2, (0, x3), (0, (s1 + s0)), (0, x5)], [], h) = _
  refine g_iinc (k := 5) (x := x5) (by decide +kernel : decode (m_byt 82) 32 = .ok (.iinc 5 1, 3)) rfl (Nat.le_of_ble_eq_true rfl) ?_
  show m_run Z (82, 35, [l0, l1, l2, (0, x3), (0, (s1 + s0)), (0, x5 + 1)], [], h) = _
  refine g_jmp (t := 6) (by decide +kernel : decode (m_byt 82) 35 = .ok (.goto (-29), 3)) (by decide) ?_
  rfl
theorem b_82_38 {Z : mZ} {l0 l1 l2 l3 l5 : mV} {x4 : Int} {h : mH} : m_run Z (82, 38, [l0, l1, l2, l3, (0, x4), l5], [], h) = some (.inl (0, x4), h) := by
  refine g_iload (k := 4) (x := x4) (by decide +kernel : decode (m_byt 82) 38 = .ok (.iload 4, 2)) rfl ?_
  exact g_iret (by decide +kernel : decode (m_byt 82) 40 = .ok (.ireturn, 1)) (by decide +kernel)
theorem e_83 {Z : mZ} {r0 : Nat} {x1 : Int} {x2 : Int} {x3 : Int} {h : mH} : m_cl Z 83 [(2, ((r0 : Nat) : Int)), (0, x1), (0, x2), (0, x3)] h = m_run Z (83, 0, [(2, ((r0 : Nat) : Int)), (0, x1), (0, x2), (0, x3), (9, 0), (9, 0)], [], h) := g_ent (k := 6) (by decide) (by decide +kernel) (Nat.le_of_ble_eq_true rfl) (by decide +kernel) rfl
theorem b_83_0 {Z : mZ} {l0 l1 l2 l4 l5 : mV} {x3 : Int} {h : mH} : m_run Z (83, 0, [l0, l1, l2, (0, x3), l4, l5], [], h) = m_run Z (83, 6, [l0, l1, l2, (0, x3), (0, 0), (0, 0)], [], h) := by
  refine g_base (by decide +kernel : decode (m_byt 83) 0 = .ok (.iconst 0, 1)) rfl rfl ?_
  show m_run Z (83, 1, [l0, l1, l2, (0, x3), l4, l5], [(0, 0)], h) = _
  refine g_istore (k := 4) (by decide +kernel : decode (m_byt 83) 1 = .ok (.istore 4, 2)) (Nat.le_of_ble_eq_true rfl) ?_
  show m_run Z (83, 3, [l0, l1, l2, (0, x3), (0, 0), l5], [], h) = _
  refine g_base (by decide +kernel : decode (m_byt 83) 3 = .ok (.iconst 0, 1)) rfl rfl ?_
  show m_run Z (83, 4, [l0, l1, l2, (0, x3), (0, 0), l5], [(0, 0)], h) = _
  refine g_istore (k := 5) (by decide +kernel : decode (m_byt 83) 4 = .ok (.istore 5, 2)) (Nat.le_of_ble_eq_true rfl) ?_
  show m_run Z (83, 6, [l0, l1, l2, (0, x3), (0, 0), (0, 0)], [], h) = _
  rfl
theorem b_83_6 {Z : mZ} {l1 l2 l3 l4 : mV} {x5 : Int} {r0 : Nat} {K : Nat → mK} {σ : Nat → Nat → Int} {n e s : Nat} (h0 : q_ob K n r0 5) (h1 : q_rp K r0 0) (h2 : q_ob K n (q_rf K r0 0) 1) : m_run Z (83, 6, [(2, ((r0 : Nat) : Int)), l1, l2, l3, l4, (0, x5)], [], (K, σ, n, e, s)) = if w32 (σ ((q_rf K r0 0)) 0) ≤ w32 x5 then m_run Z (83, 46, [(2, ((r0 : Nat) : Int)), l1, l2, l3, l4, (0, x5)], [], (K, σ, n, e, s)) else m_run Z (83, 18, [(2, ((r0 : Nat) : Int)), l1, l2, l3, l4, (0, x5)], [], (K, σ, n, e, s)) := by
  refine g_iload (k := 5) (x := x5) (by decide +kernel : decode (m_byt 83) 6 = .ok (.iload 5, 2)) rfl ?_
  refine g_aload_n (k := 0) (v := (2, ((r0 : Nat) : Int))) (by decide +kernel : decode (m_byt 83) 8 = .ok (.aload_n 0, 1)) rfl (Or.inl rfl) ?_
  refine g_getr (ci := 5) (f := 0) (by decide +kernel : decode (m_byt 83) 9 = .ok (.getfield 12, 3)) (by decide +kernel) (by decide +kernel) (by decide +kernel) h0 h1 ?_
  refine g_getf (ci := 1) (f := 0) (by decide +kernel : decode (m_byt 83) 12 = .ok (.getfield 87, 3)) (by decide +kernel) (by decide +kernel) (by decide +kernel) h2 ?_
  exact g_brq (t := 46) (off := 31) (by decide +kernel : decode (m_byt 83) 15 = .ok (.if_icmp .ge 31, 3)) rfl rfl (by decide)
theorem b_83_18 {Z : mZ} {l3 l4 : mV} {x5 x1 x2 : Int} {r0 : Nat} {K : Nat → mK} {σ : Nat → Nat → Int} {n e s : Nat} (h0 : q_ob K n r0 5) : m_run Z (83, 18, [(2, ((r0 : Nat) : Int)), (0, x1), (0, x2), l3, l4, (0, x5)], [], (K, σ, n, e, s)) = (m_cl Z 80 [(2, ((r0 : Nat) : Int)), (0, x5), (0, x1), (0, x2), (0, 1)] (K, σ, n, e, s)).bind (m_aft (m_run Z) 83 24 [(2, ((r0 : Nat) : Int)), (0, x1), (0, x2), l3, l4, (0, x5)] []) := by
  refine g_aload_n (k := 0) (v := (2, ((r0 : Nat) : Int))) (by decide +kernel : decode (m_byt 83) 18 = .ok (.aload_n 0, 1)) rfl (Or.inl rfl) ?_
  refine g_iload (k := 5) (x := x5) (by decide +kernel : decode (m_byt 83) 19 = .ok (.iload 5, 2)) rfl ?_
  refine g_iload_n (k := 1) (x := x1) (by decide +kernel : decode (m_byt 83) 21 = .ok (.iload_n 1, 1)) rfl ?_
  refine g_iload_n (k := 2) (x := x2) (by decide +kernel : decode (m_byt 83) 22 = .ok (.iload_n 2, 1)) rfl ?_
  refine g_base (by decide +kernel : decode (m_byt 83) 23 = .ok (.iconst 1, 1)) rfl rfl ?_
  show m_run Z (83, 24, [(2, ((r0 : Nat) : Int)), (0, x1), (0, x2), l3, l4, (0, x5)], [(0, 1), (0, x2), (0, x1), (0, x5), (2, ((r0 : Nat) : Int))], (K, σ, n, e, s)) = _
  exact g_inv (k := 1) (m' := 80) (np := 4) (as := [(2, ((r0 : Nat) : Int)), (0, x5), (0, x1), (0, x2), (0, 1)]) (by decide +kernel : decode (m_byt 83) 24 = .ok (.invokevirtual 132, 3)) (Or.inl ⟨rfl, rfl⟩) (by decide +kernel) (by decide +kernel) (by decide +kernel) (Nat.le_of_ble_eq_true rfl) rfl (Or.inr (g_rcv (by decide +kernel) h0))
theorem b_83_27 {Z : mZ} {l0 l1 l2 l4 l5 : mV} {s0 x3 : Int} {h : mH} : m_run Z (83, 27, [l0, l1, l2, (0, x3), l4, l5], [(0, s0)], h) = if w32 x3 < w32 s0 then m_run Z (83, 40, [l0, l1, l2, (0, x3), l4, l5], [], h) else m_run Z (83, 31, [l0, l1, l2, (0, x3), l4, l5], [], h) := by
  refine g_iload_n (k := 3) (x := x3) (by decide +kernel : decode (m_byt 83) 27 = .ok (.iload_n 3, 1)) rfl ?_
  exact g_brq (t := 40) (off := 12) (by decide +kernel : decode (m_byt 83) 28 = .ok (.if_icmp .gt 12, 3)) rfl rfl (by decide)
theorem b_83_31 {Z : mZ} {l0 l1 l2 : mV} {x4 x5 x3 : Int} {h : mH} : m_run Z (83, 31, [l0, l1, l2, (0, x3), (0, x4), (0, x5)], [], h) = m_run Z (83, 40, [l0, l1, l2, (0, x3), (0, (i_or x4 (i_shl 1 x5))), (0, x5)], [], h) := by
  refine g_iload (k := 4) (x := x4) (by decide +kernel : decode (m_byt 83) 31 = .ok (.iload 4, 2)) rfl ?_
  refine g_base (by decide +kernel : decode (m_byt 83) 33 = .ok (.iconst 1, 1)) rfl rfl ?_
  show m_run Z (83, 34, [l0, l1, l2, (0, x3), (0, x4), (0, x5)], [(0, 1), (0, x4)], h) = _
  refine g_iload (k := 5) (x := x5) (by decide +kernel : decode (m_byt 83) 34 = .ok (.iload 5, 2)) rfl ?_
  refine g_base (by decide +kernel : decode (m_byt 83) 36 = .ok (.ishl, 1)) rfl rfl ?_
  show m_run Z (83, 37, [l0, l1, l2, (0, x3), (0, x4), (0, x5)], [(0, (i_shl 1 x5)), (0, x4)], h) = _
  refine g_base (by decide +kernel : decode (m_byt 83) 37 = .ok (.ior, 1)) rfl rfl ?_
  show m_run Z (83, 38, [l0, l1, l2, (0, x3), (0, x4), (0, x5)], [(0, (i_or x4 (i_shl 1 x5)))], h) = _
  refine g_istore (k := 4) (by decide +kernel : decode (m_byt 83) 38 = .ok (.istore 4, 2)) (Nat.le_of_ble_eq_true rfl) ?_
  show m_run Z (83, 40, [l0, l1, l2, (0, x3), (0, (i_or x4 (i_shl 1 x5))), (0, x5)], [], h) = _
  rfl
theorem b_83_40 {Z : mZ} {l0 l1 l2 l3 : mV} {x5 x4 : Int} {h : mH} : m_run Z (83, 40, [l0, l1, l2, l3, (0, x4), (0, x5)], [], h) = m_run Z (83, 6, [l0, l1, l2, l3, (0, x4), (0, x5 + 1)], [], h) := by
  refine g_iinc (k := 5) (x := x5) (by decide +kernel : decode (m_byt 83) 40 = .ok (.iinc 5 1, 3)) rfl (Nat.le_of_ble_eq_true rfl) ?_
  show m_run Z (83, 43, [l0, l1, l2, l3, (0, x4), (0, x5 + 1)], [], h) = _
  refine g_jmp (t := 6) (by decide +kernel : decode (m_byt 83) 43 = .ok (.goto (-37), 3)) (by decide) ?_
  rfl
theorem b_83_46 {Z : mZ} {l0 l1 l2 l3 l5 : mV} {x4 : Int} {h : mH} : m_run Z (83, 46, [l0, l1, l2, l3, (0, x4), l5], [], h) = some (.inl (0, x4), h) := by
  refine g_iload (k := 4) (x := x4) (by decide +kernel : decode (m_byt 83) 46 = .ok (.iload 4, 2)) rfl ?_
  exact g_iret (by decide +kernel : decode (m_byt 83) 48 = .ok (.ireturn, 1)) (by decide +kernel)
theorem e_84 {Z : mZ} {r0 : Nat} {h : mH} : m_cl Z 84 [(2, ((r0 : Nat) : Int))] h = m_run Z (84, 0, [(2, ((r0 : Nat) : Int)), (9, 0), (9, 0), (9, 0)], [], h) := g_ent (k := 4) (by decide) (by decide +kernel) (Nat.le_of_ble_eq_true rfl) (by decide +kernel) rfl
theorem b_84_0 {Z : mZ} {l1 l2 l3 : mV} {r0 : Nat} {K : Nat → mK} {σ : Nat → Nat → Int} {n e s : Nat} (h0 : q_ob K n r0 5) : m_run Z (84, 0, [(2, ((r0 : Nat) : Int)), l1, l2, l3], [], (K, σ, n, e, s)) = if w32 ((m_up2 σ r0 8 0) r0 3) = 0 then m_run Z (84, 12, [(2, ((r0 : Nat) : Int)), l1, l2, l3], [], (K, (m_up2 σ r0 8 0), n, e, s)) else m_run Z (84, 13, [(2, ((r0 : Nat) : Int)), l1, l2, l3], [], (K, (m_up2 σ r0 8 0), n, e, s)) := by
  refine g_aload_n (k := 0) (v := (2, ((r0 : Nat) : Int))) (by decide +kernel : decode (m_byt 84) 0 = .ok (.aload_n 0, 1)) rfl (Or.inl rfl) ?_
  refine g_base (by decide +kernel : decode (m_byt 84) 1 = .ok (.iconst 0, 1)) rfl rfl ?_
  show m_run Z (84, 2, [(2, ((r0 : Nat) : Int)), l1, l2, l3], [(0, 0), (2, ((r0 : Nat) : Int))], (K, σ, n, e, s)) = _
  refine g_putf (ci := 5) (f := 8) (by decide +kernel : decode (m_byt 84) 2 = .ok (.putfield 135, 3)) (by decide +kernel) (by decide +kernel) (by decide +kernel) h0 ?_
  show m_run Z (84, 5, [(2, ((r0 : Nat) : Int)), l1, l2, l3], [], (K, (m_up2 σ r0 8 0), n, e, s)) = _
  refine g_aload_n (k := 0) (v := (2, ((r0 : Nat) : Int))) (by decide +kernel : decode (m_byt 84) 5 = .ok (.aload_n 0, 1)) rfl (Or.inl rfl) ?_
  refine g_getf (ci := 5) (f := 3) (by decide +kernel : decode (m_byt 84) 6 = .ok (.getfield 81, 3)) (by decide +kernel) (by decide +kernel) (by decide +kernel) h0 ?_
  exact g_brn (t := 13) (off := 4) (by decide +kernel : decode (m_byt 84) 9 = .ok (.ifCond .ne 4, 3)) rfl rfl (by decide)
theorem b_84_12 {Z : mZ} {l0 l1 l2 l3 : mV} {h : mH} : m_run Z (84, 12, [l0, l1, l2, l3], [], h) = some (.inl (9, 0), h) := by
  exact g_vret (by decide +kernel : decode (m_byt 84) 12 = .ok (.return_, 1)) (by decide +kernel)
theorem b_84_13 {Z : mZ} {l1 l2 l3 : mV} {r0 : Nat} {h : mH} : m_run Z (84, 13, [(2, ((r0 : Nat) : Int)), l1, l2, l3], [], h) = m_run Z (84, 15, [(2, ((r0 : Nat) : Int)), (0, 0), l2, l3], [], h) := by
  refine g_base (by decide +kernel : decode (m_byt 84) 13 = .ok (.iconst 0, 1)) rfl rfl ?_
  show m_run Z (84, 14, [(2, ((r0 : Nat) : Int)), l1, l2, l3], [(0, 0)], h) = _
  refine g_istore_n (k := 1) (by decide +kernel : decode (m_byt 84) 14 = .ok (.istore_n 1, 1)) (Nat.le_of_ble_eq_true rfl) ?_
  show m_run Z (84, 15, [(2, ((r0 : Nat) : Int)), (0, 0), l2, l3], [], h) = _
  rfl
theorem b_84_15 {Z : mZ} {l2 l3 : mV} {x1 : Int} {r0 : Nat} {K : Nat → mK} {σ : Nat → Nat → Int} {n e s : Nat} (h0 : q_ob K n r0 5) (h1 : q_rp K r0 0) (h2 : q_ob K n (q_rf K r0 0) 1) : m_run Z (84, 15, [(2, ((r0 : Nat) : Int)), (0, x1), l2, l3], [], (K, σ, n, e, s)) = if w32 (σ ((q_rf K r0 0)) 1) ≤ w32 x1 then m_run Z (84, 95, [(2, ((r0 : Nat) : Int)), (0, x1), l2, l3], [], (K, σ, n, e, s)) else m_run Z (84, 26, [(2, ((r0 : Nat) : Int)), (0, x1), l2, l3], [], (K, σ, n, e, s)) := by
  refine g_iload_n (k := 1) (x := x1) (by decide +kernel : decode (m_byt 84) 15 = .ok (.iload_n 1, 1)) rfl ?_
  refine g_aload_n (k := 0) (v := (2, ((r0 : Nat) : Int))) (by decide +kernel : decode (m_byt 84) 16 = .ok (.aload_n 0, 1)) rfl (Or.inl rfl) ?_
  refine g_getr (ci := 5) (f := 0) (by decide +kernel : decode (m_byt 84) 17 = .ok (.getfield 12, 3)) (by decide +kernel) (by decide +kernel) (by decide +kernel) h0 h1 ?_
  refine g_getf (ci := 1) (f := 1) (by decide +kernel : decode (m_byt 84) 20 = .ok (.getfield 85, 3)) (by decide +kernel) (by decide +kernel) (by decide +kernel) h2 ?_
  exact g_brq (t := 95) (off := 72) (by decide +kernel : decode (m_byt 84) 23 = .ok (.if_icmp .ge 72, 3)) rfl rfl (by decide)
theorem b_84_26 {Z : mZ} {l2 l3 : mV} {x1 : Int} {r0 : Nat} {K : Nat → mK} {σ : Nat → Nat → Int} {n e s : Nat} (h0 : q_ob K n r0 5) : m_run Z (84, 26, [(2, ((r0 : Nat) : Int)), (0, x1), l2, l3], [], (K, σ, n, e, s)) = (m_cl Z 85 [(2, ((r0 : Nat) : Int)), (0, x1), (0, 0), (0, 1)] (K, σ, n, e, s)).bind (m_aft (m_run Z) 84 30 [(2, ((r0 : Nat) : Int)), (0, x1), l2, l3] []) := by
  refine g_aload_n (k := 0) (v := (2, ((r0 : Nat) : Int))) (by decide +kernel : decode (m_byt 84) 26 = .ok (.aload_n 0, 1)) rfl (Or.inl rfl) ?_
  refine g_iload_n (k := 1) (x := x1) (by decide +kernel : decode (m_byt 84) 27 = .ok (.iload_n 1, 1)) rfl ?_
  refine g_base (by decide +kernel : decode (m_byt 84) 28 = .ok (.iconst 0, 1)) rfl rfl ?_
  show m_run Z (84, 29, [(2, ((r0 : Nat) : Int)), (0, x1), l2, l3], [(0, 0), (0, x1), (2, ((r0 : Nat) : Int))], (K, σ, n, e, s)) = _
  refine g_base (by decide +kernel : decode (m_byt 84) 29 = .ok (.iconst 1, 1)) rfl rfl ?_
  show m_run Z (84, 30, [(2, ((r0 : Nat) : Int)), (0, x1), l2, l3], [(0, 1), (0, 0), (0, x1), (2, ((r0 : Nat) : Int))], (K, σ, n, e, s)) = _
  exact g_inv (k := 1) (m' := 85) (np := 3) (as := [(2, ((r0 : Nat) : Int)), (0, x1), (0, 0), (0, 1)]) (by decide +kernel : decode (m_byt 84) 30 = .ok (.invokevirtual 138, 3)) (Or.inl ⟨rfl, rfl⟩) (by decide +kernel) (by decide +kernel) (by decide +kernel) (Nat.le_of_ble_eq_true rfl) rfl (Or.inr (g_rcv (by decide +kernel) h0))
theorem b_84_33 {Z : mZ} {l2 l3 : mV} {x1 : Int} {r0 : Nat} {K : Nat → mK} {σ : Nat → Nat → Int} {n e s : Nat} (h0 : q_ob K n r0 5) : m_run Z (84, 33, [(2, ((r0 : Nat) : Int)), (0, x1), l2, l3], [], (K, σ, n, e, s)) = (m_cl Z 69 [(2, ((r0 : Nat) : Int)), (0, x1)] (K, σ, n, e, s)).bind (m_aft (m_run Z) 84 37 [(2, ((r0 : Nat) : Int)), (0, x1), l2, l3] [(0, x1), (2, ((r0 : Nat) : Int))]) := by
  refine g_aload_n (k := 0) (v := (2, ((r0 : Nat) : Int))) (by decide +kernel : decode (m_byt 84) 33 = .ok (.aload_n 0, 1)) rfl (Or.inl rfl) ?_
  refine g_iload_n (k := 1) (x := x1) (by decide +kernel : decode (m_byt 84) 34 = .ok (.iload_n 1, 1)) rfl ?_
  refine g_aload_n (k := 0) (v := (2, ((r0 : Nat) : Int))) (by decide +kernel : decode (m_byt 84) 35 = .ok (.aload_n 0, 1)) rfl (Or.inl rfl) ?_
  refine g_iload_n (k := 1) (x := x1) (by decide +kernel : decode (m_byt 84) 36 = .ok (.iload_n 1, 1)) rfl ?_
  exact g_inv (k := 1) (m' := 69) (np := 1) (as := [(2, ((r0 : Nat) : Int)), (0, x1)]) (by decide +kernel : decode (m_byt 84) 37 = .ok (.invokevirtual 107, 3)) (Or.inl ⟨rfl, rfl⟩) (by decide +kernel) (by decide +kernel) (by decide +kernel) (Nat.le_of_ble_eq_true rfl) rfl (Or.inr (g_rcv (by decide +kernel) h0))
theorem b_84_40 {Z : mZ} {l0 l1 l2 l3 : mV} {s0 s1 : Int} {s2 : Nat} {K : Nat → mK} {σ : Nat → Nat → Int} {n e s : Nat} (h0 : q_ob K n s2 5) : m_run Z (84, 40, [l0, l1, l2, l3], [(0, s0), (0, s1), (2, ((s2 : Nat) : Int))], (K, σ, n, e, s)) = (m_cl Z 85 [(2, ((s2 : Nat) : Int)), (0, s1), (0, s0), (0, 1)] (K, σ, n, e, s)).bind (m_aft (m_run Z) 84 41 [l0, l1, l2, l3] []) := by
  refine g_base (by decide +kernel : decode (m_byt 84) 40 = .ok (.iconst 1, 1)) rfl rfl ?_
  show m_run Z (84, 41, [l0, l1, l2, l3], [(0, 1), (0, s0), (0, s1), (2, ((s2 : Nat) : Int))], (K, σ, n, e, s)) = _
  exact g_inv (k := 1) (m' := 85) (np := 3) (as := [(2, ((s2 : Nat) : Int)), (0, s1), (0, s0), (0, 1)]) (by decide +kernel : decode (m_byt 84) 41 = .ok (.invokevirtual 138, 3)) (Or.inl ⟨rfl, rfl⟩) (by decide +kernel) (by decide +kernel) (by decide +kernel) (Nat.le_of_ble_eq_true rfl) rfl (Or.inr (g_rcv (by decide +kernel) h0))
theorem b_84_44 {Z : mZ} {l0 l2 l3 : mV} {x1 : Int} {h : mH} : m_run Z (84, 44, [l0, (0, x1), l2, l3], [], h) = m_run Z (84, 46, [l0, (0, x1), (0, 0), l3], [], h) := by
  refine g_base (by decide +kernel : decode (m_byt 84) 44 = .ok (.iconst 0, 1)) rfl rfl ?_
  show m_run Z (84, 45, [l0, (0, x1), l2, l3], [(0, 0)], h) = _
  refine g_istore_n (k := 2) (by decide +kernel : decode (m_byt 84) 45 = .ok (.istore_n 2, 1)) (Nat.le_of_ble_eq_true rfl) ?_
  show m_run Z (84, 46, [l0, (0, x1), (0, 0), l3], [], h) = _
  rfl
theorem b_84_46 {Z : mZ} {l1 l3 : mV} {x2 : Int} {r0 : Nat} {K : Nat → mK} {σ : Nat → Nat → Int} {n e s : Nat} (h0 : q_ob K n r0 5) (h1 : q_rp K r0 0) (h2 : q_ob K n (q_rf K r0 0) 1) : m_run Z (84, 46, [(2, ((r0 : Nat) : Int)), l1, (0, x2), l3], [], (K, σ, n, e, s)) = if w32 (σ ((q_rf K r0 0)) 0) ≤ w32 x2 then m_run Z (84, 89, [(2, ((r0 : Nat) : Int)), l1, (0, x2), l3], [], (K, σ, n, e, s)) else m_run Z (84, 57, [(2, ((r0 : Nat) : Int)), l1, (0, x2), l3], [], (K, σ, n, e, s)) := by
  refine g_iload_n (k := 2) (x := x2) (by decide +kernel : decode (m_byt 84) 46 = .ok (.iload_n 2, 1)) rfl ?_
  refine g_aload_n (k := 0) (v := (2, ((r0 : Nat) : Int))) (by decide +kernel : decode (m_byt 84) 47 = .ok (.aload_n 0, 1)) rfl (Or.inl rfl) ?_
  refine g_getr (ci := 5) (f := 0) (by decide +kernel : decode (m_byt 84) 48 = .ok (.getfield 12, 3)) (by decide +kernel) (by decide +kernel) (by decide +kernel) h0 h1 ?_
  refine g_getf (ci := 1) (f := 0) (by decide +kernel : decode (m_byt 84) 51 = .ok (.getfield 87, 3)) (by decide +kernel) (by decide +kernel) (by decide +kernel) h2 ?_
  exact g_brq (t := 89) (off := 35) (by decide +kernel : decode (m_byt 84) 54 = .ok (.if_icmp .ge 35, 3)) rfl rfl (by decide)
theorem b_84_57 {Z : mZ} {l0 l1 l3 : mV} {x2 : Int} {h : mH} : m_run Z (84, 57, [l0, l1, (0, x2), l3], [], h) = m_run Z (84, 59, [l0, l1, (0, x2), (0, 0)], [], h) := by
  refine g_base (by decide +kernel : decode (m_byt 84) 57 = .ok (.iconst 0, 1)) rfl rfl ?_
  show m_run Z (84, 58, [l0, l1, (0, x2), l3], [(0, 0)], h) = _
  refine g_istore_n (k := 3) (by decide +kernel : decode (m_byt 84) 58 = .ok (.istore_n 3, 1)) (Nat.le_of_ble_eq_true rfl) ?_
  show m_run Z (84, 59, [l0, l1, (0, x2), (0, 0)], [], h) = _
  rfl
theorem b_84_59 {Z : mZ} {l1 l2 : mV} {x3 : Int} {r0 : Nat} {K : Nat → mK} {σ : Nat → Nat → Int} {n e s : Nat} (h0 : q_ob K n r0 5) (h1 : q_rp K r0 0) (h2 : q_ob K n (q_rf K r0 0) 1) : m_run Z (84, 59, [(2, ((r0 : Nat) : Int)), l1, l2, (0, x3)], [], (K, σ, n, e, s)) = if w32 (σ ((q_rf K r0 0)) 0) ≤ w32 x3 then m_run Z (84, 83, [(2, ((r0 : Nat) : Int)), l1, l2, (0, x3)], [], (K, σ, n, e, s)) else m_run Z (84, 70, [(2, ((r0 : Nat) : Int)), l1, l2, (0, x3)], [], (K, σ, n, e, s)) := by
  refine g_iload_n (k := 3) (x := x3) (by decide +kernel : decode (m_byt 84) 59 = .ok (.iload_n 3, 1)) rfl ?_
  refine g_aload_n (k := 0) (v := (2, ((r0 : Nat) : Int))) (by decide +kernel : decode (m_byt 84) 60 = .ok (.aload_n 0, 1)) rfl (Or.inl rfl) ?_
  refine g_getr (ci := 5) (f := 0) (by decide +kernel : decode (m_byt 84) 61 = .ok (.getfield 12, 3)) (by decide +kernel) (by decide +kernel) (by decide +kernel) h0 h1 ?_
  refine g_getf (ci := 1) (f := 0) (by decide +kernel : decode (m_byt 84) 64 = .ok (.getfield 87, 3)) (by decide +kernel) (by decide +kernel) (by decide +kernel) h2 ?_
  exact g_brq (t := 83) (off := 16) (by decide +kernel : decode (m_byt 84) 67 = .ok (.if_icmp .ge 16, 3)) rfl rfl (by decide)
theorem b_84_70 {Z : mZ} {x1 x2 x3 : Int} {r0 : Nat} {K : Nat → mK} {σ : Nat → Nat → Int} {n e s : Nat} (h0 : q_ob K n r0 5) : m_run Z (84, 70, [(2, ((r0 : Nat) : Int)), (0, x1), (0, x2), (0, x3)], [], (K, σ, n, e, s)) = (m_cl Z 86 [(2, ((r0 : Nat) : Int)), (0, x1), (0, x2), (0, x3)] (K, σ, n, e, s)).bind (m_aft (m_run Z) 84 74 [(2, ((r0 : Nat) : Int)), (0, x1), (0, x2), (0, x3)] []) := by
  refine g_aload_n (k := 0) (v := (2, ((r0 : Nat) : Int))) (by decide +kernel : decode (m_byt 84) 70 = .ok (.aload_n 0, 1)) rfl (Or.inl rfl) ?_
  refine g_iload_n (k := 1) (x := x1) (by decide +kernel : decode (m_byt 84) 71 = .ok (.iload_n 1, 1)) rfl ?_
  refine g_iload_n (k := 2) (x := x2) (by decide +kernel : decode (m_byt 84) 72 = .ok (.iload_n 2, 1)) rfl ?_
  refine g_iload_n (k := 3) (x := x3) (by decide +kernel : decode (m_byt 84) 73 = .ok (.iload_n 3, 1)) rfl ?_
  exact g_inv (k := 1) (m' := 86) (np := 3) (as := [(2, ((r0 : Nat) : Int)), (0, x1), (0, x2), (0, x3)]) (by decide +kernel : decode (m_byt 84) 74 = .ok (.invokevirtual 142, 3)) (Or.inl ⟨rfl, rfl⟩) (by decide +kernel) (by decide +kernel) (by decide +kernel) (Nat.le_of_ble_eq_true rfl) rfl (Or.inr (g_rcv (by decide +kernel) h0))
theorem b_84_77 {Z : mZ} {l0 l1 : mV} {x3 x2 : Int} {h : mH} : m_run Z (84, 77, [l0, l1, (0, x2), (0, x3)], [], h) = m_run Z (84, 59, [l0, l1, (0, x2), (0, x3 + 1)], [], h) := by
  refine g_iinc (k := 3) (x := x3) (by decide +kernel : decode (m_byt 84) 77 = .ok (.iinc 3 1, 3)) rfl (Nat.le_of_ble_eq_true rfl) ?_
  show m_run Z (84, 80, [l0, l1, (0, x2), (0, x3 + 1)], [], h) = _
  refine g_jmp (t := 59) (by decide +kernel : decode (m_byt 84) 80 = .ok (.goto (-21), 3)) (by decide) ?_
  rfl
theorem b_84_83 {Z : mZ} {l0 l3 : mV} {x2 x1 : Int} {h : mH} : m_run Z (84, 83, [l0, (0, x1), (0, x2), l3], [], h) = m_run Z (84, 46, [l0, (0, x1), (0, x2 + 1), l3], [], h) := by
  refine g_iinc (k := 2) (x := x2) (by decide +kernel : decode (m_byt 84) 83 = .ok (.iinc 2 1, 3)) rfl (Nat.le_of_ble_eq_true rfl) ?_
  show m_run Z (84, 86, [l0, (0, x1), (0, x2 + 1), l3], [], h) = _
  refine g_jmp (t := 46) (by decide +kernel : decode (m_byt 84) 86 = .ok (.goto (-40), 3)) (by decide) ?_
  rfl
theorem b_84_89 {Z : mZ} {l2 l3 : mV} {x1 : Int} {r0 : Nat} {h : mH} : m_run Z (84, 89, [(2, ((r0 : Nat) : Int)), (0, x1), l2, l3], [], h) = m_run Z (84, 15, [(2, ((r0 : Nat) : Int)), (0, x1 + 1), l2, l3], [], h) := by
  refine g_iinc (k := 1) (x := x1) (by decide +kernel : decode (m_byt 84) 89 = .ok (.iinc 1 1, 3)) rfl (Nat.le_of_ble_eq_true rfl) ?_
  show m_run Z (84, 92, [(2, ((r0 : Nat) : Int)), (0, x1 + 1), l2, l3], [], h) = _
  refine g_jmp (t := 15) (by decide +kernel : decode (m_byt 84) 92 = .ok (.goto (-77), 3)) (by decide) ?_
  rfl
theorem b_84_95 {Z : mZ} {l1 l2 l3 : mV} {r0 : Nat} {h : mH} : m_run Z (84, 95, [(2, ((r0 : Nat) : Int)), l1, l2, l3], [], h) = m_run Z (84, 97, [(2, ((r0 : Nat) : Int)), (0, 0), l2, l3], [], h) := by
  refine g_base (by decide +kernel : decode (m_byt 84) 95 = .ok (.iconst 0, 1)) rfl rfl ?_
  show m_run Z (84, 96, [(2, ((r0 : Nat) : Int)), l1, l2, l3], [(0, 0)], h) = _
  refine g_istore_n (k := 1) (by decide +kernel : decode (m_byt 84) 96 = .ok (.istore_n 1, 1)) (Nat.le_of_ble_eq_true rfl) ?_
  show m_run Z (84, 97, [(2, ((r0 : Nat) : Int)), (0, 0), l2, l3], [], h) = _
  rfl
theorem b_84_97 {Z : mZ} {l2 l3 : mV} {x1 : Int} {r0 : Nat} {K : Nat → mK} {σ : Nat → Nat → Int} {n e s : Nat} (h0 : q_ob K n r0 5) (h1 : q_rp K r0 0) (h2 : q_ob K n (q_rf K r0 0) 1) : m_run Z (84, 97, [(2, ((r0 : Nat) : Int)), (0, x1), l2, l3], [], (K, σ, n, e, s)) = if w32 (σ ((q_rf K r0 0)) 2) ≤ w32 x1 then m_run Z (84, 168, [(2, ((r0 : Nat) : Int)), (0, x1), l2, l3], [], (K, σ, n, e, s)) else m_run Z (84, 108, [(2, ((r0 : Nat) : Int)), (0, x1), l2, l3], [], (K, σ, n, e, s)) := by
  refine g_iload_n (k := 1) (x := x1) (by decide +kernel : decode (m_byt 84) 97 = .ok (.iload_n 1, 1)) rfl ?_
  refine g_aload_n (k := 0) (v := (2, ((r0 : Nat) : Int))) (by decide +kernel : decode (m_byt 84) 98 = .ok (.aload_n 0, 1)) rfl (Or.inl rfl) ?_
  refine g_getr (ci := 5) (f := 0) (by decide +kernel : decode (m_byt 84) 99 = .ok (.getfield 12, 3)) (by decide +kernel) (by decide +kernel) (by decide +kernel) h0 h1 ?_
  refine g_getf (ci := 1) (f := 2) (by decide +kernel : decode (m_byt 84) 102 = .ok (.getfield 145, 3)) (by decide +kernel) (by decide +kernel) (by decide +kernel) h2 ?_
  exact g_brq (t := 168) (off := 63) (by decide +kernel : decode (m_byt 84) 105 = .ok (.if_icmp .ge 63, 3)) rfl rfl (by decide)
theorem b_84_108 {Z : mZ} {l2 l3 : mV} {x1 : Int} {r0 : Nat} {K : Nat → mK} {σ : Nat → Nat → Int} {n e s : Nat} (h0 : q_ob K n r0 5) (h1 : q_rp K r0 0) (h2 : q_ob K n (q_rf K r0 0) 1) (h3 : q_rp K (q_rf K r0 0) 8) (h4 : q_ob K n (q_rf K ((q_rf K r0 0)) 8) 3) : m_run Z (84, 108, [(2, ((r0 : Nat) : Int)), (0, x1), l2, l3], [], (K, σ, n, e, s)) = (m_cl Z 44 [(2, ((q_rf K ((q_rf K r0 0)) 8 : Nat) : Int)), (0, x1)] (K, σ, n, e, s)).bind (m_aft (m_run Z) 84 117 [(2, ((r0 : Nat) : Int)), (0, x1), l2, l3] [(2, ((r0 : Nat) : Int))]) := by
  refine g_aload_n (k := 0) (v := (2, ((r0 : Nat) : Int))) (by decide +kernel : decode (m_byt 84) 108 = .ok (.aload_n 0, 1)) rfl (Or.inl rfl) ?_
  refine g_aload_n (k := 0) (v := (2, ((r0 : Nat) : Int))) (by decide +kernel : decode (m_byt 84) 109 = .ok (.aload_n 0, 1)) rfl (Or.inl rfl) ?_
  refine g_getr (ci := 5) (f := 0) (by decide +kernel : decode (m_byt 84) 110 = .ok (.getfield 12, 3)) (by decide +kernel) (by decide +kernel) (by decide +kernel) h0 h1 ?_
  refine g_getr (ci := 1) (f := 8) (by decide +kernel : decode (m_byt 84) 113 = .ok (.getfield 148, 3)) (by decide +kernel) (by decide +kernel) (by decide +kernel) h2 h3 ?_
  refine g_iload_n (k := 1) (x := x1) (by decide +kernel : decode (m_byt 84) 116 = .ok (.iload_n 1, 1)) rfl ?_
  exact g_inv (k := 1) (m' := 44) (np := 1) (as := [(2, ((q_rf K ((q_rf K r0 0)) 8 : Nat) : Int)), (0, x1)]) (by decide +kernel : decode (m_byt 84) 117 = .ok (.invokevirtual 61, 3)) (Or.inl ⟨rfl, rfl⟩) (by decide +kernel) (by decide +kernel) (by decide +kernel) (Nat.le_of_ble_eq_true rfl) rfl (Or.inr (g_rcv (by decide +kernel) h4))
theorem b_84_120 {Z : mZ} {l2 l3 : mV} {s0 x1 : Int} {s1 r0 : Nat} {K : Nat → mK} {σ : Nat → Nat → Int} {n e s : Nat} (h0 : q_ob K n r0 5) (h1 : q_rp K r0 0) (h2 : q_ob K n (q_rf K r0 0) 1) (h3 : q_rp K (q_rf K r0 0) 9) (h4 : q_ob K n (q_rf K ((q_rf K r0 0)) 9) 3) : m_run Z (84, 120, [(2, ((r0 : Nat) : Int)), (0, x1), l2, l3], [(0, s0), (2, ((s1 : Nat) : Int))], (K, σ, n, e, s)) = (m_cl Z 44 [(2, ((q_rf K ((q_rf K r0 0)) 9 : Nat) : Int)), (0, x1)] (K, σ, n, e, s)).bind (m_aft (m_run Z) 84 128 [(2, ((r0 : Nat) : Int)), (0, x1), l2, l3] [(0, s0), (2, ((s1 : Nat) : Int))]) := by
  refine g_aload_n (k := 0) (v := (2, ((r0 : Nat) : Int))) (by decide +kernel : decode (m_byt 84) 120 = .ok (.aload_n 0, 1)) rfl (Or.inl rfl) ?_
  refine g_getr (ci := 5) (f := 0) (by decide +kernel : decode (m_byt 84) 121 = .ok (.getfield 12, 3)) (by decide +kernel) (by decide +kernel) (by decide +kernel) h0 h1 ?_
  refine g_getr (ci := 1) (f := 9) (by decide +kernel : decode (m_byt 84) 124 = .ok (.getfield 151, 3)) (by decide +kernel) (by decide +kernel) (by decide +kernel) h2 h3 ?_
  refine g_iload_n (k := 1) (x := x1) (by decide +kernel : decode (m_byt 84) 127 = .ok (.iload_n 1, 1)) rfl ?_
  exact g_inv (k := 1) (m' := 44) (np := 1) (as := [(2, ((q_rf K ((q_rf K r0 0)) 9 : Nat) : Int)), (0, x1)]) (by decide +kernel : decode (m_byt 84) 128 = .ok (.invokevirtual 61, 3)) (Or.inl ⟨rfl, rfl⟩) (by decide +kernel) (by decide +kernel) (by decide +kernel) (Nat.le_of_ble_eq_true rfl) rfl (Or.inr (g_rcv (by decide +kernel) h4))
theorem b_84_131 {Z : mZ} {l0 l1 l2 l3 : mV} {s0 s1 : Int} {s2 : Nat} {K : Nat → mK} {σ : Nat → Nat → Int} {n e s : Nat} (h0 : q_ob K n s2 5) : m_run Z (84, 131, [l0, l1, l2, l3], [(0, s0), (0, s1), (2, ((s2 : Nat) : Int))], (K, σ, n, e, s)) = (m_cl Z 85 [(2, ((s2 : Nat) : Int)), (0, s1), (0, s0), (0, 1)] (K, σ, n, e, s)).bind (m_aft (m_run Z) 84 132 [l0, l1, l2, l3] []) := by
  refine g_base (by decide +kernel : decode (m_byt 84) 131 = .ok (.iconst 1, 1)) rfl rfl ?_
  show m_run Z (84, 132, [l0, l1, l2, l3], [(0, 1), (0, s0), (0, s1), (2, ((s2 : Nat) : Int))], (K, σ, n, e, s)) = _
  exact g_inv (k := 1) (m' := 85) (np := 3) (as := [(2, ((s2 : Nat) : Int)), (0, s1), (0, s0), (0, 1)]) (by decide +kernel : decode (m_byt 84) 132 = .ok (.invokevirtual 138, 3)) (Or.inl ⟨rfl, rfl⟩) (by decide +kernel) (by decide +kernel) (by decide +kernel) (Nat.le_of_ble_eq_true rfl) rfl (Or.inr (g_rcv (by decide +kernel) h0))
theorem b_84_135 {Z : mZ} {l2 l3 : mV} {x1 : Int} {r0 : Nat} {K : Nat → mK} {σ : Nat → Nat → Int} {n e s : Nat} (h0 : q_ob K n r0 5) (h1 : q_rp K r0 0) (h2 : q_ob K n (q_rf K r0 0) 1) (h3 : q_rp K (q_rf K r0 0) 8) (h4 : q_ob K n (q_rf K ((q_rf K r0 0)) 8) 3) : m_run Z (84, 135, [(2, ((r0 : Nat) : Int)), (0, x1), l2, l3], [], (K, σ, n, e, s)) = (m_cl Z 44 [(2, ((q_rf K ((q_rf K r0 0)) 8 : Nat) : Int)), (0, x1)] (K, σ, n, e, s)).bind (m_aft (m_run Z) 84 144 [(2, ((r0 : Nat) : Int)), (0, x1), l2, l3] [(2, ((r0 : Nat) : Int))]) := by
  refine g_aload_n (k := 0) (v := (2, ((r0 : Nat) : Int))) (by decide +kernel : decode (m_byt 84) 135 = .ok (.aload_n 0, 1)) rfl (Or.inl rfl) ?_
  refine g_aload_n (k := 0) (v := (2, ((r0 : Nat) : Int))) (by decide +kernel : decode (m_byt 84) 136 = .ok (.aload_n 0, 1)) rfl (Or.inl rfl) ?_
  refine g_getr (ci := 5) (f := 0) (by decide +kernel : decode (m_byt 84) 137 = .ok (.getfield 12, 3)) (by decide +kernel) (by decide +kernel) (by decide +kernel) h0 h1 ?_
  refine g_getr (ci := 1) (f := 8) (by decide +kernel : decode (m_byt 84) 140 = .ok (.getfield 148, 3)) (by decide +kernel) (by decide +kernel) (by decide +kernel) h2 h3 ?_
  refine g_iload_n (k := 1) (x := x1) (by decide +kernel : decode (m_byt 84) 143 = .ok (.iload_n 1, 1)) rfl ?_
  exact g_inv (k := 1) (m' := 44) (np := 1) (as := [(2, ((q_rf K ((q_rf K r0 0)) 8 : Nat) : Int)), (0, x1)]) (by decide +kernel : decode (m_byt 84) 144 = .ok (.invokevirtual 61, 3)) (Or.inl ⟨rfl, rfl⟩) (by decide +kernel) (by decide +kernel) (by decide +kernel) (Nat.le_of_ble_eq_true rfl) rfl (Or.inr (g_rcv (by decide +kernel) h4))
theorem b_84_147 {Z : mZ} {l2 l3 : mV} {s0 x1 : Int} {s1 r0 : Nat} {K : Nat → mK} {σ : Nat → Nat → Int} {n e s : Nat} (h0 : q_ob K n r0 5) (h1 : q_rp K r0 0) (h2 : q_ob K n (q_rf K r0 0) 1) (h3 : q_rp K (q_rf K r0 0) 10) (h4 : q_ob K n (q_rf K ((q_rf K r0 0)) 10) 3) : m_run Z (84, 147, [(2, ((r0 : Nat) : Int)), (0, x1), l2, l3], [(0, s0), (2, ((s1 : Nat) : Int))], (K, σ, n, e, s)) = (m_cl Z 44 [(2, ((q_rf K ((q_rf K r0 0)) 10 : Nat) : Int)), (0, x1)] (K, σ, n, e, s)).bind (m_aft (m_run Z) 84 155 [(2, ((r0 : Nat) : Int)), (0, x1), l2, l3] [(0, s0), (2, ((s1 : Nat) : Int))]) := by
  refine g_aload_n (k := 0) (v := (2, ((r0 : Nat) : Int))) (by decide +kernel : decode (m_byt 84) 147 = .ok (.aload_n 0, 1)) rfl (Or.inl rfl) ?_
  refine g_getr (ci := 5) (f := 0) (by decide +kernel : decode (m_byt 84) 148 = .ok (.getfield 12, 3)) (by decide +kernel) (by decide +kernel) (by decide +kernel) h0 h1 ?_
  refine g_getr (ci := 1) (f := 10) (by decide +kernel : decode (m_byt 84) 151 = .ok (.getfield 154, 3)) (by decide +kernel) (by decide +kernel) (by decide +kernel) h2 h3 ?_
  refine g_iload_n (k := 1) (x := x1) (by decide +kernel : decode (m_byt 84) 154 = .ok (.iload_n 1, 1)) rfl ?_
  exact g_inv (k := 1) (m' := 44) (np := 1) (as := [(2, ((q_rf K ((q_rf K r0 0)) 10 : Nat) : Int)), (0, x1)]) (by decide +kernel : decode (m_byt 84) 155 = .ok (.invokevirtual 61, 3)) (Or.inl ⟨rfl, rfl⟩) (by decide +kernel) (by decide +kernel) (by decide +kernel) (Nat.le_of_ble_eq_true rfl) rfl (Or.inr (g_rcv (by decide +kernel) h4))
theorem b_84_158 {Z : mZ} {l0 l1 l2 l3 : mV} {s0 s1 : Int} {s2 : Nat} {K : Nat → mK} {σ : Nat → Nat → Int} {n e s : Nat} (h0 : q_ob K n s2 5) : m_run Z (84, 158, [l0, l1, l2, l3], [(0, s0), (0, s1), (2, ((s2 : Nat) : Int))], (K, σ, n, e, s)) = (m_cl Z 85 [(2, ((s2 : Nat) : Int)), (0, s1), (0, s0), (0, 1)] (K, σ, n, e, s)).bind (m_aft (m_run Z) 84 159 [l0, l1, l2, l3] []) := by
  refine g_base (by decide +kernel : decode (m_byt 84) 158 = .ok (.iconst 1, 1)) rfl rfl ?_
  show m_run Z (84, 159, [l0, l1, l2, l3], [(0, 1), (0, s0), (0, s1), (2, ((s2 : Nat) : Int))], (K, σ, n, e, s)) = _
  exact g_inv (k := 1) (m' := 85) (np := 3) (as := [(2, ((s2 : Nat) : Int)), (0, s1), (0, s0), (0, 1)]) (by decide +kernel : decode (m_byt 84) 159 = .ok (.invokevirtual 138, 3)) (Or.inl ⟨rfl, rfl⟩) (by decide +kernel) (by decide +kernel) (by decide +kernel) (Nat.le_of_ble_eq_true rfl) rfl (Or.inr (g_rcv (by decide +kernel) h0))
theorem b_84_162 {Z : mZ} {l2 l3 : mV} {x1 : Int} {r0 : Nat} {h : mH} : m_run Z (84, 162, [(2, ((r0 : Nat) : Int)), (0, x1), l2, l3], [], h) = m_run Z (84, 97, [(2, ((r0 : Nat) : Int)), (0, x1 + 1), l2, l3], [], h) := by
  refine g_iinc (k := 1) (x := x1) (by decide +kernel : decode (m_byt 84) 162 = .ok (.iinc 1 1, 3)) rfl (Nat.le_of_ble_eq_true rfl) ?_
  show m_run Z (84, 165, [(2, ((r0 : Nat) : Int)), (0, x1 + 1), l2, l3], [], h) = _
  refine g_jmp (t := 97) (by decide +kernel : decode (m_byt 84) 165 = .ok (.goto (-68), 3)) (by decide) ?_
  rfl
theorem b_84_168 {Z : mZ} {l0 l1 l2 l3 : mV} {h : mH} : m_run Z (84, 168, [l0, l1, l2, l3], [], h) = some (.inl (9, 0), h) := by
  exact g_vret (by decide +kernel : decode (m_byt 84) 168 = .ok (.return_, 1)) (by decide +kernel)
theorem e_85 {Z : mZ} {r0 : Nat} {x1 : Int} {x2 : Int} {x3 : Int} {h : mH} : m_cl Z 85 [(2, ((r0 : Nat) : Int)), (0, x1), (0, x2), (0, x3)] h = m_run Z (85, 0, [(2, ((r0 : Nat) : Int)), (0, x1), (0, x2), (0, x3)], [], h) := g_ent (k := 4) (by decide) (by decide +kernel) (Nat.le_of_ble_eq_true rfl) (by decide +kernel) rfl
theorem b_85_0 {Z : mZ} {l1 l2 l3 : mV} {r0 : Nat} {K : Nat → mK} {σ : Nat → Nat → Int} {n e s : Nat} (h0 : q_ob K n r0 5) : m_run Z (85, 0, [(2, ((r0 : Nat) : Int)), l1, l2, l3], [], (K, σ, n, e, s)) = if w32 372 ≤ w32 (σ r0 8) then m_run Z (85, 69, [(2, ((r0 : Nat) : Int)), l1, l2, l3], [], (K, σ, n, e, s)) else m_run Z (85, 10, [(2, ((r0 : Nat) : Int)), l1, l2, l3], [], (K, σ, n, e, s)) := by
  refine g_aload_n (k := 0) (v := (2, ((r0 : Nat) : Int))) (by decide +kernel : decode (m_byt 85) 0 = .ok (.aload_n 0, 1)) rfl (Or.inl rfl) ?_
  refine g_getf (ci := 5) (f := 8) (by decide +kernel : decode (m_byt 85) 1 = .ok (.getfield 135, 3)) (by decide +kernel) (by decide +kernel) (by decide +kernel) h0 ?_
  refine g_base (by decide +kernel : decode (m_byt 85) 4 = .ok (.sipush 372, 3)) rfl rfl ?_
  show m_run Z (85, 7, [(2, ((r0 : Nat) : Int)), l1, l2, l3], [(0, 372), (0, (σ r0 8))], (K, σ, n, e, s)) = _
  exact g_brq (t := 69) (off := 62) (by decide +kernel : decode (m_byt 85) 7 = .ok (.if_icmp .ge 62, 3)) rfl rfl (by decide)
theorem b_85_10 {Z : mZ} {x1 x2 x3 : Int} {r0 : Nat} {K : Nat → mK} {σ : Nat → Nat → Int} {n e s : Nat} (h0 : q_ob K n r0 5) (h1 : q_rp K r0 0) (h2 : q_ob K n (q_rf K r0 0) 1) : m_run Z (85, 10, [(2, ((r0 : Nat) : Int)), (0, x1), (0, x2), (0, x3)], [], (K, σ, n, e, s)) = (m_cl Z 33 [(2, ((q_rf K r0 0 : Nat) : Int)), (0, x1), (0, x2), (0, x3)] (K, σ, n, e, s)).bind (m_aft (m_run Z) 85 17 [(2, ((r0 : Nat) : Int)), (0, x1), (0, x2), (0, x3)] []) := by
  refine g_aload_n (k := 0) (v := (2, ((r0 : Nat) : Int))) (by decide +kernel : decode (m_byt 85) 10 = .ok (.aload_n 0, 1)) rfl (Or.inl rfl) ?_
  refine g_getr (ci := 5) (f := 0) (by decide +kernel : decode (m_byt 85) 11 = .ok (.getfield 12, 3)) (by decide +kernel) (by decide +kernel) (by decide +kernel) h0 h1 ?_
  refine g_iload_n (k := 1) (x := x1) (by decide +kernel : decode (m_byt 85) 14 = .ok (.iload_n 1, 1)) rfl ?_
  refine g_iload_n (k := 2) (x := x2) (by decide +kernel : decode (m_byt 85) 15 = .ok (.iload_n 2, 1)) rfl ?_
  refine g_iload_n (k := 3) (x := x3) (by decide +kernel : decode (m_byt 85) 16 = .ok (.iload_n 3, 1)) rfl ?_
  exact g_inv (k := 1) (m' := 33) (np := 3) (as := [(2, ((q_rf K r0 0 : Nat) : Int)), (0, x1), (0, x2), (0, x3)]) (by decide +kernel : decode (m_byt 85) 17 = .ok (.invokevirtual 157, 3)) (Or.inl ⟨rfl, rfl⟩) (by decide +kernel) (by decide +kernel) (by decide +kernel) (Nat.le_of_ble_eq_true rfl) rfl (Or.inr (g_rcv (by decide +kernel) h2))
theorem b_85_20 {Z : mZ} {l0 l1 l2 l3 : mV} {s0 : Int} {h : mH} : m_run Z (85, 20, [l0, l1, l2, l3], [(0, s0)], h) = if w32 s0 = 0 then m_run Z (85, 69, [l0, l1, l2, l3], [], h) else m_run Z (85, 23, [l0, l1, l2, l3], [], h) := by
  exact g_brq (t := 69) (off := 49) (by decide +kernel : decode (m_byt 85) 20 = .ok (.ifCond .eq 49, 3)) rfl rfl (by decide)
theorem b_85_23 {Z : mZ} {l2 l3 : mV} {x1 : Int} {r0 : Nat} {K : Nat → mK} {σ : Nat → Nat → Int} {n e s : Nat} (h0 : q_ob K n r0 5) (h1 : q_rp K r0 9) (h2 : q_ob K n (q_rf K r0 9) 3) : m_run Z (85, 23, [(2, ((r0 : Nat) : Int)), (0, x1), l2, l3], [], (K, σ, n, e, s)) = (m_cl Z 45 [(2, ((q_rf K r0 9 : Nat) : Int)), (0, (σ r0 8)), (0, x1)] (K, σ, n, e, s)).bind (m_aft (m_run Z) 85 32 [(2, ((r0 : Nat) : Int)), (0, x1), l2, l3] []) := by
  refine g_aload_n (k := 0) (v := (2, ((r0 : Nat) : Int))) (by decide +kernel : decode (m_byt 85) 23 = .ok (.aload_n 0, 1)) rfl (Or.inl rfl) ?_
  refine g_getr (ci := 5) (f := 9) (by decide +kernel : decode (m_byt 85) 24 = .ok (.getfield 36, 3)) (by decide +kernel) (by decide +kernel) (by decide +kernel) h0 h1 ?_
  refine g_aload_n (k := 0) (v := (2, ((r0 : Nat) : Int))) (by decide +kernel : decode (m_byt 85) 27 = .ok (.aload_n 0, 1)) rfl (Or.inl rfl) ?_
  refine g_getf (ci := 5) (f := 8) (by decide +kernel : decode (m_byt 85) 28 = .ok (.getfield 135, 3)) (by decide +kernel) (by decide +kernel) (by decide +kernel) h0 ?_
  refine g_iload_n (k := 1) (x := x1) (by decide +kernel : decode (m_byt 85) 31 = .ok (.iload_n 1, 1)) rfl ?_
  exact g_inv (k := 1) (m' := 45) (np := 2) (as := [(2, ((q_rf K r0 9 : Nat) : Int)), (0, (σ r0 8)), (0, x1)]) (by decide +kernel : decode (m_byt 85) 32 = .ok (.invokevirtual 68, 3)) (Or.inl ⟨rfl, rfl⟩) (by decide +kernel) (by decide +kernel) (by decide +kernel) (Nat.le_of_ble_eq_true rfl) rfl (Or.inr (g_rcv (by decide +kernel) h2))
theorem b_85_35 {Z : mZ} {l1 l3 : mV} {x2 : Int} {r0 : Nat} {K : Nat → mK} {σ : Nat → Nat → Int} {n e s : Nat} (h0 : q_ob K n r0 5) (h1 : q_rp K r0 10) (h2 : q_ob K n (q_rf K r0 10) 3) : m_run Z (85, 35, [(2, ((r0 : Nat) : Int)), l1, (0, x2), l3], [], (K, σ, n, e, s)) = (m_cl Z 45 [(2, ((q_rf K r0 10 : Nat) : Int)), (0, (σ r0 8)), (0, x2)] (K, σ, n, e, s)).bind (m_aft (m_run Z) 85 44 [(2, ((r0 : Nat) : Int)), l1, (0, x2), l3] []) := by
  refine g_aload_n (k := 0) (v := (2, ((r0 : Nat) : Int))) (by decide +kernel : decode (m_byt 85) 35 = .ok (.aload_n 0, 1)) rfl (Or.inl rfl) ?_
  refine g_getr (ci := 5) (f := 10) (by decide +kernel : decode (m_byt 85) 36 = .ok (.getfield 39, 3)) (by decide +kernel) (by decide +kernel) (by decide +kernel) h0 h1 ?_
  refine g_aload_n (k := 0) (v := (2, ((r0 : Nat) : Int))) (by decide +kernel : decode (m_byt 85) 39 = .ok (.aload_n 0, 1)) rfl (Or.inl rfl) ?_
  refine g_getf (ci := 5) (f := 8) (by decide +kernel : decode (m_byt 85) 40 = .ok (.getfield 135, 3)) (by decide +kernel) (by decide +kernel) (by decide +kernel) h0 ?_
  refine g_iload_n (k := 2) (x := x2) (by decide +kernel : decode (m_byt 85) 43 = .ok (.iload_n 2, 1)) rfl ?_
  exact g_inv (k := 1) (m' := 45) (np := 2) (as := [(2, ((q_rf K r0 10 : Nat) : Int)), (0, (σ r0 8)), (0, x2)]) (by decide +kernel : decode (m_byt 85) 44 = .ok (.invokevirtual 68, 3)) (Or.inl ⟨rfl, rfl⟩) (by decide +kernel) (by decide +kernel) (by decide +kernel) (Nat.le_of_ble_eq_true rfl) rfl (Or.inr (g_rcv (by decide +kernel) h2))
theorem b_85_47 {Z : mZ} {l1 l2 : mV} {x3 : Int} {r0 : Nat} {K : Nat → mK} {σ : Nat → Nat → Int} {n e s : Nat} (h0 : q_ob K n r0 5) (h1 : q_rp K r0 11) (h2 : q_ob K n (q_rf K r0 11) 3) : m_run Z (85, 47, [(2, ((r0 : Nat) : Int)), l1, l2, (0, x3)], [], (K, σ, n, e, s)) = (m_cl Z 45 [(2, ((q_rf K r0 11 : Nat) : Int)), (0, (σ r0 8)), (0, x3)] (K, σ, n, e, s)).bind (m_aft (m_run Z) 85 56 [(2, ((r0 : Nat) : Int)), l1, l2, (0, x3)] []) := by
  refine g_aload_n (k := 0) (v := (2, ((r0 : Nat) : Int))) (by decide +kernel : decode (m_byt 85) 47 = .ok (.aload_n 0, 1)) rfl (Or.inl rfl) ?_
  refine g_getr (ci := 5) (f := 11) (by decide +kernel : decode (m_byt 85) 48 = .ok (.getfield 42, 3)) (by decide +kernel) (by decide +kernel) (by decide +kernel) h0 h1 ?_
  refine g_aload_n (k := 0) (v := (2, ((r0 : Nat) : Int))) (by decide +kernel : decode (m_byt 85) 51 = .ok (.aload_n 0, 1)) rfl (Or.inl rfl) ?_
  refine g_getf (ci := 5) (f := 8) (by decide +kernel : decode (m_byt 85) 52 = .ok (.getfield 135, 3)) (by decide +kernel) (by decide +kernel) (by decide +kernel) h0 ?_
  refine g_iload_n (k := 3) (x := x3) (by decide +kernel : decode (m_byt 85) 55 = .ok (.iload_n 3, 1)) rfl ?_
  exact g_inv (k := 1) (m' := 45) (np := 2) (as := [(2, ((q_rf K r0 11 : Nat) : Int)), (0, (σ r0 8)), (0, x3)]) (by decide +kernel : decode (m_byt 85) 56 = .ok (.invokevirtual 68, 3)) (Or.inl ⟨rfl, rfl⟩) (by decide +kernel) (by decide +kernel) (by decide +kernel) (Nat.le_of_ble_eq_true rfl) rfl (Or.inr (g_rcv (by decide +kernel) h2))
theorem b_85_59 {Z : mZ} {l1 l2 l3 : mV} {r0 : Nat} {K : Nat → mK} {σ : Nat → Nat → Int} {n e s : Nat} (h0 : q_ob K n r0 5) : m_run Z (85, 59, [(2, ((r0 : Nat) : Int)), l1, l2, l3], [], (K, σ, n, e, s)) = m_run Z (85, 69, [(2, ((r0 : Nat) : Int)), l1, l2, l3], [], (K, (m_up2 σ r0 8 ((σ r0 8) + 1)), n, e, s)) := by
  refine g_aload_n (k := 0) (v := (2, ((r0 : Nat) : Int))) (by decide +kernel : decode (m_byt 85) 59 = .ok (.aload_n 0, 1)) rfl (Or.inl rfl) ?_
  refine g_base (by decide +kernel : decode (m_byt 85) 60 = .ok (.dup, 1)) rfl rfl ?_
  show m_run Z (85, 61, [(2, ((r0 : Nat) : Int)), l1, l2, l3], [(2, ((r0 : Nat) : Int)), (2, ((r0 : Nat) : Int))], (K, σ, n, e, s)) = _
  refine g_getf (ci := 5) (f := 8) (by decide +kernel : decode (m_byt 85) 61 = .ok (.getfield 135, 3)) (by decide +kernel) (by decide +kernel) (by decide +kernel) h0 ?_
  refine g_base (by decide +kernel : decode (m_byt 85) 64 = .ok (.iconst 1, 1)) rfl rfl ?_
  show m_run Z (85, 65, [(2, ((r0 : Nat) : Int)), l1, l2, l3], [(0, 1), (0, (σ r0 8)), (2, ((r0 : Nat) : Int))], (K, σ, n, e, s)) = _
  refine g_base (by decide +kernel : decode (m_byt 85) 65 = .ok (.iadd, 1)) rfl rfl ?_
  show m_run Z (85, 66, [(2, ((r0 : Nat) : Int)), l1, l2, l3], [(0, ((σ r0 8) + 1)), (2, ((r0 : Nat) : Int))], (K, σ, n, e, s)) = _
  refine g_putf (ci := 5) (f := 8) (by decide +kernel : decode (m_byt 85) 66 = .ok (.putfield 135, 3)) (by decide +kernel) (by decide +kernel) (by decide +kernel) h0 ?_
  show m_run Z (85, 69, [(2, ((r0 : Nat) : Int)), l1, l2, l3], [], (K, (m_up2 σ r0 8 ((σ r0 8) + 1)), n, e, s)) = _
  rfl
theorem b_85_69 {Z : mZ} {l0 l1 l2 l3 : mV} {h : mH} : m_run Z (85, 69, [l0, l1, l2, l3], [], h) = some (.inl (9, 0), h) := by
  exact g_vret (by decide +kernel : decode (m_byt 85) 69 = .ok (.return_, 1)) (by decide +kernel)
theorem e_86 {Z : mZ} {r0 : Nat} {x1 : Int} {x2 : Int} {x3 : Int} {h : mH} : m_cl Z 86 [(2, ((r0 : Nat) : Int)), (0, x1), (0, x2), (0, x3)] h = m_run Z (86, 0, [(2, ((r0 : Nat) : Int)), (0, x1), (0, x2), (0, x3), (9, 0), (9, 0), (9, 0), (9, 0), (9, 0)], [], h) := g_ent (k := 9) (by decide) (by decide +kernel) (Nat.le_of_ble_eq_true rfl) (by decide +kernel) rfl
theorem b_86_0 {Z : mZ} {l1 l3 l4 l5 l6 l7 l8 : mV} {x2 : Int} {r0 : Nat} {K : Nat → mK} {σ : Nat → Nat → Int} {n e s : Nat} (h0 : q_ob K n r0 5) (h1 : q_rp K r0 4) (h2 : q_ob K n (q_rf K r0 4) 3) : m_run Z (86, 0, [(2, ((r0 : Nat) : Int)), l1, (0, x2), l3, l4, l5, l6, l7, l8], [], (K, σ, n, e, s)) = (m_cl Z 44 [(2, ((q_rf K r0 4 : Nat) : Int)), (0, x2)] (K, σ, n, e, s)).bind (m_aft (m_run Z) 86 5 [(2, ((r0 : Nat) : Int)), l1, (0, x2), l3, l4, l5, l6, l7, l8] []) := by
  refine g_aload_n (k := 0) (v := (2, ((r0 : Nat) : Int))) (by decide +kernel : decode (m_byt 86) 0 = .ok (.aload_n 0, 1)) rfl (Or.inl rfl) ?_
  refine g_getr (ci := 5) (f := 4) (by decide +kernel : decode (m_byt 86) 1 = .ok (.getfield 23, 3)) (by decide +kernel) (by decide +kernel) (by decide +kernel) h0 h1 ?_
  refine g_iload_n (k := 2) (x := x2) (by decide +kernel : decode (m_byt 86) 4 = .ok (.iload_n 2, 1)) rfl ?_
  exact g_inv (k := 1) (m' := 44) (np := 1) (as := [(2, ((q_rf K r0 4 : Nat) : Int)), (0, x2)]) (by decide +kernel : decode (m_byt 86) 5 = .ok (.invokevirtual 61, 3)) (Or.inl ⟨rfl, rfl⟩) (by decide +kernel) (by decide +kernel) (by decide +kernel) (Nat.le_of_ble_eq_true rfl) rfl (Or.inr (g_rcv (by decide +kernel) h2))
theorem b_86_8 {Z : mZ} {l1 l2 l4 l5 l6 l7 l8 : mV} {s0 x3 : Int} {r0 : Nat} {K : Nat → mK} {σ : Nat → Nat → Int} {n e s : Nat} (h0 : q_ob K n r0 5) (h1 : q_rp K r0 4) (h2 : q_ob K n (q_rf K r0 4) 3) : m_run Z (86, 8, [(2, ((r0 : Nat) : Int)), l1, l2, (0, x3), l4, l5, l6, l7, l8], [(0, s0)], (K, σ, n, e, s)) = (m_cl Z 44 [(2, ((q_rf K r0 4 : Nat) : Int)), (0, x3)] (K, σ, n, e, s)).bind (m_aft (m_run Z) 86 15 [(2, ((r0 : Nat) : Int)), l1, l2, (0, x3), (0, s0), l5, l6, l7, l8] []) := by
  refine g_istore (k := 4) (by decide +kernel : decode (m_byt 86) 8 = .ok (.istore 4, 2)) (Nat.le_of_ble_eq_true rfl) ?_
  show m_run Z (86, 10, [(2, ((r0 : Nat) : Int)), l1, l2, (0, x3), (0, s0), l5, l6, l7, l8], [], (K, σ, n, e, s)) = _
  refine g_aload_n (k := 0) (v := (2, ((r0 : Nat) : Int))) (by decide +kernel : decode (m_byt 86) 10 = .ok (.aload_n 0, 1)) rfl (Or.inl rfl) ?_
  refine g_getr (ci := 5) (f := 4) (by decide +kernel : decode (m_byt 86) 11 = .ok (.getfield 23, 3)) (by decide +kernel) (by decide +kernel) (by decide +kernel) h0 h1 ?_
  refine g_iload_n (k := 3) (x := x3) (by decide +kernel : decode (m_byt 86) 14 = .ok (.iload_n 3, 1)) rfl ?_
  exact g_inv (k := 1) (m' := 44) (np := 1) (as := [(2, ((q_rf K r0 4 : Nat) : Int)), (0, x3)]) (by decide +kernel : decode (m_byt 86) 15 = .ok (.invokevirtual 61, 3)) (Or.inl ⟨rfl, rfl⟩) (by decide +kernel) (by decide +kernel) (by decide +kernel) (Nat.le_of_ble_eq_true rfl) rfl (Or.inr (g_rcv (by decide +kernel) h2))
theorem b_86_18 {Z : mZ} {l2 l5 l6 l7 l8 : mV} {s0 x4 x3 x1 : Int} {r0 : Nat} {K : Nat → mK} {σ : Nat → Nat → Int} {n e s : Nat} (h0 : q_ob K n r0 5) : m_run Z (86, 18, [(2, ((r0 : Nat) : Int)), (0, x1), l2, (0, x3), (0, x4), l5, l6, l7, l8], [(0, s0)], (K, σ, n, e, s)) = (m_cl Z 78 [(2, ((r0 : Nat) : Int)), (0, x3), (0, x1)] (K, σ, n, e, s)).bind (m_aft (m_run Z) 86 32 [(2, ((r0 : Nat) : Int)), (0, x1), l2, (0, x3), (0, x4), (0, s0), (0, (x4 + s0)), l7, l8] [(0, s0)]) := by
  refine g_istore (k := 5) (by decide +kernel : decode (m_byt 86) 18 = .ok (.istore 5, 2)) (Nat.le_of_ble_eq_true rfl) ?_
  show m_run Z (86, 20, [(2, ((r0 : Nat) : Int)), (0, x1), l2, (0, x3), (0, x4), (0, s0), l6, l7, l8], [], (K, σ, n, e, s)) = _
  refine g_iload (k := 4) (x := x4) (by decide +kernel : decode (m_byt 86) 20 = .ok (.iload 4, 2)) rfl ?_
  refine g_iload (k := 5) (x := s0) (by decide +kernel : decode (m_byt 86) 22 = .ok (.iload 5, 2)) rfl ?_
  refine g_base (by decide +kernel : decode (m_byt 86) 24 = .ok (.iadd, 1)) rfl rfl ?_
  show m_run Z (86, 25, [(2, ((r0 : Nat) : Int)), (0, x1), l2, (0, x3), (0, x4), (0, s0), l6, l7, l8], [(0, (x4 + s0))], (K, σ, n, e, s)) = _
  refine g_istore (k := 6) (by decide +kernel : decode (m_byt 86) 25 = .ok (.istore 6, 2)) (Nat.le_of_ble_eq_true rfl) ?_
  show m_run Z (86, 27, [(2, ((r0 : Nat) : Int)), (0, x1), l2, (0, x3), (0, x4), (0, s0), (0, (x4 + s0)), l7, l8], [], (K, σ, n, e, s)) = _
  refine g_iload (k := 5) (x := s0) (by decide +kernel : decode (m_byt 86) 27 = .ok (.iload 5, 2)) rfl ?_
  refine g_aload_n (k := 0) (v := (2, ((r0 : Nat) : Int))) (by decide +kernel : decode (m_byt 86) 29 = .ok (.aload_n 0, 1)) rfl (Or.inl rfl) ?_
  refine g_iload_n (k := 3) (x := x3) (by decide +kernel : decode (m_byt 86) 30 = .ok (.iload_n 3, 1)) rfl ?_
  refine g_iload_n (k := 1) (x := x1) (by decide +kernel : decode (m_byt 86) 31 = .ok (.iload_n 1, 1)) rfl ?_
  exact g_inv (k := 1) (m' := 78) (np := 2) (as := [(2, ((r0 : Nat) : Int)), (0, x3), (0, x1)]) (by decide +kernel : decode (m_byt 86) 32 = .ok (.invokevirtual 161, 3)) (Or.inl ⟨rfl, rfl⟩) (by decide +kernel) (by decide +kernel) (by decide +kernel) (Nat.le_of_ble_eq_true rfl) rfl (Or.inr (g_rcv (by decide +kernel) h0))
theorem b_86_35 {Z : mZ} {l3 l5 l6 l7 l8 : mV} {s0 s1 x4 x2 x1 : Int} {r0 : Nat} {K : Nat → mK} {σ : Nat → Nat → Int} {n e s : Nat} (h0 : q_ob K n r0 5) : m_run Z (86, 35, [(2, ((r0 : Nat) : Int)), (0, x1), (0, x2), l3, (0, x4), l5, l6, l7, l8], [(0, s0), (0, s1)], (K, σ, n, e, s)) = (m_cl Z 77 [(2, ((r0 : Nat) : Int)), (0, x2), (0, x1)] (K, σ, n, e, s)).bind (m_aft (m_run Z) 86 41 [(2, ((r0 : Nat) : Int)), (0, x1), (0, x2), l3, (0, x4), l5, l6, l7, l8] [(0, x4), (0, (s1 * s0))]) := by
  refine g_base (by decide +kernel : decode (m_byt 86) 35 = .ok (.imul, 1)) rfl rfl ?_
  show m_run Z (86, 36, [(2, ((r0 : Nat) : Int)), (0, x1), (0, x2), l3, (0, x4), l5, l6, l7, l8], [(0, (s1 * s0))], (K, σ, n, e, s)) = _
  refine g_iload (k := 4) (x := x4) (by decide +kernel : decode (m_byt 86) 36 = .ok (.iload 4, 2)) rfl ?_
  refine g_aload_n (k := 0) (v := (2, ((r0 : Nat) : Int))) (by decide +kernel : decode (m_byt 86) 38 = .ok (.aload_n 0, 1)) rfl (Or.inl rfl) ?_
  refine g_iload_n (k := 2) (x := x2) (by decide +kernel : decode (m_byt 86) 39 = .ok (.iload_n 2, 1)) rfl ?_
  refine g_iload_n (k := 1) (x := x1) (by decide +kernel : decode (m_byt 86) 40 = .ok (.iload_n 1, 1)) rfl ?_
  exact g_inv (k := 1) (m' := 77) (np := 2) (as := [(2, ((r0 : Nat) : Int)), (0, x2), (0, x1)]) (by decide +kernel : decode (m_byt 86) 41 = .ok (.invokevirtual 164, 3)) (Or.inl ⟨rfl, rfl⟩) (by decide +kernel) (by decide +kernel) (by decide +kernel) (Nat.le_of_ble_eq_true rfl) rfl (Or.inr (g_rcv (by decide +kernel) h0))
theorem b_86_44 {Z : mZ} {l0 l1 l2 l3 l5 l7 l8 : mV} {s0 s1 s2 x6 x4 : Int} {h : mH} : m_run Z (86, 44, [l0, l1, l2, l3, (0, x4), l5, (0, x6), l7, l8], [(0, s0), (0, s1), (0, s2)], h) = if w32 x4 ≤ 0 then m_run Z (86, 80, [l0, l1, l2, l3, (0, x4), l5, (0, x6), (0, (s2 - (s1 * s0))), l8], [], h) else m_run Z (86, 53, [l0, l1, l2, l3, (0, x4), l5, (0, x6), (0, (s2 - (s1 * s0))), l8], [], h) := by
  refine g_base (by decide +kernel : decode (m_byt 86) 44 = .ok (.imul, 1)) rfl rfl ?_
  show m_run Z (86, 45, [l0, l1, l2, l3, (0, x4), l5, (0, x6), l7, l8], [(0, (s1 * s0)), (0, s2)], h) = _
  refine g_base (by decide +kernel : decode (m_byt 86) 45 = .ok (.isub, 1)) rfl rfl ?_
  show m_run Z (86, 46, [l0, l1, l2, l3, (0, x4), l5, (0, x6), l7, l8], [(0, (s2 - (s1 * s0)))], h) = _
  refine g_istore (k := 7) (by decide +kernel : decode (m_byt 86) 46 = .ok (.istore 7, 2)) (Nat.le_of_ble_eq_true rfl) ?_
  show m_run Z (86, 48, [l0, l1, l2, l3, (0, x4), l5, (0, x6), (0, (s2 - (s1 * s0))), l8], [], h) = _
  refine g_iload (k := 4) (x := x4) (by decide +kernel : decode (m_byt 86) 48 = .ok (.iload 4, 2)) rfl ?_
  exact g_brq (t := 80) (off := 30) (by decide +kernel : decode (m_byt 86) 50 = .ok (.ifCond .le 30, 3)) rfl rfl (by decide)
theorem b_86_53 {Z : mZ} {l0 l1 l2 l3 l4 l6 l7 l8 : mV} {x5 : Int} {h : mH} : m_run Z (86, 53, [l0, l1, l2, l3, l4, (0, x5), l6, l7, l8], [], h) = if w32 x5 ≤ 0 then m_run Z (86, 80, [l0, l1, l2, l3, l4, (0, x5), l6, l7, l8], [], h) else m_run Z (86, 58, [l0, l1, l2, l3, l4, (0, x5), l6, l7, l8], [], h) := by
  refine g_iload (k := 5) (x := x5) (by decide +kernel : decode (m_byt 86) 53 = .ok (.iload 5, 2)) rfl ?_
  exact g_brq (t := 80) (off := 25) (by decide +kernel : decode (m_byt 86) 55 = .ok (.ifCond .le 25, 3)) rfl rfl (by decide)
theorem b_86_58 {Z : mZ} {l0 l1 l2 l3 l4 l5 l6 l8 : mV} {x7 : Int} {h : mH} : m_run Z (86, 58, [l0, l1, l2, l3, l4, l5, l6, (0, x7), l8], [], h) = if w32 x7 ≤ 0 then m_run Z (86, 80, [l0, l1, l2, l3, l4, l5, l6, (0, x7), l8], [], h) else m_run Z (86, 63, [l0, l1, l2, l3, l4, l5, l6, (0, x7), l8], [], h) := by
  refine g_iload (k := 7) (x := x7) (by decide +kernel : decode (m_byt 86) 58 = .ok (.iload 7, 2)) rfl ?_
  exact g_brq (t := 80) (off := 20) (by decide +kernel : decode (m_byt 86) 60 = .ok (.ifCond .le 20, 3)) rfl rfl (by decide)
theorem b_86_63 {Z : mZ} {l2 l3 l4 l5 l6 l8 : mV} {x7 x1 : Int} {r0 : Nat} {K : Nat → mK} {σ : Nat → Nat → Int} {n e s : Nat} (h0 : q_ob K n r0 5) : m_run Z (86, 63, [(2, ((r0 : Nat) : Int)), (0, x1), l2, l3, l4, l5, l6, (0, x7), l8], [], (K, σ, n, e, s)) = (m_cl Z 69 [(2, ((r0 : Nat) : Int)), (0, x1)] (K, σ, n, e, s)).bind (m_aft (m_run Z) 86 67 [(2, ((r0 : Nat) : Int)), (0, x1), l2, l3, l4, l5, l6, (0, x7), l8] [(0, x7)]) := by
  refine g_iload (k := 7) (x := x7) (by decide +kernel : decode (m_byt 86) 63 = .ok (.iload 7, 2)) rfl ?_
  refine g_aload_n (k := 0) (v := (2, ((r0 : Nat) : Int))) (by decide +kernel : decode (m_byt 86) 65 = .ok (.aload_n 0, 1)) rfl (Or.inl rfl) ?_
  refine g_iload_n (k := 1) (x := x1) (by decide +kernel : decode (m_byt 86) 66 = .ok (.iload_n 1, 1)) rfl ?_
  exact g_inv (k := 1) (m' := 69) (np := 1) (as := [(2, ((r0 : Nat) : Int)), (0, x1)]) (by decide +kernel : decode (m_byt 86) 67 = .ok (.invokevirtual 107, 3)) (Or.inl ⟨rfl, rfl⟩) (by decide +kernel) (by decide +kernel) (by decide +kernel) (Nat.le_of_ble_eq_true rfl) rfl (Or.inr (g_rcv (by decide +kernel) h0))
theorem b_86_70 {Z : mZ} {l0 l1 l2 l3 l4 l5 l7 l8 : mV} {s0 s1 x6 : Int} {h : mH} : m_run Z (86, 70, [l0, l1, l2, l3, l4, l5, (0, x6), l7, l8], [(0, s0), (0, s1)], h) = if w32 (s0 * x6) ≤ w32 s1 then m_run Z (86, 80, [l0, l1, l2, l3, l4, l5, (0, x6), l7, l8], [], h) else m_run Z (86, 76, [l0, l1, l2, l3, l4, l5, (0, x6), l7, l8], [], h) := by
  refine g_iload (k := 6) (x := x6) (by decide +kernel : decode (m_byt 86) 70 = .ok (.iload 6, 2)) rfl ?_
  refine g_base (by decide +kernel : decode (m_byt 86) 72 = .ok (.imul, 1)) rfl rfl ?_
  show m_run Z (86, 73, [l0, l1, l2, l3, l4, l5, (0, x6), l7, l8], [(0, (s0 * x6)), (0, s1)], h) = _
  exact g_brq (t := 80) (off := 7) (by decide +kernel : decode (m_byt 86) 73 = .ok (.if_icmp .ge 7, 3)) rfl rfl (by decide)
theorem b_86_76 {Z : mZ} {l0 l1 l2 l3 l4 l5 l6 l8 : mV} {x7 : Int} {h : mH} : m_run Z (86, 76, [l0, l1, l2, l3, l4, l5, l6, (0, x7), l8], [], h) = if w32 1 = 0 then m_run Z (86, 123, [l0, l1, l2, l3, l4, l5, l6, (0, x7), (0, 1)], [], h) else m_run Z (86, 88, [l0, l1, l2, l3, l4, l5, l6, (0, x7), (0, 1)], [], h) := by
  refine g_base (by decide +kernel : decode (m_byt 86) 76 = .ok (.iconst 1, 1)) rfl rfl ?_
  show m_run Z (86, 77, [l0, l1, l2, l3, l4, l5, l6, (0, x7), l8], [(0, 1)], h) = _
  refine g_jmp (t := 81) (by decide +kernel : decode (m_byt 86) 77 = .ok (.goto 4, 3)) (by decide) ?_
  refine g_istore (k := 8) (by decide +kernel : decode (m_byt 86) 81 = .ok (.istore 8, 2)) (Nat.le_of_ble_eq_true rfl) ?_
  show m_run Z (86, 83, [l0, l1, l2, l3, l4, l5, l6, (0, x7), (0, 1)], [], h) = _
  refine g_iload (k := 8) (x := 1) (by decide +kernel : decode (m_byt 86) 83 = .ok (.iload 8, 2)) rfl ?_
  exact g_brq (t := 123) (off := 38) (by decide +kernel : decode (m_byt 86) 85 = .ok (.ifCond .eq 38, 3)) rfl rfl (by decide)
theorem b_86_80 {Z : mZ} {l0 l1 l2 l3 l4 l5 l6 l7 l8 : mV} {h : mH} : m_run Z (86, 80, [l0, l1, l2, l3, l4, l5, l6, l7, l8], [], h) = m_run Z (86, 81, [l0, l1, l2, l3, l4, l5, l6, l7, l8], [(0, 0)], h) := by
  refine g_base (by decide +kernel : decode (m_byt 86) 80 = .ok (.iconst 0, 1)) rfl rfl ?_
  show m_run Z (86, 81, [l0, l1, l2, l3, l4, l5, l6, l7, l8], [(0, 0)], h) = _
  rfl
theorem b_86_81 {Z : mZ} {l0 l1 l2 l3 l4 l5 l6 l8 : mV} {s0 x7 : Int} {h : mH} : m_run Z (86, 81, [l0, l1, l2, l3, l4, l5, l6, (0, x7), l8], [(0, s0)], h) = if w32 s0 = 0 then m_run Z (86, 123, [l0, l1, l2, l3, l4, l5, l6, (0, x7), (0, s0)], [], h) else m_run Z (86, 88, [l0, l1, l2, l3, l4, l5, l6, (0, x7), (0, s0)], [], h) := by
  refine g_istore (k := 8) (by decide +kernel : decode (m_byt 86) 81 = .ok (.istore 8, 2)) (Nat.le_of_ble_eq_true rfl) ?_
  show m_run Z (86, 83, [l0, l1, l2, l3, l4, l5, l6, (0, x7), (0, s0)], [], h) = _
  refine g_iload (k := 8) (x := s0) (by decide +kernel : decode (m_byt 86) 83 = .ok (.iload 8, 2)) rfl ?_
  exact g_brq (t := 123) (off := 38) (by decide +kernel : decode (m_byt 86) 85 = .ok (.ifCond .eq 38, 3)) rfl rfl (by decide)
theorem b_86_88 {Z : mZ} {l3 l4 l5 l8 : mV} {x2 x1 x7 x6 : Int} {r0 : Nat} {K : Nat → mK} {σ : Nat → Nat → Int} {n e s : Nat} (h0 : q_ob K n r0 5) : m_run Z (86, 88, [(2, ((r0 : Nat) : Int)), (0, x1), (0, x2), l3, l4, l5, (0, x6), (0, x7), l8], [], (K, σ, n, e, s)) = (m_cl Z 87 [(2, ((r0 : Nat) : Int)), (0, x2), (0, x1), (0, x7), (0, x6)] (K, σ, n, e, s)).bind (m_aft (m_run Z) 86 95 [(2, ((r0 : Nat) : Int)), (0, x1), (0, x2), l3, l4, l5, (0, x6), (0, x7), l8] []) := by
  refine g_aload_n (k := 0) (v := (2, ((r0 : Nat) : Int))) (by decide +kernel : decode (m_byt 86) 88 = .ok (.aload_n 0, 1)) rfl (Or.inl rfl) ?_
  refine g_iload_n (k := 2) (x := x2) (by decide +kernel : decode (m_byt 86) 89 = .ok (.iload_n 2, 1)) rfl ?_
  refine g_iload_n (k := 1) (x := x1) (by decide +kernel : decode (m_byt 86) 90 = .ok (.iload_n 1, 1)) rfl ?_
  refine g_iload (k := 7) (x := x7) (by decide +kernel : decode (m_byt 86) 91 = .ok (.iload 7, 2)) rfl ?_
  refine g_iload (k := 6) (x := x6) (by decide +kernel : decode (m_byt 86) 93 = .ok (.iload 6, 2)) rfl ?_
  exact g_inv (k := 1) (m' := 87) (np := 4) (as := [(2, ((r0 : Nat) : Int)), (0, x2), (0, x1), (0, x7), (0, x6)]) (by decide +kernel : decode (m_byt 86) 95 = .ok (.invokevirtual 167, 3)) (Or.inl ⟨rfl, rfl⟩) (by decide +kernel) (by decide +kernel) (by decide +kernel) (Nat.le_of_ble_eq_true rfl) rfl (Or.inr (g_rcv (by decide +kernel) h0))
theorem b_86_98 {Z : mZ} {l0 l1 l2 l3 l4 l5 l6 l7 l8 : mV} {s0 : Int} {h : mH} : m_run Z (86, 98, [l0, l1, l2, l3, l4, l5, l6, l7, l8], [(0, s0)], h) = if w32 s0 ≤ 0 then m_run Z (86, 123, [l0, l1, l2, l3, l4, l5, l6, l7, l8], [], h) else m_run Z (86, 101, [l0, l1, l2, l3, l4, l5, l6, l7, l8], [], h) := by
  exact g_brq (t := 123) (off := 25) (by decide +kernel : decode (m_byt 86) 98 = .ok (.ifCond .le 25, 3)) rfl rfl (by decide)
theorem b_86_101 {Z : mZ} {l2 l4 l5 l8 : mV} {x3 x1 x7 x6 : Int} {r0 : Nat} {K : Nat → mK} {σ : Nat → Nat → Int} {n e s : Nat} (h0 : q_ob K n r0 5) : m_run Z (86, 101, [(2, ((r0 : Nat) : Int)), (0, x1), l2, (0, x3), l4, l5, (0, x6), (0, x7), l8], [], (K, σ, n, e, s)) = (m_cl Z 87 [(2, ((r0 : Nat) : Int)), (0, x3), (0, x1), (0, x7), (0, x6)] (K, σ, n, e, s)).bind (m_aft (m_run Z) 86 108 [(2, ((r0 : Nat) : Int)), (0, x1), l2, (0, x3), l4, l5, (0, x6), (0, x7), l8] []) := by
  refine g_aload_n (k := 0) (v := (2, ((r0 : Nat) : Int))) (by decide +kernel : decode (m_byt 86) 101 = .ok (.aload_n 0, 1)) rfl (Or.inl rfl) ?_
  refine g_iload_n (k := 3) (x := x3) (by decide +kernel : decode (m_byt 86) 102 = .ok (.iload_n 3, 1)) rfl ?_
  refine g_iload_n (k := 1) (x := x1) (by decide +kernel : decode (m_byt 86) 103 = .ok (.iload_n 1, 1)) rfl ?_
  refine g_iload (k := 7) (x := x7) (by decide +kernel : decode (m_byt 86) 104 = .ok (.iload 7, 2)) rfl ?_
  refine g_iload (k := 6) (x := x6) (by decide +kernel : decode (m_byt 86) 106 = .ok (.iload 6, 2)) rfl ?_
  exact g_inv (k := 1) (m' := 87) (np := 4) (as := [(2, ((r0 : Nat) : Int)), (0, x3), (0, x1), (0, x7), (0, x6)]) (by decide +kernel : decode (m_byt 86) 108 = .ok (.invokevirtual 167, 3)) (Or.inl ⟨rfl, rfl⟩) (by decide +kernel) (by decide +kernel) (by decide +kernel) (Nat.le_of_ble_eq_true rfl) rfl (Or.inr (g_rcv (by decide +kernel) h0))
theorem b_86_111 {Z : mZ} {l0 l1 l2 l3 l4 l5 l6 l7 l8 : mV} {s0 : Int} {h : mH} : m_run Z (86, 111, [l0, l1, l2, l3, l4, l5, l6, l7, l8], [(0, s0)], h) = if 0 ≤ w32 s0 then m_run Z (86, 123, [l0, l1, l2, l3, l4, l5, l6, l7, l8], [], h) else m_run Z (86, 114, [l0, l1, l2, l3, l4, l5, l6, l7, l8], [], h) := by
  exact g_brq (t := 123) (off := 12) (by decide +kernel : decode (m_byt 86) 111 = .ok (.ifCond .ge 12, 3)) rfl rfl (by decide)
theorem b_86_114 {Z : mZ} {l2 l3 l4 l5 l8 : mV} {x1 x7 x6 : Int} {r0 : Nat} {K : Nat → mK} {σ : Nat → Nat → Int} {n e s : Nat} (h0 : q_ob K n r0 5) : m_run Z (86, 114, [(2, ((r0 : Nat) : Int)), (0, x1), l2, l3, l4, l5, (0, x6), (0, x7), l8], [], (K, σ, n, e, s)) = (m_cl Z 85 [(2, ((r0 : Nat) : Int)), (0, x1), (0, x7), (0, x6)] (K, σ, n, e, s)).bind (m_aft (m_run Z) 86 120 [(2, ((r0 : Nat) : Int)), (0, x1), l2, l3, l4, l5, (0, x6), (0, x7), l8] []) := by
  refine g_aload_n (k := 0) (v := (2, ((r0 : Nat) : Int))) (by decide +kernel : decode (m_byt 86) 114 = .ok (.aload_n 0, 1)) rfl (Or.inl rfl) ?_
  refine g_iload_n (k := 1) (x := x1) (by decide +kernel : decode (m_byt 86) 115 = .ok (.iload_n 1, 1)) rfl ?_
  refine g_iload (k := 7) (x := x7) (by decide +kernel : decode (m_byt 86) 116 = .ok (.iload 7, 2)) rfl ?_
  refine g_iload (k := 6) (x := x6) (by decide +kernel : decode (m_byt 86) 118 = .ok (.iload 6, 2)) rfl ?_
  exact g_inv (k := 1) (m' := 85) (np := 3) (as := [(2, ((r0 : Nat) : Int)), (0, x1), (0, x7), (0, x6)]) (by decide +kernel : decode (m_byt 86) 120 = .ok (.invokevirtual 138, 3)) (Or.inl ⟨rfl, rfl⟩) (by decide +kernel) (by decide +kernel) (by decide +kernel) (Nat.le_of_ble_eq_true rfl) rfl (Or.inr (g_rcv (by decide +kernel) h0))
theorem b_86_123 {Z : mZ} {l0 l1 l2 l3 l4 l5 l6 l7 l8 : mV} {h : mH} : m_run Z (86, 123, [l0, l1, l2, l3, l4, l5, l6, l7, l8], [], h) = some (.inl (9, 0), h) := by
  exact g_vret (by decide +kernel : decode (m_byt 86) 123 = .ok (.return_, 1)) (by decide +kernel)
theorem e_87 {Z : mZ} {r0 : Nat} {x1 : Int} {x2 : Int} {x3 : Int} {x4 : Int} {h : mH} : m_cl Z 87 [(2, ((r0 : Nat) : Int)), (0, x1), (0, x2), (0, x3), (0, x4)] h = m_run Z (87, 0, [(2, ((r0 : Nat) : Int)), (0, x1), (0, x2), (0, x3), (0, x4)], [], h) := g_ent (k := 5) (by decide) (by decide +kernel) (Nat.le_of_ble_eq_true rfl) (by decide +kernel) rfl
theorem b_87_0 {Z : mZ} {l3 l4 : mV} {x1 x2 : Int} {r0 : Nat} {K : Nat → mK} {σ : Nat → Nat → Int} {n e s : Nat} (h0 : q_ob K n r0 5) : m_run Z (87, 0, [(2, ((r0 : Nat) : Int)), (0, x1), (0, x2), l3, l4], [], (K, σ, n, e, s)) = (m_cl Z 78 [(2, ((r0 : Nat) : Int)), (0, x1), (0, x2)] (K, σ, n, e, s)).bind (m_aft (m_run Z) 87 3 [(2, ((r0 : Nat) : Int)), (0, x1), (0, x2), l3, l4] []) := by
  refine g_aload_n (k := 0) (v := (2, ((r0 : Nat) : Int))) (by decide +kernel : decode (m_byt 87) 0 = .ok (.aload_n 0, 1)) rfl (Or.inl rfl) ?_
  refine g_iload_n (k := 1) (x := x1) (by decide +kernel : decode (m_byt 87) 1 = .ok (.iload_n 1, 1)) rfl ?_
  refine g_iload_n (k := 2) (x := x2) (by decide +kernel : decode (m_byt 87) 2 = .ok (.iload_n 2, 1)) rfl ?_
  exact g_inv (k := 1) (m' := 78) (np := 2) (as := [(2, ((r0 : Nat) : Int)), (0, x1), (0, x2)]) (by decide +kernel : decode (m_byt 87) 3 = .ok (.invokevirtual 161, 3)) (Or.inl ⟨rfl, rfl⟩) (by decide +kernel) (by decide +kernel) (by decide +kernel) (Nat.le_of_ble_eq_true rfl) rfl (Or.inr (g_rcv (by decide +kernel) h0))
theorem b_87_6 {Z : mZ} {l3 l4 : mV} {s0 x1 x2 : Int} {r0 : Nat} {K : Nat → mK} {σ : Nat → Nat → Int} {n e s : Nat} (h0 : q_ob K n r0 5) : m_run Z (87, 6, [(2, ((r0 : Nat) : Int)), (0, x1), (0, x2), l3, l4], [(0, s0)], (K, σ, n, e, s)) = (m_cl Z 77 [(2, ((r0 : Nat) : Int)), (0, x1), (0, x2)] (K, σ, n, e, s)).bind (m_aft (m_run Z) 87 9 [(2, ((r0 : Nat) : Int)), (0, x1), (0, x2), l3, l4] [(0, s0)]) := by
  refine g_aload_n (k := 0) (v := (2, ((r0 : Nat) : Int))) (by decide +kernel : decode (m_byt 87) 6 = .ok (.aload_n 0, 1)) rfl (Or.inl rfl) ?_
  refine g_iload_n (k := 1) (x := x1) (by decide +kernel : decode (m_byt 87) 7 = .ok (.iload_n 1, 1)) rfl ?_
  refine g_iload_n (k := 2) (x := x2) (by decide +kernel : decode (m_byt 87) 8 = .ok (.iload_n 2, 1)) rfl ?_
  exact g_inv (k := 1) (m' := 77) (np := 2) (as := [(2, ((r0 : Nat) : Int)), (0, x1), (0, x2)]) (by decide +kernel : decode (m_byt 87) 9 = .ok (.invokevirtual 164, 3)) (Or.inl ⟨rfl, rfl⟩) (by decide +kernel) (by decide +kernel) (by decide +kernel) (Nat.le_of_ble_eq_true rfl) rfl (Or.inr (g_rcv (by decide +kernel) h0))
theorem b_87_12 {Z : mZ} {l0 l1 l2 : mV} {s0 s1 x4 x3 : Int} {h : mH} : m_run Z (87, 12, [l0, l1, l2, (0, x3), (0, x4)], [(0, s0), (0, s1)], h) = some (.inl (0, (((s1 - s0) * x4) - (2 * x3))), h) := by
  refine g_base (by decide +kernel : decode (m_byt 87) 12 = .ok (.isub, 1)) rfl rfl ?_
  show m_run Z (87, 13, [l0, l1, l2, (0, x3), (0, x4)], [(0, (s1 - s0))], h) = _
  refine g_iload (k := 4) (x := x4) (by decide +kernel : decode (m_byt 87) 13 = .ok (.iload 4, 2)) rfl ?_
  refine g_base (by decide +kernel : decode (m_byt 87) 15 = .ok (.imul, 1)) rfl rfl ?_
  show m_run Z (87, 16, [l0, l1, l2, (0, x3), (0, x4)], [(0, ((s1 - s0) * x4))], h) = _
  refine g_base (by decide +kernel : decode (m_byt 87) 16 = .ok (.iconst 2, 1)) rfl rfl ?_
  show m_run Z (87, 17, [l0, l1, l2, (0, x3), (0, x4)], [(0, 2), (0, ((s1 - s0) * x4))], h) = _
  refine g_iload_n (k := 3) (x := x3) (by decide +kernel : decode (m_byt 87) 17 = .ok (.iload_n 3, 1)) rfl ?_
  refine g_base (by decide +kernel : decode (m_byt 87) 18 = .ok (.imul, 1)) rfl rfl ?_
  show m_run Z (87, 19, [l0, l1, l2, (0, x3), (0, x4)], [(0, (2 * x3)), (0, ((s1 - s0) * x4))], h) = _
  refine g_base (by decide +kernel : decode (m_byt 87) 19 = .ok (.isub, 1)) rfl rfl ?_
  show m_run Z (87, 20, [l0, l1, l2, (0, x3), (0, x4)], [(0, (((s1 - s0) * x4) - (2 * x3)))], h) = _
  exact g_iret (by decide +kernel : decode (m_byt 87) 20 = .ok (.ireturn, 1)) (by decide +kernel)
theorem e_88 {Z : mZ} {r0 : Nat} {x1 : Int} {h : mH} : m_cl Z 88 [(2, ((r0 : Nat) : Int)), (0, x1)] h = m_run Z (88, 0, [(2, ((r0 : Nat) : Int)), (0, x1), (9, 0)], [], h) := g_ent (k := 3) (by decide) (by decide +kernel) (Nat.le_of_ble_eq_true rfl) (by decide +kernel) rfl
theorem b_88_0 {Z : mZ} {l1 l2 : mV} {r0 : Nat} {K : Nat → mK} {σ : Nat → Nat → Int} {n e s : Nat} (h0 : q_ob K n r0 5) : m_run Z (88, 0, [(2, ((r0 : Nat) : Int)), l1, l2], [], (K, σ, n, e, s)) = (m_cl Z 90 [(2, ((r0 : Nat) : Int))] (K, σ, n, e, s)).bind (m_aft (m_run Z) 88 1 [(2, ((r0 : Nat) : Int)), l1, l2] []) := by
  refine g_aload_n (k := 0) (v := (2, ((r0 : Nat) : Int))) (by decide +kernel : decode (m_byt 88) 0 = .ok (.aload_n 0, 1)) rfl (Or.inl rfl) ?_
  exact g_inv (k := 1) (m' := 90) (np := 0) (as := [(2, ((r0 : Nat) : Int))]) (by decide +kernel : decode (m_byt 88) 1 = .ok (.invokevirtual 170, 3)) (Or.inl ⟨rfl, rfl⟩) (by decide +kernel) (by decide +kernel) (by decide +kernel) (Nat.le_of_ble_eq_true rfl) rfl (Or.inr (g_rcv (by decide +kernel) h0))
theorem b_88_4 {Z : mZ} {l0 l2 : mV} {x1 : Int} {h : mH} : m_run Z (88, 4, [l0, (0, x1), l2], [], h) = m_run Z (88, 6, [l0, (0, x1), (0, 0)], [], h) := by
  refine g_base (by decide +kernel : decode (m_byt 88) 4 = .ok (.iconst 0, 1)) rfl rfl ?_
  show m_run Z (88, 5, [l0, (0, x1), l2], [(0, 0)], h) = _
  refine g_istore_n (k := 2) (by decide +kernel : decode (m_byt 88) 5 = .ok (.istore_n 2, 1)) (Nat.le_of_ble_eq_true rfl) ?_
  show m_run Z (88, 6, [l0, (0, x1), (0, 0)], [], h) = _
  rfl
theorem b_88_6 {Z : mZ} {l1 : mV} {x2 : Int} {r0 : Nat} {K : Nat → mK} {σ : Nat → Nat → Int} {n e s : Nat} (h0 : q_ob K n r0 5) : m_run Z (88, 6, [(2, ((r0 : Nat) : Int)), l1, (0, x2)], [], (K, σ, n, e, s)) = if w32 (σ r0 8) ≤ w32 x2 then m_run Z (88, 54, [(2, ((r0 : Nat) : Int)), l1, (0, x2)], [], (K, σ, n, e, s)) else m_run Z (88, 14, [(2, ((r0 : Nat) : Int)), l1, (0, x2)], [], (K, σ, n, e, s)) := by
  refine g_iload_n (k := 2) (x := x2) (by decide +kernel : decode (m_byt 88) 6 = .ok (.iload_n 2, 1)) rfl ?_
  refine g_aload_n (k := 0) (v := (2, ((r0 : Nat) : Int))) (by decide +kernel : decode (m_byt 88) 7 = .ok (.aload_n 0, 1)) rfl (Or.inl rfl) ?_
  refine g_getf (ci := 5) (f := 8) (by decide +kernel : decode (m_byt 88) 8 = .ok (.getfield 135, 3)) (by decide +kernel) (by decide +kernel) (by decide +kernel) h0 ?_
  exact g_brq (t := 54) (off := 43) (by decide +kernel : decode (m_byt 88) 11 = .ok (.if_icmp .ge 43, 3)) rfl rfl (by decide)
theorem b_88_14 {Z : mZ} {x2 x1 : Int} {r0 : Nat} {K : Nat → mK} {σ : Nat → Nat → Int} {n e s : Nat} (h0 : q_ob K n r0 5) (h1 : q_rp K r0 9) (h2 : q_ob K n (q_rf K r0 9) 3) : m_run Z (88, 14, [(2, ((r0 : Nat) : Int)), (0, x1), (0, x2)], [], (K, σ, n, e, s)) = (m_cl Z 44 [(2, ((q_rf K r0 9 : Nat) : Int)), (0, x2)] (K, σ, n, e, s)).bind (m_aft (m_run Z) 88 23 [(2, ((r0 : Nat) : Int)), (0, x1), (0, x2)] [(0, x1), (2, ((r0 : Nat) : Int)), (0, x2), (2, ((r0 : Nat) : Int))]) := by
  refine g_aload_n (k := 0) (v := (2, ((r0 : Nat) : Int))) (by decide +kernel : decode (m_byt 88) 14 = .ok (.aload_n 0, 1)) rfl (Or.inl rfl) ?_
  refine g_iload_n (k := 2) (x := x2) (by decide +kernel : decode (m_byt 88) 15 = .ok (.iload_n 2, 1)) rfl ?_
  refine g_aload_n (k := 0) (v := (2, ((r0 : Nat) : Int))) (by decide +kernel : decode (m_byt 88) 16 = .ok (.aload_n 0, 1)) rfl (Or.inl rfl) ?_
  refine g_iload_n (k := 1) (x := x1) (by decide +kernel : decode (m_byt 88) 17 = .ok (.iload_n 1, 1)) rfl ?_
  refine g_aload_n (k := 0) (v := (2, ((r0 : Nat) : Int))) (by decide +kernel : decode (m_byt 88) 18 = .ok (.aload_n 0, 1)) rfl (Or.inl rfl) ?_
  refine g_getr (ci := 5) (f := 9) (by decide +kernel : decode (m_byt 88) 19 = .ok (.getfield 36, 3)) (by decide +kernel) (by decide +kernel) (by decide +kernel) h0 h1 ?_
  refine g_iload_n (k := 2) (x := x2) (by decide +kernel : decode (m_byt 88) 22 = .ok (.iload_n 2, 1)) rfl ?_
  exact g_inv (k := 1) (m' := 44) (np := 1) (as := [(2, ((q_rf K r0 9 : Nat) : Int)), (0, x2)]) (by decide +kernel : decode (m_byt 88) 23 = .ok (.invokevirtual 61, 3)) (Or.inl ⟨rfl, rfl⟩) (by decide +kernel) (by decide +kernel) (by decide +kernel) (Nat.le_of_ble_eq_true rfl) rfl (Or.inr (g_rcv (by decide +kernel) h2))
theorem b_88_26 {Z : mZ} {l1 : mV} {s0 s1 s3 x2 : Int} {s2 s4 r0 : Nat} {K : Nat → mK} {σ : Nat → Nat → Int} {n e s : Nat} (h0 : q_ob K n r0 5) (h1 : q_rp K r0 10) (h2 : q_ob K n (q_rf K r0 10) 3) : m_run Z (88, 26, [(2, ((r0 : Nat) : Int)), l1, (0, x2)], [(0, s0), (0, s1), (2, ((s2 : Nat) : Int)), (0, s3), (2, ((s4 : Nat) : Int))], (K, σ, n, e, s)) = (m_cl Z 44 [(2, ((q_rf K r0 10 : Nat) : Int)), (0, x2)] (K, σ, n, e, s)).bind (m_aft (m_run Z) 88 31 [(2, ((r0 : Nat) : Int)), l1, (0, x2)] [(0, s0), (0, s1), (2, ((s2 : Nat) : Int)), (0, s3), (2, ((s4 : Nat) : Int))]) := by
  refine g_aload_n (k := 0) (v := (2, ((r0 : Nat) : Int))) (by decide +kernel : decode (m_byt 88) 26 = .ok (.aload_n 0, 1)) rfl (Or.inl rfl) ?_
  refine g_getr (ci := 5) (f := 10) (by decide +kernel : decode (m_byt 88) 27 = .ok (.getfield 39, 3)) (by decide +kernel) (by decide +kernel) (by decide +kernel) h0 h1 ?_
  refine g_iload_n (k := 2) (x := x2) (by decide +kernel : decode (m_byt 88) 30 = .ok (.iload_n 2, 1)) rfl ?_
  exact g_inv (k := 1) (m' := 44) (np := 1) (as := [(2, ((q_rf K r0 10 : Nat) : Int)), (0, x2)]) (by decide +kernel : decode (m_byt 88) 31 = .ok (.invokevirtual 61, 3)) (Or.inl ⟨rfl, rfl⟩) (by decide +kernel) (by decide +kernel) (by decide +kernel) (Nat.le_of_ble_eq_true rfl) rfl (Or.inr (g_rcv (by decide +kernel) h2))
theorem b_88_34 {Z : mZ} {l1 : mV} {s0 s1 s2 s4 x2 : Int} {s3 s5 r0 : Nat} {K : Nat → mK} {σ : Nat → Nat → Int} {n e s : Nat} (h0 : q_ob K n r0 5) (h1 : q_rp K r0 11) (h2 : q_ob K n (q_rf K r0 11) 3) : m_run Z (88, 34, [(2, ((r0 : Nat) : Int)), l1, (0, x2)], [(0, s0), (0, s1), (0, s2), (2, ((s3 : Nat) : Int)), (0, s4), (2, ((s5 : Nat) : Int))], (K, σ, n, e, s)) = (m_cl Z 44 [(2, ((q_rf K r0 11 : Nat) : Int)), (0, x2)] (K, σ, n, e, s)).bind (m_aft (m_run Z) 88 39 [(2, ((r0 : Nat) : Int)), l1, (0, x2)] [(0, s0), (0, s1), (0, s2), (2, ((s3 : Nat) : Int)), (0, s4), (2, ((s5 : Nat) : Int))]) := by
  refine g_aload_n (k := 0) (v := (2, ((r0 : Nat) : Int))) (by decide +kernel : decode (m_byt 88) 34 = .ok (.aload_n 0, 1)) rfl (Or.inl rfl) ?_
  refine g_getr (ci := 5) (f := 11) (by decide +kernel : decode (m_byt 88) 35 = .ok (.getfield 42, 3)) (by decide +kernel) (by decide +kernel) (by decide +kernel) h0 h1 ?_
  refine g_iload_n (k := 2) (x := x2) (by decide +kernel : decode (m_byt 88) 38 = .ok (.iload_n 2, 1)) rfl ?_
  exact g_inv (k := 1) (m' := 44) (np := 1) (as := [(2, ((q_rf K r0 11 : Nat) : Int)), (0, x2)]) (by decide +kernel : decode (m_byt 88) 39 = .ok (.invokevirtual 61, 3)) (Or.inl ⟨rfl, rfl⟩) (by decide +kernel) (by decide +kernel) (by decide +kernel) (Nat.le_of_ble_eq_true rfl) rfl (Or.inr (g_rcv (by decide +kernel) h2))
theorem b_88_42 {Z : mZ} {l0 l1 l2 : mV} {s0 s1 s2 s3 s5 : Int} {s4 s6 : Nat} {K : Nat → mK} {σ : Nat → Nat → Int} {n e s : Nat} (h0 : q_ob K n s4 5) : m_run Z (88, 42, [l0, l1, l2], [(0, s0), (0, s1), (0, s2), (0, s3), (2, ((s4 : Nat) : Int)), (0, s5), (2, ((s6 : Nat) : Int))], (K, σ, n, e, s)) = (m_cl Z 81 [(2, ((s4 : Nat) : Int)), (0, s3), (0, s2), (0, s1), (0, s0)] (K, σ, n, e, s)).bind (m_aft (m_run Z) 88 42 [l0, l1, l2] [(0, s5), (2, ((s6 : Nat) : Int))]) := by
  exact g_inv (k := 1) (m' := 81) (np := 4) (as := [(2, ((s4 : Nat) : Int)), (0, s3), (0, s2), (0, s1), (0, s0)]) (by decide +kernel : decode (m_byt 88) 42 = .ok (.invokevirtual 173, 3)) (Or.inl ⟨rfl, rfl⟩) (by decide +kernel) (by decide +kernel) (by decide +kernel) (Nat.le_of_ble_eq_true rfl) rfl (Or.inr (g_rcv (by decide +kernel) h0))
theorem b_88_45 {Z : mZ} {l0 l1 l2 : mV} {s0 s1 : Int} {s2 : Nat} {K : Nat → mK} {σ : Nat → Nat → Int} {n e s : Nat} (h0 : q_ob K n s2 5) : m_run Z (88, 45, [l0, l1, l2], [(0, s0), (0, s1), (2, ((s2 : Nat) : Int))], (K, σ, n, e, s)) = (m_cl Z 91 [(2, ((s2 : Nat) : Int)), (0, s1), (0, s0)] (K, σ, n, e, s)).bind (m_aft (m_run Z) 88 45 [l0, l1, l2] []) := by
  exact g_inv (k := 1) (m' := 91) (np := 2) (as := [(2, ((s2 : Nat) : Int)), (0, s1), (0, s0)]) (by decide +kernel : decode (m_byt 88) 45 = .ok (.invokevirtual 176, 3)) (Or.inl ⟨rfl, rfl⟩) (by decide +kernel) (by decide +kernel) (by decide +kernel) (Nat.le_of_ble_eq_true rfl) rfl (Or.inr (g_rcv (by decide +kernel) h0))
theorem b_88_48 {Z : mZ} {l0 : mV} {x2 x1 : Int} {h : mH} : m_run Z (88, 48, [l0, (0, x1), (0, x2)], [], h) = m_run Z (88, 6, [l0, (0, x1), (0, x2 + 1)], [], h) := by
  refine g_iinc (k := 2) (x := x2) (by decide +kernel : decode (m_byt 88) 48 = .ok (.iinc 2 1, 3)) rfl (Nat.le_of_ble_eq_true rfl) ?_
  show m_run Z (88, 51, [l0, (0, x1), (0, x2 + 1)], [], h) = _
  refine g_jmp (t := 6) (by decide +kernel : decode (m_byt 88) 51 = .ok (.goto (-45), 3)) (by decide) ?_
  rfl
theorem b_88_54 {Z : mZ} {l0 l1 l2 : mV} {h : mH} : m_run Z (88, 54, [l0, l1, l2], [], h) = some (.inl (9, 0), h) := by
  exact g_vret (by decide +kernel : decode (m_byt 88) 54 = .ok (.return_, 1)) (by decide +kernel)
theorem e_89 {Z : mZ} {r0 : Nat} {h : mH} : m_cl Z 89 [(2, ((r0 : Nat) : Int))] h = m_run Z (89, 0, [(2, ((r0 : Nat) : Int)), (9, 0)], [], h) := g_ent (k := 2) (by decide) (by decide +kernel) (Nat.le_of_ble_eq_true rfl) (by decide +kernel) rfl
theorem b_89_0 {Z : mZ} {l1 : mV} {r0 : Nat} {K : Nat → mK} {σ : Nat → Nat → Int} {n e s : Nat} (h0 : q_ob K n r0 5) : m_run Z (89, 0, [(2, ((r0 : Nat) : Int)), l1], [], (K, σ, n, e, s)) = (m_cl Z 90 [(2, ((r0 : Nat) : Int))] (K, σ, n, e, s)).bind (m_aft (m_run Z) 89 1 [(2, ((r0 : Nat) : Int)), l1] []) := by
  refine g_aload_n (k := 0) (v := (2, ((r0 : Nat) : Int))) (by decide +kernel : decode (m_byt 89) 0 = .ok (.aload_n 0, 1)) rfl (Or.inl rfl) ?_
  exact g_inv (k := 1) (m' := 90) (np := 0) (as := [(2, ((r0 : Nat) : Int))]) (by decide +kernel : decode (m_byt 89) 1 = .ok (.invokevirtual 170, 3)) (Or.inl ⟨rfl, rfl⟩) (by decide +kernel) (by decide +kernel) (by decide +kernel) (Nat.le_of_ble_eq_true rfl) rfl (Or.inr (g_rcv (by decide +kernel) h0))
theorem b_89_4 {Z : mZ} {l1 : mV} {r0 : Nat} {h : mH} : m_run Z (89, 4, [(2, ((r0 : Nat) : Int)), l1], [], h) = m_run Z (89, 6, [(2, ((r0 : Nat) : Int)), (0, 0)], [], h) := by
  refine g_base (by decide +kernel : decode (m_byt 89) 4 = .ok (.iconst 0, 1)) rfl rfl ?_
  show m_run Z (89, 5, [(2, ((r0 : Nat) : Int)), l1], [(0, 0)], h) = _
  refine g_istore_n (k := 1) (by decide +kernel : decode (m_byt 89) 5 = .ok (.istore_n 1, 1)) (Nat.le_of_ble_eq_true rfl) ?_
  show m_run Z (89, 6, [(2, ((r0 : Nat) : Int)), (0, 0)], [], h) = _
  rfl
theorem b_89_6 {Z : mZ} {x1 : Int} {r0 : Nat} {K : Nat → mK} {σ : Nat → Nat → Int} {n e s : Nat} (h0 : q_ob K n r0 5) : m_run Z (89, 6, [(2, ((r0 : Nat) : Int)), (0, x1)], [], (K, σ, n, e, s)) = if w32 (σ r0 8) ≤ w32 x1 then m_run Z (89, 53, [(2, ((r0 : Nat) : Int)), (0, x1)], [], (K, σ, n, e, s)) else m_run Z (89, 14, [(2, ((r0 : Nat) : Int)), (0, x1)], [], (K, σ, n, e, s)) := by
  refine g_iload_n (k := 1) (x := x1) (by decide +kernel : decode (m_byt 89) 6 = .ok (.iload_n 1, 1)) rfl ?_
  refine g_aload_n (k := 0) (v := (2, ((r0 : Nat) : Int))) (by decide +kernel : decode (m_byt 89) 7 = .ok (.aload_n 0, 1)) rfl (Or.inl rfl) ?_
  refine g_getf (ci := 5) (f := 8) (by decide +kernel : decode (m_byt 89) 8 = .ok (.getfield 135, 3)) (by decide +kernel) (by decide +kernel) (by decide +kernel) h0 ?_
  exact g_brq (t := 53) (off := 42) (by decide +kernel : decode (m_byt 89) 11 = .ok (.if_icmp .ge 42, 3)) rfl rfl (by decide)
theorem b_89_14 {Z : mZ} {x1 : Int} {r0 : Nat} {K : Nat → mK} {σ : Nat → Nat → Int} {n e s : Nat} (h0 : q_ob K n r0 5) (h1 : q_rp K r0 9) (h2 : q_ob K n (q_rf K r0 9) 3) : m_run Z (89, 14, [(2, ((r0 : Nat) : Int)), (0, x1)], [], (K, σ, n, e, s)) = (m_cl Z 44 [(2, ((q_rf K r0 9 : Nat) : Int)), (0, x1)] (K, σ, n, e, s)).bind (m_aft (m_run Z) 89 22 [(2, ((r0 : Nat) : Int)), (0, x1)] [(2, ((r0 : Nat) : Int)), (0, x1), (2, ((r0 : Nat) : Int))]) := by
  refine g_aload_n (k := 0) (v := (2, ((r0 : Nat) : Int))) (by decide +kernel : decode (m_byt 89) 14 = .ok (.aload_n 0, 1)) rfl (Or.inl rfl) ?_
  refine g_iload_n (k := 1) (x := x1) (by decide +kernel : decode (m_byt 89) 15 = .ok (.iload_n 1, 1)) rfl ?_
  refine g_aload_n (k := 0) (v := (2, ((r0 : Nat) : Int))) (by decide +kernel : decode (m_byt 89) 16 = .ok (.aload_n 0, 1)) rfl (Or.inl rfl) ?_
  refine g_aload_n (k := 0) (v := (2, ((r0 : Nat) : Int))) (by decide +kernel : decode (m_byt 89) 17 = .ok (.aload_n 0, 1)) rfl (Or.inl rfl) ?_
  refine g_getr (ci := 5) (f := 9) (by decide +kernel : decode (m_byt 89) 18 = .ok (.getfield 36, 3)) (by decide +kernel) (by decide +kernel) (by decide +kernel) h0 h1 ?_
  refine g_iload_n (k := 1) (x := x1) (by decide +kernel : decode (m_byt 89) 21 = .ok (.iload_n 1, 1)) rfl ?_
  exact g_inv (k := 1) (m' := 44) (np := 1) (as := [(2, ((q_rf K r0 9 : Nat) : Int)), (0, x1)]) (by decide +kernel : decode (m_byt 89) 22 = .ok (.invokevirtual 61, 3)) (Or.inl ⟨rfl, rfl⟩) (by decide +kernel) (by decide +kernel) (by decide +kernel) (Nat.le_of_ble_eq_true rfl) rfl (Or.inr (g_rcv (by decide +kernel) h2))
theorem b_89_25 {Z : mZ} {s0 s2 x1 : Int} {s1 s3 r0 : Nat} {K : Nat → mK} {σ : Nat → Nat → Int} {n e s : Nat} (h0 : q_ob K n r0 5) (h1 : q_rp K r0 10) (h2 : q_ob K n (q_rf K r0 10) 3) : m_run Z (89, 25, [(2, ((r0 : Nat) : Int)), (0, x1)], [(0, s0), (2, ((s1 : Nat) : Int)), (0, s2), (2, ((s3 : Nat) : Int))], (K, σ, n, e, s)) = (m_cl Z 44 [(2, ((q_rf K r0 10 : Nat) : Int)), (0, x1)] (K, σ, n, e, s)).bind (m_aft (m_run Z) 89 30 [(2, ((r0 : Nat) : Int)), (0, x1)] [(0, s0), (2, ((s1 : Nat) : Int)), (0, s2), (2, ((s3 : Nat) : Int))]) := by
  refine g_aload_n (k := 0) (v := (2, ((r0 : Nat) : Int))) (by decide +kernel : decode (m_byt 89) 25 = .ok (.aload_n 0, 1)) rfl (Or.inl rfl) ?_
  refine g_getr (ci := 5) (f := 10) (by decide +kernel : decode (m_byt 89) 26 = .ok (.getfield 39, 3)) (by decide +kernel) (by decide +kernel) (by decide +kernel) h0 h1 ?_
  refine g_iload_n (k := 1) (x := x1) (by decide +kernel : decode (m_byt 89) 29 = .ok (.iload_n 1, 1)) rfl ?_
  exact g_inv (k := 1) (m' := 44) (np := 1) (as := [(2, ((q_rf K r0 10 : Nat) : Int)), (0, x1)]) (by decide +kernel : decode (m_byt 89) 30 = .ok (.invokevirtual 61, 3)) (Or.inl ⟨rfl, rfl⟩) (by decide +kernel) (by decide +kernel) (by decide +kernel) (Nat.le_of_ble_eq_true rfl) rfl (Or.inr (g_rcv (by decide +kernel) h2))
theorem b_89_33 {Z : mZ} {s0 s1 s3 x1 : Int} {s2 s4 r0 : Nat} {K : Nat → mK} {σ : Nat → Nat → Int} {n e s : Nat} (h0 : q_ob K n r0 5) (h1 : q_rp K r0 11) (h2 : q_ob K n (q_rf K r0 11) 3) : m_run Z (89, 33, [(2, ((r0 : Nat) : Int)), (0, x1)], [(0, s0), (0, s1), (2, ((s2 : Nat) : Int)), (0, s3), (2, ((s4 : Nat) : Int))], (K, σ, n, e, s)) = (m_cl Z 44 [(2, ((q_rf K r0 11 : Nat) : Int)), (0, x1)] (K, σ, n, e, s)).bind (m_aft (m_run Z) 89 38 [(2, ((r0 : Nat) : Int)), (0, x1)] [(0, s0), (0, s1), (2, ((s2 : Nat) : Int)), (0, s3), (2, ((s4 : Nat) : Int))]) := by
  refine g_aload_n (k := 0) (v := (2, ((r0 : Nat) : Int))) (by decide +kernel : decode (m_byt 89) 33 = .ok (.aload_n 0, 1)) rfl (Or.inl rfl) ?_
  refine g_getr (ci := 5) (f := 11) (by decide +kernel : decode (m_byt 89) 34 = .ok (.getfield 42, 3)) (by decide +kernel) (by decide +kernel) (by decide +kernel) h0 h1 ?_
  refine g_iload_n (k := 1) (x := x1) (by decide +kernel : decode (m_byt 89) 37 = .ok (.iload_n 1, 1)) rfl ?_
  exact g_inv (k := 1) (m' := 44) (np := 1) (as := [(2, ((q_rf K r0 11 : Nat) : Int)), (0, x1)]) (by decide +kernel : decode (m_byt 89) 38 = .ok (.invokevirtual 61, 3)) (Or.inl ⟨rfl, rfl⟩) (by decide +kernel) (by decide +kernel) (by decide +kernel) (Nat.le_of_ble_eq_true rfl) rfl (Or.inr (g_rcv (by decide +kernel) h2))
theorem b_89_41 {Z : mZ} {l0 l1 : mV} {s0 s1 s2 s4 : Int} {s3 s5 : Nat} {K : Nat → mK} {σ : Nat → Nat → Int} {n e s : Nat} (h0 : q_ob K n s3 5) : m_run Z (89, 41, [l0, l1], [(0, s0), (0, s1), (0, s2), (2, ((s3 : Nat) : Int)), (0, s4), (2, ((s5 : Nat) : Int))], (K, σ, n, e, s)) = (m_cl Z 82 [(2, ((s3 : Nat) : Int)), (0, s2), (0, s1), (0, s0)] (K, σ, n, e, s)).bind (m_aft (m_run Z) 89 41 [l0, l1] [(0, s4), (2, ((s5 : Nat) : Int))]) := by
  exact g_inv (k := 1) (m' := 82) (np := 3) (as := [(2, ((s3 : Nat) : Int)), (0, s2), (0, s1), (0, s0)]) (by decide +kernel : decode (m_byt 89) 41 = .ok (.invokevirtual 179, 3)) (Or.inl ⟨rfl, rfl⟩) (by decide +kernel) (by decide +kernel) (by decide +kernel) (Nat.le_of_ble_eq_true rfl) rfl (Or.inr (g_rcv (by decide +kernel) h0))
theorem b_89_44 {Z : mZ} {l0 l1 : mV} {s0 s1 : Int} {s2 : Nat} {K : Nat → mK} {σ : Nat → Nat → Int} {n e s : Nat} (h0 : q_ob K n s2 5) : m_run Z (89, 44, [l0, l1], [(0, s0), (0, s1), (2, ((s2 : Nat) : Int))], (K, σ, n, e, s)) = (m_cl Z 91 [(2, ((s2 : Nat) : Int)), (0, s1), (0, s0)] (K, σ, n, e, s)).bind (m_aft (m_run Z) 89 44 [l0, l1] []) := by
  exact g_inv (k := 1) (m' := 91) (np := 2) (as := [(2, ((s2 : Nat) : Int)), (0, s1), (0, s0)]) (by decide +kernel : decode (m_byt 89) 44 = .ok (.invokevirtual 176, 3)) (Or.inl ⟨rfl, rfl⟩) (by decide +kernel) (by decide +kernel) (by decide +kernel) (Nat.le_of_ble_eq_true rfl) rfl (Or.inr (g_rcv (by decide +kernel) h0))
theorem b_89_47 {Z : mZ} {x1 : Int} {r0 : Nat} {h : mH} : m_run Z (89, 47, [(2, ((r0 : Nat) : Int)), (0, x1)], [], h) = m_run Z (89, 6, [(2, ((r0 : Nat) : Int)), (0, x1 + 1)], [], h) := by
  refine g_iinc (k := 1) (x := x1) (by decide +kernel : decode (m_byt 89) 47 = .ok (.iinc 1 1, 3)) rfl (Nat.le_of_ble_eq_true rfl) ?_
  show m_run Z (89, 50, [(2, ((r0 : Nat) : Int)), (0, x1 + 1)], [], h) = _
  refine g_jmp (t := 6) (by decide +kernel : decode (m_byt 89) 50 = .ok (.goto (-44), 3)) (by decide) ?_
  rfl
theorem b_89_53 {Z : mZ} {l0 l1 : mV} {h : mH} : m_run Z (89, 53, [l0, l1], [], h) = some (.inl (9, 0), h) := by
  exact g_vret (by decide +kernel : decode (m_byt 89) 53 = .ok (.return_, 1)) (by decide +kernel)
theorem e_90 {Z : mZ} {r0 : Nat} {h : mH} : m_cl Z 90 [(2, ((r0 : Nat) : Int))] h = m_run Z (90, 0, [(2, ((r0 : Nat) : Int))], [], h) := g_ent (k := 1) (by decide) (by decide +kernel) (Nat.le_of_ble_eq_true rfl) (by decide +kernel) rfl
theorem b_90_0 {Z : mZ} {r0 : Nat} {K : Nat → mK} {σ : Nat → Nat → Int} {n e s : Nat} (h0 : q_ob K n r0 5) (h1 : w32 0 = 0 ∨ w32 0 = 1) : m_run Z (90, 0, [(2, ((r0 : Nat) : Int))], [], (K, σ, n, e, s)) = some (.inl (9, 0), (K, (m_up2 (m_up2 (m_up2 (m_up2 (m_up2 σ r0 12 0) r0 13 0) r0 14 0) r0 15 1) r0 16 0), n, e, s)) := by
  refine g_aload_n (k := 0) (v := (2, ((r0 : Nat) : Int))) (by decide +kernel : decode (m_byt 90) 0 = .ok (.aload_n 0, 1)) rfl (Or.inl rfl) ?_
  refine g_base (by decide +kernel : decode (m_byt 90) 1 = .ok (.iconst 0, 1)) rfl rfl ?_
  show m_run Z (90, 2, [(2, ((r0 : Nat) : Int))], [(0, 0), (2, ((r0 : Nat) : Int))], (K, σ, n, e, s)) = _
  refine g_putz (ci := 5) (f := 12) (by decide +kernel : decode (m_byt 90) 2 = .ok (.putfield 183, 3)) (by decide +kernel) (by decide +kernel) (by decide +kernel) h0 h1 ?_
  show m_run Z (90, 5, [(2, ((r0 : Nat) : Int))], [], (K, (m_up2 σ r0 12 0), n, e, s)) = _
  refine g_aload_n (k := 0) (v := (2, ((r0 : Nat) : Int))) (by decide +kernel : decode (m_byt 90) 5 = .ok (.aload_n 0, 1)) rfl (Or.inl rfl) ?_
  refine g_base (by decide +kernel : decode (m_byt 90) 6 = .ok (.iconst 0, 1)) rfl rfl ?_
  show m_run Z (90, 7, [(2, ((r0 : Nat) : Int))], [(0, 0), (2, ((r0 : Nat) : Int))], (K, (m_up2 σ r0 12 0), n, e, s)) = _
  refine g_putf (ci := 5) (f := 13) (by decide +kernel : decode (m_byt 90) 7 = .ok (.putfield 186, 3)) (by decide +kernel) (by decide +kernel) (by decide +kernel) h0 ?_
  show m_run Z (90, 10, [(2, ((r0 : Nat) : Int))], [], (K, (m_up2 (m_up2 σ r0 12 0) r0 13 0), n, e, s)) = _
  refine g_aload_n (k := 0) (v := (2, ((r0 : Nat) : Int))) (by decide +kernel : decode (m_byt 90) 10 = .ok (.aload_n 0, 1)) rfl (Or.inl rfl) ?_
  refine g_base (by decide +kernel : decode (m_byt 90) 11 = .ok (.iconst 0, 1)) rfl rfl ?_
  show m_run Z (90, 12, [(2, ((r0 : Nat) : Int))], [(0, 0), (2, ((r0 : Nat) : Int))], (K, (m_up2 (m_up2 σ r0 12 0) r0 13 0), n, e, s)) = _
  refine g_putf (ci := 5) (f := 14) (by decide +kernel : decode (m_byt 90) 12 = .ok (.putfield 189, 3)) (by decide +kernel) (by decide +kernel) (by decide +kernel) h0 ?_
  show m_run Z (90, 15, [(2, ((r0 : Nat) : Int))], [], (K, (m_up2 (m_up2 (m_up2 σ r0 12 0) r0 13 0) r0 14 0), n, e, s)) = _
  refine g_aload_n (k := 0) (v := (2, ((r0 : Nat) : Int))) (by decide +kernel : decode (m_byt 90) 15 = .ok (.aload_n 0, 1)) rfl (Or.inl rfl) ?_
  refine g_base (by decide +kernel : decode (m_byt 90) 16 = .ok (.iconst 1, 1)) rfl rfl ?_
  show m_run Z (90, 17, [(2, ((r0 : Nat) : Int))], [(0, 1), (2, ((r0 : Nat) : Int))], (K, (m_up2 (m_up2 (m_up2 σ r0 12 0) r0 13 0) r0 14 0), n, e, s)) = _
  refine g_putf (ci := 5) (f := 15) (by decide +kernel : decode (m_byt 90) 17 = .ok (.putfield 192, 3)) (by decide +kernel) (by decide +kernel) (by decide +kernel) h0 ?_
  show m_run Z (90, 20, [(2, ((r0 : Nat) : Int))], [], (K, (m_up2 (m_up2 (m_up2 (m_up2 σ r0 12 0) r0 13 0) r0 14 0) r0 15 1), n, e, s)) = _
  refine g_aload_n (k := 0) (v := (2, ((r0 : Nat) : Int))) (by decide +kernel : decode (m_byt 90) 20 = .ok (.aload_n 0, 1)) rfl (Or.inl rfl) ?_
  refine g_base (by decide +kernel : decode (m_byt 90) 21 = .ok (.iconst 0, 1)) rfl rfl ?_
  show m_run Z (90, 22, [(2, ((r0 : Nat) : Int))], [(0, 0), (2, ((r0 : Nat) : Int))], (K, (m_up2 (m_up2 (m_up2 (m_up2 σ r0 12 0) r0 13 0) r0 14 0) r0 15 1), n, e, s)) = _
  refine g_putf (ci := 5) (f := 16) (by decide +kernel : decode (m_byt 90) 22 = .ok (.putfield 195, 3)) (by decide +kernel) (by decide +kernel) (by decide +kernel) h0 ?_
  show m_run Z (90, 25, [(2, ((r0 : Nat) : Int))], [], (K, (m_up2 (m_up2 (m_up2 (m_up2 (m_up2 σ r0 12 0) r0 13 0) r0 14 0) r0 15 1) r0 16 0), n, e, s)) = _
  exact g_vret (by decide +kernel : decode (m_byt 90) 25 = .ok (.return_, 1)) (by decide +kernel)
theorem e_91 {Z : mZ} {r0 : Nat} {x1 : Int} {x2 : Int} {h : mH} : m_cl Z 91 [(2, ((r0 : Nat) : Int)), (0, x1), (0, x2)] h = m_run Z (91, 0, [(2, ((r0 : Nat) : Int)), (0, x1), (0, x2), (9, 0), (9, 0), (9, 0)], [], h) := g_ent (k := 6) (by decide) (by decide +kernel) (Nat.le_of_ble_eq_true rfl) (by decide +kernel) rfl
theorem b_91_0 {Z : mZ} {l2 l3 l4 l5 : mV} {x1 : Int} {r0 : Nat} {K : Nat → mK} {σ : Nat → Nat → Int} {n e s : Nat} (h0 : q_ob K n r0 5) (h1 : q_rp K r0 11) (h2 : q_ob K n (q_rf K r0 11) 3) : m_run Z (91, 0, [(2, ((r0 : Nat) : Int)), (0, x1), l2, l3, l4, l5], [], (K, σ, n, e, s)) = (m_cl Z 44 [(2, ((q_rf K r0 11 : Nat) : Int)), (0, x1)] (K, σ, n, e, s)).bind (m_aft (m_run Z) 91 5 [(2, ((r0 : Nat) : Int)), (0, x1), l2, l3, l4, l5] []) := by
  refine g_aload_n (k := 0) (v := (2, ((r0 : Nat) : Int))) (by decide +kernel : decode (m_byt 91) 0 = .ok (.aload_n 0, 1)) rfl (Or.inl rfl) ?_
  refine g_getr (ci := 5) (f := 11) (by decide +kernel : decode (m_byt 91) 1 = .ok (.getfield 42, 3)) (by decide +kernel) (by decide +kernel) (by decide +kernel) h0 h1 ?_
  refine g_iload_n (k := 1) (x := x1) (by decide +kernel : decode (m_byt 91) 4 = .ok (.iload_n 1, 1)) rfl ?_
  exact g_inv (k := 1) (m' := 44) (np := 1) (as := [(2, ((q_rf K r0 11 : Nat) : Int)), (0, x1)]) (by decide +kernel : decode (m_byt 91) 5 = .ok (.invokevirtual 61, 3)) (Or.inl ⟨rfl, rfl⟩) (by decide +kernel) (by decide +kernel) (by decide +kernel) (Nat.le_of_ble_eq_true rfl) rfl (Or.inr (g_rcv (by decide +kernel) h2))
theorem b_91_8 {Z : mZ} {l1 l3 l4 l5 : mV} {s0 x2 : Int} {r0 : Nat} {K : Nat → mK} {σ : Nat → Nat → Int} {n e s : Nat} (h0 : q_ob K n r0 5) : m_run Z (91, 8, [(2, ((r0 : Nat) : Int)), l1, (0, x2), l3, l4, l5], [(0, s0)], (K, σ, n, e, s)) = if w32 (σ r0 12) = 0 then m_run Z (91, 57, [(2, ((r0 : Nat) : Int)), l1, (0, x2), (0, s0), (1, (((w32 x2) * (w32 (σ r0 15))) - ((w32 (σ r0 16)) * (w32 s0)))), (9, 0)], [], (K, σ, n, e, s)) else m_run Z (91, 35, [(2, ((r0 : Nat) : Int)), l1, (0, x2), (0, s0), (1, (((w32 x2) * (w32 (σ r0 15))) - ((w32 (σ r0 16)) * (w32 s0)))), (9, 0)], [], (K, σ, n, e, s)) := by
  refine g_istore_n (k := 3) (by decide +kernel : decode (m_byt 91) 8 = .ok (.istore_n 3, 1)) (Nat.le_of_ble_eq_true rfl) ?_
  show m_run Z (91, 9, [(2, ((r0 : Nat) : Int)), l1, (0, x2), (0, s0), l4, l5], [], (K, σ, n, e, s)) = _
  refine g_iload_n (k := 2) (x := x2) (by decide +kernel : decode (m_byt 91) 9 = .ok (.iload_n 2, 1)) rfl ?_
  refine g_base (by decide +kernel : decode (m_byt 91) 10 = .ok (.i2l, 1)) rfl rfl ?_
  show m_run Z (91, 11, [(2, ((r0 : Nat) : Int)), l1, (0, x2), (0, s0), l4, l5], [(1, (w32 x2))], (K, σ, n, e, s)) = _
  refine g_aload_n (k := 0) (v := (2, ((r0 : Nat) : Int))) (by decide +kernel : decode (m_byt 91) 11 = .ok (.aload_n 0, 1)) rfl (Or.inl rfl) ?_
  refine g_getf (ci := 5) (f := 15) (by decide +kernel : decode (m_byt 91) 12 = .ok (.getfield 192, 3)) (by decide +kernel) (by decide +kernel) (by decide +kernel) h0 ?_
  refine g_base (by decide +kernel : decode (m_byt 91) 15 = .ok (.i2l, 1)) rfl rfl ?_
  show m_run Z (91, 16, [(2, ((r0 : Nat) : Int)), l1, (0, x2), (0, s0), l4, l5], [(1, (w32 (σ r0 15))), (1, (w32 x2))], (K, σ, n, e, s)) = _
  refine g_base (by decide +kernel : decode (m_byt 91) 16 = .ok (.lmul, 1)) rfl rfl ?_
  show m_run Z (91, 17, [(2, ((r0 : Nat) : Int)), l1, (0, x2), (0, s0), l4, l5], [(1, ((w32 x2) * (w32 (σ r0 15))))], (K, σ, n, e, s)) = _
  refine g_aload_n (k := 0) (v := (2, ((r0 : Nat) : Int))) (by decide +kernel : decode (m_byt 91) 17 = .ok (.aload_n 0, 1)) rfl (Or.inl rfl) ?_
  refine g_getf (ci := 5) (f := 16) (by decide +kernel : decode (m_byt 91) 18 = .ok (.getfield 195, 3)) (by decide +kernel) (by decide +kernel) (by decide +kernel) h0 ?_
  refine g_base (by decide +kernel : decode (m_byt 91) 21 = .ok (.i2l, 1)) rfl rfl ?_
  show m_run Z (91, 22, [(2, ((r0 : Nat) : Int)), l1, (0, x2), (0, s0), l4, l5], [(1, (w32 (σ r0 16))), (1, ((w32 x2) * (w32 (σ r0 15))))], (K, σ, n, e, s)) = _
  refine g_iload_n (k := 3) (x := s0) (by decide +kernel : decode (m_byt 91) 22 = .ok (.iload_n 3, 1)) rfl ?_
  refine g_base (by decide +kernel : decode (m_byt 91) 23 = .ok (.i2l, 1)) rfl rfl ?_
  show m_run Z (91, 24, [(2, ((r0 : Nat) : Int)), l1, (0, x2), (0, s0), l4, l5], [(1, (w32 s0)), (1, (w32 (σ r0 16))), (1, ((w32 x2) * (w32 (σ r0 15))))], (K, σ, n, e, s)) = _
  refine g_base (by decide +kernel : decode (m_byt 91) 24 = .ok (.lmul, 1)) rfl rfl ?_
  show m_run Z (91, 25, [(2, ((r0 : Nat) : Int)), l1, (0, x2), (0, s0), l4, l5], [(1, ((w32 (σ r0 16)) * (w32 s0))), (1, ((w32 x2) * (w32 (σ r0 15))))], (K, σ, n, e, s)) = _
  refine g_base (by decide +kernel : decode (m_byt 91) 25 = .ok (.lsub, 1)) rfl rfl ?_
  show m_run Z (91, 26, [(2, ((r0 : Nat) : Int)), l1, (0, x2), (0, s0), l4, l5], [(1, (((w32 x2) * (w32 (σ r0 15))) - ((w32 (σ r0 16)) * (w32 s0))))], (K, σ, n, e, s)) = _
  refine g_lstore (k := 4) (by decide +kernel : decode (m_byt 91) 26 = .ok (.lstore 4, 2)) (Nat.le_of_ble_eq_true rfl) ?_
  show m_run Z (91, 28, [(2, ((r0 : Nat) : Int)), l1, (0, x2), (0, s0), (1, (((w32 x2) * (w32 (σ r0 15))) - ((w32 (σ r0 16)) * (w32 s0)))), (9, 0)], [], (K, σ, n, e, s)) = _
  refine g_aload_n (k := 0) (v := (2, ((r0 : Nat) : Int))) (by decide +kernel : decode (m_byt 91) 28 = .ok (.aload_n 0, 1)) rfl (Or.inl rfl) ?_
  refine g_getf (ci := 5) (f := 12) (by decide +kernel : decode (m_byt 91) 29 = .ok (.getfield 183, 3)) (by decide +kernel) (by decide +kernel) (by decide +kernel) h0 ?_
  exact g_brq (t := 57) (off := 25) (by decide +kernel : decode (m_byt 91) 32 = .ok (.ifCond .eq 25, 3)) rfl rfl (by decide)
theorem b_91_35 {Z : mZ} {l0 l1 l2 l3 l5 : mV} {x4 : Int} {h : mH} : m_run Z (91, 35, [l0, l1, l2, l3, (1, x4), l5], [], h) = if w32 (l_cmp x4 0) < 0 then m_run Z (91, 57, [l0, l1, l2, l3, (1, x4), l5], [], h) else m_run Z (91, 42, [l0, l1, l2, l3, (1, x4), l5], [], h) := by
  refine g_lload (k := 4) (x := x4) (by decide +kernel : decode (m_byt 91) 35 = .ok (.lload 4, 2)) rfl ?_
  refine g_base (by decide +kernel : decode (m_byt 91) 37 = .ok (.lconst 0, 1)) rfl rfl ?_
  show m_run Z (91, 38, [l0, l1, l2, l3, (1, x4), l5], [(1, 0), (1, x4)], h) = _
  refine g_base (by decide +kernel : decode (m_byt 91) 38 = .ok (.lcmp, 1)) rfl rfl ?_
  show m_run Z (91, 39, [l0, l1, l2, l3, (1, x4), l5], [(0, (l_cmp x4 0))], h) = _
  exact g_brq (t := 57) (off := 18) (by decide +kernel : decode (m_byt 91) 39 = .ok (.ifCond .lt 18, 3)) rfl rfl (by decide)
theorem b_91_42 {Z : mZ} {l0 l1 l2 l3 l5 : mV} {x4 : Int} {h : mH} : m_run Z (91, 42, [l0, l1, l2, l3, (1, x4), l5], [], h) = if w32 (l_cmp x4 0) = 0 then m_run Z (91, 49, [l0, l1, l2, l3, (1, x4), l5], [], h) else m_run Z (91, 96, [l0, l1, l2, l3, (1, x4), l5], [], h) := by
  refine g_lload (k := 4) (x := x4) (by decide +kernel : decode (m_byt 91) 42 = .ok (.lload 4, 2)) rfl ?_
  refine g_base (by decide +kernel : decode (m_byt 91) 44 = .ok (.lconst 0, 1)) rfl rfl ?_
  show m_run Z (91, 45, [l0, l1, l2, l3, (1, x4), l5], [(1, 0), (1, x4)], h) = _
  refine g_base (by decide +kernel : decode (m_byt 91) 45 = .ok (.lcmp, 1)) rfl rfl ?_
  show m_run Z (91, 46, [l0, l1, l2, l3, (1, x4), l5], [(0, (l_cmp x4 0))], h) = _
  exact g_brn (t := 96) (off := 50) (by decide +kernel : decode (m_byt 91) 46 = .ok (.ifCond .ne 50, 3)) rfl rfl (by decide)
theorem b_91_49 {Z : mZ} {l2 l3 l4 l5 : mV} {x1 : Int} {r0 : Nat} {K : Nat → mK} {σ : Nat → Nat → Int} {n e s : Nat} (h0 : q_ob K n r0 5) : m_run Z (91, 49, [(2, ((r0 : Nat) : Int)), (0, x1), l2, l3, l4, l5], [], (K, σ, n, e, s)) = (m_cl Z 92 [(2, ((r0 : Nat) : Int)), (0, x1)] (K, σ, n, e, s)).bind (m_aft (m_run Z) 91 51 [(2, ((r0 : Nat) : Int)), (0, x1), l2, l3, l4, l5] []) := by
  refine g_aload_n (k := 0) (v := (2, ((r0 : Nat) : Int))) (by decide +kernel : decode (m_byt 91) 49 = .ok (.aload_n 0, 1)) rfl (Or.inl rfl) ?_
  refine g_iload_n (k := 1) (x := x1) (by decide +kernel : decode (m_byt 91) 50 = .ok (.iload_n 1, 1)) rfl ?_
  exact g_inv (k := 1) (m' := 92) (np := 1) (as := [(2, ((r0 : Nat) : Int)), (0, x1)]) (by decide +kernel : decode (m_byt 91) 51 = .ok (.invokevirtual 198, 3)) (Or.inl ⟨rfl, rfl⟩) (by decide +kernel) (by decide +kernel) (by decide +kernel) (Nat.le_of_ble_eq_true rfl) rfl (Or.inr (g_rcv (by decide +kernel) h0))
theorem b_91_54 {Z : mZ} {l0 l1 l2 l3 l4 l5 : mV} {s0 : Int} {h : mH} : m_run Z (91, 54, [l0, l1, l2, l3, l4, l5], [(0, s0)], h) = if w32 s0 = 0 then m_run Z (91, 96, [l0, l1, l2, l3, l4, l5], [], h) else m_run Z (91, 57, [l0, l1, l2, l3, l4, l5], [], h) := by
  exact g_brq (t := 96) (off := 42) (by decide +kernel : decode (m_byt 91) 54 = .ok (.ifCond .eq 42, 3)) rfl rfl (by decide)
theorem b_91_57 {Z : mZ} {l2 l3 l4 l5 : mV} {x1 : Int} {r0 : Nat} {K : Nat → mK} {σ : Nat → Nat → Int} {n e s : Nat} (h0 : q_ob K n r0 5) (h1 : w32 1 = 0 ∨ w32 1 = 1) (h2 : q_rp K r0 9) (h3 : q_ob K n (q_rf K r0 9) 3) : m_run Z (91, 57, [(2, ((r0 : Nat) : Int)), (0, x1), l2, l3, l4, l5], [], (K, σ, n, e, s)) = (m_cl Z 44 [(2, ((q_rf K r0 9 : Nat) : Int)), (0, x1)] (K, (m_up2 σ r0 12 1), n, e, s)).bind (m_aft (m_run Z) 91 68 [(2, ((r0 : Nat) : Int)), (0, x1), l2, l3, l4, l5] [(2, ((r0 : Nat) : Int))]) := by
  refine g_aload_n (k := 0) (v := (2, ((r0 : Nat) : Int))) (by decide +kernel : decode (m_byt 91) 57 = .ok (.aload_n 0, 1)) rfl (Or.inl rfl) ?_
  refine g_base (by decide +kernel : decode (m_byt 91) 58 = .ok (.iconst 1, 1)) rfl rfl ?_
  show m_run Z (91, 59, [(2, ((r0 : Nat) : Int)), (0, x1), l2, l3, l4, l5], [(0, 1), (2, ((r0 : Nat) : Int))], (K, σ, n, e, s)) = _
  refine g_putz (ci := 5) (f := 12) (by decide +kernel : decode (m_byt 91) 59 = .ok (.putfield 183, 3)) (by decide +kernel) (by decide +kernel) (by decide +kernel) h0 h1 ?_
  show m_run Z (91, 62, [(2, ((r0 : Nat) : Int)), (0, x1), l2, l3, l4, l5], [], (K, (m_up2 σ r0 12 1), n, e, s)) = _
  refine g_aload_n (k := 0) (v := (2, ((r0 : Nat) : Int))) (by decide +kernel : decode (m_byt 91) 62 = .ok (.aload_n 0, 1)) rfl (Or.inl rfl) ?_
  refine g_aload_n (k := 0) (v := (2, ((r0 : Nat) : Int))) (by decide +kernel : decode (m_byt 91) 63 = .ok (.aload_n 0, 1)) rfl (Or.inl rfl) ?_
  refine g_getr (ci := 5) (f := 9) (by decide +kernel : decode (m_byt 91) 64 = .ok (.getfield 36, 3)) (by decide +kernel) (by decide +kernel) (by decide +kernel) h0 h2 ?_
  refine g_iload_n (k := 1) (x := x1) (by decide +kernel : decode (m_byt 91) 67 = .ok (.iload_n 1, 1)) rfl ?_
  exact g_inv (k := 1) (m' := 44) (np := 1) (as := [(2, ((q_rf K r0 9 : Nat) : Int)), (0, x1)]) (by decide +kernel : decode (m_byt 91) 68 = .ok (.invokevirtual 61, 3)) (Or.inl ⟨rfl, rfl⟩) (by decide +kernel) (by decide +kernel) (by decide +kernel) (Nat.le_of_ble_eq_true rfl) rfl (Or.inr (g_rcv (by decide +kernel) h3))
theorem b_91_71 {Z : mZ} {l2 l3 l4 l5 : mV} {s0 x1 : Int} {s1 r0 : Nat} {K : Nat → mK} {σ : Nat → Nat → Int} {n e s : Nat} (h0 : q_ob K n s1 5) (h1 : q_ob K n r0 5) (h2 : q_rp K r0 10) (h3 : q_ob K n (q_rf K r0 10) 3) : m_run Z (91, 71, [(2, ((r0 : Nat) : Int)), (0, x1), l2, l3, l4, l5], [(0, s0), (2, ((s1 : Nat) : Int))], (K, σ, n, e, s)) = (m_cl Z 44 [(2, ((q_rf K r0 10 : Nat) : Int)), (0, x1)] (K, (m_up2 σ s1 13 s0), n, e, s)).bind (m_aft (m_run Z) 91 80 [(2, ((r0 : Nat) : Int)), (0, x1), l2, l3, l4, l5] [(2, ((r0 : Nat) : Int))]) := by
  refine g_putf (ci := 5) (f := 13) (by decide +kernel : decode (m_byt 91) 71 = .ok (.putfield 186, 3)) (by decide +kernel) (by decide +kernel) (by decide +kernel) h0 ?_
  show m_run Z (91, 74, [(2, ((r0 : Nat) : Int)), (0, x1), l2, l3, l4, l5], [], (K, (m_up2 σ s1 13 s0), n, e, s)) = _
  refine g_aload_n (k := 0) (v := (2, ((r0 : Nat) : Int))) (by decide +kernel : decode (m_byt 91) 74 = .ok (.aload_n 0, 1)) rfl (Or.inl rfl) ?_
  refine g_aload_n (k := 0) (v := (2, ((r0 : Nat) : Int))) (by decide +kernel : decode (m_byt 91) 75 = .ok (.aload_n 0, 1)) rfl (Or.inl rfl) ?_
  refine g_getr (ci := 5) (f := 10) (by decide +kernel : decode (m_byt 91) 76 = .ok (.getfield 39, 3)) (by decide +kernel) (by decide +kernel) (by decide +kernel) h1 h2 ?_
  refine g_iload_n (k := 1) (x := x1) (by decide +kernel : decode (m_byt 91) 79 = .ok (.iload_n 1, 1)) rfl ?_
  exact g_inv (k := 1) (m' := 44) (np := 1) (as := [(2, ((q_rf K r0 10 : Nat) : Int)), (0, x1)]) (by decide +kernel : decode (m_byt 91) 80 = .ok (.invokevirtual 61, 3)) (Or.inl ⟨rfl, rfl⟩) (by decide +kernel) (by decide +kernel) (by decide +kernel) (Nat.le_of_ble_eq_true rfl) rfl (Or.inr (g_rcv (by decide +kernel) h3))
theorem b_91_83 {Z : mZ} {l1 l4 l5 : mV} {s0 x3 x2 : Int} {s1 r0 : Nat} {K : Nat → mK} {σ : Nat → Nat → Int} {n e s : Nat} (h0 : q_ob K n s1 5) (h1 : q_ob K n r0 5) : m_run Z (91, 83, [(2, ((r0 : Nat) : Int)), l1, (0, x2), (0, x3), l4, l5], [(0, s0), (2, ((s1 : Nat) : Int))], (K, σ, n, e, s)) = m_run Z (91, 96, [(2, ((r0 : Nat) : Int)), l1, (0, x2), (0, x3), l4, l5], [], (K, (m_up2 (m_up2 (m_up2 σ s1 14 s0) r0 15 x3) r0 16 x2), n, e, s)) := by
  refine g_putf (ci := 5) (f := 14) (by decide +kernel : decode (m_byt 91) 83 = .ok (.putfield 189, 3)) (by decide +kernel) (by decide +kernel) (by decide +kernel) h0 ?_
  show m_run Z (91, 86, [(2, ((r0 : Nat) : Int)), l1, (0, x2), (0, x3), l4, l5], [], (K, (m_up2 σ s1 14 s0), n, e, s)) = _
  refine g_aload_n (k := 0) (v := (2, ((r0 : Nat) : Int))) (by decide +kernel : decode (m_byt 91) 86 = .ok (.aload_n 0, 1)) rfl (Or.inl rfl) ?_
  refine g_iload_n (k := 3) (x := x3) (by decide +kernel : decode (m_byt 91) 87 = .ok (.iload_n 3, 1)) rfl ?_
  refine g_putf (ci := 5) (f := 15) (by decide +kernel : decode (m_byt 91) 88 = .ok (.putfield 192, 3)) (by decide +kernel) (by decide +kernel) (by decide +kernel) h1 ?_
  show m_run Z (91, 91, [(2, ((r0 : Nat) : Int)), l1, (0, x2), (0, x3), l4, l5], [], (K, (m_up2 (m_up2 σ s1 14 s0) r0 15 x3), n, e, s)) = _
  refine g_aload_n (k := 0) (v := (2, ((r0 : Nat) : Int))) (by decide +kernel : decode (m_byt 91) 91 = .ok (.aload_n 0, 1)) rfl (Or.inl rfl) ?_
  refine g_iload_n (k := 2) (x := x2) (by decide +kernel : decode (m_byt 91) 92 = .ok (.iload_n 2, 1)) rfl ?_
  refine g_putf (ci := 5) (f := 16) (by decide +kernel : decode (m_byt 91) 93 = .ok (.putfield 195, 3)) (by decide +kernel) (by decide +kernel) (by decide +kernel) h1 ?_
  show m_run Z (91, 96, [(2, ((r0 : Nat) : Int)), l1, (0, x2), (0, x3), l4, l5], [], (K, (m_up2 (m_up2 (m_up2 σ s1 14 s0) r0 15 x3) r0 16 x2), n, e, s)) = _
  rfl
theorem b_91_96 {Z : mZ} {l0 l1 l2 l3 l4 l5 : mV} {h : mH} : m_run Z (91, 96, [l0, l1, l2, l3, l4, l5], [], h) = some (.inl (9, 0), h) := by
  exact g_vret (by decide +kernel : decode (m_byt 91) 96 = .ok (.return_, 1)) (by decide +kernel)
theorem e_92 {Z : mZ} {r0 : Nat} {x1 : Int} {h : mH} : m_cl Z 92 [(2, ((r0 : Nat) : Int)), (0, x1)] h = m_run Z (92, 0, [(2, ((r0 : Nat) : Int)), (0, x1), (9, 0), (9, 0)], [], h) := g_ent (k := 4) (by decide) (by decide +kernel) (Nat.le_of_ble_eq_true rfl) (by decide +kernel) rfl
theorem b_92_0 {Z : mZ} {l2 l3 : mV} {x1 : Int} {r0 : Nat} {K : Nat → mK} {σ : Nat → Nat → Int} {n e s : Nat} (h0 : q_ob K n r0 5) (h1 : q_rp K r0 9) (h2 : q_ob K n (q_rf K r0 9) 3) : m_run Z (92, 0, [(2, ((r0 : Nat) : Int)), (0, x1), l2, l3], [], (K, σ, n, e, s)) = (m_cl Z 44 [(2, ((q_rf K r0 9 : Nat) : Int)), (0, x1)] (K, σ, n, e, s)).bind (m_aft (m_run Z) 92 5 [(2, ((r0 : Nat) : Int)), (0, x1), l2, l3] []) := by
  refine g_aload_n (k := 0) (v := (2, ((r0 : Nat) : Int))) (by decide +kernel : decode (m_byt 92) 0 = .ok (.aload_n 0, 1)) rfl (Or.inl rfl) ?_
  refine g_getr (ci := 5) (f := 9) (by decide +kernel : decode (m_byt 92) 1 = .ok (.getfield 36, 3)) (by decide +kernel) (by decide +kernel) (by decide +kernel) h0 h1 ?_
  refine g_iload_n (k := 1) (x := x1) (by decide +kernel : decode (m_byt 92) 4 = .ok (.iload_n 1, 1)) rfl ?_
  exact g_inv (k := 1) (m' := 44) (np := 1) (as := [(2, ((q_rf K r0 9 : Nat) : Int)), (0, x1)]) (by decide +kernel : decode (m_byt 92) 5 = .ok (.invokevirtual 61, 3)) (Or.inl ⟨rfl, rfl⟩) (by decide +kernel) (by decide +kernel) (by decide +kernel) (Nat.le_of_ble_eq_true rfl) rfl (Or.inr (g_rcv (by decide +kernel) h2))
theorem b_92_8 {Z : mZ} {l2 l3 : mV} {s0 x1 : Int} {r0 : Nat} {K : Nat → mK} {σ : Nat → Nat → Int} {n e s : Nat} (h0 : q_ob K n r0 5) (h1 : q_rp K r0 10) (h2 : q_ob K n (q_rf K r0 10) 3) : m_run Z (92, 8, [(2, ((r0 : Nat) : Int)), (0, x1), l2, l3], [(0, s0)], (K, σ, n, e, s)) = (m_cl Z 44 [(2, ((q_rf K r0 10 : Nat) : Int)), (0, x1)] (K, σ, n, e, s)).bind (m_aft (m_run Z) 92 14 [(2, ((r0 : Nat) : Int)), (0, x1), (0, s0), l3] []) := by
  refine g_istore_n (k := 2) (by decide +kernel : decode (m_byt 92) 8 = .ok (.istore_n 2, 1)) (Nat.le_of_ble_eq_true rfl) ?_
  show m_run Z (92, 9, [(2, ((r0 : Nat) : Int)), (0, x1), (0, s0), l3], [], (K, σ, n, e, s)) = _
  refine g_aload_n (k := 0) (v := (2, ((r0 : Nat) : Int))) (by decide +kernel : decode (m_byt 92) 9 = .ok (.aload_n 0, 1)) rfl (Or.inl rfl) ?_
  refine g_getr (ci := 5) (f := 10) (by decide +kernel : decode (m_byt 92) 10 = .ok (.getfield 39, 3)) (by decide +kernel) (by decide +kernel) (by decide +kernel) h0 h1 ?_
  refine g_iload_n (k := 1) (x := x1) (by decide +kernel : decode (m_byt 92) 13 = .ok (.iload_n 1, 1)) rfl ?_
  exact g_inv (k := 1) (m' := 44) (np := 1) (as := [(2, ((q_rf K r0 10 : Nat) : Int)), (0, x1)]) (by decide +kernel : decode (m_byt 92) 14 = .ok (.invokevirtual 61, 3)) (Or.inl ⟨rfl, rfl⟩) (by decide +kernel) (by decide +kernel) (by decide +kernel) (Nat.le_of_ble_eq_true rfl) rfl (Or.inr (g_rcv (by decide +kernel) h2))
theorem b_92_17 {Z : mZ} {l2 l3 : mV} {s0 x1 : Int} {r0 : Nat} {K : Nat → mK} {σ : Nat → Nat → Int} {n e s : Nat} (h0 : q_ob K n r0 5) (h1 : q_rp K r0 11) (h2 : q_ob K n (q_rf K r0 11) 3) : m_run Z (92, 17, [(2, ((r0 : Nat) : Int)), (0, x1), l2, l3], [(0, s0)], (K, σ, n, e, s)) = (m_cl Z 44 [(2, ((q_rf K r0 11 : Nat) : Int)), (0, x1)] (K, σ, n, e, s)).bind (m_aft (m_run Z) 92 34 [(2, ((r0 : Nat) : Int)), (0, x1), l2, l3] [(1, (w32 (σ r0 14))), (1, ((w32 s0) * (w32 (σ r0 15))))]) := by
  refine g_base (by decide +kernel : decode (m_byt 92) 17 = .ok (.i2l, 1)) rfl rfl ?_
  show m_run Z (92, 18, [(2, ((r0 : Nat) : Int)), (0, x1), l2, l3], [(1, (w32 s0))], (K, σ, n, e, s)) = _
  refine g_aload_n (k := 0) (v := (2, ((r0 : Nat) : Int))) (by decide +kernel : decode (m_byt 92) 18 = .ok (.aload_n 0, 1)) rfl (Or.inl rfl) ?_
  refine g_getf (ci := 5) (f := 15) (by decide +kernel : decode (m_byt 92) 19 = .ok (.getfield 192, 3)) (by decide +kernel) (by decide +kernel) (by decide +kernel) h0 ?_
  refine g_base (by decide +kernel : decode (m_byt 92) 22 = .ok (.i2l, 1)) rfl rfl ?_
  show m_run Z (92, 23, [(2, ((r0 : Nat) : Int)), (0, x1), l2, l3], [(1, (w32 (σ r0 15))), (1, (w32 s0))], (K, σ, n, e, s)) = _
  refine g_base (by decide +kernel : decode (m_byt 92) 23 = .ok (.lmul, 1)) rfl rfl ?_
  show m_run Z (92, 24, [(2, ((r0 : Nat) : Int)), (0, x1), l2, l3], [(1, ((w32 s0) * (w32 (σ r0 15))))], (K, σ, n, e, s)) = _
  refine g_aload_n (k := 0) (v := (2, ((r0 : Nat) : Int))) (by decide +kernel : decode (m_byt 92) 24 = .ok (.aload_n 0, 1)) rfl (Or.inl rfl) ?_
  refine g_getf (ci := 5) (f := 14) (by decide +kernel : decode (m_byt 92) 25 = .ok (.getfield 189, 3)) (by decide +kernel) (by decide +kernel) (by decide +kernel) h0 ?_
  refine g_base (by decide +kernel : decode (m_byt 92) 28 = .ok (.i2l, 1)) rfl rfl ?_
  show m_run Z (92, 29, [(2, ((r0 : Nat) : Int)), (0, x1), l2, l3], [(1, (w32 (σ r0 14))), (1, ((w32 s0) * (w32 (σ r0 15))))], (K, σ, n, e, s)) = _
  refine g_aload_n (k := 0) (v := (2, ((r0 : Nat) : Int))) (by decide +kernel : decode (m_byt 92) 29 = .ok (.aload_n 0, 1)) rfl (Or.inl rfl) ?_
  refine g_getr (ci := 5) (f := 11) (by decide +kernel : decode (m_byt 92) 30 = .ok (.getfield 42, 3)) (by decide +kernel) (by decide +kernel) (by decide +kernel) h0 h1 ?_
  refine g_iload_n (k := 1) (x := x1) (by decide +kernel : decode (m_byt 92) 33 = .ok (.iload_n 1, 1)) rfl ?_
  exact g_inv (k := 1) (m' := 44) (np := 1) (as := [(2, ((q_rf K r0 11 : Nat) : Int)), (0, x1)]) (by decide +kernel : decode (m_byt 92) 34 = .ok (.invokevirtual 61, 3)) (Or.inl ⟨rfl, rfl⟩) (by decide +kernel) (by decide +kernel) (by decide +kernel) (Nat.le_of_ble_eq_true rfl) rfl (Or.inr (g_rcv (by decide +kernel) h2))
theorem b_92_37 {Z : mZ} {l0 l1 l2 l3 : mV} {s0 s1 s2 : Int} {h : mH} : m_run Z (92, 37, [l0, l1, l2, l3], [(0, s0), (1, s1), (1, s2)], h) = if 0 ≤ w32 (l_cmp s2 (s1 * (w32 s0))) then m_run Z (92, 47, [l0, l1, l2, l3], [], h) else m_run Z (92, 43, [l0, l1, l2, l3], [], h) := by
  refine g_base (by decide +kernel : decode (m_byt 92) 37 = .ok (.i2l, 1)) rfl rfl ?_
  show m_run Z (92, 38, [l0, l1, l2, l3], [(1, (w32 s0)), (1, s1), (1, s2)], h) = _
  refine g_base (by decide +kernel : decode (m_byt 92) 38 = .ok (.lmul, 1)) rfl rfl ?_
  show m_run Z (92, 39, [l0, l1, l2, l3], [(1, (s1 * (w32 s0))), (1, s2)], h) = _
  refine g_base (by decide +kernel : decode (m_byt 92) 39 = .ok (.lcmp, 1)) rfl rfl ?_
  show m_run Z (92, 40, [l0, l1, l2, l3], [(0, (l_cmp s2 (s1 * (w32 s0))))], h) = _
  exact g_brq (t := 47) (off := 7) (by decide +kernel : decode (m_byt 92) 40 = .ok (.ifCond .ge 7, 3)) rfl rfl (by decide)
theorem b_92_43 {Z : mZ} {l1 l3 : mV} {x2 : Int} {r0 : Nat} {K : Nat → mK} {σ : Nat → Nat → Int} {n e s : Nat} (h0 : q_ob K n r0 5) : m_run Z (92, 43, [(2, ((r0 : Nat) : Int)), l1, (0, x2), l3], [], (K, σ, n, e, s)) = if w32 x2 < w32 (σ r0 13) then m_run Z (92, 69, [(2, ((r0 : Nat) : Int)), l1, (0, x2), (0, 1)], [], (K, σ, n, e, s)) else m_run Z (92, 57, [(2, ((r0 : Nat) : Int)), l1, (0, x2), (0, 1)], [], (K, σ, n, e, s)) := by
  refine g_base (by decide +kernel : decode (m_byt 92) 43 = .ok (.iconst 1, 1)) rfl rfl ?_
  show m_run Z (92, 44, [(2, ((r0 : Nat) : Int)), l1, (0, x2), l3], [(0, 1)], (K, σ, n, e, s)) = _
  refine g_jmp (t := 48) (by decide +kernel : decode (m_byt 92) 44 = .ok (.goto 4, 3)) (by decide) ?_
  refine g_istore_n (k := 3) (by decide +kernel : decode (m_byt 92) 48 = .ok (.istore_n 3, 1)) (Nat.le_of_ble_eq_true rfl) ?_
  show m_run Z (92, 49, [(2, ((r0 : Nat) : Int)), l1, (0, x2), (0, 1)], [], (K, σ, n, e, s)) = _
  refine g_iload_n (k := 2) (x := x2) (by decide +kernel : decode (m_byt 92) 49 = .ok (.iload_n 2, 1)) rfl ?_
  refine g_aload_n (k := 0) (v := (2, ((r0 : Nat) : Int))) (by decide +kernel : decode (m_byt 92) 50 = .ok (.aload_n 0, 1)) rfl (Or.inl rfl) ?_
  refine g_getf (ci := 5) (f := 13) (by decide +kernel : decode (m_byt 92) 51 = .ok (.getfield 186, 3)) (by decide +kernel) (by decide +kernel) (by decide +kernel) h0 ?_
  exact g_brq (t := 69) (off := 15) (by decide +kernel : decode (m_byt 92) 54 = .ok (.if_icmp .lt 15, 3)) rfl rfl (by decide)
theorem b_92_47 {Z : mZ} {l0 l1 l2 l3 : mV} {h : mH} : m_run Z (92, 47, [l0, l1, l2, l3], [], h) = m_run Z (92, 48, [l0, l1, l2, l3], [(0, 0)], h) := by
  refine g_base (by decide +kernel : decode (m_byt 92) 47 = .ok (.iconst 0, 1)) rfl rfl ?_
  show m_run Z (92, 48, [l0, l1, l2, l3], [(0, 0)], h) = _
  rfl
theorem b_92_48 {Z : mZ} {l1 l3 : mV} {s0 x2 : Int} {r0 : Nat} {K : Nat → mK} {σ : Nat → Nat → Int} {n e s : Nat} (h0 : q_ob K n r0 5) : m_run Z (92, 48, [(2, ((r0 : Nat) : Int)), l1, (0, x2), l3], [(0, s0)], (K, σ, n, e, s)) = if w32 x2 < w32 (σ r0 13) then m_run Z (92, 69, [(2, ((r0 : Nat) : Int)), l1, (0, x2), (0, s0)], [], (K, σ, n, e, s)) else m_run Z (92, 57, [(2, ((r0 : Nat) : Int)), l1, (0, x2), (0, s0)], [], (K, σ, n, e, s)) := by
  refine g_istore_n (k := 3) (by decide +kernel : decode (m_byt 92) 48 = .ok (.istore_n 3, 1)) (Nat.le_of_ble_eq_true rfl) ?_
  show m_run Z (92, 49, [(2, ((r0 : Nat) : Int)), l1, (0, x2), (0, s0)], [], (K, σ, n, e, s)) = _
  refine g_iload_n (k := 2) (x := x2) (by decide +kernel : decode (m_byt 92) 49 = .ok (.iload_n 2, 1)) rfl ?_
  refine g_aload_n (k := 0) (v := (2, ((r0 : Nat) : Int))) (by decide +kernel : decode (m_byt 92) 50 = .ok (.aload_n 0, 1)) rfl (Or.inl rfl) ?_
  refine g_getf (ci := 5) (f := 13) (by decide +kernel : decode (m_byt 92) 51 = .ok (.getfield 186, 3)) (by decide +kernel) (by decide +kernel) (by decide +kernel) h0 ?_
  exact g_brq (t := 69) (off := 15) (by decide +kernel : decode (m_byt 92) 54 = .ok (.if_icmp .lt 15, 3)) rfl rfl (by decide)
theorem b_92_57 {Z : mZ} {l1 l3 : mV} {x2 : Int} {r0 : Nat} {K : Nat → mK} {σ : Nat → Nat → Int} {n e s : Nat} (h0 : q_ob K n r0 5) : m_run Z (92, 57, [(2, ((r0 : Nat) : Int)), l1, (0, x2), l3], [], (K, σ, n, e, s)) = if w32 x2 = w32 (σ r0 13) then m_run Z (92, 65, [(2, ((r0 : Nat) : Int)), l1, (0, x2), l3], [], (K, σ, n, e, s)) else m_run Z (92, 73, [(2, ((r0 : Nat) : Int)), l1, (0, x2), l3], [], (K, σ, n, e, s)) := by
  refine g_iload_n (k := 2) (x := x2) (by decide +kernel : decode (m_byt 92) 57 = .ok (.iload_n 2, 1)) rfl ?_
  refine g_aload_n (k := 0) (v := (2, ((r0 : Nat) : Int))) (by decide +kernel : decode (m_byt 92) 58 = .ok (.aload_n 0, 1)) rfl (Or.inl rfl) ?_
  refine g_getf (ci := 5) (f := 13) (by decide +kernel : decode (m_byt 92) 59 = .ok (.getfield 186, 3)) (by decide +kernel) (by decide +kernel) (by decide +kernel) h0 ?_
  exact g_brn (t := 73) (off := 11) (by decide +kernel : decode (m_byt 92) 62 = .ok (.if_icmp .ne 11, 3)) rfl rfl (by decide)
theorem b_92_65 {Z : mZ} {l0 l1 l2 : mV} {x3 : Int} {h : mH} : m_run Z (92, 65, [l0, l1, l2, (0, x3)], [], h) = if w32 x3 = 0 then m_run Z (92, 73, [l0, l1, l2, (0, x3)], [], h) else m_run Z (92, 69, [l0, l1, l2, (0, x3)], [], h) := by
  refine g_iload_n (k := 3) (x := x3) (by decide +kernel : decode (m_byt 92) 65 = .ok (.iload_n 3, 1)) rfl ?_
  exact g_brq (t := 73) (off := 7) (by decide +kernel : decode (m_byt 92) 66 = .ok (.ifCond .eq 7, 3)) rfl rfl (by decide)
theorem b_92_69 {Z : mZ} {l0 l1 l2 l3 : mV} {h : mH} : m_run Z (92, 69, [l0, l1, l2, l3], [], h) = some (.inl (0, 1), h) := by
  refine g_base (by decide +kernel : decode (m_byt 92) 69 = .ok (.iconst 1, 1)) rfl rfl ?_
  show m_run Z (92, 70, [l0, l1, l2, l3], [(0, 1)], h) = _
  refine g_jmp (t := 74) (by decide +kernel : decode (m_byt 92) 70 = .ok (.goto 4, 3)) (by decide) ?_
  exact g_zret (by decide +kernel : decode (m_byt 92) 74 = .ok (.ireturn, 1)) (by decide +kernel) (by decide)
theorem b_92_73 {Z : mZ} {l0 l1 l2 l3 : mV} {h : mH} : m_run Z (92, 73, [l0, l1, l2, l3], [], h) = m_run Z (92, 74, [l0, l1, l2, l3], [(0, 0)], h) := by
  refine g_base (by decide +kernel : decode (m_byt 92) 73 = .ok (.iconst 0, 1)) rfl rfl ?_
  show m_run Z (92, 74, [l0, l1, l2, l3], [(0, 0)], h) = _
  rfl
theorem b_92_74 {Z : mZ} {l0 l1 l2 l3 : mV} {s0 : Int} {h : mH} (h0 : w32 s0 = 0 ∨ w32 s0 = 1) : m_run Z (92, 74, [l0, l1, l2, l3], [(0, s0)], h) = some (.inl (0, s0), h) := by
  exact g_zret (by decide +kernel : decode (m_byt 92) 74 = .ok (.ireturn, 1)) (by decide +kernel) h0
theorem e_93 {Z : mZ} {r0 : Nat} {x1 : Int} {h : mH} : m_cl Z 93 [(2, ((r0 : Nat) : Int)), (0, x1)] h = m_run Z (93, 0, [(2, ((r0 : Nat) : Int)), (0, x1), (9, 0), (9, 0)], [], h) := g_ent (k := 4) (by decide) (by decide +kernel) (Nat.le_of_ble_eq_true rfl) (by decide +kernel) rfl
theorem b_93_0 {Z : mZ} {l0 l2 l3 : mV} {x1 : Int} {h : mH} : m_run Z (93, 0, [l0, (0, x1), l2, l3], [], h) = m_run Z (93, 4, [l0, (0, x1), (0, 0), (0, 0)], [], h) := by
  refine g_base (by decide +kernel : decode (m_byt 93) 0 = .ok (.iconst 0, 1)) rfl rfl ?_
  show m_run Z (93, 1, [l0, (0, x1), l2, l3], [(0, 0)], h) = _
  refine g_istore_n (k := 2) (by decide +kernel : decode (m_byt 93) 1 = .ok (.istore_n 2, 1)) (Nat.le_of_ble_eq_true rfl) ?_
  show m_run Z (93, 2, [l0, (0, x1), (0, 0), l3], [], h) = _
  refine g_base (by decide +kernel : decode (m_byt 93) 2 = .ok (.iconst 0, 1)) rfl rfl ?_
  show m_run Z (93, 3, [l0, (0, x1), (0, 0), l3], [(0, 0)], h) = _
  refine g_istore_n (k := 3) (by decide +kernel : decode (m_byt 93) 3 = .ok (.istore_n 3, 1)) (Nat.le_of_ble_eq_true rfl) ?_
  show m_run Z (93, 4, [l0, (0, x1), (0, 0), (0, 0)], [], h) = _
  rfl
theorem b_93_4 {Z : mZ} {l1 l2 : mV} {x3 : Int} {r0 : Nat} {K : Nat → mK} {σ : Nat → Nat → Int} {n e s : Nat} (h0 : q_ob K n r0 5) (h1 : q_rp K r0 0) (h2 : q_ob K n (q_rf K r0 0) 1) : m_run Z (93, 4, [(2, ((r0 : Nat) : Int)), l1, l2, (0, x3)], [], (K, σ, n, e, s)) = if w32 (σ ((q_rf K r0 0)) 0) ≤ w32 x3 then m_run Z (93, 60, [(2, ((r0 : Nat) : Int)), l1, l2, (0, x3)], [], (K, σ, n, e, s)) else m_run Z (93, 15, [(2, ((r0 : Nat) : Int)), l1, l2, (0, x3)], [], (K, σ, n, e, s)) := by
  refine g_iload_n (k := 3) (x := x3) (by decide +kernel : decode (m_byt 93) 4 = .ok (.iload_n 3, 1)) rfl ?_
  refine g_aload_n (k := 0) (v := (2, ((r0 : Nat) : Int))) (by decide +kernel : decode (m_byt 93) 5 = .ok (.aload_n 0, 1)) rfl (Or.inl rfl) ?_
  refine g_getr (ci := 5) (f := 0) (by decide +kernel : decode (m_byt 93) 6 = .ok (.getfield 12, 3)) (by decide +kernel) (by decide +kernel) (by decide +kernel) h0 h1 ?_
  refine g_getf (ci := 1) (f := 0) (by decide +kernel : decode (m_byt 93) 9 = .ok (.getfield 87, 3)) (by decide +kernel) (by decide +kernel) (by decide +kernel) h2 ?_
  exact g_brq (t := 60) (off := 48) (by decide +kernel : decode (m_byt 93) 12 = .ok (.if_icmp .ge 48, 3)) rfl rfl (by decide)
theorem b_93_15 {Z : mZ} {l0 l2 : mV} {x1 x3 : Int} {h : mH} : m_run Z (93, 15, [l0, (0, x1), l2, (0, x3)], [], h) = if w32 (i_and (i_shr x1 x3) 1) = w32 1 then m_run Z (93, 24, [l0, (0, x1), l2, (0, x3)], [], h) else m_run Z (93, 54, [l0, (0, x1), l2, (0, x3)], [], h) := by
  refine g_iload_n (k := 1) (x := x1) (by decide +kernel : decode (m_byt 93) 15 = .ok (.iload_n 1, 1)) rfl ?_
  refine g_iload_n (k := 3) (x := x3) (by decide +kernel : decode (m_byt 93) 16 = .ok (.iload_n 3, 1)) rfl ?_
  refine g_base (by decide +kernel : decode (m_byt 93) 17 = .ok (.ishr, 1)) rfl rfl ?_
  show m_run Z (93, 18, [l0, (0, x1), l2, (0, x3)], [(0, (i_shr x1 x3))], h) = _
  refine g_base (by decide +kernel : decode (m_byt 93) 18 = .ok (.iconst 1, 1)) rfl rfl ?_
  show m_run Z (93, 19, [l0, (0, x1), l2, (0, x3)], [(0, 1), (0, (i_shr x1 x3))], h) = _
  refine g_base (by decide +kernel : decode (m_byt 93) 19 = .ok (.iand, 1)) rfl rfl ?_
  show m_run Z (93, 20, [l0, (0, x1), l2, (0, x3)], [(0, (i_and (i_shr x1 x3) 1))], h) = _
  refine g_base (by decide +kernel : decode (m_byt 93) 20 = .ok (.iconst 1, 1)) rfl rfl ?_
  show m_run Z (93, 21, [l0, (0, x1), l2, (0, x3)], [(0, 1), (0, (i_and (i_shr x1 x3) 1))], h) = _
  exact g_brn (t := 54) (off := 33) (by decide +kernel : decode (m_byt 93) 21 = .ok (.if_icmp .ne 33, 3)) rfl rfl (by decide)
theorem b_93_24 {Z : mZ} {l1 l2 : mV} {x3 : Int} {r0 : Nat} {K : Nat → mK} {σ : Nat → Nat → Int} {n e s : Nat} (h0 : q_ob K n r0 5) : m_run Z (93, 24, [(2, ((r0 : Nat) : Int)), l1, l2, (0, x3)], [], (K, σ, n, e, s)) = (m_cl Z 80 [(2, ((r0 : Nat) : Int)), (0, x3), (0, (σ r0 13)), (0, (σ r0 14)), (0, (σ r0 15))] (K, σ, n, e, s)).bind (m_aft (m_run Z) 93 38 [(2, ((r0 : Nat) : Int)), l1, l2, (0, x3)] []) := by
  refine g_aload_n (k := 0) (v := (2, ((r0 : Nat) : Int))) (by decide +kernel : decode (m_byt 93) 24 = .ok (.aload_n 0, 1)) rfl (Or.inl rfl) ?_
  refine g_iload_n (k := 3) (x := x3) (by decide +kernel : decode (m_byt 93) 25 = .ok (.iload_n 3, 1)) rfl ?_
  refine g_aload_n (k := 0) (v := (2, ((r0 : Nat) : Int))) (by decide +kernel : decode (m_byt 93) 26 = .ok (.aload_n 0, 1)) rfl (Or.inl rfl) ?_
  refine g_getf (ci := 5) (f := 13) (by decide +kernel : decode (m_byt 93) 27 = .ok (.getfield 186, 3)) (by decide +kernel) (by decide +kernel) (by decide +kernel) h0 ?_
  refine g_aload_n (k := 0) (v := (2, ((r0 : Nat) : Int))) (by decide +kernel : decode (m_byt 93) 30 = .ok (.aload_n 0, 1)) rfl (Or.inl rfl) ?_
  refine g_getf (ci := 5) (f := 14) (by decide +kernel : decode (m_byt 93) 31 = .ok (.getfield 189, 3)) (by decide +kernel) (by decide +kernel) (by decide +kernel) h0 ?_
  refine g_aload_n (k := 0) (v := (2, ((r0 : Nat) : Int))) (by decide +kernel : decode (m_byt 93) 34 = .ok (.aload_n 0, 1)) rfl (Or.inl rfl) ?_
  refine g_getf (ci := 5) (f := 15) (by decide +kernel : decode (m_byt 93) 35 = .ok (.getfield 192, 3)) (by decide +kernel) (by decide +kernel) (by decide +kernel) h0 ?_
  exact g_inv (k := 1) (m' := 80) (np := 4) (as := [(2, ((r0 : Nat) : Int)), (0, x3), (0, (σ r0 13)), (0, (σ r0 14)), (0, (σ r0 15))]) (by decide +kernel : decode (m_byt 93) 38 = .ok (.invokevirtual 132, 3)) (Or.inl ⟨rfl, rfl⟩) (by decide +kernel) (by decide +kernel) (by decide +kernel) (Nat.le_of_ble_eq_true rfl) rfl (Or.inr (g_rcv (by decide +kernel) h0))
theorem b_93_41 {Z : mZ} {l1 l2 l3 : mV} {s0 : Int} {r0 : Nat} {K : Nat → mK} {σ : Nat → Nat → Int} {n e s : Nat} (h0 : q_ob K n r0 5) : m_run Z (93, 41, [(2, ((r0 : Nat) : Int)), l1, l2, l3], [(0, s0)], (K, σ, n, e, s)) = if w32 s0 = w32 (σ r0 16) then m_run Z (93, 48, [(2, ((r0 : Nat) : Int)), l1, l2, l3], [], (K, σ, n, e, s)) else m_run Z (93, 54, [(2, ((r0 : Nat) : Int)), l1, l2, l3], [], (K, σ, n, e, s)) := by
  refine g_aload_n (k := 0) (v := (2, ((r0 : Nat) : Int))) (by decide +kernel : decode (m_byt 93) 41 = .ok (.aload_n 0, 1)) rfl (Or.inl rfl) ?_
  refine g_getf (ci := 5) (f := 16) (by decide +kernel : decode (m_byt 93) 42 = .ok (.getfield 195, 3)) (by decide +kernel) (by decide +kernel) (by decide +kernel) h0 ?_
  exact g_brn (t := 54) (off := 9) (by decide +kernel : decode (m_byt 93) 45 = .ok (.if_icmp .ne 9, 3)) rfl rfl (by decide)
theorem b_93_48 {Z : mZ} {l0 : mV} {x2 x3 x1 : Int} {h : mH} : m_run Z (93, 48, [l0, (0, x1), (0, x2), (0, x3)], [], h) = m_run Z (93, 54, [l0, (0, x1), (0, (i_or x2 (i_shl 1 x3))), (0, x3)], [], h) := by
  refine g_iload_n (k := 2) (x := x2) (by decide +kernel : decode (m_byt 93) 48 = .ok (.iload_n 2, 1)) rfl ?_
  refine g_base (by decide +kernel : decode (m_byt 93) 49 = .ok (.iconst 1, 1)) rfl rfl ?_
  show m_run Z (93, 50, [l0, (0, x1), (0, x2), (0, x3)], [(0, 1), (0, x2)], h) = _
  refine g_iload_n (k := 3) (x := x3) (by decide +kernel : decode (m_byt 93) 50 = .ok (.iload_n 3, 1)) rfl ?_
  refine g_base (by decide +kernel : decode (m_byt 93) 51 = .ok (.ishl, 1)) rfl rfl ?_
  show m_run Z (93, 52, [l0, (0, x1), (0, x2), (0, x3)], [(0, (i_shl 1 x3)), (0, x2)], h) = _
  refine g_base (by decide +kernel : decode (m_byt 93) 52 = .ok (.ior, 1)) rfl rfl ?_
  show m_run Z (93, 53, [l0, (0, x1), (0, x2), (0, x3)], [(0, (i_or x2 (i_shl 1 x3)))], h) = _
  refine g_istore_n (k := 2) (by decide +kernel : decode (m_byt 93) 53 = .ok (.istore_n 2, 1)) (Nat.le_of_ble_eq_true rfl) ?_
  show m_run Z (93, 54, [l0, (0, x1), (0, (i_or x2 (i_shl 1 x3))), (0, x3)], [], h) = _
  rfl
theorem b_93_54 {Z : mZ} {l0 l1 : mV} {x3 x2 : Int} {h : mH} : m_run Z (93, 54, [l0, l1, (0, x2), (0, x3)], [], h) = m_run Z (93, 4, [l0, l1, (0, x2), (0, x3 + 1)], [], h) := by
  refine g_iinc (k := 3) (x := x3) (by decide +kernel : decode (m_byt 93) 54 = .ok (.iinc 3 1, 3)) rfl (Nat.le_of_ble_eq_true rfl) ?_
  show m_run Z (93, 57, [l0, l1, (0, x2), (0, x3 + 1)], [], h) = _
  refine g_jmp (t := 4) (by decide +kernel : decode (m_byt 93) 57 = .ok (.goto (-53), 3)) (by decide) ?_
  rfl
theorem b_93_60 {Z : mZ} {l0 l1 l3 : mV} {x2 : Int} {h : mH} : m_run Z (93, 60, [l0, l1, (0, x2), l3], [], h) = some (.inl (0, x2), h) := by
  refine g_iload_n (k := 2) (x := x2) (by decide +kernel : decode (m_byt 93) 60 = .ok (.iload_n 2, 1)) rfl ?_
  exact g_iret (by decide +kernel : decode (m_byt 93) 61 = .ok (.ireturn, 1)) (by decide +kernel)
end
