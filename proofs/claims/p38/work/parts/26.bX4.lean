section
theorem e_51 {Z : mZ} {r0 : Nat} {h h' : mH} {v : mV} (hr : m_run Z (51, 0, [(2, ((r0 : Nat) : Int))], [], h) = some (.inl v, h')) : m_cl Z 51 [(2, ((r0 : Nat) : Int))] h = some (.inl v, h') := g_enti (k := 1) (by decide) (by decide +kernel) (Nat.le_of_ble_eq_true rfl) rfl hr
theorem b_51_0 {Z : mZ} {r0 : Nat} {K : Nat → mK} {σ : Nat → Nat → Int} {n s : Nat} (h0 : q_ob (m_up K n (1, 3, fun _ => -1)) (n + 1) n 3) : m_run Z (51, 0, [(2, ((r0 : Nat) : Int))], [], (K, σ, n, 0, s)) = (m_cl Z 43 [(2, ((n : Nat) : Int)), (0, 120)] ((m_up K n (1, 3, fun _ => -1)), (m_up σ n (fun _ => 0)), (n + 1), 0, s + 1)).bind (m_aft (m_run Z) 51 11 [(2, ((r0 : Nat) : Int))] [(2, ((n : Nat) : Int)), (2, ((r0 : Nat) : Int))]) := by
  refine g_aload_n (k := 0) (v := (2, ((r0 : Nat) : Int))) (by decide +kernel : decode (m_byt 51) 0 = .ok (.aload_n 0, 1)) rfl (Or.inl rfl) ?_
  refine g_obj (r := r0) (by decide +kernel : decode (m_byt 51) 1 = .ok (.invokespecial 3, 3)) (by decide +kernel) (by decide +kernel) (Nat.le_of_ble_eq_true rfl) ?_
  refine g_aload_n (k := 0) (v := (2, ((r0 : Nat) : Int))) (by decide +kernel : decode (m_byt 51) 4 = .ok (.aload_n 0, 1)) rfl (Or.inl rfl) ?_
  refine g_new (ci := 3) (by decide +kernel : decode (m_byt 51) 5 = .ok (.new 9, 3)) (by decide +kernel) (by decide) ?_
  show m_run Z (51, 8, [(2, ((r0 : Nat) : Int))], [(2, ((n : Nat) : Int)), (2, ((r0 : Nat) : Int))], ((m_up K n (1, 3, fun _ => -1)), (m_up σ n (fun _ => 0)), (n + 1), 0, s + 1)) = _
  refine g_base (by decide +kernel : decode (m_byt 51) 8 = .ok (.dup, 1)) rfl rfl ?_
  show m_run Z (51, 9, [(2, ((r0 : Nat) : Int))], [(2, ((n : Nat) : Int)), (2, ((n : Nat) : Int)), (2, ((r0 : Nat) : Int))], ((m_up K n (1, 3, fun _ => -1)), (m_up σ n (fun _ => 0)), (n + 1), 0, s + 1)) = _
  refine g_base (by decide +kernel : decode (m_byt 51) 9 = .ok (.bipush 120, 2)) rfl rfl ?_
  show m_run Z (51, 11, [(2, ((r0 : Nat) : Int))], [(0, 120), (2, ((n : Nat) : Int)), (2, ((n : Nat) : Int)), (2, ((r0 : Nat) : Int))], ((m_up K n (1, 3, fun _ => -1)), (m_up σ n (fun _ => 0)), (n + 1), 0, s + 1)) = _
  exact g_inv (k := 2) (m' := 43) (np := 1) (as := [(2, ((n : Nat) : Int)), (0, 120)]) (by decide +kernel : decode (m_byt 51) 11 = .ok (.invokespecial 11, 3)) (Or.inr (Or.inl ⟨rfl, rfl, by decide⟩)) (by decide +kernel) (by decide +kernel) (by decide +kernel) (Nat.le_of_ble_eq_true rfl) rfl (Or.inr (g_rcv (by decide +kernel) h0))
theorem b_51_14 {Z : mZ} {s0 s1 r0 : Nat} {K : Nat → mK} {σ : Nat → Nat → Int} {n s : Nat} (h0 : q_ob K n s1 4) (h1 : ((s0 : Nat) : Int) < ((n : Nat) : Int)) (h2 : q_ob (m_up (q_pf K s1 4 1 ((s0 : Nat) : Int)) n (1, 3, fun _ => -1)) (n + 1) n 3) : m_run Z (51, 14, [(2, ((r0 : Nat) : Int))], [(2, ((s0 : Nat) : Int)), (2, ((s1 : Nat) : Int))], (K, σ, n, 0, s)) = (m_cl Z 43 [(2, ((n : Nat) : Int)), (0, 3)] ((m_up (q_pf K s1 4 1 ((s0 : Nat) : Int)) n (1, 3, fun _ => -1)), (m_up σ n (fun _ => 0)), (n + 1), 0, s + 1)).bind (m_aft (m_run Z) 51 23 [(2, ((r0 : Nat) : Int))] [(2, ((n : Nat) : Int)), (2, ((r0 : Nat) : Int))]) := by
  refine g_putr (ci := 4) (f := 1) (by decide +kernel : decode (m_byt 51) 14 = .ok (.putfield 14, 3)) (by decide +kernel) (by decide +kernel) (by decide +kernel) (by decide +kernel) (by decide +kernel) h0 h1 ?_
  show m_run Z (51, 17, [(2, ((r0 : Nat) : Int))], [], ((q_pf K s1 4 1 ((s0 : Nat) : Int)), σ, n, 0, s)) = _
  refine g_aload_n (k := 0) (v := (2, ((r0 : Nat) : Int))) (by decide +kernel : decode (m_byt 51) 17 = .ok (.aload_n 0, 1)) rfl (Or.inl rfl) ?_
  refine g_new (ci := 3) (by decide +kernel : decode (m_byt 51) 18 = .ok (.new 9, 3)) (by decide +kernel) (by decide) ?_
  show m_run Z (51, 21, [(2, ((r0 : Nat) : Int))], [(2, ((n : Nat) : Int)), (2, ((r0 : Nat) : Int))], ((m_up (q_pf K s1 4 1 ((s0 : Nat) : Int)) n (1, 3, fun _ => -1)), (m_up σ n (fun _ => 0)), (n + 1), 0, s + 1)) = _
  refine g_base (by decide +kernel : decode (m_byt 51) 21 = .ok (.dup, 1)) rfl rfl ?_
  show m_run Z (51, 22, [(2, ((r0 : Nat) : Int))], [(2, ((n : Nat) : Int)), (2, ((n : Nat) : Int)), (2, ((r0 : Nat) : Int))], ((m_up (q_pf K s1 4 1 ((s0 : Nat) : Int)) n (1, 3, fun _ => -1)), (m_up σ n (fun _ => 0)), (n + 1), 0, s + 1)) = _
  refine g_base (by decide +kernel : decode (m_byt 51) 22 = .ok (.iconst 3, 1)) rfl rfl ?_
  show m_run Z (51, 23, [(2, ((r0 : Nat) : Int))], [(0, 3), (2, ((n : Nat) : Int)), (2, ((n : Nat) : Int)), (2, ((r0 : Nat) : Int))], ((m_up (q_pf K s1 4 1 ((s0 : Nat) : Int)) n (1, 3, fun _ => -1)), (m_up σ n (fun _ => 0)), (n + 1), 0, s + 1)) = _
  exact g_inv (k := 2) (m' := 43) (np := 1) (as := [(2, ((n : Nat) : Int)), (0, 3)]) (by decide +kernel : decode (m_byt 51) 23 = .ok (.invokespecial 11, 3)) (Or.inr (Or.inl ⟨rfl, rfl, by decide⟩)) (by decide +kernel) (by decide +kernel) (by decide +kernel) (Nat.le_of_ble_eq_true rfl) rfl (Or.inr (g_rcv (by decide +kernel) h2))
theorem b_51_26 {Z : mZ} {l0 : mV} {s0 s1 : Nat} {K : Nat → mK} {σ : Nat → Nat → Int} {n e s : Nat} (h0 : q_ob K n s1 4) (h1 : ((s0 : Nat) : Int) < ((n : Nat) : Int)) : m_run Z (51, 26, [l0], [(2, ((s0 : Nat) : Int)), (2, ((s1 : Nat) : Int))], (K, σ, n, e, s)) = some (.inl (9, 0), ((q_pf K s1 4 5 ((s0 : Nat) : Int)), σ, n, e, s)) := by
  refine g_putr (ci := 4) (f := 5) (by decide +kernel : decode (m_byt 51) 26 = .ok (.putfield 20, 3)) (by decide +kernel) (by decide +kernel) (by decide +kernel) (by decide +kernel) (by decide +kernel) h0 h1 ?_
  show m_run Z (51, 29, [l0], [], ((q_pf K s1 4 5 ((s0 : Nat) : Int)), σ, n, e, s)) = _
  exact g_vret (by decide +kernel : decode (m_byt 51) 29 = .ok (.return_, 1)) (by decide +kernel)
theorem e_52 {Z : mZ} {r0 : Nat} {x1 : Int} {h : mH} : m_cl Z 52 [(2, ((r0 : Nat) : Int)), (0, x1)] h = m_run Z (52, 0, [(2, ((r0 : Nat) : Int)), (0, x1)], [], h) := g_ent (k := 2) (by decide) (by decide +kernel) (Nat.le_of_ble_eq_true rfl) (by decide +kernel) rfl
theorem b_52_0 {Z : mZ} {x1 : Int} {r0 : Nat} {K : Nat → mK} {σ : Nat → Nat → Int} {n e s : Nat} (h0 : q_ob K n r0 4) (h1 : q_rp K r0 1) (h2 : q_ob K n (q_rf K r0 1) 3) : m_run Z (52, 0, [(2, ((r0 : Nat) : Int)), (0, x1)], [], (K, σ, n, e, s)) = (m_cl Z 45 [(2, ((q_rf K r0 1 : Nat) : Int)), (0, (σ r0 0)), (0, x1)] (K, σ, n, e, s)).bind (m_aft (m_run Z) 52 9 [(2, ((r0 : Nat) : Int)), (0, x1)] []) := by
  refine g_aload_n (k := 0) (v := (2, ((r0 : Nat) : Int))) (by decide +kernel : decode (m_byt 52) 0 = .ok (.aload_n 0, 1)) rfl (Or.inl rfl) ?_
  refine g_getr (ci := 4) (f := 1) (by decide +kernel : decode (m_byt 52) 1 = .ok (.getfield 14, 3)) (by decide +kernel) (by decide +kernel) (by decide +kernel) h0 h1 ?_
  refine g_aload_n (k := 0) (v := (2, ((r0 : Nat) : Int))) (by decide +kernel : decode (m_byt 52) 4 = .ok (.aload_n 0, 1)) rfl (Or.inl rfl) ?_
  refine g_getf (ci := 4) (f := 0) (by decide +kernel : decode (m_byt 52) 5 = .ok (.getfield 23, 3)) (by decide +kernel) (by decide +kernel) (by decide +kernel) h0 ?_
  refine g_iload_n (k := 1) (x := x1) (by decide +kernel : decode (m_byt 52) 8 = .ok (.iload_n 1, 1)) rfl ?_
  exact g_inv (k := 1) (m' := 45) (np := 2) (as := [(2, ((q_rf K r0 1 : Nat) : Int)), (0, (σ r0 0)), (0, x1)]) (by decide +kernel : decode (m_byt 52) 9 = .ok (.invokevirtual 27, 3)) (Or.inl ⟨rfl, rfl⟩) (by decide +kernel) (by decide +kernel) (by decide +kernel) (Nat.le_of_ble_eq_true rfl) rfl (Or.inr (g_rcv (by decide +kernel) h2))
theorem b_52_12 {Z : mZ} {l1 : mV} {r0 : Nat} {K : Nat → mK} {σ : Nat → Nat → Int} {n e s : Nat} (h0 : q_ob K n r0 4) : m_run Z (52, 12, [(2, ((r0 : Nat) : Int)), l1], [], (K, σ, n, e, s)) = some (.inl (9, 0), (K, (m_up2 σ r0 0 ((σ r0 0) + 1)), n, e, s)) := by
  refine g_aload_n (k := 0) (v := (2, ((r0 : Nat) : Int))) (by decide +kernel : decode (m_byt 52) 12 = .ok (.aload_n 0, 1)) rfl (Or.inl rfl) ?_
  refine g_base (by decide +kernel : decode (m_byt 52) 13 = .ok (.dup, 1)) rfl rfl ?_
  show m_run Z (52, 14, [(2, ((r0 : Nat) : Int)), l1], [(2, ((r0 : Nat) : Int)), (2, ((r0 : Nat) : Int))], (K, σ, n, e, s)) = _
  refine g_getf (ci := 4) (f := 0) (by decide +kernel : decode (m_byt 52) 14 = .ok (.getfield 23, 3)) (by decide +kernel) (by decide +kernel) (by decide +kernel) h0 ?_
  refine g_base (by decide +kernel : decode (m_byt 52) 17 = .ok (.iconst 1, 1)) rfl rfl ?_
  show m_run Z (52, 18, [(2, ((r0 : Nat) : Int)), l1], [(0, 1), (0, (σ r0 0)), (2, ((r0 : Nat) : Int))], (K, σ, n, e, s)) = _
  refine g_base (by decide +kernel : decode (m_byt 52) 18 = .ok (.iadd, 1)) rfl rfl ?_
  show m_run Z (52, 19, [(2, ((r0 : Nat) : Int)), l1], [(0, ((σ r0 0) + 1)), (2, ((r0 : Nat) : Int))], (K, σ, n, e, s)) = _
  refine g_putf (ci := 4) (f := 0) (by decide +kernel : decode (m_byt 52) 19 = .ok (.putfield 23, 3)) (by decide +kernel) (by decide +kernel) (by decide +kernel) h0 ?_
  show m_run Z (52, 22, [(2, ((r0 : Nat) : Int)), l1], [], (K, (m_up2 σ r0 0 ((σ r0 0) + 1)), n, e, s)) = _
  exact g_vret (by decide +kernel : decode (m_byt 52) 22 = .ok (.return_, 1)) (by decide +kernel)
end
