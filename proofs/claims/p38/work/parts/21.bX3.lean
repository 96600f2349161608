section
theorem e_43 {Z : mZ} {r0 : Nat} {x1 : Int} {h h' : mH} {v : mV} (hr : m_run Z (43, 0, [(2, ((r0 : Nat) : Int)), (0, x1)], [], h) = some (.inl v, h')) : m_cl Z 43 [(2, ((r0 : Nat) : Int)), (0, x1)] h = some (.inl v, h') := g_enti (k := 2) (by decide) (by decide +kernel) (Nat.le_of_ble_eq_true rfl) rfl hr
theorem b_43_0 {Z : mZ} {x1 : Int} {r0 : Nat} {h : mH} : m_run Z (43, 0, [(2, ((r0 : Nat) : Int)), (0, x1)], [], h) = if w32 x1 ≤ 0 then m_run Z (43, 13, [(2, ((r0 : Nat) : Int)), (0, x1)], [(2, ((r0 : Nat) : Int))], h) else m_run Z (43, 9, [(2, ((r0 : Nat) : Int)), (0, x1)], [(2, ((r0 : Nat) : Int))], h) := by
  refine g_aload_n (k := 0) (v := (2, ((r0 : Nat) : Int))) (by decide +kernel : decode (m_byt 43) 0 = .ok (.aload_n 0, 1)) rfl (Or.inl rfl) ?_
  refine g_obj (r := r0) (by decide +kernel : decode (m_byt 43) 1 = .ok (.invokespecial 1, 3)) (by decide +kernel) (by decide +kernel) (Nat.le_of_ble_eq_true rfl) ?_
  refine g_aload_n (k := 0) (v := (2, ((r0 : Nat) : Int))) (by decide +kernel : decode (m_byt 43) 4 = .ok (.aload_n 0, 1)) rfl (Or.inl rfl) ?_
  refine g_iload_n (k := 1) (x := x1) (by decide +kernel : decode (m_byt 43) 5 = .ok (.iload_n 1, 1)) rfl ?_
  exact g_brq (t := 13) (off := 7) (by decide +kernel : decode (m_byt 43) 6 = .ok (.ifCond .le 7, 3)) rfl rfl (by decide)
theorem b_43_9 {Z : mZ} {l0 : mV} {x1 : Int} {s0 : Nat} {K : Nat → mK} {σ : Nat → Nat → Int} {n s : Nat} (h0 : 0 ≤ w32 x1) (h1 : w32 x1 ≤ 100000) (h2 : q_ob (m_up K n (2, (w32 x1).toNat, fun _ => -1)) (n + 1) s0 3) : m_run Z (43, 9, [l0, (0, x1)], [(2, ((s0 : Nat) : Int))], (K, σ, n, 0, s)) = some (.inl (9, 0), ((q_pf (m_up K n (2, (w32 x1).toNat, fun _ => -1)) s0 3 0 ((n : Nat) : Int)), (m_up σ n (fun _ => 0)), (n + 1), 0, s + (w32 x1).toNat)) := by
  refine g_iload_n (k := 1) (x := x1) (by decide +kernel : decode (m_byt 43) 9 = .ok (.iload_n 1, 1)) rfl ?_
  refine g_jmp (t := 14) (by decide +kernel : decode (m_byt 43) 10 = .ok (.goto 4, 3)) (by decide) ?_
  refine g_newi (by decide +kernel : decode (m_byt 43) 14 = .ok (.newarray .int, 2)) h0 h1 ?_
  show m_run Z (43, 16, [l0, (0, x1)], [(2, ((n : Nat) : Int)), (2, ((s0 : Nat) : Int))], ((m_up K n (2, (w32 x1).toNat, fun _ => -1)), (m_up σ n (fun _ => 0)), (n + 1), 0, s + (w32 x1).toNat)) = _
  refine g_putr (ci := 3) (f := 0) (by decide +kernel : decode (m_byt 43) 16 = .ok (.putfield 7, 3)) (by decide +kernel) (by decide +kernel) (by decide +kernel) (by decide +kernel) (by decide +kernel) h2 (by omega) ?_
  show m_run Z (43, 19, [l0, (0, x1)], [], ((q_pf (m_up K n (2, (w32 x1).toNat, fun _ => -1)) s0 3 0 ((n : Nat) : Int)), (m_up σ n (fun _ => 0)), (n + 1), 0, s + (w32 x1).toNat)) = _
  exact g_vret (by decide +kernel : decode (m_byt 43) 19 = .ok (.return_, 1)) (by decide +kernel)
theorem b_43_13 {Z : mZ} {l0 l1 : mV} {s0 : Nat} {h : mH} : m_run Z (43, 13, [l0, l1], [(2, ((s0 : Nat) : Int))], h) = m_run Z (43, 14, [l0, l1], [(0, 0), (2, ((s0 : Nat) : Int))], h) := by
  refine g_base (by decide +kernel : decode (m_byt 43) 13 = .ok (.iconst 0, 1)) rfl rfl ?_
  show m_run Z (43, 14, [l0, l1], [(0, 0), (2, ((s0 : Nat) : Int))], h) = _
  rfl
theorem b_43_14 {Z : mZ} {l0 l1 : mV} {s0 : Int} {s1 : Nat} {K : Nat → mK} {σ : Nat → Nat → Int} {n s : Nat} (h0 : 0 ≤ w32 s0) (h1 : w32 s0 ≤ 100000) (h2 : q_ob (m_up K n (2, (w32 s0).toNat, fun _ => -1)) (n + 1) s1 3) : m_run Z (43, 14, [l0, l1], [(0, s0), (2, ((s1 : Nat) : Int))], (K, σ, n, 0, s)) = some (.inl (9, 0), ((q_pf (m_up K n (2, (w32 s0).toNat, fun _ => -1)) s1 3 0 ((n : Nat) : Int)), (m_up σ n (fun _ => 0)), (n + 1), 0, s + (w32 s0).toNat)) := by
  refine g_newi (by decide +kernel : decode (m_byt 43) 14 = .ok (.newarray .int, 2)) h0 h1 ?_
  show m_run Z (43, 16, [l0, l1], [(2, ((n : Nat) : Int)), (2, ((s1 : Nat) : Int))], ((m_up K n (2, (w32 s0).toNat, fun _ => -1)), (m_up σ n (fun _ => 0)), (n + 1), 0, s + (w32 s0).toNat)) = _
  refine g_putr (ci := 3) (f := 0) (by decide +kernel : decode (m_byt 43) 16 = .ok (.putfield 7, 3)) (by decide +kernel) (by decide +kernel) (by decide +kernel) (by decide +kernel) (by decide +kernel) h2 (by omega) ?_
  show m_run Z (43, 19, [l0, l1], [], ((q_pf (m_up K n (2, (w32 s0).toNat, fun _ => -1)) s1 3 0 ((n : Nat) : Int)), (m_up σ n (fun _ => 0)), (n + 1), 0, s + (w32 s0).toNat)) = _
  exact g_vret (by decide +kernel : decode (m_byt 43) 19 = .ok (.return_, 1)) (by decide +kernel)
theorem e_44 {Z : mZ} {r0 : Nat} {x1 : Int} {h : mH} : m_cl Z 44 [(2, ((r0 : Nat) : Int)), (0, x1)] h = m_run Z (44, 0, [(2, ((r0 : Nat) : Int)), (0, x1)], [], h) := g_ent (k := 2) (by decide) (by decide +kernel) (Nat.le_of_ble_eq_true rfl) (by decide +kernel) rfl
theorem b_44_0 {Z : mZ} {l0 : mV} {x1 : Int} {h : mH} : m_run Z (44, 0, [l0, (0, x1)], [], h) = if w32 x1 < 0 then m_run Z (44, 22, [l0, (0, x1)], [], h) else m_run Z (44, 4, [l0, (0, x1)], [], h) := by
  refine g_iload_n (k := 1) (x := x1) (by decide +kernel : decode (m_byt 44) 0 = .ok (.iload_n 1, 1)) rfl ?_
  exact g_brq (t := 22) (off := 21) (by decide +kernel : decode (m_byt 44) 1 = .ok (.ifCond .lt 21, 3)) rfl rfl (by decide)
theorem b_44_4 {Z : mZ} {x1 : Int} {r0 : Nat} {K : Nat → mK} {σ : Nat → Nat → Int} {n e s : Nat} (h0 : q_ob K n r0 3) (h1 : q_rp K r0 0) (h2 : q_al K n (q_rf K r0 0)) : m_run Z (44, 4, [(2, ((r0 : Nat) : Int)), (0, x1)], [], (K, σ, n, e, s)) = if w32 (q_ln K (q_rf K r0 0) : Int) ≤ w32 x1 then m_run Z (44, 22, [(2, ((r0 : Nat) : Int)), (0, x1)], [], (K, σ, n, e, s)) else m_run Z (44, 13, [(2, ((r0 : Nat) : Int)), (0, x1)], [], (K, σ, n, e, s)) := by
  refine g_iload_n (k := 1) (x := x1) (by decide +kernel : decode (m_byt 44) 4 = .ok (.iload_n 1, 1)) rfl ?_
  refine g_aload_n (k := 0) (v := (2, ((r0 : Nat) : Int))) (by decide +kernel : decode (m_byt 44) 5 = .ok (.aload_n 0, 1)) rfl (Or.inl rfl) ?_
  refine g_getr (ci := 3) (f := 0) (by decide +kernel : decode (m_byt 44) 6 = .ok (.getfield 7, 3)) (by decide +kernel) (by decide +kernel) (by decide +kernel) h0 h1 ?_
  refine g_alen (by decide +kernel : decode (m_byt 44) 9 = .ok (.arraylength, 1)) h2 ?_
  exact g_brq (t := 22) (off := 12) (by decide +kernel : decode (m_byt 44) 10 = .ok (.if_icmp .ge 12, 3)) rfl rfl (by decide)
theorem b_44_13 {Z : mZ} {x1 : Int} {r0 : Nat} {K : Nat → mK} {σ : Nat → Nat → Int} {n e s : Nat} (h0 : q_ob K n r0 3) (h1 : q_rp K r0 0) (h2 : 0 ≤ w32 x1) (h3 : w32 x1 < (q_ln K (q_rf K r0 0) : Int)) (h4 : q_ak K n (q_rf K r0 0) 2) : m_run Z (44, 13, [(2, ((r0 : Nat) : Int)), (0, x1)], [], (K, σ, n, e, s)) = some (.inl (0, (σ (q_rf K r0 0) (w32 x1).toNat)), (K, σ, n, e, s)) := by
  refine g_aload_n (k := 0) (v := (2, ((r0 : Nat) : Int))) (by decide +kernel : decode (m_byt 44) 13 = .ok (.aload_n 0, 1)) rfl (Or.inl rfl) ?_
  refine g_getr (ci := 3) (f := 0) (by decide +kernel : decode (m_byt 44) 14 = .ok (.getfield 7, 3)) (by decide +kernel) (by decide +kernel) (by decide +kernel) h0 h1 ?_
  refine g_iload_n (k := 1) (x := x1) (by decide +kernel : decode (m_byt 44) 17 = .ok (.iload_n 1, 1)) rfl ?_
  refine g_iald (by decide +kernel : decode (m_byt 44) 18 = .ok (.iaload, 1)) h4 h2 h3 ?_
  refine g_jmp (t := 23) (by decide +kernel : decode (m_byt 44) 19 = .ok (.goto 4, 3)) (by decide) ?_
  exact g_iret (by decide +kernel : decode (m_byt 44) 23 = .ok (.ireturn, 1)) (by decide +kernel)
theorem b_44_22 {Z : mZ} {l0 l1 : mV} {h : mH} : m_run Z (44, 22, [l0, l1], [], h) = m_run Z (44, 23, [l0, l1], [(0, 0)], h) := by
  refine g_base (by decide +kernel : decode (m_byt 44) 22 = .ok (.iconst 0, 1)) rfl rfl ?_
  show m_run Z (44, 23, [l0, l1], [(0, 0)], h) = _
  rfl
theorem b_44_23 {Z : mZ} {l0 l1 : mV} {s0 : Int} {h : mH} : m_run Z (44, 23, [l0, l1], [(0, s0)], h) = some (.inl (0, s0), h) := by
  exact g_iret (by decide +kernel : decode (m_byt 44) 23 = .ok (.ireturn, 1)) (by decide +kernel)
theorem e_45 {Z : mZ} {r0 : Nat} {x1 : Int} {x2 : Int} {h : mH} : m_cl Z 45 [(2, ((r0 : Nat) : Int)), (0, x1), (0, x2)] h = m_run Z (45, 0, [(2, ((r0 : Nat) : Int)), (0, x1), (0, x2)], [], h) := g_ent (k := 3) (by decide) (by decide +kernel) (Nat.le_of_ble_eq_true rfl) (by decide +kernel) rfl
theorem b_45_0 {Z : mZ} {l0 l2 : mV} {x1 : Int} {h : mH} : m_run Z (45, 0, [l0, (0, x1), l2], [], h) = if w32 x1 < 0 then m_run Z (45, 20, [l0, (0, x1), l2], [], h) else m_run Z (45, 4, [l0, (0, x1), l2], [], h) := by
  refine g_iload_n (k := 1) (x := x1) (by decide +kernel : decode (m_byt 45) 0 = .ok (.iload_n 1, 1)) rfl ?_
  exact g_brq (t := 20) (off := 19) (by decide +kernel : decode (m_byt 45) 1 = .ok (.ifCond .lt 19, 3)) rfl rfl (by decide)
theorem b_45_4 {Z : mZ} {l2 : mV} {x1 : Int} {r0 : Nat} {K : Nat → mK} {σ : Nat → Nat → Int} {n e s : Nat} (h0 : q_ob K n r0 3) (h1 : q_rp K r0 0) (h2 : q_al K n (q_rf K r0 0)) : m_run Z (45, 4, [(2, ((r0 : Nat) : Int)), (0, x1), l2], [], (K, σ, n, e, s)) = if w32 (q_ln K (q_rf K r0 0) : Int) ≤ w32 x1 then m_run Z (45, 20, [(2, ((r0 : Nat) : Int)), (0, x1), l2], [], (K, σ, n, e, s)) else m_run Z (45, 13, [(2, ((r0 : Nat) : Int)), (0, x1), l2], [], (K, σ, n, e, s)) := by
  refine g_iload_n (k := 1) (x := x1) (by decide +kernel : decode (m_byt 45) 4 = .ok (.iload_n 1, 1)) rfl ?_
  refine g_aload_n (k := 0) (v := (2, ((r0 : Nat) : Int))) (by decide +kernel : decode (m_byt 45) 5 = .ok (.aload_n 0, 1)) rfl (Or.inl rfl) ?_
  refine g_getr (ci := 3) (f := 0) (by decide +kernel : decode (m_byt 45) 6 = .ok (.getfield 7, 3)) (by decide +kernel) (by decide +kernel) (by decide +kernel) h0 h1 ?_
  refine g_alen (by decide +kernel : decode (m_byt 45) 9 = .ok (.arraylength, 1)) h2 ?_
  exact g_brq (t := 20) (off := 10) (by decide +kernel : decode (m_byt 45) 10 = .ok (.if_icmp .ge 10, 3)) rfl rfl (by decide)
theorem b_45_13 {Z : mZ} {x1 x2 : Int} {r0 : Nat} {K : Nat → mK} {σ : Nat → Nat → Int} {n e s : Nat} (h0 : q_ob K n r0 3) (h1 : q_rp K r0 0) (h2 : 0 ≤ w32 x1) (h3 : w32 x1 < (q_ln K (q_rf K r0 0) : Int)) (h4 : q_ak K n (q_rf K r0 0) 2) : m_run Z (45, 13, [(2, ((r0 : Nat) : Int)), (0, x1), (0, x2)], [], (K, σ, n, e, s)) = m_run Z (45, 20, [(2, ((r0 : Nat) : Int)), (0, x1), (0, x2)], [], (K, (m_up2 σ (q_rf K r0 0) (w32 x1).toNat x2), n, e, s)) := by
  refine g_aload_n (k := 0) (v := (2, ((r0 : Nat) : Int))) (by decide +kernel : decode (m_byt 45) 13 = .ok (.aload_n 0, 1)) rfl (Or.inl rfl) ?_
  refine g_getr (ci := 3) (f := 0) (by decide +kernel : decode (m_byt 45) 14 = .ok (.getfield 7, 3)) (by decide +kernel) (by decide +kernel) (by decide +kernel) h0 h1 ?_
  refine g_iload_n (k := 1) (x := x1) (by decide +kernel : decode (m_byt 45) 17 = .ok (.iload_n 1, 1)) rfl ?_
  refine g_iload_n (k := 2) (x := x2) (by decide +kernel : decode (m_byt 45) 18 = .ok (.iload_n 2, 1)) rfl ?_
  refine g_iast (by decide +kernel : decode (m_byt 45) 19 = .ok (.iastore, 1)) h4 h2 h3 ?_
  show m_run Z (45, 20, [(2, ((r0 : Nat) : Int)), (0, x1), (0, x2)], [], (K, (m_up2 σ (q_rf K r0 0) (w32 x1).toNat x2), n, e, s)) = _
  rfl
theorem b_45_20 {Z : mZ} {l0 l1 l2 : mV} {h : mH} : m_run Z (45, 20, [l0, l1, l2], [], h) = some (.inl (9, 0), h) := by
  exact g_vret (by decide +kernel : decode (m_byt 45) 20 = .ok (.return_, 1)) (by decide +kernel)
theorem e_46 {Z : mZ} {r0 : Nat} {x1 : Int} {h : mH} : m_cl Z 46 [(2, ((r0 : Nat) : Int)), (0, x1)] h = m_run Z (46, 0, [(2, ((r0 : Nat) : Int)), (0, x1), (9, 0)], [], h) := g_ent (k := 3) (by decide) (by decide +kernel) (Nat.le_of_ble_eq_true rfl) (by decide +kernel) rfl
theorem b_46_0 {Z : mZ} {l0 l2 : mV} {x1 : Int} {h : mH} : m_run Z (46, 0, [l0, (0, x1), l2], [], h) = m_run Z (46, 2, [l0, (0, x1), (0, 0)], [], h) := by
  refine g_base (by decide +kernel : decode (m_byt 46) 0 = .ok (.iconst 0, 1)) rfl rfl ?_
  show m_run Z (46, 1, [l0, (0, x1), l2], [(0, 0)], h) = _
  refine g_istore_n (k := 2) (by decide +kernel : decode (m_byt 46) 1 = .ok (.istore_n 2, 1)) (Nat.le_of_ble_eq_true rfl) ?_
  show m_run Z (46, 2, [l0, (0, x1), (0, 0)], [], h) = _
  rfl
theorem b_46_2 {Z : mZ} {l1 : mV} {x2 : Int} {r0 : Nat} {K : Nat → mK} {σ : Nat → Nat → Int} {n e s : Nat} (h0 : q_ob K n r0 3) (h1 : q_rp K r0 0) (h2 : q_al K n (q_rf K r0 0)) : m_run Z (46, 2, [(2, ((r0 : Nat) : Int)), l1, (0, x2)], [], (K, σ, n, e, s)) = if w32 (q_ln K (q_rf K r0 0) : Int) ≤ w32 x2 then m_run Z (46, 24, [(2, ((r0 : Nat) : Int)), l1, (0, x2)], [], (K, σ, n, e, s)) else m_run Z (46, 11, [(2, ((r0 : Nat) : Int)), l1, (0, x2)], [], (K, σ, n, e, s)) := by
  refine g_iload_n (k := 2) (x := x2) (by decide +kernel : decode (m_byt 46) 2 = .ok (.iload_n 2, 1)) rfl ?_
  refine g_aload_n (k := 0) (v := (2, ((r0 : Nat) : Int))) (by decide +kernel : decode (m_byt 46) 3 = .ok (.aload_n 0, 1)) rfl (Or.inl rfl) ?_
  refine g_getr (ci := 3) (f := 0) (by decide +kernel : decode (m_byt 46) 4 = .ok (.getfield 7, 3)) (by decide +kernel) (by decide +kernel) (by decide +kernel) h0 h1 ?_
  refine g_alen (by decide +kernel : decode (m_byt 46) 7 = .ok (.arraylength, 1)) h2 ?_
  exact g_brq (t := 24) (off := 16) (by decide +kernel : decode (m_byt 46) 8 = .ok (.if_icmp .ge 16, 3)) rfl rfl (by decide)
theorem b_46_11 {Z : mZ} {x2 x1 : Int} {r0 : Nat} {K : Nat → mK} {σ : Nat → Nat → Int} {n e s : Nat} (h0 : q_ob K n r0 3) (h1 : q_rp K r0 0) (h2 : 0 ≤ w32 x2) (h3 : w32 x2 < (q_ln K (q_rf K r0 0) : Int)) (h4 : q_ak K n (q_rf K r0 0) 2) : m_run Z (46, 11, [(2, ((r0 : Nat) : Int)), (0, x1), (0, x2)], [], (K, σ, n, e, s)) = m_run Z (46, 2, [(2, ((r0 : Nat) : Int)), (0, x1), (0, x2 + 1)], [], (K, (m_up2 σ (q_rf K r0 0) (w32 x2).toNat x1), n, e, s)) := by
  refine g_aload_n (k := 0) (v := (2, ((r0 : Nat) : Int))) (by decide +kernel : decode (m_byt 46) 11 = .ok (.aload_n 0, 1)) rfl (Or.inl rfl) ?_
  refine g_getr (ci := 3) (f := 0) (by decide +kernel : decode (m_byt 46) 12 = .ok (.getfield 7, 3)) (by decide +kernel) (by decide +kernel) (by decide +kernel) h0 h1 ?_
  refine g_iload_n (k := 2) (x := x2) (by decide +kernel : decode (m_byt 46) 15 = .ok (.iload_n 2, 1)) rfl ?_
  refine g_iload_n (k := 1) (x := x1) (by decide +kernel : decode (m_byt 46) 16 = .ok (.iload_n 1, 1)) rfl ?_
  refine g_iast (by decide +kernel : decode (m_byt 46) 17 = .ok (.iastore, 1)) h4 h2 h3 ?_
  show m_run Z (46, 18, [(2, ((r0 : Nat) : Int)), (0, x1), (0, x2)], [], (K, (m_up2 σ (q_rf K r0 0) (w32 x2).toNat x1), n, e, s)) = _
  refine g_iinc (k := 2) (x := x2) (by decide +kernel : decode (m_byt 46) 18 = .ok (.iinc 2 1, 3)) rfl (Nat.le_of_ble_eq_true rfl) ?_
  show m_run Z (46, 21, [(2, ((r0 : Nat) : Int)), (0, x1), (0, x2 + 1)], [], (K, (m_up2 σ (q_rf K r0 0) (w32 x2).toNat x1), n, e, s)) = _
  refine g_jmp (t := 2) (by decide +kernel : decode (m_byt 46) 21 = .ok (.goto (-19), 3)) (by decide) ?_
  rfl
theorem b_46_24 {Z : mZ} {l0 l1 l2 : mV} {h : mH} : m_run Z (46, 24, [l0, l1, l2], [], h) = some (.inl (9, 0), h) := by
  exact g_vret (by decide +kernel : decode (m_byt 46) 24 = .ok (.return_, 1)) (by decide +kernel)
theorem e_47 {Z : mZ} {r0 : Nat} {r1 : Nat} {h : mH} : m_cl Z 47 [(2, ((r0 : Nat) : Int)), (2, ((r1 : Nat) : Int))] h = m_run Z (47, 0, [(2, ((r0 : Nat) : Int)), (2, ((r1 : Nat) : Int)), (9, 0)], [], h) := g_ent (k := 3) (by decide) (by decide +kernel) (Nat.le_of_ble_eq_true rfl) (by decide +kernel) rfl
theorem b_47_0 {Z : mZ} {l0 l2 : mV} {r1 : Nat} {h : mH} : m_run Z (47, 0, [l0, (2, ((r1 : Nat) : Int)), l2], [], h) = m_run Z (47, 2, [l0, (2, ((r1 : Nat) : Int)), (0, 0)], [], h) := by
  refine g_base (by decide +kernel : decode (m_byt 47) 0 = .ok (.iconst 0, 1)) rfl rfl ?_
  show m_run Z (47, 1, [l0, (2, ((r1 : Nat) : Int)), l2], [(0, 0)], h) = _
  refine g_istore_n (k := 2) (by decide +kernel : decode (m_byt 47) 1 = .ok (.istore_n 2, 1)) (Nat.le_of_ble_eq_true rfl) ?_
  show m_run Z (47, 2, [l0, (2, ((r1 : Nat) : Int)), (0, 0)], [], h) = _
  rfl
theorem b_47_2 {Z : mZ} {l1 : mV} {x2 : Int} {r0 : Nat} {K : Nat → mK} {σ : Nat → Nat → Int} {n e s : Nat} (h0 : q_ob K n r0 3) (h1 : q_rp K r0 0) (h2 : q_al K n (q_rf K r0 0)) : m_run Z (47, 2, [(2, ((r0 : Nat) : Int)), l1, (0, x2)], [], (K, σ, n, e, s)) = if w32 (q_ln K (q_rf K r0 0) : Int) ≤ w32 x2 then m_run Z (47, 28, [(2, ((r0 : Nat) : Int)), l1, (0, x2)], [], (K, σ, n, e, s)) else m_run Z (47, 11, [(2, ((r0 : Nat) : Int)), l1, (0, x2)], [], (K, σ, n, e, s)) := by
  refine g_iload_n (k := 2) (x := x2) (by decide +kernel : decode (m_byt 47) 2 = .ok (.iload_n 2, 1)) rfl ?_
  refine g_aload_n (k := 0) (v := (2, ((r0 : Nat) : Int))) (by decide +kernel : decode (m_byt 47) 3 = .ok (.aload_n 0, 1)) rfl (Or.inl rfl) ?_
  refine g_getr (ci := 3) (f := 0) (by decide +kernel : decode (m_byt 47) 4 = .ok (.getfield 7, 3)) (by decide +kernel) (by decide +kernel) (by decide +kernel) h0 h1 ?_
  refine g_alen (by decide +kernel : decode (m_byt 47) 7 = .ok (.arraylength, 1)) h2 ?_
  exact g_brq (t := 28) (off := 20) (by decide +kernel : decode (m_byt 47) 8 = .ok (.if_icmp .ge 20, 3)) rfl rfl (by decide)
theorem b_47_11 {Z : mZ} {x2 : Int} {r0 r1 : Nat} {K : Nat → mK} {σ : Nat → Nat → Int} {n e s : Nat} (h0 : q_ob K n r0 3) (h1 : q_rp K r0 0) (h2 : q_ob K n r1 3) : m_run Z (47, 11, [(2, ((r0 : Nat) : Int)), (2, ((r1 : Nat) : Int)), (0, x2)], [], (K, σ, n, e, s)) = (m_cl Z 44 [(2, ((r1 : Nat) : Int)), (0, x2)] (K, σ, n, e, s)).bind (m_aft (m_run Z) 47 18 [(2, ((r0 : Nat) : Int)), (2, ((r1 : Nat) : Int)), (0, x2)] [(0, x2), (2, ((q_rf K r0 0 : Nat) : Int))]) := by
  refine g_aload_n (k := 0) (v := (2, ((r0 : Nat) : Int))) (by decide +kernel : decode (m_byt 47) 11 = .ok (.aload_n 0, 1)) rfl (Or.inl rfl) ?_
  refine g_getr (ci := 3) (f := 0) (by decide +kernel : decode (m_byt 47) 12 = .ok (.getfield 7, 3)) (by decide +kernel) (by decide +kernel) (by decide +kernel) h0 h1 ?_
  refine g_iload_n (k := 2) (x := x2) (by decide +kernel : decode (m_byt 47) 15 = .ok (.iload_n 2, 1)) rfl ?_
  refine g_aload_n (k := 1) (v := (2, ((r1 : Nat) : Int))) (by decide +kernel : decode (m_byt 47) 16 = .ok (.aload_n 1, 1)) rfl (Or.inl rfl) ?_
  refine g_iload_n (k := 2) (x := x2) (by decide +kernel : decode (m_byt 47) 17 = .ok (.iload_n 2, 1)) rfl ?_
  exact g_inv (k := 1) (m' := 44) (np := 1) (as := [(2, ((r1 : Nat) : Int)), (0, x2)]) (by decide +kernel : decode (m_byt 47) 18 = .ok (.invokevirtual 13, 3)) (Or.inl ⟨rfl, rfl⟩) (by decide +kernel) (by decide +kernel) (by decide +kernel) (Nat.le_of_ble_eq_true rfl) rfl (Or.inr (g_rcv (by decide +kernel) h2))
theorem b_47_21 {Z : mZ} {l0 : mV} {s0 s1 x2 : Int} {s2 r1 : Nat} {K : Nat → mK} {σ : Nat → Nat → Int} {n e s : Nat} (h0 : 0 ≤ w32 s1) (h1 : w32 s1 < (q_ln K s2 : Int)) (h2 : q_ak K n s2 2) : m_run Z (47, 21, [l0, (2, ((r1 : Nat) : Int)), (0, x2)], [(0, s0), (0, s1), (2, ((s2 : Nat) : Int))], (K, σ, n, e, s)) = m_run Z (47, 2, [l0, (2, ((r1 : Nat) : Int)), (0, x2 + 1)], [], (K, (m_up2 σ s2 (w32 s1).toNat s0), n, e, s)) := by
  refine g_iast (by decide +kernel : decode (m_byt 47) 21 = .ok (.iastore, 1)) h2 h0 h1 ?_
  show m_run Z (47, 22, [l0, (2, ((r1 : Nat) : Int)), (0, x2)], [], (K, (m_up2 σ s2 (w32 s1).toNat s0), n, e, s)) = _
  refine g_iinc (k := 2) (x := x2) (by decide +kernel : decode (m_byt 47) 22 = .ok (.iinc 2 1, 3)) rfl (Nat.le_of_ble_eq_true rfl) ?_
  show m_run Z (47, 25, [l0, (2, ((r1 : Nat) : Int)), (0, x2 + 1)], [], (K, (m_up2 σ s2 (w32 s1).toNat s0), n, e, s)) = _
  refine g_jmp (t := 2) (by decide +kernel : decode (m_byt 47) 25 = .ok (.goto (-23), 3)) (by decide) ?_
  rfl
theorem b_47_28 {Z : mZ} {l0 l1 l2 : mV} {h : mH} : m_run Z (47, 28, [l0, l1, l2], [], h) = some (.inl (9, 0), h) := by
  exact g_vret (by decide +kernel : decode (m_byt 47) 28 = .ok (.return_, 1)) (by decide +kernel)
theorem e_48 {Z : mZ} {r0 : Nat} {r1 : Nat} {h : mH} : m_cl Z 48 [(2, ((r0 : Nat) : Int)), (2, ((r1 : Nat) : Int))] h = m_run Z (48, 0, [(2, ((r0 : Nat) : Int)), (2, ((r1 : Nat) : Int)), (9, 0)], [], h) := g_ent (k := 3) (by decide) (by decide +kernel) (Nat.le_of_ble_eq_true rfl) (by decide +kernel) rfl
theorem b_48_0 {Z : mZ} {l0 l2 : mV} {r1 : Nat} {h : mH} : m_run Z (48, 0, [l0, (2, ((r1 : Nat) : Int)), l2], [], h) = m_run Z (48, 2, [l0, (2, ((r1 : Nat) : Int)), (0, 0)], [], h) := by
  refine g_base (by decide +kernel : decode (m_byt 48) 0 = .ok (.iconst 0, 1)) rfl rfl ?_
  show m_run Z (48, 1, [l0, (2, ((r1 : Nat) : Int)), l2], [(0, 0)], h) = _
  refine g_istore_n (k := 2) (by decide +kernel : decode (m_byt 48) 1 = .ok (.istore_n 2, 1)) (Nat.le_of_ble_eq_true rfl) ?_
  show m_run Z (48, 2, [l0, (2, ((r1 : Nat) : Int)), (0, 0)], [], h) = _
  rfl
theorem b_48_2 {Z : mZ} {l1 : mV} {x2 : Int} {r0 : Nat} {K : Nat → mK} {σ : Nat → Nat → Int} {n e s : Nat} (h0 : q_ob K n r0 3) (h1 : q_rp K r0 0) (h2 : q_al K n (q_rf K r0 0)) : m_run Z (48, 2, [(2, ((r0 : Nat) : Int)), l1, (0, x2)], [], (K, σ, n, e, s)) = if w32 (q_ln K (q_rf K r0 0) : Int) ≤ w32 x2 then m_run Z (48, 33, [(2, ((r0 : Nat) : Int)), l1, (0, x2)], [], (K, σ, n, e, s)) else m_run Z (48, 11, [(2, ((r0 : Nat) : Int)), l1, (0, x2)], [], (K, σ, n, e, s)) := by
  refine g_iload_n (k := 2) (x := x2) (by decide +kernel : decode (m_byt 48) 2 = .ok (.iload_n 2, 1)) rfl ?_
  refine g_aload_n (k := 0) (v := (2, ((r0 : Nat) : Int))) (by decide +kernel : decode (m_byt 48) 3 = .ok (.aload_n 0, 1)) rfl (Or.inl rfl) ?_
  refine g_getr (ci := 3) (f := 0) (by decide +kernel : decode (m_byt 48) 4 = .ok (.getfield 7, 3)) (by decide +kernel) (by decide +kernel) (by decide +kernel) h0 h1 ?_
  refine g_alen (by decide +kernel : decode (m_byt 48) 7 = .ok (.arraylength, 1)) h2 ?_
  exact g_brq (t := 33) (off := 25) (by decide +kernel : decode (m_byt 48) 8 = .ok (.if_icmp .ge 25, 3)) rfl rfl (by decide)
theorem b_48_11 {Z : mZ} {x2 : Int} {r0 r1 : Nat} {K : Nat → mK} {σ : Nat → Nat → Int} {n e s : Nat} (h0 : q_ob K n r0 3) (h1 : q_rp K r0 0) (h2 : 0 ≤ w32 x2) (h3 : w32 x2 < (q_ln K (q_rf K r0 0) : Int)) (h4 : q_ak K n (q_rf K r0 0) 2) (h5 : q_ob K n r1 3) : m_run Z (48, 11, [(2, ((r0 : Nat) : Int)), (2, ((r1 : Nat) : Int)), (0, x2)], [], (K, σ, n, e, s)) = (m_cl Z 44 [(2, ((r1 : Nat) : Int)), (0, x2)] (K, σ, n, e, s)).bind (m_aft (m_run Z) 48 19 [(2, ((r0 : Nat) : Int)), (2, ((r1 : Nat) : Int)), (0, x2)] [(0, (σ (q_rf K r0 0) (w32 x2).toNat))]) := by
  refine g_aload_n (k := 0) (v := (2, ((r0 : Nat) : Int))) (by decide +kernel : decode (m_byt 48) 11 = .ok (.aload_n 0, 1)) rfl (Or.inl rfl) ?_
  refine g_getr (ci := 3) (f := 0) (by decide +kernel : decode (m_byt 48) 12 = .ok (.getfield 7, 3)) (by decide +kernel) (by decide +kernel) (by decide +kernel) h0 h1 ?_
  refine g_iload_n (k := 2) (x := x2) (by decide +kernel : decode (m_byt 48) 15 = .ok (.iload_n 2, 1)) rfl ?_
  refine g_iald (by decide +kernel : decode (m_byt 48) 16 = .ok (.iaload, 1)) h4 h2 h3 ?_
  refine g_aload_n (k := 1) (v := (2, ((r1 : Nat) : Int))) (by decide +kernel : decode (m_byt 48) 17 = .ok (.aload_n 1, 1)) rfl (Or.inl rfl) ?_
  refine g_iload_n (k := 2) (x := x2) (by decide +kernel : decode (m_byt 48) 18 = .ok (.iload_n 2, 1)) rfl ?_
  exact g_inv (k := 1) (m' := 44) (np := 1) (as := [(2, ((r1 : Nat) : Int)), (0, x2)]) (by decide +kernel : decode (m_byt 48) 19 = .ok (.invokevirtual 13, 3)) (Or.inl ⟨rfl, rfl⟩) (by decide +kernel) (by decide +kernel) (by decide +kernel) (Nat.le_of_ble_eq_true rfl) rfl (Or.inr (g_rcv (by decide +kernel) h5))
theorem b_48_22 {Z : mZ} {l0 l1 l2 : mV} {s0 s1 : Int} {h : mH} : m_run Z (48, 22, [l0, l1, l2], [(0, s0), (0, s1)], h) = if w32 s1 = w32 s0 then m_run Z (48, 27, [l0, l1, l2], [], h) else m_run Z (48, 25, [l0, l1, l2], [], h) := by
  exact g_brq (t := 27) (off := 5) (by decide +kernel : decode (m_byt 48) 22 = .ok (.if_icmp .eq 5, 3)) rfl rfl (by decide)
theorem b_48_25 {Z : mZ} {l0 l1 l2 : mV} {h : mH} : m_run Z (48, 25, [l0, l1, l2], [], h) = some (.inl (0, 0), h) := by
  refine g_base (by decide +kernel : decode (m_byt 48) 25 = .ok (.iconst 0, 1)) rfl rfl ?_
  show m_run Z (48, 26, [l0, l1, l2], [(0, 0)], h) = _
  exact g_zret (by decide +kernel : decode (m_byt 48) 26 = .ok (.ireturn, 1)) (by decide +kernel) (by decide)
theorem b_48_27 {Z : mZ} {l0 : mV} {x2 : Int} {r1 : Nat} {h : mH} : m_run Z (48, 27, [l0, (2, ((r1 : Nat) : Int)), (0, x2)], [], h) = m_run Z (48, 2, [l0, (2, ((r1 : Nat) : Int)), (0, x2 + 1)], [], h) := by
  refine g_iinc (k := 2) (x := x2) (by decide +kernel : decode (m_byt 48) 27 = .ok (.iinc 2 1, 3)) rfl (Nat.le_of_ble_eq_true rfl) ?_
  show m_run Z (48, 30, [l0, (2, ((r1 : Nat) : Int)), (0, x2 + 1)], [], h) = _
  refine g_jmp (t := 2) (by decide +kernel : decode (m_byt 48) 30 = .ok (.goto (-28), 3)) (by decide) ?_
  rfl
theorem b_48_33 {Z : mZ} {l0 l1 l2 : mV} {h : mH} : m_run Z (48, 33, [l0, l1, l2], [], h) = some (.inl (0, 1), h) := by
  refine g_base (by decide +kernel : decode (m_byt 48) 33 = .ok (.iconst 1, 1)) rfl rfl ?_
  show m_run Z (48, 34, [l0, l1, l2], [(0, 1)], h) = _
  exact g_zret (by decide +kernel : decode (m_byt 48) 34 = .ok (.ireturn, 1)) (by decide +kernel) (by decide)
theorem e_49 {Z : mZ} {r0 : Nat} {x1 : Int} {h : mH} : m_cl Z 49 [(2, ((r0 : Nat) : Int)), (0, x1)] h = m_run Z (49, 0, [(2, ((r0 : Nat) : Int)), (0, x1), (9, 0)], [], h) := g_ent (k := 3) (by decide) (by decide +kernel) (Nat.le_of_ble_eq_true rfl) (by decide +kernel) rfl
theorem b_49_0 {Z : mZ} {l2 : mV} {x1 : Int} {r0 : Nat} {K : Nat → mK} {σ : Nat → Nat → Int} {n e s : Nat} (h0 : q_ob K n r0 3) (h1 : q_rp K r0 0) (h2 : q_al K n (q_rf K r0 0)) : m_run Z (49, 0, [(2, ((r0 : Nat) : Int)), (0, x1), l2], [], (K, σ, n, e, s)) = m_run Z (49, 8, [(2, ((r0 : Nat) : Int)), (0, x1), (0, ((q_ln K (q_rf K r0 0) : Int) - 1))], [], (K, σ, n, e, s)) := by
  refine g_aload_n (k := 0) (v := (2, ((r0 : Nat) : Int))) (by decide +kernel : decode (m_byt 49) 0 = .ok (.aload_n 0, 1)) rfl (Or.inl rfl) ?_
  refine g_getr (ci := 3) (f := 0) (by decide +kernel : decode (m_byt 49) 1 = .ok (.getfield 7, 3)) (by decide +kernel) (by decide +kernel) (by decide +kernel) h0 h1 ?_
  refine g_alen (by decide +kernel : decode (m_byt 49) 4 = .ok (.arraylength, 1)) h2 ?_
  refine g_base (by decide +kernel : decode (m_byt 49) 5 = .ok (.iconst 1, 1)) rfl rfl ?_
  show m_run Z (49, 6, [(2, ((r0 : Nat) : Int)), (0, x1), l2], [(0, 1), (0, (q_ln K (q_rf K r0 0) : Int))], (K, σ, n, e, s)) = _
  refine g_base (by decide +kernel : decode (m_byt 49) 6 = .ok (.isub, 1)) rfl rfl ?_
  show m_run Z (49, 7, [(2, ((r0 : Nat) : Int)), (0, x1), l2], [(0, ((q_ln K (q_rf K r0 0) : Int) - 1))], (K, σ, n, e, s)) = _
  refine g_istore_n (k := 2) (by decide +kernel : decode (m_byt 49) 7 = .ok (.istore_n 2, 1)) (Nat.le_of_ble_eq_true rfl) ?_
  show m_run Z (49, 8, [(2, ((r0 : Nat) : Int)), (0, x1), (0, ((q_ln K (q_rf K r0 0) : Int) - 1))], [], (K, σ, n, e, s)) = _
  rfl
theorem b_49_8 {Z : mZ} {l0 : mV} {x2 x1 : Int} {h : mH} : m_run Z (49, 8, [l0, (0, x1), (0, x2)], [], h) = if w32 x2 ≤ w32 x1 then m_run Z (49, 37, [l0, (0, x1), (0, x2)], [], h) else m_run Z (49, 13, [l0, (0, x1), (0, x2)], [], h) := by
  refine g_iload_n (k := 2) (x := x2) (by decide +kernel : decode (m_byt 49) 8 = .ok (.iload_n 2, 1)) rfl ?_
  refine g_iload_n (k := 1) (x := x1) (by decide +kernel : decode (m_byt 49) 9 = .ok (.iload_n 1, 1)) rfl ?_
  exact g_brq (t := 37) (off := 27) (by decide +kernel : decode (m_byt 49) 10 = .ok (.if_icmp .le 27, 3)) rfl rfl (by decide)
theorem b_49_13 {Z : mZ} {l0 l1 : mV} {x2 : Int} {h : mH} : m_run Z (49, 13, [l0, l1, (0, x2)], [], h) = if w32 x2 ≤ 0 then m_run Z (49, 37, [l0, l1, (0, x2)], [], h) else m_run Z (49, 17, [l0, l1, (0, x2)], [], h) := by
  refine g_iload_n (k := 2) (x := x2) (by decide +kernel : decode (m_byt 49) 13 = .ok (.iload_n 2, 1)) rfl ?_
  exact g_brq (t := 37) (off := 23) (by decide +kernel : decode (m_byt 49) 14 = .ok (.ifCond .le 23, 3)) rfl rfl (by decide)
theorem b_49_17 {Z : mZ} {x2 x1 : Int} {r0 : Nat} {K : Nat → mK} {σ : Nat → Nat → Int} {n e s : Nat} (h0 : q_ob K n r0 3) (h1 : q_rp K r0 0) (h2 : 0 ≤ w32 (x2 - 1)) (h3 : w32 (x2 - 1) < (q_ln K (q_rf K r0 0) : Int)) (h4 : q_ak K n (q_rf K r0 0) 2) (h5 : 0 ≤ w32 x2) (h6 : w32 x2 < (q_ln K (q_rf K r0 0) : Int)) : m_run Z (49, 17, [(2, ((r0 : Nat) : Int)), (0, x1), (0, x2)], [], (K, σ, n, e, s)) = m_run Z (49, 8, [(2, ((r0 : Nat) : Int)), (0, x1), (0, x2 + (-1))], [], (K, (m_up2 σ (q_rf K r0 0) (w32 x2).toNat (σ (q_rf K r0 0) (w32 (x2 - 1)).toNat)), n, e, s)) := by
  refine g_aload_n (k := 0) (v := (2, ((r0 : Nat) : Int))) (by decide +kernel : decode (m_byt 49) 17 = .ok (.aload_n 0, 1)) rfl (Or.inl rfl) ?_
  refine g_getr (ci := 3) (f := 0) (by decide +kernel : decode (m_byt 49) 18 = .ok (.getfield 7, 3)) (by decide +kernel) (by decide +kernel) (by decide +kernel) h0 h1 ?_
  refine g_iload_n (k := 2) (x := x2) (by decide +kernel : decode (m_byt 49) 21 = .ok (.iload_n 2, 1)) rfl ?_
  refine g_aload_n (k := 0) (v := (2, ((r0 : Nat) : Int))) (by decide +kernel : decode (m_byt 49) 22 = .ok (.aload_n 0, 1)) rfl (Or.inl rfl) ?_
  refine g_getr (ci := 3) (f := 0) (by decide +kernel : decode (m_byt 49) 23 = .ok (.getfield 7, 3)) (by decide +kernel) (by decide +kernel) (by decide +kernel) h0 h1 ?_
  refine g_iload_n (k := 2) (x := x2) (by decide +kernel : decode (m_byt 49) 26 = .ok (.iload_n 2, 1)) rfl ?_
  refine g_base (by decide +kernel : decode (m_byt 49) 27 = .ok (.iconst 1, 1)) rfl rfl ?_
  show m_run Z (49, 28, [(2, ((r0 : Nat) : Int)), (0, x1), (0, x2)], [(0, 1), (0, x2), (2, ((q_rf K r0 0 : Nat) : Int)), (0, x2), (2, ((q_rf K r0 0 : Nat) : Int))], (K, σ, n, e, s)) = _
  refine g_base (by decide +kernel : decode (m_byt 49) 28 = .ok (.isub, 1)) rfl rfl ?_
  show m_run Z (49, 29, [(2, ((r0 : Nat) : Int)), (0, x1), (0, x2)], [(0, (x2 - 1)), (2, ((q_rf K r0 0 : Nat) : Int)), (0, x2), (2, ((q_rf K r0 0 : Nat) : Int))], (K, σ, n, e, s)) = _
  refine g_iald (by decide +kernel : decode (m_byt 49) 29 = .ok (.iaload, 1)) h4 h2 h3 ?_
  refine g_iast (by decide +kernel : decode (m_byt 49) 30 = .ok (.iastore, 1)) h4 h5 h6 ?_
  show m_run Z (49, 31, [(2, ((r0 : Nat) : Int)), (0, x1), (0, x2)], [], (K, (m_up2 σ (q_rf K r0 0) (w32 x2).toNat (σ (q_rf K r0 0) (w32 (x2 - 1)).toNat)), n, e, s)) = _
  refine g_iinc (k := 2) (x := x2) (by decide +kernel : decode (m_byt 49) 31 = .ok (.iinc 2 (-1), 3)) rfl (Nat.le_of_ble_eq_true rfl) ?_
  show m_run Z (49, 34, [(2, ((r0 : Nat) : Int)), (0, x1), (0, x2 + (-1))], [], (K, (m_up2 σ (q_rf K r0 0) (w32 x2).toNat (σ (q_rf K r0 0) (w32 (x2 - 1)).toNat)), n, e, s)) = _
  refine g_jmp (t := 8) (by decide +kernel : decode (m_byt 49) 34 = .ok (.goto (-26), 3)) (by decide) ?_
  rfl
theorem b_49_37 {Z : mZ} {l0 l1 l2 : mV} {h : mH} : m_run Z (49, 37, [l0, l1, l2], [], h) = some (.inl (9, 0), h) := by
  exact g_vret (by decide +kernel : decode (m_byt 49) 37 = .ok (.return_, 1)) (by decide +kernel)
theorem e_50 {Z : mZ} {r0 : Nat} {x1 : Int} {h : mH} : m_cl Z 50 [(2, ((r0 : Nat) : Int)), (0, x1)] h = m_run Z (50, 0, [(2, ((r0 : Nat) : Int)), (0, x1), (9, 0)], [], h) := g_ent (k := 3) (by decide) (by decide +kernel) (Nat.le_of_ble_eq_true rfl) (by decide +kernel) rfl
theorem b_50_0 {Z : mZ} {l0 l2 : mV} {x1 : Int} {h : mH} : m_run Z (50, 0, [l0, (0, x1), l2], [], h) = m_run Z (50, 2, [l0, (0, x1), (0, x1)], [], h) := by
  refine g_iload_n (k := 1) (x := x1) (by decide +kernel : decode (m_byt 50) 0 = .ok (.iload_n 1, 1)) rfl ?_
  refine g_istore_n (k := 2) (by decide +kernel : decode (m_byt 50) 1 = .ok (.istore_n 2, 1)) (Nat.le_of_ble_eq_true rfl) ?_
  show m_run Z (50, 2, [l0, (0, x1), (0, x1)], [], h) = _
  rfl
theorem b_50_2 {Z : mZ} {l0 l1 : mV} {x2 : Int} {h : mH} : m_run Z (50, 2, [l0, l1, (0, x2)], [], h) = if w32 x2 < 0 then m_run Z (50, 37, [l0, l1, (0, x2)], [], h) else m_run Z (50, 6, [l0, l1, (0, x2)], [], h) := by
  refine g_iload_n (k := 2) (x := x2) (by decide +kernel : decode (m_byt 50) 2 = .ok (.iload_n 2, 1)) rfl ?_
  exact g_brq (t := 37) (off := 34) (by decide +kernel : decode (m_byt 50) 3 = .ok (.ifCond .lt 34, 3)) rfl rfl (by decide)
theorem b_50_6 {Z : mZ} {l1 : mV} {x2 : Int} {r0 : Nat} {K : Nat → mK} {σ : Nat → Nat → Int} {n e s : Nat} (h0 : q_ob K n r0 3) (h1 : q_rp K r0 0) (h2 : q_al K n (q_rf K r0 0)) : m_run Z (50, 6, [(2, ((r0 : Nat) : Int)), l1, (0, x2)], [], (K, σ, n, e, s)) = if w32 ((q_ln K (q_rf K r0 0) : Int) - 1) ≤ w32 x2 then m_run Z (50, 37, [(2, ((r0 : Nat) : Int)), l1, (0, x2)], [], (K, σ, n, e, s)) else m_run Z (50, 17, [(2, ((r0 : Nat) : Int)), l1, (0, x2)], [], (K, σ, n, e, s)) := by
  refine g_iload_n (k := 2) (x := x2) (by decide +kernel : decode (m_byt 50) 6 = .ok (.iload_n 2, 1)) rfl ?_
  refine g_aload_n (k := 0) (v := (2, ((r0 : Nat) : Int))) (by decide +kernel : decode (m_byt 50) 7 = .ok (.aload_n 0, 1)) rfl (Or.inl rfl) ?_
  refine g_getr (ci := 3) (f := 0) (by decide +kernel : decode (m_byt 50) 8 = .ok (.getfield 7, 3)) (by decide +kernel) (by decide +kernel) (by decide +kernel) h0 h1 ?_
  refine g_alen (by decide +kernel : decode (m_byt 50) 11 = .ok (.arraylength, 1)) h2 ?_
  refine g_base (by decide +kernel : decode (m_byt 50) 12 = .ok (.iconst 1, 1)) rfl rfl ?_
  show m_run Z (50, 13, [(2, ((r0 : Nat) : Int)), l1, (0, x2)], [(0, 1), (0, (q_ln K (q_rf K r0 0) : Int)), (0, x2)], (K, σ, n, e, s)) = _
  refine g_base (by decide +kernel : decode (m_byt 50) 13 = .ok (.isub, 1)) rfl rfl ?_
  show m_run Z (50, 14, [(2, ((r0 : Nat) : Int)), l1, (0, x2)], [(0, ((q_ln K (q_rf K r0 0) : Int) - 1)), (0, x2)], (K, σ, n, e, s)) = _
  exact g_brq (t := 37) (off := 23) (by decide +kernel : decode (m_byt 50) 14 = .ok (.if_icmp .ge 23, 3)) rfl rfl (by decide)
theorem b_50_17 {Z : mZ} {x2 x1 : Int} {r0 : Nat} {K : Nat → mK} {σ : Nat → Nat → Int} {n e s : Nat} (h0 : q_ob K n r0 3) (h1 : q_rp K r0 0) (h2 : 0 ≤ w32 (x2 + 1)) (h3 : w32 (x2 + 1) < (q_ln K (q_rf K r0 0) : Int)) (h4 : q_ak K n (q_rf K r0 0) 2) (h5 : 0 ≤ w32 x2) (h6 : w32 x2 < (q_ln K (q_rf K r0 0) : Int)) : m_run Z (50, 17, [(2, ((r0 : Nat) : Int)), (0, x1), (0, x2)], [], (K, σ, n, e, s)) = m_run Z (50, 2, [(2, ((r0 : Nat) : Int)), (0, x1), (0, x2 + 1)], [], (K, (m_up2 σ (q_rf K r0 0) (w32 x2).toNat (σ (q_rf K r0 0) (w32 (x2 + 1)).toNat)), n, e, s)) := by
  refine g_aload_n (k := 0) (v := (2, ((r0 : Nat) : Int))) (by decide +kernel : decode (m_byt 50) 17 = .ok (.aload_n 0, 1)) rfl (Or.inl rfl) ?_
  refine g_getr (ci := 3) (f := 0) (by decide +kernel : decode (m_byt 50) 18 = .ok (.getfield 7, 3)) (by decide +kernel) (by decide +kernel) (by decide +kernel) h0 h1 ?_
  refine g_iload_n (k := 2) (x := x2) (by decide +kernel : decode (m_byt 50) 21 = .ok (.iload_n 2, 1)) rfl ?_
  refine g_aload_n (k := 0) (v := (2, ((r0 : Nat) : Int))) (by decide +kernel : decode (m_byt 50) 22 = .ok (.aload_n 0, 1)) rfl (Or.inl rfl) ?_
  refine g_getr (ci := 3) (f := 0) (by decide +kernel : decode (m_byt 50) 23 = .ok (.getfield 7, 3)) (by decide +kernel) (by decide +kernel) (by decide +kernel) h0 h1 ?_
  refine g_iload_n (k := 2) (x := x2) (by decide +kernel : decode (m_byt 50) 26 = .ok (.iload_n 2, 1)) rfl ?_
  refine g_base (by decide +kernel : decode (m_byt 50) 27 = .ok (.iconst 1, 1)) rfl rfl ?_
  show m_run Z (50, 28, [(2, ((r0 : Nat) : Int)), (0, x1), (0, x2)], [(0, 1), (0, x2), (2, ((q_rf K r0 0 : Nat) : Int)), (0, x2), (2, ((q_rf K r0 0 : Nat) : Int))], (K, σ, n, e, s)) = _
  refine g_base (by decide +kernel : decode (m_byt 50) 28 = .ok (.iadd, 1)) rfl rfl ?_
  show m_run Z (50, 29, [(2, ((r0 : Nat) : Int)), (0, x1), (0, x2)], [(0, (x2 + 1)), (2, ((q_rf K r0 0 : Nat) : Int)), (0, x2), (2, ((q_rf K r0 0 : Nat) : Int))], (K, σ, n, e, s)) = _
  refine g_iald (by decide +kernel : decode (m_byt 50) 29 = .ok (.iaload, 1)) h4 h2 h3 ?_
  refine g_iast (by decide +kernel : decode (m_byt 50) 30 = .ok (.iastore, 1)) h4 h5 h6 ?_
  show m_run Z (50, 31, [(2, ((r0 : Nat) : Int)), (0, x1), (0, x2)], [], (K, (m_up2 σ (q_rf K r0 0) (w32 x2).toNat (σ (q_rf K r0 0) (w32 (x2 + 1)).toNat)), n, e, s)) = _
  refine g_iinc (k := 2) (x := x2) (by decide +kernel : decode (m_byt 50) 31 = .ok (.iinc 2 1, 3)) rfl (Nat.le_of_ble_eq_true rfl) ?_
  show m_run Z (50, 34, [(2, ((r0 : Nat) : Int)), (0, x1), (0, x2 + 1)], [], (K, (m_up2 σ (q_rf K r0 0) (w32 x2).toNat (σ (q_rf K r0 0) (w32 (x2 + 1)).toNat)), n, e, s)) = _
  refine g_jmp (t := 2) (by decide +kernel : decode (m_byt 50) 34 = .ok (.goto (-32), 3)) (by decide) ?_
  rfl
theorem b_50_37 {Z : mZ} {l0 l1 l2 : mV} {h : mH} : m_run Z (50, 37, [l0, l1, l2], [], h) = some (.inl (9, 0), h) := by
  exact g_vret (by decide +kernel : decode (m_byt 50) 37 = .ok (.return_, 1)) (by decide +kernel)
end
